/-! measure, settle, close; shut -/
section JSH
variable {d L t o : Nat} {μ : jMem} {Q : jQ} {T : jT}
theorem meas_mid (ho : jTO o) (hW : jWd L t μ) (hK : jTok T) (q0 : gI μ o 0 = nI (tP T)) (hl : ∀ p s, p < tP T → s < 5 → jLd T o μ p s) (h : ∀ ν, jFr [o + 10] μ ν → jDs T o ν (tDi T) → Q none ν) : ∀ (n a : Nat) (ν : jMem) (R : Nat → Nat → Nat) (z2 : Option Value), a + n = tP T → jFr [o + 10] μ ν → jDs T o ν R → fP T R a 0 → jR (d + 3) 94 39 [some (.ref o), some (.int (nI a)), z2, none, none] [] (0, 0) ν Q := by
  have h8 := hK.1.1
  intro n
  induction n with
  | zero =>
    intro a ν R z2 ha hF hD hP
    obtain rfl : a = tP T := by omega
    have hWν := hF.wd hW
    have s := jWo ho hWν
    have q0' := ((hF.1 o (by simp)).1 0).trans q0
    have hI : fWI T R 0 := ⟨hP.1, hP.2.1, fun x s hx hs => hP.2.2 x s hx hs (Or.inl hx), fun c hc => absurd hc (Nat.not_lt_zero _)⟩
    have k2 := fw_all (d := d) (Q := Q) ho hWν hK q0' hD hI (fun ν2 F2 hD2 => h ν2 (hF.trans F2) hD2) (some (.int (nI (tP T)))) z2
    have k3 : jR (d + 3) 94 78 [some (.ref o), some (.int (nI (tP T))), z2, none, none] [] (0, 0) ν Q := by
      have k4 := fun z1 => fw_all (d := d) (Q := Q) ho hWν hK q0' hD hI (fun ν2 F2 hD2 => h ν2 (hF.trans F2) hD2) z2 z1
      exact fw_all (d := d) (Q := Q) ho hWν hK q0' hD hI (fun ν2 F2 hD2 => h ν2 (hF.trans F2) hD2) z2 none
    refine b94_39 ?_
    repeat' (first | refine b94_2 ?_ | refine b94_28 ?_ | refine b94_30 ?_ | refine b94_37 ?_ | refine b94_72 ?_ | refine b94_80 ?_ | refine b94_90 ?_ | refine b94_108 ?_ | refine b94_145 ?_ | refine b94_151 ?_ | refine b94_157 ?_ | dsimp only [jb_e0, jb_ec, jb_n, jb_c, jx_op, j1i_c, j2i_c, j1l_c, j2l_c, jil_c, j1r_c, jri_c, jrii_c, jril_c, jrl_c, jrr_c, j2i'_c, jdup_i, jdup_r, jdup2_c, jdup2_l, jpo_c, jli, jll, jlr, jat_0, jat_s, jst, jst2, jkill_i, jkill_r, jkill_l, jkill_n, jnone, jgv_0, jgv_1, jgv_2, jgv_3, jrv_s, jput_0, jput_1, jput_2, jput_3, jpop_0, jpop_1, jcl_s, jc1, jc2, jvi, Nat.reduceAdd, jol_i, jol_l, jol_n, jap_n, jap_c, List.map_cons, List.map_nil, List.sum_cons, List.sum_nil, jcI, jcL, jcR, gI_sI, gI_sL, gI_sR, gL_sI, gL_sL, gL_sR, gR_sI, gR_sL, gR_sR, gS_sI, gS_sL, gS_sR, gN_sI, gN_sL, gN_sR] | simp (disch := omega) only [Nat.zero_le, true_and, and_true, and_self, Nat.reduceLeDiff, true_or, or_true, false_or, or_false, Nat.reduceEqDiff, false_and, and_false, if_false, if_true, reduceIte, not_true_eq_false, not_false_eq_true, true_imp_iff, false_imp_iff, List.map_cons, List.map_nil, List.sum_cons, List.sum_nil, jcI, jcL, jcR, Nat.reduceAdd, jrv_s, j1r_c, jap_n, jap_c, gI_sI, gL_sL, gI_sL, gL_sI, an_lt, an_le, an_eq, an_lt0, an_0le, an_0lt, an_le0, an_eq0, an_eq1, an_1lt, an_le1, an_1le, an_lt1, an_eqm, an_sub, an_sub1, an_div, an_rem, an_in, an_in0, an_in1, an_cl, an_cl0, an_cl1, nI_add, nI_1, an_1a, pk_mul, Nat.reduceMul, jz10, jz01, j00, j11, jb0, Classical.not_not, eq_self, an_ite, an_of, an_nm, nI_l, lN_add, lN_mul, lN_i, lj_2, lj_3, lj_4, lj_5, lj_6, lj_7, lj_8, lj_9, lj_10, lj_11, lj_12, lj_13, lj_14, lj_15, lj_16, lj_17, lj_18, lj_19, lj_20, lj_21, lj_22, lj_23, lj_24, lj_25, lj_26, lj_27, lj_28, lj_29, lj_30, lj_31, lj_32, lj_33, lj_34, lj_35, lj_36, lj_37, lj_38, lj_39, lj_40, lj_48, lj_50, lj_57, lj_59, lj_60, lj_63, lj_64, lj_65, lj_90, lj_96, lj_97, lj_99, lj_100, lj_101, lj_105, lj_112, lj_114, lj_116, lj_119, lj_122, lj_128, lj_200, lj_255, lj_256, lj_500, lj_777, lj_1000, hWν.1, s.1, s.2, q0'] | (refine br_c (fun _ => ?_) (fun _ => ?_) <;> try (exfalso; omega)) | (refine br_d (fun _ => ?_) (fun _ => ?_) <;> try (exfalso; omega)) | refine And.intro ?_ ?_ | (refine Nat.ne_of_gt ?_; omega))
    all_goals exact k3
  | succ n ih =>
    intro a ν R z2 ha hF hD hP
    have haP : a < tP T := by omega
    have hWν := hF.wd hW
    have s := jWo ho hWν
    have q0' := ((hF.1 o (by simp)).1 0).trans q0
    have k2 := meas_in (d := d) (Q := Q) ho hWν hK q0' haP (fun s hs => ((hF.1 (o + 9) (by simp)).1 _).trans (hl a s haP hs)) (fun ν2 R2 F2 hD2 hP2 => by
      have hW2 := F2.wd hWν
      have k3 := ih (a + 1) ν2 R2 (some (.int (nI 4))) (by omega) (hF.trans F2) hD2 (fP_row hP2)
      refine b94_72 ?_
      repeat' (first | refine b94_2 ?_ | refine b94_28 ?_ | refine b94_30 ?_ | refine b94_37 ?_ | refine b94_78 ?_ | refine b94_80 ?_ | refine b94_90 ?_ | refine b94_108 ?_ | refine b94_145 ?_ | refine b94_151 ?_ | refine b94_157 ?_ | dsimp only [jb_e0, jb_ec, jb_n, jb_c, jx_op, j1i_c, j2i_c, j1l_c, j2l_c, jil_c, j1r_c, jri_c, jrii_c, jril_c, jrl_c, jrr_c, j2i'_c, jdup_i, jdup_r, jdup2_c, jdup2_l, jpo_c, jli, jll, jlr, jat_0, jat_s, jst, jst2, jkill_i, jkill_r, jkill_l, jkill_n, jnone, jgv_0, jgv_1, jgv_2, jgv_3, jrv_s, jput_0, jput_1, jput_2, jput_3, jpop_0, jpop_1, jcl_s, jc1, jc2, jvi, Nat.reduceAdd, jol_i, jol_l, jol_n, jap_n, jap_c, List.map_cons, List.map_nil, List.sum_cons, List.sum_nil, jcI, jcL, jcR, gI_sI, gI_sL, gI_sR, gL_sI, gL_sL, gL_sR, gR_sI, gR_sL, gR_sR, gS_sI, gS_sL, gS_sR, gN_sI, gN_sL, gN_sR] | simp (disch := omega) only [Nat.zero_le, true_and, and_true, and_self, Nat.reduceLeDiff, true_or, or_true, false_or, or_false, Nat.reduceEqDiff, false_and, and_false, if_false, if_true, reduceIte, not_true_eq_false, not_false_eq_true, true_imp_iff, false_imp_iff, List.map_cons, List.map_nil, List.sum_cons, List.sum_nil, jcI, jcL, jcR, Nat.reduceAdd, jrv_s, j1r_c, jap_n, jap_c, gI_sI, gL_sL, gI_sL, gL_sI, an_lt, an_le, an_eq, an_lt0, an_0le, an_0lt, an_le0, an_eq0, an_eq1, an_1lt, an_le1, an_1le, an_lt1, an_eqm, an_sub, an_sub1, an_div, an_rem, an_in, an_in0, an_in1, an_cl, an_cl0, an_cl1, nI_add, nI_1, an_1a, pk_mul, Nat.reduceMul, jz10, jz01, j00, j11, jb0, Classical.not_not, eq_self, an_ite, an_of, an_nm, nI_l, lN_add, lN_mul, lN_i, lj_2, lj_3, lj_4, lj_5, lj_6, lj_7, lj_8, lj_9, lj_10, lj_11, lj_12, lj_13, lj_14, lj_15, lj_16, lj_17, lj_18, lj_19, lj_20, lj_21, lj_22, lj_23, lj_24, lj_25, lj_26, lj_27, lj_28, lj_29, lj_30, lj_31, lj_32, lj_33, lj_34, lj_35, lj_36, lj_37, lj_38, lj_39, lj_40, lj_48, lj_50, lj_57, lj_59, lj_60, lj_63, lj_64, lj_65, lj_90, lj_96, lj_97, lj_99, lj_100, lj_101, lj_105, lj_112, lj_114, lj_116, lj_119, lj_122, lj_128, lj_200, lj_255, lj_256, lj_500, lj_777, lj_1000, hW2.1] | (refine br_c (fun _ => ?_) (fun _ => ?_) <;> try (exfalso; omega)) | (refine br_d (fun _ => ?_) (fun _ => ?_) <;> try (exfalso; omega)) | refine And.intro ?_ ?_ | (refine Nat.ne_of_gt ?_; omega))
      all_goals exact k3) 4 0 ν R (by omega) jFr.rf hD hP
    refine b94_39 ?_
    repeat' (first | refine b94_2 ?_ | refine b94_28 ?_ | refine b94_30 ?_ | refine b94_37 ?_ | refine b94_72 ?_ | refine b94_80 ?_ | refine b94_90 ?_ | refine b94_108 ?_ | refine b94_145 ?_ | refine b94_151 ?_ | refine b94_157 ?_ | dsimp only [jb_e0, jb_ec, jb_n, jb_c, jx_op, j1i_c, j2i_c, j1l_c, j2l_c, jil_c, j1r_c, jri_c, jrii_c, jril_c, jrl_c, jrr_c, j2i'_c, jdup_i, jdup_r, jdup2_c, jdup2_l, jpo_c, jli, jll, jlr, jat_0, jat_s, jst, jst2, jkill_i, jkill_r, jkill_l, jkill_n, jnone, jgv_0, jgv_1, jgv_2, jgv_3, jrv_s, jput_0, jput_1, jput_2, jput_3, jpop_0, jpop_1, jcl_s, jc1, jc2, jvi, Nat.reduceAdd, jol_i, jol_l, jol_n, jap_n, jap_c, List.map_cons, List.map_nil, List.sum_cons, List.sum_nil, jcI, jcL, jcR, gI_sI, gI_sL, gI_sR, gL_sI, gL_sL, gL_sR, gR_sI, gR_sL, gR_sR, gS_sI, gS_sL, gS_sR, gN_sI, gN_sL, gN_sR] | simp (disch := omega) only [Nat.zero_le, true_and, and_true, and_self, Nat.reduceLeDiff, true_or, or_true, false_or, or_false, Nat.reduceEqDiff, false_and, and_false, if_false, if_true, reduceIte, not_true_eq_false, not_false_eq_true, true_imp_iff, false_imp_iff, List.map_cons, List.map_nil, List.sum_cons, List.sum_nil, jcI, jcL, jcR, Nat.reduceAdd, jrv_s, j1r_c, jap_n, jap_c, gI_sI, gL_sL, gI_sL, gL_sI, an_lt, an_le, an_eq, an_lt0, an_0le, an_0lt, an_le0, an_eq0, an_eq1, an_1lt, an_le1, an_1le, an_lt1, an_eqm, an_sub, an_sub1, an_div, an_rem, an_in, an_in0, an_in1, an_cl, an_cl0, an_cl1, nI_add, nI_1, an_1a, pk_mul, Nat.reduceMul, jz10, jz01, j00, j11, jb0, Classical.not_not, eq_self, an_ite, an_of, an_nm, nI_l, lN_add, lN_mul, lN_i, lj_2, lj_3, lj_4, lj_5, lj_6, lj_7, lj_8, lj_9, lj_10, lj_11, lj_12, lj_13, lj_14, lj_15, lj_16, lj_17, lj_18, lj_19, lj_20, lj_21, lj_22, lj_23, lj_24, lj_25, lj_26, lj_27, lj_28, lj_29, lj_30, lj_31, lj_32, lj_33, lj_34, lj_35, lj_36, lj_37, lj_38, lj_39, lj_40, lj_48, lj_50, lj_57, lj_59, lj_60, lj_63, lj_64, lj_65, lj_90, lj_96, lj_97, lj_99, lj_100, lj_101, lj_105, lj_112, lj_114, lj_116, lj_119, lj_122, lj_128, lj_200, lj_255, lj_256, lj_500, lj_777, lj_1000, hWν.1, s.1, s.2, q0'] | (refine br_c (fun _ => ?_) (fun _ => ?_) <;> try (exfalso; omega)) | (refine br_d (fun _ => ?_) (fun _ => ?_) <;> try (exfalso; omega)) | refine And.intro ?_ ?_ | (refine Nat.ne_of_gt ?_; omega))
    all_goals exact k2
theorem sq_measure (ho : jTO o) (hW : jWd L t μ) (hK : jTok T) (q0 : gI μ o 0 = nI (tP T)) (hl : ∀ p s, p < tP T → s < 5 → jLd T o μ p s) (h : ∀ ν, jFr [o + 10] μ ν → jDs T o ν (tDi T) → Q none ν) : jC (d + 3) 94 [.ref o] μ Q := by
  have h8 := hK.1.1
  have key : ∀ (n k : Nat) (ν : jMem), k + n = 64 → jFr [o + 10] μ ν → (∀ j, j < k → gI ν (o + 10) j = nI (if j / 8 = j % 8 then 0 else 100)) → jR (d + 3) 94 2 [some (.ref o), some (.int (nI k)), none, none, none] [] (0, 0) ν Q := by
    intro n
    induction n with
    | zero =>
      intro k ν hk hF hv
      obtain rfl : k = 64 := by omega
      have hWν := hF.wd hW
      have s := jWo ho hWν
      have q0' := ((hF.1 o (by simp)).1 0).trans q0
      have k2 := meas_mid (d := d) (Q := Q) ho hW hK q0 hl h (tP T) 0 ν (fun x y => if x = y then 0 else 100) none (by omega) hF (fun x y hx hy => by
        rw [hv (8 * x + y) (by omega)]
        show nI (if (8 * x + y) / 8 = (8 * x + y) % 8 then 0 else 100) = nI (if x = y then 0 else 100)
        rw [show (8 * x + y) / 8 = x by omega, show (8 * x + y) % 8 = y by omega]) ⟨fun x hx => if_pos rfl, fun x y hx hy => by
        show (if x = y then 0 else 100) ≤ 100 ∧ ((if x = y then 0 else 100) = 100 ∨ _)
        by_cases e : x = y
        · rw [if_pos e]
          refine ⟨by omega, Or.inr ⟨by show (if x = y then 0 else 100) < 100; rw [if_pos e]; omega, ?_⟩⟩
          show tR T (if x = y then 0 else 100) x y = true
          rw [if_pos e]
          exact tR_0.mpr e
        · rw [if_neg e]
          exact ⟨by omega, Or.inl rfl⟩, fun x s hx hs hxs => by
        obtain rfl : s = 0 := by omega
        show (if x = tA T x 0 then 0 else 100) ≤ 1
        rw [tA_0, if_pos rfl]
        omega⟩
      refine b94_2 ?_
      repeat' (first | refine b94_28 ?_ | refine b94_30 ?_ | refine b94_37 ?_ | refine b94_49 ?_ | refine b94_72 ?_ | refine b94_78 ?_ | refine b94_80 ?_ | refine b94_90 ?_ | refine b94_108 ?_ | refine b94_145 ?_ | refine b94_151 ?_ | refine b94_157 ?_ | dsimp only [jb_e0, jb_ec, jb_n, jb_c, jx_op, j1i_c, j2i_c, j1l_c, j2l_c, jil_c, j1r_c, jri_c, jrii_c, jril_c, jrl_c, jrr_c, j2i'_c, jdup_i, jdup_r, jdup2_c, jdup2_l, jpo_c, jli, jll, jlr, jat_0, jat_s, jst, jst2, jkill_i, jkill_r, jkill_l, jkill_n, jnone, jgv_0, jgv_1, jgv_2, jgv_3, jrv_s, jput_0, jput_1, jput_2, jput_3, jpop_0, jpop_1, jcl_s, jc1, jc2, jvi, Nat.reduceAdd, jol_i, jol_l, jol_n, jap_n, jap_c, List.map_cons, List.map_nil, List.sum_cons, List.sum_nil, jcI, jcL, jcR, gI_sI, gI_sL, gI_sR, gL_sI, gL_sL, gL_sR, gR_sI, gR_sL, gR_sR, gS_sI, gS_sL, gS_sR, gN_sI, gN_sL, gN_sR] | simp (disch := omega) only [Nat.zero_le, true_and, and_true, and_self, Nat.reduceLeDiff, true_or, or_true, false_or, or_false, Nat.reduceEqDiff, false_and, and_false, if_false, if_true, reduceIte, not_true_eq_false, not_false_eq_true, true_imp_iff, false_imp_iff, List.map_cons, List.map_nil, List.sum_cons, List.sum_nil, jcI, jcL, jcR, Nat.reduceAdd, jrv_s, j1r_c, jap_n, jap_c, gI_sI, gL_sL, gI_sL, gL_sI, an_lt, an_le, an_eq, an_lt0, an_0le, an_0lt, an_le0, an_eq0, an_eq1, an_1lt, an_le1, an_1le, an_lt1, an_eqm, an_sub, an_sub1, an_div, an_rem, an_in, an_in0, an_in1, an_cl, an_cl0, an_cl1, nI_add, nI_1, an_1a, pk_mul, Nat.reduceMul, jz10, jz01, j00, j11, jb0, Classical.not_not, eq_self, an_ite, an_of, an_nm, nI_l, lN_add, lN_mul, lN_i, lj_2, lj_3, lj_4, lj_5, lj_6, lj_7, lj_8, lj_9, lj_10, lj_11, lj_12, lj_13, lj_14, lj_15, lj_16, lj_17, lj_18, lj_19, lj_20, lj_21, lj_22, lj_23, lj_24, lj_25, lj_26, lj_27, lj_28, lj_29, lj_30, lj_31, lj_32, lj_33, lj_34, lj_35, lj_36, lj_37, lj_38, lj_39, lj_40, lj_48, lj_50, lj_57, lj_59, lj_60, lj_63, lj_64, lj_65, lj_90, lj_96, lj_97, lj_99, lj_100, lj_101, lj_105, lj_112, lj_114, lj_116, lj_119, lj_122, lj_128, lj_200, lj_255, lj_256, lj_500, lj_777, lj_1000, hWν.1, s.1, s.2] | (refine br_c (fun _ => ?_) (fun _ => ?_) <;> try (exfalso; omega)) | (refine br_d (fun _ => ?_) (fun _ => ?_) <;> try (exfalso; omega)) | refine And.intro ?_ ?_ | (refine Nat.ne_of_gt ?_; omega))
      all_goals exact k2
    | succ n ih =>
      intro k ν hk hF hv
      have hWν := hF.wd hW
      have s := jWo ho hWν
      by_cases c : k / 8 = k % 8
      · have k2 := ih (k + 1) (sI ν (o + 10) k 0) (by omega) (hF.trans (jFr.sI (by simp))) (fun j hj => by
          rw [gI_sI]
          by_cases e : j = k
          · subst e
            rw [if_pos ⟨rfl, rfl⟩, if_pos c]
            rfl
          · rw [if_neg (fun z => e z.2)]
            exact hv j (by omega))
        refine b94_2 ?_
        repeat' (first | refine b94_28 ?_ | refine b94_30 ?_ | refine b94_37 ?_ | refine b94_49 ?_ | refine b94_72 ?_ | refine b94_78 ?_ | refine b94_80 ?_ | refine b94_90 ?_ | refine b94_108 ?_ | refine b94_145 ?_ | refine b94_151 ?_ | refine b94_157 ?_ | dsimp only [jb_e0, jb_ec, jb_n, jb_c, jx_op, j1i_c, j2i_c, j1l_c, j2l_c, jil_c, j1r_c, jri_c, jrii_c, jril_c, jrl_c, jrr_c, j2i'_c, jdup_i, jdup_r, jdup2_c, jdup2_l, jpo_c, jli, jll, jlr, jat_0, jat_s, jst, jst2, jkill_i, jkill_r, jkill_l, jkill_n, jnone, jgv_0, jgv_1, jgv_2, jgv_3, jrv_s, jput_0, jput_1, jput_2, jput_3, jpop_0, jpop_1, jcl_s, jc1, jc2, jvi, Nat.reduceAdd, jol_i, jol_l, jol_n, jap_n, jap_c, List.map_cons, List.map_nil, List.sum_cons, List.sum_nil, jcI, jcL, jcR, gI_sI, gI_sL, gI_sR, gL_sI, gL_sL, gL_sR, gR_sI, gR_sL, gR_sR, gS_sI, gS_sL, gS_sR, gN_sI, gN_sL, gN_sR] | simp (disch := omega) only [Nat.zero_le, true_and, and_true, and_self, Nat.reduceLeDiff, true_or, or_true, false_or, or_false, Nat.reduceEqDiff, false_and, and_false, if_false, if_true, reduceIte, not_true_eq_false, not_false_eq_true, true_imp_iff, false_imp_iff, List.map_cons, List.map_nil, List.sum_cons, List.sum_nil, jcI, jcL, jcR, Nat.reduceAdd, jrv_s, j1r_c, jap_n, jap_c, gI_sI, gL_sL, gI_sL, gL_sI, an_lt, an_le, an_eq, an_lt0, an_0le, an_0lt, an_le0, an_eq0, an_eq1, an_1lt, an_le1, an_1le, an_lt1, an_eqm, an_sub, an_sub1, an_div, an_rem, an_in, an_in0, an_in1, an_cl, an_cl0, an_cl1, nI_add, nI_1, an_1a, pk_mul, Nat.reduceMul, jz10, jz01, j00, j11, jb0, Classical.not_not, eq_self, an_ite, an_of, an_nm, nI_l, lN_add, lN_mul, lN_i, lj_2, lj_3, lj_4, lj_5, lj_6, lj_7, lj_8, lj_9, lj_10, lj_11, lj_12, lj_13, lj_14, lj_15, lj_16, lj_17, lj_18, lj_19, lj_20, lj_21, lj_22, lj_23, lj_24, lj_25, lj_26, lj_27, lj_28, lj_29, lj_30, lj_31, lj_32, lj_33, lj_34, lj_35, lj_36, lj_37, lj_38, lj_39, lj_40, lj_48, lj_50, lj_57, lj_59, lj_60, lj_63, lj_64, lj_65, lj_90, lj_96, lj_97, lj_99, lj_100, lj_101, lj_105, lj_112, lj_114, lj_116, lj_119, lj_122, lj_128, lj_200, lj_255, lj_256, lj_500, lj_777, lj_1000, hWν.1, s.1, s.2] | (refine br_c (fun _ => ?_) (fun _ => ?_) <;> try (exfalso; omega)) | (refine br_d (fun _ => ?_) (fun _ => ?_) <;> try (exfalso; omega)) | refine And.intro ?_ ?_ | (refine Nat.ne_of_gt ?_; omega))
        all_goals exact k2
      · have k2 := ih (k + 1) (sI ν (o + 10) k (nI 100)) (by omega) (hF.trans (jFr.sI (by simp))) (fun j hj => by
          rw [gI_sI]
          by_cases e : j = k
          · subst e
            rw [if_pos ⟨rfl, rfl⟩, if_neg c]
          · rw [if_neg (fun z => e z.2)]
            exact hv j (by omega))
        refine b94_2 ?_
        repeat' (first | refine b94_28 ?_ | refine b94_30 ?_ | refine b94_37 ?_ | refine b94_49 ?_ | refine b94_72 ?_ | refine b94_78 ?_ | refine b94_80 ?_ | refine b94_90 ?_ | refine b94_108 ?_ | refine b94_145 ?_ | refine b94_151 ?_ | refine b94_157 ?_ | dsimp only [jb_e0, jb_ec, jb_n, jb_c, jx_op, j1i_c, j2i_c, j1l_c, j2l_c, jil_c, j1r_c, jri_c, jrii_c, jril_c, jrl_c, jrr_c, j2i'_c, jdup_i, jdup_r, jdup2_c, jdup2_l, jpo_c, jli, jll, jlr, jat_0, jat_s, jst, jst2, jkill_i, jkill_r, jkill_l, jkill_n, jnone, jgv_0, jgv_1, jgv_2, jgv_3, jrv_s, jput_0, jput_1, jput_2, jput_3, jpop_0, jpop_1, jcl_s, jc1, jc2, jvi, Nat.reduceAdd, jol_i, jol_l, jol_n, jap_n, jap_c, List.map_cons, List.map_nil, List.sum_cons, List.sum_nil, jcI, jcL, jcR, gI_sI, gI_sL, gI_sR, gL_sI, gL_sL, gL_sR, gR_sI, gR_sL, gR_sR, gS_sI, gS_sL, gS_sR, gN_sI, gN_sL, gN_sR] | simp (disch := omega) only [Nat.zero_le, true_and, and_true, and_self, Nat.reduceLeDiff, true_or, or_true, false_or, or_false, Nat.reduceEqDiff, false_and, and_false, if_false, if_true, reduceIte, not_true_eq_false, not_false_eq_true, true_imp_iff, false_imp_iff, List.map_cons, List.map_nil, List.sum_cons, List.sum_nil, jcI, jcL, jcR, Nat.reduceAdd, jrv_s, j1r_c, jap_n, jap_c, gI_sI, gL_sL, gI_sL, gL_sI, an_lt, an_le, an_eq, an_lt0, an_0le, an_0lt, an_le0, an_eq0, an_eq1, an_1lt, an_le1, an_1le, an_lt1, an_eqm, an_sub, an_sub1, an_div, an_rem, an_in, an_in0, an_in1, an_cl, an_cl0, an_cl1, nI_add, nI_1, an_1a, pk_mul, Nat.reduceMul, jz10, jz01, j00, j11, jb0, Classical.not_not, eq_self, an_ite, an_of, an_nm, nI_l, lN_add, lN_mul, lN_i, lj_2, lj_3, lj_4, lj_5, lj_6, lj_7, lj_8, lj_9, lj_10, lj_11, lj_12, lj_13, lj_14, lj_15, lj_16, lj_17, lj_18, lj_19, lj_20, lj_21, lj_22, lj_23, lj_24, lj_25, lj_26, lj_27, lj_28, lj_29, lj_30, lj_31, lj_32, lj_33, lj_34, lj_35, lj_36, lj_37, lj_38, lj_39, lj_40, lj_48, lj_50, lj_57, lj_59, lj_60, lj_63, lj_64, lj_65, lj_90, lj_96, lj_97, lj_99, lj_100, lj_101, lj_105, lj_112, lj_114, lj_116, lj_119, lj_122, lj_128, lj_200, lj_255, lj_256, lj_500, lj_777, lj_1000, hWν.1, s.1, s.2] | (refine br_c (fun _ => ?_) (fun _ => ?_) <;> try (exfalso; omega)) | (refine br_d (fun _ => ?_) (fun _ => ?_) <;> try (exfalso; omega)) | refine And.intro ?_ ?_ | (refine Nat.ne_of_gt ?_; omega))
        all_goals exact k2
  have k2 := key 64 0 μ (by omega) jFr.rf (fun j hj => absurd hj (Nat.not_lt_zero _))
  refine e94 (b94_0 ?_)
  repeat' (first | refine b94_28 ?_ | refine b94_30 ?_ | refine b94_37 ?_ | refine b94_39 ?_ | refine b94_49 ?_ | refine b94_72 ?_ | refine b94_78 ?_ | refine b94_80 ?_ | refine b94_90 ?_ | refine b94_108 ?_ | refine b94_145 ?_ | refine b94_151 ?_ | refine b94_157 ?_ | dsimp only [jb_e0, jb_ec, jb_n, jb_c, jx_op, j1i_c, j2i_c, j1l_c, j2l_c, jil_c, j1r_c, jri_c, jrii_c, jril_c, jrl_c, jrr_c, j2i'_c, jdup_i, jdup_r, jdup2_c, jdup2_l, jpo_c, jli, jll, jlr, jat_0, jat_s, jst, jst2, jkill_i, jkill_r, jkill_l, jkill_n, jnone, jgv_0, jgv_1, jgv_2, jgv_3, jrv_s, jput_0, jput_1, jput_2, jput_3, jpop_0, jpop_1, jcl_s, jc1, jc2, jvi, Nat.reduceAdd, jol_i, jol_l, jol_n, jap_n, jap_c, List.map_cons, List.map_nil, List.sum_cons, List.sum_nil, jcI, jcL, jcR, gI_sI, gI_sL, gI_sR, gL_sI, gL_sL, gL_sR, gR_sI, gR_sL, gR_sR, gS_sI, gS_sL, gS_sR, gN_sI, gN_sL, gN_sR] | simp (disch := omega) only [Nat.zero_le, true_and, and_true, and_self, Nat.reduceLeDiff, true_or, or_true, false_or, or_false, Nat.reduceEqDiff, false_and, and_false, if_false, if_true, reduceIte, not_true_eq_false, not_false_eq_true, true_imp_iff, false_imp_iff, List.map_cons, List.map_nil, List.sum_cons, List.sum_nil, jcI, jcL, jcR, Nat.reduceAdd, jrv_s, j1r_c, jap_n, jap_c, gI_sI, gL_sL, gI_sL, gL_sI, an_lt, an_le, an_eq, an_lt0, an_0le, an_0lt, an_le0, an_eq0, an_eq1, an_1lt, an_le1, an_1le, an_lt1, an_eqm, an_sub, an_sub1, an_div, an_rem, an_in, an_in0, an_in1, an_cl, an_cl0, an_cl1, nI_add, nI_1, an_1a, pk_mul, Nat.reduceMul, jz10, jz01, j00, j11, jb0, Classical.not_not, eq_self, an_ite, an_of, an_nm, nI_l, lN_add, lN_mul, lN_i, lj_2, lj_3, lj_4, lj_5, lj_6, lj_7, lj_8, lj_9, lj_10, lj_11, lj_12, lj_13, lj_14, lj_15, lj_16, lj_17, lj_18, lj_19, lj_20, lj_21, lj_22, lj_23, lj_24, lj_25, lj_26, lj_27, lj_28, lj_29, lj_30, lj_31, lj_32, lj_33, lj_34, lj_35, lj_36, lj_37, lj_38, lj_39, lj_40, lj_48, lj_50, lj_57, lj_59, lj_60, lj_63, lj_64, lj_65, lj_90, lj_96, lj_97, lj_99, lj_100, lj_101, lj_105, lj_112, lj_114, lj_116, lj_119, lj_122, lj_128, lj_200, lj_255, lj_256, lj_500, lj_777, lj_1000] | (refine br_c (fun _ => ?_) (fun _ => ?_) <;> try (exfalso; omega)) | (refine br_d (fun _ => ?_) (fun _ => ?_) <;> try (exfalso; omega)) | refine And.intro ?_ ?_ | (refine Nat.ne_of_gt ?_; omega))
  all_goals exact k2
theorem sq_settle (ho : jTO o) (hW : jWd L t μ) (hK : jTok T) (hY : jTY T o μ) (h : ∀ ν, jFr [o + 9, o + 10] μ ν → jTX T o ν → Q none ν) : jC (d + 4) 93 [.ref o] μ Q := by
  have h8 := hK.1.1
  have key : ∀ (n p : Nat) (ν : jMem) (z2 z3 z4 : Option Value), p + n = tP T → jFr [o + 9] μ ν → (∀ p' s, p' < p → s < 5 → jLd T o ν p' s) → jR (d + 4) 93 2 [some (.ref o), some (.int (nI p)), z2, z3, z4] [] (0, 0) ν Q := by
    intro n
    induction n with
    | zero =>
      intro p ν z2 z3 z4 hp hF hl
      obtain rfl : p = tP T := by omega
      have hWν := hF.wd hW
      have s := jWo ho hWν
      have q0' := ((hF.1 o (by simp)).1 0).trans hY.1.1
      have ms : ∀ (d : Nat) (Q' : jQ), (∀ ξ, jFr [o + 10] ν ξ → jDs T o ξ (tDi T) → Q' none ξ) → jC (d + 3) 94 [.ref o] ν Q' := fun d Q' kk => sq_measure ho hWν hK q0' hl kk
      have k2 : ∀ ξ, jFr [o + 10] ν ξ → jDs T o ξ (tDi T) → Q none ξ := fun ξ G hD => by
        have FG : jFr [o + 9, o + 10] μ ξ := (hF.mono (by simp)).trans (G.mono (by simp))
        have hY2 : jTY T o ξ := jTY_fr (by simp) FG hY
        exact h ξ FG ⟨hY2.1, hY2.2.1, hY2.2.2.1, hY2.2.2.2, fun p s hp hs => ((G.1 (o + 9) (by simp)).1 _).trans (hl p s hp hs), hD⟩
      refine b93_2 ?_
      repeat' (first | refine b93_65 ?_ | refine b93_66 ?_ | refine b93_88 ?_ | refine b93_89 ?_ | refine b93_96 ?_ | refine b93_102 ?_ | refine ms _ _ (fun ξ G hD => ?_) | dsimp only [jb_e0, jb_ec, jb_n, jb_c, jx_op, j1i_c, j2i_c, j1l_c, j2l_c, jil_c, j1r_c, jri_c, jrii_c, jril_c, jrl_c, jrr_c, j2i'_c, jdup_i, jdup_r, jdup2_c, jdup2_l, jpo_c, jli, jll, jlr, jat_0, jat_s, jst, jst2, jkill_i, jkill_r, jkill_l, jkill_n, jnone, jgv_0, jgv_1, jgv_2, jgv_3, jrv_s, jput_0, jput_1, jput_2, jput_3, jpop_0, jpop_1, jcl_s, jc1, jc2, jvi, Nat.reduceAdd, jol_i, jol_l, jol_n, jap_n, jap_c, List.map_cons, List.map_nil, List.sum_cons, List.sum_nil, jcI, jcL, jcR, gI_sI, gI_sL, gI_sR, gL_sI, gL_sL, gL_sR, gR_sI, gR_sL, gR_sR, gS_sI, gS_sL, gS_sR, gN_sI, gN_sL, gN_sR] | simp (disch := omega) only [Nat.zero_le, true_and, and_true, and_self, Nat.reduceLeDiff, true_or, or_true, false_or, or_false, Nat.reduceEqDiff, false_and, and_false, if_false, if_true, reduceIte, not_true_eq_false, not_false_eq_true, true_imp_iff, false_imp_iff, List.map_cons, List.map_nil, List.sum_cons, List.sum_nil, jcI, jcL, jcR, Nat.reduceAdd, jrv_s, j1r_c, jap_n, jap_c, gI_sI, gL_sL, gI_sL, gL_sI, an_lt, an_le, an_eq, an_lt0, an_0le, an_0lt, an_le0, an_eq0, an_eq1, an_1lt, an_le1, an_1le, an_lt1, an_eqm, an_sub, an_sub1, an_div, an_rem, an_in, an_in0, an_in1, an_cl, an_cl0, an_cl1, nI_add, nI_1, an_1a, pk_mul, Nat.reduceMul, jz10, jz01, j00, j11, jb0, Classical.not_not, eq_self, an_ite, an_of, an_nm, nI_l, lN_add, lN_mul, lN_i, lj_2, lj_3, lj_4, lj_5, lj_6, lj_7, lj_8, lj_9, lj_10, lj_11, lj_12, lj_13, lj_14, lj_15, lj_16, lj_17, lj_18, lj_19, lj_20, lj_21, lj_22, lj_23, lj_24, lj_25, lj_26, lj_27, lj_28, lj_29, lj_30, lj_31, lj_32, lj_33, lj_34, lj_35, lj_36, lj_37, lj_38, lj_39, lj_40, lj_48, lj_50, lj_57, lj_59, lj_60, lj_63, lj_64, lj_65, lj_90, lj_96, lj_97, lj_99, lj_100, lj_101, lj_105, lj_112, lj_114, lj_116, lj_119, lj_122, lj_128, lj_200, lj_255, lj_256, lj_500, lj_777, lj_1000, hWν.1, s.1, s.2, q0'] | (refine br_c (fun _ => ?_) (fun _ => ?_) <;> try (exfalso; omega)) | (refine br_d (fun _ => ?_) (fun _ => ?_) <;> try (exfalso; omega)) | refine And.intro ?_ ?_ | (refine Nat.ne_of_gt ?_; omega))
      all_goals exact k2 ξ G hD
    | succ n ih =>
      intro p ν z2 z3 z4 hp hF hl
      have hpP : p < tP T := by omega
      have hWν := hF.wd hW
      have s := jWo ho hWν
      have q0' := ((hF.1 o (by simp)).1 0).trans hY.1.1
      have F1 : jFr [o + 9] ν (sI ν (o + 9) (5 * p) (nI p)) := jFr.sI (by simp)
      have k2 := set_in (d := d + 2) (Q := Q) ho (F1.wd hWν) hK (jTY_fr (by simp) (hF.trans F1) hY) hpP (fun ν2 y3 y4 F2 hl2 hj => by
        have hW2 := F2.wd hWν
        have k3 := ih (p + 1) ν2 (some (.int (nI 4))) y3 y4 (by omega) ((hF.trans F1).trans F2) (fun p' s hp' hs => by
          by_cases e : p' = p
          · subst e
            exact hl2 s hs
          · unfold jLd
            rw [hj (5 * p' + s) (by omega), gI_sI, if_neg (by omega)]
            exact hl p' s (by omega) hs)
        refine b93_96 ?_
        repeat' (first | refine b93_65 ?_ | refine b93_66 ?_ | refine b93_88 ?_ | refine b93_89 ?_ | refine b93_102 ?_ | dsimp only [jb_e0, jb_ec, jb_n, jb_c, jx_op, j1i_c, j2i_c, j1l_c, j2l_c, jil_c, j1r_c, jri_c, jrii_c, jril_c, jrl_c, jrr_c, j2i'_c, jdup_i, jdup_r, jdup2_c, jdup2_l, jpo_c, jli, jll, jlr, jat_0, jat_s, jst, jst2, jkill_i, jkill_r, jkill_l, jkill_n, jnone, jgv_0, jgv_1, jgv_2, jgv_3, jrv_s, jput_0, jput_1, jput_2, jput_3, jpop_0, jpop_1, jcl_s, jc1, jc2, jvi, Nat.reduceAdd, jol_i, jol_l, jol_n, jap_n, jap_c, List.map_cons, List.map_nil, List.sum_cons, List.sum_nil, jcI, jcL, jcR, gI_sI, gI_sL, gI_sR, gL_sI, gL_sL, gL_sR, gR_sI, gR_sL, gR_sR, gS_sI, gS_sL, gS_sR, gN_sI, gN_sL, gN_sR] | simp (disch := omega) only [Nat.zero_le, true_and, and_true, and_self, Nat.reduceLeDiff, true_or, or_true, false_or, or_false, Nat.reduceEqDiff, false_and, and_false, if_false, if_true, reduceIte, not_true_eq_false, not_false_eq_true, true_imp_iff, false_imp_iff, List.map_cons, List.map_nil, List.sum_cons, List.sum_nil, jcI, jcL, jcR, Nat.reduceAdd, jrv_s, j1r_c, jap_n, jap_c, gI_sI, gL_sL, gI_sL, gL_sI, an_lt, an_le, an_eq, an_lt0, an_0le, an_0lt, an_le0, an_eq0, an_eq1, an_1lt, an_le1, an_1le, an_lt1, an_eqm, an_sub, an_sub1, an_div, an_rem, an_in, an_in0, an_in1, an_cl, an_cl0, an_cl1, nI_add, nI_1, an_1a, pk_mul, Nat.reduceMul, jz10, jz01, j00, j11, jb0, Classical.not_not, eq_self, an_ite, an_of, an_nm, nI_l, lN_add, lN_mul, lN_i, lj_2, lj_3, lj_4, lj_5, lj_6, lj_7, lj_8, lj_9, lj_10, lj_11, lj_12, lj_13, lj_14, lj_15, lj_16, lj_17, lj_18, lj_19, lj_20, lj_21, lj_22, lj_23, lj_24, lj_25, lj_26, lj_27, lj_28, lj_29, lj_30, lj_31, lj_32, lj_33, lj_34, lj_35, lj_36, lj_37, lj_38, lj_39, lj_40, lj_48, lj_50, lj_57, lj_59, lj_60, lj_63, lj_64, lj_65, lj_90, lj_96, lj_97, lj_99, lj_100, lj_101, lj_105, lj_112, lj_114, lj_116, lj_119, lj_122, lj_128, lj_200, lj_255, lj_256, lj_500, lj_777, lj_1000, hW2.1] | (refine br_c (fun _ => ?_) (fun _ => ?_) <;> try (exfalso; omega)) | (refine br_d (fun _ => ?_) (fun _ => ?_) <;> try (exfalso; omega)) | refine And.intro ?_ ?_ | (refine Nat.ne_of_gt ?_; omega))
        all_goals exact k3) 4 0 (sI ν (o + 9) (5 * p) (nI p)) z3 z4 (by omega) jFr.rf (fun s hs => by
        obtain rfl : s = 0 := by omega
        unfold jLd
        rw [tA_0, gI_sI, if_pos ⟨rfl, rfl⟩]) (fun j hj => rfl)
      rw [Nat.mul_comm 5 p] at k2
      refine b93_2 ?_
      repeat' (first | refine b93_65 ?_ | refine b93_66 ?_ | refine b93_88 ?_ | refine b93_89 ?_ | refine b93_96 ?_ | refine b93_102 ?_ | dsimp only [jb_e0, jb_ec, jb_n, jb_c, jx_op, j1i_c, j2i_c, j1l_c, j2l_c, jil_c, j1r_c, jri_c, jrii_c, jril_c, jrl_c, jrr_c, j2i'_c, jdup_i, jdup_r, jdup2_c, jdup2_l, jpo_c, jli, jll, jlr, jat_0, jat_s, jst, jst2, jkill_i, jkill_r, jkill_l, jkill_n, jnone, jgv_0, jgv_1, jgv_2, jgv_3, jrv_s, jput_0, jput_1, jput_2, jput_3, jpop_0, jpop_1, jcl_s, jc1, jc2, jvi, Nat.reduceAdd, jol_i, jol_l, jol_n, jap_n, jap_c, List.map_cons, List.map_nil, List.sum_cons, List.sum_nil, jcI, jcL, jcR, gI_sI, gI_sL, gI_sR, gL_sI, gL_sL, gL_sR, gR_sI, gR_sL, gR_sR, gS_sI, gS_sL, gS_sR, gN_sI, gN_sL, gN_sR] | simp (disch := omega) only [Nat.zero_le, true_and, and_true, and_self, Nat.reduceLeDiff, true_or, or_true, false_or, or_false, Nat.reduceEqDiff, false_and, and_false, if_false, if_true, reduceIte, not_true_eq_false, not_false_eq_true, true_imp_iff, false_imp_iff, List.map_cons, List.map_nil, List.sum_cons, List.sum_nil, jcI, jcL, jcR, Nat.reduceAdd, jrv_s, j1r_c, jap_n, jap_c, gI_sI, gL_sL, gI_sL, gL_sI, an_lt, an_le, an_eq, an_lt0, an_0le, an_0lt, an_le0, an_eq0, an_eq1, an_1lt, an_le1, an_1le, an_lt1, an_eqm, an_sub, an_sub1, an_div, an_rem, an_in, an_in0, an_in1, an_cl, an_cl0, an_cl1, nI_add, nI_1, an_1a, pk_mul, Nat.reduceMul, jz10, jz01, j00, j11, jb0, Classical.not_not, eq_self, an_ite, an_of, an_nm, nI_l, lN_add, lN_mul, lN_i, lj_2, lj_3, lj_4, lj_5, lj_6, lj_7, lj_8, lj_9, lj_10, lj_11, lj_12, lj_13, lj_14, lj_15, lj_16, lj_17, lj_18, lj_19, lj_20, lj_21, lj_22, lj_23, lj_24, lj_25, lj_26, lj_27, lj_28, lj_29, lj_30, lj_31, lj_32, lj_33, lj_34, lj_35, lj_36, lj_37, lj_38, lj_39, lj_40, lj_48, lj_50, lj_57, lj_59, lj_60, lj_63, lj_64, lj_65, lj_90, lj_96, lj_97, lj_99, lj_100, lj_101, lj_105, lj_112, lj_114, lj_116, lj_119, lj_122, lj_128, lj_200, lj_255, lj_256, lj_500, lj_777, lj_1000, hWν.1, s.1, s.2, q0'] | (refine br_c (fun _ => ?_) (fun _ => ?_) <;> try (exfalso; omega)) | (refine br_d (fun _ => ?_) (fun _ => ?_) <;> try (exfalso; omega)) | refine And.intro ?_ ?_ | (refine Nat.ne_of_gt ?_; omega))
      all_goals exact k2
  have k2 := key (tP T) 0 μ none none none (by omega) jFr.rf (fun p' s hp' => absurd hp' (Nat.not_lt_zero _))
  refine e93 (b93_0 ?_)
  repeat' (first | refine b93_27 ?_ | refine b93_65 ?_ | refine b93_66 ?_ | refine b93_88 ?_ | refine b93_89 ?_ | refine b93_96 ?_ | refine b93_102 ?_ | dsimp only [jb_e0, jb_ec, jb_n, jb_c, jx_op, j1i_c, j2i_c, j1l_c, j2l_c, jil_c, j1r_c, jri_c, jrii_c, jril_c, jrl_c, jrr_c, j2i'_c, jdup_i, jdup_r, jdup2_c, jdup2_l, jpo_c, jli, jll, jlr, jat_0, jat_s, jst, jst2, jkill_i, jkill_r, jkill_l, jkill_n, jnone, jgv_0, jgv_1, jgv_2, jgv_3, jrv_s, jput_0, jput_1, jput_2, jput_3, jpop_0, jpop_1, jcl_s, jc1, jc2, jvi, Nat.reduceAdd, jol_i, jol_l, jol_n, jap_n, jap_c, List.map_cons, List.map_nil, List.sum_cons, List.sum_nil, jcI, jcL, jcR, gI_sI, gI_sL, gI_sR, gL_sI, gL_sL, gL_sR, gR_sI, gR_sL, gR_sR, gS_sI, gS_sL, gS_sR, gN_sI, gN_sL, gN_sR] | simp (disch := omega) only [Nat.zero_le, true_and, and_true, and_self, Nat.reduceLeDiff, true_or, or_true, false_or, or_false, Nat.reduceEqDiff, false_and, and_false, if_false, if_true, reduceIte, not_true_eq_false, not_false_eq_true, true_imp_iff, false_imp_iff, List.map_cons, List.map_nil, List.sum_cons, List.sum_nil, jcI, jcL, jcR, Nat.reduceAdd, jrv_s, j1r_c, jap_n, jap_c, gI_sI, gL_sL, gI_sL, gL_sI, an_lt, an_le, an_eq, an_lt0, an_0le, an_0lt, an_le0, an_eq0, an_eq1, an_1lt, an_le1, an_1le, an_lt1, an_eqm, an_sub, an_sub1, an_div, an_rem, an_in, an_in0, an_in1, an_cl, an_cl0, an_cl1, nI_add, nI_1, an_1a, pk_mul, Nat.reduceMul, jz10, jz01, j00, j11, jb0, Classical.not_not, eq_self, an_ite, an_of, an_nm, nI_l, lN_add, lN_mul, lN_i, lj_2, lj_3, lj_4, lj_5, lj_6, lj_7, lj_8, lj_9, lj_10, lj_11, lj_12, lj_13, lj_14, lj_15, lj_16, lj_17, lj_18, lj_19, lj_20, lj_21, lj_22, lj_23, lj_24, lj_25, lj_26, lj_27, lj_28, lj_29, lj_30, lj_31, lj_32, lj_33, lj_34, lj_35, lj_36, lj_37, lj_38, lj_39, lj_40, lj_48, lj_50, lj_57, lj_59, lj_60, lj_63, lj_64, lj_65, lj_90, lj_96, lj_97, lj_99, lj_100, lj_101, lj_105, lj_112, lj_114, lj_116, lj_119, lj_122, lj_128, lj_200, lj_255, lj_256, lj_500, lj_777, lj_1000] | (refine br_c (fun _ => ?_) (fun _ => ?_) <;> try (exfalso; omega)) | (refine br_d (fun _ => ?_) (fun _ => ?_) <;> try (exfalso; omega)) | refine And.intro ?_ ?_ | (refine Nat.ne_of_gt ?_; omega))
  all_goals exact k2
/-- the town with a lane shut, or no more -/
def tShut (T : jT) (l m : Nat) : jT := fun a i j => if a = 8 ∧ i = l ∧ j = 0 then m else T a i j
theorem tShut_P {l m : Nat} : tP (tShut T l m) = tP T := rfl
theorem tShut_Sh {l m x : Nat} : tSh (tShut T l m) x = if x = l then m else tSh T x := by
  show (if 8 = 8 ∧ x = l ∧ 0 = 0 then m else T 8 x 0) = _
  by_cases e : x = l
  · rw [if_pos ⟨rfl, e, rfl⟩, if_pos e]
  · rw [if_neg (fun z => e z.2.1), if_neg e]
    rfl
theorem tShut_ok {l m : Nat} (hm : m ≤ 1) (hK : jTok T) : jTok (tShut T l m) := by
  refine ⟨hK.1, hK.2.1, hK.2.2.1, fun x hx => ?_⟩
  have h := hK.2.2.2 x hx
  refine ⟨?_, h.2⟩
  rw [tShut_Sh]
  split
  · exact hm
  · exact h.1
theorem jTY_shut {l m : Nat} (hY : jTY T o μ) : jTY (tShut T l m) o (sI μ (o + 8) l (nI m)) := by
  obtain ⟨⟨a1, a2, a3, a4, a5, a6⟩, b, c, e⟩ := hY
  have q : ∀ a k, a ≠ o + 8 → gI (sI μ (o + 8) l (nI m)) a k = gI μ a k := fun a k ha => by rw [gI_sI, if_neg (fun z => ha z.1)]
  refine ⟨⟨?_, ?_, ?_, ?_, ?_, ?_⟩, fun p hp => ?_, fun p k hp hk => ?_, fun x hx => ?_⟩
  · rw [q _ _ (by omega)]; exact a1
  · rw [q _ _ (by omega)]; exact a2
  · rw [q _ _ (by omega)]; exact a3
  · rw [q _ _ (by omega)]; exact a4
  · rw [q _ _ (by omega)]; exact a5
  · rw [q _ _ (by omega)]; exact a6
  · rw [q _ _ (by omega), q _ _ (by omega), q _ _ (by omega), q _ _ (by omega)]; exact b p hp
  · rw [q _ _ (by omega), q _ _ (by omega)]; exact c p k hp hk
  · rw [gI_sI, tShut_Sh]
    by_cases z : x = l
    · rw [if_pos ⟨rfl, z⟩, if_pos z]
    · rw [if_neg (fun y => z y.2), if_neg z]
      exact e x hx
theorem jTX_Y (h : jTX T o μ) : jTY T o μ := ⟨h.1, h.2.1, h.2.2.1, h.2.2.2.1⟩
theorem sp_close {l m : Nat} (hW : jWd L t μ) (hK : jTok T) (hX : jTX T t μ) (hl : l < tLn T) (hm : m ≤ 1) (h : ∀ ν, jFr [t + 8, t + 9, t + 10] μ ν → jTX (tShut T l m) t ν → Q none ν) : jC (d + 5) 91 [.ref t, .int (nI l), .int (nI m)] μ Q := by
  have ho : jTO t := hW.2.2.2.2.2.2.2.1
  have s := jWo ho hW
  have h12 := hK.1.2.1
  have il : ∀ (d : Nat) (Q' : jQ), Q' (some (.int 1)) μ → jC d 80 [.ref t, .int (nI l)] μ Q' := fun d Q' k => sq_isLane ho hW h12 hX.1.2.1 (by rw [if_pos ⟨nI_pos' (by omega), nI_lt hl (by omega)⟩]; exact k)
  have st : ∀ (d : Nat) (Q' : jQ), (∀ ν, jFr [t + 8, t + 9, t + 10] μ ν → jTX (tShut T l m) t ν → Q' none ν) → jC (d + 4) 93 [.ref t] (sI μ (t + 8) l (nI m)) Q' := fun d Q' kk => sq_settle (t := t) ho hW (tShut_ok hm hK) (jTY_shut (jTX_Y hX)) (fun ν F hX2 => kk ν ((jFr.sI (by simp)).trans (F.mono (by simp))) hX2)
  have hmm : nI m = 0 ∨ nI m = 1 := by
    rcases (show m = 0 ∨ m = 1 by omega) with rfl | rfl
    · exact Or.inl rfl
    · exact Or.inr rfl
  refine e91 (b91_0 ?_)
  repeat' (first | refine b91_19 ?_ | refine il _ _ ?_ | refine st _ _ (fun ν F hX2 => ?_) | dsimp only [jb_e0, jb_ec, jb_n, jb_c, jx_op, j1i_c, j2i_c, j1l_c, j2l_c, jil_c, j1r_c, jri_c, jrii_c, jril_c, jrl_c, jrr_c, j2i'_c, jdup_i, jdup_r, jdup2_c, jdup2_l, jpo_c, jli, jll, jlr, jat_0, jat_s, jst, jst2, jkill_i, jkill_r, jkill_l, jkill_n, jnone, jgv_0, jgv_1, jgv_2, jgv_3, jrv_s, jput_0, jput_1, jput_2, jput_3, jpop_0, jpop_1, jcl_s, jc1, jc2, jvi, Nat.reduceAdd, jol_i, jol_l, jol_n, jap_n, jap_c, List.map_cons, List.map_nil, List.sum_cons, List.sum_nil, jcI, jcL, jcR, gI_sI, gI_sL, gI_sR, gL_sI, gL_sL, gL_sR, gR_sI, gR_sL, gR_sR, gS_sI, gS_sL, gS_sR, gN_sI, gN_sL, gN_sR] | simp (disch := omega) only [Nat.zero_le, true_and, and_true, and_self, Nat.reduceLeDiff, true_or, or_true, false_or, or_false, Nat.reduceEqDiff, false_and, and_false, if_false, if_true, reduceIte, not_true_eq_false, not_false_eq_true, true_imp_iff, false_imp_iff, List.map_cons, List.map_nil, List.sum_cons, List.sum_nil, jcI, jcL, jcR, Nat.reduceAdd, jrv_s, j1r_c, jap_n, jap_c, gI_sI, gL_sL, gI_sL, gL_sI, an_lt, an_le, an_eq, an_lt0, an_0le, an_0lt, an_le0, an_eq0, an_eq1, an_1lt, an_le1, an_1le, an_lt1, an_eqm, an_sub, an_sub1, an_div, an_rem, an_in, an_in0, an_in1, an_cl, an_cl0, an_cl1, nI_add, nI_1, an_1a, pk_mul, Nat.reduceMul, jz10, jz01, j00, j11, jb0, Classical.not_not, eq_self, an_ite, an_of, an_nm, nI_l, lN_add, lN_mul, lN_i, lj_2, lj_3, lj_4, lj_5, lj_6, lj_7, lj_8, lj_9, lj_10, lj_11, lj_12, lj_13, lj_14, lj_15, lj_16, lj_17, lj_18, lj_19, lj_20, lj_21, lj_22, lj_23, lj_24, lj_25, lj_26, lj_27, lj_28, lj_29, lj_30, lj_31, lj_32, lj_33, lj_34, lj_35, lj_36, lj_37, lj_38, lj_39, lj_40, lj_48, lj_50, lj_57, lj_59, lj_60, lj_63, lj_64, lj_65, lj_90, lj_96, lj_97, lj_99, lj_100, lj_101, lj_105, lj_112, lj_114, lj_116, lj_119, lj_122, lj_128, lj_200, lj_255, lj_256, lj_500, lj_777, lj_1000, hW.1, s.1, s.2] | (refine br_c (fun _ => ?_) (fun _ => ?_) <;> try (exfalso; omega)) | (refine br_d (fun _ => ?_) (fun _ => ?_) <;> try (exfalso; omega)) | refine And.intro ?_ ?_ | (refine Nat.ne_of_gt ?_; omega))
  all_goals (first | exact h ν F hX2 | omega | (simp; omega))
end JSH
