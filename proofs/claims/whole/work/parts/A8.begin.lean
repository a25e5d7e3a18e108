/-! agreed, alike: the class's search, whole -/
section JRM
variable {d L t : Nat} {μ : jMem} {Q : jQ} {T : jT} {a b c m n o k last : Nat} {al st : Bool} {r tr : Nat → Nat}
theorem rw0_le (hK : jTok T) {s : Nat} : rw0 T s ≤ 81 := by
  unfold rw0 rl
  split
  · omega
  · split
    · next h => exact tLk_le hK h.1 h.2
    · omega
theorem sp_rbegin (hW : jWd L t μ) (hK : jTok T) (hX : jTX T t μ) (ho : jRO al o) (hn : n ≤ 5)
    (h : ∀ ν, jFr (mvO ++ rwO o) μ ν → lyB T 25 ν → gI ν o 1 = gI μ o 1 → gI ν o 2 = nI (rMx T (tP T)) → gI ν o 3 = nI n → gI ν o 4 = 2147483647 → gI ν o 5 = 2147483647 → gI ν (o + 2) 0 = -1 → gI ν (o + 9) 0 = nI (rAA T r 0) → (∀ pr, pr < 64 → gI ν (o + 4 + 0) pr = nI (rAp T r 0 pr)) → Q none ν) :
    jC (d + 4) 67 [.ref o, .ref t, .int (nI n)] μ Q := by
  have h8 := hK.1.1
  have hm := rMx_4 hK (tP T) (Nat.le_refl _)
  have o100 : 102 ≤ o := by rcases ho with ⟨_, rfl⟩ | ⟨_, rfl⟩ <;> omega
  have w := rwS L ho
  have sA := rwS4 L ho (j := 0) (by omega)
  have n2 := eq_false (show ¬ o + 2 = 0 by omega)
  have n9 := eq_false (show ¬ o + 9 = 0 by omega)
  have n4 := eq_false (show ¬ o + 4 + 0 = 0 by omega)
  have rfm := rwF ho hW
  have mvm : ∀ x ∈ mvO, x ≤ 101 := by decide
  have lay : ∀ (d : Nat) (Q' : jQ), (∀ ν, jFr mvO μ ν → lyB T 25 ν → Q' none ν) → jC (d + 3) 34 [.ref 48, .ref t] μ Q' := fun d Q' kq => sp_layAll hW hK hX kq
  refine e67 (b67_0 ?_)
  repeat' (first | refine b67_85 ?_ | refine b67_93 ?_ | refine b67_117 ?_ | refine lay _ _ (fun ν F hB => jh_i ?_) | dsimp only [jb_e0, jb_ec, jb_n, jb_c, jx_op, j1i_c, j2i_c, j1l_c, j2l_c, jil_c, j1r_c, jri_c, jrii_c, jril_c, jrl_c, jrr_c, j2i'_c, jdup_i, jdup_r, jdup2_c, jdup2_l, jpo_c, jli, jll, jlr, jat_0, jat_s, jst, jst2, jkill_i, jkill_r, jkill_l, jkill_n, jnone, jgv_0, jgv_1, jgv_2, jgv_3, jrv_s, jput_0, jput_1, jput_2, jput_3, jpop_0, jpop_1, jcl_s, jc1, jc2, jvi, Nat.reduceAdd, jol_i, jol_l, jol_n, jap_n, jap_c, List.map_cons, List.map_nil, List.sum_cons, List.sum_nil, jcI, jcL, jcR, gI_sI, gI_sL, gI_sR, gL_sI, gL_sL, gL_sR, gR_sI, gR_sL, gR_sR, gS_sI, gS_sL, gS_sR, gN_sI, gN_sL, gN_sR] | simp (disch := omega) only [Nat.zero_le, true_and, and_true, and_self, Nat.reduceLeDiff, true_or, or_true, false_or, or_false, Nat.reduceEqDiff, false_and, and_false, if_false, if_true, reduceIte, not_true_eq_false, not_false_eq_true, true_imp_iff, false_imp_iff, List.map_cons, List.map_nil, List.sum_cons, List.sum_nil, jcI, jcL, jcR, Nat.reduceAdd, jrv_s, j1r_c, jap_n, jap_c, gI_sI, gL_sL, gI_sL, gL_sI, an_lt, an_le, an_eq, an_lt0, an_0le, an_0lt, an_le0, an_eq0, an_eq1, an_1lt, an_le1, an_1le, an_lt1, an_eqm, an_sub, an_sub1, an_div, an_rem, an_in, an_in0, an_in1, an_cl, an_cl0, an_cl1, nI_add, nI_1, an_1a, pk_mul, Nat.reduceMul, jz10, jz01, j00, j11, jb0, Classical.not_not, eq_self, an_ite, an_of, an_nm, nI_l, lN_add, lN_mul, lN_i, lj_2, lj_3, lj_4, lj_5, lj_6, lj_7, lj_8, lj_9, lj_10, lj_11, lj_12, lj_13, lj_14, lj_15, lj_16, lj_17, lj_18, lj_19, lj_20, lj_21, lj_22, lj_23, lj_24, lj_25, lj_26, lj_27, lj_28, lj_29, lj_30, lj_31, lj_32, lj_33, lj_34, lj_35, lj_36, lj_37, lj_38, lj_39, lj_40, lj_48, lj_50, lj_57, lj_59, lj_60, lj_63, lj_64, lj_65, lj_90, lj_96, lj_97, lj_99, lj_100, lj_101, lj_105, lj_112, lj_114, lj_116, lj_119, lj_122, lj_128, lj_200, lj_255, lj_256, lj_500, lj_777, lj_1000, hW.1, jS0_48, w, rfm] | (refine br_c (fun _ => ?_) (fun _ => ?_) <;> try (exfalso; omega)) | (refine br_d (fun _ => ?_) (fun _ => ?_) <;> try (exfalso; omega)) | refine And.intro ?_ ?_ | (refine Nat.ne_of_gt ?_; omega))
  refine jh_o ?_
  have hWν := F.wd hW
  have hXν : jTX T t ν := jTX_fr (A := mvO) (by decide) hW F hX
  have rfν := rwF ho hWν
  have rA := rwF4 ho hWν (j := 0) (by omega)
  have wtν := (jWs hWν).1
  have ml : ∀ (d : Nat) (Q' : jQ), Q' (some (.int (nI (rMx T (tP T))))) ν → jC (d + 2) 87 [.ref t] ν Q' := fun d Q' kq => sp_mostLanes hWν hK hXν kq
  have loop : ∀ (m k : Nat) (ξ : jMem) (z4 z5 : Option Value), k + m = 64 → jFr (rwO o) ν ξ → gI ξ o 1 = gI ν o 1 → gI ξ o 2 = nI (rMx T (tP T)) → gI ξ o 3 = nI n → gI ξ o 4 = 2147483647 → gI ξ o 5 = 2147483647 → gI ξ (o + 2) 0 = -1 → gI ξ (o + 9) 0 = nI (jsum (rw0 T) k) → (∀ pr, pr < k → gI ξ (o + 4 + 0) pr = nI (rw0 T pr)) → jR (d + 4) 67 49 [some (.ref o), some (.ref t), some (.int (nI n)), some (.int (nI k)), z4, z5] [] (0, 0) ξ Q := by
    intro m
    induction m with
    | zero =>
      intro k ξ z4 z5 hk G e1 e2 e3 e4 e5 e6 e7 e8
      obtain rfl : k = 64 := by omega
      have out : ∀ x, x < o → ∀ i, gI ξ x i = gI ν x i := fun x hx i => (G.1 x (rwO_out (Or.inl hx))).1 i
      have kk := h ξ ((F.mono (by simp; intro x hx; exact Or.inl hx)).trans (G.mono (by simp; intro x hx; exact Or.inr hx))) (fun c hc => lyA_of (out _ (by omega)) (out _ (by omega)) (out _ (by omega) c) (hB c hc)) (by rw [e1, (F.1 o (fun z => by have := mvm o z; omega)).1]) e2 e3 e4 e5 e6 e7 (fun pr hpr => e8 pr hpr)
      refine b67_49 ?_
      repeat' (first | refine b67_85 ?_ | refine b67_93 ?_ | refine b67_117 ?_ | dsimp only [jb_e0, jb_ec, jb_n, jb_c, jx_op, j1i_c, j2i_c, j1l_c, j2l_c, jil_c, j1r_c, jri_c, jrii_c, jril_c, jrl_c, jrr_c, j2i'_c, jdup_i, jdup_r, jdup2_c, jdup2_l, jpo_c, jli, jll, jlr, jat_0, jat_s, jst, jst2, jkill_i, jkill_r, jkill_l, jkill_n, jnone, jgv_0, jgv_1, jgv_2, jgv_3, jrv_s, jput_0, jput_1, jput_2, jput_3, jpop_0, jpop_1, jcl_s, jc1, jc2, jvi, Nat.reduceAdd, jol_i, jol_l, jol_n, jap_n, jap_c, List.map_cons, List.map_nil, List.sum_cons, List.sum_nil, jcI, jcL, jcR, gI_sI, gI_sL, gI_sR, gL_sI, gL_sL, gL_sR, gR_sI, gR_sL, gR_sR, gS_sI, gS_sL, gS_sR, gN_sI, gN_sL, gN_sR] | simp (disch := omega) only [Nat.zero_le, true_and, and_true, and_self, Nat.reduceLeDiff, true_or, or_true, false_or, or_false, Nat.reduceEqDiff, false_and, and_false, if_false, if_true, reduceIte, not_true_eq_false, not_false_eq_true, true_imp_iff, false_imp_iff, List.map_cons, List.map_nil, List.sum_cons, List.sum_nil, jcI, jcL, jcR, Nat.reduceAdd, jrv_s, j1r_c, jap_n, jap_c, gI_sI, gL_sL, gI_sL, gL_sI, an_lt, an_le, an_eq, an_lt0, an_0le, an_0lt, an_le0, an_eq0, an_eq1, an_1lt, an_le1, an_1le, an_lt1, an_eqm, an_sub, an_sub1, an_div, an_rem, an_in, an_in0, an_in1, an_cl, an_cl0, an_cl1, nI_add, nI_1, an_1a, pk_mul, Nat.reduceMul, jz10, jz01, j00, j11, jb0, Classical.not_not, eq_self, an_ite, an_of, an_nm, nI_l, lN_add, lN_mul, lN_i, lj_2, lj_3, lj_4, lj_5, lj_6, lj_7, lj_8, lj_9, lj_10, lj_11, lj_12, lj_13, lj_14, lj_15, lj_16, lj_17, lj_18, lj_19, lj_20, lj_21, lj_22, lj_23, lj_24, lj_25, lj_26, lj_27, lj_28, lj_29, lj_30, lj_31, lj_32, lj_33, lj_34, lj_35, lj_36, lj_37, lj_38, lj_39, lj_40, lj_48, lj_50, lj_57, lj_59, lj_60, lj_63, lj_64, lj_65, lj_90, lj_96, lj_97, lj_99, lj_100, lj_101, lj_105, lj_112, lj_114, lj_116, lj_119, lj_122, lj_128, lj_200, lj_255, lj_256, lj_500, lj_777, lj_1000] | (refine br_c (fun _ => ?_) (fun _ => ?_) <;> try (exfalso; omega)) | (refine br_d (fun _ => ?_) (fun _ => ?_) <;> try (exfalso; omega)) | refine And.intro ?_ ?_ | (refine Nat.ne_of_gt ?_; omega))
      all_goals exact kk
    | succ m ih =>
      intro k ξ z4 z5 hk G e1 e2 e3 e4 e5 e6 e7 e8
      have hk64 : k < 64 := by omega
      have hWξ := G.wd hWν
      have hXξ := jTX_fr (by unfold rwO; simp <;> omega) hWν G hXν
      have wtξ := (jWs hWξ).1
      have rfξ := rwF ho hWξ
      have rAξ := rwF4 ho hWξ (j := 0) (by omega)
      have lk : ∀ (d : Nat) (Q' : jQ), Q' (some (.int (nI (rl T k)))) ξ → jC (d + 1) 84 [.ref t, .int (nI (k / 8)), .int (nI (k % 8))] ξ Q' := fun d Q' kq => sq_likely hWξ hK hXξ (by omega) (by omega) kq
      have b1 := rw0_le hK (s := k)
      have b2 : jsum (rw0 T) k ≤ 64 * 81 := by
        have := jsum_le (f := rw0 T) (c := 81) k (fun i _ => rw0_le hK)
        omega
      have kk := ih (k + 1) (sI (sI ξ (o + 4 + 0) k (nI (rw0 T k))) (o + 9) 0 (nI (jsum (rw0 T) k + rw0 T k))) (some (.int (nI (k / 8)))) (some (.int (nI (k % 8)))) (by omega) ((G.trans (jFr.sI (rwO_in (by omega) (by omega)))).trans (jFr.sI (rwO_in (by omega) (by omega)))) (by rw [gI_sI, if_neg (by omega), gI_sI, if_neg (by omega)]; exact e1) (by rw [gI_sI, if_neg (by omega), gI_sI, if_neg (by omega)]; exact e2) (by rw [gI_sI, if_neg (by omega), gI_sI, if_neg (by omega)]; exact e3) (by rw [gI_sI, if_neg (by omega), gI_sI, if_neg (by omega)]; exact e4) (by rw [gI_sI, if_neg (by omega), gI_sI, if_neg (by omega)]; exact e5) (by rw [gI_sI, if_neg (by omega), gI_sI, if_neg (by omega)]; exact e6) (by rw [gI_sI, if_pos ⟨rfl, rfl⟩]; rfl) (fun pr hpr => by
        rw [gI_sI, if_neg (by omega), gI_sI]
        by_cases e : pr = k
        · rw [if_pos ⟨rfl, e⟩, e]
        · rw [if_neg (fun z => e z.2)]
          exact e8 pr (by omega))
      have nn := eq_false (show ¬ o + 9 = o + 4 + 0 by omega)
      have nn2 := eq_false (show ¬ o + 4 + 0 = o + 9 by omega)
      clear ih h
      by_cases c : k / 8 = k % 8
      · have z0 : rw0 T k = 0 := by
          unfold rw0
          rw [if_pos c]
        rw [z0] at kk
        have kk := kk
        have z1 : nI 0 = 0 := rfl
        rw [z1, Nat.add_zero] at kk
        have c' := eq_true c
        generalize hS : jsum (rw0 T) k = S at *
        generalize hA : o + 4 + 0 = A at *
        refine b67_49 ?_
        repeat' (first | refine b67_85 ?_ | refine b67_93 ?_ | refine b67_117 ?_ | dsimp only [jb_e0, jb_ec, jb_n, jb_c, jx_op, j1i_c, j2i_c, j1l_c, j2l_c, jil_c, j1r_c, jri_c, jrii_c, jril_c, jrl_c, jrr_c, j2i'_c, jdup_i, jdup_r, jdup2_c, jdup2_l, jpo_c, jli, jll, jlr, jat_0, jat_s, jst, jst2, jkill_i, jkill_r, jkill_l, jkill_n, jnone, jgv_0, jgv_1, jgv_2, jgv_3, jrv_s, jput_0, jput_1, jput_2, jput_3, jpop_0, jpop_1, jcl_s, jc1, jc2, jvi, Nat.reduceAdd, jol_i, jol_l, jol_n, jap_n, jap_c, List.map_cons, List.map_nil, List.sum_cons, List.sum_nil, jcI, jcL, jcR, gI_sI, gI_sL, gI_sR, gL_sI, gL_sL, gL_sR, gR_sI, gR_sL, gR_sR, gS_sI, gS_sL, gS_sR, gN_sI, gN_sL, gN_sR] | simp (disch := omega) only [Nat.zero_le, true_and, and_true, and_self, Nat.reduceLeDiff, true_or, or_true, false_or, or_false, Nat.reduceEqDiff, false_and, and_false, if_false, if_true, reduceIte, not_true_eq_false, not_false_eq_true, true_imp_iff, false_imp_iff, List.map_cons, List.map_nil, List.sum_cons, List.sum_nil, jcI, jcL, jcR, Nat.reduceAdd, jrv_s, j1r_c, jap_n, jap_c, gI_sI, gL_sL, gI_sL, gL_sI, an_lt, an_le, an_eq, an_lt0, an_0le, an_0lt, an_le0, an_eq0, an_eq1, an_1lt, an_le1, an_1le, an_lt1, an_eqm, an_sub, an_sub1, an_div, an_rem, an_in, an_in0, an_in1, an_cl, an_cl0, an_cl1, nI_add, nI_1, an_1a, pk_mul, Nat.reduceMul, jz10, jz01, j00, j11, jb0, Classical.not_not, eq_self, an_ite, an_of, an_nm, nI_l, lN_add, lN_mul, lN_i, lj_2, lj_3, lj_4, lj_5, lj_6, lj_7, lj_8, lj_9, lj_10, lj_11, lj_12, lj_13, lj_14, lj_15, lj_16, lj_17, lj_18, lj_19, lj_20, lj_21, lj_22, lj_23, lj_24, lj_25, lj_26, lj_27, lj_28, lj_29, lj_30, lj_31, lj_32, lj_33, lj_34, lj_35, lj_36, lj_37, lj_38, lj_39, lj_40, lj_48, lj_50, lj_57, lj_59, lj_60, lj_63, lj_64, lj_65, lj_90, lj_96, lj_97, lj_99, lj_100, lj_101, lj_105, lj_112, lj_114, lj_116, lj_119, lj_122, lj_128, lj_200, lj_255, lj_256, lj_500, lj_777, lj_1000, hWξ.1, w, rfξ, rAξ, sA, n2, n9, n4, nn, nn2, e7, c', Int32.add_zero] | (refine br_c (fun _ => ?_) (fun _ => ?_) <;> try (exfalso; omega)) | (refine br_d (fun _ => ?_) (fun _ => ?_) <;> try (exfalso; omega)) | refine And.intro ?_ ?_ | (refine Nat.ne_of_gt ?_; omega))
        all_goals exact kk
      · have z0 : rw0 T k = rl T k := by
          unfold rw0
          rw [if_neg c]
        rw [z0] at kk b1
        have c' := eq_false c
        generalize hS : jsum (rw0 T) k = S at *
        generalize hR : rl T k = R at *
        generalize hA : o + 4 + 0 = A at *
        refine b67_49 ?_
        repeat' (first | refine b67_85 ?_ | refine b67_93 ?_ | refine b67_117 ?_ | refine lk _ _ ?_ | dsimp only [jb_e0, jb_ec, jb_n, jb_c, jx_op, j1i_c, j2i_c, j1l_c, j2l_c, jil_c, j1r_c, jri_c, jrii_c, jril_c, jrl_c, jrr_c, j2i'_c, jdup_i, jdup_r, jdup2_c, jdup2_l, jpo_c, jli, jll, jlr, jat_0, jat_s, jst, jst2, jkill_i, jkill_r, jkill_l, jkill_n, jnone, jgv_0, jgv_1, jgv_2, jgv_3, jrv_s, jput_0, jput_1, jput_2, jput_3, jpop_0, jpop_1, jcl_s, jc1, jc2, jvi, Nat.reduceAdd, jol_i, jol_l, jol_n, jap_n, jap_c, List.map_cons, List.map_nil, List.sum_cons, List.sum_nil, jcI, jcL, jcR, gI_sI, gI_sL, gI_sR, gL_sI, gL_sL, gL_sR, gR_sI, gR_sL, gR_sR, gS_sI, gS_sL, gS_sR, gN_sI, gN_sL, gN_sR] | simp (disch := omega) only [Nat.zero_le, true_and, and_true, and_self, Nat.reduceLeDiff, true_or, or_true, false_or, or_false, Nat.reduceEqDiff, false_and, and_false, if_false, if_true, reduceIte, not_true_eq_false, not_false_eq_true, true_imp_iff, false_imp_iff, List.map_cons, List.map_nil, List.sum_cons, List.sum_nil, jcI, jcL, jcR, Nat.reduceAdd, jrv_s, j1r_c, jap_n, jap_c, gI_sI, gL_sL, gI_sL, gL_sI, an_lt, an_le, an_eq, an_lt0, an_0le, an_0lt, an_le0, an_eq0, an_eq1, an_1lt, an_le1, an_1le, an_lt1, an_eqm, an_sub, an_sub1, an_div, an_rem, an_in, an_in0, an_in1, an_cl, an_cl0, an_cl1, nI_add, nI_1, an_1a, pk_mul, Nat.reduceMul, jz10, jz01, j00, j11, jb0, Classical.not_not, eq_self, an_ite, an_of, an_nm, nI_l, lN_add, lN_mul, lN_i, lj_2, lj_3, lj_4, lj_5, lj_6, lj_7, lj_8, lj_9, lj_10, lj_11, lj_12, lj_13, lj_14, lj_15, lj_16, lj_17, lj_18, lj_19, lj_20, lj_21, lj_22, lj_23, lj_24, lj_25, lj_26, lj_27, lj_28, lj_29, lj_30, lj_31, lj_32, lj_33, lj_34, lj_35, lj_36, lj_37, lj_38, lj_39, lj_40, lj_48, lj_50, lj_57, lj_59, lj_60, lj_63, lj_64, lj_65, lj_90, lj_96, lj_97, lj_99, lj_100, lj_101, lj_105, lj_112, lj_114, lj_116, lj_119, lj_122, lj_128, lj_200, lj_255, lj_256, lj_500, lj_777, lj_1000, hWξ.1, wtξ, w, rfξ, rAξ, sA, n2, n9, n4, nn, nn2, e7, c'] | (refine br_c (fun _ => ?_) (fun _ => ?_) <;> try (exfalso; omega)) | (refine br_d (fun _ => ?_) (fun _ => ?_) <;> try (exfalso; omega)) | refine And.intro ?_ ?_ | (refine Nat.ne_of_gt ?_; omega))
        all_goals exact kk
  have kk := loop 64 0 (sI (sI (sI (sI (sI (sI ν o 2 (nI (rMx T (tP T)))) o 3 (nI n)) o 4 2147483647) o 5 2147483647) (o + 2) 0 (-1)) (o + 9) 0 0) none none rfl ((((((jFr.sI (rwO_in (by omega) (by omega))).trans (jFr.sI (rwO_in (by omega) (by omega)))).trans (jFr.sI (rwO_in (by omega) (by omega)))).trans (jFr.sI (rwO_in (by omega) (by omega)))).trans (jFr.sI (rwO_in (by omega) (by omega)))).trans (jFr.sI (rwO_in (by omega) (by omega)))) (by simp [gI_sI]) (by simp [gI_sI]) (by simp [gI_sI]) (by simp [gI_sI]) (by simp [gI_sI]) (by simp [gI_sI]) (by rw [gI_sI, if_pos ⟨rfl, rfl⟩]; rfl) (fun pr hpr => absurd hpr (Nat.not_lt_zero _))
  clear loop h
  repeat' (first | refine b67_85 ?_ | refine b67_93 ?_ | refine b67_117 ?_ | refine ml _ _ ?_ | dsimp only [jb_e0, jb_ec, jb_n, jb_c, jx_op, j1i_c, j2i_c, j1l_c, j2l_c, jil_c, j1r_c, jri_c, jrii_c, jril_c, jrl_c, jrr_c, j2i'_c, jdup_i, jdup_r, jdup2_c, jdup2_l, jpo_c, jli, jll, jlr, jat_0, jat_s, jst, jst2, jkill_i, jkill_r, jkill_l, jkill_n, jnone, jgv_0, jgv_1, jgv_2, jgv_3, jrv_s, jput_0, jput_1, jput_2, jput_3, jpop_0, jpop_1, jcl_s, jc1, jc2, jvi, Nat.reduceAdd, jol_i, jol_l, jol_n, jap_n, jap_c, List.map_cons, List.map_nil, List.sum_cons, List.sum_nil, jcI, jcL, jcR, gI_sI, gI_sL, gI_sR, gL_sI, gL_sL, gL_sR, gR_sI, gR_sL, gR_sR, gS_sI, gS_sL, gS_sR, gN_sI, gN_sL, gN_sR] | simp (disch := omega) only [Nat.zero_le, true_and, and_true, and_self, Nat.reduceLeDiff, true_or, or_true, false_or, or_false, Nat.reduceEqDiff, false_and, and_false, if_false, if_true, reduceIte, not_true_eq_false, not_false_eq_true, true_imp_iff, false_imp_iff, List.map_cons, List.map_nil, List.sum_cons, List.sum_nil, jcI, jcL, jcR, Nat.reduceAdd, jrv_s, j1r_c, jap_n, jap_c, gI_sI, gL_sL, gI_sL, gL_sI, an_lt, an_le, an_eq, an_lt0, an_0le, an_0lt, an_le0, an_eq0, an_eq1, an_1lt, an_le1, an_1le, an_lt1, an_eqm, an_sub, an_sub1, an_div, an_rem, an_in, an_in0, an_in1, an_cl, an_cl0, an_cl1, nI_add, nI_1, an_1a, pk_mul, Nat.reduceMul, jz10, jz01, j00, j11, jb0, Classical.not_not, eq_self, an_ite, an_of, an_nm, nI_l, lN_add, lN_mul, lN_i, lj_2, lj_3, lj_4, lj_5, lj_6, lj_7, lj_8, lj_9, lj_10, lj_11, lj_12, lj_13, lj_14, lj_15, lj_16, lj_17, lj_18, lj_19, lj_20, lj_21, lj_22, lj_23, lj_24, lj_25, lj_26, lj_27, lj_28, lj_29, lj_30, lj_31, lj_32, lj_33, lj_34, lj_35, lj_36, lj_37, lj_38, lj_39, lj_40, lj_48, lj_50, lj_57, lj_59, lj_60, lj_63, lj_64, lj_65, lj_90, lj_96, lj_97, lj_99, lj_100, lj_101, lj_105, lj_112, lj_114, lj_116, lj_119, lj_122, lj_128, lj_200, lj_255, lj_256, lj_500, lj_777, lj_1000, hWν.1, wtν, w, rfν, n2, n9] | (refine br_c (fun _ => ?_) (fun _ => ?_) <;> try (exfalso; omega)) | (refine br_d (fun _ => ?_) (fun _ => ?_) <;> try (exfalso; omega)) | refine And.intro ?_ ?_ | (refine Nat.ne_of_gt ?_; omega))
  all_goals exact kk
theorem rVs_0 : rVs al T n (fun _ => 0) := fun k _ => by
  show rV al T k 0 ∧ 0 < 25
  exact ⟨⟨⟨Nat.zero_le _, Nat.zero_le _⟩, fun _ => rfl, fun _ _ => rfl⟩, by omega⟩
theorem sp_search (hW : jWd L t μ) (hK : jTok T) (hX : jTX T t μ) (ho : jRO al o) (h1 : gI μ o 1 = jbi al) (hn1 : 1 ≤ n) (hn : n ≤ 5)
    (h : ∀ ν b, jFr (mvO ++ rwO o) μ ν → gI ν o 1 = gI μ o 1 → gI ν o 3 = nI n → rVs al T n b → gI ν o 4 = nI (rFm T b n) → gI ν o 5 = nI (rFl T b n) → (∀ k, k < n → gI ν (o + 1) k = nI (b k)) → (∀ r, rVs al T n r → rBe T n b r (rLx n r b)) → Q none ν) :
    jC (d + 5) 66 [.ref o, .ref t, .int (nI n)] μ Q := by
  have o100 : 102 ≤ o := by rcases ho with ⟨_, rfl⟩ | ⟨_, rfl⟩ <;> omega
  obtain ⟨last, rfl⟩ : ∃ last, n = last + 1 := ⟨n - 1, by omega⟩
  have bg : ∀ (d : Nat) (Q' : jQ), (∀ ν, jFr (mvO ++ rwO o) μ ν → lyB T 25 ν → gI ν o 1 = gI μ o 1 → gI ν o 2 = nI (rMx T (tP T)) → gI ν o 3 = nI (last + 1) → gI ν o 4 = 2147483647 → gI ν o 5 = 2147483647 → gI ν (o + 2) 0 = -1 → gI ν (o + 9) 0 = nI (rAA T (fun _ => 0) 0) → (∀ pr, pr < 64 → gI ν (o + 4 + 0) pr = nI (rAp T (fun _ => 0) 0 pr)) → Q' none ν) → jC (d + 4) 67 [.ref o, .ref t, .int (nI (last + 1))] μ Q' := fun d Q' kq => sp_rbegin hW hK hX ho hn kq
  refine e66 (b66_0 ?_)
  repeat' (first | refine b66_10 ?_ | refine b66_11 ?_ | refine b66_66 ?_ | refine b66_95 ?_ | refine b66_98 ?_ | refine b66_104 ?_ | refine bg _ _ (fun ν F lB g1 g2 g3 g4 g5 g6 g7 g8 => jh_i ?_) | dsimp only [jb_e0, jb_ec, jb_n, jb_c, jx_op, j1i_c, j2i_c, j1l_c, j2l_c, jil_c, j1r_c, jri_c, jrii_c, jril_c, jrl_c, jrr_c, j2i'_c, jdup_i, jdup_r, jdup2_c, jdup2_l, jpo_c, jli, jll, jlr, jat_0, jat_s, jst, jst2, jkill_i, jkill_r, jkill_l, jkill_n, jnone, jgv_0, jgv_1, jgv_2, jgv_3, jrv_s, jput_0, jput_1, jput_2, jput_3, jpop_0, jpop_1, jcl_s, jc1, jc2, jvi, Nat.reduceAdd, jol_i, jol_l, jol_n, jap_n, jap_c, List.map_cons, List.map_nil, List.sum_cons, List.sum_nil, jcI, jcL, jcR, gI_sI, gI_sL, gI_sR, gL_sI, gL_sL, gL_sR, gR_sI, gR_sL, gR_sR, gS_sI, gS_sL, gS_sR, gN_sI, gN_sL, gN_sR] | simp (disch := omega) only [Nat.zero_le, true_and, and_true, and_self, Nat.reduceLeDiff, true_or, or_true, false_or, or_false, Nat.reduceEqDiff, false_and, and_false, if_false, if_true, reduceIte, not_true_eq_false, not_false_eq_true, true_imp_iff, false_imp_iff, List.map_cons, List.map_nil, List.sum_cons, List.sum_nil, jcI, jcL, jcR, Nat.reduceAdd, jrv_s, j1r_c, jap_n, jap_c, gI_sI, gL_sL, gI_sL, gL_sI, an_lt, an_le, an_eq, an_lt0, an_0le, an_0lt, an_le0, an_eq0, an_eq1, an_1lt, an_le1, an_1le, an_lt1, an_eqm, an_sub, an_sub1, an_div, an_rem, an_in, an_in0, an_in1, an_cl, an_cl0, an_cl1, nI_add, nI_1, an_1a, pk_mul, Nat.reduceMul, jz10, jz01, j00, j11, jb0, Classical.not_not, eq_self, an_ite, an_of, an_nm, nI_l, lN_add, lN_mul, lN_i, lj_2, lj_3, lj_4, lj_5, lj_6, lj_7, lj_8, lj_9, lj_10, lj_11, lj_12, lj_13, lj_14, lj_15, lj_16, lj_17, lj_18, lj_19, lj_20, lj_21, lj_22, lj_23, lj_24, lj_25, lj_26, lj_27, lj_28, lj_29, lj_30, lj_31, lj_32, lj_33, lj_34, lj_35, lj_36, lj_37, lj_38, lj_39, lj_40, lj_48, lj_50, lj_57, lj_59, lj_60, lj_63, lj_64, lj_65, lj_90, lj_96, lj_97, lj_99, lj_100, lj_101, lj_105, lj_112, lj_114, lj_116, lj_119, lj_122, lj_128, lj_200, lj_255, lj_256, lj_500, lj_777, lj_1000, hW.1, (rwS L ho)] | (refine br_c (fun _ => ?_) (fun _ => ?_) <;> try (exfalso; omega)) | (refine br_d (fun _ => ?_) (fun _ => ?_) <;> try (exfalso; omega)) | refine And.intro ?_ ?_ | (refine Nat.ne_of_gt ?_; omega))
  refine jh_o ?_
  have hWν := F.wd hW
  have mvm : ∀ x ∈ mvO, ¬ (12 ≤ x ∧ x ≤ 33) := by decide
  have hXν : jTX T t ν := jTX_fr (A := mvO ++ rwO o) (fun x hx => by
    rcases List.mem_append.mp hx with z | z
    · exact mvm x z
    · unfold rwO at z
      simp at z
      omega) hW F hX
  have kk := node (d := d + 1) (Q := Q) (last := last) (n0 := nI (last + 1)) hWν hK hXν ho lB (by omega) (by rw [g1]; exact h1) g2 g3 last 0 (by omega) 25 (fun _ => 0) none 0 ν ⟨jFr.rf, fun i _ _ => rfl, fun j hj pr hpr => by
    obtain rfl : j = 0 := by omega
    exact g8 pr hpr, fun j hj => by
    obtain rfl : j = 0 := by omega
    exact g7, fun j hj => absurd hj (Nat.not_lt_zero _), fun j hj => absurd hj (Nat.not_lt_zero _)⟩ g6 (fun c0 z => by cases z) (fun _ => rfl) (fun _ => rfl) (Or.inl ⟨g4, g5, fun r _ y => by
    rcases y with ⟨i, y1, _⟩ | ⟨c, y1, _⟩
    · exact absurd y1 (Nat.not_lt_zero _)
    · cases y1⟩) (by
      rw [rWc_25]
      have := rW_le (last := last) (by omega)
      omega) (fun ξ u' hS hB hu' => by
    rw [rWc_25] at hu'
    have := rW_le (last := last) (by omega)
    have k2 : Q none ξ := by
      obtain ⟨s1, s2, _⟩ := hS
      rcases hB with ⟨_, _, b3⟩ | ⟨b, b1, b2, b3, b4, b5, b6⟩
      · exact absurd (Or.inr (fun j hj => absurd hj (Nat.not_lt_zero _))) (b3 _ rVs_0)
      · exact h ξ b (F.trans (s1.mono (by simp; intro x hx; exact Or.inr hx))) (by rw [s2 1 (by omega) (by omega)]; exact g1) (by rw [s2 3 (by omega) (by omega)]; exact g3) b1 b3 b4 b5 (fun r hr => b6 r hr (Or.inr (fun j hj => absurd hj (Nat.not_lt_zero _))))
    have e0 : nI 0 + -1 = -1 := by decide
    refine b66_98 ?_
    repeat' (first | refine b66_10 ?_ | refine b66_11 ?_ | refine b66_27 ?_ | refine b66_66 ?_ | refine b66_95 ?_ | refine b66_98 ?_ | refine b66_104 ?_ | dsimp only [jb_e0, jb_ec, jb_n, jb_c, jx_op, j1i_c, j2i_c, j1l_c, j2l_c, jil_c, j1r_c, jri_c, jrii_c, jril_c, jrl_c, jrr_c, j2i'_c, jdup_i, jdup_r, jdup2_c, jdup2_l, jpo_c, jli, jll, jlr, jat_0, jat_s, jst, jst2, jkill_i, jkill_r, jkill_l, jkill_n, jnone, jgv_0, jgv_1, jgv_2, jgv_3, jrv_s, jput_0, jput_1, jput_2, jput_3, jpop_0, jpop_1, jcl_s, jc1, jc2, jvi, Nat.reduceAdd, jol_i, jol_l, jol_n, jap_n, jap_c, List.map_cons, List.map_nil, List.sum_cons, List.sum_nil, jcI, jcL, jcR, gI_sI, gI_sL, gI_sR, gL_sI, gL_sL, gL_sR, gR_sI, gR_sL, gR_sR, gS_sI, gS_sL, gS_sR, gN_sI, gN_sL, gN_sR] | simp (disch := omega) only [Nat.zero_le, true_and, and_true, and_self, Nat.reduceLeDiff, true_or, or_true, false_or, or_false, Nat.reduceEqDiff, false_and, and_false, if_false, if_true, reduceIte, not_true_eq_false, not_false_eq_true, true_imp_iff, false_imp_iff, List.map_cons, List.map_nil, List.sum_cons, List.sum_nil, jcI, jcL, jcR, Nat.reduceAdd, jrv_s, j1r_c, jap_n, jap_c, gI_sI, gL_sL, gI_sL, gL_sI, an_lt, an_le, an_eq, an_lt0, an_0le, an_0lt, an_le0, an_eq0, an_eq1, an_1lt, an_le1, an_1le, an_lt1, an_eqm, an_sub, an_sub1, an_div, an_rem, an_in, an_in0, an_in1, an_cl, an_cl0, an_cl1, nI_add, nI_1, an_1a, pk_mul, Nat.reduceMul, jz10, jz01, j00, j11, jb0, Classical.not_not, eq_self, an_ite, an_of, an_nm, nI_l, lN_add, lN_mul, lN_i, lj_2, lj_3, lj_4, lj_5, lj_6, lj_7, lj_8, lj_9, lj_10, lj_11, lj_12, lj_13, lj_14, lj_15, lj_16, lj_17, lj_18, lj_19, lj_20, lj_21, lj_22, lj_23, lj_24, lj_25, lj_26, lj_27, lj_28, lj_29, lj_30, lj_31, lj_32, lj_33, lj_34, lj_35, lj_36, lj_37, lj_38, lj_39, lj_40, lj_48, lj_50, lj_57, lj_59, lj_60, lj_63, lj_64, lj_65, lj_90, lj_96, lj_97, lj_99, lj_100, lj_101, lj_105, lj_112, lj_114, lj_116, lj_119, lj_122, lj_128, lj_200, lj_255, lj_256, lj_500, lj_777, lj_1000, e0, jm1_lt] | (refine br_c (fun _ => ?_) (fun _ => ?_) <;> try (exfalso; omega)) | (refine br_d (fun _ => ?_) (fun _ => ?_) <;> try (exfalso; omega)) | refine And.intro ?_ ?_ | (refine Nat.ne_of_gt ?_; omega))
    all_goals exact k2)
  have es : nI (last + 1) - 1 = nI last := by
    rw [an_sub1 (by omega)]
    rfl
  have z0 : nI 0 = 0 := rfl
  rw [z0] at kk
  clear bg h
  repeat' (first | refine b66_10 ?_ | refine b66_11 ?_ | refine b66_66 ?_ | refine b66_95 ?_ | refine b66_98 ?_ | refine b66_104 ?_ | dsimp only [jb_e0, jb_ec, jb_n, jb_c, jx_op, j1i_c, j2i_c, j1l_c, j2l_c, jil_c, j1r_c, jri_c, jrii_c, jril_c, jrl_c, jrr_c, j2i'_c, jdup_i, jdup_r, jdup2_c, jdup2_l, jpo_c, jli, jll, jlr, jat_0, jat_s, jst, jst2, jkill_i, jkill_r, jkill_l, jkill_n, jnone, jgv_0, jgv_1, jgv_2, jgv_3, jrv_s, jput_0, jput_1, jput_2, jput_3, jpop_0, jpop_1, jcl_s, jc1, jc2, jvi, Nat.reduceAdd, jol_i, jol_l, jol_n, jap_n, jap_c, List.map_cons, List.map_nil, List.sum_cons, List.sum_nil, jcI, jcL, jcR, gI_sI, gI_sL, gI_sR, gL_sI, gL_sL, gL_sR, gR_sI, gR_sL, gR_sR, gS_sI, gS_sL, gS_sR, gN_sI, gN_sL, gN_sR] | simp (disch := omega) only [Nat.zero_le, true_and, and_true, and_self, Nat.reduceLeDiff, true_or, or_true, false_or, or_false, Nat.reduceEqDiff, false_and, and_false, if_false, if_true, reduceIte, not_true_eq_false, not_false_eq_true, true_imp_iff, false_imp_iff, List.map_cons, List.map_nil, List.sum_cons, List.sum_nil, jcI, jcL, jcR, Nat.reduceAdd, jrv_s, j1r_c, jap_n, jap_c, gI_sI, gL_sL, gI_sL, gL_sI, an_lt, an_le, an_eq, an_lt0, an_0le, an_0lt, an_le0, an_eq0, an_eq1, an_1lt, an_le1, an_1le, an_lt1, an_eqm, an_sub, an_sub1, an_div, an_rem, an_in, an_in0, an_in1, an_cl, an_cl0, an_cl1, nI_add, nI_1, an_1a, pk_mul, Nat.reduceMul, jz10, jz01, j00, j11, jb0, Classical.not_not, eq_self, an_ite, an_of, an_nm, nI_l, lN_add, lN_mul, lN_i, lj_2, lj_3, lj_4, lj_5, lj_6, lj_7, lj_8, lj_9, lj_10, lj_11, lj_12, lj_13, lj_14, lj_15, lj_16, lj_17, lj_18, lj_19, lj_20, lj_21, lj_22, lj_23, lj_24, lj_25, lj_26, lj_27, lj_28, lj_29, lj_30, lj_31, lj_32, lj_33, lj_34, lj_35, lj_36, lj_37, lj_38, lj_39, lj_40, lj_48, lj_50, lj_57, lj_59, lj_60, lj_63, lj_64, lj_65, lj_90, lj_96, lj_97, lj_99, lj_100, lj_101, lj_105, lj_112, lj_114, lj_116, lj_119, lj_122, lj_128, lj_200, lj_255, lj_256, lj_500, lj_777, lj_1000, es] | (refine br_c (fun _ => ?_) (fun _ => ?_) <;> try (exfalso; omega)) | (refine br_d (fun _ => ?_) (fun _ => ?_) <;> try (exfalso; omega)) | refine And.intro ?_ ?_ | (refine Nat.ne_of_gt ?_; omega))
  all_goals exact kk
end JRM
