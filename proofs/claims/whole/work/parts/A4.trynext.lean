/-! agreed, alike: the class goes one tick on -/
section JRG
variable {d L t : Nat} {μ : jMem} {Q : jQ} {T : jT} {a b c m n o k A B : Nat} {al st : Bool} {r : Nat → Nat}
def rU (r : Nat → Nat) (k c : Nat) : Nat → Nat := fun j => if j = k then c else r j
theorem rAp_U (hK : jTok T) {x : Nat} : rAp T (rU r k c) (k + 1) x = jsum (fun pr => if gd T c pr = some x then rAp T r k pr else 0) 64 := by
  rw [rAp]
  refine jsum_congr 64 (fun pr hpr => ?_)
  have e : rU r k c k = c := if_pos rfl
  rw [e, rAp_congr (r' := r) hK hpr (fun t q ht _ => by
    have : rU r k c t = r t := if_neg (by omega)
    rw [this])]
theorem rAA_c (hK : jTok T) : rAA T (rU r k c) (k + 1) = jsum (fun pr => if gd T c pr = none then 0 else rAp T r k pr) 64 := by
  unfold rAA
  rw [jsum_congr 64 (fun x _ => rAp_U hK), jsum_swap]
  refine jsum_congr 64 (fun pr hpr => ?_)
  cases e : gd T c pr with
  | none =>
    rw [if_pos rfl]
    exact jsum_z (fun x _ => if_neg (fun z => by cases z))
  | some y =>
    rw [if_neg (fun z => by cases z)]
    have e3 : ∀ x, x < 64 → (if some y = some x then rAp T r k pr else 0) = if x = y then rAp T r k pr else 0 := fun x _ => by
      by_cases q : x = y
      · rw [if_pos q, q, if_pos rfl]
      · rw [if_neg q, if_neg (fun z => q (Option.some.inj z).symm)]
    rw [jsum_congr 64 e3, jsum_one]
    by_cases hin : rIn T pr
    · rw [if_pos (gd_in hK hin e).2.2]
    · rw [rAp_out hK hpr (Or.inl hin), ite_self]
theorem rAA_m (hK : jTok T) : rAA T (rU r k c) (k + 1) + jsum (fun pr => if rM T c pr = true then rAp T r k pr else 0) 64 = rAA T r k := by
  rw [rAA_c hK, ← jsum_add]
  unfold rAA
  refine jsum_congr 64 (fun pr hpr => ?_)
  by_cases hin : rIn T pr ∧ pr / 8 ≠ pr % 8
  · cases e : gd T c pr with
    | none => rw [if_pos rfl, rM_t hin.1.1 hin.1.2 hin.2 e, if_pos rfl, Nat.zero_add]
    | some y =>
      rw [if_neg (fun z => by cases z), rM_f (fun _ _ _ z => by rw [e] at z; cases z)]
      rfl
  · have z : rAp T r k pr = 0 := rAp_out hK hpr (by
      by_cases q : rIn T pr
      · exact Or.inr (Classical.not_not.mp (fun z => hin ⟨q, z⟩))
      · exact Or.inl q)
    rw [z, ite_self, ite_self]
theorem rsum_le (hK : jTok T) (g : Nat → Nat) (hg : ∀ i, i < 64 → g i ≤ rAp T r k i) : ∀ j, j ≤ 64 → jsum g j ≤ 331776 := fun j hj => by
  have := jsum_le (f := g) (c := 5184) j (fun i hi => Nat.le_trans (hg i (by omega)) (rAp_le hK (by omega)))
  omega
theorem tn_sum {v2 : Int32} (hW : jWd L t μ) (hK : jTok T) (ho : jRO al o) (hAB : A ≠ B) (hB : 102 ≤ B) (sA : jS0 L A = (100, 64)) (sB : jS0 L B = (100, 64)) (hc : c < 25) (hl : lyA T c 64 μ) (hR : ∀ pr, pr < 64 → gI μ A pr = nI (rAp T r k pr))
    (h : ∀ ν z, jFr [B] μ ν → (∀ x, x < 64 → gI ν B x = nI (jsum (fun pr => if gd T c pr = some x then rAp T r k pr else 0) 64)) → jR (d + 2) 69 157 [some (.ref o), some (.int (nI k)), some (.int v2), some (.int (nI c)), some (.ref A), some (.ref B), some (.int (nI (jsum (fun pr => if gd T c pr = none then 0 else rAp T r k pr) 64))), some (.int (nI 64)), z] [] (0, 0) ν Q) :
    ∀ (n j : Nat) (ν : jMem) (z : Option Value), j + n = 64 → jFr [B] μ ν → (∀ x, x < 64 → gI ν B x = nI (jsum (fun pr => if gd T c pr = some x then rAp T r k pr else 0) j)) → jR (d + 2) 69 85 [some (.ref o), some (.int (nI k)), some (.int v2), some (.int (nI c)), some (.ref A), some (.ref B), some (.int (nI (jsum (fun pr => if gd T c pr = none then 0 else rAp T r k pr) j))), some (.int (nI j)), z] [] (0, 0) ν Q := by
  intro n
  induction n with
  | zero =>
    intro j ν z hj hF hS
    obtain rfl : j = 64 := by omega
    have kk := h ν z hF hS
    generalize jsum (fun pr => if gd T c pr = none then 0 else rAp T r k pr) 64 = S at *
    refine b69_85 ?_
    repeat' (first | refine b69_11 ?_ | refine b69_13 ?_ | refine b69_32 ?_ | refine b69_60 ?_ | refine b69_79 ?_ | refine b69_104 ?_ | refine b69_114 ?_ | refine b69_151 ?_ | dsimp only [jb_e0, jb_ec, jb_n, jb_c, jx_op, j1i_c, j2i_c, j1l_c, j2l_c, jil_c, j1r_c, jri_c, jrii_c, jril_c, jrl_c, jrr_c, j2i'_c, jdup_i, jdup_r, jdup2_c, jdup2_l, jpo_c, jli, jll, jlr, jat_0, jat_s, jst, jst2, jkill_i, jkill_r, jkill_l, jkill_n, jnone, jgv_0, jgv_1, jgv_2, jgv_3, jrv_s, jput_0, jput_1, jput_2, jput_3, jpop_0, jpop_1, jcl_s, jc1, jc2, jvi, Nat.reduceAdd, jol_i, jol_l, jol_n, jap_n, jap_c, List.map_cons, List.map_nil, List.sum_cons, List.sum_nil, jcI, jcL, jcR, gI_sI, gI_sL, gI_sR, gL_sI, gL_sL, gL_sR, gR_sI, gR_sL, gR_sR, gS_sI, gS_sL, gS_sR, gN_sI, gN_sL, gN_sR] | simp (disch := omega) only [Nat.zero_le, true_and, and_true, and_self, Nat.reduceLeDiff, true_or, or_true, false_or, or_false, Nat.reduceEqDiff, false_and, and_false, if_false, if_true, reduceIte, not_true_eq_false, not_false_eq_true, true_imp_iff, false_imp_iff, List.map_cons, List.map_nil, List.sum_cons, List.sum_nil, jcI, jcL, jcR, Nat.reduceAdd, jrv_s, j1r_c, jap_n, jap_c, gI_sI, gL_sL, gI_sL, gL_sI, an_lt, an_le, an_eq, an_lt0, an_0le, an_0lt, an_le0, an_eq0, an_eq1, an_1lt, an_le1, an_1le, an_lt1, an_eqm, an_sub, an_sub1, an_div, an_rem, an_in, an_in0, an_in1, an_cl, an_cl0, an_cl1, nI_add, nI_1, an_1a, pk_mul, Nat.reduceMul, jz10, jz01, j00, j11, jb0, Classical.not_not, eq_self, an_ite, an_of, an_nm, nI_l, lN_add, lN_mul, lN_i, lj_2, lj_3, lj_4, lj_5, lj_6, lj_7, lj_8, lj_9, lj_10, lj_11, lj_12, lj_13, lj_14, lj_15, lj_16, lj_17, lj_18, lj_19, lj_20, lj_21, lj_22, lj_23, lj_24, lj_25, lj_26, lj_27, lj_28, lj_29, lj_30, lj_31, lj_32, lj_33, lj_34, lj_35, lj_36, lj_37, lj_38, lj_39, lj_40, lj_48, lj_50, lj_57, lj_59, lj_60, lj_63, lj_64, lj_65, lj_90, lj_96, lj_97, lj_99, lj_100, lj_101, lj_105, lj_112, lj_114, lj_116, lj_119, lj_122, lj_128, lj_200, lj_255, lj_256, lj_500, lj_777, lj_1000] | (refine br_c (fun _ => ?_) (fun _ => ?_) <;> try (exfalso; omega)) | (refine br_d (fun _ => ?_) (fun _ => ?_) <;> try (exfalso; omega)) | refine And.intro ?_ ?_ | (refine Nat.ne_of_gt ?_; omega))
    all_goals exact kk
  | succ n ih =>
    intro j ν z hj hF hS
    have hWν := hF.wd hW
    have hj64 : j < 64 := by omega
    have rf := rwF ho hWν
    have w0 := (rwS L ho).1
    have nAB := eq_false hAB
    have n0 := eq_false (show ¬ B = 0 by omega)
    have eA : gI ν A j = nI (rAp T r k j) := by
      rw [(hF.1 A (by simp; exact hAB)).1]
      exact hR j hj64
    have b1 := rsum_le (r := r) (k := k) hK (fun pr => if gd T c pr = none then 0 else rAp T r k pr) (fun i _ => by split <;> omega) j (by omega)
    have b2 := fun y => rsum_le (r := r) (k := k) hK (fun pr => if gd T c pr = some y then rAp T r k pr else 0) (fun i _ => by split <;> omega) j (by omega)
    have b3 := rAp_le (T := T) (r := r) (k := k) hK hj64
    have ks := ih (j + 1)
    by_cases hw : rAp T r k j = 0
    · have eA0 : gI ν A j = 0 := by
        rw [eA, hw]
        rfl
      have kk := ks ν (some (.int (-1))) (by omega) hF (fun x hx => by
        rw [jsum, hw, ite_self]
        exact hS x hx)
      rw [jsum, hw, ite_self, Nat.add_zero] at kk
      generalize jsum (fun pr => if gd T c pr = none then 0 else rAp T r k pr) j = S at *
      refine b69_85 ?_
      repeat' (first | refine b69_11 ?_ | refine b69_13 ?_ | refine b69_32 ?_ | refine b69_60 ?_ | refine b69_79 ?_ | refine b69_104 ?_ | refine b69_114 ?_ | refine b69_151 ?_ | dsimp only [jb_e0, jb_ec, jb_n, jb_c, jx_op, j1i_c, j2i_c, j1l_c, j2l_c, jil_c, j1r_c, jri_c, jrii_c, jril_c, jrl_c, jrr_c, j2i'_c, jdup_i, jdup_r, jdup2_c, jdup2_l, jpo_c, jli, jll, jlr, jat_0, jat_s, jst, jst2, jkill_i, jkill_r, jkill_l, jkill_n, jnone, jgv_0, jgv_1, jgv_2, jgv_3, jrv_s, jput_0, jput_1, jput_2, jput_3, jpop_0, jpop_1, jcl_s, jc1, jc2, jvi, Nat.reduceAdd, jol_i, jol_l, jol_n, jap_n, jap_c, List.map_cons, List.map_nil, List.sum_cons, List.sum_nil, jcI, jcL, jcR, gI_sI, gI_sL, gI_sR, gL_sI, gL_sL, gL_sR, gR_sI, gR_sL, gR_sR, gS_sI, gS_sL, gS_sR, gN_sI, gN_sL, gN_sR] | simp (disch := omega) only [Nat.zero_le, true_and, and_true, and_self, Nat.reduceLeDiff, true_or, or_true, false_or, or_false, Nat.reduceEqDiff, false_and, and_false, if_false, if_true, reduceIte, not_true_eq_false, not_false_eq_true, true_imp_iff, false_imp_iff, List.map_cons, List.map_nil, List.sum_cons, List.sum_nil, jcI, jcL, jcR, Nat.reduceAdd, jrv_s, j1r_c, jap_n, jap_c, gI_sI, gL_sL, gI_sL, gL_sI, an_lt, an_le, an_eq, an_lt0, an_0le, an_0lt, an_le0, an_eq0, an_eq1, an_1lt, an_le1, an_1le, an_lt1, an_eqm, an_sub, an_sub1, an_div, an_rem, an_in, an_in0, an_in1, an_cl, an_cl0, an_cl1, nI_add, nI_1, an_1a, pk_mul, Nat.reduceMul, jz10, jz01, j00, j11, jb0, Classical.not_not, eq_self, an_ite, an_of, an_nm, nI_l, lN_add, lN_mul, lN_i, lj_2, lj_3, lj_4, lj_5, lj_6, lj_7, lj_8, lj_9, lj_10, lj_11, lj_12, lj_13, lj_14, lj_15, lj_16, lj_17, lj_18, lj_19, lj_20, lj_21, lj_22, lj_23, lj_24, lj_25, lj_26, lj_27, lj_28, lj_29, lj_30, lj_31, lj_32, lj_33, lj_34, lj_35, lj_36, lj_37, lj_38, lj_39, lj_40, lj_48, lj_50, lj_57, lj_59, lj_60, lj_63, lj_64, lj_65, lj_90, lj_96, lj_97, lj_99, lj_100, lj_101, lj_105, lj_112, lj_114, lj_116, lj_119, lj_122, lj_128, lj_200, lj_255, lj_256, lj_500, lj_777, lj_1000, hWν.1, w0, rf, sA, sB, eA0, jm1_lt] | (refine br_c (fun _ => ?_) (fun _ => ?_) <;> try (exfalso; omega)) | (refine br_d (fun _ => ?_) (fun _ => ?_) <;> try (exfalso; omega)) | refine And.intro ?_ ?_ | (refine Nat.ne_of_gt ?_; omega))
      all_goals exact kk
    · have hin : rIn T j ∧ j / 8 ≠ j % 8 := by
        by_cases q1 : rIn T j
        · by_cases q2 : j / 8 = j % 8
          · exact absurd (rAp_out hK hj64 (Or.inr q2)) hw
          · exact ⟨q1, q2⟩
        · exact absurd (rAp_out hK hj64 (Or.inl q1)) hw
      have lead : gI ν (50 + c) j = oI (gd T c j) := by
        obtain ⟨mm, qu, l1, _⟩ := hl
        have := l1 (j / 8) (j % 8) hin.1.1 hin.1.2 hin.2 (by omega)
        rw [Nat.div_add_mod] at this
        rw [(hF.1 (50 + c) (by simp; omega)).1]
        exact this
      have hw' := eq_false hw
      have th : ∀ (d : Nat) (Q' : jQ), Q' (some (.int (oI (gd T c j)))) ν → jC (d + 1) 37 [.ref 48, .int (nI c), .int (nI j)] ν Q' := fun d Q' kq => sp_then hWν hc hj64 lead kq
      cases hg : gd T c j with
      | none =>
        rw [hg] at th
        have th : ∀ (d : Nat) (Q' : jQ), Q' (some (.int (-1))) ν → jC (d + 1) 37 [.ref 48, .int (nI c), .int (nI j)] ν Q' := th
        have kk := ks ν (some (.int (-1))) (by omega) hF (fun x hx => by
          rw [jsum, hg, if_neg (fun z => by cases z)]
          exact hS x hx)
        rw [jsum, hg, if_pos rfl, Nat.add_zero] at kk
        generalize jsum (fun pr => if gd T c pr = none then 0 else rAp T r k pr) j = S at *
        generalize rAp T r k j = w at *
        refine b69_85 ?_
        repeat' (first | refine b69_11 ?_ | refine b69_13 ?_ | refine b69_32 ?_ | refine b69_60 ?_ | refine b69_79 ?_ | refine b69_104 ?_ | refine b69_114 ?_ | refine b69_151 ?_ | refine th _ _ ?_ | dsimp only [jb_e0, jb_ec, jb_n, jb_c, jx_op, j1i_c, j2i_c, j1l_c, j2l_c, jil_c, j1r_c, jri_c, jrii_c, jril_c, jrl_c, jrr_c, j2i'_c, jdup_i, jdup_r, jdup2_c, jdup2_l, jpo_c, jli, jll, jlr, jat_0, jat_s, jst, jst2, jkill_i, jkill_r, jkill_l, jkill_n, jnone, jgv_0, jgv_1, jgv_2, jgv_3, jrv_s, jput_0, jput_1, jput_2, jput_3, jpop_0, jpop_1, jcl_s, jc1, jc2, jvi, Nat.reduceAdd, jol_i, jol_l, jol_n, jap_n, jap_c, List.map_cons, List.map_nil, List.sum_cons, List.sum_nil, jcI, jcL, jcR, gI_sI, gI_sL, gI_sR, gL_sI, gL_sL, gL_sR, gR_sI, gR_sL, gR_sR, gS_sI, gS_sL, gS_sR, gN_sI, gN_sL, gN_sR] | simp (disch := omega) only [Nat.zero_le, true_and, and_true, and_self, Nat.reduceLeDiff, true_or, or_true, false_or, or_false, Nat.reduceEqDiff, false_and, and_false, if_false, if_true, reduceIte, not_true_eq_false, not_false_eq_true, true_imp_iff, false_imp_iff, List.map_cons, List.map_nil, List.sum_cons, List.sum_nil, jcI, jcL, jcR, Nat.reduceAdd, jrv_s, j1r_c, jap_n, jap_c, gI_sI, gL_sL, gI_sL, gL_sI, an_lt, an_le, an_eq, an_lt0, an_0le, an_0lt, an_le0, an_eq0, an_eq1, an_1lt, an_le1, an_1le, an_lt1, an_eqm, an_sub, an_sub1, an_div, an_rem, an_in, an_in0, an_in1, an_cl, an_cl0, an_cl1, nI_add, nI_1, an_1a, pk_mul, Nat.reduceMul, jz10, jz01, j00, j11, jb0, Classical.not_not, eq_self, an_ite, an_of, an_nm, nI_l, lN_add, lN_mul, lN_i, lj_2, lj_3, lj_4, lj_5, lj_6, lj_7, lj_8, lj_9, lj_10, lj_11, lj_12, lj_13, lj_14, lj_15, lj_16, lj_17, lj_18, lj_19, lj_20, lj_21, lj_22, lj_23, lj_24, lj_25, lj_26, lj_27, lj_28, lj_29, lj_30, lj_31, lj_32, lj_33, lj_34, lj_35, lj_36, lj_37, lj_38, lj_39, lj_40, lj_48, lj_50, lj_57, lj_59, lj_60, lj_63, lj_64, lj_65, lj_90, lj_96, lj_97, lj_99, lj_100, lj_101, lj_105, lj_112, lj_114, lj_116, lj_119, lj_122, lj_128, lj_200, lj_255, lj_256, lj_500, lj_777, lj_1000, hWν.1, w0, rf, sA, sB, eA, hw', jm1_lt, jS0_48] | (refine br_c (fun _ => ?_) (fun _ => ?_) <;> try (exfalso; omega)) | (refine br_d (fun _ => ?_) (fun _ => ?_) <;> try (exfalso; omega)) | refine And.intro ?_ ?_ | (refine Nat.ne_of_gt ?_; omega))
        all_goals exact kk
      | some y =>
        rw [hg] at th
        have th : ∀ (d : Nat) (Q' : jQ), Q' (some (.int (nI y))) ν → jC (d + 1) 37 [.ref 48, .int (nI c), .int (nI j)] ν Q' := th
        have hy := (gd_in hK hin.1 hg).2.2
        have eB := hS y hy
        have kk := ks (sI ν B y (nI (jsum (fun pr => if gd T c pr = some y then rAp T r k pr else 0) j + rAp T r k j))) (some (.int (nI y))) (by omega) (hF.trans (jFr.sI (by simp))) (fun x hx => by
          rw [jsum, hg, gI_sI]
          by_cases e : x = y
          · rw [if_pos ⟨rfl, e⟩, e, if_pos rfl]
          · rw [if_neg (fun z => e z.2), if_neg (fun z => e (Option.some.inj z).symm)]
            exact hS x hx)
        rw [jsum, hg, if_neg (fun z => by cases z)] at kk
        have b2y := b2 y
        clear b2 hS ks ih h
        generalize jsum (fun pr => if gd T c pr = none then 0 else rAp T r k pr) j = S at *
        generalize jsum (fun pr => if gd T c pr = some y then rAp T r k pr else 0) j = Sy at *
        generalize rAp T r k j = w at *
        refine b69_85 ?_
        repeat' (first | refine b69_11 ?_ | refine b69_13 ?_ | refine b69_32 ?_ | refine b69_60 ?_ | refine b69_79 ?_ | refine b69_104 ?_ | refine b69_114 ?_ | refine b69_151 ?_ | refine th _ _ ?_ | dsimp only [jb_e0, jb_ec, jb_n, jb_c, jx_op, j1i_c, j2i_c, j1l_c, j2l_c, jil_c, j1r_c, jri_c, jrii_c, jril_c, jrl_c, jrr_c, j2i'_c, jdup_i, jdup_r, jdup2_c, jdup2_l, jpo_c, jli, jll, jlr, jat_0, jat_s, jst, jst2, jkill_i, jkill_r, jkill_l, jkill_n, jnone, jgv_0, jgv_1, jgv_2, jgv_3, jrv_s, jput_0, jput_1, jput_2, jput_3, jpop_0, jpop_1, jcl_s, jc1, jc2, jvi, Nat.reduceAdd, jol_i, jol_l, jol_n, jap_n, jap_c, List.map_cons, List.map_nil, List.sum_cons, List.sum_nil, jcI, jcL, jcR, gI_sI, gI_sL, gI_sR, gL_sI, gL_sL, gL_sR, gR_sI, gR_sL, gR_sR, gS_sI, gS_sL, gS_sR, gN_sI, gN_sL, gN_sR] | simp (disch := omega) only [Nat.zero_le, true_and, and_true, and_self, Nat.reduceLeDiff, true_or, or_true, false_or, or_false, Nat.reduceEqDiff, false_and, and_false, if_false, if_true, reduceIte, not_true_eq_false, not_false_eq_true, true_imp_iff, false_imp_iff, List.map_cons, List.map_nil, List.sum_cons, List.sum_nil, jcI, jcL, jcR, Nat.reduceAdd, jrv_s, j1r_c, jap_n, jap_c, gI_sI, gL_sL, gI_sL, gL_sI, an_lt, an_le, an_eq, an_lt0, an_0le, an_0lt, an_le0, an_eq0, an_eq1, an_1lt, an_le1, an_1le, an_lt1, an_eqm, an_sub, an_sub1, an_div, an_rem, an_in, an_in0, an_in1, an_cl, an_cl0, an_cl1, nI_add, nI_1, an_1a, pk_mul, Nat.reduceMul, jz10, jz01, j00, j11, jb0, Classical.not_not, eq_self, an_ite, an_of, an_nm, nI_l, lN_add, lN_mul, lN_i, lj_2, lj_3, lj_4, lj_5, lj_6, lj_7, lj_8, lj_9, lj_10, lj_11, lj_12, lj_13, lj_14, lj_15, lj_16, lj_17, lj_18, lj_19, lj_20, lj_21, lj_22, lj_23, lj_24, lj_25, lj_26, lj_27, lj_28, lj_29, lj_30, lj_31, lj_32, lj_33, lj_34, lj_35, lj_36, lj_37, lj_38, lj_39, lj_40, lj_48, lj_50, lj_57, lj_59, lj_60, lj_63, lj_64, lj_65, lj_90, lj_96, lj_97, lj_99, lj_100, lj_101, lj_105, lj_112, lj_114, lj_116, lj_119, lj_122, lj_128, lj_200, lj_255, lj_256, lj_500, lj_777, lj_1000, hWν.1, w0, rf, sA, sB, eA, hw', eB, nAB, n0, jS0_48] | (refine br_c (fun _ => ?_) (fun _ => ?_) <;> try (exfalso; omega)) | (refine br_d (fun _ => ?_) (fun _ => ?_) <;> try (exfalso; omega)) | refine And.intro ?_ ?_ | (refine Nat.ne_of_gt ?_; omega))
        all_goals exact kk
theorem sp_tryNext {told : Option Nat} (hW : jWd L t μ) (hK : jTok T) (ho : jRO al o) (hk : k + 1 < 5) (hl : lyB T 25 μ) (hR : ∀ pr, pr < 64 → gI μ (o + 4 + k) pr = nI (rAp T r k pr)) (h1 : gI μ o 1 = jbi al) (h2 : gI μ o 2 = nI (rMx T (tP T))) (ht : ∀ c0, told = some c0 → c0 < 25) (e : gI μ (o + 2) k = oI told)
    (h0 : fol al st (rMx T (tP T)) told = none → Q (some (.int 0)) μ)
    (hs : ∀ c, fol al st (rMx T (tP T)) told = some c → ∀ ν, jFr [o + 2, o + 4 + (k + 1), o + 9] μ ν → (∀ j, gI ν (o + 2) j = if j = k then nI c else gI μ (o + 2) j) → (∀ j, gI ν (o + 9) j = if j = k + 1 then nI (rAA T (rU r k c) (k + 1)) else gI μ (o + 9) j) → (∀ pr, pr < 64 → gI ν (o + 4 + (k + 1)) pr = nI (rAp T (rU r k c) (k + 1) pr)) → Q (some (.int 1)) ν) :
    jC (d + 2) 69 [.ref o, .int (nI k), .int (jbi st)] μ Q := by
  have hm := rMx_4 hK (tP T) (Nat.le_refl _)
  have o100 : 102 ≤ o := by rcases ho with ⟨_, rfl⟩ | ⟨_, rfl⟩ <;> omega
  have rf := rwF ho hW
  have w := rwS L ho
  have fw : ∀ (d : Nat) (Q' : jQ), Q' (some (.int (oI (fol al st (rMx T (tP T)) told)))) μ → jC d 68 [.ref o, .int (oI told), .int (jbi st)] μ Q' := fun d Q' kq => sp_following hW ho h1 h2 hm ht kq
  refine e69 (b69_0 ?_)
  cases hf : fol al st (rMx T (tP T)) told with
  | none =>
    rw [hf] at fw
    have fw : ∀ (d : Nat) (Q' : jQ), Q' (some (.int (-1))) μ → jC d 68 [.ref o, .int (oI told), .int (jbi st)] μ Q' := fw
    have kk := h0 hf
    repeat' (first | refine b69_11 ?_ | refine b69_13 ?_ | refine b69_32 ?_ | refine b69_79 ?_ | refine b69_85 ?_ | refine b69_104 ?_ | refine b69_114 ?_ | refine b69_151 ?_ | refine b69_157 ?_ | refine fw _ _ ?_ | dsimp only [jb_e0, jb_ec, jb_n, jb_c, jx_op, j1i_c, j2i_c, j1l_c, j2l_c, jil_c, j1r_c, jri_c, jrii_c, jril_c, jrl_c, jrr_c, j2i'_c, jdup_i, jdup_r, jdup2_c, jdup2_l, jpo_c, jli, jll, jlr, jat_0, jat_s, jst, jst2, jkill_i, jkill_r, jkill_l, jkill_n, jnone, jgv_0, jgv_1, jgv_2, jgv_3, jrv_s, jput_0, jput_1, jput_2, jput_3, jpop_0, jpop_1, jcl_s, jc1, jc2, jvi, Nat.reduceAdd, jol_i, jol_l, jol_n, jap_n, jap_c, List.map_cons, List.map_nil, List.sum_cons, List.sum_nil, jcI, jcL, jcR, gI_sI, gI_sL, gI_sR, gL_sI, gL_sL, gL_sR, gR_sI, gR_sL, gR_sR, gS_sI, gS_sL, gS_sR, gN_sI, gN_sL, gN_sR] | simp (disch := omega) only [Nat.zero_le, true_and, and_true, and_self, Nat.reduceLeDiff, true_or, or_true, false_or, or_false, Nat.reduceEqDiff, false_and, and_false, if_false, if_true, reduceIte, not_true_eq_false, not_false_eq_true, true_imp_iff, false_imp_iff, List.map_cons, List.map_nil, List.sum_cons, List.sum_nil, jcI, jcL, jcR, Nat.reduceAdd, jrv_s, j1r_c, jap_n, jap_c, gI_sI, gL_sL, gI_sL, gL_sI, an_lt, an_le, an_eq, an_lt0, an_0le, an_0lt, an_le0, an_eq0, an_eq1, an_1lt, an_le1, an_1le, an_lt1, an_eqm, an_sub, an_sub1, an_div, an_rem, an_in, an_in0, an_in1, an_cl, an_cl0, an_cl1, nI_add, nI_1, an_1a, pk_mul, Nat.reduceMul, jz10, jz01, j00, j11, jb0, Classical.not_not, eq_self, an_ite, an_of, an_nm, nI_l, lN_add, lN_mul, lN_i, lj_2, lj_3, lj_4, lj_5, lj_6, lj_7, lj_8, lj_9, lj_10, lj_11, lj_12, lj_13, lj_14, lj_15, lj_16, lj_17, lj_18, lj_19, lj_20, lj_21, lj_22, lj_23, lj_24, lj_25, lj_26, lj_27, lj_28, lj_29, lj_30, lj_31, lj_32, lj_33, lj_34, lj_35, lj_36, lj_37, lj_38, lj_39, lj_40, lj_48, lj_50, lj_57, lj_59, lj_60, lj_63, lj_64, lj_65, lj_90, lj_96, lj_97, lj_99, lj_100, lj_101, lj_105, lj_112, lj_114, lj_116, lj_119, lj_122, lj_128, lj_200, lj_255, lj_256, lj_500, lj_777, lj_1000, hW.1, w, rf, e] | (refine br_c (fun _ => ?_) (fun _ => ?_) <;> try (exfalso; omega)) | (refine br_d (fun _ => ?_) (fun _ => ?_) <;> try (exfalso; omega)) | refine And.intro ?_ ?_ | (refine Nat.ne_of_gt ?_; omega))
    all_goals exact kk
  | some c =>
    rw [hf] at fw
    have fw : ∀ (d : Nat) (Q' : jQ), Q' (some (.int (nI c))) μ → jC d 68 [.ref o, .int (oI told), .int (jbi st)] μ Q' := fw
    have hc : c < 25 := fo_lt _ _ hf
    have rA := rwF4 ho hW (j := k) (by omega)
    have rB := rwF4 ho hW (j := k + 1) hk
    have sA := rwS4 L ho (j := k) (by omega)
    have sB := rwS4 L ho (j := k + 1) hk
    have key : ∀ (n j : Nat) (ν : jMem) (z7 z8 : Option Value), j + n = 64 → jFr [o + 4 + (k + 1)] (sI μ (o + 2) k (nI c)) ν → (∀ x, x < j → gI ν (o + 4 + (k + 1)) x = 0) → jR (d + 2) 69 60 [some (.ref o), some (.int (nI k)), some (.int (jbi st)), some (.int (nI c)), some (.ref (o + 4 + k)), some (.ref (o + 4 + (k + 1))), some (.int (nI j)), z7, z8] [] (0, 0) ν Q := by
      intro n
      induction n with
      | zero =>
        intro j ν z7 z8 hj hF hz
        obtain rfl : j = 64 := by omega
        have hWν := hF.wd (μ := sI μ (o + 2) k (nI c)) hW
        have other : ∀ a, a ≠ o + 2 → a ≠ o + 4 + (k + 1) → ∀ i, gI ν a i = gI μ a i := fun a n1 n2 i => by
          rw [(hF.1 a (by simp; omega)).1, gI_sI, if_neg (fun z => n1 z.1)]
        have kk := tn_sum (d := d) (Q := Q) (v2 := jbi st) (A := o + 4 + k) (B := o + 4 + (k + 1)) (r := r) (k := k) hWν hK ho (by omega) (by omega) sA sB hc (lyA_of (other _ (by omega) (by omega)) (other _ (by omega) (by omega)) (other _ (by omega) (by omega) c) (hl c hc)) (fun pr hpr => by rw [other _ (by omega) (by omega)]; exact hR pr hpr) (fun ξ z F g => by
          have hWξ := F.wd hWν
          have k3 := hs c hf (sI ξ (o + 9) (k + 1) (nI (jsum (fun pr => if gd T c pr = none then 0 else rAp T r k pr) 64))) ((((jFr.sI (by simp)).trans (hF.mono (by simp))).trans (F.mono (by simp))).trans (jFr.sI (by simp))) (fun j => by
            rw [gI_sI, if_neg (fun z => by omega), (F.1 (o + 2) (by simp; omega)).1, (hF.1 (o + 2) (by simp; omega)).1, gI_sI]
            by_cases e : j = k
            · rw [if_pos ⟨rfl, e⟩, if_pos e]
            · rw [if_neg (fun z => e z.2), if_neg e]) (fun j => by
            rw [gI_sI]
            by_cases e : j = k + 1
            · rw [if_pos ⟨rfl, e⟩, if_pos e, rAA_c hK]
            · rw [if_neg (fun z => e z.2), if_neg e, (F.1 (o + 9) (by simp; omega)).1, other _ (by omega) (by omega)]) (fun pr hpr => by
            rw [gI_sI, if_neg (fun z => by omega), g pr hpr, rAp_U hK])
          have rfξ := rwF ho hWξ
          generalize jsum (fun pr => if gd T c pr = none then 0 else rAp T r k pr) 64 = S at *
          refine b69_157 ?_
          have n9 := eq_false (show ¬ o + 9 = 0 by omega)
          repeat' (first | refine b69_11 ?_ | refine b69_13 ?_ | refine b69_32 ?_ | refine b69_60 ?_ | refine b69_79 ?_ | refine b69_85 ?_ | refine b69_104 ?_ | refine b69_114 ?_ | refine b69_151 ?_ | refine b69_157 ?_ | dsimp only [jb_e0, jb_ec, jb_n, jb_c, jx_op, j1i_c, j2i_c, j1l_c, j2l_c, jil_c, j1r_c, jri_c, jrii_c, jril_c, jrl_c, jrr_c, j2i'_c, jdup_i, jdup_r, jdup2_c, jdup2_l, jpo_c, jli, jll, jlr, jat_0, jat_s, jst, jst2, jkill_i, jkill_r, jkill_l, jkill_n, jnone, jgv_0, jgv_1, jgv_2, jgv_3, jrv_s, jput_0, jput_1, jput_2, jput_3, jpop_0, jpop_1, jcl_s, jc1, jc2, jvi, Nat.reduceAdd, jol_i, jol_l, jol_n, jap_n, jap_c, List.map_cons, List.map_nil, List.sum_cons, List.sum_nil, jcI, jcL, jcR, gI_sI, gI_sL, gI_sR, gL_sI, gL_sL, gL_sR, gR_sI, gR_sL, gR_sR, gS_sI, gS_sL, gS_sR, gN_sI, gN_sL, gN_sR] | simp (disch := omega) only [Nat.zero_le, true_and, and_true, and_self, Nat.reduceLeDiff, true_or, or_true, false_or, or_false, Nat.reduceEqDiff, false_and, and_false, if_false, if_true, reduceIte, not_true_eq_false, not_false_eq_true, true_imp_iff, false_imp_iff, List.map_cons, List.map_nil, List.sum_cons, List.sum_nil, jcI, jcL, jcR, Nat.reduceAdd, jrv_s, j1r_c, jap_n, jap_c, gI_sI, gL_sL, gI_sL, gL_sI, an_lt, an_le, an_eq, an_lt0, an_0le, an_0lt, an_le0, an_eq0, an_eq1, an_1lt, an_le1, an_1le, an_lt1, an_eqm, an_sub, an_sub1, an_div, an_rem, an_in, an_in0, an_in1, an_cl, an_cl0, an_cl1, nI_add, nI_1, an_1a, pk_mul, Nat.reduceMul, jz10, jz01, j00, j11, jb0, Classical.not_not, eq_self, an_ite, an_of, an_nm, nI_l, lN_add, lN_mul, lN_i, lj_2, lj_3, lj_4, lj_5, lj_6, lj_7, lj_8, lj_9, lj_10, lj_11, lj_12, lj_13, lj_14, lj_15, lj_16, lj_17, lj_18, lj_19, lj_20, lj_21, lj_22, lj_23, lj_24, lj_25, lj_26, lj_27, lj_28, lj_29, lj_30, lj_31, lj_32, lj_33, lj_34, lj_35, lj_36, lj_37, lj_38, lj_39, lj_40, lj_48, lj_50, lj_57, lj_59, lj_60, lj_63, lj_64, lj_65, lj_90, lj_96, lj_97, lj_99, lj_100, lj_101, lj_105, lj_112, lj_114, lj_116, lj_119, lj_122, lj_128, lj_200, lj_255, lj_256, lj_500, lj_777, lj_1000, hWξ.1, w, rfξ, n9] | (refine br_c (fun _ => ?_) (fun _ => ?_) <;> try (exfalso; omega)) | (refine br_d (fun _ => ?_) (fun _ => ?_) <;> try (exfalso; omega)) | refine And.intro ?_ ?_ | (refine Nat.ne_of_gt ?_; omega))
          all_goals exact k3) 64 0 ν z8 rfl jFr.rf (fun x hx => hz x hx)
        refine b69_60 ?_
        repeat' (first | refine b69_11 ?_ | refine b69_13 ?_ | refine b69_32 ?_ | refine b69_79 ?_ | refine b69_104 ?_ | refine b69_114 ?_ | refine b69_151 ?_ | refine b69_157 ?_ | dsimp only [jb_e0, jb_ec, jb_n, jb_c, jx_op, j1i_c, j2i_c, j1l_c, j2l_c, jil_c, j1r_c, jri_c, jrii_c, jril_c, jrl_c, jrr_c, j2i'_c, jdup_i, jdup_r, jdup2_c, jdup2_l, jpo_c, jli, jll, jlr, jat_0, jat_s, jst, jst2, jkill_i, jkill_r, jkill_l, jkill_n, jnone, jgv_0, jgv_1, jgv_2, jgv_3, jrv_s, jput_0, jput_1, jput_2, jput_3, jpop_0, jpop_1, jcl_s, jc1, jc2, jvi, Nat.reduceAdd, jol_i, jol_l, jol_n, jap_n, jap_c, List.map_cons, List.map_nil, List.sum_cons, List.sum_nil, jcI, jcL, jcR, gI_sI, gI_sL, gI_sR, gL_sI, gL_sL, gL_sR, gR_sI, gR_sL, gR_sR, gS_sI, gS_sL, gS_sR, gN_sI, gN_sL, gN_sR] | simp (disch := omega) only [Nat.zero_le, true_and, and_true, and_self, Nat.reduceLeDiff, true_or, or_true, false_or, or_false, Nat.reduceEqDiff, false_and, and_false, if_false, if_true, reduceIte, not_true_eq_false, not_false_eq_true, true_imp_iff, false_imp_iff, List.map_cons, List.map_nil, List.sum_cons, List.sum_nil, jcI, jcL, jcR, Nat.reduceAdd, jrv_s, j1r_c, jap_n, jap_c, gI_sI, gL_sL, gI_sL, gL_sI, an_lt, an_le, an_eq, an_lt0, an_0le, an_0lt, an_le0, an_eq0, an_eq1, an_1lt, an_le1, an_1le, an_lt1, an_eqm, an_sub, an_sub1, an_div, an_rem, an_in, an_in0, an_in1, an_cl, an_cl0, an_cl1, nI_add, nI_1, an_1a, pk_mul, Nat.reduceMul, jz10, jz01, j00, j11, jb0, Classical.not_not, eq_self, an_ite, an_of, an_nm, nI_l, lN_add, lN_mul, lN_i, lj_2, lj_3, lj_4, lj_5, lj_6, lj_7, lj_8, lj_9, lj_10, lj_11, lj_12, lj_13, lj_14, lj_15, lj_16, lj_17, lj_18, lj_19, lj_20, lj_21, lj_22, lj_23, lj_24, lj_25, lj_26, lj_27, lj_28, lj_29, lj_30, lj_31, lj_32, lj_33, lj_34, lj_35, lj_36, lj_37, lj_38, lj_39, lj_40, lj_48, lj_50, lj_57, lj_59, lj_60, lj_63, lj_64, lj_65, lj_90, lj_96, lj_97, lj_99, lj_100, lj_101, lj_105, lj_112, lj_114, lj_116, lj_119, lj_122, lj_128, lj_200, lj_255, lj_256, lj_500, lj_777, lj_1000] | (refine br_c (fun _ => ?_) (fun _ => ?_) <;> try (exfalso; omega)) | (refine br_d (fun _ => ?_) (fun _ => ?_) <;> try (exfalso; omega)) | refine And.intro ?_ ?_ | (refine Nat.ne_of_gt ?_; omega))
        all_goals exact kk
      | succ n ih =>
        intro j ν z7 z8 hj hF hz
        have hWν := hF.wd (μ := sI μ (o + 2) k (nI c)) hW
        have n5 := eq_false (show ¬ o + 4 + (k + 1) = 0 by omega)
        have kk := ih (j + 1) (sI ν (o + 4 + (k + 1)) j 0) z7 z8 (by omega) (hF.trans (jFr.sI (by simp))) (fun x hx => by
          rw [gI_sI]
          by_cases e : x = j
          · rw [if_pos ⟨rfl, e⟩]
          · rw [if_neg (fun z => e z.2)]
            exact hz x (by omega))
        generalize o + 4 + (k + 1) = B at *
        refine b69_60 ?_
        repeat' (first | refine b69_11 ?_ | refine b69_13 ?_ | refine b69_32 ?_ | refine b69_79 ?_ | refine b69_104 ?_ | refine b69_114 ?_ | refine b69_151 ?_ | refine b69_157 ?_ | dsimp only [jb_e0, jb_ec, jb_n, jb_c, jx_op, j1i_c, j2i_c, j1l_c, j2l_c, jil_c, j1r_c, jri_c, jrii_c, jril_c, jrl_c, jrr_c, j2i'_c, jdup_i, jdup_r, jdup2_c, jdup2_l, jpo_c, jli, jll, jlr, jat_0, jat_s, jst, jst2, jkill_i, jkill_r, jkill_l, jkill_n, jnone, jgv_0, jgv_1, jgv_2, jgv_3, jrv_s, jput_0, jput_1, jput_2, jput_3, jpop_0, jpop_1, jcl_s, jc1, jc2, jvi, Nat.reduceAdd, jol_i, jol_l, jol_n, jap_n, jap_c, List.map_cons, List.map_nil, List.sum_cons, List.sum_nil, jcI, jcL, jcR, gI_sI, gI_sL, gI_sR, gL_sI, gL_sL, gL_sR, gR_sI, gR_sL, gR_sR, gS_sI, gS_sL, gS_sR, gN_sI, gN_sL, gN_sR] | simp (disch := omega) only [Nat.zero_le, true_and, and_true, and_self, Nat.reduceLeDiff, true_or, or_true, false_or, or_false, Nat.reduceEqDiff, false_and, and_false, if_false, if_true, reduceIte, not_true_eq_false, not_false_eq_true, true_imp_iff, false_imp_iff, List.map_cons, List.map_nil, List.sum_cons, List.sum_nil, jcI, jcL, jcR, Nat.reduceAdd, jrv_s, j1r_c, jap_n, jap_c, gI_sI, gL_sL, gI_sL, gL_sI, an_lt, an_le, an_eq, an_lt0, an_0le, an_0lt, an_le0, an_eq0, an_eq1, an_1lt, an_le1, an_1le, an_lt1, an_eqm, an_sub, an_sub1, an_div, an_rem, an_in, an_in0, an_in1, an_cl, an_cl0, an_cl1, nI_add, nI_1, an_1a, pk_mul, Nat.reduceMul, jz10, jz01, j00, j11, jb0, Classical.not_not, eq_self, an_ite, an_of, an_nm, nI_l, lN_add, lN_mul, lN_i, lj_2, lj_3, lj_4, lj_5, lj_6, lj_7, lj_8, lj_9, lj_10, lj_11, lj_12, lj_13, lj_14, lj_15, lj_16, lj_17, lj_18, lj_19, lj_20, lj_21, lj_22, lj_23, lj_24, lj_25, lj_26, lj_27, lj_28, lj_29, lj_30, lj_31, lj_32, lj_33, lj_34, lj_35, lj_36, lj_37, lj_38, lj_39, lj_40, lj_48, lj_50, lj_57, lj_59, lj_60, lj_63, lj_64, lj_65, lj_90, lj_96, lj_97, lj_99, lj_100, lj_101, lj_105, lj_112, lj_114, lj_116, lj_119, lj_122, lj_128, lj_200, lj_255, lj_256, lj_500, lj_777, lj_1000, hWν.1, sB, n5] | (refine br_c (fun _ => ?_) (fun _ => ?_) <;> try (exfalso; omega)) | (refine br_d (fun _ => ?_) (fun _ => ?_) <;> try (exfalso; omega)) | refine And.intro ?_ ?_ | (refine Nat.ne_of_gt ?_; omega))
        all_goals exact kk
    have kk := key 64 0 (sI μ (o + 2) k (nI c)) none none rfl jFr.rf (fun x hx => absurd hx (Nat.not_lt_zero _))
    have n2 := eq_false (show ¬ o + 2 = 0 by omega)
    clear key hs h0
    generalize o + 4 + (k + 1) = B at *
    generalize o + 4 + k = A at *
    repeat' (first | refine b69_11 ?_ | refine b69_13 ?_ | refine b69_32 ?_ | refine b69_79 ?_ | refine b69_85 ?_ | refine b69_104 ?_ | refine b69_114 ?_ | refine b69_151 ?_ | refine b69_157 ?_ | refine fw _ _ ?_ | dsimp only [jb_e0, jb_ec, jb_n, jb_c, jx_op, j1i_c, j2i_c, j1l_c, j2l_c, jil_c, j1r_c, jri_c, jrii_c, jril_c, jrl_c, jrr_c, j2i'_c, jdup_i, jdup_r, jdup2_c, jdup2_l, jpo_c, jli, jll, jlr, jat_0, jat_s, jst, jst2, jkill_i, jkill_r, jkill_l, jkill_n, jnone, jgv_0, jgv_1, jgv_2, jgv_3, jrv_s, jput_0, jput_1, jput_2, jput_3, jpop_0, jpop_1, jcl_s, jc1, jc2, jvi, Nat.reduceAdd, jol_i, jol_l, jol_n, jap_n, jap_c, List.map_cons, List.map_nil, List.sum_cons, List.sum_nil, jcI, jcL, jcR, gI_sI, gI_sL, gI_sR, gL_sI, gL_sL, gL_sR, gR_sI, gR_sL, gR_sR, gS_sI, gS_sL, gS_sR, gN_sI, gN_sL, gN_sR] | simp (disch := omega) only [Nat.zero_le, true_and, and_true, and_self, Nat.reduceLeDiff, true_or, or_true, false_or, or_false, Nat.reduceEqDiff, false_and, and_false, if_false, if_true, reduceIte, not_true_eq_false, not_false_eq_true, true_imp_iff, false_imp_iff, List.map_cons, List.map_nil, List.sum_cons, List.sum_nil, jcI, jcL, jcR, Nat.reduceAdd, jrv_s, j1r_c, jap_n, jap_c, gI_sI, gL_sL, gI_sL, gL_sI, an_lt, an_le, an_eq, an_lt0, an_0le, an_0lt, an_le0, an_eq0, an_eq1, an_1lt, an_le1, an_1le, an_lt1, an_eqm, an_sub, an_sub1, an_div, an_rem, an_in, an_in0, an_in1, an_cl, an_cl0, an_cl1, nI_add, nI_1, an_1a, pk_mul, Nat.reduceMul, jz10, jz01, j00, j11, jb0, Classical.not_not, eq_self, an_ite, an_of, an_nm, nI_l, lN_add, lN_mul, lN_i, lj_2, lj_3, lj_4, lj_5, lj_6, lj_7, lj_8, lj_9, lj_10, lj_11, lj_12, lj_13, lj_14, lj_15, lj_16, lj_17, lj_18, lj_19, lj_20, lj_21, lj_22, lj_23, lj_24, lj_25, lj_26, lj_27, lj_28, lj_29, lj_30, lj_31, lj_32, lj_33, lj_34, lj_35, lj_36, lj_37, lj_38, lj_39, lj_40, lj_48, lj_50, lj_57, lj_59, lj_60, lj_63, lj_64, lj_65, lj_90, lj_96, lj_97, lj_99, lj_100, lj_101, lj_105, lj_112, lj_114, lj_116, lj_119, lj_122, lj_128, lj_200, lj_255, lj_256, lj_500, lj_777, lj_1000, hW.1, w, rf, e, rA, rB, n2] | (refine br_c (fun _ => ?_) (fun _ => ?_) <;> try (exfalso; omega)) | (refine br_d (fun _ => ?_) (fun _ => ?_) <;> try (exfalso; omega)) | refine And.intro ?_ ?_ | (refine Nat.ne_of_gt ?_; omega))
    all_goals exact kk
end JRG
