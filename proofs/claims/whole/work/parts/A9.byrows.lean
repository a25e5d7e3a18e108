/-! agreed, alike: the reference walks by a row -/
section JRN
variable {d L t : Nat} {μ : jMem} {Q : jQ} {T : jT} {a b c m n o k s : Nat} {al : Bool} {r e : Nat → Nat}
def rTm (T : jT) (r : Nat → Nat) (m s : Nat) : Nat := jsum (fun k => if rWt T r k s = none then 0 else 1) m
theorem rWt_nn (h : rWt T r k s = none) : ∀ j, rWt T r (k + j) s = none
  | 0 => h
  | j + 1 => by
    rw [← Nat.add_assoc, rWt, rWt_nn h j]
    rfl
theorem rTm_all : ∀ m, (∀ k, k < m → rWt T r k s ≠ none) → rTm T r m s = m
  | 0, _ => rfl
  | m + 1, h => by
    unfold rTm
    rw [jsum, if_neg (h m (by omega))]
    have := rTm_all m (fun k hk => h k (by omega))
    unfold rTm at this
    rw [this]
theorem rTm_cut (hk : k ≤ m) (h : rWt T r k s = none) : rTm T r m s = rTm T r k s := jsum_cut hk (fun i _ hi => by
  obtain ⟨j, rfl⟩ : ∃ j, i = k + j := ⟨i - k, by omega⟩
  exact if_pos (rWt_nn h j))
theorem rWt_some (h : rWt T r k s ≠ none) (hj : m ≤ k) : rWt T r m s ≠ none := fun z => by
  obtain ⟨j, rfl⟩ : ∃ j, k = m + j := ⟨k - m, by omega⟩
  exact h (rWt_nn z j)
theorem rTm_le : rTm T r m s ≤ m := by
  have := jsum_le (f := fun k => if rWt T r k s = none then 0 else 1) (c := 1) m (fun i _ => by split <;> omega)
  unfold rTm
  omega
/-- what the reference says of a beginning -/
def rBy (T : jT) (r : Nat → Nat) (n s : Nat) : Option Nat := if rWt T r n s = none then some (rTm T r n s) else none
theorem rBy_meet (hk : k < n) (hs : rWt T r k s ≠ none) (h : rWt T r (k + 1) s = none) : rBy T r n s = some (k + 1) := by
  have hn : rWt T r n s = none := by
    obtain ⟨j, rfl⟩ : ∃ j, n = k + 1 + j := ⟨n - (k + 1), by omega⟩
    exact rWt_nn h j
  unfold rBy
  rw [if_pos hn, rTm_cut (k := k + 1) (by omega) h, rTm_all (k + 1) (fun i hi => rWt_some hs (by omega))]
def rI1 (al : Bool) (t : Nat) : Nat := if al = true then t else 2 * t
def rI2 (al : Bool) (t : Nat) : Nat := if al = true then t else 2 * t + 1
def rHd (al : Bool) (n : Nat) (e : Nat → Nat) (μ : jMem) : Prop := ∀ t, t < n → e t < rB al ∧ gI μ 160 (rI1 al t) = nI (rX al (e t)) ∧ gI μ 160 (rI2 al t) = nI (rY al (e t))
theorem sM_byRows (hW : jWd L t μ) (hK : jTok T) (hM : jTM T μ) (ha : a < tP T) (hb : b < tP T) (hn : n ≤ 5) (hal : al = false → n ≤ 3) (hd : rHd al n e μ) (h : Q (some (.int (oI (rBy T (fun t => rC al T t (e t)) n (8 * a + b))))) μ) : jC (d + 3) 258 [.ref 133, .int (nI a), .int (nI b), .int (nI n), .int (jbi al)] μ Q := by
  have h8 := hK.1.1
  have q24 := hM.1.2.2.2.1
  have sl := hK.1.2.2.1
  have f1 : (8 * a + b) / 8 = a := by omega
  have f2 : (8 * a + b) % 8 = b := by omega
  have jf : jbi false = 0 := rfl
  have jt : jbi true = 1 := rfl
  have loop : ∀ (m k p q : Nat) (z8 z9 : Option Value), k + m = n → p < tP T → q < tP T → rWt T (fun t => rC al T t (e t)) k (8 * a + b) = some (8 * p + q) → jR (d + 3) 258 18 [some (.ref 133), some (.int (nI a)), some (.int (nI b)), some (.int (nI n)), some (.int (jbi al)), some (.int (nI p)), some (.int (nI q)), some (.int (nI k)), z8, z9] [] (0, 0) μ Q := by
    intro m
    induction m with
    | zero =>
      intro k p q z8 z9 hk hp hq hs
      obtain rfl : k = n := by omega
      have kk : Q (some (.int (-1))) μ := by
        unfold rBy at h
        rw [if_neg (by rw [hs]; exact fun z => by cases z)] at h
        exact h
      generalize jbi al = v at *
      refine b258_18 ?_
      repeat' (first | refine b258_15 ?_ | refine b258_49 ?_ | refine b258_53 ?_ | refine b258_86 ?_ | refine b258_92 ?_ | refine b258_98 ?_ | refine b258_118 ?_ | refine b258_124 ?_ | dsimp only [jb_e0, jb_ec, jb_n, jb_c, jx_op, j1i_c, j2i_c, j1l_c, j2l_c, jil_c, j1r_c, jri_c, jrii_c, jril_c, jrl_c, jrr_c, j2i'_c, jdup_i, jdup_r, jdup2_c, jdup2_l, jpo_c, jli, jll, jlr, jat_0, jat_s, jst, jst2, jkill_i, jkill_r, jkill_l, jkill_n, jnone, jgv_0, jgv_1, jgv_2, jgv_3, jrv_s, jput_0, jput_1, jput_2, jput_3, jpop_0, jpop_1, jcl_s, jc1, jc2, jvi, Nat.reduceAdd, jol_i, jol_l, jol_n, jap_n, jap_c, List.map_cons, List.map_nil, List.sum_cons, List.sum_nil, jcI, jcL, jcR, gI_sI, gI_sL, gI_sR, gL_sI, gL_sL, gL_sR, gR_sI, gR_sL, gR_sR, gS_sI, gS_sL, gS_sR, gN_sI, gN_sL, gN_sR] | simp (disch := omega) only [Nat.zero_le, true_and, and_true, and_self, Nat.reduceLeDiff, true_or, or_true, false_or, or_false, Nat.reduceEqDiff, false_and, and_false, if_false, if_true, reduceIte, not_true_eq_false, not_false_eq_true, true_imp_iff, false_imp_iff, List.map_cons, List.map_nil, List.sum_cons, List.sum_nil, jcI, jcL, jcR, Nat.reduceAdd, jrv_s, j1r_c, jap_n, jap_c, gI_sI, gL_sL, gI_sL, gL_sI, an_lt, an_le, an_eq, an_lt0, an_0le, an_0lt, an_le0, an_eq0, an_eq1, an_1lt, an_le1, an_1le, an_lt1, an_eqm, an_sub, an_sub1, an_div, an_rem, an_in, an_in0, an_in1, an_cl, an_cl0, an_cl1, nI_add, nI_1, an_1a, pk_mul, Nat.reduceMul, jz10, jz01, j00, j11, jb0, Classical.not_not, eq_self, an_ite, an_of, an_nm, nI_l, lN_add, lN_mul, lN_i, lj_2, lj_3, lj_4, lj_5, lj_6, lj_7, lj_8, lj_9, lj_10, lj_11, lj_12, lj_13, lj_14, lj_15, lj_16, lj_17, lj_18, lj_19, lj_20, lj_21, lj_22, lj_23, lj_24, lj_25, lj_26, lj_27, lj_28, lj_29, lj_30, lj_31, lj_32, lj_33, lj_34, lj_35, lj_36, lj_37, lj_38, lj_39, lj_40, lj_48, lj_50, lj_57, lj_59, lj_60, lj_63, lj_64, lj_65, lj_90, lj_96, lj_97, lj_99, lj_100, lj_101, lj_105, lj_112, lj_114, lj_116, lj_119, lj_122, lj_128, lj_200, lj_255, lj_256, lj_500, lj_777, lj_1000] | (refine br_c (fun _ => ?_) (fun _ => ?_) <;> try (exfalso; omega)) | (refine br_d (fun _ => ?_) (fun _ => ?_) <;> try (exfalso; omega)) | refine And.intro ?_ ?_ | (refine Nat.ne_of_gt ?_; omega))
      all_goals exact kk
    | succ m ih =>
      intro k p q z8 z9 hk hp hq hs
      obtain ⟨e0, e1, e2⟩ := hd k (by omega)
      obtain ⟨x5, y5⟩ := rXY_lt e0
      have hx := tA_lt (s := rX al (e k)) hK hp
      have hy := tA_lt (s := rSd T k (rY al (e k))) hK hq
      have s5 : rSd T k (rY al (e k)) < 5 := by
        unfold rSd
        split <;> omega
      have hstep : rWt T (fun t => rC al T t (e t)) (k + 1) (8 * a + b) = gd T (rC al T k (e k)) (8 * p + q) := by
        rw [rWt, hs]
        rfl
      have hgd : gd T (rC al T k (e k)) (8 * p + q) = if tA T p (rX al (e k)) = tA T q (rSd T k (rY al (e k))) ∨ (tCr T ≠ 0 ∧ tA T p (rX al (e k)) = q ∧ tA T q (rSd T k (rY al (e k))) = p) then none else some (8 * tA T p (rX al (e k)) + tA T q (rSd T k (rY al (e k)))) := by
        unfold rC
        rw [gd_c s5, show (8 * p + q) / 8 = p by omega, show (8 * p + q) % 8 = q by omega]
      rw [hgd] at hstep
      have go1 : ∀ (d : Nat) (Q' : jQ), Q' (some (.int (nI (tA T p (rX al (e k)))))) μ → jC (d + 2) 234 [.ref 133, .int (nI p), .int (nI (rX al (e k)))] μ Q' := fun d Q' kq => sM_go hW hK hM hp x5 kq
      have go2 : k % tSl T = 0 → ∀ (d : Nat) (Q' : jQ), Q' (some (.int (nI (tA T q (rSd T k (rY al (e k))))))) μ → jC (d + 2) 234 [.ref 133, .int (nI q), .int (nI (rY al (e k)))] μ Q' := fun z d Q' kq => sM_go hW hK hM hq y5 (by
        unfold rSd at kq
        rw [if_pos z] at kq
        exact kq)
      have stay : k % tSl T ≠ 0 → tA T q (rSd T k (rY al (e k))) = q := fun z => by
        unfold rSd
        rw [if_neg z, tA_0]
      have meet : rWt T (fun t => rC al T t (e t)) (k + 1) (8 * a + b) = none → Q (some (.int (nI (k + 1)))) μ := fun z => by
        rw [rBy_meet (by omega) (by rw [hs]; exact fun z => by cases z) z] at h
        exact h
      have hmb : k % tSl T < 5 := Nat.lt_of_lt_of_le (Nat.mod_lt _ (by omega)) (by omega)
      have ihk := ih (k + 1)
      clear hgd h
      generalize rX al (e k) = x at *
      generalize rY al (e k) = y at *
      generalize tA T p x = X at *
      generalize tA T q (rSd T k y) = Y at *
      have fin : ∀ (z : jR (d + 3) 258 98 [some (.ref 133), some (.int (nI a)), some (.int (nI b)), some (.int (nI n)), some (.int (jbi al)), some (.int (nI X)), some (.int (nI Y)), some (.int (nI k)), some (.int (nI p)), some (.int (nI q))] [] (0, 0) μ Q → jR (d + 3) 258 18 [some (.ref 133), some (.int (nI a)), some (.int (nI b)), some (.int (nI n)), some (.int (jbi al)), some (.int (nI p)), some (.int (nI q)), some (.int (nI k)), z8, z9] [] (0, 0) μ Q), jR (d + 3) 258 18 [some (.ref 133), some (.int (nI a)), some (.int (nI b)), some (.int (nI n)), some (.int (jbi al)), some (.int (nI p)), some (.int (nI q)), some (.int (nI k)), z8, z9] [] (0, 0) μ Q := fun z => z (by
        by_cases cm : X = Y ∨ (tCr T ≠ 0 ∧ X = q ∧ Y = p)
        · have me : ∀ (d : Nat) (Q' : jQ), Q' (some (.int 1)) μ → jC d 249 [.ref 133, .int (nI X), .int (nI Y), .int (nI p), .int (nI q)] μ Q' := fun d Q' kq => sM_meets hW hK hM hp hq hx hy (by rw [if_pos cm]; exact kq)
          rw [if_pos cm] at hstep
          have kk := meet hstep
          generalize jbi al = v at *
          refine b258_98 ?_
          repeat' (first | refine b258_15 ?_ | refine b258_49 ?_ | refine b258_53 ?_ | refine b258_86 ?_ | refine b258_92 ?_ | refine b258_98 ?_ | refine b258_118 ?_ | refine b258_124 ?_ | refine me _ _ ?_ | dsimp only [jb_e0, jb_ec, jb_n, jb_c, jx_op, j1i_c, j2i_c, j1l_c, j2l_c, jil_c, j1r_c, jri_c, jrii_c, jril_c, jrl_c, jrr_c, j2i'_c, jdup_i, jdup_r, jdup2_c, jdup2_l, jpo_c, jli, jll, jlr, jat_0, jat_s, jst, jst2, jkill_i, jkill_r, jkill_l, jkill_n, jnone, jgv_0, jgv_1, jgv_2, jgv_3, jrv_s, jput_0, jput_1, jput_2, jput_3, jpop_0, jpop_1, jcl_s, jc1, jc2, jvi, Nat.reduceAdd, jol_i, jol_l, jol_n, jap_n, jap_c, List.map_cons, List.map_nil, List.sum_cons, List.sum_nil, jcI, jcL, jcR, gI_sI, gI_sL, gI_sR, gL_sI, gL_sL, gL_sR, gR_sI, gR_sL, gR_sR, gS_sI, gS_sL, gS_sR, gN_sI, gN_sL, gN_sR] | simp (disch := omega) only [Nat.zero_le, true_and, and_true, and_self, Nat.reduceLeDiff, true_or, or_true, false_or, or_false, Nat.reduceEqDiff, false_and, and_false, if_false, if_true, reduceIte, not_true_eq_false, not_false_eq_true, true_imp_iff, false_imp_iff, List.map_cons, List.map_nil, List.sum_cons, List.sum_nil, jcI, jcL, jcR, Nat.reduceAdd, jrv_s, j1r_c, jap_n, jap_c, gI_sI, gL_sL, gI_sL, gL_sI, an_lt, an_le, an_eq, an_lt0, an_0le, an_0lt, an_le0, an_eq0, an_eq1, an_1lt, an_le1, an_1le, an_lt1, an_eqm, an_sub, an_sub1, an_div, an_rem, an_in, an_in0, an_in1, an_cl, an_cl0, an_cl1, nI_add, nI_1, an_1a, pk_mul, Nat.reduceMul, jz10, jz01, j00, j11, jb0, Classical.not_not, eq_self, an_ite, an_of, an_nm, nI_l, lN_add, lN_mul, lN_i, lj_2, lj_3, lj_4, lj_5, lj_6, lj_7, lj_8, lj_9, lj_10, lj_11, lj_12, lj_13, lj_14, lj_15, lj_16, lj_17, lj_18, lj_19, lj_20, lj_21, lj_22, lj_23, lj_24, lj_25, lj_26, lj_27, lj_28, lj_29, lj_30, lj_31, lj_32, lj_33, lj_34, lj_35, lj_36, lj_37, lj_38, lj_39, lj_40, lj_48, lj_50, lj_57, lj_59, lj_60, lj_63, lj_64, lj_65, lj_90, lj_96, lj_97, lj_99, lj_100, lj_101, lj_105, lj_112, lj_114, lj_116, lj_119, lj_122, lj_128, lj_200, lj_255, lj_256, lj_500, lj_777, lj_1000, hW.1, jS0_133] | (refine br_c (fun _ => ?_) (fun _ => ?_) <;> try (exfalso; omega)) | (refine br_d (fun _ => ?_) (fun _ => ?_) <;> try (exfalso; omega)) | refine And.intro ?_ ?_ | (refine Nat.ne_of_gt ?_; omega))
          all_goals exact kk
        · have me : ∀ (d : Nat) (Q' : jQ), Q' (some (.int 0)) μ → jC d 249 [.ref 133, .int (nI X), .int (nI Y), .int (nI p), .int (nI q)] μ Q' := fun d Q' kq => sM_meets hW hK hM hp hq hx hy (by rw [if_neg cm]; exact kq)
          rw [if_neg cm] at hstep
          have kk := ihk X Y (some (.int (nI p))) (some (.int (nI q))) (by omega) hx hy hstep
          generalize jbi al = v at *
          refine b258_98 ?_
          repeat' (first | refine b258_15 ?_ | refine b258_49 ?_ | refine b258_53 ?_ | refine b258_86 ?_ | refine b258_92 ?_ | refine b258_98 ?_ | refine b258_118 ?_ | refine b258_124 ?_ | refine me _ _ ?_ | dsimp only [jb_e0, jb_ec, jb_n, jb_c, jx_op, j1i_c, j2i_c, j1l_c, j2l_c, jil_c, j1r_c, jri_c, jrii_c, jril_c, jrl_c, jrr_c, j2i'_c, jdup_i, jdup_r, jdup2_c, jdup2_l, jpo_c, jli, jll, jlr, jat_0, jat_s, jst, jst2, jkill_i, jkill_r, jkill_l, jkill_n, jnone, jgv_0, jgv_1, jgv_2, jgv_3, jrv_s, jput_0, jput_1, jput_2, jput_3, jpop_0, jpop_1, jcl_s, jc1, jc2, jvi, Nat.reduceAdd, jol_i, jol_l, jol_n, jap_n, jap_c, List.map_cons, List.map_nil, List.sum_cons, List.sum_nil, jcI, jcL, jcR, gI_sI, gI_sL, gI_sR, gL_sI, gL_sL, gL_sR, gR_sI, gR_sL, gR_sR, gS_sI, gS_sL, gS_sR, gN_sI, gN_sL, gN_sR] | simp (disch := omega) only [Nat.zero_le, true_and, and_true, and_self, Nat.reduceLeDiff, true_or, or_true, false_or, or_false, Nat.reduceEqDiff, false_and, and_false, if_false, if_true, reduceIte, not_true_eq_false, not_false_eq_true, true_imp_iff, false_imp_iff, List.map_cons, List.map_nil, List.sum_cons, List.sum_nil, jcI, jcL, jcR, Nat.reduceAdd, jrv_s, j1r_c, jap_n, jap_c, gI_sI, gL_sL, gI_sL, gL_sI, an_lt, an_le, an_eq, an_lt0, an_0le, an_0lt, an_le0, an_eq0, an_eq1, an_1lt, an_le1, an_1le, an_lt1, an_eqm, an_sub, an_sub1, an_div, an_rem, an_in, an_in0, an_in1, an_cl, an_cl0, an_cl1, nI_add, nI_1, an_1a, pk_mul, Nat.reduceMul, jz10, jz01, j00, j11, jb0, Classical.not_not, eq_self, an_ite, an_of, an_nm, nI_l, lN_add, lN_mul, lN_i, lj_2, lj_3, lj_4, lj_5, lj_6, lj_7, lj_8, lj_9, lj_10, lj_11, lj_12, lj_13, lj_14, lj_15, lj_16, lj_17, lj_18, lj_19, lj_20, lj_21, lj_22, lj_23, lj_24, lj_25, lj_26, lj_27, lj_28, lj_29, lj_30, lj_31, lj_32, lj_33, lj_34, lj_35, lj_36, lj_37, lj_38, lj_39, lj_40, lj_48, lj_50, lj_57, lj_59, lj_60, lj_63, lj_64, lj_65, lj_90, lj_96, lj_97, lj_99, lj_100, lj_101, lj_105, lj_112, lj_114, lj_116, lj_119, lj_122, lj_128, lj_200, lj_255, lj_256, lj_500, lj_777, lj_1000, hW.1, jS0_133] | (refine br_c (fun _ => ?_) (fun _ => ?_) <;> try (exfalso; omega)) | (refine br_d (fun _ => ?_) (fun _ => ?_) <;> try (exfalso; omega)) | refine And.intro ?_ ?_ | (refine Nat.ne_of_gt ?_; omega))
          all_goals exact kk)
      refine fin (fun kk => ?_)
      clear fin ih ihk meet
      refine b258_18 ?_
      by_cases cs : k % tSl T = 0
      · have g2 := go2 cs
        have cs' := eq_true cs
        cases al with
        | true =>
          have e1 : gI μ 160 k = nI x := e1
          have e2 : gI μ 160 k = nI y := e2
          have exy : nI x = nI y := e1.symm.trans e2
          have g3 : ∀ (d : Nat) (Q' : jQ), Q' (some (.int (nI Y))) μ → jC (d + 2) 234 [.ref 133, .int (nI q), .int (nI x)] μ Q' := fun d Q' kq => by
            rw [exy]
            exact g2 d Q' kq
          repeat' (first | refine b258_15 ?_ | refine b258_49 ?_ | refine b258_53 ?_ | refine b258_86 ?_ | refine b258_92 ?_ | refine b258_118 ?_ | refine b258_124 ?_ | refine go1 _ _ ?_ | refine g3 _ _ ?_ | dsimp only [jb_e0, jb_ec, jb_n, jb_c, jx_op, j1i_c, j2i_c, j1l_c, j2l_c, jil_c, j1r_c, jri_c, jrii_c, jril_c, jrl_c, jrr_c, j2i'_c, jdup_i, jdup_r, jdup2_c, jdup2_l, jpo_c, jli, jll, jlr, jat_0, jat_s, jst, jst2, jkill_i, jkill_r, jkill_l, jkill_n, jnone, jgv_0, jgv_1, jgv_2, jgv_3, jrv_s, jput_0, jput_1, jput_2, jput_3, jpop_0, jpop_1, jcl_s, jc1, jc2, jvi, Nat.reduceAdd, jol_i, jol_l, jol_n, jap_n, jap_c, List.map_cons, List.map_nil, List.sum_cons, List.sum_nil, jcI, jcL, jcR, gI_sI, gI_sL, gI_sR, gL_sI, gL_sL, gL_sR, gR_sI, gR_sL, gR_sR, gS_sI, gS_sL, gS_sR, gN_sI, gN_sL, gN_sR] | simp (disch := omega) only [Nat.zero_le, true_and, and_true, and_self, Nat.reduceLeDiff, true_or, or_true, false_or, or_false, Nat.reduceEqDiff, false_and, and_false, if_false, if_true, reduceIte, not_true_eq_false, not_false_eq_true, true_imp_iff, false_imp_iff, List.map_cons, List.map_nil, List.sum_cons, List.sum_nil, jcI, jcL, jcR, Nat.reduceAdd, jrv_s, j1r_c, jap_n, jap_c, gI_sI, gL_sL, gI_sL, gL_sI, an_lt, an_le, an_eq, an_lt0, an_0le, an_0lt, an_le0, an_eq0, an_eq1, an_1lt, an_le1, an_1le, an_lt1, an_eqm, an_sub, an_sub1, an_div, an_rem, an_in, an_in0, an_in1, an_cl, an_cl0, an_cl1, nI_add, nI_1, an_1a, pk_mul, Nat.reduceMul, jz10, jz01, j00, j11, jb0, Classical.not_not, eq_self, an_ite, an_of, an_nm, nI_l, lN_add, lN_mul, lN_i, lj_2, lj_3, lj_4, lj_5, lj_6, lj_7, lj_8, lj_9, lj_10, lj_11, lj_12, lj_13, lj_14, lj_15, lj_16, lj_17, lj_18, lj_19, lj_20, lj_21, lj_22, lj_23, lj_24, lj_25, lj_26, lj_27, lj_28, lj_29, lj_30, lj_31, lj_32, lj_33, lj_34, lj_35, lj_36, lj_37, lj_38, lj_39, lj_40, lj_48, lj_50, lj_57, lj_59, lj_60, lj_63, lj_64, lj_65, lj_90, lj_96, lj_97, lj_99, lj_100, lj_101, lj_105, lj_112, lj_114, lj_116, lj_119, lj_122, lj_128, lj_200, lj_255, lj_256, lj_500, lj_777, lj_1000, jr_133_4 hW, jr_133_5 hW, jr_133_6 hW, jr_133_7 hW, jr_133_31 hW, jr_133_32 hW, jr_133_33 hW, jr_133_34 hW, jr_133_35 hW, jr_133_36 hW, jr_133_37 hW, jr_133_38 hW, jr_133_39 hW, jr_133_40 hW, jr_133_41 hW, jr_133_42 hW, jr_133_44 hW, jr_133_45 hW, jr_133_46 hW, jr_133_47 hW, jr_133_48 hW, jr_133_49 hW, jr_133_50 hW, jr_133_51 hW, jr_133_55 hW, jr_133_56 hW, jr_133_57 hW, jr_133_58 hW, jr_133_62 hW, jr_133_65 hW, jr_133_66 hW, jr_133_67 hW, jr_133_68 hW, jr_133_69 hW, jr_133_70 hW, jr_133_71 hW, jr_133_74 hW, jr_133_75 hW, hW.1, jS0_133, jS0_134, jS0_135, jS0_136, jS0_137, jS0_138, jS0_139, jS0_140, jS0_141, jS0_142, jS0_143, jS0_144, jS0_145, jS0_146, jS0_147, jS0_148, jS0_149, jS0_150, jS0_151, jS0_152, jS0_153, jS0_154, jS0_155, jS0_156, jS0_157, jS0_158, jS0_159, jS0_160, jS0_161, jS0_162, jS0_163, jS0_164, jS0_165, jS0_166, jS0_167, jS0_168, jS0_169, jS0_170, jS0_171, q24, e1, cs', jf, jt] | (refine br_c (fun _ => ?_) (fun _ => ?_) <;> try (exfalso; omega)) | (refine br_d (fun _ => ?_) (fun _ => ?_) <;> try (exfalso; omega)) | refine And.intro ?_ ?_ | (refine Nat.ne_of_gt ?_; omega))
          all_goals exact kk
        | false =>
          have n3 := hal rfl
          have e1 : gI μ 160 (2 * k) = nI x := e1
          have e2 : gI μ 160 (2 * k + 1) = nI y := e2
          repeat' (first | refine b258_15 ?_ | refine b258_49 ?_ | refine b258_53 ?_ | refine b258_86 ?_ | refine b258_92 ?_ | refine b258_118 ?_ | refine b258_124 ?_ | refine go1 _ _ ?_ | refine g2 _ _ ?_ | dsimp only [jb_e0, jb_ec, jb_n, jb_c, jx_op, j1i_c, j2i_c, j1l_c, j2l_c, jil_c, j1r_c, jri_c, jrii_c, jril_c, jrl_c, jrr_c, j2i'_c, jdup_i, jdup_r, jdup2_c, jdup2_l, jpo_c, jli, jll, jlr, jat_0, jat_s, jst, jst2, jkill_i, jkill_r, jkill_l, jkill_n, jnone, jgv_0, jgv_1, jgv_2, jgv_3, jrv_s, jput_0, jput_1, jput_2, jput_3, jpop_0, jpop_1, jcl_s, jc1, jc2, jvi, Nat.reduceAdd, jol_i, jol_l, jol_n, jap_n, jap_c, List.map_cons, List.map_nil, List.sum_cons, List.sum_nil, jcI, jcL, jcR, gI_sI, gI_sL, gI_sR, gL_sI, gL_sL, gL_sR, gR_sI, gR_sL, gR_sR, gS_sI, gS_sL, gS_sR, gN_sI, gN_sL, gN_sR] | simp (disch := omega) only [Nat.zero_le, true_and, and_true, and_self, Nat.reduceLeDiff, true_or, or_true, false_or, or_false, Nat.reduceEqDiff, false_and, and_false, if_false, if_true, reduceIte, not_true_eq_false, not_false_eq_true, true_imp_iff, false_imp_iff, List.map_cons, List.map_nil, List.sum_cons, List.sum_nil, jcI, jcL, jcR, Nat.reduceAdd, jrv_s, j1r_c, jap_n, jap_c, gI_sI, gL_sL, gI_sL, gL_sI, an_lt, an_le, an_eq, an_lt0, an_0le, an_0lt, an_le0, an_eq0, an_eq1, an_1lt, an_le1, an_1le, an_lt1, an_eqm, an_sub, an_sub1, an_div, an_rem, an_in, an_in0, an_in1, an_cl, an_cl0, an_cl1, nI_add, nI_1, an_1a, pk_mul, Nat.reduceMul, jz10, jz01, j00, j11, jb0, Classical.not_not, eq_self, an_ite, an_of, an_nm, nI_l, lN_add, lN_mul, lN_i, lj_2, lj_3, lj_4, lj_5, lj_6, lj_7, lj_8, lj_9, lj_10, lj_11, lj_12, lj_13, lj_14, lj_15, lj_16, lj_17, lj_18, lj_19, lj_20, lj_21, lj_22, lj_23, lj_24, lj_25, lj_26, lj_27, lj_28, lj_29, lj_30, lj_31, lj_32, lj_33, lj_34, lj_35, lj_36, lj_37, lj_38, lj_39, lj_40, lj_48, lj_50, lj_57, lj_59, lj_60, lj_63, lj_64, lj_65, lj_90, lj_96, lj_97, lj_99, lj_100, lj_101, lj_105, lj_112, lj_114, lj_116, lj_119, lj_122, lj_128, lj_200, lj_255, lj_256, lj_500, lj_777, lj_1000, jr_133_4 hW, jr_133_5 hW, jr_133_6 hW, jr_133_7 hW, jr_133_31 hW, jr_133_32 hW, jr_133_33 hW, jr_133_34 hW, jr_133_35 hW, jr_133_36 hW, jr_133_37 hW, jr_133_38 hW, jr_133_39 hW, jr_133_40 hW, jr_133_41 hW, jr_133_42 hW, jr_133_44 hW, jr_133_45 hW, jr_133_46 hW, jr_133_47 hW, jr_133_48 hW, jr_133_49 hW, jr_133_50 hW, jr_133_51 hW, jr_133_55 hW, jr_133_56 hW, jr_133_57 hW, jr_133_58 hW, jr_133_62 hW, jr_133_65 hW, jr_133_66 hW, jr_133_67 hW, jr_133_68 hW, jr_133_69 hW, jr_133_70 hW, jr_133_71 hW, jr_133_74 hW, jr_133_75 hW, hW.1, jS0_133, jS0_134, jS0_135, jS0_136, jS0_137, jS0_138, jS0_139, jS0_140, jS0_141, jS0_142, jS0_143, jS0_144, jS0_145, jS0_146, jS0_147, jS0_148, jS0_149, jS0_150, jS0_151, jS0_152, jS0_153, jS0_154, jS0_155, jS0_156, jS0_157, jS0_158, jS0_159, jS0_160, jS0_161, jS0_162, jS0_163, jS0_164, jS0_165, jS0_166, jS0_167, jS0_168, jS0_169, jS0_170, jS0_171, q24, e1, e2, cs', jf, jt] | (refine br_c (fun _ => ?_) (fun _ => ?_) <;> try (exfalso; omega)) | (refine br_d (fun _ => ?_) (fun _ => ?_) <;> try (exfalso; omega)) | refine And.intro ?_ ?_ | (refine Nat.ne_of_gt ?_; omega))
          all_goals exact kk
      · have g2 := stay cs
        have cs' := eq_false cs
        rw [g2] at kk
        cases al with
        | true =>
          have e1 : gI μ 160 k = nI x := e1
          repeat' (first | refine b258_15 ?_ | refine b258_49 ?_ | refine b258_53 ?_ | refine b258_86 ?_ | refine b258_92 ?_ | refine b258_118 ?_ | refine b258_124 ?_ | refine go1 _ _ ?_ | dsimp only [jb_e0, jb_ec, jb_n, jb_c, jx_op, j1i_c, j2i_c, j1l_c, j2l_c, jil_c, j1r_c, jri_c, jrii_c, jril_c, jrl_c, jrr_c, j2i'_c, jdup_i, jdup_r, jdup2_c, jdup2_l, jpo_c, jli, jll, jlr, jat_0, jat_s, jst, jst2, jkill_i, jkill_r, jkill_l, jkill_n, jnone, jgv_0, jgv_1, jgv_2, jgv_3, jrv_s, jput_0, jput_1, jput_2, jput_3, jpop_0, jpop_1, jcl_s, jc1, jc2, jvi, Nat.reduceAdd, jol_i, jol_l, jol_n, jap_n, jap_c, List.map_cons, List.map_nil, List.sum_cons, List.sum_nil, jcI, jcL, jcR, gI_sI, gI_sL, gI_sR, gL_sI, gL_sL, gL_sR, gR_sI, gR_sL, gR_sR, gS_sI, gS_sL, gS_sR, gN_sI, gN_sL, gN_sR] | simp (disch := omega) only [Nat.zero_le, true_and, and_true, and_self, Nat.reduceLeDiff, true_or, or_true, false_or, or_false, Nat.reduceEqDiff, false_and, and_false, if_false, if_true, reduceIte, not_true_eq_false, not_false_eq_true, true_imp_iff, false_imp_iff, List.map_cons, List.map_nil, List.sum_cons, List.sum_nil, jcI, jcL, jcR, Nat.reduceAdd, jrv_s, j1r_c, jap_n, jap_c, gI_sI, gL_sL, gI_sL, gL_sI, an_lt, an_le, an_eq, an_lt0, an_0le, an_0lt, an_le0, an_eq0, an_eq1, an_1lt, an_le1, an_1le, an_lt1, an_eqm, an_sub, an_sub1, an_div, an_rem, an_in, an_in0, an_in1, an_cl, an_cl0, an_cl1, nI_add, nI_1, an_1a, pk_mul, Nat.reduceMul, jz10, jz01, j00, j11, jb0, Classical.not_not, eq_self, an_ite, an_of, an_nm, nI_l, lN_add, lN_mul, lN_i, lj_2, lj_3, lj_4, lj_5, lj_6, lj_7, lj_8, lj_9, lj_10, lj_11, lj_12, lj_13, lj_14, lj_15, lj_16, lj_17, lj_18, lj_19, lj_20, lj_21, lj_22, lj_23, lj_24, lj_25, lj_26, lj_27, lj_28, lj_29, lj_30, lj_31, lj_32, lj_33, lj_34, lj_35, lj_36, lj_37, lj_38, lj_39, lj_40, lj_48, lj_50, lj_57, lj_59, lj_60, lj_63, lj_64, lj_65, lj_90, lj_96, lj_97, lj_99, lj_100, lj_101, lj_105, lj_112, lj_114, lj_116, lj_119, lj_122, lj_128, lj_200, lj_255, lj_256, lj_500, lj_777, lj_1000, jr_133_4 hW, jr_133_5 hW, jr_133_6 hW, jr_133_7 hW, jr_133_31 hW, jr_133_32 hW, jr_133_33 hW, jr_133_34 hW, jr_133_35 hW, jr_133_36 hW, jr_133_37 hW, jr_133_38 hW, jr_133_39 hW, jr_133_40 hW, jr_133_41 hW, jr_133_42 hW, jr_133_44 hW, jr_133_45 hW, jr_133_46 hW, jr_133_47 hW, jr_133_48 hW, jr_133_49 hW, jr_133_50 hW, jr_133_51 hW, jr_133_55 hW, jr_133_56 hW, jr_133_57 hW, jr_133_58 hW, jr_133_62 hW, jr_133_65 hW, jr_133_66 hW, jr_133_67 hW, jr_133_68 hW, jr_133_69 hW, jr_133_70 hW, jr_133_71 hW, jr_133_74 hW, jr_133_75 hW, hW.1, jS0_133, jS0_134, jS0_135, jS0_136, jS0_137, jS0_138, jS0_139, jS0_140, jS0_141, jS0_142, jS0_143, jS0_144, jS0_145, jS0_146, jS0_147, jS0_148, jS0_149, jS0_150, jS0_151, jS0_152, jS0_153, jS0_154, jS0_155, jS0_156, jS0_157, jS0_158, jS0_159, jS0_160, jS0_161, jS0_162, jS0_163, jS0_164, jS0_165, jS0_166, jS0_167, jS0_168, jS0_169, jS0_170, jS0_171, q24, e1, cs', jf, jt] | (refine br_c (fun _ => ?_) (fun _ => ?_) <;> try (exfalso; omega)) | (refine br_d (fun _ => ?_) (fun _ => ?_) <;> try (exfalso; omega)) | refine And.intro ?_ ?_ | (refine Nat.ne_of_gt ?_; omega))
          all_goals exact kk
        | false =>
          have n3 := hal rfl
          have e1 : gI μ 160 (2 * k) = nI x := e1
          repeat' (first | refine b258_15 ?_ | refine b258_49 ?_ | refine b258_53 ?_ | refine b258_86 ?_ | refine b258_92 ?_ | refine b258_118 ?_ | refine b258_124 ?_ | refine go1 _ _ ?_ | dsimp only [jb_e0, jb_ec, jb_n, jb_c, jx_op, j1i_c, j2i_c, j1l_c, j2l_c, jil_c, j1r_c, jri_c, jrii_c, jril_c, jrl_c, jrr_c, j2i'_c, jdup_i, jdup_r, jdup2_c, jdup2_l, jpo_c, jli, jll, jlr, jat_0, jat_s, jst, jst2, jkill_i, jkill_r, jkill_l, jkill_n, jnone, jgv_0, jgv_1, jgv_2, jgv_3, jrv_s, jput_0, jput_1, jput_2, jput_3, jpop_0, jpop_1, jcl_s, jc1, jc2, jvi, Nat.reduceAdd, jol_i, jol_l, jol_n, jap_n, jap_c, List.map_cons, List.map_nil, List.sum_cons, List.sum_nil, jcI, jcL, jcR, gI_sI, gI_sL, gI_sR, gL_sI, gL_sL, gL_sR, gR_sI, gR_sL, gR_sR, gS_sI, gS_sL, gS_sR, gN_sI, gN_sL, gN_sR] | simp (disch := omega) only [Nat.zero_le, true_and, and_true, and_self, Nat.reduceLeDiff, true_or, or_true, false_or, or_false, Nat.reduceEqDiff, false_and, and_false, if_false, if_true, reduceIte, not_true_eq_false, not_false_eq_true, true_imp_iff, false_imp_iff, List.map_cons, List.map_nil, List.sum_cons, List.sum_nil, jcI, jcL, jcR, Nat.reduceAdd, jrv_s, j1r_c, jap_n, jap_c, gI_sI, gL_sL, gI_sL, gL_sI, an_lt, an_le, an_eq, an_lt0, an_0le, an_0lt, an_le0, an_eq0, an_eq1, an_1lt, an_le1, an_1le, an_lt1, an_eqm, an_sub, an_sub1, an_div, an_rem, an_in, an_in0, an_in1, an_cl, an_cl0, an_cl1, nI_add, nI_1, an_1a, pk_mul, Nat.reduceMul, jz10, jz01, j00, j11, jb0, Classical.not_not, eq_self, an_ite, an_of, an_nm, nI_l, lN_add, lN_mul, lN_i, lj_2, lj_3, lj_4, lj_5, lj_6, lj_7, lj_8, lj_9, lj_10, lj_11, lj_12, lj_13, lj_14, lj_15, lj_16, lj_17, lj_18, lj_19, lj_20, lj_21, lj_22, lj_23, lj_24, lj_25, lj_26, lj_27, lj_28, lj_29, lj_30, lj_31, lj_32, lj_33, lj_34, lj_35, lj_36, lj_37, lj_38, lj_39, lj_40, lj_48, lj_50, lj_57, lj_59, lj_60, lj_63, lj_64, lj_65, lj_90, lj_96, lj_97, lj_99, lj_100, lj_101, lj_105, lj_112, lj_114, lj_116, lj_119, lj_122, lj_128, lj_200, lj_255, lj_256, lj_500, lj_777, lj_1000, jr_133_4 hW, jr_133_5 hW, jr_133_6 hW, jr_133_7 hW, jr_133_31 hW, jr_133_32 hW, jr_133_33 hW, jr_133_34 hW, jr_133_35 hW, jr_133_36 hW, jr_133_37 hW, jr_133_38 hW, jr_133_39 hW, jr_133_40 hW, jr_133_41 hW, jr_133_42 hW, jr_133_44 hW, jr_133_45 hW, jr_133_46 hW, jr_133_47 hW, jr_133_48 hW, jr_133_49 hW, jr_133_50 hW, jr_133_51 hW, jr_133_55 hW, jr_133_56 hW, jr_133_57 hW, jr_133_58 hW, jr_133_62 hW, jr_133_65 hW, jr_133_66 hW, jr_133_67 hW, jr_133_68 hW, jr_133_69 hW, jr_133_70 hW, jr_133_71 hW, jr_133_74 hW, jr_133_75 hW, hW.1, jS0_133, jS0_134, jS0_135, jS0_136, jS0_137, jS0_138, jS0_139, jS0_140, jS0_141, jS0_142, jS0_143, jS0_144, jS0_145, jS0_146, jS0_147, jS0_148, jS0_149, jS0_150, jS0_151, jS0_152, jS0_153, jS0_154, jS0_155, jS0_156, jS0_157, jS0_158, jS0_159, jS0_160, jS0_161, jS0_162, jS0_163, jS0_164, jS0_165, jS0_166, jS0_167, jS0_168, jS0_169, jS0_170, jS0_171, q24, e1, cs', jf, jt] | (refine br_c (fun _ => ?_) (fun _ => ?_) <;> try (exfalso; omega)) | (refine br_d (fun _ => ?_) (fun _ => ?_) <;> try (exfalso; omega)) | refine And.intro ?_ ?_ | (refine Nat.ne_of_gt ?_; omega))
          all_goals exact kk
  refine e258 (b258_0 ?_)
  by_cases c : a = b
  · have e0 : rWt T (fun t => rC al T t (e t)) 0 (8 * a + b) = none := by
      rw [rWt, f1, f2, if_pos c]
    have en := rWt_nn e0 n
    rw [Nat.zero_add] at en
    have kk : Q (some (.int 0)) μ := by
      unfold rBy at h
      rw [if_pos en, rTm_cut (Nat.zero_le n) e0] at h
      exact h
    have c' := eq_true c
    generalize jbi al = v at *
    repeat' (first | refine b258_15 ?_ | refine b258_49 ?_ | refine b258_53 ?_ | refine b258_86 ?_ | refine b258_92 ?_ | refine b258_98 ?_ | refine b258_118 ?_ | refine b258_124 ?_ | dsimp only [jb_e0, jb_ec, jb_n, jb_c, jx_op, j1i_c, j2i_c, j1l_c, j2l_c, jil_c, j1r_c, jri_c, jrii_c, jril_c, jrl_c, jrr_c, j2i'_c, jdup_i, jdup_r, jdup2_c, jdup2_l, jpo_c, jli, jll, jlr, jat_0, jat_s, jst, jst2, jkill_i, jkill_r, jkill_l, jkill_n, jnone, jgv_0, jgv_1, jgv_2, jgv_3, jrv_s, jput_0, jput_1, jput_2, jput_3, jpop_0, jpop_1, jcl_s, jc1, jc2, jvi, Nat.reduceAdd, jol_i, jol_l, jol_n, jap_n, jap_c, List.map_cons, List.map_nil, List.sum_cons, List.sum_nil, jcI, jcL, jcR, gI_sI, gI_sL, gI_sR, gL_sI, gL_sL, gL_sR, gR_sI, gR_sL, gR_sR, gS_sI, gS_sL, gS_sR, gN_sI, gN_sL, gN_sR] | simp (disch := omega) only [Nat.zero_le, true_and, and_true, and_self, Nat.reduceLeDiff, true_or, or_true, false_or, or_false, Nat.reduceEqDiff, false_and, and_false, if_false, if_true, reduceIte, not_true_eq_false, not_false_eq_true, true_imp_iff, false_imp_iff, List.map_cons, List.map_nil, List.sum_cons, List.sum_nil, jcI, jcL, jcR, Nat.reduceAdd, jrv_s, j1r_c, jap_n, jap_c, gI_sI, gL_sL, gI_sL, gL_sI, an_lt, an_le, an_eq, an_lt0, an_0le, an_0lt, an_le0, an_eq0, an_eq1, an_1lt, an_le1, an_1le, an_lt1, an_eqm, an_sub, an_sub1, an_div, an_rem, an_in, an_in0, an_in1, an_cl, an_cl0, an_cl1, nI_add, nI_1, an_1a, pk_mul, Nat.reduceMul, jz10, jz01, j00, j11, jb0, Classical.not_not, eq_self, an_ite, an_of, an_nm, nI_l, lN_add, lN_mul, lN_i, lj_2, lj_3, lj_4, lj_5, lj_6, lj_7, lj_8, lj_9, lj_10, lj_11, lj_12, lj_13, lj_14, lj_15, lj_16, lj_17, lj_18, lj_19, lj_20, lj_21, lj_22, lj_23, lj_24, lj_25, lj_26, lj_27, lj_28, lj_29, lj_30, lj_31, lj_32, lj_33, lj_34, lj_35, lj_36, lj_37, lj_38, lj_39, lj_40, lj_48, lj_50, lj_57, lj_59, lj_60, lj_63, lj_64, lj_65, lj_90, lj_96, lj_97, lj_99, lj_100, lj_101, lj_105, lj_112, lj_114, lj_116, lj_119, lj_122, lj_128, lj_200, lj_255, lj_256, lj_500, lj_777, lj_1000, c'] | (refine br_c (fun _ => ?_) (fun _ => ?_) <;> try (exfalso; omega)) | (refine br_d (fun _ => ?_) (fun _ => ?_) <;> try (exfalso; omega)) | refine And.intro ?_ ?_ | (refine Nat.ne_of_gt ?_; omega))
    all_goals exact kk
  · have kk := loop n 0 a b none none (by omega) ha hb (by rw [rWt, f1, f2, if_neg c])
    have c' := eq_false c
    generalize jbi al = v at *
    repeat' (first | refine b258_15 ?_ | refine b258_49 ?_ | refine b258_53 ?_ | refine b258_86 ?_ | refine b258_92 ?_ | refine b258_98 ?_ | refine b258_118 ?_ | refine b258_124 ?_ | dsimp only [jb_e0, jb_ec, jb_n, jb_c, jx_op, j1i_c, j2i_c, j1l_c, j2l_c, jil_c, j1r_c, jri_c, jrii_c, jril_c, jrl_c, jrr_c, j2i'_c, jdup_i, jdup_r, jdup2_c, jdup2_l, jpo_c, jli, jll, jlr, jat_0, jat_s, jst, jst2, jkill_i, jkill_r, jkill_l, jkill_n, jnone, jgv_0, jgv_1, jgv_2, jgv_3, jrv_s, jput_0, jput_1, jput_2, jput_3, jpop_0, jpop_1, jcl_s, jc1, jc2, jvi, Nat.reduceAdd, jol_i, jol_l, jol_n, jap_n, jap_c, List.map_cons, List.map_nil, List.sum_cons, List.sum_nil, jcI, jcL, jcR, gI_sI, gI_sL, gI_sR, gL_sI, gL_sL, gL_sR, gR_sI, gR_sL, gR_sR, gS_sI, gS_sL, gS_sR, gN_sI, gN_sL, gN_sR] | simp (disch := omega) only [Nat.zero_le, true_and, and_true, and_self, Nat.reduceLeDiff, true_or, or_true, false_or, or_false, Nat.reduceEqDiff, false_and, and_false, if_false, if_true, reduceIte, not_true_eq_false, not_false_eq_true, true_imp_iff, false_imp_iff, List.map_cons, List.map_nil, List.sum_cons, List.sum_nil, jcI, jcL, jcR, Nat.reduceAdd, jrv_s, j1r_c, jap_n, jap_c, gI_sI, gL_sL, gI_sL, gL_sI, an_lt, an_le, an_eq, an_lt0, an_0le, an_0lt, an_le0, an_eq0, an_eq1, an_1lt, an_le1, an_1le, an_lt1, an_eqm, an_sub, an_sub1, an_div, an_rem, an_in, an_in0, an_in1, an_cl, an_cl0, an_cl1, nI_add, nI_1, an_1a, pk_mul, Nat.reduceMul, jz10, jz01, j00, j11, jb0, Classical.not_not, eq_self, an_ite, an_of, an_nm, nI_l, lN_add, lN_mul, lN_i, lj_2, lj_3, lj_4, lj_5, lj_6, lj_7, lj_8, lj_9, lj_10, lj_11, lj_12, lj_13, lj_14, lj_15, lj_16, lj_17, lj_18, lj_19, lj_20, lj_21, lj_22, lj_23, lj_24, lj_25, lj_26, lj_27, lj_28, lj_29, lj_30, lj_31, lj_32, lj_33, lj_34, lj_35, lj_36, lj_37, lj_38, lj_39, lj_40, lj_48, lj_50, lj_57, lj_59, lj_60, lj_63, lj_64, lj_65, lj_90, lj_96, lj_97, lj_99, lj_100, lj_101, lj_105, lj_112, lj_114, lj_116, lj_119, lj_122, lj_128, lj_200, lj_255, lj_256, lj_500, lj_777, lj_1000, c'] | (refine br_c (fun _ => ?_) (fun _ => ?_) <;> try (exfalso; omega)) | (refine br_d (fun _ => ?_) (fun _ => ?_) <;> try (exfalso; omega)) | refine And.intro ?_ ?_ | (refine Nat.ne_of_gt ?_; omega))
    all_goals exact kk
/-! the worth of a row as the reference sums it -/
theorem rFm_sq (hK : jTok T) : rFm T r n = jsum (fun a => jsum (fun b => if rWt T r n (8 * a + b) = none then 0 else tLk T a b) (tP T)) (tP T) := by
  unfold rFm
  rw [rAA_wt hK, rl_sq hK (fun s _ h => by rw [rl_out h, ite_self])]
  refine jsum_congr _ (fun a ha => jsum_congr _ (fun b hb => ?_))
  rw [rl_n hK ha hb]
theorem rFl_sq (hK : jTok T) : rFl T r n = jsum (fun a => jsum (fun b => tLk T a b * rTm T r (n + 1) (8 * a + b)) (tP T)) (tP T) := by
  unfold rFl
  rw [jsum_congr (n + 1) (fun k _ => rAA_wt (T := T) (r := r) (k := k) hK), jsum_swap]
  have e : ∀ s, s < 64 → jsum (fun k => if rWt T r k s = none then 0 else rl T s) (n + 1) = rl T s * rTm T r (n + 1) s := fun s _ => by
    unfold rTm
    rw [Nat.mul_comm, ← jsum_mul]
    refine jsum_congr _ (fun k _ => ?_)
    split <;> omega
  rw [jsum_congr 64 e, rl_sq hK (fun s _ h => by rw [rl_out h, Nat.zero_mul])]
  refine jsum_congr _ (fun a ha => jsum_congr _ (fun b hb => ?_))
  rw [rl_n hK ha hb]
end JRN
