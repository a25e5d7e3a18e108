/-! sums over all beginnings: mean, worst -/
section JMN
variable {d L t : Nat} {μ : jMem} {Q : jQ} {T V : jT} {w v : Nat}
def mV (T V : jT) (w v a b : Nat) : Nat := (mW T V w v a b).getD 0
theorem mV_le {a b : Nat} : mV T V w v a b ≤ 200 := by
  unfold mV
  cases h : mW T V w v a b with
  | none => exact Nat.zero_le _
  | some x => exact mW_le h
def jmx (f : Nat → Nat) (i : Nat) : Nat → Nat
  | 0 => i
  | n + 1 => if jmx f i n < f n then f n else jmx f i n
theorem jmx_le {f : Nat → Nat} {i c : Nat} (hi : i ≤ c) (hf : ∀ n, f n ≤ c) : ∀ n, jmx f i n ≤ c
  | 0 => hi
  | n + 1 => by
    unfold jmx
    split
    · exact hf n
    · exact jmx_le hi hf n
/-- a beginning's share of the sum -/
def mSh (T V : jT) (w v a b : Nat) : Nat := tLk T a b * mV T V w v a b
def mTm (T V : jT) (w v a b : Nat) : Nat := if tLk T a b = 0 then 0 else mV T V w v a b
def mTot (T V : jT) (w v n : Nat) : Nat := jsum (fun a => jsum (fun b => mSh T V w v a b) (tP T)) n
def mMax (T V : jT) (w v : Nat) : Nat → Nat
  | 0 => 0
  | n + 1 => jmx (fun b => mTm T V w v n b) (mMax T V w v n) (tP T)
def mBad (T V : jT) (w v a b : Nat) : Prop := tLk T a b ≠ 0 ∧ mW T V w v a b = none
def mGood (T V : jT) (w v : Nat) : Prop := ∀ a b, a < tP T → b < tP T → ¬ mBad T V w v a b
theorem mSh_le (hK : jTok T) {a b : Nat} (ha : a < tP T) (hb : b < tP T) : mSh T V w v a b ≤ 16200 := Nat.le_trans (Nat.mul_le_mul (tLk_le hK ha hb) mV_le) (by omega)
theorem mRow_le (hK : jTok T) {a n : Nat} (ha : a < tP T) (hn : n ≤ tP T) : jsum (fun b => mSh T V w v a b) n ≤ 129600 := by
  have h := jsum_le (f := fun b => mSh T V w v a b) (c := 16200) n (fun i hi => mSh_le hK ha (by omega))
  have := hK.1.1
  omega
theorem mTot_le (hK : jTok T) {n : Nat} (hn : n ≤ tP T) : mTot T V w v n ≤ 1036800 := by
  have h := jsum_le (f := fun a => jsum (fun b => mSh T V w v a b) (tP T)) (c := 129600) n (fun i hi => mRow_le hK (by omega) (Nat.le_refl _))
  have := hK.1.1
  unfold mTot
  omega
theorem mTm_le {a b : Nat} : mTm T V w v a b ≤ 200 := by
  unfold mTm
  split
  · omega
  · exact mV_le
theorem mMax_le : ∀ n, mMax T V w v n ≤ 200
  | 0 => Nat.zero_le _
  | n + 1 => jmx_le (mMax_le n) (fun _ => mTm_le) _
theorem meet_step {a b S M : Nat} {z6 z7 : Option Value} (hW : jWd L t μ) (hK : jTok T) (hX : jTX T t μ) (hV : jVok V) (hVX : jVX V μ) (hw : w < wC V) (hv : v < wC V) (ha : a < tP T) (hb : b < tP T) (hS : S ≤ 1036800) (hM : M ≤ 200) (e4 : gI μ 38 4 = nI S) (e5 : gI μ 38 5 = nI M) (hz6 : jkill z6 = z6)
    (h0 : mBad T V w v a b → ∀ ν, jFr [38, 39, 40, 41] μ ν → Q (some (.int 0)) ν)
    (h : ¬ mBad T V w v a b → ∀ ν z6 z7, jkill z6 = z6 → jFr [38, 39, 40, 41] μ ν → gI ν 38 4 = nI (S + mSh T V w v a b) → gI ν 38 5 = nI (if M < mTm T V w v a b then mTm T V w v a b else M) → jR (d + 6) 120 25 [some (.ref 38), some (.ref t), some (.int (nI w)), some (.int (nI v)), some (.int (nI a)), some (.int (nI (b + 1))), z6, z7] [] (0, 0) ν Q) :
    jR (d + 6) 120 25 [some (.ref 38), some (.ref t), some (.int (nI w)), some (.int (nI v)), some (.int (nI a)), some (.int (nI b)), z6, z7] [] (0, 0) μ Q := by
  have w0 := (jWs hW).1
  have q := hX.1.1
  have h8 := hK.1.1
  have hl := tLk_le hK ha hb
  have hb200 : mV T V w v a b ≤ 200 := mV_le
  have ff : ∀ (d : Nat) (Q' : jQ), (∀ ν, jFr [39, 40, 41] μ ν → Q' (some (.int (oI (mW T V w v a b)))) ν) → jC (d + 5) 117 [.ref 38, .ref t, .int (nI w), .int (nI v), .int (nI a), .int (nI b)] μ Q' := fun d Q' k => sp_walk hW hK hX hV hVX hw hv ha hb k
  refine b120_25 ?_
  by_cases c : tLk T a b = 0
  · have k := h (fun z => z.1 c) (sI (sI μ 38 4 (nI S)) 38 5 (nI M)) (some (.int (nI 0))) (some (.int 0)) rfl ((jFr.sI (by simp)).trans (jFr.sI (by simp))) (by
      unfold mSh
      rw [c, Nat.zero_mul]
      rfl) (by
      unfold mTm
      rw [if_pos c, if_neg (by omega)]
      rfl)
    have e0' : nI S + nI 0 * 0 = nI S := by
      show nI S + nI 0 * nI 0 = _
      rw [pk_mul, nI_add]
      rfl
    have em : (nI M < (0 : Int32)) = False := an_lt0 (by omega)
    have e00 : ((0 : Int32) = -1) = False := by decide
    repeat' (first | refine b120_13 ?_ | refine b120_53 ?_ | refine b120_64 ?_ | refine b120_74 ?_ | refine b120_107 ?_ | refine b120_113 ?_ | refine sp_likelihood hW hK hX ha hb ?_ | dsimp only [jb_e0, jb_ec, jb_n, jb_c, jx_op, j1i_c, j2i_c, j1l_c, j2l_c, jil_c, j1r_c, jri_c, jrii_c, jril_c, jrl_c, jrr_c, j2i'_c, jdup_i, jdup_r, jdup2_c, jdup2_l, jpo_c, jli, jll, jlr, jat_0, jat_s, jst, jst2, jkill_i, jkill_r, jkill_l, jkill_n, jnone, jgv_0, jgv_1, jgv_2, jgv_3, jrv_s, jput_0, jput_1, jput_2, jput_3, jpop_0, jpop_1, jcl_s, jc1, jc2, jvi, Nat.reduceAdd, jol_i, jol_l, jol_n, jap_n, jap_c, List.map_cons, List.map_nil, List.sum_cons, List.sum_nil, jcI, jcL, jcR, gI_sI, gI_sL, gI_sR, gL_sI, gL_sL, gL_sR, gR_sI, gR_sL, gR_sR, gS_sI, gS_sL, gS_sR, gN_sI, gN_sL, gN_sR] | simp (disch := omega) only [Nat.zero_le, true_and, and_true, and_self, Nat.reduceLeDiff, true_or, or_true, false_or, or_false, Nat.reduceEqDiff, false_and, and_false, if_false, if_true, reduceIte, not_true_eq_false, not_false_eq_true, true_imp_iff, false_imp_iff, List.map_cons, List.map_nil, List.sum_cons, List.sum_nil, jcI, jcL, jcR, Nat.reduceAdd, jrv_s, j1r_c, jap_n, jap_c, gI_sI, gL_sL, gI_sL, gL_sI, an_lt, an_le, an_eq, an_lt0, an_0le, an_0lt, an_le0, an_eq0, an_eq1, an_1lt, an_le1, an_1le, an_lt1, an_eqm, an_sub, an_sub1, an_div, an_rem, an_in, an_in0, an_in1, an_cl, an_cl0, an_cl1, nI_add, nI_1, an_1a, pk_mul, Nat.reduceMul, jz10, jz01, j00, j11, jb0, Classical.not_not, eq_self, an_ite, an_of, an_nm, nI_l, lN_add, lN_mul, lN_i, lj_2, lj_3, lj_4, lj_5, lj_6, lj_7, lj_8, lj_9, lj_10, lj_11, lj_12, lj_13, lj_14, lj_15, lj_16, lj_17, lj_18, lj_19, lj_20, lj_21, lj_22, lj_23, lj_24, lj_25, lj_26, lj_27, lj_28, lj_29, lj_30, lj_31, lj_32, lj_33, lj_34, lj_35, lj_36, lj_37, lj_38, lj_39, lj_40, lj_48, lj_50, lj_57, lj_59, lj_60, lj_63, lj_64, lj_65, lj_90, lj_96, lj_97, lj_99, lj_100, lj_101, lj_105, lj_112, lj_114, lj_116, lj_119, lj_122, lj_128, lj_200, lj_255, lj_256, lj_500, lj_777, lj_1000, hW.1, w0, q, jr_38_0 hW, jr_38_1 hW, jr_38_2 hW, jr_38_3 hW, hW.1, jS0_38, jS0_39, jS0_40, jS0_41, jS0_42, hz6, c, e4, e5, e0', em, e00] | (refine br_c (fun _ => ?_) (fun _ => ?_) <;> try (exfalso; omega)) | (refine br_d (fun _ => ?_) (fun _ => ?_) <;> try (exfalso; omega)) | refine And.intro ?_ ?_ | (refine Nat.ne_of_gt ?_; omega))
    all_goals exact k
  · have k := h
    repeat' (first | refine b120_13 ?_ | refine b120_53 ?_ | refine b120_74 ?_ | refine b120_107 ?_ | refine b120_113 ?_ | refine sp_likelihood hW hK hX ha hb ?_ | refine ff _ _ (fun ν F => jh_i ?_) | dsimp only [jb_e0, jb_ec, jb_n, jb_c, jx_op, j1i_c, j2i_c, j1l_c, j2l_c, jil_c, j1r_c, jri_c, jrii_c, jril_c, jrl_c, jrr_c, j2i'_c, jdup_i, jdup_r, jdup2_c, jdup2_l, jpo_c, jli, jll, jlr, jat_0, jat_s, jst, jst2, jkill_i, jkill_r, jkill_l, jkill_n, jnone, jgv_0, jgv_1, jgv_2, jgv_3, jrv_s, jput_0, jput_1, jput_2, jput_3, jpop_0, jpop_1, jcl_s, jc1, jc2, jvi, Nat.reduceAdd, jol_i, jol_l, jol_n, jap_n, jap_c, List.map_cons, List.map_nil, List.sum_cons, List.sum_nil, jcI, jcL, jcR, gI_sI, gI_sL, gI_sR, gL_sI, gL_sL, gL_sR, gR_sI, gR_sL, gR_sR, gS_sI, gS_sL, gS_sR, gN_sI, gN_sL, gN_sR] | simp (disch := omega) only [Nat.zero_le, true_and, and_true, and_self, Nat.reduceLeDiff, true_or, or_true, false_or, or_false, Nat.reduceEqDiff, false_and, and_false, if_false, if_true, reduceIte, not_true_eq_false, not_false_eq_true, true_imp_iff, false_imp_iff, List.map_cons, List.map_nil, List.sum_cons, List.sum_nil, jcI, jcL, jcR, Nat.reduceAdd, jrv_s, j1r_c, jap_n, jap_c, gI_sI, gL_sL, gI_sL, gL_sI, an_lt, an_le, an_eq, an_lt0, an_0le, an_0lt, an_le0, an_eq0, an_eq1, an_1lt, an_le1, an_1le, an_lt1, an_eqm, an_sub, an_sub1, an_div, an_rem, an_in, an_in0, an_in1, an_cl, an_cl0, an_cl1, nI_add, nI_1, an_1a, pk_mul, Nat.reduceMul, jz10, jz01, j00, j11, jb0, Classical.not_not, eq_self, an_ite, an_of, an_nm, nI_l, lN_add, lN_mul, lN_i, lj_2, lj_3, lj_4, lj_5, lj_6, lj_7, lj_8, lj_9, lj_10, lj_11, lj_12, lj_13, lj_14, lj_15, lj_16, lj_17, lj_18, lj_19, lj_20, lj_21, lj_22, lj_23, lj_24, lj_25, lj_26, lj_27, lj_28, lj_29, lj_30, lj_31, lj_32, lj_33, lj_34, lj_35, lj_36, lj_37, lj_38, lj_39, lj_40, lj_48, lj_50, lj_57, lj_59, lj_60, lj_63, lj_64, lj_65, lj_90, lj_96, lj_97, lj_99, lj_100, lj_101, lj_105, lj_112, lj_114, lj_116, lj_119, lj_122, lj_128, lj_200, lj_255, lj_256, lj_500, lj_777, lj_1000, hW.1, w0, q, jr_38_0 hW, jr_38_1 hW, jr_38_2 hW, jr_38_3 hW, hW.1, jS0_38, jS0_39, jS0_40, jS0_41, jS0_42, hz6, e4, e5] | (refine br_c (fun _ => ?_) (fun _ => ?_) <;> try (exfalso; omega)) | (refine br_d (fun _ => ?_) (fun _ => ?_) <;> try (exfalso; omega)) | refine And.intro ?_ ?_ | (refine Nat.ne_of_gt ?_; omega))
    refine jh_o ?_
    have hW2 := F.wd hW
    have w1 := (jWs hW2).1
    have e4' := ((F.1 38 (by simp)).1 4).trans e4
    have e5' := ((F.1 38 (by simp)).1 5).trans e5
    have F' : jFr [38, 39, 40, 41] μ ν := F.mono (by simp)
    unfold mBad mSh mTm mV at k
    unfold mBad at h0
    unfold mV at hb200
    generalize mW T V w v a b = r at k h0 hb200
    cases r with
    | none =>
      have k0 := h0 ⟨c, rfl⟩ ν F'
      have e : oI none = -1 := rfl
      have ej : ((-1 : Int32) = -1) = True := eq_true rfl
      refine b120_64 ?_
      repeat' (first | refine b120_13 ?_ | refine b120_53 ?_ | refine b120_74 ?_ | refine b120_107 ?_ | refine b120_113 ?_ | dsimp only [jb_e0, jb_ec, jb_n, jb_c, jx_op, j1i_c, j2i_c, j1l_c, j2l_c, jil_c, j1r_c, jri_c, jrii_c, jril_c, jrl_c, jrr_c, j2i'_c, jdup_i, jdup_r, jdup2_c, jdup2_l, jpo_c, jli, jll, jlr, jat_0, jat_s, jst, jst2, jkill_i, jkill_r, jkill_l, jkill_n, jnone, jgv_0, jgv_1, jgv_2, jgv_3, jrv_s, jput_0, jput_1, jput_2, jput_3, jpop_0, jpop_1, jcl_s, jc1, jc2, jvi, Nat.reduceAdd, jol_i, jol_l, jol_n, jap_n, jap_c, List.map_cons, List.map_nil, List.sum_cons, List.sum_nil, jcI, jcL, jcR, gI_sI, gI_sL, gI_sR, gL_sI, gL_sL, gL_sR, gR_sI, gR_sL, gR_sR, gS_sI, gS_sL, gS_sR, gN_sI, gN_sL, gN_sR] | simp (disch := omega) only [Nat.zero_le, true_and, and_true, and_self, Nat.reduceLeDiff, true_or, or_true, false_or, or_false, Nat.reduceEqDiff, false_and, and_false, if_false, if_true, reduceIte, not_true_eq_false, not_false_eq_true, true_imp_iff, false_imp_iff, List.map_cons, List.map_nil, List.sum_cons, List.sum_nil, jcI, jcL, jcR, Nat.reduceAdd, jrv_s, j1r_c, jap_n, jap_c, gI_sI, gL_sL, gI_sL, gL_sI, an_lt, an_le, an_eq, an_lt0, an_0le, an_0lt, an_le0, an_eq0, an_eq1, an_1lt, an_le1, an_1le, an_lt1, an_eqm, an_sub, an_sub1, an_div, an_rem, an_in, an_in0, an_in1, an_cl, an_cl0, an_cl1, nI_add, nI_1, an_1a, pk_mul, Nat.reduceMul, jz10, jz01, j00, j11, jb0, Classical.not_not, eq_self, an_ite, an_of, an_nm, nI_l, lN_add, lN_mul, lN_i, lj_2, lj_3, lj_4, lj_5, lj_6, lj_7, lj_8, lj_9, lj_10, lj_11, lj_12, lj_13, lj_14, lj_15, lj_16, lj_17, lj_18, lj_19, lj_20, lj_21, lj_22, lj_23, lj_24, lj_25, lj_26, lj_27, lj_28, lj_29, lj_30, lj_31, lj_32, lj_33, lj_34, lj_35, lj_36, lj_37, lj_38, lj_39, lj_40, lj_48, lj_50, lj_57, lj_59, lj_60, lj_63, lj_64, lj_65, lj_90, lj_96, lj_97, lj_99, lj_100, lj_101, lj_105, lj_112, lj_114, lj_116, lj_119, lj_122, lj_128, lj_200, lj_255, lj_256, lj_500, lj_777, lj_1000, hW2.1, jr_38_0 hW2, jr_38_1 hW2, jr_38_2 hW2, jr_38_3 hW2, hW2.1, jS0_38, jS0_39, jS0_40, jS0_41, jS0_42, e, ej] | (refine br_c (fun _ => ?_) (fun _ => ?_) <;> try (exfalso; omega)) | (refine br_d (fun _ => ?_) (fun _ => ?_) <;> try (exfalso; omega)) | refine And.intro ?_ ?_ | (refine Nat.ne_of_gt ?_; omega))
      all_goals exact k0
    | some x =>
      have hx : x ≤ 200 := hb200
      have e : oI (some x) = nI x := rfl
      have hmul : tLk T a b * x ≤ 81 * 200 := Nat.mul_le_mul hl hx
      have k1 := k (fun z => by cases z.2) (sI (sI ν 38 4 (nI (S + tLk T a b * x))) 38 5 (nI (if M < x then x else M))) (some (.int (nI (tLk T a b)))) (some (.int (nI x))) rfl (F'.trans ((jFr.sI (by simp)).trans (jFr.sI (by simp)))) rfl (by
        rw [if_neg c]
        rfl)
      refine b120_64 ?_
      repeat' (first | refine b120_13 ?_ | refine b120_53 ?_ | refine b120_74 ?_ | refine b120_107 ?_ | refine b120_113 ?_ | dsimp only [jb_e0, jb_ec, jb_n, jb_c, jx_op, j1i_c, j2i_c, j1l_c, j2l_c, jil_c, j1r_c, jri_c, jrii_c, jril_c, jrl_c, jrr_c, j2i'_c, jdup_i, jdup_r, jdup2_c, jdup2_l, jpo_c, jli, jll, jlr, jat_0, jat_s, jst, jst2, jkill_i, jkill_r, jkill_l, jkill_n, jnone, jgv_0, jgv_1, jgv_2, jgv_3, jrv_s, jput_0, jput_1, jput_2, jput_3, jpop_0, jpop_1, jcl_s, jc1, jc2, jvi, Nat.reduceAdd, jol_i, jol_l, jol_n, jap_n, jap_c, List.map_cons, List.map_nil, List.sum_cons, List.sum_nil, jcI, jcL, jcR, gI_sI, gI_sL, gI_sR, gL_sI, gL_sL, gL_sR, gR_sI, gR_sL, gR_sR, gS_sI, gS_sL, gS_sR, gN_sI, gN_sL, gN_sR] | simp (disch := omega) only [Nat.zero_le, true_and, and_true, and_self, Nat.reduceLeDiff, true_or, or_true, false_or, or_false, Nat.reduceEqDiff, false_and, and_false, if_false, if_true, reduceIte, not_true_eq_false, not_false_eq_true, true_imp_iff, false_imp_iff, List.map_cons, List.map_nil, List.sum_cons, List.sum_nil, jcI, jcL, jcR, Nat.reduceAdd, jrv_s, j1r_c, jap_n, jap_c, gI_sI, gL_sL, gI_sL, gL_sI, an_lt, an_le, an_eq, an_lt0, an_0le, an_0lt, an_le0, an_eq0, an_eq1, an_1lt, an_le1, an_1le, an_lt1, an_eqm, an_sub, an_sub1, an_div, an_rem, an_in, an_in0, an_in1, an_cl, an_cl0, an_cl1, nI_add, nI_1, an_1a, pk_mul, Nat.reduceMul, jz10, jz01, j00, j11, jb0, Classical.not_not, eq_self, an_ite, an_of, an_nm, nI_l, lN_add, lN_mul, lN_i, lj_2, lj_3, lj_4, lj_5, lj_6, lj_7, lj_8, lj_9, lj_10, lj_11, lj_12, lj_13, lj_14, lj_15, lj_16, lj_17, lj_18, lj_19, lj_20, lj_21, lj_22, lj_23, lj_24, lj_25, lj_26, lj_27, lj_28, lj_29, lj_30, lj_31, lj_32, lj_33, lj_34, lj_35, lj_36, lj_37, lj_38, lj_39, lj_40, lj_48, lj_50, lj_57, lj_59, lj_60, lj_63, lj_64, lj_65, lj_90, lj_96, lj_97, lj_99, lj_100, lj_101, lj_105, lj_112, lj_114, lj_116, lj_119, lj_122, lj_128, lj_200, lj_255, lj_256, lj_500, lj_777, lj_1000, hW2.1, jr_38_0 hW2, jr_38_1 hW2, jr_38_2 hW2, jr_38_3 hW2, hW2.1, jS0_38, jS0_39, jS0_40, jS0_41, jS0_42, e, e4', e5'] | (refine br_c (fun _ => ?_) (fun _ => ?_) <;> try (exfalso; omega)) | (refine br_d (fun _ => ?_) (fun _ => ?_) <;> try (exfalso; omega)) | refine And.intro ?_ ?_ | (refine Nat.ne_of_gt ?_; omega))
      all_goals exact k1
theorem meet_in {a S M : Nat} (hW : jWd L t μ) (hK : jTok T) (hX : jTX T t μ) (hV : jVok V) (hVX : jVX V μ) (hw : w < wC V) (hv : v < wC V) (ha : a < tP T) (hS : S ≤ 907200) (hM : M ≤ 200)
    (h0 : (∃ b, b < tP T ∧ mBad T V w v a b) → ∀ ν, jFr [38, 39, 40, 41] μ ν → Q (some (.int 0)) ν)
    (h : (∀ b, b < tP T → ¬ mBad T V w v a b) → ∀ ν z6 z7, jkill z6 = z6 → jFr [38, 39, 40, 41] μ ν → gI ν 38 4 = nI (S + jsum (fun b => mSh T V w v a b) (tP T)) → gI ν 38 5 = nI (jmx (fun b => mTm T V w v a b) M (tP T)) → jR (d + 6) 120 107 [some (.ref 38), some (.ref t), some (.int (nI w)), some (.int (nI v)), some (.int (nI a)), some (.int (nI (tP T))), z6, z7] [] (0, 0) ν Q) :
    ∀ (n b : Nat) (ν : jMem) (z6 z7 : Option Value), jkill z6 = z6 → b + n = tP T → jFr [38, 39, 40, 41] μ ν → (∀ b', b' < b → ¬ mBad T V w v a b') → gI ν 38 4 = nI (S + jsum (fun b => mSh T V w v a b) b) → gI ν 38 5 = nI (jmx (fun b => mTm T V w v a b) M b) → jR (d + 6) 120 25 [some (.ref 38), some (.ref t), some (.int (nI w)), some (.int (nI v)), some (.int (nI a)), some (.int (nI b)), z6, z7] [] (0, 0) ν Q := by
  have h8 := hK.1.1
  intro n
  induction n with
  | zero =>
    intro b ν z6 z7 hz6 hb hF hg e4 e5
    obtain rfl : b = tP T := by omega
    have hWν := hF.wd hW
    have w0 := (jWs hW).1
    have q := (jTX_fr (by decide) hW hF hX).1.1
    have k := h hg ν z6 z7 hz6 hF e4 e5
    refine b120_25 ?_
    repeat' (first | refine b120_13 ?_ | refine b120_53 ?_ | refine b120_64 ?_ | refine b120_74 ?_ | refine b120_113 ?_ | dsimp only [jb_e0, jb_ec, jb_n, jb_c, jx_op, j1i_c, j2i_c, j1l_c, j2l_c, jil_c, j1r_c, jri_c, jrii_c, jril_c, jrl_c, jrr_c, j2i'_c, jdup_i, jdup_r, jdup2_c, jdup2_l, jpo_c, jli, jll, jlr, jat_0, jat_s, jst, jst2, jkill_i, jkill_r, jkill_l, jkill_n, jnone, jgv_0, jgv_1, jgv_2, jgv_3, jrv_s, jput_0, jput_1, jput_2, jput_3, jpop_0, jpop_1, jcl_s, jc1, jc2, jvi, Nat.reduceAdd, jol_i, jol_l, jol_n, jap_n, jap_c, List.map_cons, List.map_nil, List.sum_cons, List.sum_nil, jcI, jcL, jcR, gI_sI, gI_sL, gI_sR, gL_sI, gL_sL, gL_sR, gR_sI, gR_sL, gR_sR, gS_sI, gS_sL, gS_sR, gN_sI, gN_sL, gN_sR] | simp (disch := omega) only [Nat.zero_le, true_and, and_true, and_self, Nat.reduceLeDiff, true_or, or_true, false_or, or_false, Nat.reduceEqDiff, false_and, and_false, if_false, if_true, reduceIte, not_true_eq_false, not_false_eq_true, true_imp_iff, false_imp_iff, List.map_cons, List.map_nil, List.sum_cons, List.sum_nil, jcI, jcL, jcR, Nat.reduceAdd, jrv_s, j1r_c, jap_n, jap_c, gI_sI, gL_sL, gI_sL, gL_sI, an_lt, an_le, an_eq, an_lt0, an_0le, an_0lt, an_le0, an_eq0, an_eq1, an_1lt, an_le1, an_1le, an_lt1, an_eqm, an_sub, an_sub1, an_div, an_rem, an_in, an_in0, an_in1, an_cl, an_cl0, an_cl1, nI_add, nI_1, an_1a, pk_mul, Nat.reduceMul, jz10, jz01, j00, j11, jb0, Classical.not_not, eq_self, an_ite, an_of, an_nm, nI_l, lN_add, lN_mul, lN_i, lj_2, lj_3, lj_4, lj_5, lj_6, lj_7, lj_8, lj_9, lj_10, lj_11, lj_12, lj_13, lj_14, lj_15, lj_16, lj_17, lj_18, lj_19, lj_20, lj_21, lj_22, lj_23, lj_24, lj_25, lj_26, lj_27, lj_28, lj_29, lj_30, lj_31, lj_32, lj_33, lj_34, lj_35, lj_36, lj_37, lj_38, lj_39, lj_40, lj_48, lj_50, lj_57, lj_59, lj_60, lj_63, lj_64, lj_65, lj_90, lj_96, lj_97, lj_99, lj_100, lj_101, lj_105, lj_112, lj_114, lj_116, lj_119, lj_122, lj_128, lj_200, lj_255, lj_256, lj_500, lj_777, lj_1000, hWν.1, w0, q, hz6] | (refine br_c (fun _ => ?_) (fun _ => ?_) <;> try (exfalso; omega)) | (refine br_d (fun _ => ?_) (fun _ => ?_) <;> try (exfalso; omega)) | refine And.intro ?_ ?_ | (refine Nat.ne_of_gt ?_; omega))
    all_goals exact k
  | succ n ih =>
    intro b ν z6 z7 hz6 hb hF hg e4 e5
    have hbt : b < tP T := by omega
    have hr := mRow_le (V := V) (w := w) (v := v) (n := b) hK ha (by omega)
    have hm := jmx_le (f := fun b => mTm T V w v a b) hM (fun _ => mTm_le) b
    refine meet_step (hF.wd hW) hK (jTX_fr (by decide) hW hF hX) hV (jVX_fr (by decide) hF hVX) hw hv ha hbt (by omega) hm e4 e5 hz6 (fun hbad ν2 F2 => h0 ⟨b, hbt, hbad⟩ ν2 (hF.trans F2)) (fun hgd ν2 y6 y7 hy6 F2 e42 e52 => ?_)
    refine ih (b + 1) ν2 y6 y7 hy6 (by omega) (hF.trans F2) (fun b' hb' => ?_) (by rw [e42, jsum, Nat.add_assoc]) e52
    by_cases e : b' = b
    · subst e
      exact hgd
    · exact hg b' (by omega)
theorem sp_meets {Q : jQ} (hW : jWd L t μ) (hK : jTok T) (hX : jTX T t μ) (hV : jVok V) (hVX : jVX V μ) (hw : w < wC V) (hv : v < wC V)
    (h0 : ¬ mGood T V w v → ∀ ν, jFr [38, 39, 40, 41] μ ν → Q (some (.int 0)) ν)
    (h : mGood T V w v → ∀ ν, jFr [38, 39, 40, 41] μ ν → gI ν 38 4 = nI (mTot T V w v (tP T)) → gI ν 38 5 = nI (mMax T V w v (tP T)) → Q (some (.int 1)) ν) : jC (d + 6) 120 [.ref 38, .ref t, .int (nI w), .int (nI v)] μ Q := by
  have h8 := hK.1.1
  have key : ∀ (n a : Nat) (ν : jMem) (z5 z6 z7 : Option Value), jkill z5 = z5 → jkill z6 = z6 → a + n = tP T → jFr [38, 39, 40, 41] μ ν → (∀ a' b', a' < a → b' < tP T → ¬ mBad T V w v a' b') → gI ν 38 4 = nI (mTot T V w v a) → gI ν 38 5 = nI (mMax T V w v a) → jR (d + 6) 120 13 [some (.ref 38), some (.ref t), some (.int (nI w)), some (.int (nI v)), some (.int (nI a)), z5, z6, z7] [] (0, 0) ν Q := by
    intro n
    induction n with
    | zero =>
      intro a ν z5 z6 z7 hz5 hz6 ha hF hg e4 e5
      obtain rfl : a = tP T := by omega
      have hWν := hF.wd hW
      have w0 := (jWs hW).1
      have q := (jTX_fr (by decide) hW hF hX).1.1
      have k := h (fun a b ha hb => hg a b ha hb) ν hF e4 e5
      refine b120_13 ?_
      repeat' (first | refine b120_53 ?_ | refine b120_64 ?_ | refine b120_74 ?_ | refine b120_107 ?_ | refine b120_113 ?_ | dsimp only [jb_e0, jb_ec, jb_n, jb_c, jx_op, j1i_c, j2i_c, j1l_c, j2l_c, jil_c, j1r_c, jri_c, jrii_c, jril_c, jrl_c, jrr_c, j2i'_c, jdup_i, jdup_r, jdup2_c, jdup2_l, jpo_c, jli, jll, jlr, jat_0, jat_s, jst, jst2, jkill_i, jkill_r, jkill_l, jkill_n, jnone, jgv_0, jgv_1, jgv_2, jgv_3, jrv_s, jput_0, jput_1, jput_2, jput_3, jpop_0, jpop_1, jcl_s, jc1, jc2, jvi, Nat.reduceAdd, jol_i, jol_l, jol_n, jap_n, jap_c, List.map_cons, List.map_nil, List.sum_cons, List.sum_nil, jcI, jcL, jcR, gI_sI, gI_sL, gI_sR, gL_sI, gL_sL, gL_sR, gR_sI, gR_sL, gR_sR, gS_sI, gS_sL, gS_sR, gN_sI, gN_sL, gN_sR] | simp (disch := omega) only [Nat.zero_le, true_and, and_true, and_self, Nat.reduceLeDiff, true_or, or_true, false_or, or_false, Nat.reduceEqDiff, false_and, and_false, if_false, if_true, reduceIte, not_true_eq_false, not_false_eq_true, true_imp_iff, false_imp_iff, List.map_cons, List.map_nil, List.sum_cons, List.sum_nil, jcI, jcL, jcR, Nat.reduceAdd, jrv_s, j1r_c, jap_n, jap_c, gI_sI, gL_sL, gI_sL, gL_sI, an_lt, an_le, an_eq, an_lt0, an_0le, an_0lt, an_le0, an_eq0, an_eq1, an_1lt, an_le1, an_1le, an_lt1, an_eqm, an_sub, an_sub1, an_div, an_rem, an_in, an_in0, an_in1, an_cl, an_cl0, an_cl1, nI_add, nI_1, an_1a, pk_mul, Nat.reduceMul, jz10, jz01, j00, j11, jb0, Classical.not_not, eq_self, an_ite, an_of, an_nm, nI_l, lN_add, lN_mul, lN_i, lj_2, lj_3, lj_4, lj_5, lj_6, lj_7, lj_8, lj_9, lj_10, lj_11, lj_12, lj_13, lj_14, lj_15, lj_16, lj_17, lj_18, lj_19, lj_20, lj_21, lj_22, lj_23, lj_24, lj_25, lj_26, lj_27, lj_28, lj_29, lj_30, lj_31, lj_32, lj_33, lj_34, lj_35, lj_36, lj_37, lj_38, lj_39, lj_40, lj_48, lj_50, lj_57, lj_59, lj_60, lj_63, lj_64, lj_65, lj_90, lj_96, lj_97, lj_99, lj_100, lj_101, lj_105, lj_112, lj_114, lj_116, lj_119, lj_122, lj_128, lj_200, lj_255, lj_256, lj_500, lj_777, lj_1000, hWν.1, w0, q, hz5, hz6] | (refine br_c (fun _ => ?_) (fun _ => ?_) <;> try (exfalso; omega)) | (refine br_d (fun _ => ?_) (fun _ => ?_) <;> try (exfalso; omega)) | refine And.intro ?_ ?_ | (refine Nat.ne_of_gt ?_; omega))
      all_goals exact k
    | succ n ih =>
      intro a ν z5 z6 z7 hz5 hz6 ha hF hg e4 e5
      have hat : a < tP T := by omega
      have hWν := hF.wd hW
      have w0 := (jWs hW).1
      have q := (jTX_fr (by decide) hW hF hX).1.1
      have hs : mTot T V w v a ≤ 907200 := by
        have h1 := jsum_le (f := fun a => jsum (fun b => mSh T V w v a b) (tP T)) (c := 129600) a (fun i hi => mRow_le hK (by omega) (Nat.le_refl _))
        unfold mTot
        omega
      have k := meet_in (d := d) (Q := Q) (S := mTot T V w v a) (M := mMax T V w v a) hWν hK (jTX_fr (by decide) hW hF hX) hV (jVX_fr (by decide) hF hVX) hw hv hat hs (mMax_le _) (fun hb ν2 F2 => h0 (fun z => by
        obtain ⟨b, hb1, hb2⟩ := hb
        exact z a b hat hb1 hb2) ν2 (hF.trans F2)) (fun hgd ν2 y6 y7 hy6 F2 e42 e52 => by
        have hW2 := F2.wd hWν
        refine b120_107 ?_
        have k2 := ih (a + 1) ν2 (some (.int (nI (tP T)))) y6 y7 rfl hy6 (by omega) (hF.trans F2) (fun a' b' ha' hb' => by
          by_cases e : a' = a
          · subst e
            exact hgd b' hb'
          · exact hg a' b' (by omega) hb') e42 e52
        repeat' (first | refine b120_53 ?_ | refine b120_64 ?_ | refine b120_74 ?_ | refine b120_107 ?_ | refine b120_113 ?_ | dsimp only [jb_e0, jb_ec, jb_n, jb_c, jx_op, j1i_c, j2i_c, j1l_c, j2l_c, jil_c, j1r_c, jri_c, jrii_c, jril_c, jrl_c, jrr_c, j2i'_c, jdup_i, jdup_r, jdup2_c, jdup2_l, jpo_c, jli, jll, jlr, jat_0, jat_s, jst, jst2, jkill_i, jkill_r, jkill_l, jkill_n, jnone, jgv_0, jgv_1, jgv_2, jgv_3, jrv_s, jput_0, jput_1, jput_2, jput_3, jpop_0, jpop_1, jcl_s, jc1, jc2, jvi, Nat.reduceAdd, jol_i, jol_l, jol_n, jap_n, jap_c, List.map_cons, List.map_nil, List.sum_cons, List.sum_nil, jcI, jcL, jcR, gI_sI, gI_sL, gI_sR, gL_sI, gL_sL, gL_sR, gR_sI, gR_sL, gR_sR, gS_sI, gS_sL, gS_sR, gN_sI, gN_sL, gN_sR] | simp (disch := omega) only [Nat.zero_le, true_and, and_true, and_self, Nat.reduceLeDiff, true_or, or_true, false_or, or_false, Nat.reduceEqDiff, false_and, and_false, if_false, if_true, reduceIte, not_true_eq_false, not_false_eq_true, true_imp_iff, false_imp_iff, List.map_cons, List.map_nil, List.sum_cons, List.sum_nil, jcI, jcL, jcR, Nat.reduceAdd, jrv_s, j1r_c, jap_n, jap_c, gI_sI, gL_sL, gI_sL, gL_sI, an_lt, an_le, an_eq, an_lt0, an_0le, an_0lt, an_le0, an_eq0, an_eq1, an_1lt, an_le1, an_1le, an_lt1, an_eqm, an_sub, an_sub1, an_div, an_rem, an_in, an_in0, an_in1, an_cl, an_cl0, an_cl1, nI_add, nI_1, an_1a, pk_mul, Nat.reduceMul, jz10, jz01, j00, j11, jb0, Classical.not_not, eq_self, an_ite, an_of, an_nm, nI_l, lN_add, lN_mul, lN_i, lj_2, lj_3, lj_4, lj_5, lj_6, lj_7, lj_8, lj_9, lj_10, lj_11, lj_12, lj_13, lj_14, lj_15, lj_16, lj_17, lj_18, lj_19, lj_20, lj_21, lj_22, lj_23, lj_24, lj_25, lj_26, lj_27, lj_28, lj_29, lj_30, lj_31, lj_32, lj_33, lj_34, lj_35, lj_36, lj_37, lj_38, lj_39, lj_40, lj_48, lj_50, lj_57, lj_59, lj_60, lj_63, lj_64, lj_65, lj_90, lj_96, lj_97, lj_99, lj_100, lj_101, lj_105, lj_112, lj_114, lj_116, lj_119, lj_122, lj_128, lj_200, lj_255, lj_256, lj_500, lj_777, lj_1000, hW2.1, w0, hy6] | (refine br_c (fun _ => ?_) (fun _ => ?_) <;> try (exfalso; omega)) | (refine br_d (fun _ => ?_) (fun _ => ?_) <;> try (exfalso; omega)) | refine And.intro ?_ ?_ | (refine Nat.ne_of_gt ?_; omega))
        all_goals exact k2) (tP T) 0 ν z6 z7 hz6 (by omega) jFr.rf (fun b' hb' => absurd hb' (Nat.not_lt_zero _)) e4 e5
      refine b120_13 ?_
      repeat' (first | refine b120_53 ?_ | refine b120_64 ?_ | refine b120_74 ?_ | refine b120_107 ?_ | refine b120_113 ?_ | dsimp only [jb_e0, jb_ec, jb_n, jb_c, jx_op, j1i_c, j2i_c, j1l_c, j2l_c, jil_c, j1r_c, jri_c, jrii_c, jril_c, jrl_c, jrr_c, j2i'_c, jdup_i, jdup_r, jdup2_c, jdup2_l, jpo_c, jli, jll, jlr, jat_0, jat_s, jst, jst2, jkill_i, jkill_r, jkill_l, jkill_n, jnone, jgv_0, jgv_1, jgv_2, jgv_3, jrv_s, jput_0, jput_1, jput_2, jput_3, jpop_0, jpop_1, jcl_s, jc1, jc2, jvi, Nat.reduceAdd, jol_i, jol_l, jol_n, jap_n, jap_c, List.map_cons, List.map_nil, List.sum_cons, List.sum_nil, jcI, jcL, jcR, gI_sI, gI_sL, gI_sR, gL_sI, gL_sL, gL_sR, gR_sI, gR_sL, gR_sR, gS_sI, gS_sL, gS_sR, gN_sI, gN_sL, gN_sR] | simp (disch := omega) only [Nat.zero_le, true_and, and_true, and_self, Nat.reduceLeDiff, true_or, or_true, false_or, or_false, Nat.reduceEqDiff, false_and, and_false, if_false, if_true, reduceIte, not_true_eq_false, not_false_eq_true, true_imp_iff, false_imp_iff, List.map_cons, List.map_nil, List.sum_cons, List.sum_nil, jcI, jcL, jcR, Nat.reduceAdd, jrv_s, j1r_c, jap_n, jap_c, gI_sI, gL_sL, gI_sL, gL_sI, an_lt, an_le, an_eq, an_lt0, an_0le, an_0lt, an_le0, an_eq0, an_eq1, an_1lt, an_le1, an_1le, an_lt1, an_eqm, an_sub, an_sub1, an_div, an_rem, an_in, an_in0, an_in1, an_cl, an_cl0, an_cl1, nI_add, nI_1, an_1a, pk_mul, Nat.reduceMul, jz10, jz01, j00, j11, jb0, Classical.not_not, eq_self, an_ite, an_of, an_nm, nI_l, lN_add, lN_mul, lN_i, lj_2, lj_3, lj_4, lj_5, lj_6, lj_7, lj_8, lj_9, lj_10, lj_11, lj_12, lj_13, lj_14, lj_15, lj_16, lj_17, lj_18, lj_19, lj_20, lj_21, lj_22, lj_23, lj_24, lj_25, lj_26, lj_27, lj_28, lj_29, lj_30, lj_31, lj_32, lj_33, lj_34, lj_35, lj_36, lj_37, lj_38, lj_39, lj_40, lj_48, lj_50, lj_57, lj_59, lj_60, lj_63, lj_64, lj_65, lj_90, lj_96, lj_97, lj_99, lj_100, lj_101, lj_105, lj_112, lj_114, lj_116, lj_119, lj_122, lj_128, lj_200, lj_255, lj_256, lj_500, lj_777, lj_1000, hWν.1, w0, q, hz5, hz6] | (refine br_c (fun _ => ?_) (fun _ => ?_) <;> try (exfalso; omega)) | (refine br_d (fun _ => ?_) (fun _ => ?_) <;> try (exfalso; omega)) | refine And.intro ?_ ?_ | (refine Nat.ne_of_gt ?_; omega))
      all_goals exact k
  have k := key (tP T) 0 (sI (sI μ 38 4 0) 38 5 0) none none none rfl rfl (by omega) ((jFr.sI (by simp)).trans (jFr.sI (by simp))) (fun a' b' ha' => absurd ha' (Nat.not_lt_zero _)) rfl rfl
  refine e120 (b120_0 ?_)
  repeat' (first | refine b120_25 ?_ | refine b120_53 ?_ | refine b120_64 ?_ | refine b120_74 ?_ | refine b120_107 ?_ | refine b120_113 ?_ | dsimp only [jb_e0, jb_ec, jb_n, jb_c, jx_op, j1i_c, j2i_c, j1l_c, j2l_c, jil_c, j1r_c, jri_c, jrii_c, jril_c, jrl_c, jrr_c, j2i'_c, jdup_i, jdup_r, jdup2_c, jdup2_l, jpo_c, jli, jll, jlr, jat_0, jat_s, jst, jst2, jkill_i, jkill_r, jkill_l, jkill_n, jnone, jgv_0, jgv_1, jgv_2, jgv_3, jrv_s, jput_0, jput_1, jput_2, jput_3, jpop_0, jpop_1, jcl_s, jc1, jc2, jvi, Nat.reduceAdd, jol_i, jol_l, jol_n, jap_n, jap_c, List.map_cons, List.map_nil, List.sum_cons, List.sum_nil, jcI, jcL, jcR, gI_sI, gI_sL, gI_sR, gL_sI, gL_sL, gL_sR, gR_sI, gR_sL, gR_sR, gS_sI, gS_sL, gS_sR, gN_sI, gN_sL, gN_sR] | simp (disch := omega) only [Nat.zero_le, true_and, and_true, and_self, Nat.reduceLeDiff, true_or, or_true, false_or, or_false, Nat.reduceEqDiff, false_and, and_false, if_false, if_true, reduceIte, not_true_eq_false, not_false_eq_true, true_imp_iff, false_imp_iff, List.map_cons, List.map_nil, List.sum_cons, List.sum_nil, jcI, jcL, jcR, Nat.reduceAdd, jrv_s, j1r_c, jap_n, jap_c, gI_sI, gL_sL, gI_sL, gL_sI, an_lt, an_le, an_eq, an_lt0, an_0le, an_0lt, an_le0, an_eq0, an_eq1, an_1lt, an_le1, an_1le, an_lt1, an_eqm, an_sub, an_sub1, an_div, an_rem, an_in, an_in0, an_in1, an_cl, an_cl0, an_cl1, nI_add, nI_1, an_1a, pk_mul, Nat.reduceMul, jz10, jz01, j00, j11, jb0, Classical.not_not, eq_self, an_ite, an_of, an_nm, nI_l, lN_add, lN_mul, lN_i, lj_2, lj_3, lj_4, lj_5, lj_6, lj_7, lj_8, lj_9, lj_10, lj_11, lj_12, lj_13, lj_14, lj_15, lj_16, lj_17, lj_18, lj_19, lj_20, lj_21, lj_22, lj_23, lj_24, lj_25, lj_26, lj_27, lj_28, lj_29, lj_30, lj_31, lj_32, lj_33, lj_34, lj_35, lj_36, lj_37, lj_38, lj_39, lj_40, lj_48, lj_50, lj_57, lj_59, lj_60, lj_63, lj_64, lj_65, lj_90, lj_96, lj_97, lj_99, lj_100, lj_101, lj_105, lj_112, lj_114, lj_116, lj_119, lj_122, lj_128, lj_200, lj_255, lj_256, lj_500, lj_777, lj_1000, hW.1, jr_38_0 hW, jr_38_1 hW, jr_38_2 hW, jr_38_3 hW, hW.1, jS0_38, jS0_39, jS0_40, jS0_41, jS0_42] | (refine br_c (fun _ => ?_) (fun _ => ?_) <;> try (exfalso; omega)) | (refine br_d (fun _ => ?_) (fun _ => ?_) <;> try (exfalso; omega)) | refine And.intro ?_ ?_ | (refine Nat.ne_of_gt ?_; omega))
  all_goals exact k
end JMN
