/-! agreed, alike: the reference goes through all rows -/
section JRP
variable {d L t : Nat} {μ : jMem} {Q : jQ} {T : jT} {a b c m n o k s v nm : Nat} {al : Bool} {r e : Nat → Nat}
def rNm (al : Bool) (n : Nat) : Nat := if al = true then n else 2 * n
/-- the row of a number -/
def rEv (al : Bool) (n v : Nat) : Nat → Nat := rD (rB al) n v
def rRow (al : Bool) (T : jT) (n v : Nat) : Nat → Nat := fun t => rC al T t (rEv al n v t)
def rFM (al : Bool) (T : jT) (n v : Nat) : Nat := rFm T (rRow al T n v) n
def rFL (al : Bool) (T : jT) (n v : Nat) : Nat := rFl T (rRow al T n v) n
theorem rB_pos : 0 < rB al := by
  unfold rB
  cases al <;> simp
theorem rB_pow : rB al ^ n = 5 ^ rNm al n := by
  unfold rB rNm
  cases al with
  | true => rfl
  | false =>
    show 25 ^ n = 5 ^ (2 * n)
    rw [Nat.pow_mul]
theorem rNm_le (hn : n ≤ 5) (hal : al = false → n ≤ 3) : rNm al n ≤ 6 := by
  unfold rNm
  cases al with
  | true =>
    show n ≤ 6
    omega
  | false =>
    have := hal rfl
    show 2 * n ≤ 6
    omega
theorem p5_le (hm : m ≤ 6) : 5 ^ m ≤ 15625 := by
  rcases (show m = 0 ∨ m = 1 ∨ m = 2 ∨ m = 3 ∨ m = 4 ∨ m = 5 ∨ m = 6 by omega) with rfl | rfl | rfl | rfl | rfl | rfl | rfl <;> decide
theorem rHd_of (hn : 1 ≤ n) (h : ∀ k, k < rNm al n → gI μ 160 k = nI (rD 5 (rNm al n) v k)) : rHd al n (rEv al n v) μ := fun t ht => by
  refine ⟨rD_lt rB_pos, ?_⟩
  cases al with
  | true =>
    have h1 := h t ht
    exact ⟨h1, h1⟩
  | false =>
    have h1 := h (2 * t) (show 2 * t < 2 * n by omega)
    have h2 := h (2 * t + 1) (show 2 * t + 1 < 2 * n by omega)
    have p1 : v / 25 ^ (n - 1 - t) / 5 % 5 = v / 25 ^ (n - 1 - t) % 25 / 5 := by omega
    have p2 : v / 25 ^ (n - 1 - t) % 5 = v / 25 ^ (n - 1 - t) % 25 % 5 := by omega
    have g1 : rD 5 (2 * n) v (2 * t) = rEv false n v t / 5 := by
      show v / 5 ^ (2 * n - 1 - 2 * t) % 5 = v / 25 ^ (n - 1 - t) % 25 / 5
      rw [show 2 * n - 1 - 2 * t = 2 * (n - 1 - t) + 1 by omega, Nat.pow_succ, Nat.pow_mul, ← Nat.div_div_eq_div_mul]
      exact p1
    have g2 : rD 5 (2 * n) v (2 * t + 1) = rEv false n v t % 5 := by
      show v / 5 ^ (2 * n - 1 - (2 * t + 1)) % 5 = v / 25 ^ (n - 1 - t) % 25 % 5
      rw [show 2 * n - 1 - (2 * t + 1) = 2 * (n - 1 - t) by omega, Nat.pow_mul]
      exact p2
    exact ⟨by rw [← show rD 5 (2 * n) v (2 * t) = rX false (rEv false n v t) from g1]; exact h1, by rw [← show rD 5 (2 * n) v (2 * t + 1) = rY false (rEv false n v t) from g2]; exact h2⟩
/-- one beginning -/
theorem fr_one {x7 x9 : Nat} {z5 z6 : Option Value} (hW : jWd L t μ) (hK : jTok T) (hM : jTM T μ) (ha : a < tP T) (hb : b < tP T) (hn : n ≤ 5) (hal : al = false → n ≤ 3) (hd : rHd al n e μ) (b7 : x7 ≤ 100000000) (b9 : x9 ≤ 100000000) {v2 v4 : Int32}
    (h : ∀ z, jR (d + 4) 259 99 [some (.ref 133), some (.int (nI n)), some (.int v2), some (.int (jbi al)), some (.int v4), z5, z6, some (.long (lN (x7 + if rWt T (fun t => rC al T t (e t)) n (8 * a + b) = none then 0 else tLk T a b))), none, some (.long (lN (x9 + tLk T a b * rTm T (fun t => rC al T t (e t)) (n + 1) (8 * a + b)))), none, some (.int (nI a)), some (.int (nI (b + 1))), z] [] (0, 0) μ Q) (hz6 : jkill z6 = z6) :
    ∀ z, jR (d + 4) 259 99 [some (.ref 133), some (.int (nI n)), some (.int v2), some (.int (jbi al)), some (.int v4), z5, z6, some (.long (lN x7)), none, some (.long (lN x9)), none, some (.int (nI a)), some (.int (nI b)), z] [] (0, 0) μ Q := by
  have h8 := hK.1.1
  have q20 := hM.1.1
  have lk := fun (d : Nat) (Q' : jQ) (kq : Q' (some (.long (lN (tLk T a b)))) μ) => sM_likely (d := d) hW hK hM ha hb kq
  have lb := tLk_le hK ha hb
  have by_ : ∀ (d : Nat) (Q' : jQ), Q' (some (.int (oI (rBy T (fun t => rC al T t (e t)) n (8 * a + b))))) μ → jC (d + 3) 258 [.ref 133, .int (nI a), .int (nI b), .int (nI n), .int (jbi al)] μ Q' := fun d Q' kq => sM_byRows hW hK hM ha hb hn hal hd kq
  intro z
  by_cases c0 : tLk T a b = 0
  · have kk := h (some (.int 0))
    rw [c0, ite_self, Nat.zero_mul, Nat.add_zero, Nat.add_zero] at kk
    rw [c0] at lk
    have t0 : Int32.toInt64 0 = lN 0 := by decide
    generalize jbi al = v3 at *
    refine b259_99 ?_
    repeat' (first | refine b259_6 ?_ | refine b259_24 ?_ | refine b259_34 ?_ | refine b259_50 ?_ | refine b259_78 ?_ | refine b259_87 ?_ | refine b259_125 ?_ | refine b259_135 ?_ | refine b259_155 ?_ | refine b259_156 ?_ | refine b259_180 ?_ | refine b259_182 ?_ | refine b259_199 ?_ | refine b259_241 ?_ | refine b259_256 ?_ | refine b259_283 ?_ | refine b259_297 ?_ | refine b259_303 ?_ | refine b259_309 ?_ | refine lk _ _ ?_ | dsimp only [jb_e0, jb_ec, jb_n, jb_c, jx_op, j1i_c, j2i_c, j1l_c, j2l_c, jil_c, j1r_c, jri_c, jrii_c, jril_c, jrl_c, jrr_c, j2i'_c, jdup_i, jdup_r, jdup2_c, jdup2_l, jpo_c, jli, jll, jlr, jat_0, jat_s, jst, jst2, jkill_i, jkill_r, jkill_l, jkill_n, jnone, jgv_0, jgv_1, jgv_2, jgv_3, jrv_s, jput_0, jput_1, jput_2, jput_3, jpop_0, jpop_1, jcl_s, jc1, jc2, jvi, Nat.reduceAdd, jol_i, jol_l, jol_n, jap_n, jap_c, List.map_cons, List.map_nil, List.sum_cons, List.sum_nil, jcI, jcL, jcR, gI_sI, gI_sL, gI_sR, gL_sI, gL_sL, gL_sR, gR_sI, gR_sL, gR_sR, gS_sI, gS_sL, gS_sR, gN_sI, gN_sL, gN_sR] | simp (disch := omega) only [Nat.zero_le, true_and, and_true, and_self, Nat.reduceLeDiff, true_or, or_true, false_or, or_false, Nat.reduceEqDiff, false_and, and_false, if_false, if_true, reduceIte, not_true_eq_false, not_false_eq_true, true_imp_iff, false_imp_iff, List.map_cons, List.map_nil, List.sum_cons, List.sum_nil, jcI, jcL, jcR, Nat.reduceAdd, jrv_s, j1r_c, jap_n, jap_c, gI_sI, gL_sL, gI_sL, gL_sI, an_lt, an_le, an_eq, an_lt0, an_0le, an_0lt, an_le0, an_eq0, an_eq1, an_1lt, an_le1, an_1le, an_lt1, an_eqm, an_sub, an_sub1, an_div, an_rem, an_in, an_in0, an_in1, an_cl, an_cl0, an_cl1, nI_add, nI_1, an_1a, pk_mul, Nat.reduceMul, jz10, jz01, j00, j11, jb0, Classical.not_not, eq_self, an_ite, an_of, an_nm, nI_l, lN_add, lN_mul, lN_i, lj_2, lj_3, lj_4, lj_5, lj_6, lj_7, lj_8, lj_9, lj_10, lj_11, lj_12, lj_13, lj_14, lj_15, lj_16, lj_17, lj_18, lj_19, lj_20, lj_21, lj_22, lj_23, lj_24, lj_25, lj_26, lj_27, lj_28, lj_29, lj_30, lj_31, lj_32, lj_33, lj_34, lj_35, lj_36, lj_37, lj_38, lj_39, lj_40, lj_48, lj_50, lj_57, lj_59, lj_60, lj_63, lj_64, lj_65, lj_90, lj_96, lj_97, lj_99, lj_100, lj_101, lj_105, lj_112, lj_114, lj_116, lj_119, lj_122, lj_128, lj_200, lj_255, lj_256, lj_500, lj_777, lj_1000, jr_133_4 hW, jr_133_5 hW, jr_133_6 hW, jr_133_7 hW, jr_133_31 hW, jr_133_32 hW, jr_133_33 hW, jr_133_34 hW, jr_133_35 hW, jr_133_36 hW, jr_133_37 hW, jr_133_38 hW, jr_133_39 hW, jr_133_40 hW, jr_133_41 hW, jr_133_42 hW, jr_133_44 hW, jr_133_45 hW, jr_133_46 hW, jr_133_47 hW, jr_133_48 hW, jr_133_49 hW, jr_133_50 hW, jr_133_51 hW, jr_133_55 hW, jr_133_56 hW, jr_133_57 hW, jr_133_58 hW, jr_133_62 hW, jr_133_65 hW, jr_133_66 hW, jr_133_67 hW, jr_133_68 hW, jr_133_69 hW, jr_133_70 hW, jr_133_71 hW, jr_133_74 hW, jr_133_75 hW, hW.1, jS0_133, jS0_134, jS0_135, jS0_136, jS0_137, jS0_138, jS0_139, jS0_140, jS0_141, jS0_142, jS0_143, jS0_144, jS0_145, jS0_146, jS0_147, jS0_148, jS0_149, jS0_150, jS0_151, jS0_152, jS0_153, jS0_154, jS0_155, jS0_156, jS0_157, jS0_158, jS0_159, jS0_160, jS0_161, jS0_162, jS0_163, jS0_164, jS0_165, jS0_166, jS0_167, jS0_168, jS0_169, jS0_170, jS0_171, q20, hz6, jnone, jlc_lt, jlc_gt, jlc_eq, jlc_le, jlc_ge, al_lt, al_le, al_eq, al_div, al_rem, al_0, Nat.zero_mul, t0] | (refine br_c (fun _ => ?_) (fun _ => ?_) <;> try (exfalso; omega)) | (refine br_d (fun _ => ?_) (fun _ => ?_) <;> try (exfalso; omega)) | refine And.intro ?_ ?_ | (refine Nat.ne_of_gt ?_; omega))
    all_goals exact kk
  · have c0' := eq_false c0
    cases hs : rWt T (fun t => rC al T t (e t)) n (8 * a + b) with
    | none =>
      have hb2 : rBy T (fun t => rC al T t (e t)) n (8 * a + b) = some (rTm T (fun t => rC al T t (e t)) n (8 * a + b)) := if_pos hs
      have ht : rTm T (fun t => rC al T t (e t)) (n + 1) (8 * a + b) = rTm T (fun t => rC al T t (e t)) n (8 * a + b) := rTm_cut (by omega) hs
      have hle : rTm T (fun t => rC al T t (e t)) n (8 * a + b) ≤ n := rTm_le
      rw [hb2] at by_
      have by_ : ∀ (d : Nat) (Q' : jQ), Q' (some (.int (nI (rTm T (fun t => rC al T t (e t)) n (8 * a + b))))) μ → jC (d + 3) 258 [.ref 133, .int (nI a), .int (nI b), .int (nI n), .int (jbi al)] μ Q' := by_
      have kk := h (some (.int (nI (rTm T (fun t => rC al T t (e t)) n (8 * a + b)))))
      rw [hs, if_pos rfl, ht, Nat.add_zero] at kk
      clear h hb2 ht hs
      generalize rTm T (fun t => rC al T t (e t)) n (8 * a + b) = w at *
      generalize tLk T a b = l at *
      generalize jbi al = v3 at *
      refine b259_99 ?_
      repeat' (first | refine b259_6 ?_ | refine b259_24 ?_ | refine b259_34 ?_ | refine b259_50 ?_ | refine b259_78 ?_ | refine b259_87 ?_ | refine b259_125 ?_ | refine b259_135 ?_ | refine b259_155 ?_ | refine b259_156 ?_ | refine b259_180 ?_ | refine b259_182 ?_ | refine b259_199 ?_ | refine b259_241 ?_ | refine b259_256 ?_ | refine b259_283 ?_ | refine b259_297 ?_ | refine b259_303 ?_ | refine b259_309 ?_ | refine lk _ _ ?_ | refine by_ _ _ ?_ | dsimp only [jb_e0, jb_ec, jb_n, jb_c, jx_op, j1i_c, j2i_c, j1l_c, j2l_c, jil_c, j1r_c, jri_c, jrii_c, jril_c, jrl_c, jrr_c, j2i'_c, jdup_i, jdup_r, jdup2_c, jdup2_l, jpo_c, jli, jll, jlr, jat_0, jat_s, jst, jst2, jkill_i, jkill_r, jkill_l, jkill_n, jnone, jgv_0, jgv_1, jgv_2, jgv_3, jrv_s, jput_0, jput_1, jput_2, jput_3, jpop_0, jpop_1, jcl_s, jc1, jc2, jvi, Nat.reduceAdd, jol_i, jol_l, jol_n, jap_n, jap_c, List.map_cons, List.map_nil, List.sum_cons, List.sum_nil, jcI, jcL, jcR, gI_sI, gI_sL, gI_sR, gL_sI, gL_sL, gL_sR, gR_sI, gR_sL, gR_sR, gS_sI, gS_sL, gS_sR, gN_sI, gN_sL, gN_sR] | simp (disch := omega) only [Nat.zero_le, true_and, and_true, and_self, Nat.reduceLeDiff, true_or, or_true, false_or, or_false, Nat.reduceEqDiff, false_and, and_false, if_false, if_true, reduceIte, not_true_eq_false, not_false_eq_true, true_imp_iff, false_imp_iff, List.map_cons, List.map_nil, List.sum_cons, List.sum_nil, jcI, jcL, jcR, Nat.reduceAdd, jrv_s, j1r_c, jap_n, jap_c, gI_sI, gL_sL, gI_sL, gL_sI, an_lt, an_le, an_eq, an_lt0, an_0le, an_0lt, an_le0, an_eq0, an_eq1, an_1lt, an_le1, an_1le, an_lt1, an_eqm, an_sub, an_sub1, an_div, an_rem, an_in, an_in0, an_in1, an_cl, an_cl0, an_cl1, nI_add, nI_1, an_1a, pk_mul, Nat.reduceMul, jz10, jz01, j00, j11, jb0, Classical.not_not, eq_self, an_ite, an_of, an_nm, nI_l, lN_add, lN_mul, lN_i, lj_2, lj_3, lj_4, lj_5, lj_6, lj_7, lj_8, lj_9, lj_10, lj_11, lj_12, lj_13, lj_14, lj_15, lj_16, lj_17, lj_18, lj_19, lj_20, lj_21, lj_22, lj_23, lj_24, lj_25, lj_26, lj_27, lj_28, lj_29, lj_30, lj_31, lj_32, lj_33, lj_34, lj_35, lj_36, lj_37, lj_38, lj_39, lj_40, lj_48, lj_50, lj_57, lj_59, lj_60, lj_63, lj_64, lj_65, lj_90, lj_96, lj_97, lj_99, lj_100, lj_101, lj_105, lj_112, lj_114, lj_116, lj_119, lj_122, lj_128, lj_200, lj_255, lj_256, lj_500, lj_777, lj_1000, jr_133_4 hW, jr_133_5 hW, jr_133_6 hW, jr_133_7 hW, jr_133_31 hW, jr_133_32 hW, jr_133_33 hW, jr_133_34 hW, jr_133_35 hW, jr_133_36 hW, jr_133_37 hW, jr_133_38 hW, jr_133_39 hW, jr_133_40 hW, jr_133_41 hW, jr_133_42 hW, jr_133_44 hW, jr_133_45 hW, jr_133_46 hW, jr_133_47 hW, jr_133_48 hW, jr_133_49 hW, jr_133_50 hW, jr_133_51 hW, jr_133_55 hW, jr_133_56 hW, jr_133_57 hW, jr_133_58 hW, jr_133_62 hW, jr_133_65 hW, jr_133_66 hW, jr_133_67 hW, jr_133_68 hW, jr_133_69 hW, jr_133_70 hW, jr_133_71 hW, jr_133_74 hW, jr_133_75 hW, hW.1, jS0_133, jS0_134, jS0_135, jS0_136, jS0_137, jS0_138, jS0_139, jS0_140, jS0_141, jS0_142, jS0_143, jS0_144, jS0_145, jS0_146, jS0_147, jS0_148, jS0_149, jS0_150, jS0_151, jS0_152, jS0_153, jS0_154, jS0_155, jS0_156, jS0_157, jS0_158, jS0_159, jS0_160, jS0_161, jS0_162, jS0_163, jS0_164, jS0_165, jS0_166, jS0_167, jS0_168, jS0_169, jS0_170, jS0_171, q20, hz6, jnone, jlc_lt, jlc_gt, jlc_eq, jlc_le, jlc_ge, al_lt, al_le, al_eq, al_div, al_rem, al_0, c0', Int64.add_zero] | (refine br_c (fun _ => ?_) (fun _ => ?_) <;> try (exfalso; omega)) | (refine br_d (fun _ => ?_) (fun _ => ?_) <;> try (exfalso; omega)) | refine And.intro ?_ ?_ | (refine Nat.ne_of_gt ?_; omega))
      all_goals exact kk
    | some y =>
      have hne : rWt T (fun t => rC al T t (e t)) n (8 * a + b) ≠ none := by
        rw [hs]
        exact fun z => by cases z
      have hb2 : rBy T (fun t => rC al T t (e t)) n (8 * a + b) = none := if_neg hne
      have ht : rTm T (fun t => rC al T t (e t)) (n + 1) (8 * a + b) = n + 1 := rTm_all (n + 1) (fun k hk => rWt_some hne (by omega))
      rw [hb2] at by_
      have by_ : ∀ (d : Nat) (Q' : jQ), Q' (some (.int (-1))) μ → jC (d + 3) 258 [.ref 133, .int (nI a), .int (nI b), .int (nI n), .int (jbi al)] μ Q' := by_
      have kk := h (some (.int (-1)))
      rw [hs, if_neg (fun z => by cases z), ht] at kk
      clear h hb2 ht hs hne
      generalize tLk T a b = l at *
      generalize jbi al = v3 at *
      have jm0 : (0 ≤ (-1 : Int32)) = False := by decide
      refine b259_99 ?_
      repeat' (first | refine b259_6 ?_ | refine b259_24 ?_ | refine b259_34 ?_ | refine b259_50 ?_ | refine b259_78 ?_ | refine b259_87 ?_ | refine b259_125 ?_ | refine b259_135 ?_ | refine b259_155 ?_ | refine b259_156 ?_ | refine b259_180 ?_ | refine b259_182 ?_ | refine b259_199 ?_ | refine b259_241 ?_ | refine b259_256 ?_ | refine b259_283 ?_ | refine b259_297 ?_ | refine b259_303 ?_ | refine b259_309 ?_ | refine lk _ _ ?_ | refine by_ _ _ ?_ | dsimp only [jb_e0, jb_ec, jb_n, jb_c, jx_op, j1i_c, j2i_c, j1l_c, j2l_c, jil_c, j1r_c, jri_c, jrii_c, jril_c, jrl_c, jrr_c, j2i'_c, jdup_i, jdup_r, jdup2_c, jdup2_l, jpo_c, jli, jll, jlr, jat_0, jat_s, jst, jst2, jkill_i, jkill_r, jkill_l, jkill_n, jnone, jgv_0, jgv_1, jgv_2, jgv_3, jrv_s, jput_0, jput_1, jput_2, jput_3, jpop_0, jpop_1, jcl_s, jc1, jc2, jvi, Nat.reduceAdd, jol_i, jol_l, jol_n, jap_n, jap_c, List.map_cons, List.map_nil, List.sum_cons, List.sum_nil, jcI, jcL, jcR, gI_sI, gI_sL, gI_sR, gL_sI, gL_sL, gL_sR, gR_sI, gR_sL, gR_sR, gS_sI, gS_sL, gS_sR, gN_sI, gN_sL, gN_sR] | simp (disch := omega) only [Nat.zero_le, true_and, and_true, and_self, Nat.reduceLeDiff, true_or, or_true, false_or, or_false, Nat.reduceEqDiff, false_and, and_false, if_false, if_true, reduceIte, not_true_eq_false, not_false_eq_true, true_imp_iff, false_imp_iff, List.map_cons, List.map_nil, List.sum_cons, List.sum_nil, jcI, jcL, jcR, Nat.reduceAdd, jrv_s, j1r_c, jap_n, jap_c, gI_sI, gL_sL, gI_sL, gL_sI, an_lt, an_le, an_eq, an_lt0, an_0le, an_0lt, an_le0, an_eq0, an_eq1, an_1lt, an_le1, an_1le, an_lt1, an_eqm, an_sub, an_sub1, an_div, an_rem, an_in, an_in0, an_in1, an_cl, an_cl0, an_cl1, nI_add, nI_1, an_1a, pk_mul, Nat.reduceMul, jz10, jz01, j00, j11, jb0, Classical.not_not, eq_self, an_ite, an_of, an_nm, nI_l, lN_add, lN_mul, lN_i, lj_2, lj_3, lj_4, lj_5, lj_6, lj_7, lj_8, lj_9, lj_10, lj_11, lj_12, lj_13, lj_14, lj_15, lj_16, lj_17, lj_18, lj_19, lj_20, lj_21, lj_22, lj_23, lj_24, lj_25, lj_26, lj_27, lj_28, lj_29, lj_30, lj_31, lj_32, lj_33, lj_34, lj_35, lj_36, lj_37, lj_38, lj_39, lj_40, lj_48, lj_50, lj_57, lj_59, lj_60, lj_63, lj_64, lj_65, lj_90, lj_96, lj_97, lj_99, lj_100, lj_101, lj_105, lj_112, lj_114, lj_116, lj_119, lj_122, lj_128, lj_200, lj_255, lj_256, lj_500, lj_777, lj_1000, jr_133_4 hW, jr_133_5 hW, jr_133_6 hW, jr_133_7 hW, jr_133_31 hW, jr_133_32 hW, jr_133_33 hW, jr_133_34 hW, jr_133_35 hW, jr_133_36 hW, jr_133_37 hW, jr_133_38 hW, jr_133_39 hW, jr_133_40 hW, jr_133_41 hW, jr_133_42 hW, jr_133_44 hW, jr_133_45 hW, jr_133_46 hW, jr_133_47 hW, jr_133_48 hW, jr_133_49 hW, jr_133_50 hW, jr_133_51 hW, jr_133_55 hW, jr_133_56 hW, jr_133_57 hW, jr_133_58 hW, jr_133_62 hW, jr_133_65 hW, jr_133_66 hW, jr_133_67 hW, jr_133_68 hW, jr_133_69 hW, jr_133_70 hW, jr_133_71 hW, jr_133_74 hW, jr_133_75 hW, hW.1, jS0_133, jS0_134, jS0_135, jS0_136, jS0_137, jS0_138, jS0_139, jS0_140, jS0_141, jS0_142, jS0_143, jS0_144, jS0_145, jS0_146, jS0_147, jS0_148, jS0_149, jS0_150, jS0_151, jS0_152, jS0_153, jS0_154, jS0_155, jS0_156, jS0_157, jS0_158, jS0_159, jS0_160, jS0_161, jS0_162, jS0_163, jS0_164, jS0_165, jS0_166, jS0_167, jS0_168, jS0_169, jS0_170, jS0_171, q20, hz6, jnone, jlc_lt, jlc_gt, jlc_eq, jlc_le, jlc_ge, al_lt, al_le, al_eq, al_div, al_rem, al_0, c0', jm0] | (refine br_c (fun _ => ?_) (fun _ => ?_) <;> try (exfalso; omega)) | (refine br_d (fun _ => ?_) (fun _ => ?_) <;> try (exfalso; omega)) | refine And.intro ?_ ?_ | (refine Nat.ne_of_gt ?_; omega))
      all_goals exact kk
def rM2 (T : jT) (r : Nat → Nat) (n a b : Nat) : Nat := if rWt T r n (8 * a + b) = none then 0 else tLk T a b
def rL2 (T : jT) (r : Nat → Nat) (n a b : Nat) : Nat := tLk T a b * rTm T r (n + 1) (8 * a + b)
theorem rM2_le (hK : jTok T) (ha : a < tP T) (hb : b < tP T) : rM2 T r n a b ≤ 81 := by
  unfold rM2
  have := tLk_le hK ha hb
  split <;> omega
theorem rL2_le (hK : jTok T) (ha : a < tP T) (hb : b < tP T) (hn : n ≤ 5) : rL2 T r n a b ≤ 486 := by
  unfold rL2
  have h1 := tLk_le hK ha hb
  have h2 : rTm T r (n + 1) (8 * a + b) ≤ n + 1 := rTm_le
  have h3 : rTm T r (n + 1) (8 * a + b) ≤ 6 := by omega
  exact Nat.le_trans (Nat.mul_le_mul h1 h3) (by decide)
theorem fr_row {z5 z6 : Option Value} {v2 v4 : Int32} {x7 x9 : Nat} (hW : jWd L t μ) (hK : jTok T) (hM : jTM T μ) (ha : a < tP T) (hn : n ≤ 5) (hal : al = false → n ≤ 3) (hd : rHd al n e μ) (b7 : x7 ≤ 1000000) (b9 : x9 ≤ 1000000) (hz6 : jkill z6 = z6)
    (h : ∀ z, jR (d + 4) 259 193 [some (.ref 133), some (.int (nI n)), some (.int v2), some (.int (jbi al)), some (.int v4), z5, z6, some (.long (lN (x7 + jsum (rM2 T (fun t => rC al T t (e t)) n a) (tP T)))), none, some (.long (lN (x9 + jsum (rL2 T (fun t => rC al T t (e t)) n a) (tP T)))), none, some (.int (nI a)), some (.int (nI (tP T))), z] [] (0, 0) μ Q) :
    ∀ (m b : Nat) (z : Option Value), b + m = tP T → jR (d + 4) 259 99 [some (.ref 133), some (.int (nI n)), some (.int v2), some (.int (jbi al)), some (.int v4), z5, z6, some (.long (lN (x7 + jsum (rM2 T (fun t => rC al T t (e t)) n a) b))), none, some (.long (lN (x9 + jsum (rL2 T (fun t => rC al T t (e t)) n a) b))), none, some (.int (nI a)), some (.int (nI b)), z] [] (0, 0) μ Q := by
  have h8 := hK.1.1
  have q20 := hM.1.1
  intro m
  induction m with
  | zero =>
    intro b z hb
    obtain rfl : b = tP T := by omega
    have kk := h z
    generalize jbi al = v3 at *
    generalize x7 + jsum (rM2 T (fun t => rC al T t (e t)) n a) (tP T) = y7 at *
    generalize x9 + jsum (rL2 T (fun t => rC al T t (e t)) n a) (tP T) = y9 at *
    refine b259_99 ?_
    repeat' (first | refine b259_6 ?_ | refine b259_24 ?_ | refine b259_34 ?_ | refine b259_50 ?_ | refine b259_78 ?_ | refine b259_87 ?_ | refine b259_125 ?_ | refine b259_135 ?_ | refine b259_155 ?_ | refine b259_156 ?_ | refine b259_180 ?_ | refine b259_182 ?_ | refine b259_199 ?_ | refine b259_241 ?_ | refine b259_256 ?_ | refine b259_283 ?_ | refine b259_297 ?_ | refine b259_303 ?_ | refine b259_309 ?_ | dsimp only [jb_e0, jb_ec, jb_n, jb_c, jx_op, j1i_c, j2i_c, j1l_c, j2l_c, jil_c, j1r_c, jri_c, jrii_c, jril_c, jrl_c, jrr_c, j2i'_c, jdup_i, jdup_r, jdup2_c, jdup2_l, jpo_c, jli, jll, jlr, jat_0, jat_s, jst, jst2, jkill_i, jkill_r, jkill_l, jkill_n, jnone, jgv_0, jgv_1, jgv_2, jgv_3, jrv_s, jput_0, jput_1, jput_2, jput_3, jpop_0, jpop_1, jcl_s, jc1, jc2, jvi, Nat.reduceAdd, jol_i, jol_l, jol_n, jap_n, jap_c, List.map_cons, List.map_nil, List.sum_cons, List.sum_nil, jcI, jcL, jcR, gI_sI, gI_sL, gI_sR, gL_sI, gL_sL, gL_sR, gR_sI, gR_sL, gR_sR, gS_sI, gS_sL, gS_sR, gN_sI, gN_sL, gN_sR] | simp (disch := omega) only [Nat.zero_le, true_and, and_true, and_self, Nat.reduceLeDiff, true_or, or_true, false_or, or_false, Nat.reduceEqDiff, false_and, and_false, if_false, if_true, reduceIte, not_true_eq_false, not_false_eq_true, true_imp_iff, false_imp_iff, List.map_cons, List.map_nil, List.sum_cons, List.sum_nil, jcI, jcL, jcR, Nat.reduceAdd, jrv_s, j1r_c, jap_n, jap_c, gI_sI, gL_sL, gI_sL, gL_sI, an_lt, an_le, an_eq, an_lt0, an_0le, an_0lt, an_le0, an_eq0, an_eq1, an_1lt, an_le1, an_1le, an_lt1, an_eqm, an_sub, an_sub1, an_div, an_rem, an_in, an_in0, an_in1, an_cl, an_cl0, an_cl1, nI_add, nI_1, an_1a, pk_mul, Nat.reduceMul, jz10, jz01, j00, j11, jb0, Classical.not_not, eq_self, an_ite, an_of, an_nm, nI_l, lN_add, lN_mul, lN_i, lj_2, lj_3, lj_4, lj_5, lj_6, lj_7, lj_8, lj_9, lj_10, lj_11, lj_12, lj_13, lj_14, lj_15, lj_16, lj_17, lj_18, lj_19, lj_20, lj_21, lj_22, lj_23, lj_24, lj_25, lj_26, lj_27, lj_28, lj_29, lj_30, lj_31, lj_32, lj_33, lj_34, lj_35, lj_36, lj_37, lj_38, lj_39, lj_40, lj_48, lj_50, lj_57, lj_59, lj_60, lj_63, lj_64, lj_65, lj_90, lj_96, lj_97, lj_99, lj_100, lj_101, lj_105, lj_112, lj_114, lj_116, lj_119, lj_122, lj_128, lj_200, lj_255, lj_256, lj_500, lj_777, lj_1000, jr_133_4 hW, jr_133_5 hW, jr_133_6 hW, jr_133_7 hW, jr_133_31 hW, jr_133_32 hW, jr_133_33 hW, jr_133_34 hW, jr_133_35 hW, jr_133_36 hW, jr_133_37 hW, jr_133_38 hW, jr_133_39 hW, jr_133_40 hW, jr_133_41 hW, jr_133_42 hW, jr_133_44 hW, jr_133_45 hW, jr_133_46 hW, jr_133_47 hW, jr_133_48 hW, jr_133_49 hW, jr_133_50 hW, jr_133_51 hW, jr_133_55 hW, jr_133_56 hW, jr_133_57 hW, jr_133_58 hW, jr_133_62 hW, jr_133_65 hW, jr_133_66 hW, jr_133_67 hW, jr_133_68 hW, jr_133_69 hW, jr_133_70 hW, jr_133_71 hW, jr_133_74 hW, jr_133_75 hW, hW.1, jS0_133, jS0_134, jS0_135, jS0_136, jS0_137, jS0_138, jS0_139, jS0_140, jS0_141, jS0_142, jS0_143, jS0_144, jS0_145, jS0_146, jS0_147, jS0_148, jS0_149, jS0_150, jS0_151, jS0_152, jS0_153, jS0_154, jS0_155, jS0_156, jS0_157, jS0_158, jS0_159, jS0_160, jS0_161, jS0_162, jS0_163, jS0_164, jS0_165, jS0_166, jS0_167, jS0_168, jS0_169, jS0_170, jS0_171, q20] | (refine br_c (fun _ => ?_) (fun _ => ?_) <;> try (exfalso; omega)) | (refine br_d (fun _ => ?_) (fun _ => ?_) <;> try (exfalso; omega)) | refine And.intro ?_ ?_ | (refine Nat.ne_of_gt ?_; omega))
    all_goals exact kk
  | succ m ih =>
    intro b z hb
    have hbP : b < tP T := by omega
    have p7 := jsum_le (f := rM2 T (fun t => rC al T t (e t)) n a) (c := 81) b (fun i hi => rM2_le hK ha (by omega))
    have p9 := jsum_le (f := rL2 T (fun t => rC al T t (e t)) n a) (c := 486) b (fun i hi => rL2_le hK ha (by omega) hn)
    refine fr_one (e := e) hW hK hM ha hbP hn hal hd (by omega) (by omega) (fun z => ?_) hz6 z
    have kk := ih (b + 1) z (by omega)
    rw [jsum, jsum, ← Nat.add_assoc, ← Nat.add_assoc] at kk
    exact kk
/-- all beginnings -/
theorem fr_all {z5 z6 : Option Value} {v2 v4 : Int32} (hW : jWd L t μ) (hK : jTok T) (hM : jTM T μ) (hn : n ≤ 5) (hal : al = false → n ≤ 3) (hd : rHd al n e μ) (hz6 : jkill z6 = z6)
    (h : ∀ z12 z13, jR (d + 4) 259 199 [some (.ref 133), some (.int (nI n)), some (.int v2), some (.int (jbi al)), some (.int v4), z5, z6, some (.long (lN (rFm T (fun t => rC al T t (e t)) n))), none, some (.long (lN (rFl T (fun t => rC al T t (e t)) n))), none, some (.int (nI (tP T))), z12, z13] [] (0, 0) μ Q) :
    ∀ z12 z13, jR (d + 4) 259 87 [some (.ref 133), some (.int (nI n)), some (.int v2), some (.int (jbi al)), some (.int v4), z5, z6, some (.long (lN 0)), none, some (.long (lN 0)), none, some (.int (nI 0)), z12, z13] [] (0, 0) μ Q := by
  have h8 := hK.1.1
  have q20 := hM.1.1
  have e1 : rFm T (fun t => rC al T t (e t)) n = jsum (fun a => jsum (rM2 T (fun t => rC al T t (e t)) n a) (tP T)) (tP T) := rFm_sq hK
  have e2 : rFl T (fun t => rC al T t (e t)) n = jsum (fun a => jsum (rL2 T (fun t => rC al T t (e t)) n a) (tP T)) (tP T) := rFl_sq hK
  rw [e1, e2] at h
  have loop : ∀ (m a : Nat) (z12 z13 : Option Value), a + m = tP T → jR (d + 4) 259 87 [some (.ref 133), some (.int (nI n)), some (.int v2), some (.int (jbi al)), some (.int v4), z5, z6, some (.long (lN (jsum (fun a => jsum (rM2 T (fun t => rC al T t (e t)) n a) (tP T)) a))), none, some (.long (lN (jsum (fun a => jsum (rL2 T (fun t => rC al T t (e t)) n a) (tP T)) a))), none, some (.int (nI a)), z12, z13] [] (0, 0) μ Q := by
    intro m
    induction m with
    | zero =>
      intro a z12 z13 ha
      obtain rfl : a = tP T := by omega
      have kk := h z12 z13
      generalize jbi al = v3 at *
      generalize jsum (fun a => jsum (rM2 T (fun t => rC al T t (e t)) n a) (tP T)) (tP T) = y7 at *
      generalize jsum (fun a => jsum (rL2 T (fun t => rC al T t (e t)) n a) (tP T)) (tP T) = y9 at *
      refine b259_87 ?_
      repeat' (first | refine b259_6 ?_ | refine b259_24 ?_ | refine b259_34 ?_ | refine b259_50 ?_ | refine b259_78 ?_ | refine b259_99 ?_ | refine b259_125 ?_ | refine b259_135 ?_ | refine b259_155 ?_ | refine b259_156 ?_ | refine b259_180 ?_ | refine b259_182 ?_ | refine b259_193 ?_ | refine b259_241 ?_ | refine b259_256 ?_ | refine b259_283 ?_ | refine b259_297 ?_ | refine b259_303 ?_ | refine b259_309 ?_ | dsimp only [jb_e0, jb_ec, jb_n, jb_c, jx_op, j1i_c, j2i_c, j1l_c, j2l_c, jil_c, j1r_c, jri_c, jrii_c, jril_c, jrl_c, jrr_c, j2i'_c, jdup_i, jdup_r, jdup2_c, jdup2_l, jpo_c, jli, jll, jlr, jat_0, jat_s, jst, jst2, jkill_i, jkill_r, jkill_l, jkill_n, jnone, jgv_0, jgv_1, jgv_2, jgv_3, jrv_s, jput_0, jput_1, jput_2, jput_3, jpop_0, jpop_1, jcl_s, jc1, jc2, jvi, Nat.reduceAdd, jol_i, jol_l, jol_n, jap_n, jap_c, List.map_cons, List.map_nil, List.sum_cons, List.sum_nil, jcI, jcL, jcR, gI_sI, gI_sL, gI_sR, gL_sI, gL_sL, gL_sR, gR_sI, gR_sL, gR_sR, gS_sI, gS_sL, gS_sR, gN_sI, gN_sL, gN_sR] | simp (disch := omega) only [Nat.zero_le, true_and, and_true, and_self, Nat.reduceLeDiff, true_or, or_true, false_or, or_false, Nat.reduceEqDiff, false_and, and_false, if_false, if_true, reduceIte, not_true_eq_false, not_false_eq_true, true_imp_iff, false_imp_iff, List.map_cons, List.map_nil, List.sum_cons, List.sum_nil, jcI, jcL, jcR, Nat.reduceAdd, jrv_s, j1r_c, jap_n, jap_c, gI_sI, gL_sL, gI_sL, gL_sI, an_lt, an_le, an_eq, an_lt0, an_0le, an_0lt, an_le0, an_eq0, an_eq1, an_1lt, an_le1, an_1le, an_lt1, an_eqm, an_sub, an_sub1, an_div, an_rem, an_in, an_in0, an_in1, an_cl, an_cl0, an_cl1, nI_add, nI_1, an_1a, pk_mul, Nat.reduceMul, jz10, jz01, j00, j11, jb0, Classical.not_not, eq_self, an_ite, an_of, an_nm, nI_l, lN_add, lN_mul, lN_i, lj_2, lj_3, lj_4, lj_5, lj_6, lj_7, lj_8, lj_9, lj_10, lj_11, lj_12, lj_13, lj_14, lj_15, lj_16, lj_17, lj_18, lj_19, lj_20, lj_21, lj_22, lj_23, lj_24, lj_25, lj_26, lj_27, lj_28, lj_29, lj_30, lj_31, lj_32, lj_33, lj_34, lj_35, lj_36, lj_37, lj_38, lj_39, lj_40, lj_48, lj_50, lj_57, lj_59, lj_60, lj_63, lj_64, lj_65, lj_90, lj_96, lj_97, lj_99, lj_100, lj_101, lj_105, lj_112, lj_114, lj_116, lj_119, lj_122, lj_128, lj_200, lj_255, lj_256, lj_500, lj_777, lj_1000, jr_133_4 hW, jr_133_5 hW, jr_133_6 hW, jr_133_7 hW, jr_133_31 hW, jr_133_32 hW, jr_133_33 hW, jr_133_34 hW, jr_133_35 hW, jr_133_36 hW, jr_133_37 hW, jr_133_38 hW, jr_133_39 hW, jr_133_40 hW, jr_133_41 hW, jr_133_42 hW, jr_133_44 hW, jr_133_45 hW, jr_133_46 hW, jr_133_47 hW, jr_133_48 hW, jr_133_49 hW, jr_133_50 hW, jr_133_51 hW, jr_133_55 hW, jr_133_56 hW, jr_133_57 hW, jr_133_58 hW, jr_133_62 hW, jr_133_65 hW, jr_133_66 hW, jr_133_67 hW, jr_133_68 hW, jr_133_69 hW, jr_133_70 hW, jr_133_71 hW, jr_133_74 hW, jr_133_75 hW, hW.1, jS0_133, jS0_134, jS0_135, jS0_136, jS0_137, jS0_138, jS0_139, jS0_140, jS0_141, jS0_142, jS0_143, jS0_144, jS0_145, jS0_146, jS0_147, jS0_148, jS0_149, jS0_150, jS0_151, jS0_152, jS0_153, jS0_154, jS0_155, jS0_156, jS0_157, jS0_158, jS0_159, jS0_160, jS0_161, jS0_162, jS0_163, jS0_164, jS0_165, jS0_166, jS0_167, jS0_168, jS0_169, jS0_170, jS0_171, q20] | (refine br_c (fun _ => ?_) (fun _ => ?_) <;> try (exfalso; omega)) | (refine br_d (fun _ => ?_) (fun _ => ?_) <;> try (exfalso; omega)) | refine And.intro ?_ ?_ | (refine Nat.ne_of_gt ?_; omega))
      all_goals exact kk
    | succ m ih =>
      intro a z12 z13 ha
      have haP : a < tP T := by omega
      have p7 := jsum_le (f := fun a => jsum (rM2 T (fun t => rC al T t (e t)) n a) (tP T)) (c := 648) a (fun i hi => by
        have := jsum_le (f := rM2 T (fun t => rC al T t (e t)) n i) (c := 81) (tP T) (fun j hj => rM2_le hK (by omega) hj)
        show jsum (rM2 T (fun t => rC al T t (e t)) n i) (tP T) ≤ 648
        omega)
      have p9 := jsum_le (f := fun a => jsum (rL2 T (fun t => rC al T t (e t)) n a) (tP T)) (c := 3888) a (fun i hi => by
        have := jsum_le (f := rL2 T (fun t => rC al T t (e t)) n i) (c := 486) (tP T) (fun j hj => rL2_le hK (by omega) hj hn)
        show jsum (rL2 T (fun t => rC al T t (e t)) n i) (tP T) ≤ 3888
        omega)
      have kk := ih (a + 1)
      rw [jsum, jsum] at kk
      have kr := fr_row (d := d) (Q := Q) (e := e) (z5 := z5) (z6 := z6) (v2 := v2) (v4 := v4) (x7 := jsum (fun a => jsum (rM2 T (fun t => rC al T t (e t)) n a) (tP T)) a) (x9 := jsum (fun a => jsum (rL2 T (fun t => rC al T t (e t)) n a) (tP T)) a) hW hK hM haP hn hal hd (by omega) (by omega) hz6 (fun z => by
        have k2 := kk (some (.int (nI (tP T)))) z (by omega)
        clear kk ih h
        generalize jbi al = v3 at *
        generalize jsum (fun a => jsum (rM2 T (fun t => rC al T t (e t)) n a) (tP T)) a + jsum (rM2 T (fun t => rC al T t (e t)) n a) (tP T) = y7 at *
        generalize jsum (fun a => jsum (rL2 T (fun t => rC al T t (e t)) n a) (tP T)) a + jsum (rL2 T (fun t => rC al T t (e t)) n a) (tP T) = y9 at *
        refine b259_193 ?_
        repeat' (first | refine b259_6 ?_ | refine b259_24 ?_ | refine b259_34 ?_ | refine b259_50 ?_ | refine b259_78 ?_ | refine b259_99 ?_ | refine b259_125 ?_ | refine b259_135 ?_ | refine b259_155 ?_ | refine b259_156 ?_ | refine b259_180 ?_ | refine b259_182 ?_ | refine b259_193 ?_ | refine b259_199 ?_ | refine b259_241 ?_ | refine b259_256 ?_ | refine b259_283 ?_ | refine b259_297 ?_ | refine b259_303 ?_ | refine b259_309 ?_ | dsimp only [jb_e0, jb_ec, jb_n, jb_c, jx_op, j1i_c, j2i_c, j1l_c, j2l_c, jil_c, j1r_c, jri_c, jrii_c, jril_c, jrl_c, jrr_c, j2i'_c, jdup_i, jdup_r, jdup2_c, jdup2_l, jpo_c, jli, jll, jlr, jat_0, jat_s, jst, jst2, jkill_i, jkill_r, jkill_l, jkill_n, jnone, jgv_0, jgv_1, jgv_2, jgv_3, jrv_s, jput_0, jput_1, jput_2, jput_3, jpop_0, jpop_1, jcl_s, jc1, jc2, jvi, Nat.reduceAdd, jol_i, jol_l, jol_n, jap_n, jap_c, List.map_cons, List.map_nil, List.sum_cons, List.sum_nil, jcI, jcL, jcR, gI_sI, gI_sL, gI_sR, gL_sI, gL_sL, gL_sR, gR_sI, gR_sL, gR_sR, gS_sI, gS_sL, gS_sR, gN_sI, gN_sL, gN_sR] | simp (disch := omega) only [Nat.zero_le, true_and, and_true, and_self, Nat.reduceLeDiff, true_or, or_true, false_or, or_false, Nat.reduceEqDiff, false_and, and_false, if_false, if_true, reduceIte, not_true_eq_false, not_false_eq_true, true_imp_iff, false_imp_iff, List.map_cons, List.map_nil, List.sum_cons, List.sum_nil, jcI, jcL, jcR, Nat.reduceAdd, jrv_s, j1r_c, jap_n, jap_c, gI_sI, gL_sL, gI_sL, gL_sI, an_lt, an_le, an_eq, an_lt0, an_0le, an_0lt, an_le0, an_eq0, an_eq1, an_1lt, an_le1, an_1le, an_lt1, an_eqm, an_sub, an_sub1, an_div, an_rem, an_in, an_in0, an_in1, an_cl, an_cl0, an_cl1, nI_add, nI_1, an_1a, pk_mul, Nat.reduceMul, jz10, jz01, j00, j11, jb0, Classical.not_not, eq_self, an_ite, an_of, an_nm, nI_l, lN_add, lN_mul, lN_i, lj_2, lj_3, lj_4, lj_5, lj_6, lj_7, lj_8, lj_9, lj_10, lj_11, lj_12, lj_13, lj_14, lj_15, lj_16, lj_17, lj_18, lj_19, lj_20, lj_21, lj_22, lj_23, lj_24, lj_25, lj_26, lj_27, lj_28, lj_29, lj_30, lj_31, lj_32, lj_33, lj_34, lj_35, lj_36, lj_37, lj_38, lj_39, lj_40, lj_48, lj_50, lj_57, lj_59, lj_60, lj_63, lj_64, lj_65, lj_90, lj_96, lj_97, lj_99, lj_100, lj_101, lj_105, lj_112, lj_114, lj_116, lj_119, lj_122, lj_128, lj_200, lj_255, lj_256, lj_500, lj_777, lj_1000] | (refine br_c (fun _ => ?_) (fun _ => ?_) <;> try (exfalso; omega)) | (refine br_d (fun _ => ?_) (fun _ => ?_) <;> try (exfalso; omega)) | refine And.intro ?_ ?_ | (refine Nat.ne_of_gt ?_; omega))
        all_goals exact k2) (tP T) 0 z13 (by omega)
      have z7 : ∀ x f, x + jsum f 0 = x := fun x f => rfl
      rw [z7, z7] at kr
      clear kk ih h
      generalize jsum (fun a => jsum (rM2 T (fun t => rC al T t (e t)) n a) (tP T)) a = y7 at *
      generalize jsum (fun a => jsum (rL2 T (fun t => rC al T t (e t)) n a) (tP T)) a = y9 at *
      generalize jbi al = v3 at *
      refine b259_87 ?_
      repeat' (first | refine b259_6 ?_ | refine b259_24 ?_ | refine b259_34 ?_ | refine b259_50 ?_ | refine b259_78 ?_ | refine b259_125 ?_ | refine b259_135 ?_ | refine b259_155 ?_ | refine b259_156 ?_ | refine b259_180 ?_ | refine b259_182 ?_ | refine b259_193 ?_ | refine b259_199 ?_ | refine b259_241 ?_ | refine b259_256 ?_ | refine b259_283 ?_ | refine b259_297 ?_ | refine b259_303 ?_ | refine b259_309 ?_ | dsimp only [jb_e0, jb_ec, jb_n, jb_c, jx_op, j1i_c, j2i_c, j1l_c, j2l_c, jil_c, j1r_c, jri_c, jrii_c, jril_c, jrl_c, jrr_c, j2i'_c, jdup_i, jdup_r, jdup2_c, jdup2_l, jpo_c, jli, jll, jlr, jat_0, jat_s, jst, jst2, jkill_i, jkill_r, jkill_l, jkill_n, jnone, jgv_0, jgv_1, jgv_2, jgv_3, jrv_s, jput_0, jput_1, jput_2, jput_3, jpop_0, jpop_1, jcl_s, jc1, jc2, jvi, Nat.reduceAdd, jol_i, jol_l, jol_n, jap_n, jap_c, List.map_cons, List.map_nil, List.sum_cons, List.sum_nil, jcI, jcL, jcR, gI_sI, gI_sL, gI_sR, gL_sI, gL_sL, gL_sR, gR_sI, gR_sL, gR_sR, gS_sI, gS_sL, gS_sR, gN_sI, gN_sL, gN_sR] | simp (disch := omega) only [Nat.zero_le, true_and, and_true, and_self, Nat.reduceLeDiff, true_or, or_true, false_or, or_false, Nat.reduceEqDiff, false_and, and_false, if_false, if_true, reduceIte, not_true_eq_false, not_false_eq_true, true_imp_iff, false_imp_iff, List.map_cons, List.map_nil, List.sum_cons, List.sum_nil, jcI, jcL, jcR, Nat.reduceAdd, jrv_s, j1r_c, jap_n, jap_c, gI_sI, gL_sL, gI_sL, gL_sI, an_lt, an_le, an_eq, an_lt0, an_0le, an_0lt, an_le0, an_eq0, an_eq1, an_1lt, an_le1, an_1le, an_lt1, an_eqm, an_sub, an_sub1, an_div, an_rem, an_in, an_in0, an_in1, an_cl, an_cl0, an_cl1, nI_add, nI_1, an_1a, pk_mul, Nat.reduceMul, jz10, jz01, j00, j11, jb0, Classical.not_not, eq_self, an_ite, an_of, an_nm, nI_l, lN_add, lN_mul, lN_i, lj_2, lj_3, lj_4, lj_5, lj_6, lj_7, lj_8, lj_9, lj_10, lj_11, lj_12, lj_13, lj_14, lj_15, lj_16, lj_17, lj_18, lj_19, lj_20, lj_21, lj_22, lj_23, lj_24, lj_25, lj_26, lj_27, lj_28, lj_29, lj_30, lj_31, lj_32, lj_33, lj_34, lj_35, lj_36, lj_37, lj_38, lj_39, lj_40, lj_48, lj_50, lj_57, lj_59, lj_60, lj_63, lj_64, lj_65, lj_90, lj_96, lj_97, lj_99, lj_100, lj_101, lj_105, lj_112, lj_114, lj_116, lj_119, lj_122, lj_128, lj_200, lj_255, lj_256, lj_500, lj_777, lj_1000, jr_133_4 hW, jr_133_5 hW, jr_133_6 hW, jr_133_7 hW, jr_133_31 hW, jr_133_32 hW, jr_133_33 hW, jr_133_34 hW, jr_133_35 hW, jr_133_36 hW, jr_133_37 hW, jr_133_38 hW, jr_133_39 hW, jr_133_40 hW, jr_133_41 hW, jr_133_42 hW, jr_133_44 hW, jr_133_45 hW, jr_133_46 hW, jr_133_47 hW, jr_133_48 hW, jr_133_49 hW, jr_133_50 hW, jr_133_51 hW, jr_133_55 hW, jr_133_56 hW, jr_133_57 hW, jr_133_58 hW, jr_133_62 hW, jr_133_65 hW, jr_133_66 hW, jr_133_67 hW, jr_133_68 hW, jr_133_69 hW, jr_133_70 hW, jr_133_71 hW, jr_133_74 hW, jr_133_75 hW, hW.1, jS0_133, jS0_134, jS0_135, jS0_136, jS0_137, jS0_138, jS0_139, jS0_140, jS0_141, jS0_142, jS0_143, jS0_144, jS0_145, jS0_146, jS0_147, jS0_148, jS0_149, jS0_150, jS0_151, jS0_152, jS0_153, jS0_154, jS0_155, jS0_156, jS0_157, jS0_158, jS0_159, jS0_160, jS0_161, jS0_162, jS0_163, jS0_164, jS0_165, jS0_166, jS0_167, jS0_168, jS0_169, jS0_170, jS0_171, q20] | (refine br_c (fun _ => ?_) (fun _ => ?_) <;> try (exfalso; omega)) | (refine br_d (fun _ => ?_) (fun _ => ?_) <;> try (exfalso; omega)) | refine And.intro ?_ ?_ | (refine Nat.ne_of_gt ?_; omega))
      all_goals exact kr
  exact fun z12 z13 => loop (tP T) 0 z12 z13 (by omega)
end JRP
