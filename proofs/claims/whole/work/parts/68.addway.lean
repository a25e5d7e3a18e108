/-! clock, sight: a way comes -/
section JCW
variable {d L t : Nat} {μ : jMem} {Q : jQ} {T V : jT}
/-- all is as it was but for scratch cells and those of c -/
def jEx (c : Nat → Nat → Bool) (μ ν : jMem) : Prop := ∀ a k, jsc true a k = false → c a k = false → gI ν a k = gI μ a k ∧ gL ν a k = gL μ a k
theorem jEx.rf {c : Nat → Nat → Bool} : jEx c μ μ := fun _ _ _ _ => ⟨rfl, rfl⟩
theorem jsc_tf {f : Bool} {a k : Nat} (ha : jsc true a k = false) : jsc f a k = false := by
  cases f with
  | true => exact ha
  | false =>
    cases hq : jsc false a k with
    | false => rfl
    | true =>
      unfold jsc at hq ha
      simp only [Bool.or_eq_true, Bool.and_eq_true, beq_iff_eq, decide_eq_true_eq, Bool.false_and, Bool.or_false, Bool.false_eq_true, or_false] at hq
      simp only [Bool.true_and] at ha
      rcases hq with (hq | hq) | hq
      · rw [hq] at ha; cases ha
      · obtain ⟨rfl, rfl⟩ := hq
        cases ha
      · obtain ⟨rfl, hq⟩ := hq
        rcases hq with hq | hq
        · rcases (show k = 0 ∨ k = 1 by omega) with rfl | rfl <;> cases ha
        · rw [hq] at ha
          simp at ha
theorem jEx.ev {c : Nat → Nat → Bool} {f : Bool} {ν ξ : jMem} (h : jEx c μ ν) (h2 : jEv f ν ξ) : jEx c μ ξ := fun a k ha hb => ⟨((h2.1 a k (jsc_tf ha)).1).trans (h a k ha hb).1, ((h2.1 a k (jsc_tf ha)).2).trans (h a k ha hb).2⟩
theorem jEx.sI {c : Nat → Nat → Bool} {ν : jMem} {a k : Nat} {v : Int32} (ha : c a k = true) (h : jEx c μ ν) : jEx c μ (sI ν a k v) := fun x j hx hy => ⟨by
  have hq : ¬ (x = a ∧ j = k) := fun q => by rw [q.1, q.2, ha] at hy; cases hy
  rw [gI_sI, if_neg hq]
  exact (h x j hx hy).1, (h x j hx hy).2⟩
theorem jEx.fr {c : Nat → Nat → Bool} {A : List Nat} {ν ξ : jMem} (hA : ∀ a ∈ A, jso a = true ∨ ∀ k, c a k = true) (hF : jFr A ν ξ) (h : jEx c μ ν) : jEx c μ ξ := fun x j hx hy => by
  have hq : x ∉ A := fun q => by
    rcases hA x q with z | z
    · simp [jsc, z] at hx
    · rw [z j] at hy
      cases hy
  exact ⟨((hF.1 x hq).1 j).trans (h x j hx hy).1, ((hF.1 x hq).2 j).trans (h x j hx hy).2⟩
theorem jEx.tr {c : Nat → Nat → Bool} {ν : jMem} (hc : ∀ a k, (4 ≤ a ∧ a ≤ 9) ∨ (134 ≤ a ∧ a ≤ 136) → c a k = false) (h : jEx c μ ν) (hT : jTr μ) : jTr ν := fun i hi => by
  have hs : ∀ a k, (4 ≤ a ∧ a ≤ 9) ∨ (134 ≤ a ∧ a ≤ 136) → jsc true a k = false := fun a k ha => by
    rcases (show a = 4 ∨ a = 5 ∨ a = 6 ∨ a = 7 ∨ a = 8 ∨ a = 9 ∨ a = 134 ∨ a = 135 ∨ a = 136 by omega) with rfl | rfl | rfl | rfl | rfl | rfl | rfl | rfl | rfl <;> rfl
  have q : ∀ a k, (4 ≤ a ∧ a ≤ 9) ∨ (134 ≤ a ∧ a ≤ 136) → gI ν a k = gI μ a k ∧ gL ν a k = gL μ a k := fun a k ha => h a k (hs a k ha) (hc a k ha)
  obtain ⟨h1, h2, h3, h4⟩ := hT i hi
  rw [(q 8 i (by omega)).1, (q 9 i (by omega)).1, (q 134 i (by omega)).1, (q 135 i (by omega)).1]
  refine ⟨h1, h2, h3, fun k hk => ?_⟩
  rw [(q 136 _ (by omega)).2, (q (4 + i) k (by omega)).2]
  exact h4 k hk
theorem jFr_tr {A : List Nat} {ν : jMem} (hA : ∀ a ∈ A, ¬ ((4 ≤ a ∧ a ≤ 9) ∨ (134 ≤ a ∧ a ≤ 136))) (hF : jFr A μ ν) (hT : jTr μ) : jTr ν := fun i hi => by
  have q : ∀ a k, (4 ≤ a ∧ a ≤ 9) ∨ (134 ≤ a ∧ a ≤ 136) → gI ν a k = gI μ a k ∧ gL ν a k = gL μ a k := fun a k ha => ⟨(hF.1 a (fun z => hA a z ha)).1 k, (hF.1 a (fun z => hA a z ha)).2 k⟩
  obtain ⟨h1, h2, h3, h4⟩ := hT i hi
  rw [(q 8 i (by omega)).1, (q 9 i (by omega)).1, (q 134 i (by omega)).1, (q 135 i (by omega)).1]
  refine ⟨h1, h2, h3, fun k hk => ?_⟩
  rw [(q 136 _ (by omega)).2, (q (4 + i) k (by omega)).2]
  exact h4 k hk
/-- the cells of the ways -/
def jwc (a k : Nat) : Bool := (a == 34 && k == 0) || a == 35 || a == 36 || a == 37 || a == 150 || a == 151 || a == 152 || (a == 133 && k == 43)
theorem jEx.othV {V' : jT} {ν : jMem} (h : jEx jwc μ ν) (hO : jOth t μ) (hV : jVok V') (hX : jVX V' ν) (hM : jVM V' ν) : jOth t ν := by
  obtain ⟨ht, hp, ⟨T, hK, hXT, hMT⟩, -, hR, hC⟩ := hO
  refine ⟨ht, ?_, ⟨T, hK, ?_, ?_⟩, ⟨V', hV, hX, hM⟩, ?_, ?_⟩
  · exact jTp_of (fun a k hx => (h a k (by rcases hx with ⟨rfl, rfl | rfl | rfl⟩ | rfl | rfl | ⟨rfl, rfl | rfl | rfl⟩ <;> rfl) (by rcases hx with ⟨rfl, rfl | rfl | rfl⟩ | rfl | rfl | ⟨rfl, rfl | rfl | rfl⟩ <;> rfl)).1) hp
  · refine jTX_of2 (fun a k h1 h2 => ?_) hXT
    have ha : 12 ≤ a ∧ a ≤ 33 := by omega
    refine (h a k ?_ ?_).1
    · rcases (show a = 12 ∨ a = 13 ∨ a = 14 ∨ a = 15 ∨ a = 16 ∨ a = 17 ∨ a = 18 ∨ a = 19 ∨ a = 20 ∨ a = 21 ∨ a = 22 ∨ a = 23 ∨ a = 24 ∨ a = 25 ∨ a = 26 ∨ a = 27 ∨ a = 28 ∨ a = 29 ∨ a = 30 ∨ a = 31 ∨ a = 32 ∨ a = 33 by omega) with rfl | rfl | rfl | rfl | rfl | rfl | rfl | rfl | rfl | rfl | rfl | rfl | rfl | rfl | rfl | rfl | rfl | rfl | rfl | rfl | rfl | rfl <;> rfl
    · rcases (show a = 12 ∨ a = 13 ∨ a = 14 ∨ a = 15 ∨ a = 16 ∨ a = 17 ∨ a = 18 ∨ a = 19 ∨ a = 20 ∨ a = 21 ∨ a = 22 ∨ a = 23 ∨ a = 24 ∨ a = 25 ∨ a = 26 ∨ a = 27 ∨ a = 28 ∨ a = 29 ∨ a = 30 ∨ a = 31 ∨ a = 32 ∨ a = 33 by omega) with rfl | rfl | rfl | rfl | rfl | rfl | rfl | rfl | rfl | rfl | rfl | rfl | rfl | rfl | rfl | rfl | rfl | rfl | rfl | rfl | rfl | rfl <;> rfl
  · exact jTM_of (fun a k hx => (h a k (by rcases hx with ⟨rfl, rfl | rfl | rfl | rfl | rfl | rfl⟩ | rfl | rfl | rfl | rfl | rfl | rfl <;> rfl) (by rcases hx with ⟨rfl, rfl | rfl | rfl | rfl | rfl | rfl⟩ | rfl | rfl | rfl | rfl | rfl | rfl <;> rfl)).1) hMT
  · exact jRw_of (fun a k hx => (h a k (by rcases hx with ⟨rfl | rfl, rfl | rfl⟩ | rfl | rfl | rfl | rfl | ⟨rfl, rfl | rfl⟩ <;> rfl) (by rcases hx with ⟨rfl | rfl, rfl | rfl⟩ | rfl | rfl | rfl | rfl | ⟨rfl, rfl | rfl⟩ <;> rfl)).1) hR
  · exact jCh_of (fun a k hx => (h a k (by rcases hx with ⟨rfl, rfl⟩ | ⟨rfl, rfl⟩ <;> rfl) (by rcases hx with ⟨rfl, rfl⟩ | ⟨rfl, rfl⟩ <;> rfl)).1) (fun a k hx => (h a k (by rcases hx with rfl | rfl | rfl | ⟨rfl, rfl⟩ <;> rfl) (by rcases hx with rfl | rfl | rfl | ⟨rfl, rfl⟩ <;> rfl)).2) hC
/-! the numbers of a tray, whether they can be -/
def wIn (x : Int32) (v : Int64) : Prop := ¬ v < 0 ∧ v ≤ x.toInt64
theorem sp_allWithin {i n n0 : Nat} {x : Int32} (hW : jWd L t μ) (hi : i < 4) (hn0 : n0 ≤ 64) (e : gI μ 9 i = nI n0) (hn : n ≤ n0) (h1 : (∀ k, k < n → wIn x (gL μ (4 + i) k)) → Q (some (.int 1)) μ) (h0 : (∃ k, k < n ∧ ¬ wIn x (gL μ (4 + i) k)) → Q (some (.int 0)) μ) : jC (d + 5) 115 [.ref 2, .int (nI i), .int (nI n), .int x] μ Q := by
  have key : ∀ (m k : Nat) (z5 z6 : Option Value), k + m = n → (∀ j, j < k → wIn x (gL μ (4 + i) j)) → jR (d + 5) 115 3 [some (.ref 2), some (.int (nI i)), some (.int (nI n)), some (.int x), some (.int (nI k)), z5, z6] [] (0, 0) μ Q := by
    intro m
    induction m with
    | zero =>
      intro k z5 z6 hk hj
      obtain rfl : k = n := by omega
      have kk := h1 hj
      refine b115_3 ?_
      repeat' (first | refine b115_33 ?_ | refine b115_35 ?_ | refine b115_41 ?_ | dsimp only [jb_e0, jb_ec, jb_n, jb_c, jx_op, j1i_c, j2i_c, j1l_c, j2l_c, jil_c, j1r_c, jri_c, jrii_c, jril_c, jrl_c, jrr_c, j2i'_c, jdup_i, jdup_r, jdup2_c, jdup2_l, jpo_c, jli, jll, jlr, jat_0, jat_s, jst, jst2, jkill_i, jkill_r, jkill_l, jkill_n, jnone, jgv_0, jgv_1, jgv_2, jgv_3, jrv_s, jput_0, jput_1, jput_2, jput_3, jpop_0, jpop_1, jcl_s, jc1, jc2, jvi, Nat.reduceAdd, jol_i, jol_l, jol_n, jap_n, jap_c, List.map_cons, List.map_nil, List.sum_cons, List.sum_nil, jcI, jcL, jcR, gI_sI, gI_sL, gI_sR, gL_sI, gL_sL, gL_sR, gR_sI, gR_sL, gR_sR, gS_sI, gS_sL, gS_sR, gN_sI, gN_sL, gN_sR] | simp (disch := omega) only [Nat.zero_le, true_and, and_true, and_self, Nat.reduceLeDiff, true_or, or_true, false_or, or_false, Nat.reduceEqDiff, false_and, and_false, if_false, if_true, reduceIte, not_true_eq_false, not_false_eq_true, true_imp_iff, false_imp_iff, List.map_cons, List.map_nil, List.sum_cons, List.sum_nil, jcI, jcL, jcR, Nat.reduceAdd, jrv_s, j1r_c, jap_n, jap_c, gI_sI, gL_sL, gI_sL, gL_sI, an_lt, an_le, an_eq, an_lt0, an_0le, an_0lt, an_le0, an_eq0, an_eq1, an_1lt, an_le1, an_1le, an_lt1, an_eqm, an_sub, an_sub1, an_div, an_rem, an_in, an_in0, an_in1, an_cl, an_cl0, an_cl1, nI_add, nI_1, an_1a, pk_mul, Nat.reduceMul, jz10, jz01, j00, j11, jb0, Classical.not_not, eq_self, an_ite, an_of, an_nm, nI_l, lN_add, lN_mul, lN_i, lj_2, lj_3, lj_4, lj_5, lj_6, lj_7, lj_8, lj_9, lj_10, lj_11, lj_12, lj_13, lj_14, lj_15, lj_16, lj_17, lj_18, lj_19, lj_20, lj_21, lj_22, lj_23, lj_24, lj_25, lj_26, lj_27, lj_28, lj_29, lj_30, lj_31, lj_32, lj_33, lj_34, lj_35, lj_36, lj_37, lj_38, lj_39, lj_40, lj_48, lj_50, lj_57, lj_59, lj_60, lj_63, lj_64, lj_65, lj_90, lj_96, lj_97, lj_99, lj_100, lj_101, lj_105, lj_112, lj_114, lj_116, lj_119, lj_122, lj_128, lj_200, lj_255, lj_256, lj_500, lj_777, lj_1000, jr_2_0 hW, jr_2_1 hW, jr_2_2 hW, hW.1, jS0_2, jS0_3, jS0_8, jS0_9] | (refine br_c (fun _ => ?_) (fun _ => ?_) <;> try (exfalso; omega)) | (refine br_d (fun _ => ?_) (fun _ => ?_) <;> try (exfalso; omega)) | refine And.intro ?_ ?_ | (refine Nat.ne_of_gt ?_; omega))
      all_goals exact kk
    | succ m ih =>
      intro k z5 z6 hk hj
      have nm : ∀ (d : Nat) (Q' : jQ), Q' (some (.long (gL μ (4 + i) k))) μ → jC (d + 4) 111 [.ref 2, .int (nI i), .int (nI k)] μ Q' := fun d Q' kk => sp_number hW hi hn0 e (by omega) kk
      by_cases c : wIn x (gL μ (4 + i) k)
      · have kk := fun z5 z6 => ih (k + 1) z5 z6 (by omega) (fun j hjj => by
          by_cases ej : j = k
          · subst ej
            exact c
          · exact hj j (by omega))
        obtain ⟨c1, c2⟩ := c
        generalize gL μ (4 + i) k = w at nm c1 c2
        refine b115_3 ?_
        repeat' (first | refine b115_33 ?_ | refine b115_35 ?_ | refine b115_41 ?_ | refine nm _ _ ?_ | dsimp only [jb_e0, jb_ec, jb_n, jb_c, jx_op, j1i_c, j2i_c, j1l_c, j2l_c, jil_c, j1r_c, jri_c, jrii_c, jril_c, jrl_c, jrr_c, j2i'_c, jdup_i, jdup_r, jdup2_c, jdup2_l, jpo_c, jli, jll, jlr, jat_0, jat_s, jst, jst2, jkill_i, jkill_r, jkill_l, jkill_n, jnone, jgv_0, jgv_1, jgv_2, jgv_3, jrv_s, jput_0, jput_1, jput_2, jput_3, jpop_0, jpop_1, jcl_s, jc1, jc2, jvi, Nat.reduceAdd, jol_i, jol_l, jol_n, jap_n, jap_c, List.map_cons, List.map_nil, List.sum_cons, List.sum_nil, jcI, jcL, jcR, gI_sI, gI_sL, gI_sR, gL_sI, gL_sL, gL_sR, gR_sI, gR_sL, gR_sR, gS_sI, gS_sL, gS_sR, gN_sI, gN_sL, gN_sR] | simp (disch := omega) only [Nat.zero_le, true_and, and_true, and_self, Nat.reduceLeDiff, true_or, or_true, false_or, or_false, Nat.reduceEqDiff, false_and, and_false, if_false, if_true, reduceIte, not_true_eq_false, not_false_eq_true, true_imp_iff, false_imp_iff, List.map_cons, List.map_nil, List.sum_cons, List.sum_nil, jcI, jcL, jcR, Nat.reduceAdd, jrv_s, j1r_c, jap_n, jap_c, gI_sI, gL_sL, gI_sL, gL_sI, an_lt, an_le, an_eq, an_lt0, an_0le, an_0lt, an_le0, an_eq0, an_eq1, an_1lt, an_le1, an_1le, an_lt1, an_eqm, an_sub, an_sub1, an_div, an_rem, an_in, an_in0, an_in1, an_cl, an_cl0, an_cl1, nI_add, nI_1, an_1a, pk_mul, Nat.reduceMul, jz10, jz01, j00, j11, jb0, Classical.not_not, eq_self, an_ite, an_of, an_nm, nI_l, lN_add, lN_mul, lN_i, lj_2, lj_3, lj_4, lj_5, lj_6, lj_7, lj_8, lj_9, lj_10, lj_11, lj_12, lj_13, lj_14, lj_15, lj_16, lj_17, lj_18, lj_19, lj_20, lj_21, lj_22, lj_23, lj_24, lj_25, lj_26, lj_27, lj_28, lj_29, lj_30, lj_31, lj_32, lj_33, lj_34, lj_35, lj_36, lj_37, lj_38, lj_39, lj_40, lj_48, lj_50, lj_57, lj_59, lj_60, lj_63, lj_64, lj_65, lj_90, lj_96, lj_97, lj_99, lj_100, lj_101, lj_105, lj_112, lj_114, lj_116, lj_119, lj_122, lj_128, lj_200, lj_255, lj_256, lj_500, lj_777, lj_1000, jr_2_0 hW, jr_2_1 hW, jr_2_2 hW, hW.1, jS0_2, jS0_3, jS0_8, jS0_9, jlc_lt, jlc_le, jnone, c1, c2] | (refine br_c (fun _ => ?_) (fun _ => ?_) <;> try (exfalso; omega)) | (refine br_d (fun _ => ?_) (fun _ => ?_) <;> try (exfalso; omega)) | refine And.intro ?_ ?_ | (refine Nat.ne_of_gt ?_; omega))
        all_goals exact kk _ _
      · have kk := h0 ⟨k, by omega, c⟩
        unfold wIn at c
        generalize gL μ (4 + i) k = w at nm c
        refine b115_3 ?_
        by_cases c1 : w < 0
        · repeat' (first | refine b115_33 ?_ | refine b115_35 ?_ | refine b115_41 ?_ | refine nm _ _ ?_ | dsimp only [jb_e0, jb_ec, jb_n, jb_c, jx_op, j1i_c, j2i_c, j1l_c, j2l_c, jil_c, j1r_c, jri_c, jrii_c, jril_c, jrl_c, jrr_c, j2i'_c, jdup_i, jdup_r, jdup2_c, jdup2_l, jpo_c, jli, jll, jlr, jat_0, jat_s, jst, jst2, jkill_i, jkill_r, jkill_l, jkill_n, jnone, jgv_0, jgv_1, jgv_2, jgv_3, jrv_s, jput_0, jput_1, jput_2, jput_3, jpop_0, jpop_1, jcl_s, jc1, jc2, jvi, Nat.reduceAdd, jol_i, jol_l, jol_n, jap_n, jap_c, List.map_cons, List.map_nil, List.sum_cons, List.sum_nil, jcI, jcL, jcR, gI_sI, gI_sL, gI_sR, gL_sI, gL_sL, gL_sR, gR_sI, gR_sL, gR_sR, gS_sI, gS_sL, gS_sR, gN_sI, gN_sL, gN_sR] | simp (disch := omega) only [Nat.zero_le, true_and, and_true, and_self, Nat.reduceLeDiff, true_or, or_true, false_or, or_false, Nat.reduceEqDiff, false_and, and_false, if_false, if_true, reduceIte, not_true_eq_false, not_false_eq_true, true_imp_iff, false_imp_iff, List.map_cons, List.map_nil, List.sum_cons, List.sum_nil, jcI, jcL, jcR, Nat.reduceAdd, jrv_s, j1r_c, jap_n, jap_c, gI_sI, gL_sL, gI_sL, gL_sI, an_lt, an_le, an_eq, an_lt0, an_0le, an_0lt, an_le0, an_eq0, an_eq1, an_1lt, an_le1, an_1le, an_lt1, an_eqm, an_sub, an_sub1, an_div, an_rem, an_in, an_in0, an_in1, an_cl, an_cl0, an_cl1, nI_add, nI_1, an_1a, pk_mul, Nat.reduceMul, jz10, jz01, j00, j11, jb0, Classical.not_not, eq_self, an_ite, an_of, an_nm, nI_l, lN_add, lN_mul, lN_i, lj_2, lj_3, lj_4, lj_5, lj_6, lj_7, lj_8, lj_9, lj_10, lj_11, lj_12, lj_13, lj_14, lj_15, lj_16, lj_17, lj_18, lj_19, lj_20, lj_21, lj_22, lj_23, lj_24, lj_25, lj_26, lj_27, lj_28, lj_29, lj_30, lj_31, lj_32, lj_33, lj_34, lj_35, lj_36, lj_37, lj_38, lj_39, lj_40, lj_48, lj_50, lj_57, lj_59, lj_60, lj_63, lj_64, lj_65, lj_90, lj_96, lj_97, lj_99, lj_100, lj_101, lj_105, lj_112, lj_114, lj_116, lj_119, lj_122, lj_128, lj_200, lj_255, lj_256, lj_500, lj_777, lj_1000, jr_2_0 hW, jr_2_1 hW, jr_2_2 hW, hW.1, jS0_2, jS0_3, jS0_8, jS0_9, jlc_lt, jlc_le, jnone, c1] | (refine br_c (fun _ => ?_) (fun _ => ?_) <;> try (exfalso; omega)) | (refine br_d (fun _ => ?_) (fun _ => ?_) <;> try (exfalso; omega)) | refine And.intro ?_ ?_ | (refine Nat.ne_of_gt ?_; omega))
          all_goals exact kk
        · have c2 : ¬ w ≤ x.toInt64 := fun z => c ⟨c1, z⟩
          repeat' (first | refine b115_33 ?_ | refine b115_35 ?_ | refine b115_41 ?_ | refine nm _ _ ?_ | dsimp only [jb_e0, jb_ec, jb_n, jb_c, jx_op, j1i_c, j2i_c, j1l_c, j2l_c, jil_c, j1r_c, jri_c, jrii_c, jril_c, jrl_c, jrr_c, j2i'_c, jdup_i, jdup_r, jdup2_c, jdup2_l, jpo_c, jli, jll, jlr, jat_0, jat_s, jst, jst2, jkill_i, jkill_r, jkill_l, jkill_n, jnone, jgv_0, jgv_1, jgv_2, jgv_3, jrv_s, jput_0, jput_1, jput_2, jput_3, jpop_0, jpop_1, jcl_s, jc1, jc2, jvi, Nat.reduceAdd, jol_i, jol_l, jol_n, jap_n, jap_c, List.map_cons, List.map_nil, List.sum_cons, List.sum_nil, jcI, jcL, jcR, gI_sI, gI_sL, gI_sR, gL_sI, gL_sL, gL_sR, gR_sI, gR_sL, gR_sR, gS_sI, gS_sL, gS_sR, gN_sI, gN_sL, gN_sR] | simp (disch := omega) only [Nat.zero_le, true_and, and_true, and_self, Nat.reduceLeDiff, true_or, or_true, false_or, or_false, Nat.reduceEqDiff, false_and, and_false, if_false, if_true, reduceIte, not_true_eq_false, not_false_eq_true, true_imp_iff, false_imp_iff, List.map_cons, List.map_nil, List.sum_cons, List.sum_nil, jcI, jcL, jcR, Nat.reduceAdd, jrv_s, j1r_c, jap_n, jap_c, gI_sI, gL_sL, gI_sL, gL_sI, an_lt, an_le, an_eq, an_lt0, an_0le, an_0lt, an_le0, an_eq0, an_eq1, an_1lt, an_le1, an_1le, an_lt1, an_eqm, an_sub, an_sub1, an_div, an_rem, an_in, an_in0, an_in1, an_cl, an_cl0, an_cl1, nI_add, nI_1, an_1a, pk_mul, Nat.reduceMul, jz10, jz01, j00, j11, jb0, Classical.not_not, eq_self, an_ite, an_of, an_nm, nI_l, lN_add, lN_mul, lN_i, lj_2, lj_3, lj_4, lj_5, lj_6, lj_7, lj_8, lj_9, lj_10, lj_11, lj_12, lj_13, lj_14, lj_15, lj_16, lj_17, lj_18, lj_19, lj_20, lj_21, lj_22, lj_23, lj_24, lj_25, lj_26, lj_27, lj_28, lj_29, lj_30, lj_31, lj_32, lj_33, lj_34, lj_35, lj_36, lj_37, lj_38, lj_39, lj_40, lj_48, lj_50, lj_57, lj_59, lj_60, lj_63, lj_64, lj_65, lj_90, lj_96, lj_97, lj_99, lj_100, lj_101, lj_105, lj_112, lj_114, lj_116, lj_119, lj_122, lj_128, lj_200, lj_255, lj_256, lj_500, lj_777, lj_1000, jr_2_0 hW, jr_2_1 hW, jr_2_2 hW, hW.1, jS0_2, jS0_3, jS0_8, jS0_9, jlc_lt, jlc_le, jnone, c1, c2] | (refine br_c (fun _ => ?_) (fun _ => ?_) <;> try (exfalso; omega)) | (refine br_d (fun _ => ?_) (fun _ => ?_) <;> try (exfalso; omega)) | refine And.intro ?_ ?_ | (refine Nat.ne_of_gt ?_; omega))
          all_goals exact kk
  have kk := fun z5 z6 => key n 0 z5 z6 (by omega) (fun j hj => absurd hj (Nat.not_lt_zero _))
  refine e115 (b115_0 ?_)
  repeat' (first | refine b115_33 ?_ | refine b115_35 ?_ | refine b115_41 ?_ | dsimp only [jb_e0, jb_ec, jb_n, jb_c, jx_op, j1i_c, j2i_c, j1l_c, j2l_c, jil_c, j1r_c, jri_c, jrii_c, jril_c, jrl_c, jrr_c, j2i'_c, jdup_i, jdup_r, jdup2_c, jdup2_l, jpo_c, jli, jll, jlr, jat_0, jat_s, jst, jst2, jkill_i, jkill_r, jkill_l, jkill_n, jnone, jgv_0, jgv_1, jgv_2, jgv_3, jrv_s, jput_0, jput_1, jput_2, jput_3, jpop_0, jpop_1, jcl_s, jc1, jc2, jvi, Nat.reduceAdd, jol_i, jol_l, jol_n, jap_n, jap_c, List.map_cons, List.map_nil, List.sum_cons, List.sum_nil, jcI, jcL, jcR, gI_sI, gI_sL, gI_sR, gL_sI, gL_sL, gL_sR, gR_sI, gR_sL, gR_sR, gS_sI, gS_sL, gS_sR, gN_sI, gN_sL, gN_sR] | simp (disch := omega) only [Nat.zero_le, true_and, and_true, and_self, Nat.reduceLeDiff, true_or, or_true, false_or, or_false, Nat.reduceEqDiff, false_and, and_false, if_false, if_true, reduceIte, not_true_eq_false, not_false_eq_true, true_imp_iff, false_imp_iff, List.map_cons, List.map_nil, List.sum_cons, List.sum_nil, jcI, jcL, jcR, Nat.reduceAdd, jrv_s, j1r_c, jap_n, jap_c, gI_sI, gL_sL, gI_sL, gL_sI, an_lt, an_le, an_eq, an_lt0, an_0le, an_0lt, an_le0, an_eq0, an_eq1, an_1lt, an_le1, an_1le, an_lt1, an_eqm, an_sub, an_sub1, an_div, an_rem, an_in, an_in0, an_in1, an_cl, an_cl0, an_cl1, nI_add, nI_1, an_1a, pk_mul, Nat.reduceMul, jz10, jz01, j00, j11, jb0, Classical.not_not, eq_self, an_ite, an_of, an_nm, nI_l, lN_add, lN_mul, lN_i, lj_2, lj_3, lj_4, lj_5, lj_6, lj_7, lj_8, lj_9, lj_10, lj_11, lj_12, lj_13, lj_14, lj_15, lj_16, lj_17, lj_18, lj_19, lj_20, lj_21, lj_22, lj_23, lj_24, lj_25, lj_26, lj_27, lj_28, lj_29, lj_30, lj_31, lj_32, lj_33, lj_34, lj_35, lj_36, lj_37, lj_38, lj_39, lj_40, lj_48, lj_50, lj_57, lj_59, lj_60, lj_63, lj_64, lj_65, lj_90, lj_96, lj_97, lj_99, lj_100, lj_101, lj_105, lj_112, lj_114, lj_116, lj_119, lj_122, lj_128, lj_200, lj_255, lj_256, lj_500, lj_777, lj_1000] | (refine br_c (fun _ => ?_) (fun _ => ?_) <;> try (exfalso; omega)) | (refine br_d (fun _ => ?_) (fun _ => ?_) <;> try (exfalso; omega)) | refine And.intro ?_ ?_ | (refine Nat.ne_of_gt ?_; omega))
  all_goals exact kk _ _
theorem sp_isFull (hW : jWd L t μ) (hV : jVok V) (hX : jVX V μ) (h : Q (some (.int (if wC V = 12 then 1 else 0))) μ) : jC d 133 [.ref 34] μ Q := by
  have q := hX.1
  have h12 := hV.1
  refine e133 (b133_0 ?_)
  repeat' (first | refine b133_13 ?_ | refine b133_14 ?_ | dsimp only [jb_e0, jb_ec, jb_n, jb_c, jx_op, j1i_c, j2i_c, j1l_c, j2l_c, jil_c, j1r_c, jri_c, jrii_c, jril_c, jrl_c, jrr_c, j2i'_c, jdup_i, jdup_r, jdup2_c, jdup2_l, jpo_c, jli, jll, jlr, jat_0, jat_s, jst, jst2, jkill_i, jkill_r, jkill_l, jkill_n, jnone, jgv_0, jgv_1, jgv_2, jgv_3, jrv_s, jput_0, jput_1, jput_2, jput_3, jpop_0, jpop_1, jcl_s, jc1, jc2, jvi, Nat.reduceAdd, jol_i, jol_l, jol_n, jap_n, jap_c, List.map_cons, List.map_nil, List.sum_cons, List.sum_nil, jcI, jcL, jcR, gI_sI, gI_sL, gI_sR, gL_sI, gL_sL, gL_sR, gR_sI, gR_sL, gR_sR, gS_sI, gS_sL, gS_sR, gN_sI, gN_sL, gN_sR] | simp (disch := omega) only [Nat.zero_le, true_and, and_true, and_self, Nat.reduceLeDiff, true_or, or_true, false_or, or_false, Nat.reduceEqDiff, false_and, and_false, if_false, if_true, reduceIte, not_true_eq_false, not_false_eq_true, true_imp_iff, false_imp_iff, List.map_cons, List.map_nil, List.sum_cons, List.sum_nil, jcI, jcL, jcR, Nat.reduceAdd, jrv_s, j1r_c, jap_n, jap_c, gI_sI, gL_sL, gI_sL, gL_sI, an_lt, an_le, an_eq, an_lt0, an_0le, an_0lt, an_le0, an_eq0, an_eq1, an_1lt, an_le1, an_1le, an_lt1, an_eqm, an_sub, an_sub1, an_div, an_rem, an_in, an_in0, an_in1, an_cl, an_cl0, an_cl1, nI_add, nI_1, an_1a, pk_mul, Nat.reduceMul, jz10, jz01, j00, j11, jb0, Classical.not_not, eq_self, an_ite, an_of, an_nm, nI_l, lN_add, lN_mul, lN_i, lj_2, lj_3, lj_4, lj_5, lj_6, lj_7, lj_8, lj_9, lj_10, lj_11, lj_12, lj_13, lj_14, lj_15, lj_16, lj_17, lj_18, lj_19, lj_20, lj_21, lj_22, lj_23, lj_24, lj_25, lj_26, lj_27, lj_28, lj_29, lj_30, lj_31, lj_32, lj_33, lj_34, lj_35, lj_36, lj_37, lj_38, lj_39, lj_40, lj_48, lj_50, lj_57, lj_59, lj_60, lj_63, lj_64, lj_65, lj_90, lj_96, lj_97, lj_99, lj_100, lj_101, lj_105, lj_112, lj_114, lj_116, lj_119, lj_122, lj_128, lj_200, lj_255, lj_256, lj_500, lj_777, lj_1000, jr_34_1 hW, jr_34_2 hW, jr_34_3 hW, hW.1, jS0_34, jS0_35, jS0_36, jS0_37, q] | (refine br_c (fun _ => ?_) (fun _ => ?_) <;> try (exfalso; omega)) | (refine br_d (fun _ => ?_) (fun _ => ?_) <;> try (exfalso; omega)) | refine And.intro ?_ ?_ | (refine Nat.ne_of_gt ?_; omega))
  all_goals (first | exact h | (rw [if_pos (by omega)] at h; exact h) | (rw [if_neg (by omega)] at h; exact h))
theorem sp_addw {i n n0 : Nat} {len ag : Int32} (hW : jWd L t μ) (hT : jTr μ) (hV : jVok V) (hX : jVX V μ) (hi : i < 4) (hn0 : n0 ≤ 64) (e : gI μ 9 i = nI n0) (hn : n ≤ n0) (hn24 : n ≤ 24) (hc : wC V < 12) (hag : ag = 0 ∨ ag = 1)
    (h : ∀ ν, jFr [37] (sI (sI μ 35 (wC V) len) 36 (wC V) ag) ν → (∀ k, k < n → gI ν 37 (24 * wC V + k) = (gL μ (4 + i) k).toInt32) → (∀ j, j < 24 * wC V → gI ν 37 j = gI μ 37 j) → Q (some (.int (nI (wC V)))) (sI ν 34 0 (nI (wC V + 1)))) : jC (d + 5) 134 [.ref 34, .ref 2, .int (nI i), .int len, .int ag] μ Q := by
  have q := hX.1
  have hW1 : jWd L t (sI (sI μ 35 (wC V) len) 36 (wC V) ag) := hW
  generalize hcc : wC V = c at *
  have key : ∀ (m k : Nat) (ν : jMem), k + m = 24 → jFr [37] (sI (sI μ 35 c len) 36 c ag) ν → (∀ j, j < k → j < n → gI ν 37 (24 * c + j) = (gL μ (4 + i) j).toInt32) → (∀ j, j < 24 * c → gI ν 37 j = gI μ 37 j) → jR (d + 5) 134 42 [some (.ref 34), some (.ref 2), some (.int (nI i)), some (.int len), some (.int ag), some (.int (nI k))] [] (0, 0) ν Q := by
    intro m
    induction m with
    | zero =>
      intro k ν hk hF hj hr
      obtain rfl : k = 24 := by omega
      have hWν := hF.wd hW1
      have q' : gI ν 34 0 = nI c := ((hF.1 34 (by simp)).1 0).trans q
      have kk := h ν hF (fun k hk => hj k (by omega) hk) hr
      refine b134_42 ?_
      repeat' (first | refine b134_16 ?_ | refine b134_18 ?_ | refine b134_78 ?_ | dsimp only [jb_e0, jb_ec, jb_n, jb_c, jx_op, j1i_c, j2i_c, j1l_c, j2l_c, jil_c, j1r_c, jri_c, jrii_c, jril_c, jrl_c, jrr_c, j2i'_c, jdup_i, jdup_r, jdup2_c, jdup2_l, jpo_c, jli, jll, jlr, jat_0, jat_s, jst, jst2, jkill_i, jkill_r, jkill_l, jkill_n, jnone, jgv_0, jgv_1, jgv_2, jgv_3, jrv_s, jput_0, jput_1, jput_2, jput_3, jpop_0, jpop_1, jcl_s, jc1, jc2, jvi, Nat.reduceAdd, jol_i, jol_l, jol_n, jap_n, jap_c, List.map_cons, List.map_nil, List.sum_cons, List.sum_nil, jcI, jcL, jcR, gI_sI, gI_sL, gI_sR, gL_sI, gL_sL, gL_sR, gR_sI, gR_sL, gR_sR, gS_sI, gS_sL, gS_sR, gN_sI, gN_sL, gN_sR] | simp (disch := omega) only [Nat.zero_le, true_and, and_true, and_self, Nat.reduceLeDiff, true_or, or_true, false_or, or_false, Nat.reduceEqDiff, false_and, and_false, if_false, if_true, reduceIte, not_true_eq_false, not_false_eq_true, true_imp_iff, false_imp_iff, List.map_cons, List.map_nil, List.sum_cons, List.sum_nil, jcI, jcL, jcR, Nat.reduceAdd, jrv_s, j1r_c, jap_n, jap_c, gI_sI, gL_sL, gI_sL, gL_sI, an_lt, an_le, an_eq, an_lt0, an_0le, an_0lt, an_le0, an_eq0, an_eq1, an_1lt, an_le1, an_1le, an_lt1, an_eqm, an_sub, an_sub1, an_div, an_rem, an_in, an_in0, an_in1, an_cl, an_cl0, an_cl1, nI_add, nI_1, an_1a, pk_mul, Nat.reduceMul, jz10, jz01, j00, j11, jb0, Classical.not_not, eq_self, an_ite, an_of, an_nm, nI_l, lN_add, lN_mul, lN_i, lj_2, lj_3, lj_4, lj_5, lj_6, lj_7, lj_8, lj_9, lj_10, lj_11, lj_12, lj_13, lj_14, lj_15, lj_16, lj_17, lj_18, lj_19, lj_20, lj_21, lj_22, lj_23, lj_24, lj_25, lj_26, lj_27, lj_28, lj_29, lj_30, lj_31, lj_32, lj_33, lj_34, lj_35, lj_36, lj_37, lj_38, lj_39, lj_40, lj_48, lj_50, lj_57, lj_59, lj_60, lj_63, lj_64, lj_65, lj_90, lj_96, lj_97, lj_99, lj_100, lj_101, lj_105, lj_112, lj_114, lj_116, lj_119, lj_122, lj_128, lj_200, lj_255, lj_256, lj_500, lj_777, lj_1000, jr_34_1 hWν, jr_34_2 hWν, jr_34_3 hWν, hWν.1, jS0_34, jS0_35, jS0_36, jS0_37, q'] | (refine br_c (fun _ => ?_) (fun _ => ?_) <;> try (exfalso; omega)) | (refine br_d (fun _ => ?_) (fun _ => ?_) <;> try (exfalso; omega)) | refine And.intro ?_ ?_ | (refine Nat.ne_of_gt ?_; omega))
      all_goals exact kk
    | succ m ih =>
      intro k ν hk hF hj hr
      have hWν := hF.wd hW1
      have q' : gI ν 34 0 = nI c := ((hF.1 34 (by simp)).1 0).trans q
      have e' : gI ν 9 i = nI n0 := ((hF.1 9 (by simp)).1 i).trans e
      have hTν : jTr ν := jFr_tr (A := [37]) (by decide) hF (jTr_sI (by omega) (jTr_sI (by omega) hT))
      have eL : gL ν (4 + i) k = gL μ (4 + i) k := (hF.1 (4 + i) (by simp; omega)).2 k
      have kk : ∀ v : Int32, (k < n → v = (gL μ (4 + i) k).toInt32) → jR (d + 5) 134 42 [some (.ref 34), some (.ref 2), some (.int (nI i)), some (.int len), some (.int ag), some (.int (nI (k + 1)))] [] (0, 0) (sI ν 37 (c * 24 + k) v) Q := fun v hv => by
        refine ih (k + 1) _ (by omega) (hF.trans (jFr.sI (by simp))) (fun j h1 h2 => ?_) (fun j h1 => ?_)
        · rw [gI_sI]
          by_cases ej : j = k
          · subst ej
            rw [if_pos ⟨rfl, by omega⟩]
            exact hv h2
          · rw [if_neg (by omega)]
            exact hj j (by omega) h2
        · rw [gI_sI, if_neg (by omega)]
          exact hr j h1
      by_cases ck : k < n0
      · have nm : ∀ (d : Nat) (Q' : jQ), Q' (some (.long (gL μ (4 + i) k))) ν → jC (d + 4) 111 [.ref 2, .int (nI i), .int (nI k)] ν Q' := fun d Q' kq => sp_number hWν hi hn0 e' ck (by rw [eL]; exact kq)
        have k2 := kk _ (fun _ => rfl)
        refine b134_42 ?_
        repeat' (first | refine b134_16 ?_ | refine b134_18 ?_ | refine nm _ _ ?_ | dsimp only [jb_e0, jb_ec, jb_n, jb_c, jx_op, j1i_c, j2i_c, j1l_c, j2l_c, jil_c, j1r_c, jri_c, jrii_c, jril_c, jrl_c, jrr_c, j2i'_c, jdup_i, jdup_r, jdup2_c, jdup2_l, jpo_c, jli, jll, jlr, jat_0, jat_s, jst, jst2, jkill_i, jkill_r, jkill_l, jkill_n, jnone, jgv_0, jgv_1, jgv_2, jgv_3, jrv_s, jput_0, jput_1, jput_2, jput_3, jpop_0, jpop_1, jcl_s, jc1, jc2, jvi, Nat.reduceAdd, jol_i, jol_l, jol_n, jap_n, jap_c, List.map_cons, List.map_nil, List.sum_cons, List.sum_nil, jcI, jcL, jcR, gI_sI, gI_sL, gI_sR, gL_sI, gL_sL, gL_sR, gR_sI, gR_sL, gR_sR, gS_sI, gS_sL, gS_sR, gN_sI, gN_sL, gN_sR] | simp (disch := omega) only [Nat.zero_le, true_and, and_true, and_self, Nat.reduceLeDiff, true_or, or_true, false_or, or_false, Nat.reduceEqDiff, false_and, and_false, if_false, if_true, reduceIte, not_true_eq_false, not_false_eq_true, true_imp_iff, false_imp_iff, List.map_cons, List.map_nil, List.sum_cons, List.sum_nil, jcI, jcL, jcR, Nat.reduceAdd, jrv_s, j1r_c, jap_n, jap_c, gI_sI, gL_sL, gI_sL, gL_sI, an_lt, an_le, an_eq, an_lt0, an_0le, an_0lt, an_le0, an_eq0, an_eq1, an_1lt, an_le1, an_1le, an_lt1, an_eqm, an_sub, an_sub1, an_div, an_rem, an_in, an_in0, an_in1, an_cl, an_cl0, an_cl1, nI_add, nI_1, an_1a, pk_mul, Nat.reduceMul, jz10, jz01, j00, j11, jb0, Classical.not_not, eq_self, an_ite, an_of, an_nm, nI_l, lN_add, lN_mul, lN_i, lj_2, lj_3, lj_4, lj_5, lj_6, lj_7, lj_8, lj_9, lj_10, lj_11, lj_12, lj_13, lj_14, lj_15, lj_16, lj_17, lj_18, lj_19, lj_20, lj_21, lj_22, lj_23, lj_24, lj_25, lj_26, lj_27, lj_28, lj_29, lj_30, lj_31, lj_32, lj_33, lj_34, lj_35, lj_36, lj_37, lj_38, lj_39, lj_40, lj_48, lj_50, lj_57, lj_59, lj_60, lj_63, lj_64, lj_65, lj_90, lj_96, lj_97, lj_99, lj_100, lj_101, lj_105, lj_112, lj_114, lj_116, lj_119, lj_122, lj_128, lj_200, lj_255, lj_256, lj_500, lj_777, lj_1000, jr_2_0 hWν, jr_2_1 hWν, jr_2_2 hWν, jr_34_1 hWν, jr_34_2 hWν, jr_34_3 hWν, hWν.1, jS0_2, jS0_3, jS0_8, jS0_9, jS0_34, jS0_35, jS0_36, jS0_37, q'] | (refine br_c (fun _ => ?_) (fun _ => ?_) <;> try (exfalso; omega)) | (refine br_d (fun _ => ?_) (fun _ => ?_) <;> try (exfalso; omega)) | refine And.intro ?_ ?_ | (refine Nat.ne_of_gt ?_; omega))
        all_goals exact k2
      · have nm : ∀ (d : Nat) (Q' : jQ), Q' (some (.long 0)) ν → jC (d + 4) 111 [.ref 2, .int (nI i), .int (nI k)] ν Q' := fun d Q' kq => sp_number0 hWν hTν hi (by omega) (Or.inr ⟨n0, e', by omega, hn0⟩) kq
        have k2 := kk ((0 : Int64).toInt32) (fun z => by omega)
        refine b134_42 ?_
        repeat' (first | refine b134_16 ?_ | refine b134_18 ?_ | refine nm _ _ ?_ | dsimp only [jb_e0, jb_ec, jb_n, jb_c, jx_op, j1i_c, j2i_c, j1l_c, j2l_c, jil_c, j1r_c, jri_c, jrii_c, jril_c, jrl_c, jrr_c, j2i'_c, jdup_i, jdup_r, jdup2_c, jdup2_l, jpo_c, jli, jll, jlr, jat_0, jat_s, jst, jst2, jkill_i, jkill_r, jkill_l, jkill_n, jnone, jgv_0, jgv_1, jgv_2, jgv_3, jrv_s, jput_0, jput_1, jput_2, jput_3, jpop_0, jpop_1, jcl_s, jc1, jc2, jvi, Nat.reduceAdd, jol_i, jol_l, jol_n, jap_n, jap_c, List.map_cons, List.map_nil, List.sum_cons, List.sum_nil, jcI, jcL, jcR, gI_sI, gI_sL, gI_sR, gL_sI, gL_sL, gL_sR, gR_sI, gR_sL, gR_sR, gS_sI, gS_sL, gS_sR, gN_sI, gN_sL, gN_sR] | simp (disch := omega) only [Nat.zero_le, true_and, and_true, and_self, Nat.reduceLeDiff, true_or, or_true, false_or, or_false, Nat.reduceEqDiff, false_and, and_false, if_false, if_true, reduceIte, not_true_eq_false, not_false_eq_true, true_imp_iff, false_imp_iff, List.map_cons, List.map_nil, List.sum_cons, List.sum_nil, jcI, jcL, jcR, Nat.reduceAdd, jrv_s, j1r_c, jap_n, jap_c, gI_sI, gL_sL, gI_sL, gL_sI, an_lt, an_le, an_eq, an_lt0, an_0le, an_0lt, an_le0, an_eq0, an_eq1, an_1lt, an_le1, an_1le, an_lt1, an_eqm, an_sub, an_sub1, an_div, an_rem, an_in, an_in0, an_in1, an_cl, an_cl0, an_cl1, nI_add, nI_1, an_1a, pk_mul, Nat.reduceMul, jz10, jz01, j00, j11, jb0, Classical.not_not, eq_self, an_ite, an_of, an_nm, nI_l, lN_add, lN_mul, lN_i, lj_2, lj_3, lj_4, lj_5, lj_6, lj_7, lj_8, lj_9, lj_10, lj_11, lj_12, lj_13, lj_14, lj_15, lj_16, lj_17, lj_18, lj_19, lj_20, lj_21, lj_22, lj_23, lj_24, lj_25, lj_26, lj_27, lj_28, lj_29, lj_30, lj_31, lj_32, lj_33, lj_34, lj_35, lj_36, lj_37, lj_38, lj_39, lj_40, lj_48, lj_50, lj_57, lj_59, lj_60, lj_63, lj_64, lj_65, lj_90, lj_96, lj_97, lj_99, lj_100, lj_101, lj_105, lj_112, lj_114, lj_116, lj_119, lj_122, lj_128, lj_200, lj_255, lj_256, lj_500, lj_777, lj_1000, jr_2_0 hWν, jr_2_1 hWν, jr_2_2 hWν, jr_34_1 hWν, jr_34_2 hWν, jr_34_3 hWν, hWν.1, jS0_2, jS0_3, jS0_8, jS0_9, jS0_34, jS0_35, jS0_36, jS0_37, q'] | (refine br_c (fun _ => ?_) (fun _ => ?_) <;> try (exfalso; omega)) | (refine br_d (fun _ => ?_) (fun _ => ?_) <;> try (exfalso; omega)) | refine And.intro ?_ ?_ | (refine Nat.ne_of_gt ?_; omega))
        all_goals exact k2
  have kk := key 24 0 (sI (sI μ 35 c len) 36 c ag) (by omega) jFr.rf (fun j hj => absurd hj (Nat.not_lt_zero _)) (fun j hj => rfl)
  refine e134 (b134_0 ?_)
  repeat' (first | refine b134_16 ?_ | refine b134_18 ?_ | refine b134_78 ?_ | dsimp only [jb_e0, jb_ec, jb_n, jb_c, jx_op, j1i_c, j2i_c, j1l_c, j2l_c, jil_c, j1r_c, jri_c, jrii_c, jril_c, jrl_c, jrr_c, j2i'_c, jdup_i, jdup_r, jdup2_c, jdup2_l, jpo_c, jli, jll, jlr, jat_0, jat_s, jst, jst2, jkill_i, jkill_r, jkill_l, jkill_n, jnone, jgv_0, jgv_1, jgv_2, jgv_3, jrv_s, jput_0, jput_1, jput_2, jput_3, jpop_0, jpop_1, jcl_s, jc1, jc2, jvi, Nat.reduceAdd, jol_i, jol_l, jol_n, jap_n, jap_c, List.map_cons, List.map_nil, List.sum_cons, List.sum_nil, jcI, jcL, jcR, gI_sI, gI_sL, gI_sR, gL_sI, gL_sL, gL_sR, gR_sI, gR_sL, gR_sR, gS_sI, gS_sL, gS_sR, gN_sI, gN_sL, gN_sR] | simp (disch := omega) only [Nat.zero_le, true_and, and_true, and_self, Nat.reduceLeDiff, true_or, or_true, false_or, or_false, Nat.reduceEqDiff, false_and, and_false, if_false, if_true, reduceIte, not_true_eq_false, not_false_eq_true, true_imp_iff, false_imp_iff, List.map_cons, List.map_nil, List.sum_cons, List.sum_nil, jcI, jcL, jcR, Nat.reduceAdd, jrv_s, j1r_c, jap_n, jap_c, gI_sI, gL_sL, gI_sL, gL_sI, an_lt, an_le, an_eq, an_lt0, an_0le, an_0lt, an_le0, an_eq0, an_eq1, an_1lt, an_le1, an_1le, an_lt1, an_eqm, an_sub, an_sub1, an_div, an_rem, an_in, an_in0, an_in1, an_cl, an_cl0, an_cl1, nI_add, nI_1, an_1a, pk_mul, Nat.reduceMul, jz10, jz01, j00, j11, jb0, Classical.not_not, eq_self, an_ite, an_of, an_nm, nI_l, lN_add, lN_mul, lN_i, lj_2, lj_3, lj_4, lj_5, lj_6, lj_7, lj_8, lj_9, lj_10, lj_11, lj_12, lj_13, lj_14, lj_15, lj_16, lj_17, lj_18, lj_19, lj_20, lj_21, lj_22, lj_23, lj_24, lj_25, lj_26, lj_27, lj_28, lj_29, lj_30, lj_31, lj_32, lj_33, lj_34, lj_35, lj_36, lj_37, lj_38, lj_39, lj_40, lj_48, lj_50, lj_57, lj_59, lj_60, lj_63, lj_64, lj_65, lj_90, lj_96, lj_97, lj_99, lj_100, lj_101, lj_105, lj_112, lj_114, lj_116, lj_119, lj_122, lj_128, lj_200, lj_255, lj_256, lj_500, lj_777, lj_1000, jr_34_1 hW, jr_34_2 hW, jr_34_3 hW, hW.1, jS0_34, jS0_35, jS0_36, jS0_37, q, hag] | (refine br_c (fun _ => ?_) (fun _ => ?_) <;> try (exfalso; omega)) | (refine br_d (fun _ => ?_) (fun _ => ?_) <;> try (exfalso; omega)) | refine And.intro ?_ ?_ | (refine Nat.ne_of_gt ?_; omega))
  all_goals exact kk
end JCW
