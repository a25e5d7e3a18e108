/-! shut: the relation -/
section JSI
variable {d L t o : Nat} {μ : jMem} {Q : jQ} {T : jT}
theorem jprd12 {x : Int32} {n : Nat} (hn : n ≤ 12) : (x ≤ nI n - 1) ↔ (x < nI n) := by
  rcases Nat.lt_or_ge n 9 with c | c
  · rw [jprd (by omega)]
  · rcases (show n = 9 ∨ n = 10 ∨ n = 11 ∨ n = 12 by omega) with e | e | e | e
    · rw [e, show nI 9 - 1 = 8 by decide, show nI 9 = 9 from rfl]; grind
    · rw [e, show nI 10 - 1 = 9 by decide, show nI 10 = 10 from rfl]; grind
    · rw [e, show nI 11 - 1 = 10 by decide, show nI 11 = 11 from rfl]; grind
    · rw [e, show nI 12 - 1 = 11 by decide, show nI 12 = 12 from rfl]; grind
/-- cells that a town lies in -/
def jtc (a k : Nat) : Bool := (decide (12 ≤ a) && decide (a ≤ 33)) || [138, 140, 142, 144, 145, 148].contains a || (a == 133 && [20, 21, 24, 25, 28, 30].contains k)
def jEt (μ ν : jMem) : Prop := ∀ a k, jsc true a k = false → jtc a k = false → gI ν a k = gI μ a k ∧ gL ν a k = gL μ a k
theorem jEt.rf : jEt μ μ := fun _ _ _ _ => ⟨rfl, rfl⟩
theorem jEt.ev {f : Bool} {ν ξ : jMem} (h : jEt μ ν) (h2 : jEv f ν ξ) : jEt μ ξ := fun a k ha hb => by
  have q : jsc f a k = false := by
    cases hq : jsc f a k with
    | false => rfl
    | true =>
      cases f with
      | true => rw [hq] at ha; cases ha
      | false =>
        unfold jsc at hq ha
        simp only [Bool.or_eq_true, Bool.and_eq_true, beq_iff_eq, decide_eq_true_eq, Bool.false_and, Bool.or_false, Bool.false_eq_true, or_false] at hq
        simp only [Bool.true_and] at ha
        rcases hq with (hq | hq) | hq
        · rw [hq] at ha; cases ha
        · obtain ⟨rfl, rfl⟩ := hq
          cases ha
        · obtain ⟨rfl, hq⟩ := hq
          rcases hq with hq | hq
          · rcases (show k = 0 ∨ k = 1 by omega) with rfl | rfl <;> cases ha
          · rw [hq] at ha
            simp at ha
  exact ⟨((h2.1 a k q).1).trans (h a k ha hb).1, ((h2.1 a k q).2).trans (h a k ha hb).2⟩
theorem jEt.sI {ν : jMem} {a k : Nat} {v : Int32} (ha : jtc a k = true) (h : jEt μ ν) : jEt μ (sI ν a k v) := fun x j hx hy => ⟨by
  have hq : ¬ (x = a ∧ j = k) := fun q => by rw [q.1, q.2, ha] at hy; cases hy
  rw [gI_sI, if_neg hq]
  exact (h x j hx hy).1, (h x j hx hy).2⟩
theorem jEt.fr {A : List Nat} {ν ξ : jMem} (hA : ∀ a ∈ A, 12 ≤ a ∧ a ≤ 33) (hF : jFr A ν ξ) (h : jEt μ ν) : jEt μ ξ := fun x j hx hy => by
  have hq : x ∉ A := fun q => by
    have := hA x q
    simp [jtc, this] at hy
  exact ⟨((hF.1 x hq).1 j).trans (h x j hx hy).1, ((hF.1 x hq).2 j).trans (h x j hx hy).2⟩
theorem jEt.tr {ν : jMem} (h : jEt μ ν) (hT : jTr μ) : jTr ν := fun i hi => by
  obtain ⟨h1, h2, h3, h4⟩ := hT i hi
  rw [(h 8 i rfl rfl).1, (h 9 i rfl rfl).1, (h 134 i rfl rfl).1, (h 135 i rfl rfl).1]
  refine ⟨h1, h2, h3, fun k hk => ?_⟩
  have e2 : gL ν (4 + i) k = gL μ (4 + i) k := by
    rcases (show i = 0 ∨ i = 1 ∨ i = 2 ∨ i = 3 by omega) with rfl | rfl | rfl | rfl
    · exact (h 4 k rfl rfl).2
    · exact (h 5 k rfl rfl).2
    · exact (h 6 k rfl rfl).2
    · exact (h 7 k rfl rfl).2
  rw [(h 136 _ rfl rfl).2, e2]
  exact h4 k hk
theorem jEt.tp {ν : jMem} (h : jEt μ ν) (hp : jTp μ) : jTp ν := jTp_of (fun a k hx => (h a k (by
  rcases hx with ⟨rfl, rfl | rfl | rfl⟩ | rfl | rfl | ⟨rfl, rfl | rfl | rfl⟩ <;> rfl) (by
  rcases hx with ⟨rfl, rfl | rfl | rfl⟩ | rfl | rfl | ⟨rfl, rfl | rfl | rfl⟩ <;> rfl)).1) hp
theorem jEt.oth {t' : Nat} {ν : jMem} {T' : jT} (h : jEt μ ν) (hO : jOth t μ) (ht : t' = 12 ∨ t' = 23) (hp : jTp ν) (hK : jTok T') (hX : jTX T' t' ν) (hM : jTM T' ν) : jOth t' ν := by
  obtain ⟨-, -, -, ⟨V, hV, hVX, hVM⟩, hR, hC⟩ := hO
  refine ⟨ht, hp, ⟨T', hK, hX, hM⟩, ⟨V, hV, ?_, ?_⟩, ?_, ?_⟩
  · exact jVX_of (fun a k hx => (h a k (by rcases hx with ⟨rfl, rfl⟩ | rfl | rfl | rfl <;> rfl) (by rcases hx with ⟨rfl, rfl⟩ | rfl | rfl | rfl <;> rfl)).1) hVX
  · exact jVM_of (fun a k hx => (h a k (by rcases hx with ⟨rfl, rfl⟩ | rfl | rfl | rfl <;> rfl) (by rcases hx with ⟨rfl, rfl⟩ | rfl | rfl | rfl <;> rfl)).1) hVM
  · exact jRw_of (fun a k hx => (h a k (by rcases hx with ⟨rfl | rfl, rfl | rfl⟩ | rfl | rfl | rfl | rfl | ⟨rfl, rfl | rfl⟩ <;> rfl) (by rcases hx with ⟨rfl | rfl, rfl | rfl⟩ | rfl | rfl | rfl | rfl | ⟨rfl, rfl | rfl⟩ <;> rfl)).1) hR
  · exact jCh_of (fun a k hx => (h a k (by rcases hx with ⟨rfl, rfl⟩ | ⟨rfl, rfl⟩ <;> rfl) (by rcases hx with ⟨rfl, rfl⟩ | ⟨rfl, rfl⟩ <;> rfl)).1) (fun a k hx => (h a k (by rcases hx with rfl | rfl | rfl | ⟨rfl, rfl⟩ <;> rfl) (by rcases hx with rfl | rfl | rfl | ⟨rfl, rfl⟩ <;> rfl)).2) hC
theorem jtl {x : Int32} {n : Nat} (hn : n ≤ 12) (h : 0 ≤ x ∧ x < nI n) : ∃ l, l < n ∧ x = nI l := by
  rcases pk_ix x (n := n) (by omega) with h2 | h2 | h2
  · exact absurd h2 (by grind)
  · exact absurd h2 (by grind)
  · exact h2
theorem jTM_shut {l m : Nat} (hM : jTM T μ) : jTM (tShut T l m) (sI μ 148 l (nI m)) := by
  obtain ⟨⟨a1, a2, a3, a4, a5, a6⟩, b, c, e⟩ := hM
  have q : ∀ a k, a ≠ 148 → gI (sI μ 148 l (nI m)) a k = gI μ a k := fun a k ha => by rw [gI_sI, if_neg (fun z => ha z.1)]
  refine ⟨⟨?_, ?_, ?_, ?_, ?_, ?_⟩, fun p hp => ?_, fun p k hp hk => ?_, fun x hx => ?_⟩
  · rw [q _ _ (by omega)]; exact a1
  · rw [q _ _ (by omega)]; exact a2
  · rw [q _ _ (by omega)]; exact a3
  · rw [q _ _ (by omega)]; exact a4
  · rw [q _ _ (by omega)]; exact a5
  · rw [q _ _ (by omega)]; exact a6
  · rw [q _ _ (by omega), q _ _ (by omega), q _ _ (by omega), q _ _ (by omega)]; exact b p hp
  · rw [q _ _ (by omega)]; exact c p k hp hk
  · rw [q _ _ (by omega), q _ _ (by omega), gI_sI, tShut_Sh]
    refine ⟨(e x hx).1, (e x hx).2.1, ?_⟩
    by_cases z : x = l
    · rw [if_pos ⟨rfl, z⟩, if_pos z]
    · rw [if_neg (fun y => z y.2), if_neg z]
      exact (e x hx).2.2
theorem sX_shut {l m : Nat} (hW : jWd L t μ) (hK : jTok T) (hX : jTX T t μ) (hl : l < tLn T) (hm : m ≤ 1) (h : ∀ ν, jFr [t + 8, t + 9, t + 10] μ ν → jTX (tShut T l m) t ν → Q (some (.int 1)) (sI ν 1 0 0)) : jC (d + 6) 151 [.ref 1, .int (nI l), .int (nI m)] μ Q := by
  have ho : jTO t := hW.2.2.2.2.2.2.2.1
  have w0 := (jWs hW).1
  have wt := jWt0 hW
  have h12 := hK.1.2.1
  have il : ∀ (d : Nat) (Q' : jQ), Q' (some (.int 1)) μ → jC d 80 [.ref t, .int (nI l)] μ Q' := fun d Q' k => sq_isLane ho hW h12 hX.1.2.1 (by rw [if_pos ⟨nI_pos' (by omega), nI_lt hl (by omega)⟩]; exact k)
  refine e151 (b151_0 ?_)
  repeat' (first | refine b151_17 ?_ | refine il _ _ ?_ | refine sp_close hW hK hX hl hm (fun ν F hX2 => jh_i ?_) | dsimp only [jb_e0, jb_ec, jb_n, jb_c, jx_op, j1i_c, j2i_c, j1l_c, j2l_c, jil_c, j1r_c, jri_c, jrii_c, jril_c, jrl_c, jrr_c, j2i'_c, jdup_i, jdup_r, jdup2_c, jdup2_l, jpo_c, jli, jll, jlr, jat_0, jat_s, jst, jst2, jkill_i, jkill_r, jkill_l, jkill_n, jnone, jgv_0, jgv_1, jgv_2, jgv_3, jrv_s, jput_0, jput_1, jput_2, jput_3, jpop_0, jpop_1, jcl_s, jc1, jc2, jvi, Nat.reduceAdd, jol_i, jol_l, jol_n, jap_n, jap_c, List.map_cons, List.map_nil, List.sum_cons, List.sum_nil, jcI, jcL, jcR, gI_sI, gI_sL, gI_sR, gL_sI, gL_sL, gL_sR, gR_sI, gR_sL, gR_sR, gS_sI, gS_sL, gS_sR, gN_sI, gN_sL, gN_sR] | simp (disch := omega) only [Nat.zero_le, true_and, and_true, and_self, Nat.reduceLeDiff, true_or, or_true, false_or, or_false, Nat.reduceEqDiff, false_and, and_false, if_false, if_true, reduceIte, not_true_eq_false, not_false_eq_true, true_imp_iff, false_imp_iff, List.map_cons, List.map_nil, List.sum_cons, List.sum_nil, jcI, jcL, jcR, Nat.reduceAdd, jrv_s, j1r_c, jap_n, jap_c, gI_sI, gL_sL, gI_sL, gL_sI, an_lt, an_le, an_eq, an_lt0, an_0le, an_0lt, an_le0, an_eq0, an_eq1, an_1lt, an_le1, an_1le, an_lt1, an_eqm, an_sub, an_sub1, an_div, an_rem, an_in, an_in0, an_in1, an_cl, an_cl0, an_cl1, nI_add, nI_1, an_1a, pk_mul, Nat.reduceMul, jz10, jz01, j00, j11, jb0, Classical.not_not, eq_self, an_ite, an_of, an_nm, nI_l, lN_add, lN_mul, lN_i, lj_2, lj_3, lj_4, lj_5, lj_6, lj_7, lj_8, lj_9, lj_10, lj_11, lj_12, lj_13, lj_14, lj_15, lj_16, lj_17, lj_18, lj_19, lj_20, lj_21, lj_22, lj_23, lj_24, lj_25, lj_26, lj_27, lj_28, lj_29, lj_30, lj_31, lj_32, lj_33, lj_34, lj_35, lj_36, lj_37, lj_38, lj_39, lj_40, lj_48, lj_50, lj_57, lj_59, lj_60, lj_63, lj_64, lj_65, lj_90, lj_96, lj_97, lj_99, lj_100, lj_101, lj_105, lj_112, lj_114, lj_116, lj_119, lj_122, lj_128, lj_200, lj_255, lj_256, lj_500, lj_777, lj_1000, jr_1_3 hW, jr_1_4 hW, jr_1_7 hW, jr_1_8 hW, jr_1_9 hW, jr_1_10 hW, jr_1_11 hW, jr_1_12 hW, jr_1_13 hW, hW.1, jS0_1, jS0_2, jS0_10, jS0_34, jS0_38, jS0_43, jS0_102, jS0_112, jS0_122, jS0_128, w0, wt] | (refine br_c (fun _ => ?_) (fun _ => ?_) <;> try (exfalso; omega)) | (refine br_d (fun _ => ?_) (fun _ => ?_) <;> try (exfalso; omega)) | refine And.intro ?_ ?_ | (refine Nat.ne_of_gt ?_; omega))
  refine jh_o ?_
  have hW2 := F.wd hW
  have k := h ν F hX2
  repeat' (first | refine b151_17 ?_ | refine sX_done hW2 ?_ | dsimp only [jb_e0, jb_ec, jb_n, jb_c, jx_op, j1i_c, j2i_c, j1l_c, j2l_c, jil_c, j1r_c, jri_c, jrii_c, jril_c, jrl_c, jrr_c, j2i'_c, jdup_i, jdup_r, jdup2_c, jdup2_l, jpo_c, jli, jll, jlr, jat_0, jat_s, jst, jst2, jkill_i, jkill_r, jkill_l, jkill_n, jnone, jgv_0, jgv_1, jgv_2, jgv_3, jrv_s, jput_0, jput_1, jput_2, jput_3, jpop_0, jpop_1, jcl_s, jc1, jc2, jvi, Nat.reduceAdd, jol_i, jol_l, jol_n, jap_n, jap_c, List.map_cons, List.map_nil, List.sum_cons, List.sum_nil, jcI, jcL, jcR, gI_sI, gI_sL, gI_sR, gL_sI, gL_sL, gL_sR, gR_sI, gR_sL, gR_sR, gS_sI, gS_sL, gS_sR, gN_sI, gN_sL, gN_sR] | simp (disch := omega) only [Nat.zero_le, true_and, and_true, and_self, Nat.reduceLeDiff, true_or, or_true, false_or, or_false, Nat.reduceEqDiff, false_and, and_false, if_false, if_true, reduceIte, not_true_eq_false, not_false_eq_true, true_imp_iff, false_imp_iff, List.map_cons, List.map_nil, List.sum_cons, List.sum_nil, jcI, jcL, jcR, Nat.reduceAdd, jrv_s, j1r_c, jap_n, jap_c, gI_sI, gL_sL, gI_sL, gL_sI, an_lt, an_le, an_eq, an_lt0, an_0le, an_0lt, an_le0, an_eq0, an_eq1, an_1lt, an_le1, an_1le, an_lt1, an_eqm, an_sub, an_sub1, an_div, an_rem, an_in, an_in0, an_in1, an_cl, an_cl0, an_cl1, nI_add, nI_1, an_1a, pk_mul, Nat.reduceMul, jz10, jz01, j00, j11, jb0, Classical.not_not, eq_self, an_ite, an_of, an_nm, nI_l, lN_add, lN_mul, lN_i, lj_2, lj_3, lj_4, lj_5, lj_6, lj_7, lj_8, lj_9, lj_10, lj_11, lj_12, lj_13, lj_14, lj_15, lj_16, lj_17, lj_18, lj_19, lj_20, lj_21, lj_22, lj_23, lj_24, lj_25, lj_26, lj_27, lj_28, lj_29, lj_30, lj_31, lj_32, lj_33, lj_34, lj_35, lj_36, lj_37, lj_38, lj_39, lj_40, lj_48, lj_50, lj_57, lj_59, lj_60, lj_63, lj_64, lj_65, lj_90, lj_96, lj_97, lj_99, lj_100, lj_101, lj_105, lj_112, lj_114, lj_116, lj_119, lj_122, lj_128, lj_200, lj_255, lj_256, lj_500, lj_777, lj_1000, jr_1_3 hW2, jr_1_4 hW2, jr_1_7 hW2, jr_1_8 hW2, jr_1_9 hW2, jr_1_10 hW2, jr_1_11 hW2, jr_1_12 hW2, jr_1_13 hW2, hW2.1, jS0_1, jS0_2, jS0_10, jS0_34, jS0_38, jS0_43, jS0_102, jS0_112, jS0_122, jS0_128] | (refine br_c (fun _ => ?_) (fun _ => ?_) <;> try (exfalso; omega)) | (refine br_d (fun _ => ?_) (fun _ => ?_) <;> try (exfalso; omega)) | refine And.intro ?_ ?_ | (refine Nat.ne_of_gt ?_; omega))
  all_goals exact k
theorem sX_shut2 {x1 x2 : Int32} (hW : jWd L t μ) (hK : jTok T) (hX : jTX T t μ) (c : ¬ (0 ≤ x1 ∧ x1 < nI (tLn T))) (h : Q (some (.int 0)) (sI μ 1 0 2)) : jC (d + 6) 151 [.ref 1, .int x1, .int x2] μ Q := by
  have ho : jTO t := hW.2.2.2.2.2.2.2.1
  have w0 := (jWs hW).1
  have wt := jWt0 hW
  have h12 := hK.1.2.1
  have il : ∀ (d : Nat) (Q' : jQ), Q' (some (.int 0)) μ → jC d 80 [.ref t, .int x1] μ Q' := fun d Q' k => sq_isLane ho hW h12 hX.1.2.1 (by rw [if_neg c]; exact k)
  refine e151 (b151_0 ?_)
  repeat' (first | refine b151_17 ?_ | refine il _ _ ?_ | refine sX_refuse hW ?_ | dsimp only [jb_e0, jb_ec, jb_n, jb_c, jx_op, j1i_c, j2i_c, j1l_c, j2l_c, jil_c, j1r_c, jri_c, jrii_c, jril_c, jrl_c, jrr_c, j2i'_c, jdup_i, jdup_r, jdup2_c, jdup2_l, jpo_c, jli, jll, jlr, jat_0, jat_s, jst, jst2, jkill_i, jkill_r, jkill_l, jkill_n, jnone, jgv_0, jgv_1, jgv_2, jgv_3, jrv_s, jput_0, jput_1, jput_2, jput_3, jpop_0, jpop_1, jcl_s, jc1, jc2, jvi, Nat.reduceAdd, jol_i, jol_l, jol_n, jap_n, jap_c, List.map_cons, List.map_nil, List.sum_cons, List.sum_nil, jcI, jcL, jcR, gI_sI, gI_sL, gI_sR, gL_sI, gL_sL, gL_sR, gR_sI, gR_sL, gR_sR, gS_sI, gS_sL, gS_sR, gN_sI, gN_sL, gN_sR] | simp (disch := omega) only [Nat.zero_le, true_and, and_true, and_self, Nat.reduceLeDiff, true_or, or_true, false_or, or_false, Nat.reduceEqDiff, false_and, and_false, if_false, if_true, reduceIte, not_true_eq_false, not_false_eq_true, true_imp_iff, false_imp_iff, List.map_cons, List.map_nil, List.sum_cons, List.sum_nil, jcI, jcL, jcR, Nat.reduceAdd, jrv_s, j1r_c, jap_n, jap_c, gI_sI, gL_sL, gI_sL, gL_sI, an_lt, an_le, an_eq, an_lt0, an_0le, an_0lt, an_le0, an_eq0, an_eq1, an_1lt, an_le1, an_1le, an_lt1, an_eqm, an_sub, an_sub1, an_div, an_rem, an_in, an_in0, an_in1, an_cl, an_cl0, an_cl1, nI_add, nI_1, an_1a, pk_mul, Nat.reduceMul, jz10, jz01, j00, j11, jb0, Classical.not_not, eq_self, an_ite, an_of, an_nm, nI_l, lN_add, lN_mul, lN_i, lj_2, lj_3, lj_4, lj_5, lj_6, lj_7, lj_8, lj_9, lj_10, lj_11, lj_12, lj_13, lj_14, lj_15, lj_16, lj_17, lj_18, lj_19, lj_20, lj_21, lj_22, lj_23, lj_24, lj_25, lj_26, lj_27, lj_28, lj_29, lj_30, lj_31, lj_32, lj_33, lj_34, lj_35, lj_36, lj_37, lj_38, lj_39, lj_40, lj_48, lj_50, lj_57, lj_59, lj_60, lj_63, lj_64, lj_65, lj_90, lj_96, lj_97, lj_99, lj_100, lj_101, lj_105, lj_112, lj_114, lj_116, lj_119, lj_122, lj_128, lj_200, lj_255, lj_256, lj_500, lj_777, lj_1000, jr_1_3 hW, jr_1_4 hW, jr_1_7 hW, jr_1_8 hW, jr_1_9 hW, jr_1_10 hW, jr_1_11 hW, jr_1_12 hW, jr_1_13 hW, hW.1, jS0_1, jS0_2, jS0_10, jS0_34, jS0_38, jS0_43, jS0_102, jS0_112, jS0_122, jS0_128, w0, wt] | (refine br_c (fun _ => ?_) (fun _ => ?_) <;> try (exfalso; omega)) | (refine br_d (fun _ => ?_) (fun _ => ?_) <;> try (exfalso; omega)) | refine And.intro ?_ ?_ | (refine Nat.ne_of_gt ?_; omega))
  all_goals exact h
theorem sM_shut {l m : Nat} (hW : jWd L t μ) (hK : jTok T) (hM : jTM T μ) (hl : l < tLn T) (hm : m ≤ 1) (h : Q (some (.int 1)) (sI (sI (sI μ 133 1 0) 133 0 0) 148 l (nI m))) : jC (d + 6) 238 [.ref 133, .int (nI l), .int (nI m)] μ Q := by
  have h12 := hK.1.2.1
  have q := hM.1.2.1
  have hmm : nI m = 0 ∨ nI m = 1 := by
    rcases (show m = 0 ∨ m = 1 by omega) with rfl | rfl
    · exact Or.inl rfl
    · exact Or.inr rfl
  have inn : ∀ (d : Nat) (Q' : jQ) (ν : jMem), Q' (some (.int 1)) ν → jC d 190 [.long (lN l), .long 0, .long (nI (tLn T) - 1).toInt64] ν Q' := fun d Q' ν k => by
    rw [← nI_l (n := l) (by omega)]
    exact sM_isIn32 (y := 0) (z := nI (tLn T) - 1) (by decide) rfl (by rw [if_pos ⟨nI_pos' (by omega), (jprd12 h12).mpr (nI_lt hl (by omega))⟩]; exact k)
  have inn2 : ∀ (d : Nat) (Q' : jQ) (ν : jMem), Q' (some (.int 1)) ν → jC d 190 [.long (lN l), .long 0, .long (lN (tLn T - 1))] ν Q' := fun d Q' ν k => by
    have e : (nI (tLn T) - 1).toInt64 = lN (tLn T - 1) := by rw [an_sub1 (by omega), nI_l (by omega)]
    rw [← e]
    exact inn d Q' ν k
  refine e238 (b238_0 ?_)
  repeat' (first | refine b238_32 ?_ | refine inn _ _ _ ?_ | refine inn2 _ _ _ ?_ | dsimp only [jb_e0, jb_ec, jb_n, jb_c, jx_op, j1i_c, j2i_c, j1l_c, j2l_c, jil_c, j1r_c, jri_c, jrii_c, jril_c, jrl_c, jrr_c, j2i'_c, jdup_i, jdup_r, jdup2_c, jdup2_l, jpo_c, jli, jll, jlr, jat_0, jat_s, jst, jst2, jkill_i, jkill_r, jkill_l, jkill_n, jnone, jgv_0, jgv_1, jgv_2, jgv_3, jrv_s, jput_0, jput_1, jput_2, jput_3, jpop_0, jpop_1, jcl_s, jc1, jc2, jvi, Nat.reduceAdd, jol_i, jol_l, jol_n, jap_n, jap_c, List.map_cons, List.map_nil, List.sum_cons, List.sum_nil, jcI, jcL, jcR, gI_sI, gI_sL, gI_sR, gL_sI, gL_sL, gL_sR, gR_sI, gR_sL, gR_sR, gS_sI, gS_sL, gS_sR, gN_sI, gN_sL, gN_sR] | simp (disch := omega) only [Nat.zero_le, true_and, and_true, and_self, Nat.reduceLeDiff, true_or, or_true, false_or, or_false, Nat.reduceEqDiff, false_and, and_false, if_false, if_true, reduceIte, not_true_eq_false, not_false_eq_true, true_imp_iff, false_imp_iff, List.map_cons, List.map_nil, List.sum_cons, List.sum_nil, jcI, jcL, jcR, Nat.reduceAdd, jrv_s, j1r_c, jap_n, jap_c, gI_sI, gL_sL, gI_sL, gL_sI, an_lt, an_le, an_eq, an_lt0, an_0le, an_0lt, an_le0, an_eq0, an_eq1, an_1lt, an_le1, an_1le, an_lt1, an_eqm, an_sub, an_sub1, an_div, an_rem, an_in, an_in0, an_in1, an_cl, an_cl0, an_cl1, nI_add, nI_1, an_1a, pk_mul, Nat.reduceMul, jz10, jz01, j00, j11, jb0, Classical.not_not, eq_self, an_ite, an_of, an_nm, nI_l, lN_add, lN_mul, lN_i, lj_2, lj_3, lj_4, lj_5, lj_6, lj_7, lj_8, lj_9, lj_10, lj_11, lj_12, lj_13, lj_14, lj_15, lj_16, lj_17, lj_18, lj_19, lj_20, lj_21, lj_22, lj_23, lj_24, lj_25, lj_26, lj_27, lj_28, lj_29, lj_30, lj_31, lj_32, lj_33, lj_34, lj_35, lj_36, lj_37, lj_38, lj_39, lj_40, lj_48, lj_50, lj_57, lj_59, lj_60, lj_63, lj_64, lj_65, lj_90, lj_96, lj_97, lj_99, lj_100, lj_101, lj_105, lj_112, lj_114, lj_116, lj_119, lj_122, lj_128, lj_200, lj_255, lj_256, lj_500, lj_777, lj_1000, jr_133_4 hW, jr_133_5 hW, jr_133_6 hW, jr_133_7 hW, jr_133_31 hW, jr_133_32 hW, jr_133_33 hW, jr_133_34 hW, jr_133_35 hW, jr_133_36 hW, jr_133_37 hW, jr_133_38 hW, jr_133_39 hW, jr_133_40 hW, jr_133_41 hW, jr_133_42 hW, jr_133_44 hW, jr_133_45 hW, jr_133_46 hW, jr_133_47 hW, jr_133_48 hW, jr_133_49 hW, jr_133_50 hW, jr_133_51 hW, jr_133_55 hW, jr_133_56 hW, jr_133_57 hW, jr_133_58 hW, jr_133_62 hW, jr_133_65 hW, jr_133_66 hW, jr_133_67 hW, jr_133_68 hW, jr_133_69 hW, jr_133_70 hW, jr_133_71 hW, jr_133_74 hW, jr_133_75 hW, hW.1, jS0_133, jS0_134, jS0_135, jS0_136, jS0_137, jS0_138, jS0_139, jS0_140, jS0_141, jS0_142, jS0_143, jS0_144, jS0_145, jS0_146, jS0_147, jS0_148, jS0_149, jS0_150, jS0_151, jS0_152, jS0_153, jS0_154, jS0_155, jS0_156, jS0_157, jS0_158, jS0_159, jS0_160, jS0_161, jS0_162, jS0_163, jS0_164, jS0_165, jS0_166, jS0_167, jS0_168, jS0_169, jS0_170, jS0_171, q] | (refine br_c (fun _ => ?_) (fun _ => ?_) <;> try (exfalso; omega)) | (refine br_d (fun _ => ?_) (fun _ => ?_) <;> try (exfalso; omega)) | refine And.intro ?_ ?_ | (refine Nat.ne_of_gt ?_; omega))
  all_goals (first | exact h | omega)
theorem sM_shut2 {x1 x2 : Int32} (hW : jWd L t μ) (hK : jTok T) (hM : jTM T μ) (c : ¬ (0 ≤ x1 ∧ x1 < nI (tLn T))) (h : Q (some (.int 0)) (sI (sI (sI μ 133 1 0) 133 0 0) 133 0 2)) : jC (d + 6) 238 [.ref 133, .int x1, .int x2] μ Q := by
  have hW0 : jWd L t (sI (sI μ 133 1 0) 133 0 0) := hW
  have h12 := hK.1.2.1
  have q := hM.1.2.1
  have e : ∃ z : Int64, (nI (tLn T) - 1).toInt64 = z := ⟨_, rfl⟩
  obtain ⟨z, hz⟩ := e
  have inn : ∀ (d : Nat) (Q' : jQ) (ν : jMem), Q' (some (.int 0)) ν → jC d 190 [.long x1.toInt64, .long 0, .long (nI (tLn T) - 1).toInt64] ν Q' := fun d Q' ν k => sM_isIn32 (y := 0) (z := nI (tLn T) - 1) (by decide) rfl (by rw [if_neg (fun y => c ⟨y.1, (jprd12 h12).mp y.2⟩)]; exact k)
  have inn2 : 1 ≤ tLn T → ∀ (d : Nat) (Q' : jQ) (ν : jMem), Q' (some (.int 0)) ν → jC d 190 [.long x1.toInt64, .long 0, .long (lN (tLn T - 1))] ν Q' := fun h1 d Q' ν k => by
    have e : (nI (tLn T) - 1).toInt64 = lN (tLn T - 1) := by rw [an_sub1 h1, nI_l (by omega)]
    rw [← e]
    exact inn d Q' ν k
  refine e238 (b238_0 ?_)
  by_cases h1 : 1 ≤ tLn T
  · repeat' (first | refine b238_32 ?_ | refine inn2 h1 _ _ _ ?_ | refine sM_no hW0 ?_ | dsimp only [jb_e0, jb_ec, jb_n, jb_c, jx_op, j1i_c, j2i_c, j1l_c, j2l_c, jil_c, j1r_c, jri_c, jrii_c, jril_c, jrl_c, jrr_c, j2i'_c, jdup_i, jdup_r, jdup2_c, jdup2_l, jpo_c, jli, jll, jlr, jat_0, jat_s, jst, jst2, jkill_i, jkill_r, jkill_l, jkill_n, jnone, jgv_0, jgv_1, jgv_2, jgv_3, jrv_s, jput_0, jput_1, jput_2, jput_3, jpop_0, jpop_1, jcl_s, jc1, jc2, jvi, Nat.reduceAdd, jol_i, jol_l, jol_n, jap_n, jap_c, List.map_cons, List.map_nil, List.sum_cons, List.sum_nil, jcI, jcL, jcR, gI_sI, gI_sL, gI_sR, gL_sI, gL_sL, gL_sR, gR_sI, gR_sL, gR_sR, gS_sI, gS_sL, gS_sR, gN_sI, gN_sL, gN_sR] | simp (disch := omega) only [Nat.zero_le, true_and, and_true, and_self, Nat.reduceLeDiff, true_or, or_true, false_or, or_false, Nat.reduceEqDiff, false_and, and_false, if_false, if_true, reduceIte, not_true_eq_false, not_false_eq_true, true_imp_iff, false_imp_iff, List.map_cons, List.map_nil, List.sum_cons, List.sum_nil, jcI, jcL, jcR, Nat.reduceAdd, jrv_s, j1r_c, jap_n, jap_c, gI_sI, gL_sL, gI_sL, gL_sI, an_lt, an_le, an_eq, an_lt0, an_0le, an_0lt, an_le0, an_eq0, an_eq1, an_1lt, an_le1, an_1le, an_lt1, an_eqm, an_sub, an_sub1, an_div, an_rem, an_in, an_in0, an_in1, an_cl, an_cl0, an_cl1, nI_add, nI_1, an_1a, pk_mul, Nat.reduceMul, jz10, jz01, j00, j11, jb0, Classical.not_not, eq_self, an_ite, an_of, an_nm, nI_l, lN_add, lN_mul, lN_i, lj_2, lj_3, lj_4, lj_5, lj_6, lj_7, lj_8, lj_9, lj_10, lj_11, lj_12, lj_13, lj_14, lj_15, lj_16, lj_17, lj_18, lj_19, lj_20, lj_21, lj_22, lj_23, lj_24, lj_25, lj_26, lj_27, lj_28, lj_29, lj_30, lj_31, lj_32, lj_33, lj_34, lj_35, lj_36, lj_37, lj_38, lj_39, lj_40, lj_48, lj_50, lj_57, lj_59, lj_60, lj_63, lj_64, lj_65, lj_90, lj_96, lj_97, lj_99, lj_100, lj_101, lj_105, lj_112, lj_114, lj_116, lj_119, lj_122, lj_128, lj_200, lj_255, lj_256, lj_500, lj_777, lj_1000, jr_133_4 hW, jr_133_5 hW, jr_133_6 hW, jr_133_7 hW, jr_133_31 hW, jr_133_32 hW, jr_133_33 hW, jr_133_34 hW, jr_133_35 hW, jr_133_36 hW, jr_133_37 hW, jr_133_38 hW, jr_133_39 hW, jr_133_40 hW, jr_133_41 hW, jr_133_42 hW, jr_133_44 hW, jr_133_45 hW, jr_133_46 hW, jr_133_47 hW, jr_133_48 hW, jr_133_49 hW, jr_133_50 hW, jr_133_51 hW, jr_133_55 hW, jr_133_56 hW, jr_133_57 hW, jr_133_58 hW, jr_133_62 hW, jr_133_65 hW, jr_133_66 hW, jr_133_67 hW, jr_133_68 hW, jr_133_69 hW, jr_133_70 hW, jr_133_71 hW, jr_133_74 hW, jr_133_75 hW, hW.1, jS0_133, jS0_134, jS0_135, jS0_136, jS0_137, jS0_138, jS0_139, jS0_140, jS0_141, jS0_142, jS0_143, jS0_144, jS0_145, jS0_146, jS0_147, jS0_148, jS0_149, jS0_150, jS0_151, jS0_152, jS0_153, jS0_154, jS0_155, jS0_156, jS0_157, jS0_158, jS0_159, jS0_160, jS0_161, jS0_162, jS0_163, jS0_164, jS0_165, jS0_166, jS0_167, jS0_168, jS0_169, jS0_170, jS0_171, q] | (refine br_c (fun _ => ?_) (fun _ => ?_) <;> try (exfalso; omega)) | (refine br_d (fun _ => ?_) (fun _ => ?_) <;> try (exfalso; omega)) | refine And.intro ?_ ?_ | (refine Nat.ne_of_gt ?_; omega))
    all_goals exact h
  · repeat' (first | refine b238_32 ?_ | refine inn _ _ _ ?_ | refine sM_no hW0 ?_ | dsimp only [jb_e0, jb_ec, jb_n, jb_c, jx_op, j1i_c, j2i_c, j1l_c, j2l_c, jil_c, j1r_c, jri_c, jrii_c, jril_c, jrl_c, jrr_c, j2i'_c, jdup_i, jdup_r, jdup2_c, jdup2_l, jpo_c, jli, jll, jlr, jat_0, jat_s, jst, jst2, jkill_i, jkill_r, jkill_l, jkill_n, jnone, jgv_0, jgv_1, jgv_2, jgv_3, jrv_s, jput_0, jput_1, jput_2, jput_3, jpop_0, jpop_1, jcl_s, jc1, jc2, jvi, Nat.reduceAdd, jol_i, jol_l, jol_n, jap_n, jap_c, List.map_cons, List.map_nil, List.sum_cons, List.sum_nil, jcI, jcL, jcR, gI_sI, gI_sL, gI_sR, gL_sI, gL_sL, gL_sR, gR_sI, gR_sL, gR_sR, gS_sI, gS_sL, gS_sR, gN_sI, gN_sL, gN_sR] | simp (disch := omega) only [Nat.zero_le, true_and, and_true, and_self, Nat.reduceLeDiff, true_or, or_true, false_or, or_false, Nat.reduceEqDiff, false_and, and_false, if_false, if_true, reduceIte, not_true_eq_false, not_false_eq_true, true_imp_iff, false_imp_iff, List.map_cons, List.map_nil, List.sum_cons, List.sum_nil, jcI, jcL, jcR, Nat.reduceAdd, jrv_s, j1r_c, jap_n, jap_c, gI_sI, gL_sL, gI_sL, gL_sI, an_lt, an_le, an_eq, an_lt0, an_0le, an_0lt, an_le0, an_eq0, an_eq1, an_1lt, an_le1, an_1le, an_lt1, an_eqm, an_sub, an_sub1, an_div, an_rem, an_in, an_in0, an_in1, an_cl, an_cl0, an_cl1, nI_add, nI_1, an_1a, pk_mul, Nat.reduceMul, jz10, jz01, j00, j11, jb0, Classical.not_not, eq_self, an_ite, an_of, an_nm, nI_l, lN_add, lN_mul, lN_i, lj_2, lj_3, lj_4, lj_5, lj_6, lj_7, lj_8, lj_9, lj_10, lj_11, lj_12, lj_13, lj_14, lj_15, lj_16, lj_17, lj_18, lj_19, lj_20, lj_21, lj_22, lj_23, lj_24, lj_25, lj_26, lj_27, lj_28, lj_29, lj_30, lj_31, lj_32, lj_33, lj_34, lj_35, lj_36, lj_37, lj_38, lj_39, lj_40, lj_48, lj_50, lj_57, lj_59, lj_60, lj_63, lj_64, lj_65, lj_90, lj_96, lj_97, lj_99, lj_100, lj_101, lj_105, lj_112, lj_114, lj_116, lj_119, lj_122, lj_128, lj_200, lj_255, lj_256, lj_500, lj_777, lj_1000, jr_133_4 hW, jr_133_5 hW, jr_133_6 hW, jr_133_7 hW, jr_133_31 hW, jr_133_32 hW, jr_133_33 hW, jr_133_34 hW, jr_133_35 hW, jr_133_36 hW, jr_133_37 hW, jr_133_38 hW, jr_133_39 hW, jr_133_40 hW, jr_133_41 hW, jr_133_42 hW, jr_133_44 hW, jr_133_45 hW, jr_133_46 hW, jr_133_47 hW, jr_133_48 hW, jr_133_49 hW, jr_133_50 hW, jr_133_51 hW, jr_133_55 hW, jr_133_56 hW, jr_133_57 hW, jr_133_58 hW, jr_133_62 hW, jr_133_65 hW, jr_133_66 hW, jr_133_67 hW, jr_133_68 hW, jr_133_69 hW, jr_133_70 hW, jr_133_71 hW, jr_133_74 hW, jr_133_75 hW, hW.1, jS0_133, jS0_134, jS0_135, jS0_136, jS0_137, jS0_138, jS0_139, jS0_140, jS0_141, jS0_142, jS0_143, jS0_144, jS0_145, jS0_146, jS0_147, jS0_148, jS0_149, jS0_150, jS0_151, jS0_152, jS0_153, jS0_154, jS0_155, jS0_156, jS0_157, jS0_158, jS0_159, jS0_160, jS0_161, jS0_162, jS0_163, jS0_164, jS0_165, jS0_166, jS0_167, jS0_168, jS0_169, jS0_170, jS0_171, q] | (refine br_c (fun _ => ?_) (fun _ => ?_) <;> try (exfalso; omega)) | (refine br_d (fun _ => ?_) (fun _ => ?_) <;> try (exfalso; omega)) | refine And.intro ?_ ?_ | (refine Nat.ne_of_gt ?_; omega))
    all_goals exact h
theorem R_shut (x1 x2 : Int32) (h : jInv L μ) (hx : x2 = 0 ∨ x2 = 1) : jRel 999 151 238 [.int x1, .int x2] jInv L false μ := by
  obtain ⟨t, hW, hS, hT, hO⟩ := h
  obtain ⟨T, hK, hX, hM⟩ := hO.2.2.1
  have ht := hO.1
  obtain ⟨m, hm, rfl⟩ : ∃ m, m ≤ 1 ∧ x2 = nI m := by
    rcases hx with rfl | rfl
    · exact ⟨0, by omega, rfl⟩
    · exact ⟨1, by omega, rfl⟩
  have E : ∀ s : Int32, jEv false μ (sI μ 1 0 s) := fun s => jEv.rf.sI rfl
  have hWs : ∀ s : Int32, jWd L t (sI μ 1 0 s) := fun s => hW
  by_cases c : 0 ≤ x1 ∧ x1 < nI (tLn T)
  case neg => exact sX_shut2 (d := 993) hW hK hX c ⟨⟨_, rfl⟩, jg0 (by decide) 0, fun _ => rfl, sM_shut2 (d := 993) (hWs _) hK ((E _).tm hM) c ⟨rfl, jref hW hS hT hO⟩⟩
  obtain ⟨l, hl, rfl⟩ := jtl hK.1.2.1 c
  refine sX_shut (d := 993) hW hK hX hl hm (fun ν F hX2 => ?_)
  have hWν : jWd L t (sI ν 1 0 0) := F.wd hW
  have hA : ∀ a ∈ [t + 8, t + 9, t + 10], 12 ≤ a ∧ a ≤ 33 := by simp; omega
  have hM1 : jTM T (sI ν 1 0 0) := jTM_fr (A := [1]) (by decide) (jFr.sI (by simp)) (jTM_fr (by intro a ha; have := hA a ha; omega) F hM)
  have hM2 : jTM T (sI (sI (sI ν 1 0 0) 133 1 0) 133 0 0) := ((jEv.rf (f := false)).sI rfl |>.sI rfl).tm hM1
  refine ⟨⟨_, rfl⟩, fun j => by rw [jg0 (by decide)]; exact jg1 F (by simp) j, F.2.2.1, sM_shut (d := 993) (t := t) hWν hK hM1 hl hm ⟨rfl, t, F.wd hW, ?_, ?_, ?_⟩⟩
  · refine ⟨by simp [gI_sI], ?_, ?_⟩
    · show gL ν 133 2 = gL ν 1 1
      rw [(F.1 133 (by simp; omega)).2, (F.1 1 (by simp)).2]
      exact hS.2.1
    · show gL ν 133 3 = gL ν 1 2
      rw [(F.1 133 (by simp; omega)).2, (F.1 1 (by simp)).2]
      exact hS.2.2
  · have Et : jEt μ (sI (sI (sI (sI ν 1 0 0) 133 1 0) 133 0 0) 148 l (nI m)) := ((jEt.rf.fr hA F).ev (((jEv.rf (f := false)).sI rfl |>.sI rfl).sI rfl)).sI rfl
    exact Et.tr hT
  · have Et : jEt μ (sI (sI (sI (sI ν 1 0 0) 133 1 0) 133 0 0) 148 l (nI m)) := ((jEt.rf.fr hA F).ev (((jEv.rf (f := false)).sI rfl |>.sI rfl).sI rfl)).sI rfl
    refine Et.oth hO ht (Et.tp hO.2.1) (tShut_ok hm hK) ?_ (jTM_shut hM2)
    refine jTX_of2 (fun a k h1 h2 => ?_) hX2
    rw [gI_sI, if_neg (by omega), gI_sI, if_neg (by omega), gI_sI, if_neg (by omega), gI_sI, if_neg (by omega)]
end JSI
