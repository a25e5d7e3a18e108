/-! agreed, alike: the reference goes through all rows, the best -/
section JRQ
variable {d L t : Nat} {μ : jMem} {Q : jQ} {T : jT} {a b c m n o k s v nm : Nat} {al : Bool} {r e : Nat → Nat}
def rO2 (al : Bool) : Nat := if al = true then 159 else 158
def tmI : Nat → Int32
  | 0 => -1
  | m + 1 => nI m
theorem tmI_e (hm : m < 1000) : nI m + -1 = tmI m := by
  cases m with
  | zero => decide
  | succ m =>
    rw [← Int32.sub_eq_add_neg, an_sub1 (by omega)]
    rfl
/-- what a run through the rows may write -/
def rFr (al : Bool) (μ ν : jMem) : Prop := (∀ a, a ≠ rO2 al → a ≠ 160 → ∀ k, gI ν a k = gI μ a k) ∧ (∀ a k, ¬ (a = 133 ∧ (k = 63 ∨ k = 64)) → gL ν a k = gL μ a k) ∧ (∀ a k, gR ν a k = gR μ a k) ∧ (∀ a, gS ν a = gS μ a) ∧ gN ν = gN μ
theorem rFr.rf : rFr al μ μ := ⟨fun _ _ _ _ => rfl, fun _ _ _ => rfl, fun _ _ => rfl, fun _ => rfl, rfl⟩
theorem rFr.sI {ν : jMem} {x k : Nat} {y : Int32} (h : rFr al μ ν) (hx : x = rO2 al ∨ x = 160) : rFr al μ (sI ν x k y) := ⟨fun a h1 h2 i => by
  rw [gI_sI, if_neg (fun z => by
    rcases hx with q | q
    · exact h1 (z.1.trans q)
    · exact h2 (z.1.trans q))]
  exact h.1 a h1 h2 i, h.2⟩
theorem rFr.sL {ν : jMem} {k : Nat} {y : Int64} (h : rFr al μ ν) (hk : k = 63 ∨ k = 64) : rFr al μ (sL ν 133 k y) := ⟨h.1, fun a i hn => by
  rw [gL_sL, if_neg (fun z => hn ⟨z.1, by rw [z.2]; exact hk⟩)]
  exact h.2.1 a i hn, h.2.2⟩
theorem rFr.wd {ν : jMem} (h : rFr al μ ν) (hW : jWd L t μ) : jWd L t ν := jWd_of h.2.2.2.1 h.2.2.1 hW
theorem rO2_c : rO2 al = 158 ∨ rO2 al = 159 := by
  unfold rO2
  cases al <;> simp
theorem rFr.tm {ν : jMem} (h : rFr al μ ν) (hM : jTM T μ) : jTM T ν := jTM_of (fun a k hx => h.1 a (by have := rO2_c (al := al); omega) (by omega) k) hM
/-- the best so far -/
def rMB (al : Bool) (T : jT) (n v : Nat) (μ : jMem) : Prop := (v = 0 ∧ gL μ 133 63 = -1) ∨ ∃ w, w < v ∧ gL μ 133 63 = lN (rFM al T n w) ∧ gL μ 133 64 = lN (rFL al T n w) ∧ (∀ k, k < rNm al n → gI μ (rO2 al) k = nI (rD 5 (rNm al n) w k)) ∧ ∀ u, u < v → rFM al T n w < rFM al T n u ∨ (rFM al T n w = rFM al T n u ∧ (rFL al T n w < rFL al T n u ∨ (rFL al T n w = rFL al T n u ∧ w ≤ u)))
theorem rFM_le (hK : jTok T) : rFM al T n v ≤ 5184 := rAA_le hK
theorem rFL_le (hK : jTok T) (hn : n ≤ 5) : rFL al T n v ≤ 31104 := by
  have := rFl_le (T := T) (r := rRow al T n v) (n := n) hK
  unfold rFL
  omega
/-- the digits of a number -/
theorem fr_dig {z8 z9 z10 z11 z12 z13 : Option Value} {v2 v4 : Int32} {v3 : Int32} (hW : jWd L t μ) (hm6 : nm ≤ 6) (hv : v < 100000)
    (h : ∀ ν, rFr al μ ν → (∀ k, gI ν (rO2 al) k = gI μ (rO2 al) k) → gL ν 133 63 = gL μ 133 63 → gL ν 133 64 = gL μ 133 64 → (∀ k, k < nm → gI ν 160 k = nI (rD 5 nm v k)) → ∀ x6, jR (d + 4) 259 78 [some (.ref 133), some (.int (nI n)), some (.int v2), some (.int v3), some (.int v4), some (.int (nI v)), some (.int x6), some (.int (-1)), z8, z9, z10, z11, z12, z13] [] (0, 0) ν Q) :
    ∀ (m : Nat) (ν : jMem), m ≤ nm → rFr al μ ν → (∀ k, gI ν (rO2 al) k = gI μ (rO2 al) k) → gL ν 133 63 = gL μ 133 63 → gL ν 133 64 = gL μ 133 64 → (∀ k, m ≤ k → k < nm → gI ν 160 k = nI (rD 5 nm v k)) → jR (d + 4) 259 50 [some (.ref 133), some (.int (nI n)), some (.int v2), some (.int v3), some (.int v4), some (.int (nI v)), some (.int (nI (v / 5 ^ (nm - m)))), some (.int (tmI m)), z8, z9, z10, z11, z12, z13] [] (0, 0) ν Q := by
  intro m
  induction m with
  | zero =>
    intro ν hm hF h2 h3 h4 h5
    have kk := h ν hF h2 h3 h4 (fun k hk => h5 k (Nat.zero_le _) hk) (nI (v / 5 ^ (nm - 0)))
    have e0 : tmI 0 = -1 := rfl
    rw [e0]
    generalize v / 5 ^ (nm - 0) = x at *
    refine b259_50 ?_
    repeat' (first | refine b259_6 ?_ | refine b259_24 ?_ | refine b259_34 ?_ | refine b259_87 ?_ | refine b259_99 ?_ | refine b259_125 ?_ | refine b259_135 ?_ | refine b259_155 ?_ | refine b259_156 ?_ | refine b259_180 ?_ | refine b259_182 ?_ | refine b259_193 ?_ | refine b259_199 ?_ | refine b259_241 ?_ | refine b259_256 ?_ | refine b259_283 ?_ | refine b259_297 ?_ | refine b259_303 ?_ | refine b259_309 ?_ | dsimp only [jb_e0, jb_ec, jb_n, jb_c, jx_op, j1i_c, j2i_c, j1l_c, j2l_c, jil_c, j1r_c, jri_c, jrii_c, jril_c, jrl_c, jrr_c, j2i'_c, jdup_i, jdup_r, jdup2_c, jdup2_l, jpo_c, jli, jll, jlr, jat_0, jat_s, jst, jst2, jkill_i, jkill_r, jkill_l, jkill_n, jnone, jgv_0, jgv_1, jgv_2, jgv_3, jrv_s, jput_0, jput_1, jput_2, jput_3, jpop_0, jpop_1, jcl_s, jc1, jc2, jvi, Nat.reduceAdd, jol_i, jol_l, jol_n, jap_n, jap_c, List.map_cons, List.map_nil, List.sum_cons, List.sum_nil, jcI, jcL, jcR, gI_sI, gI_sL, gI_sR, gL_sI, gL_sL, gL_sR, gR_sI, gR_sL, gR_sR, gS_sI, gS_sL, gS_sR, gN_sI, gN_sL, gN_sR] | simp (disch := omega) only [Nat.zero_le, true_and, and_true, and_self, Nat.reduceLeDiff, true_or, or_true, false_or, or_false, Nat.reduceEqDiff, false_and, and_false, if_false, if_true, reduceIte, not_true_eq_false, not_false_eq_true, true_imp_iff, false_imp_iff, List.map_cons, List.map_nil, List.sum_cons, List.sum_nil, jcI, jcL, jcR, Nat.reduceAdd, jrv_s, j1r_c, jap_n, jap_c, gI_sI, gL_sL, gI_sL, gL_sI, an_lt, an_le, an_eq, an_lt0, an_0le, an_0lt, an_le0, an_eq0, an_eq1, an_1lt, an_le1, an_1le, an_lt1, an_eqm, an_sub, an_sub1, an_div, an_rem, an_in, an_in0, an_in1, an_cl, an_cl0, an_cl1, nI_add, nI_1, an_1a, pk_mul, Nat.reduceMul, jz10, jz01, j00, j11, jb0, Classical.not_not, eq_self, an_ite, an_of, an_nm, nI_l, lN_add, lN_mul, lN_i, lj_2, lj_3, lj_4, lj_5, lj_6, lj_7, lj_8, lj_9, lj_10, lj_11, lj_12, lj_13, lj_14, lj_15, lj_16, lj_17, lj_18, lj_19, lj_20, lj_21, lj_22, lj_23, lj_24, lj_25, lj_26, lj_27, lj_28, lj_29, lj_30, lj_31, lj_32, lj_33, lj_34, lj_35, lj_36, lj_37, lj_38, lj_39, lj_40, lj_48, lj_50, lj_57, lj_59, lj_60, lj_63, lj_64, lj_65, lj_90, lj_96, lj_97, lj_99, lj_100, lj_101, lj_105, lj_112, lj_114, lj_116, lj_119, lj_122, lj_128, lj_200, lj_255, lj_256, lj_500, lj_777, lj_1000, jm1_lt] | (refine br_c (fun _ => ?_) (fun _ => ?_) <;> try (exfalso; omega)) | (refine br_d (fun _ => ?_) (fun _ => ?_) <;> try (exfalso; omega)) | refine And.intro ?_ ?_ | (refine Nat.ne_of_gt ?_; omega))
    all_goals exact kk
  | succ m ih =>
    intro ν hm hF h2 h3 h4 h5
    have hWν := hF.wd hW
    have r2 := rO2_c (al := al)
    have e0 : tmI (m + 1) = nI m := rfl
    have e1 := tmI_e (m := m) (by omega)
    have hx : v / 5 ^ (nm - (m + 1)) ≤ v := Nat.div_le_self _ _
    have hd : rD 5 nm v m = v / 5 ^ (nm - (m + 1)) % 5 := by
      unfold rD
      rw [show nm - 1 - m = nm - (m + 1) by omega]
    have hn : v / 5 ^ (nm - m) = v / 5 ^ (nm - (m + 1)) / 5 := by
      rw [Nat.div_div_eq_div_mul, show nm - m = nm - (m + 1) + 1 by omega, Nat.pow_succ]
    have kk := ih (sI ν 160 m (nI (rD 5 nm v m))) (by omega) (hF.sI (Or.inr rfl)) (fun k => by rw [gI_sI, if_neg (by omega)]; exact h2 k) h3 h4 (fun k hk1 hk2 => by
      rw [gI_sI]
      by_cases e : k = m
      · rw [if_pos ⟨rfl, e⟩, e]
      · rw [if_neg (fun z => e z.2)]
        exact h5 k (by omega) hk2)
    rw [hn, hd] at kk
    rw [e0]
    clear h ih h5
    generalize v / 5 ^ (nm - (m + 1)) = x at *
    refine b259_50 ?_
    repeat' (first | refine b259_6 ?_ | refine b259_24 ?_ | refine b259_34 ?_ | refine b259_87 ?_ | refine b259_99 ?_ | refine b259_125 ?_ | refine b259_135 ?_ | refine b259_155 ?_ | refine b259_156 ?_ | refine b259_180 ?_ | refine b259_182 ?_ | refine b259_193 ?_ | refine b259_199 ?_ | refine b259_241 ?_ | refine b259_256 ?_ | refine b259_283 ?_ | refine b259_297 ?_ | refine b259_303 ?_ | refine b259_309 ?_ | dsimp only [jb_e0, jb_ec, jb_n, jb_c, jx_op, j1i_c, j2i_c, j1l_c, j2l_c, jil_c, j1r_c, jri_c, jrii_c, jril_c, jrl_c, jrr_c, j2i'_c, jdup_i, jdup_r, jdup2_c, jdup2_l, jpo_c, jli, jll, jlr, jat_0, jat_s, jst, jst2, jkill_i, jkill_r, jkill_l, jkill_n, jnone, jgv_0, jgv_1, jgv_2, jgv_3, jrv_s, jput_0, jput_1, jput_2, jput_3, jpop_0, jpop_1, jcl_s, jc1, jc2, jvi, Nat.reduceAdd, jol_i, jol_l, jol_n, jap_n, jap_c, List.map_cons, List.map_nil, List.sum_cons, List.sum_nil, jcI, jcL, jcR, gI_sI, gI_sL, gI_sR, gL_sI, gL_sL, gL_sR, gR_sI, gR_sL, gR_sR, gS_sI, gS_sL, gS_sR, gN_sI, gN_sL, gN_sR] | simp (disch := omega) only [Nat.zero_le, true_and, and_true, and_self, Nat.reduceLeDiff, true_or, or_true, false_or, or_false, Nat.reduceEqDiff, false_and, and_false, if_false, if_true, reduceIte, not_true_eq_false, not_false_eq_true, true_imp_iff, false_imp_iff, List.map_cons, List.map_nil, List.sum_cons, List.sum_nil, jcI, jcL, jcR, Nat.reduceAdd, jrv_s, j1r_c, jap_n, jap_c, gI_sI, gL_sL, gI_sL, gL_sI, an_lt, an_le, an_eq, an_lt0, an_0le, an_0lt, an_le0, an_eq0, an_eq1, an_1lt, an_le1, an_1le, an_lt1, an_eqm, an_sub, an_sub1, an_div, an_rem, an_in, an_in0, an_in1, an_cl, an_cl0, an_cl1, nI_add, nI_1, an_1a, pk_mul, Nat.reduceMul, jz10, jz01, j00, j11, jb0, Classical.not_not, eq_self, an_ite, an_of, an_nm, nI_l, lN_add, lN_mul, lN_i, lj_2, lj_3, lj_4, lj_5, lj_6, lj_7, lj_8, lj_9, lj_10, lj_11, lj_12, lj_13, lj_14, lj_15, lj_16, lj_17, lj_18, lj_19, lj_20, lj_21, lj_22, lj_23, lj_24, lj_25, lj_26, lj_27, lj_28, lj_29, lj_30, lj_31, lj_32, lj_33, lj_34, lj_35, lj_36, lj_37, lj_38, lj_39, lj_40, lj_48, lj_50, lj_57, lj_59, lj_60, lj_63, lj_64, lj_65, lj_90, lj_96, lj_97, lj_99, lj_100, lj_101, lj_105, lj_112, lj_114, lj_116, lj_119, lj_122, lj_128, lj_200, lj_255, lj_256, lj_500, lj_777, lj_1000, jr_133_4 hWν, jr_133_5 hWν, jr_133_6 hWν, jr_133_7 hWν, jr_133_31 hWν, jr_133_32 hWν, jr_133_33 hWν, jr_133_34 hWν, jr_133_35 hWν, jr_133_36 hWν, jr_133_37 hWν, jr_133_38 hWν, jr_133_39 hWν, jr_133_40 hWν, jr_133_41 hWν, jr_133_42 hWν, jr_133_44 hWν, jr_133_45 hWν, jr_133_46 hWν, jr_133_47 hWν, jr_133_48 hWν, jr_133_49 hWν, jr_133_50 hWν, jr_133_51 hWν, jr_133_55 hWν, jr_133_56 hWν, jr_133_57 hWν, jr_133_58 hWν, jr_133_62 hWν, jr_133_65 hWν, jr_133_66 hWν, jr_133_67 hWν, jr_133_68 hWν, jr_133_69 hWν, jr_133_70 hWν, jr_133_71 hWν, jr_133_74 hWν, jr_133_75 hWν, hWν.1, jS0_133, jS0_134, jS0_135, jS0_136, jS0_137, jS0_138, jS0_139, jS0_140, jS0_141, jS0_142, jS0_143, jS0_144, jS0_145, jS0_146, jS0_147, jS0_148, jS0_149, jS0_150, jS0_151, jS0_152, jS0_153, jS0_154, jS0_155, jS0_156, jS0_157, jS0_158, jS0_159, jS0_160, jS0_161, jS0_162, jS0_163, jS0_164, jS0_165, jS0_166, jS0_167, jS0_168, jS0_169, jS0_170, jS0_171, e1] | (refine br_c (fun _ => ?_) (fun _ => ?_) <;> try (exfalso; omega)) | (refine br_d (fun _ => ?_) (fun _ => ?_) <;> try (exfalso; omega)) | refine And.intro ?_ ?_ | (refine Nat.ne_of_gt ?_; omega))
    all_goals exact kk
/-- the row is kept -/
theorem fr_copy {z5 z6 z7 z9 z12 z13 : Option Value} {v4 : Int32} (hW : jWd L t μ) (hm6 : nm ≤ 6) (ha5 : al = true → nm ≤ 5)
    (h : ∀ ν, rFr al μ ν → gL ν 133 63 = gL μ 133 63 → gL ν 133 64 = gL μ 133 64 → (∀ k, k < nm → gI ν (rO2 al) k = gI μ 160 k) → jR (d + 4) 259 303 [some (.ref 133), some (.int (nI n)), some (.int (nI nm)), some (.int (jbi al)), some (.int v4), z5, z6, z7, none, z9, none, some (.int (nI nm)), z12, z13] [] (0, 0) ν Q) :
    ∀ (m k : Nat) (ν : jMem), k + m = nm → rFr al μ ν → (∀ i, gI ν 160 i = gI μ 160 i) → gL ν 133 63 = gL μ 133 63 → gL ν 133 64 = gL μ 133 64 → (∀ i, i < k → gI ν (rO2 al) i = gI μ 160 i) → jR (d + 4) 259 256 [some (.ref 133), some (.int (nI n)), some (.int (nI nm)), some (.int (jbi al)), some (.int v4), z5, z6, z7, none, z9, none, some (.int (nI k)), z12, z13] [] (0, 0) ν Q := by
  have jf : jbi false = 0 := rfl
  have jt : jbi true = 1 := rfl
  intro m
  induction m with
  | zero =>
    intro k ν hk hF h0 h3 h4 h5
    obtain rfl : k = nm := by omega
    have kk := h ν hF h3 h4 h5
    generalize jbi al = v3 at *
    refine b259_256 ?_
    repeat' (first | refine b259_6 ?_ | refine b259_24 ?_ | refine b259_34 ?_ | refine b259_50 ?_ | refine b259_78 ?_ | refine b259_87 ?_ | refine b259_99 ?_ | refine b259_125 ?_ | refine b259_135 ?_ | refine b259_155 ?_ | refine b259_156 ?_ | refine b259_180 ?_ | refine b259_182 ?_ | refine b259_193 ?_ | refine b259_199 ?_ | refine b259_241 ?_ | refine b259_283 ?_ | refine b259_297 ?_ | refine b259_309 ?_ | dsimp only [jb_e0, jb_ec, jb_n, jb_c, jx_op, j1i_c, j2i_c, j1l_c, j2l_c, jil_c, j1r_c, jri_c, jrii_c, jril_c, jrl_c, jrr_c, j2i'_c, jdup_i, jdup_r, jdup2_c, jdup2_l, jpo_c, jli, jll, jlr, jat_0, jat_s, jst, jst2, jkill_i, jkill_r, jkill_l, jkill_n, jnone, jgv_0, jgv_1, jgv_2, jgv_3, jrv_s, jput_0, jput_1, jput_2, jput_3, jpop_0, jpop_1, jcl_s, jc1, jc2, jvi, Nat.reduceAdd, jol_i, jol_l, jol_n, jap_n, jap_c, List.map_cons, List.map_nil, List.sum_cons, List.sum_nil, jcI, jcL, jcR, gI_sI, gI_sL, gI_sR, gL_sI, gL_sL, gL_sR, gR_sI, gR_sL, gR_sR, gS_sI, gS_sL, gS_sR, gN_sI, gN_sL, gN_sR] | simp (disch := omega) only [Nat.zero_le, true_and, and_true, and_self, Nat.reduceLeDiff, true_or, or_true, false_or, or_false, Nat.reduceEqDiff, false_and, and_false, if_false, if_true, reduceIte, not_true_eq_false, not_false_eq_true, true_imp_iff, false_imp_iff, List.map_cons, List.map_nil, List.sum_cons, List.sum_nil, jcI, jcL, jcR, Nat.reduceAdd, jrv_s, j1r_c, jap_n, jap_c, gI_sI, gL_sL, gI_sL, gL_sI, an_lt, an_le, an_eq, an_lt0, an_0le, an_0lt, an_le0, an_eq0, an_eq1, an_1lt, an_le1, an_1le, an_lt1, an_eqm, an_sub, an_sub1, an_div, an_rem, an_in, an_in0, an_in1, an_cl, an_cl0, an_cl1, nI_add, nI_1, an_1a, pk_mul, Nat.reduceMul, jz10, jz01, j00, j11, jb0, Classical.not_not, eq_self, an_ite, an_of, an_nm, nI_l, lN_add, lN_mul, lN_i, lj_2, lj_3, lj_4, lj_5, lj_6, lj_7, lj_8, lj_9, lj_10, lj_11, lj_12, lj_13, lj_14, lj_15, lj_16, lj_17, lj_18, lj_19, lj_20, lj_21, lj_22, lj_23, lj_24, lj_25, lj_26, lj_27, lj_28, lj_29, lj_30, lj_31, lj_32, lj_33, lj_34, lj_35, lj_36, lj_37, lj_38, lj_39, lj_40, lj_48, lj_50, lj_57, lj_59, lj_60, lj_63, lj_64, lj_65, lj_90, lj_96, lj_97, lj_99, lj_100, lj_101, lj_105, lj_112, lj_114, lj_116, lj_119, lj_122, lj_128, lj_200, lj_255, lj_256, lj_500, lj_777, lj_1000] | (refine br_c (fun _ => ?_) (fun _ => ?_) <;> try (exfalso; omega)) | (refine br_d (fun _ => ?_) (fun _ => ?_) <;> try (exfalso; omega)) | refine And.intro ?_ ?_ | (refine Nat.ne_of_gt ?_; omega))
    all_goals exact kk
  | succ m ih =>
    intro k ν hk hF h0 h3 h4 h5
    have hWν := hF.wd hW
    have kk := ih (k + 1) (sI ν (rO2 al) k (gI ν 160 k)) (by omega) (hF.sI (Or.inl rfl)) (fun i => by
      have := rO2_c (al := al)
      rw [gI_sI, if_neg (by omega)]
      exact h0 i) h3 h4 (fun i hi => by
      rw [gI_sI]
      by_cases e : i = k
      · rw [if_pos ⟨rfl, e⟩, e]
        exact h0 k
      · rw [if_neg (fun z => e z.2)]
        exact h5 i (by omega))
    clear h ih h5
    refine b259_256 ?_
    cases al with
    | true =>
      have n5 := ha5 rfl
      have kk : jR (d + 4) 259 256 [some (.ref 133), some (.int (nI n)), some (.int (nI nm)), some (.int (jbi true)), some (.int v4), z5, z6, z7, none, z9, none, some (.int (nI (k + 1))), z12, z13] [] (0, 0) (sI ν 159 k (gI ν 160 k)) Q := kk
      rw [jt] at kk ⊢
      repeat' (first | refine b259_6 ?_ | refine b259_24 ?_ | refine b259_34 ?_ | refine b259_50 ?_ | refine b259_78 ?_ | refine b259_87 ?_ | refine b259_99 ?_ | refine b259_125 ?_ | refine b259_135 ?_ | refine b259_155 ?_ | refine b259_156 ?_ | refine b259_180 ?_ | refine b259_182 ?_ | refine b259_193 ?_ | refine b259_199 ?_ | refine b259_241 ?_ | refine b259_283 ?_ | refine b259_297 ?_ | refine b259_309 ?_ | dsimp only [jb_e0, jb_ec, jb_n, jb_c, jx_op, j1i_c, j2i_c, j1l_c, j2l_c, jil_c, j1r_c, jri_c, jrii_c, jril_c, jrl_c, jrr_c, j2i'_c, jdup_i, jdup_r, jdup2_c, jdup2_l, jpo_c, jli, jll, jlr, jat_0, jat_s, jst, jst2, jkill_i, jkill_r, jkill_l, jkill_n, jnone, jgv_0, jgv_1, jgv_2, jgv_3, jrv_s, jput_0, jput_1, jput_2, jput_3, jpop_0, jpop_1, jcl_s, jc1, jc2, jvi, Nat.reduceAdd, jol_i, jol_l, jol_n, jap_n, jap_c, List.map_cons, List.map_nil, List.sum_cons, List.sum_nil, jcI, jcL, jcR, gI_sI, gI_sL, gI_sR, gL_sI, gL_sL, gL_sR, gR_sI, gR_sL, gR_sR, gS_sI, gS_sL, gS_sR, gN_sI, gN_sL, gN_sR] | simp (disch := omega) only [Nat.zero_le, true_and, and_true, and_self, Nat.reduceLeDiff, true_or, or_true, false_or, or_false, Nat.reduceEqDiff, false_and, and_false, if_false, if_true, reduceIte, not_true_eq_false, not_false_eq_true, true_imp_iff, false_imp_iff, List.map_cons, List.map_nil, List.sum_cons, List.sum_nil, jcI, jcL, jcR, Nat.reduceAdd, jrv_s, j1r_c, jap_n, jap_c, gI_sI, gL_sL, gI_sL, gL_sI, an_lt, an_le, an_eq, an_lt0, an_0le, an_0lt, an_le0, an_eq0, an_eq1, an_1lt, an_le1, an_1le, an_lt1, an_eqm, an_sub, an_sub1, an_div, an_rem, an_in, an_in0, an_in1, an_cl, an_cl0, an_cl1, nI_add, nI_1, an_1a, pk_mul, Nat.reduceMul, jz10, jz01, j00, j11, jb0, Classical.not_not, eq_self, an_ite, an_of, an_nm, nI_l, lN_add, lN_mul, lN_i, lj_2, lj_3, lj_4, lj_5, lj_6, lj_7, lj_8, lj_9, lj_10, lj_11, lj_12, lj_13, lj_14, lj_15, lj_16, lj_17, lj_18, lj_19, lj_20, lj_21, lj_22, lj_23, lj_24, lj_25, lj_26, lj_27, lj_28, lj_29, lj_30, lj_31, lj_32, lj_33, lj_34, lj_35, lj_36, lj_37, lj_38, lj_39, lj_40, lj_48, lj_50, lj_57, lj_59, lj_60, lj_63, lj_64, lj_65, lj_90, lj_96, lj_97, lj_99, lj_100, lj_101, lj_105, lj_112, lj_114, lj_116, lj_119, lj_122, lj_128, lj_200, lj_255, lj_256, lj_500, lj_777, lj_1000, jr_133_4 hWν, jr_133_5 hWν, jr_133_6 hWν, jr_133_7 hWν, jr_133_31 hWν, jr_133_32 hWν, jr_133_33 hWν, jr_133_34 hWν, jr_133_35 hWν, jr_133_36 hWν, jr_133_37 hWν, jr_133_38 hWν, jr_133_39 hWν, jr_133_40 hWν, jr_133_41 hWν, jr_133_42 hWν, jr_133_44 hWν, jr_133_45 hWν, jr_133_46 hWν, jr_133_47 hWν, jr_133_48 hWν, jr_133_49 hWν, jr_133_50 hWν, jr_133_51 hWν, jr_133_55 hWν, jr_133_56 hWν, jr_133_57 hWν, jr_133_58 hWν, jr_133_62 hWν, jr_133_65 hWν, jr_133_66 hWν, jr_133_67 hWν, jr_133_68 hWν, jr_133_69 hWν, jr_133_70 hWν, jr_133_71 hWν, jr_133_74 hWν, jr_133_75 hWν, hWν.1, jS0_133, jS0_134, jS0_135, jS0_136, jS0_137, jS0_138, jS0_139, jS0_140, jS0_141, jS0_142, jS0_143, jS0_144, jS0_145, jS0_146, jS0_147, jS0_148, jS0_149, jS0_150, jS0_151, jS0_152, jS0_153, jS0_154, jS0_155, jS0_156, jS0_157, jS0_158, jS0_159, jS0_160, jS0_161, jS0_162, jS0_163, jS0_164, jS0_165, jS0_166, jS0_167, jS0_168, jS0_169, jS0_170, jS0_171] | (refine br_c (fun _ => ?_) (fun _ => ?_) <;> try (exfalso; omega)) | (refine br_d (fun _ => ?_) (fun _ => ?_) <;> try (exfalso; omega)) | refine And.intro ?_ ?_ | (refine Nat.ne_of_gt ?_; omega))
      all_goals exact kk
    | false =>
      have kk : jR (d + 4) 259 256 [some (.ref 133), some (.int (nI n)), some (.int (nI nm)), some (.int (jbi false)), some (.int v4), z5, z6, z7, none, z9, none, some (.int (nI (k + 1))), z12, z13] [] (0, 0) (sI ν 158 k (gI ν 160 k)) Q := kk
      rw [jf] at kk ⊢
      repeat' (first | refine b259_6 ?_ | refine b259_24 ?_ | refine b259_34 ?_ | refine b259_50 ?_ | refine b259_78 ?_ | refine b259_87 ?_ | refine b259_99 ?_ | refine b259_125 ?_ | refine b259_135 ?_ | refine b259_155 ?_ | refine b259_156 ?_ | refine b259_180 ?_ | refine b259_182 ?_ | refine b259_193 ?_ | refine b259_199 ?_ | refine b259_241 ?_ | refine b259_283 ?_ | refine b259_297 ?_ | refine b259_309 ?_ | dsimp only [jb_e0, jb_ec, jb_n, jb_c, jx_op, j1i_c, j2i_c, j1l_c, j2l_c, jil_c, j1r_c, jri_c, jrii_c, jril_c, jrl_c, jrr_c, j2i'_c, jdup_i, jdup_r, jdup2_c, jdup2_l, jpo_c, jli, jll, jlr, jat_0, jat_s, jst, jst2, jkill_i, jkill_r, jkill_l, jkill_n, jnone, jgv_0, jgv_1, jgv_2, jgv_3, jrv_s, jput_0, jput_1, jput_2, jput_3, jpop_0, jpop_1, jcl_s, jc1, jc2, jvi, Nat.reduceAdd, jol_i, jol_l, jol_n, jap_n, jap_c, List.map_cons, List.map_nil, List.sum_cons, List.sum_nil, jcI, jcL, jcR, gI_sI, gI_sL, gI_sR, gL_sI, gL_sL, gL_sR, gR_sI, gR_sL, gR_sR, gS_sI, gS_sL, gS_sR, gN_sI, gN_sL, gN_sR] | simp (disch := omega) only [Nat.zero_le, true_and, and_true, and_self, Nat.reduceLeDiff, true_or, or_true, false_or, or_false, Nat.reduceEqDiff, false_and, and_false, if_false, if_true, reduceIte, not_true_eq_false, not_false_eq_true, true_imp_iff, false_imp_iff, List.map_cons, List.map_nil, List.sum_cons, List.sum_nil, jcI, jcL, jcR, Nat.reduceAdd, jrv_s, j1r_c, jap_n, jap_c, gI_sI, gL_sL, gI_sL, gL_sI, an_lt, an_le, an_eq, an_lt0, an_0le, an_0lt, an_le0, an_eq0, an_eq1, an_1lt, an_le1, an_1le, an_lt1, an_eqm, an_sub, an_sub1, an_div, an_rem, an_in, an_in0, an_in1, an_cl, an_cl0, an_cl1, nI_add, nI_1, an_1a, pk_mul, Nat.reduceMul, jz10, jz01, j00, j11, jb0, Classical.not_not, eq_self, an_ite, an_of, an_nm, nI_l, lN_add, lN_mul, lN_i, lj_2, lj_3, lj_4, lj_5, lj_6, lj_7, lj_8, lj_9, lj_10, lj_11, lj_12, lj_13, lj_14, lj_15, lj_16, lj_17, lj_18, lj_19, lj_20, lj_21, lj_22, lj_23, lj_24, lj_25, lj_26, lj_27, lj_28, lj_29, lj_30, lj_31, lj_32, lj_33, lj_34, lj_35, lj_36, lj_37, lj_38, lj_39, lj_40, lj_48, lj_50, lj_57, lj_59, lj_60, lj_63, lj_64, lj_65, lj_90, lj_96, lj_97, lj_99, lj_100, lj_101, lj_105, lj_112, lj_114, lj_116, lj_119, lj_122, lj_128, lj_200, lj_255, lj_256, lj_500, lj_777, lj_1000, jr_133_4 hWν, jr_133_5 hWν, jr_133_6 hWν, jr_133_7 hWν, jr_133_31 hWν, jr_133_32 hWν, jr_133_33 hWν, jr_133_34 hWν, jr_133_35 hWν, jr_133_36 hWν, jr_133_37 hWν, jr_133_38 hWν, jr_133_39 hWν, jr_133_40 hWν, jr_133_41 hWν, jr_133_42 hWν, jr_133_44 hWν, jr_133_45 hWν, jr_133_46 hWν, jr_133_47 hWν, jr_133_48 hWν, jr_133_49 hWν, jr_133_50 hWν, jr_133_51 hWν, jr_133_55 hWν, jr_133_56 hWν, jr_133_57 hWν, jr_133_58 hWν, jr_133_62 hWν, jr_133_65 hWν, jr_133_66 hWν, jr_133_67 hWν, jr_133_68 hWν, jr_133_69 hWν, jr_133_70 hWν, jr_133_71 hWν, jr_133_74 hWν, jr_133_75 hWν, hWν.1, jS0_133, jS0_134, jS0_135, jS0_136, jS0_137, jS0_138, jS0_139, jS0_140, jS0_141, jS0_142, jS0_143, jS0_144, jS0_145, jS0_146, jS0_147, jS0_148, jS0_149, jS0_150, jS0_151, jS0_152, jS0_153, jS0_154, jS0_155, jS0_156, jS0_157, jS0_158, jS0_159, jS0_160, jS0_161, jS0_162, jS0_163, jS0_164, jS0_165, jS0_166, jS0_167, jS0_168, jS0_169, jS0_170, jS0_171] | (refine br_c (fun _ => ?_) (fun _ => ?_) <;> try (exfalso; omega)) | (refine br_d (fun _ => ?_) (fun _ => ?_) <;> try (exfalso; omega)) | refine And.intro ?_ ?_ | (refine Nat.ne_of_gt ?_; omega))
      all_goals exact kk
end JRQ
