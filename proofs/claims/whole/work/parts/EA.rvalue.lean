/-! value: the reference finds the value -/
section JVA
variable {d L t : Nat} {μ : jMem} {Q : jQ} {W : Nat → Nat → Nat} {m n h p q i j k e b : Nat} {c β E z : Nat → Int} {vt vb : Int}
def vSt (W : Nat → Nat → Nat) (m n : Nat) (vt vb : Int) : Prop := 0 ≤ vb ∧ vb ≤ 80000 ∧ (0 < vb → 0 ≤ vt ∧ vt ≤ 100 * vb ∧ ∃ z, vF (wZ W) m n z ∧ vb * z 3 = vt * vS z)
/-- no point of these equations is worth less -/
def vGd (W : Nat → Nat → Nat) (m n : Nat) (E : Nat → Int) (vt vb : Int) : Prop := ∀ z, vF (wZ W) m n z → eqs m E z → cBot m E ≠ 0 → 0 < vb ∧ vt * vS z ≤ z 3 * vb
theorem vGd_mono {vt' vb' : Int} (h : vGd W m n E vt vb) (hm : 0 < vb → 0 < vb' ∧ vt' * vb ≤ vt * vb') : vGd W m n E vt' vb' := fun z hz he hb => by
  obtain ⟨p, le⟩ := h z hz he hb
  obtain ⟨p', le'⟩ := hm p
  refine ⟨p', ?_⟩
  have sz := hz.2.2
  refine Int.le_of_mul_le_mul_right (a := vb) ?_ p
  have a1 := Int.mul_le_mul_of_nonneg_right le' (Int.le_of_lt sz)
  have a2 := Int.mul_le_mul_of_nonneg_right le (Int.le_of_lt p')
  have e1 : vt' * vS z * vb = vt' * vb * vS z := by grind
  have e2 : vt * vb' * vS z = vt * vS z * vb' := by grind
  have e3 : z 3 * vb' * vb = z 3 * vb * vb' := by grind
  rw [e1, e3]
  rw [e2] at a1
  exact Int.le_trans a1 a2
/-- a corner with its worth is a point -/
theorem corner_F {v cb : Int} (m1 : 1 ≤ m) (hc : ∀ k, k < 3 → 0 ≤ c k) (cz : ∀ k, m ≤ k → k < 3 → c k = 0) (hs : c 0 + c 1 + c 2 = cb) (hcb : 0 < cb) (hv : ∀ j, j < n → vCol (wZ W) c j ≤ v) : vF (wZ W) m n (fun k => if k = 3 then v else c k) ∧ vS (fun k => if k = 3 then v else c k) = cb := by
  have s : vS (fun k => if k = 3 then v else c k) = cb := hs
  refine ⟨⟨fun i hi => ?_, fun k k1 k2 => ?_, by rw [s]; exact hcb⟩, s⟩
  · unfold vSl
    by_cases e : i < 3
    · rw [if_pos e]
      show 0 ≤ if i = 3 then v else c i
      rw [if_neg (by omega)]
      exact hc i e
    · rw [if_neg e]
      have := hv (i - 3) (by omega)
      unfold vCol at this
      show 0 ≤ v - (c 0 * wZ W 0 (i - 3) + c 1 * wZ W 1 (i - 3) + c 2 * wZ W 2 (i - 3))
      omega
  · show (if k = 3 then v else c k) = 0
    rw [if_neg (by omega)]
    exact cz k k1 k2
/-- a point's corner is worth no more than the point -/
theorem col_le {cb : Int} (hz : vF (wZ W) m n z) (pr : ∀ k, k < 3 → c k * vS z = z k * cb) (hcb : 0 < cb) (hj : j < n) : vCol (wZ W) c j * vS z ≤ z 3 * cb := by
  have a := (vF_Al hz).2 j hj
  have e : vCol (wZ W) c j * vS z = (z 0 * wZ W 0 j + z 1 * wZ W 1 j + z 2 * wZ W 2 j) * cb := by
    have p0 := pr 0 (by omega)
    have p1 := pr 1 (by omega)
    have p2 := pr 2 (by omega)
    unfold vCol
    generalize vS z = S at *
    generalize wZ W 0 j = w0 at *
    generalize wZ W 1 j = w1 at *
    generalize wZ W 2 j = w2 at *
    clear hz a pr
    generalize c 0 = x0 at *
    generalize c 1 = x1 at *
    generalize c 2 = x2 at *
    grind
  rw [e]
  exact Int.mul_le_mul_of_nonneg_right a (Int.le_of_lt hcb)
theorem ge_of_pr {a S zz cb : Int} (h : a * S = zz * cb) (hS : 0 < S) (hz : 0 ≤ zz) (hcb : 0 < cb) : 0 ≤ a := by
  have := Int.mul_nonneg hz (Int.le_of_lt hcb)
  exact Int.le_of_mul_le_mul_right (a := S) (by rw [Int.zero_mul, h]; exact this) hS
theorem col_100 (w100 : ∀ i j, W i j ≤ 100) (hc : ∀ k, k < 3 → 0 ≤ c k) : vCol (wZ W) c j ≤ 100 * (c 0 + c 1 + c 2) ∧ 0 ≤ vCol (wZ W) c j := by
  have t : ∀ k, k < 3 → c k * (W k j : Int) ≤ c k * 100 ∧ 0 ≤ c k * (W k j : Int) := fun k hk => ⟨Int.mul_le_mul_of_nonneg_left (by have := w100 k j; omega) (hc k hk), Int.mul_nonneg (hc k hk) (by omega)⟩
  have a := t 0 (by omega)
  have b := t 1 (by omega)
  have e := t 2 (by omega)
  unfold vCol wZ
  omega
theorem sM_valued (hW : jWd L t μ) (hV : gV W m n μ) (he : ∀ p, (m = 2 ∧ p < 3) ∨ (m = 3 ∧ p < 6) → gL μ 171 p = iL (E p)) (hB : -80000 ≤ cBot m E ∧ cBot m E ≤ 80000) (hX : -80000 ≤ cX m E ∧ cX m E ≤ 80000) (hY : -80000 ≤ cY m E ∧ cY m E ≤ 80000) (hs : gL μ 133 78 = iL vb) (ht : 0 < vb → gL μ 133 77 = iL vt) (hS : vSt W m n vt vb) (h : ∀ ν vt' vb', vFr μ ν → gL ν 133 78 = iL vb' → (0 < vb' → gL ν 133 77 = iL vt') → vSt W m n vt' vb' → (0 < vb → 0 < vb' ∧ vt' * vb ≤ vt * vb') → vGd W m n E vt' vb' → Q none ν) : jC (d + 3) 280 [.ref 133] μ Q := by
  obtain ⟨g72, g73⟩ := hV.1
  have w100 := hV.2.2.1
  have m1 := hV.2.2.2.2.1.1
  have m3 := hV.2.2.2.2.1.2
  have same : ∀ ν, vFr μ ν → (gL ν 133 77 = gL μ 133 77 ∧ gL ν 133 78 = gL μ 133 78) → vGd W m n E vt vb → Q none ν := fun ν F s g => h ν vt vb F (s.2.trans hs) (fun z => s.1.trans (ht z)) hS (fun z => ⟨z, Int.le_refl _⟩) g
  have ic : ∀ (d : Nat) (Q' : jQ), (cBot m E = 0 → Q' (some (.int 0)) μ) → (cBot m E ≠ 0 → ∀ ν, vFr μ ν → (∀ k, k < 3 → gL ν 170 k = iL (oC m E k)) → gL ν 133 76 = iL (oCB m E) → (gL ν 133 77 = gL μ 133 77 ∧ gL ν 133 78 = gL μ 133 78) → (∀ p, gL ν 171 p = gL μ 171 p) → Q' (some (.int (if 0 ≤ oC m E 0 ∧ 0 ≤ oC m E 1 ∧ 0 ≤ oC m E 2 then 1 else 0))) ν) → jC (d + 2) 278 [.ref 133] μ Q' := fun d Q' a b => sM_isCorner hW g72 m1 m3 he (by omega) (by omega) (by omega) a b
  refine e280 (b280_0 ?_)
  by_cases cb0 : cBot m E = 0
  · have kk := same μ vFr.rf ⟨rfl, rfl⟩ (fun z _ _ y => absurd cb0 y)
    have ic0 : ∀ (d : Nat) (Q' : jQ), Q' (some (.int 0)) μ → jC (d + 2) 278 [.ref 133] μ Q' := fun d Q' a => ic d Q' (fun _ => a) (fun y => absurd cb0 y)
    clear h ic same
    repeat' (first | refine ic0 _ _ ?_ | dsimp only [jb_e0, jb_ec, jb_n, jb_c, jx_op, j1i_c, j2i_c, j1l_c, j2l_c, jil_c, j1r_c, jri_c, jrii_c, jril_c, jrl_c, jrr_c, j2i'_c, jdup_i, jdup_r, jdup2_c, jdup2_l, jpo_c, jli, jll, jlr, jat_0, jat_s, jst, jst2, jkill_i, jkill_r, jkill_l, jkill_n, jnone, jgv_0, jgv_1, jgv_2, jgv_3, jrv_s, jput_0, jput_1, jput_2, jput_3, jpop_0, jpop_1, jcl_s, jc1, jc2, jvi, Nat.reduceAdd, jol_i, jol_l, jol_n, jap_n, jap_c, List.map_cons, List.map_nil, List.sum_cons, List.sum_nil, jcI, jcL, jcR, gI_sI, gI_sL, gI_sR, gL_sI, gL_sL, gL_sR, gR_sI, gR_sL, gR_sR, gS_sI, gS_sL, gS_sR, gN_sI, gN_sL, gN_sR] | simp (disch := omega) only [Nat.zero_le, true_and, and_true, and_self, Nat.reduceLeDiff, true_or, or_true, false_or, or_false, Nat.reduceEqDiff, false_and, and_false, if_false, if_true, reduceIte, not_true_eq_false, not_false_eq_true, true_imp_iff, false_imp_iff, List.map_cons, List.map_nil, List.sum_cons, List.sum_nil, jcI, jcL, jcR, Nat.reduceAdd, jrv_s, j1r_c, jap_n, jap_c, gI_sI, gL_sL, gI_sL, gL_sI, an_lt, an_le, an_eq, an_lt0, an_0le, an_0lt, an_le0, an_eq0, an_eq1, an_1lt, an_le1, an_1le, an_lt1, an_eqm, an_sub, an_sub1, an_div, an_rem, an_in, an_in0, an_in1, an_cl, an_cl0, an_cl1, nI_add, nI_1, an_1a, pk_mul, Nat.reduceMul, jz10, jz01, j00, j11, jb0, Classical.not_not, eq_self, an_ite, an_of, an_nm, nI_l, lN_add, lN_mul, lN_i, lj_2, lj_3, lj_4, lj_5, lj_6, lj_7, lj_8, lj_9, lj_10, lj_11, lj_12, lj_13, lj_14, lj_15, lj_16, lj_17, lj_18, lj_19, lj_20, lj_21, lj_22, lj_23, lj_24, lj_25, lj_26, lj_27, lj_28, lj_29, lj_30, lj_31, lj_32, lj_33, lj_34, lj_35, lj_36, lj_37, lj_38, lj_39, lj_40, lj_48, lj_50, lj_57, lj_59, lj_60, lj_63, lj_64, lj_65, lj_90, lj_96, lj_97, lj_99, lj_100, lj_101, lj_105, lj_112, lj_114, lj_116, lj_119, lj_122, lj_128, lj_200, lj_255, lj_256, lj_500, lj_777, lj_1000, jr_133_4 hW, jr_133_5 hW, jr_133_6 hW, jr_133_7 hW, jr_133_31 hW, jr_133_32 hW, jr_133_33 hW, jr_133_34 hW, jr_133_35 hW, jr_133_36 hW, jr_133_37 hW, jr_133_38 hW, jr_133_39 hW, jr_133_40 hW, jr_133_41 hW, jr_133_42 hW, jr_133_44 hW, jr_133_45 hW, jr_133_46 hW, jr_133_47 hW, jr_133_48 hW, jr_133_49 hW, jr_133_50 hW, jr_133_51 hW, jr_133_55 hW, jr_133_56 hW, jr_133_57 hW, jr_133_58 hW, jr_133_62 hW, jr_133_65 hW, jr_133_66 hW, jr_133_67 hW, jr_133_68 hW, jr_133_69 hW, jr_133_70 hW, jr_133_71 hW, jr_133_74 hW, jr_133_75 hW, hW.1, jS0_133, jS0_134, jS0_135, jS0_136, jS0_137, jS0_138, jS0_139, jS0_140, jS0_141, jS0_142, jS0_143, jS0_144, jS0_145, jS0_146, jS0_147, jS0_148, jS0_149, jS0_150, jS0_151, jS0_152, jS0_153, jS0_154, jS0_155, jS0_156, jS0_157, jS0_158, jS0_159, jS0_160, jS0_161, jS0_162, jS0_163, jS0_164, jS0_165, jS0_166, jS0_167, jS0_168, jS0_169, jS0_170, jS0_171] | (refine br_c (fun _ => ?_) (fun _ => ?_) <;> try (exfalso; omega)) | (refine br_d (fun _ => ?_) (fun _ => ?_) <;> try (exfalso; omega)) | refine And.intro ?_ ?_ | (refine Nat.ne_of_gt ?_; omega))
    all_goals exact kk
  obtain ⟨sm, zr⟩ := oC_sum (E := E) m1 m3
  have cbp := oCB_pos cb0
  have cble : oCB m E ≤ 80000 := oCB_le (f := 1) cb0 (by omega) (Nat.one_dvd _) (Nat.one_dvd _) (Nat.one_dvd _) (by omega) (by omega)
  have pr : ∀ z, vF (wZ W) m n z → eqs m E z → ∀ k, k < 3 → oC m E k * vS z = z k * oCB m E := fun z hz hq => oC_pr m1 m3 cb0 hz.2.1 hq
  by_cases ok : 0 ≤ oC m E 0 ∧ 0 ≤ oC m E 1 ∧ 0 ≤ oC m E 2
  case neg =>
    have kk := fun ν F s => same ν F s (fun z hz hq hb => by
      have p := pr z hz hq
      have g := fun k hk => ge_of_pr (p k hk) hz.2.2 ((vF_Al hz).1 k hk) cbp
      exact absurd ⟨g 0 (by omega), g 1 (by omega), g 2 (by omega)⟩ ok)
    have ic0 : ∀ (d : Nat) (Q' : jQ), (∀ ν, vFr μ ν → (gL ν 133 77 = gL μ 133 77 ∧ gL ν 133 78 = gL μ 133 78) → Q' (some (.int 0)) ν) → jC (d + 2) 278 [.ref 133] μ Q' := fun d Q' a => ic d Q' (fun y => absurd y cb0) (fun _ ν F _ _ s _ => by
      rw [if_neg ok]
      exact a ν F s)
    clear h ic same
    repeat' (first | refine ic0 _ _ (fun ν F s => jh_i ?_) | dsimp only [jb_e0, jb_ec, jb_n, jb_c, jx_op, j1i_c, j2i_c, j1l_c, j2l_c, jil_c, j1r_c, jri_c, jrii_c, jril_c, jrl_c, jrr_c, j2i'_c, jdup_i, jdup_r, jdup2_c, jdup2_l, jpo_c, jli, jll, jlr, jat_0, jat_s, jst, jst2, jkill_i, jkill_r, jkill_l, jkill_n, jnone, jgv_0, jgv_1, jgv_2, jgv_3, jrv_s, jput_0, jput_1, jput_2, jput_3, jpop_0, jpop_1, jcl_s, jc1, jc2, jvi, Nat.reduceAdd, jol_i, jol_l, jol_n, jap_n, jap_c, List.map_cons, List.map_nil, List.sum_cons, List.sum_nil, jcI, jcL, jcR, gI_sI, gI_sL, gI_sR, gL_sI, gL_sL, gL_sR, gR_sI, gR_sL, gR_sR, gS_sI, gS_sL, gS_sR, gN_sI, gN_sL, gN_sR] | simp (disch := omega) only [Nat.zero_le, true_and, and_true, and_self, Nat.reduceLeDiff, true_or, or_true, false_or, or_false, Nat.reduceEqDiff, false_and, and_false, if_false, if_true, reduceIte, not_true_eq_false, not_false_eq_true, true_imp_iff, false_imp_iff, List.map_cons, List.map_nil, List.sum_cons, List.sum_nil, jcI, jcL, jcR, Nat.reduceAdd, jrv_s, j1r_c, jap_n, jap_c, gI_sI, gL_sL, gI_sL, gL_sI, an_lt, an_le, an_eq, an_lt0, an_0le, an_0lt, an_le0, an_eq0, an_eq1, an_1lt, an_le1, an_1le, an_lt1, an_eqm, an_sub, an_sub1, an_div, an_rem, an_in, an_in0, an_in1, an_cl, an_cl0, an_cl1, nI_add, nI_1, an_1a, pk_mul, Nat.reduceMul, jz10, jz01, j00, j11, jb0, Classical.not_not, eq_self, an_ite, an_of, an_nm, nI_l, lN_add, lN_mul, lN_i, lj_2, lj_3, lj_4, lj_5, lj_6, lj_7, lj_8, lj_9, lj_10, lj_11, lj_12, lj_13, lj_14, lj_15, lj_16, lj_17, lj_18, lj_19, lj_20, lj_21, lj_22, lj_23, lj_24, lj_25, lj_26, lj_27, lj_28, lj_29, lj_30, lj_31, lj_32, lj_33, lj_34, lj_35, lj_36, lj_37, lj_38, lj_39, lj_40, lj_48, lj_50, lj_57, lj_59, lj_60, lj_63, lj_64, lj_65, lj_90, lj_96, lj_97, lj_99, lj_100, lj_101, lj_105, lj_112, lj_114, lj_116, lj_119, lj_122, lj_128, lj_200, lj_255, lj_256, lj_500, lj_777, lj_1000, jr_133_4 hW, jr_133_5 hW, jr_133_6 hW, jr_133_7 hW, jr_133_31 hW, jr_133_32 hW, jr_133_33 hW, jr_133_34 hW, jr_133_35 hW, jr_133_36 hW, jr_133_37 hW, jr_133_38 hW, jr_133_39 hW, jr_133_40 hW, jr_133_41 hW, jr_133_42 hW, jr_133_44 hW, jr_133_45 hW, jr_133_46 hW, jr_133_47 hW, jr_133_48 hW, jr_133_49 hW, jr_133_50 hW, jr_133_51 hW, jr_133_55 hW, jr_133_56 hW, jr_133_57 hW, jr_133_58 hW, jr_133_62 hW, jr_133_65 hW, jr_133_66 hW, jr_133_67 hW, jr_133_68 hW, jr_133_69 hW, jr_133_70 hW, jr_133_71 hW, jr_133_74 hW, jr_133_75 hW, hW.1, jS0_133, jS0_134, jS0_135, jS0_136, jS0_137, jS0_138, jS0_139, jS0_140, jS0_141, jS0_142, jS0_143, jS0_144, jS0_145, jS0_146, jS0_147, jS0_148, jS0_149, jS0_150, jS0_151, jS0_152, jS0_153, jS0_154, jS0_155, jS0_156, jS0_157, jS0_158, jS0_159, jS0_160, jS0_161, jS0_162, jS0_163, jS0_164, jS0_165, jS0_166, jS0_167, jS0_168, jS0_169, jS0_170, jS0_171] | (refine br_c (fun _ => ?_) (fun _ => ?_) <;> try (exfalso; omega)) | (refine br_d (fun _ => ?_) (fun _ => ?_) <;> try (exfalso; omega)) | refine And.intro ?_ ?_ | (refine Nat.ne_of_gt ?_; omega))
    refine jh_o ?_
    have k9 := kk ν F s
    repeat' (first | dsimp only [jb_e0, jb_ec, jb_n, jb_c, jx_op, j1i_c, j2i_c, j1l_c, j2l_c, jil_c, j1r_c, jri_c, jrii_c, jril_c, jrl_c, jrr_c, j2i'_c, jdup_i, jdup_r, jdup2_c, jdup2_l, jpo_c, jli, jll, jlr, jat_0, jat_s, jst, jst2, jkill_i, jkill_r, jkill_l, jkill_n, jnone, jgv_0, jgv_1, jgv_2, jgv_3, jrv_s, jput_0, jput_1, jput_2, jput_3, jpop_0, jpop_1, jcl_s, jc1, jc2, jvi, Nat.reduceAdd, jol_i, jol_l, jol_n, jap_n, jap_c, List.map_cons, List.map_nil, List.sum_cons, List.sum_nil, jcI, jcL, jcR, gI_sI, gI_sL, gI_sR, gL_sI, gL_sL, gL_sR, gR_sI, gR_sL, gR_sR, gS_sI, gS_sL, gS_sR, gN_sI, gN_sL, gN_sR] | simp (disch := omega) only [Nat.zero_le, true_and, and_true, and_self, Nat.reduceLeDiff, true_or, or_true, false_or, or_false, Nat.reduceEqDiff, false_and, and_false, if_false, if_true, reduceIte, not_true_eq_false, not_false_eq_true, true_imp_iff, false_imp_iff, List.map_cons, List.map_nil, List.sum_cons, List.sum_nil, jcI, jcL, jcR, Nat.reduceAdd, jrv_s, j1r_c, jap_n, jap_c, gI_sI, gL_sL, gI_sL, gL_sI, an_lt, an_le, an_eq, an_lt0, an_0le, an_0lt, an_le0, an_eq0, an_eq1, an_1lt, an_le1, an_1le, an_lt1, an_eqm, an_sub, an_sub1, an_div, an_rem, an_in, an_in0, an_in1, an_cl, an_cl0, an_cl1, nI_add, nI_1, an_1a, pk_mul, Nat.reduceMul, jz10, jz01, j00, j11, jb0, Classical.not_not, eq_self, an_ite, an_of, an_nm, nI_l, lN_add, lN_mul, lN_i, lj_2, lj_3, lj_4, lj_5, lj_6, lj_7, lj_8, lj_9, lj_10, lj_11, lj_12, lj_13, lj_14, lj_15, lj_16, lj_17, lj_18, lj_19, lj_20, lj_21, lj_22, lj_23, lj_24, lj_25, lj_26, lj_27, lj_28, lj_29, lj_30, lj_31, lj_32, lj_33, lj_34, lj_35, lj_36, lj_37, lj_38, lj_39, lj_40, lj_48, lj_50, lj_57, lj_59, lj_60, lj_63, lj_64, lj_65, lj_90, lj_96, lj_97, lj_99, lj_100, lj_101, lj_105, lj_112, lj_114, lj_116, lj_119, lj_122, lj_128, lj_200, lj_255, lj_256, lj_500, lj_777, lj_1000] | (refine br_c (fun _ => ?_) (fun _ => ?_) <;> try (exfalso; omega)) | (refine br_d (fun _ => ?_) (fun _ => ?_) <;> try (exfalso; omega)) | refine And.intro ?_ ?_ | (refine Nat.ne_of_gt ?_; omega))
    all_goals exact k9
  have ic1 : ∀ (d : Nat) (Q' : jQ), (∀ ν, vFr μ ν → (∀ k, k < 3 → gL ν 170 k = iL (oC m E k)) → gL ν 133 76 = iL (oCB m E) → (gL ν 133 77 = gL μ 133 77 ∧ gL ν 133 78 = gL μ 133 78) → Q' (some (.int 1)) ν) → jC (d + 2) 278 [.ref 133] μ Q' := fun d Q' a => ic d Q' (fun y => absurd y cb0) (fun _ ν F x y s _ => by
    rw [if_pos ok]
    exact a ν F x y s)
  clear ic
  repeat' (first | refine b280_8 ?_ | refine ic1 _ _ (fun ν F x76 y76 s => jh_i ?_) | dsimp only [jb_e0, jb_ec, jb_n, jb_c, jx_op, j1i_c, j2i_c, j1l_c, j2l_c, jil_c, j1r_c, jri_c, jrii_c, jril_c, jrl_c, jrr_c, j2i'_c, jdup_i, jdup_r, jdup2_c, jdup2_l, jpo_c, jli, jll, jlr, jat_0, jat_s, jst, jst2, jkill_i, jkill_r, jkill_l, jkill_n, jnone, jgv_0, jgv_1, jgv_2, jgv_3, jrv_s, jput_0, jput_1, jput_2, jput_3, jpop_0, jpop_1, jcl_s, jc1, jc2, jvi, Nat.reduceAdd, jol_i, jol_l, jol_n, jap_n, jap_c, List.map_cons, List.map_nil, List.sum_cons, List.sum_nil, jcI, jcL, jcR, gI_sI, gI_sL, gI_sR, gL_sI, gL_sL, gL_sR, gR_sI, gR_sL, gR_sR, gS_sI, gS_sL, gS_sR, gN_sI, gN_sL, gN_sR] | simp (disch := omega) only [Nat.zero_le, true_and, and_true, and_self, Nat.reduceLeDiff, true_or, or_true, false_or, or_false, Nat.reduceEqDiff, false_and, and_false, if_false, if_true, reduceIte, not_true_eq_false, not_false_eq_true, true_imp_iff, false_imp_iff, List.map_cons, List.map_nil, List.sum_cons, List.sum_nil, jcI, jcL, jcR, Nat.reduceAdd, jrv_s, j1r_c, jap_n, jap_c, gI_sI, gL_sL, gI_sL, gL_sI, an_lt, an_le, an_eq, an_lt0, an_0le, an_0lt, an_le0, an_eq0, an_eq1, an_1lt, an_le1, an_1le, an_lt1, an_eqm, an_sub, an_sub1, an_div, an_rem, an_in, an_in0, an_in1, an_cl, an_cl0, an_cl1, nI_add, nI_1, an_1a, pk_mul, Nat.reduceMul, jz10, jz01, j00, j11, jb0, Classical.not_not, eq_self, an_ite, an_of, an_nm, nI_l, lN_add, lN_mul, lN_i, lj_2, lj_3, lj_4, lj_5, lj_6, lj_7, lj_8, lj_9, lj_10, lj_11, lj_12, lj_13, lj_14, lj_15, lj_16, lj_17, lj_18, lj_19, lj_20, lj_21, lj_22, lj_23, lj_24, lj_25, lj_26, lj_27, lj_28, lj_29, lj_30, lj_31, lj_32, lj_33, lj_34, lj_35, lj_36, lj_37, lj_38, lj_39, lj_40, lj_48, lj_50, lj_57, lj_59, lj_60, lj_63, lj_64, lj_65, lj_90, lj_96, lj_97, lj_99, lj_100, lj_101, lj_105, lj_112, lj_114, lj_116, lj_119, lj_122, lj_128, lj_200, lj_255, lj_256, lj_500, lj_777, lj_1000, jr_133_4 hW, jr_133_5 hW, jr_133_6 hW, jr_133_7 hW, jr_133_31 hW, jr_133_32 hW, jr_133_33 hW, jr_133_34 hW, jr_133_35 hW, jr_133_36 hW, jr_133_37 hW, jr_133_38 hW, jr_133_39 hW, jr_133_40 hW, jr_133_41 hW, jr_133_42 hW, jr_133_44 hW, jr_133_45 hW, jr_133_46 hW, jr_133_47 hW, jr_133_48 hW, jr_133_49 hW, jr_133_50 hW, jr_133_51 hW, jr_133_55 hW, jr_133_56 hW, jr_133_57 hW, jr_133_58 hW, jr_133_62 hW, jr_133_65 hW, jr_133_66 hW, jr_133_67 hW, jr_133_68 hW, jr_133_69 hW, jr_133_70 hW, jr_133_71 hW, jr_133_74 hW, jr_133_75 hW, hW.1, jS0_133, jS0_134, jS0_135, jS0_136, jS0_137, jS0_138, jS0_139, jS0_140, jS0_141, jS0_142, jS0_143, jS0_144, jS0_145, jS0_146, jS0_147, jS0_148, jS0_149, jS0_150, jS0_151, jS0_152, jS0_153, jS0_154, jS0_155, jS0_156, jS0_157, jS0_158, jS0_159, jS0_160, jS0_161, jS0_162, jS0_163, jS0_164, jS0_165, jS0_166, jS0_167, jS0_168, jS0_169, jS0_170, jS0_171] | (refine br_c (fun _ => ?_) (fun _ => ?_) <;> try (exfalso; omega)) | (refine br_d (fun _ => ?_) (fun _ => ?_) <;> try (exfalso; omega)) | refine And.intro ?_ ?_ | (refine Nat.ne_of_gt ?_; omega))
  refine jh_o ?_
  have hWν := F.wd hW
  have hVν := hV.fr F
  have oge : ∀ k, k < 3 → 0 ≤ oC m E k := fun k hk => by
    rcases (show k = 0 ∨ k = 1 ∨ k = 2 by omega) with rfl | rfl | rfl
    · exact ok.1
    · exact ok.2.1
    · exact ok.2.2
  have ole : ∀ k, k < 3 → oC m E k ≤ 80000 := fun k hk => by
    rcases (show k = 0 ∨ k = 1 ∨ k = 2 by omega) with rfl | rfl | rfl <;> omega
  have mo : ∀ (d : Nat) (Q' : jQ), (∀ v : Int, (∀ j, j < n → vCol (wZ W) (oC m E) j ≤ v) → (∃ j, j < n ∧ vCol (wZ W) (oC m E) j = v) → Q' (some (.long (iL v))) ν) → jC (d + 1) 279 [.ref 133] ν Q' := fun d Q' a => sM_mostOf hWν hVν x76 (fun k hk => ⟨oge k hk, by have := ole k hk; omega⟩) zr a
  refine b280_8 ?_
  repeat' (first | refine mo _ _ (fun v v1 v2 => jh_i ?_) | dsimp only [jb_e0, jb_ec, jb_n, jb_c, jx_op, j1i_c, j2i_c, j1l_c, j2l_c, jil_c, j1r_c, jri_c, jrii_c, jril_c, jrl_c, jrr_c, j2i'_c, jdup_i, jdup_r, jdup2_c, jdup2_l, jpo_c, jli, jll, jlr, jat_0, jat_s, jst, jst2, jkill_i, jkill_r, jkill_l, jkill_n, jnone, jgv_0, jgv_1, jgv_2, jgv_3, jrv_s, jput_0, jput_1, jput_2, jput_3, jpop_0, jpop_1, jcl_s, jc1, jc2, jvi, Nat.reduceAdd, jol_i, jol_l, jol_n, jap_n, jap_c, List.map_cons, List.map_nil, List.sum_cons, List.sum_nil, jcI, jcL, jcR, gI_sI, gI_sL, gI_sR, gL_sI, gL_sL, gL_sR, gR_sI, gR_sL, gR_sR, gS_sI, gS_sL, gS_sR, gN_sI, gN_sL, gN_sR] | simp (disch := omega) only [Nat.zero_le, true_and, and_true, and_self, Nat.reduceLeDiff, true_or, or_true, false_or, or_false, Nat.reduceEqDiff, false_and, and_false, if_false, if_true, reduceIte, not_true_eq_false, not_false_eq_true, true_imp_iff, false_imp_iff, List.map_cons, List.map_nil, List.sum_cons, List.sum_nil, jcI, jcL, jcR, Nat.reduceAdd, jrv_s, j1r_c, jap_n, jap_c, gI_sI, gL_sL, gI_sL, gL_sI, an_lt, an_le, an_eq, an_lt0, an_0le, an_0lt, an_le0, an_eq0, an_eq1, an_1lt, an_le1, an_1le, an_lt1, an_eqm, an_sub, an_sub1, an_div, an_rem, an_in, an_in0, an_in1, an_cl, an_cl0, an_cl1, nI_add, nI_1, an_1a, pk_mul, Nat.reduceMul, jz10, jz01, j00, j11, jb0, Classical.not_not, eq_self, an_ite, an_of, an_nm, nI_l, lN_add, lN_mul, lN_i, lj_2, lj_3, lj_4, lj_5, lj_6, lj_7, lj_8, lj_9, lj_10, lj_11, lj_12, lj_13, lj_14, lj_15, lj_16, lj_17, lj_18, lj_19, lj_20, lj_21, lj_22, lj_23, lj_24, lj_25, lj_26, lj_27, lj_28, lj_29, lj_30, lj_31, lj_32, lj_33, lj_34, lj_35, lj_36, lj_37, lj_38, lj_39, lj_40, lj_48, lj_50, lj_57, lj_59, lj_60, lj_63, lj_64, lj_65, lj_90, lj_96, lj_97, lj_99, lj_100, lj_101, lj_105, lj_112, lj_114, lj_116, lj_119, lj_122, lj_128, lj_200, lj_255, lj_256, lj_500, lj_777, lj_1000, jr_133_4 hWν, jr_133_5 hWν, jr_133_6 hWν, jr_133_7 hWν, jr_133_31 hWν, jr_133_32 hWν, jr_133_33 hWν, jr_133_34 hWν, jr_133_35 hWν, jr_133_36 hWν, jr_133_37 hWν, jr_133_38 hWν, jr_133_39 hWν, jr_133_40 hWν, jr_133_41 hWν, jr_133_42 hWν, jr_133_44 hWν, jr_133_45 hWν, jr_133_46 hWν, jr_133_47 hWν, jr_133_48 hWν, jr_133_49 hWν, jr_133_50 hWν, jr_133_51 hWν, jr_133_55 hWν, jr_133_56 hWν, jr_133_57 hWν, jr_133_58 hWν, jr_133_62 hWν, jr_133_65 hWν, jr_133_66 hWν, jr_133_67 hWν, jr_133_68 hWν, jr_133_69 hWν, jr_133_70 hWν, jr_133_71 hWν, jr_133_74 hWν, jr_133_75 hWν, hWν.1, jS0_133, jS0_134, jS0_135, jS0_136, jS0_137, jS0_138, jS0_139, jS0_140, jS0_141, jS0_142, jS0_143, jS0_144, jS0_145, jS0_146, jS0_147, jS0_148, jS0_149, jS0_150, jS0_151, jS0_152, jS0_153, jS0_154, jS0_155, jS0_156, jS0_157, jS0_158, jS0_159, jS0_160, jS0_161, jS0_162, jS0_163, jS0_164, jS0_165, jS0_166, jS0_167, jS0_168, jS0_169, jS0_170, jS0_171] | (refine br_c (fun _ => ?_) (fun _ => ?_) <;> try (exfalso; omega)) | (refine br_d (fun _ => ?_) (fun _ => ?_) <;> try (exfalso; omega)) | refine And.intro ?_ ?_ | (refine Nat.ne_of_gt ?_; omega))
  refine jh_o ?_
  obtain ⟨jv, jn, vj⟩ := v2
  have vb100 := col_100 (j := jv) w100 oge
  rw [vj, sm] at vb100
  have s78 := s.2.trans hs
  obtain ⟨sv0, sv1, sv2⟩ := id hS
  have zle : ∀ z, vF (wZ W) m n z → eqs m E z → v * vS z ≤ z 3 * oCB m E := fun z hz hq => by
    rw [← vj]
    exact col_le hz (pr z hz hq) cbp jn
  have pb : 0 ≤ v * vb ∧ v * vb ≤ 640000000000 := ⟨Int.mul_nonneg vb100.2 sv0, by
    have := (vbd (a := v) (b := vb) (A := 8000000) (B := 80000) (by omega) (by omega) (by omega) (by omega)).2
    omega⟩
  have upd : (0 < vb → v * vb < vt * oCB m E) → jR (d + 3) 280 42 [some (.ref 133), some (.long (iL v)), none, none, none] [] (0, 0) ν Q := fun lt => by
    have g0 : 0 < Nat.gcd v.natAbs (oCB m E).natAbs := Nat.gcd_pos_of_pos_right _ (by omega)
    have gle : Nat.gcd v.natAbs (oCB m E).natAbs ≤ (oCB m E).natAbs := Nat.le_of_dvd (by omega) (Nat.gcd_dvd_right _ _)
    have ev := tdiv_ex (a := v) (Nat.gcd_dvd_left v.natAbs (oCB m E).natAbs)
    have ec := tdiv_ex (a := oCB m E) (Nat.gcd_dvd_right v.natAbs (oCB m E).natAbs)
    have cm : ∀ (d : Nat) (Q' : jQ), Q' (some (.long (lN (Nat.gcd v.natAbs (oCB m E).natAbs)))) ν → jC (d + 1) 191 [.long (iL v), .long (iL (oCB m E))] ν Q' := fun d Q' a => sM_commonI (by omega) (by omega) (by omega) (by omega) a
    generalize Nat.gcd v.natAbs (oCB m E).natAbs = g at *
    have dv := iL_div (a := v) (g := g) (by omega) (by omega) (by omega)
    have dc := iL_div (a := oCB m E) (g := g) (by omega) (by omega) (by omega)
    have gi : (0 : Int) < (g : Int) := by omega
    have gne : (lN g = 0) = False := eq_false (fun z => by
      have : lN g = lN 0 := z
      rw [al_eq (by omega) (by omega)] at this
      omega)
    have cF := corner_F (W := W) (n := n) (v := v) m1 oge zr sm cbp v1
    have bpos : 0 < (oCB m E).tdiv g := by
      have : 0 < (g : Int) * (oCB m E).tdiv g := by
        rw [← ec]
        exact cbp
      exact (vpos gi).mp this
    have ble : (oCB m E).tdiv g ≤ oCB m E := by
      have : 1 * (oCB m E).tdiv g ≤ (g : Int) * (oCB m E).tdiv g := Int.mul_le_mul_of_nonneg_right (by omega) (by omega)
      rw [← ec] at this
      omega
    have kk := h (sL (sL ν 133 77 (iL (v.tdiv g))) 133 78 (iL ((oCB m E).tdiv g))) (v.tdiv g) ((oCB m E).tdiv g) ((F.sL (by omega)).sL (by omega)) rfl (fun _ => rfl) ⟨by omega, by omega, fun _ => ⟨?_, ?_, _, cF.1, ?_⟩⟩ (fun vbp => ⟨bpos, ?_⟩) (fun z hz hq _ => ⟨bpos, ?_⟩)
    · clear h same
      refine b280_42 ?_
      repeat' (first | refine b280_8 ?_ | refine cm _ _ ?_ | dsimp only [jb_e0, jb_ec, jb_n, jb_c, jx_op, j1i_c, j2i_c, j1l_c, j2l_c, jil_c, j1r_c, jri_c, jrii_c, jril_c, jrl_c, jrr_c, j2i'_c, jdup_i, jdup_r, jdup2_c, jdup2_l, jpo_c, jli, jll, jlr, jat_0, jat_s, jst, jst2, jkill_i, jkill_r, jkill_l, jkill_n, jnone, jgv_0, jgv_1, jgv_2, jgv_3, jrv_s, jput_0, jput_1, jput_2, jput_3, jpop_0, jpop_1, jcl_s, jc1, jc2, jvi, Nat.reduceAdd, jol_i, jol_l, jol_n, jap_n, jap_c, List.map_cons, List.map_nil, List.sum_cons, List.sum_nil, jcI, jcL, jcR, gI_sI, gI_sL, gI_sR, gL_sI, gL_sL, gL_sR, gR_sI, gR_sL, gR_sR, gS_sI, gS_sL, gS_sR, gN_sI, gN_sL, gN_sR] | simp (disch := omega) only [Nat.zero_le, true_and, and_true, and_self, Nat.reduceLeDiff, true_or, or_true, false_or, or_false, Nat.reduceEqDiff, false_and, and_false, if_false, if_true, reduceIte, not_true_eq_false, not_false_eq_true, true_imp_iff, false_imp_iff, List.map_cons, List.map_nil, List.sum_cons, List.sum_nil, jcI, jcL, jcR, Nat.reduceAdd, jrv_s, j1r_c, jap_n, jap_c, gI_sI, gL_sL, gI_sL, gL_sI, an_lt, an_le, an_eq, an_lt0, an_0le, an_0lt, an_le0, an_eq0, an_eq1, an_1lt, an_le1, an_1le, an_lt1, an_eqm, an_sub, an_sub1, an_div, an_rem, an_in, an_in0, an_in1, an_cl, an_cl0, an_cl1, nI_add, nI_1, an_1a, pk_mul, Nat.reduceMul, jz10, jz01, j00, j11, jb0, Classical.not_not, eq_self, an_ite, an_of, an_nm, nI_l, lN_add, lN_mul, lN_i, lj_2, lj_3, lj_4, lj_5, lj_6, lj_7, lj_8, lj_9, lj_10, lj_11, lj_12, lj_13, lj_14, lj_15, lj_16, lj_17, lj_18, lj_19, lj_20, lj_21, lj_22, lj_23, lj_24, lj_25, lj_26, lj_27, lj_28, lj_29, lj_30, lj_31, lj_32, lj_33, lj_34, lj_35, lj_36, lj_37, lj_38, lj_39, lj_40, lj_48, lj_50, lj_57, lj_59, lj_60, lj_63, lj_64, lj_65, lj_90, lj_96, lj_97, lj_99, lj_100, lj_101, lj_105, lj_112, lj_114, lj_116, lj_119, lj_122, lj_128, lj_200, lj_255, lj_256, lj_500, lj_777, lj_1000, jr_133_4 hWν, jr_133_5 hWν, jr_133_6 hWν, jr_133_7 hWν, jr_133_31 hWν, jr_133_32 hWν, jr_133_33 hWν, jr_133_34 hWν, jr_133_35 hWν, jr_133_36 hWν, jr_133_37 hWν, jr_133_38 hWν, jr_133_39 hWν, jr_133_40 hWν, jr_133_41 hWν, jr_133_42 hWν, jr_133_44 hWν, jr_133_45 hWν, jr_133_46 hWν, jr_133_47 hWν, jr_133_48 hWν, jr_133_49 hWν, jr_133_50 hWν, jr_133_51 hWν, jr_133_55 hWν, jr_133_56 hWν, jr_133_57 hWν, jr_133_58 hWν, jr_133_62 hWν, jr_133_65 hWν, jr_133_66 hWν, jr_133_67 hWν, jr_133_68 hWν, jr_133_69 hWν, jr_133_70 hWν, jr_133_71 hWν, jr_133_74 hWν, jr_133_75 hWν, hWν.1, jS0_133, jS0_134, jS0_135, jS0_136, jS0_137, jS0_138, jS0_139, jS0_140, jS0_141, jS0_142, jS0_143, jS0_144, jS0_145, jS0_146, jS0_147, jS0_148, jS0_149, jS0_150, jS0_151, jS0_152, jS0_153, jS0_154, jS0_155, jS0_156, jS0_157, jS0_158, jS0_159, jS0_160, jS0_161, jS0_162, jS0_163, jS0_164, jS0_165, jS0_166, jS0_167, jS0_168, jS0_169, jS0_170, jS0_171, jnone, y76, dv, dc, gne] | (refine br_c (fun _ => ?_) (fun _ => ?_) <;> try (exfalso; omega)) | (refine br_d (fun _ => ?_) (fun _ => ?_) <;> try (exfalso; omega)) | refine And.intro ?_ ?_ | (refine Nat.ne_of_gt ?_; omega))
      all_goals exact kk
    · have : (g : Int) * 0 ≤ (g : Int) * v.tdiv g := by
        rw [← ev, Int.mul_zero]
        exact vb100.2
      exact Int.le_of_mul_le_mul_left this gi
    · have : (g : Int) * v.tdiv g ≤ (g : Int) * (100 * (oCB m E).tdiv g) := by
        have e : (g : Int) * (100 * (oCB m E).tdiv g) = 100 * ((g : Int) * (oCB m E).tdiv g) := by grind
        rw [e, ← ev, ← ec]
        exact vb100.1
      exact Int.le_of_mul_le_mul_left this gi
    · rw [cF.2]
      show (oCB m E).tdiv g * v = v.tdiv g * oCB m E
      generalize v.tdiv g = v' at *
      generalize (oCB m E).tdiv g = c' at *
      rw [ev, ec]
      grind
    · have := lt vbp
      have l2 : (g : Int) * (v.tdiv g * vb) ≤ (g : Int) * (vt * (oCB m E).tdiv g) := by
        have e1 : (g : Int) * (v.tdiv g * vb) = (g : Int) * v.tdiv g * vb := by grind
        have e2 : (g : Int) * (vt * (oCB m E).tdiv g) = vt * ((g : Int) * (oCB m E).tdiv g) := by grind
        rw [e1, e2, ← ev, ← ec]
        omega
      exact Int.le_of_mul_le_mul_left l2 gi
    · have l2 : (g : Int) * (v.tdiv g * vS z) ≤ (g : Int) * (z 3 * (oCB m E).tdiv g) := by
        have e1 : (g : Int) * (v.tdiv g * vS z) = (g : Int) * v.tdiv g * vS z := by grind
        have e2 : (g : Int) * (z 3 * (oCB m E).tdiv g) = z 3 * ((g : Int) * (oCB m E).tdiv g) := by grind
        rw [e1, e2, ← ev, ← ec]
        exact zle z hz hq
      exact Int.le_of_mul_le_mul_left l2 gi
  have q78 : (iL vb ≤ 0) = (vb ≤ 0) := by
    rw [iL_0]
    exact iL_le (by omega) (by omega) (by omega) (by omega)
  by_cases vbz : vb ≤ 0
  · have kk := upd (fun z => by omega)
    have q78' := q78.trans (eq_true vbz)
    clear h same upd zle pr
    repeat' (first | refine b280_8 ?_ | dsimp only [jb_e0, jb_ec, jb_n, jb_c, jx_op, j1i_c, j2i_c, j1l_c, j2l_c, jil_c, j1r_c, jri_c, jrii_c, jril_c, jrl_c, jrr_c, j2i'_c, jdup_i, jdup_r, jdup2_c, jdup2_l, jpo_c, jli, jll, jlr, jat_0, jat_s, jst, jst2, jkill_i, jkill_r, jkill_l, jkill_n, jnone, jgv_0, jgv_1, jgv_2, jgv_3, jrv_s, jput_0, jput_1, jput_2, jput_3, jpop_0, jpop_1, jcl_s, jc1, jc2, jvi, Nat.reduceAdd, jol_i, jol_l, jol_n, jap_n, jap_c, List.map_cons, List.map_nil, List.sum_cons, List.sum_nil, jcI, jcL, jcR, gI_sI, gI_sL, gI_sR, gL_sI, gL_sL, gL_sR, gR_sI, gR_sL, gR_sR, gS_sI, gS_sL, gS_sR, gN_sI, gN_sL, gN_sR] | simp (disch := omega) only [Nat.zero_le, true_and, and_true, and_self, Nat.reduceLeDiff, true_or, or_true, false_or, or_false, Nat.reduceEqDiff, false_and, and_false, if_false, if_true, reduceIte, not_true_eq_false, not_false_eq_true, true_imp_iff, false_imp_iff, List.map_cons, List.map_nil, List.sum_cons, List.sum_nil, jcI, jcL, jcR, Nat.reduceAdd, jrv_s, j1r_c, jap_n, jap_c, gI_sI, gL_sL, gI_sL, gL_sI, an_lt, an_le, an_eq, an_lt0, an_0le, an_0lt, an_le0, an_eq0, an_eq1, an_1lt, an_le1, an_1le, an_lt1, an_eqm, an_sub, an_sub1, an_div, an_rem, an_in, an_in0, an_in1, an_cl, an_cl0, an_cl1, nI_add, nI_1, an_1a, pk_mul, Nat.reduceMul, jz10, jz01, j00, j11, jb0, Classical.not_not, eq_self, an_ite, an_of, an_nm, nI_l, lN_add, lN_mul, lN_i, lj_2, lj_3, lj_4, lj_5, lj_6, lj_7, lj_8, lj_9, lj_10, lj_11, lj_12, lj_13, lj_14, lj_15, lj_16, lj_17, lj_18, lj_19, lj_20, lj_21, lj_22, lj_23, lj_24, lj_25, lj_26, lj_27, lj_28, lj_29, lj_30, lj_31, lj_32, lj_33, lj_34, lj_35, lj_36, lj_37, lj_38, lj_39, lj_40, lj_48, lj_50, lj_57, lj_59, lj_60, lj_63, lj_64, lj_65, lj_90, lj_96, lj_97, lj_99, lj_100, lj_101, lj_105, lj_112, lj_114, lj_116, lj_119, lj_122, lj_128, lj_200, lj_255, lj_256, lj_500, lj_777, lj_1000, jr_133_4 hWν, jr_133_5 hWν, jr_133_6 hWν, jr_133_7 hWν, jr_133_31 hWν, jr_133_32 hWν, jr_133_33 hWν, jr_133_34 hWν, jr_133_35 hWν, jr_133_36 hWν, jr_133_37 hWν, jr_133_38 hWν, jr_133_39 hWν, jr_133_40 hWν, jr_133_41 hWν, jr_133_42 hWν, jr_133_44 hWν, jr_133_45 hWν, jr_133_46 hWν, jr_133_47 hWν, jr_133_48 hWν, jr_133_49 hWν, jr_133_50 hWν, jr_133_51 hWν, jr_133_55 hWν, jr_133_56 hWν, jr_133_57 hWν, jr_133_58 hWν, jr_133_62 hWν, jr_133_65 hWν, jr_133_66 hWν, jr_133_67 hWν, jr_133_68 hWν, jr_133_69 hWν, jr_133_70 hWν, jr_133_71 hWν, jr_133_74 hWν, jr_133_75 hWν, hWν.1, jS0_133, jS0_134, jS0_135, jS0_136, jS0_137, jS0_138, jS0_139, jS0_140, jS0_141, jS0_142, jS0_143, jS0_144, jS0_145, jS0_146, jS0_147, jS0_148, jS0_149, jS0_150, jS0_151, jS0_152, jS0_153, jS0_154, jS0_155, jS0_156, jS0_157, jS0_158, jS0_159, jS0_160, jS0_161, jS0_162, jS0_163, jS0_164, jS0_165, jS0_166, jS0_167, jS0_168, jS0_169, jS0_170, jS0_171, jnone, s78, jlc_le, q78'] | (refine br_c (fun _ => ?_) (fun _ => ?_) <;> try (exfalso; omega)) | (refine br_d (fun _ => ?_) (fun _ => ?_) <;> try (exfalso; omega)) | refine And.intro ?_ ?_ | (refine Nat.ne_of_gt ?_; omega))
    all_goals exact kk
  · have q78' := q78.trans (eq_false vbz)
    have vbp : 0 < vb := by omega
    have s77 := s.1.trans (ht vbp)
    have vtb := sv2 vbp
    have pb2 : 0 ≤ vt * oCB m E ∧ vt * oCB m E ≤ 640000000000 := ⟨Int.mul_nonneg vtb.1 (Int.le_of_lt cbp), by
      have := (vbd (a := vt) (b := oCB m E) (A := 8000000) (B := 80000) (by omega) (by omega) (by omega) (by omega)).2
      omega⟩
    have qlt : (iL (v * vb) < iL (vt * oCB m E)) = (v * vb < vt * oCB m E) := iL_lt (by omega) (by omega) (by omega) (by omega)
    by_cases lt : v * vb < vt * oCB m E
    · have kk := upd (fun _ => lt)
      have qlt' := qlt.trans (eq_true lt)
      clear h same upd zle pr
      repeat' (first | refine b280_8 ?_ | dsimp only [jb_e0, jb_ec, jb_n, jb_c, jx_op, j1i_c, j2i_c, j1l_c, j2l_c, jil_c, j1r_c, jri_c, jrii_c, jril_c, jrl_c, jrr_c, j2i'_c, jdup_i, jdup_r, jdup2_c, jdup2_l, jpo_c, jli, jll, jlr, jat_0, jat_s, jst, jst2, jkill_i, jkill_r, jkill_l, jkill_n, jnone, jgv_0, jgv_1, jgv_2, jgv_3, jrv_s, jput_0, jput_1, jput_2, jput_3, jpop_0, jpop_1, jcl_s, jc1, jc2, jvi, Nat.reduceAdd, jol_i, jol_l, jol_n, jap_n, jap_c, List.map_cons, List.map_nil, List.sum_cons, List.sum_nil, jcI, jcL, jcR, gI_sI, gI_sL, gI_sR, gL_sI, gL_sL, gL_sR, gR_sI, gR_sL, gR_sR, gS_sI, gS_sL, gS_sR, gN_sI, gN_sL, gN_sR] | simp (disch := omega) only [Nat.zero_le, true_and, and_true, and_self, Nat.reduceLeDiff, true_or, or_true, false_or, or_false, Nat.reduceEqDiff, false_and, and_false, if_false, if_true, reduceIte, not_true_eq_false, not_false_eq_true, true_imp_iff, false_imp_iff, List.map_cons, List.map_nil, List.sum_cons, List.sum_nil, jcI, jcL, jcR, Nat.reduceAdd, jrv_s, j1r_c, jap_n, jap_c, gI_sI, gL_sL, gI_sL, gL_sI, an_lt, an_le, an_eq, an_lt0, an_0le, an_0lt, an_le0, an_eq0, an_eq1, an_1lt, an_le1, an_1le, an_lt1, an_eqm, an_sub, an_sub1, an_div, an_rem, an_in, an_in0, an_in1, an_cl, an_cl0, an_cl1, nI_add, nI_1, an_1a, pk_mul, Nat.reduceMul, jz10, jz01, j00, j11, jb0, Classical.not_not, eq_self, an_ite, an_of, an_nm, nI_l, lN_add, lN_mul, lN_i, lj_2, lj_3, lj_4, lj_5, lj_6, lj_7, lj_8, lj_9, lj_10, lj_11, lj_12, lj_13, lj_14, lj_15, lj_16, lj_17, lj_18, lj_19, lj_20, lj_21, lj_22, lj_23, lj_24, lj_25, lj_26, lj_27, lj_28, lj_29, lj_30, lj_31, lj_32, lj_33, lj_34, lj_35, lj_36, lj_37, lj_38, lj_39, lj_40, lj_48, lj_50, lj_57, lj_59, lj_60, lj_63, lj_64, lj_65, lj_90, lj_96, lj_97, lj_99, lj_100, lj_101, lj_105, lj_112, lj_114, lj_116, lj_119, lj_122, lj_128, lj_200, lj_255, lj_256, lj_500, lj_777, lj_1000, jr_133_4 hWν, jr_133_5 hWν, jr_133_6 hWν, jr_133_7 hWν, jr_133_31 hWν, jr_133_32 hWν, jr_133_33 hWν, jr_133_34 hWν, jr_133_35 hWν, jr_133_36 hWν, jr_133_37 hWν, jr_133_38 hWν, jr_133_39 hWν, jr_133_40 hWν, jr_133_41 hWν, jr_133_42 hWν, jr_133_44 hWν, jr_133_45 hWν, jr_133_46 hWν, jr_133_47 hWν, jr_133_48 hWν, jr_133_49 hWν, jr_133_50 hWν, jr_133_51 hWν, jr_133_55 hWν, jr_133_56 hWν, jr_133_57 hWν, jr_133_58 hWν, jr_133_62 hWν, jr_133_65 hWν, jr_133_66 hWν, jr_133_67 hWν, jr_133_68 hWν, jr_133_69 hWν, jr_133_70 hWν, jr_133_71 hWν, jr_133_74 hWν, jr_133_75 hWν, hWν.1, jS0_133, jS0_134, jS0_135, jS0_136, jS0_137, jS0_138, jS0_139, jS0_140, jS0_141, jS0_142, jS0_143, jS0_144, jS0_145, jS0_146, jS0_147, jS0_148, jS0_149, jS0_150, jS0_151, jS0_152, jS0_153, jS0_154, jS0_155, jS0_156, jS0_157, jS0_158, jS0_159, jS0_160, jS0_161, jS0_162, jS0_163, jS0_164, jS0_165, jS0_166, jS0_167, jS0_168, jS0_169, jS0_170, jS0_171, jnone, s78, s77, y76, jlc_le, jlc_lt, q78', qlt', iL_mul] | (refine br_c (fun _ => ?_) (fun _ => ?_) <;> try (exfalso; omega)) | (refine br_d (fun _ => ?_) (fun _ => ?_) <;> try (exfalso; omega)) | refine And.intro ?_ ?_ | (refine Nat.ne_of_gt ?_; omega))
      all_goals exact kk
    · have kk := same ν F s (fun z hz hq _ => ⟨vbp, by
        have a1 := Int.mul_le_mul_of_nonneg_right (Int.not_lt.mp lt) (Int.le_of_lt hz.2.2)
        have a2 := Int.mul_le_mul_of_nonneg_right (zle z hz hq) (Int.le_of_lt vbp)
        refine Int.le_of_mul_le_mul_right (a := oCB m E) ?_ cbp
        have e1 : vt * vS z * oCB m E = vt * oCB m E * vS z := by grind
        have e2 : v * vb * vS z = v * vS z * vb := by grind
        have e3 : z 3 * vb * oCB m E = z 3 * oCB m E * vb := by grind
        rw [e1, e3]
        rw [e2] at a1
        exact Int.le_trans a1 a2⟩)
      have qlt' := qlt.trans (eq_false lt)
      clear h same upd zle pr
      repeat' (first | refine b280_8 ?_ | dsimp only [jb_e0, jb_ec, jb_n, jb_c, jx_op, j1i_c, j2i_c, j1l_c, j2l_c, jil_c, j1r_c, jri_c, jrii_c, jril_c, jrl_c, jrr_c, j2i'_c, jdup_i, jdup_r, jdup2_c, jdup2_l, jpo_c, jli, jll, jlr, jat_0, jat_s, jst, jst2, jkill_i, jkill_r, jkill_l, jkill_n, jnone, jgv_0, jgv_1, jgv_2, jgv_3, jrv_s, jput_0, jput_1, jput_2, jput_3, jpop_0, jpop_1, jcl_s, jc1, jc2, jvi, Nat.reduceAdd, jol_i, jol_l, jol_n, jap_n, jap_c, List.map_cons, List.map_nil, List.sum_cons, List.sum_nil, jcI, jcL, jcR, gI_sI, gI_sL, gI_sR, gL_sI, gL_sL, gL_sR, gR_sI, gR_sL, gR_sR, gS_sI, gS_sL, gS_sR, gN_sI, gN_sL, gN_sR] | simp (disch := omega) only [Nat.zero_le, true_and, and_true, and_self, Nat.reduceLeDiff, true_or, or_true, false_or, or_false, Nat.reduceEqDiff, false_and, and_false, if_false, if_true, reduceIte, not_true_eq_false, not_false_eq_true, true_imp_iff, false_imp_iff, List.map_cons, List.map_nil, List.sum_cons, List.sum_nil, jcI, jcL, jcR, Nat.reduceAdd, jrv_s, j1r_c, jap_n, jap_c, gI_sI, gL_sL, gI_sL, gL_sI, an_lt, an_le, an_eq, an_lt0, an_0le, an_0lt, an_le0, an_eq0, an_eq1, an_1lt, an_le1, an_1le, an_lt1, an_eqm, an_sub, an_sub1, an_div, an_rem, an_in, an_in0, an_in1, an_cl, an_cl0, an_cl1, nI_add, nI_1, an_1a, pk_mul, Nat.reduceMul, jz10, jz01, j00, j11, jb0, Classical.not_not, eq_self, an_ite, an_of, an_nm, nI_l, lN_add, lN_mul, lN_i, lj_2, lj_3, lj_4, lj_5, lj_6, lj_7, lj_8, lj_9, lj_10, lj_11, lj_12, lj_13, lj_14, lj_15, lj_16, lj_17, lj_18, lj_19, lj_20, lj_21, lj_22, lj_23, lj_24, lj_25, lj_26, lj_27, lj_28, lj_29, lj_30, lj_31, lj_32, lj_33, lj_34, lj_35, lj_36, lj_37, lj_38, lj_39, lj_40, lj_48, lj_50, lj_57, lj_59, lj_60, lj_63, lj_64, lj_65, lj_90, lj_96, lj_97, lj_99, lj_100, lj_101, lj_105, lj_112, lj_114, lj_116, lj_119, lj_122, lj_128, lj_200, lj_255, lj_256, lj_500, lj_777, lj_1000, jr_133_4 hWν, jr_133_5 hWν, jr_133_6 hWν, jr_133_7 hWν, jr_133_31 hWν, jr_133_32 hWν, jr_133_33 hWν, jr_133_34 hWν, jr_133_35 hWν, jr_133_36 hWν, jr_133_37 hWν, jr_133_38 hWν, jr_133_39 hWν, jr_133_40 hWν, jr_133_41 hWν, jr_133_42 hWν, jr_133_44 hWν, jr_133_45 hWν, jr_133_46 hWν, jr_133_47 hWν, jr_133_48 hWν, jr_133_49 hWν, jr_133_50 hWν, jr_133_51 hWν, jr_133_55 hWν, jr_133_56 hWν, jr_133_57 hWν, jr_133_58 hWν, jr_133_62 hWν, jr_133_65 hWν, jr_133_66 hWν, jr_133_67 hWν, jr_133_68 hWν, jr_133_69 hWν, jr_133_70 hWν, jr_133_71 hWν, jr_133_74 hWν, jr_133_75 hWν, hWν.1, jS0_133, jS0_134, jS0_135, jS0_136, jS0_137, jS0_138, jS0_139, jS0_140, jS0_141, jS0_142, jS0_143, jS0_144, jS0_145, jS0_146, jS0_147, jS0_148, jS0_149, jS0_150, jS0_151, jS0_152, jS0_153, jS0_154, jS0_155, jS0_156, jS0_157, jS0_158, jS0_159, jS0_160, jS0_161, jS0_162, jS0_163, jS0_164, jS0_165, jS0_166, jS0_167, jS0_168, jS0_169, jS0_170, jS0_171, jnone, s78, s77, y76, jlc_le, jlc_lt, q78', qlt', iL_mul] | (refine br_c (fun _ => ?_) (fun _ => ?_) <;> try (exfalso; omega)) | (refine br_d (fun _ => ?_) (fun _ => ?_) <;> try (exfalso; omega)) | refine And.intro ?_ ?_ | (refine Nat.ne_of_gt ?_; omega))
      all_goals exact kk
end JVA
