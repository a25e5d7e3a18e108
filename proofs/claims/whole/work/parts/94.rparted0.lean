/-! parted: the relation, all but turning -/
section JPG
variable {d L t : Nat} {μ : jMem} {Q : jQ} {T : jT} {a b : Nat}
theorem sM_parted5 {x3 : Int32} (hW : jWd L t μ) (hK : jTok T) (hM : jTM T μ) (ha : a < tP T) (hb : b < tP T) (hne : a ≠ b) (c : ¬ (0 ≤ x3 ∧ x3 ≤ 1)) (h : Q (some (.int (-1))) (sI (sI (sI μ 133 1 0) 133 0 0) 133 0 5)) : jC (d + 5) 267 [.ref 133, .int (nI a), .int (nI b), .int x3] μ Q := by
  have hE : jEv false μ (sI (sI μ 133 1 0) 133 0 0) := (jEv.rf.sI rfl).sI rfl
  have hW0 := hE.wd hW
  have hM0 := hE.tm hM
  have h8 := hK.1.1
  have hne' := eq_false hne
  have ii : ∀ (d : Nat) (Q' : jQ) (ν : jMem), Q' (some (.int 0)) ν → jC d 190 [.long x3.toInt64, .long 0, .long 1] ν Q' := fun d Q' ν k => sM_isIn32 (y := 0) (z := 1) (by decide) (by decide) (by rw [if_neg c]; exact k)
  refine e267 (b267_0 ?_)
  repeat' (first | refine b267_31 ?_ | refine b267_37 ?_ | refine b267_70 ?_ | refine b267_71 ?_ | refine b267_72 ?_ | refine b267_98 ?_ | refine b267_131 ?_ | refine b267_132 ?_ | refine sM_isPlace_n hW0 hK hM0 ha ?_ | refine sM_isPlace_n hW0 hK hM0 hb ?_ | refine ii _ _ _ ?_ | refine sM_refuse hW0 ?_ | dsimp only [jb_e0, jb_ec, jb_n, jb_c, jx_op, j1i_c, j2i_c, j1l_c, j2l_c, jil_c, j1r_c, jri_c, jrii_c, jril_c, jrl_c, jrr_c, j2i'_c, jdup_i, jdup_r, jdup2_c, jdup2_l, jpo_c, jli, jll, jlr, jat_0, jat_s, jst, jst2, jkill_i, jkill_r, jkill_l, jkill_n, jnone, jgv_0, jgv_1, jgv_2, jgv_3, jrv_s, jput_0, jput_1, jput_2, jput_3, jpop_0, jpop_1, jcl_s, jc1, jc2, jvi, Nat.reduceAdd, jol_i, jol_l, jol_n, jap_n, jap_c, List.map_cons, List.map_nil, List.sum_cons, List.sum_nil, jcI, jcL, jcR, gI_sI, gI_sL, gI_sR, gL_sI, gL_sL, gL_sR, gR_sI, gR_sL, gR_sR, gS_sI, gS_sL, gS_sR, gN_sI, gN_sL, gN_sR] | simp (disch := omega) only [Nat.zero_le, true_and, and_true, and_self, Nat.reduceLeDiff, true_or, or_true, false_or, or_false, Nat.reduceEqDiff, false_and, and_false, if_false, if_true, reduceIte, not_true_eq_false, not_false_eq_true, true_imp_iff, false_imp_iff, List.map_cons, List.map_nil, List.sum_cons, List.sum_nil, jcI, jcL, jcR, Nat.reduceAdd, jrv_s, j1r_c, jap_n, jap_c, gI_sI, gL_sL, gI_sL, gL_sI, an_lt, an_le, an_eq, an_lt0, an_0le, an_0lt, an_le0, an_eq0, an_eq1, an_1lt, an_le1, an_1le, an_lt1, an_eqm, an_sub, an_sub1, an_div, an_rem, an_in, an_in0, an_in1, an_cl, an_cl0, an_cl1, nI_add, nI_1, an_1a, pk_mul, Nat.reduceMul, jz10, jz01, j00, j11, jb0, Classical.not_not, eq_self, an_ite, an_of, an_nm, nI_l, lN_add, lN_mul, lN_i, lj_2, lj_3, lj_4, lj_5, lj_6, lj_7, lj_8, lj_9, lj_10, lj_11, lj_12, lj_13, lj_14, lj_15, lj_16, lj_17, lj_18, lj_19, lj_20, lj_21, lj_22, lj_23, lj_24, lj_25, lj_26, lj_27, lj_28, lj_29, lj_30, lj_31, lj_32, lj_33, lj_34, lj_35, lj_36, lj_37, lj_38, lj_39, lj_40, lj_48, lj_50, lj_57, lj_59, lj_60, lj_63, lj_64, lj_65, lj_90, lj_96, lj_97, lj_99, lj_100, lj_101, lj_105, lj_112, lj_114, lj_116, lj_119, lj_122, lj_128, lj_200, lj_255, lj_256, lj_500, lj_777, lj_1000, jr_133_4 hW, jr_133_5 hW, jr_133_6 hW, jr_133_7 hW, jr_133_31 hW, jr_133_32 hW, jr_133_33 hW, jr_133_34 hW, jr_133_35 hW, jr_133_36 hW, jr_133_37 hW, jr_133_38 hW, jr_133_39 hW, jr_133_40 hW, jr_133_41 hW, jr_133_42 hW, jr_133_44 hW, jr_133_45 hW, jr_133_46 hW, jr_133_47 hW, jr_133_48 hW, jr_133_49 hW, jr_133_50 hW, jr_133_51 hW, jr_133_55 hW, jr_133_56 hW, jr_133_57 hW, jr_133_58 hW, jr_133_62 hW, jr_133_65 hW, jr_133_66 hW, jr_133_67 hW, jr_133_68 hW, jr_133_69 hW, jr_133_70 hW, jr_133_71 hW, jr_133_74 hW, jr_133_75 hW, hW.1, jS0_133, jS0_134, jS0_135, jS0_136, jS0_137, jS0_138, jS0_139, jS0_140, jS0_141, jS0_142, jS0_143, jS0_144, jS0_145, jS0_146, jS0_147, jS0_148, jS0_149, jS0_150, jS0_151, jS0_152, jS0_153, jS0_154, jS0_155, jS0_156, jS0_157, jS0_158, jS0_159, jS0_160, jS0_161, jS0_162, jS0_163, jS0_164, jS0_165, jS0_166, jS0_167, jS0_168, jS0_169, jS0_170, jS0_171, hne'] | (refine br_c (fun _ => ?_) (fun _ => ?_) <;> try (exfalso; omega)) | (refine br_d (fun _ => ?_) (fun _ => ?_) <;> try (exfalso; omega)) | refine And.intro ?_ ?_ | (refine Nat.ne_of_gt ?_; omega))
  all_goals exact h
/-- given what turning says, parted -/
theorem R_parted_of (hturn : ∀ (μ : jMem) (L t a b : Nat) (T : jT), jInv L μ → jWd L t μ → jSt μ → jTr μ → jOth t μ → jTok T → jTX T t μ → jTM T μ → a < tP T → b < tP T → a ≠ b → jRel 999 165 267 [.int (nI a), .int (nI b), .int 1] jInv L false μ) (x1 x2 x3 : Int32) (h : jInv L μ) : jRel 999 165 267 [.int x1, .int x2, .int x3] jInv L false μ := by
  have hI := h
  obtain ⟨t, hW, hS, hT, hO⟩ := h
  obtain ⟨T, hK, hX, hM⟩ := hO.2.2.1
  have h8 := hK.1.1
  have E : ∀ s : Int32, jEv false μ (sI μ 1 0 s) := fun s => jEv.rf.sI rfl
  have hWs : ∀ s : Int32, jWd L t (sI μ 1 0 s) := fun s => hW
  by_cases c : pOk T x1 x2
  case neg => exact sX_parted2 (d := 994) hW hK hX c ⟨⟨_, rfl⟩, jg0 (by decide) 0, fun _ => rfl, sM_parted2 (d := 994) (t := t) (hWs _) hK ((E _).tm hM) c ⟨rfl, jref hW hS hT hO⟩⟩
  obtain ⟨c1, c2⟩ := c
  obtain ⟨a, ha, rfl⟩ := jtl (by omega) c1
  obtain ⟨b, hb, rfl⟩ := jtl (by omega) c2
  by_cases hne : a = b
  · subst hne
    exact sX_parted2e (d := 994) hW hK hX ha ⟨⟨_, rfl⟩, jg0 (by decide) 0, fun _ => rfl, sM_parted2e (d := 994) (t := t) (hWs _) hK ((E _).tm hM) ha ⟨rfl, jref hW hS hT hO⟩⟩
  by_cases z1 : x3 = 1
  · subst z1
    exact hturn μ L t a b T hI hW hS hT hO hK hX hM ha hb hne
  by_cases z0 : x3 = 0
  · subst z0
    refine sX_parted0 (d := 994) hW hK hX ha hb hne (fun z ν F => ?_) (fun z ν F => ?_)
    · have E2 : jEv false μ (sI ν 1 0 0) := (jEv.rf.fr (by decide) F).sI rfl
      refine ⟨⟨_, rfl⟩, E2.g0, E2.2.2.1, sM_parted0 (d := 994) (t := t) (E2.wd hW) hK (E2.tm hM) ha hb hne (fun _ ξ G => ⟨rfl, ?_⟩) (fun y => absurd z y)⟩
      refine (((E2.sI rfl).sI rfl).fr (by decide) G).inv hW hS hT hO ?_
      rw [(G.1 1 (by simp)).1, (G.1 133 (by simp)).1]
      rfl
    · have E2 : jEv false μ (sI ν 1 0 0) := (jEv.rf.fr (by decide) F).sI rfl
      refine ⟨⟨_, rfl⟩, E2.g0, E2.2.2.1, sM_parted0 (d := 994) (t := t) (E2.wd hW) hK (E2.tm hM) ha hb hne (fun y => absurd y z) (fun _ ξ G => ⟨rfl, ?_⟩)⟩
      refine (((E2.sI rfl).sI rfl).fr (by decide) G).inv hW hS hT hO ?_
      rw [(G.1 1 (by simp)).1, (G.1 133 (by simp)).1]
      rfl
  · have c5 : ¬ (0 ≤ x3 ∧ x3 ≤ 1) := fun z => by
      clear hturn hI
      grind
    exact sX_parted5 (d := 994) hW hK hX ha hb hne z0 z1 ⟨⟨_, rfl⟩, jg0 (by decide) 0, fun _ => rfl, sM_parted5 (d := 994) (t := t) (hWs _) hK ((E _).tm hM) ha hb hne c5 ⟨rfl, jref hW hS hT hO⟩⟩
end JPG
