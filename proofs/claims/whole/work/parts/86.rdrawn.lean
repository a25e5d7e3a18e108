/-! drawn: the relation -/
section JDB
variable {d L t : Nat} {μ : jMem} {Q : jQ} {T V : jT} {w v : Nat}
theorem sM_drawnS {x1 x2 x3 x4 x5 s : Int32} (hW : jWd L t μ) (hs : (s ≤ 0) = False) (ask : ∀ (d : Nat) (Q' : jQ), Q' (some (.int s)) (sI μ 133 1 0) → jC (d + 3) 270 [.ref 133, .int x1, .int x2, .int x3, .int x4, .int x5] (sI μ 133 1 0) Q') (h : Q (some (.int 0)) (sI (sI μ 133 1 0) 133 0 s)) : jC (d + 6) 272 [.ref 133, .int x1, .int x2, .int x3, .int x4, .int x5] μ Q := by
  refine e272 (b272_0 ?_)
  repeat' (first | refine ask _ _ ?_ | dsimp only [jb_e0, jb_ec, jb_n, jb_c, jx_op, j1i_c, j2i_c, j1l_c, j2l_c, jil_c, j1r_c, jri_c, jrii_c, jril_c, jrl_c, jrr_c, j2i'_c, jdup_i, jdup_r, jdup2_c, jdup2_l, jpo_c, jli, jll, jlr, jat_0, jat_s, jst, jst2, jkill_i, jkill_r, jkill_l, jkill_n, jnone, jgv_0, jgv_1, jgv_2, jgv_3, jrv_s, jput_0, jput_1, jput_2, jput_3, jpop_0, jpop_1, jcl_s, jc1, jc2, jvi, Nat.reduceAdd, jol_i, jol_l, jol_n, jap_n, jap_c, List.map_cons, List.map_nil, List.sum_cons, List.sum_nil, jcI, jcL, jcR, gI_sI, gI_sL, gI_sR, gL_sI, gL_sL, gL_sR, gR_sI, gR_sL, gR_sR, gS_sI, gS_sL, gS_sR, gN_sI, gN_sL, gN_sR] | simp (disch := omega) only [Nat.zero_le, true_and, and_true, and_self, Nat.reduceLeDiff, true_or, or_true, false_or, or_false, Nat.reduceEqDiff, false_and, and_false, if_false, if_true, reduceIte, not_true_eq_false, not_false_eq_true, true_imp_iff, false_imp_iff, List.map_cons, List.map_nil, List.sum_cons, List.sum_nil, jcI, jcL, jcR, Nat.reduceAdd, jrv_s, j1r_c, jap_n, jap_c, gI_sI, gL_sL, gI_sL, gL_sI, an_lt, an_le, an_eq, an_lt0, an_0le, an_0lt, an_le0, an_eq0, an_eq1, an_1lt, an_le1, an_1le, an_lt1, an_eqm, an_sub, an_sub1, an_div, an_rem, an_in, an_in0, an_in1, an_cl, an_cl0, an_cl1, nI_add, nI_1, an_1a, pk_mul, Nat.reduceMul, jz10, jz01, j00, j11, jb0, Classical.not_not, eq_self, an_ite, an_of, an_nm, nI_l, lN_add, lN_mul, lN_i, lj_2, lj_3, lj_4, lj_5, lj_6, lj_7, lj_8, lj_9, lj_10, lj_11, lj_12, lj_13, lj_14, lj_15, lj_16, lj_17, lj_18, lj_19, lj_20, lj_21, lj_22, lj_23, lj_24, lj_25, lj_26, lj_27, lj_28, lj_29, lj_30, lj_31, lj_32, lj_33, lj_34, lj_35, lj_36, lj_37, lj_38, lj_39, lj_40, lj_48, lj_50, lj_57, lj_59, lj_60, lj_63, lj_64, lj_65, lj_90, lj_96, lj_97, lj_99, lj_100, lj_101, lj_105, lj_112, lj_114, lj_116, lj_119, lj_122, lj_128, lj_200, lj_255, lj_256, lj_500, lj_777, lj_1000, jr_133_4 hW, jr_133_5 hW, jr_133_6 hW, jr_133_7 hW, jr_133_31 hW, jr_133_32 hW, jr_133_33 hW, jr_133_34 hW, jr_133_35 hW, jr_133_36 hW, jr_133_37 hW, jr_133_38 hW, jr_133_39 hW, jr_133_40 hW, jr_133_41 hW, jr_133_42 hW, jr_133_44 hW, jr_133_45 hW, jr_133_46 hW, jr_133_47 hW, jr_133_48 hW, jr_133_49 hW, jr_133_50 hW, jr_133_51 hW, jr_133_55 hW, jr_133_56 hW, jr_133_57 hW, jr_133_58 hW, jr_133_62 hW, jr_133_65 hW, jr_133_66 hW, jr_133_67 hW, jr_133_68 hW, jr_133_69 hW, jr_133_70 hW, jr_133_71 hW, jr_133_74 hW, jr_133_75 hW, hW.1, jS0_133, jS0_134, jS0_135, jS0_136, jS0_137, jS0_138, jS0_139, jS0_140, jS0_141, jS0_142, jS0_143, jS0_144, jS0_145, jS0_146, jS0_147, jS0_148, jS0_149, jS0_150, jS0_151, jS0_152, jS0_153, jS0_154, jS0_155, jS0_156, jS0_157, jS0_158, jS0_159, jS0_160, jS0_161, jS0_162, jS0_163, jS0_164, jS0_165, jS0_166, jS0_167, jS0_168, jS0_169, jS0_170, jS0_171, hs] | (refine br_c (fun _ => ?_) (fun _ => ?_) <;> try (exfalso; omega)) | (refine br_d (fun _ => ?_) (fun _ => ?_) <;> try (exfalso; omega)) | refine And.intro ?_ ?_ | (refine Nat.ne_of_gt ?_; omega))
  all_goals exact h
theorem sM_drawn_n {n ticks times : Nat} (hW : jWd L t μ) (hK : jTok T) (hM : jTM T μ) (hV : jVok V) (hVM : jVM V μ) (hw : w < wC V) (hv : v < wC V) (hn : n ≤ 16) (ht1 : 1 ≤ ticks) (ht24 : ticks ≤ 24) (h1 : 1 ≤ times) (ht5 : times ≤ 5) (c0 : tAll T ≠ 0)
    (h : ∀ ν, jFr [153, 154, 155, 165, 166] (sI (sI μ 133 1 0) 133 0 0) ν → Q (some (.int 1)) (sL (sL ν 133 2 (lN (dMet T V w v ticks n times / Nat.gcd (dMet T V w v ticks n times) (tAll T * 256 ^ times)))) 133 3 (lN (tAll T * 256 ^ times / Nat.gcd (dMet T V w v ticks n times) (tAll T * 256 ^ times))))) : jC (d + 6) 272 [.ref 133, .int (nI w), .int (nI v), .int (nI n), .int (nI ticks), .int (nI times)] μ Q := by
  have hE1 : jEv false μ (sI μ 133 1 0) := jEv.rf.sI rfl
  have hE : jEv false μ (sI (sI μ 133 1 0) 133 0 0) := hE1.sI rfl
  have ask : ∀ (d : Nat) (Q' : jQ), Q' (some (.int 0)) (sI μ 133 1 0) → jC (d + 3) 270 [.ref 133, .int (nI w), .int (nI v), .int (nI n), .int (nI ticks), .int (nI times)] (sI μ 133 1 0) Q' := fun d Q' k => sM_asks_n (hE1.wd hW) hK (hE1.tm hM) hV (hE1.vm hVM) hw hv hn ht1 ht24 h1 ht5 (by rw [if_neg c0]; exact k)
  have hW0 := hE.wd hW
  have mo : ∀ (d : Nat) (Q' : jQ), (∀ ν, jFr [153, 154, 155, 165, 166] (sI (sI μ 133 1 0) 133 0 0) ν → Q' (some (.long (lN (dMet T V w v ticks n times)))) ν) → jC (d + 4) 269 [.ref 133, .int (nI w), .int (nI v), .int (nI n), .int (nI ticks), .int (nI times)] (sI (sI μ 133 1 0) 133 0 0) Q' := fun d Q' k => sM_metOf hW0 hK (hE.tm hM) hV (hE.vm hVM) hw hv ht24 hn ht5 k
  refine e272 (b272_0 ?_)
  repeat' (first | refine b272_29 ?_ | refine ask _ _ ?_ | refine mo _ _ (fun ν F => jh_i ?_) | dsimp only [jb_e0, jb_ec, jb_n, jb_c, jx_op, j1i_c, j2i_c, j1l_c, j2l_c, jil_c, j1r_c, jri_c, jrii_c, jril_c, jrl_c, jrr_c, j2i'_c, jdup_i, jdup_r, jdup2_c, jdup2_l, jpo_c, jli, jll, jlr, jat_0, jat_s, jst, jst2, jkill_i, jkill_r, jkill_l, jkill_n, jnone, jgv_0, jgv_1, jgv_2, jgv_3, jrv_s, jput_0, jput_1, jput_2, jput_3, jpop_0, jpop_1, jcl_s, jc1, jc2, jvi, Nat.reduceAdd, jol_i, jol_l, jol_n, jap_n, jap_c, List.map_cons, List.map_nil, List.sum_cons, List.sum_nil, jcI, jcL, jcR, gI_sI, gI_sL, gI_sR, gL_sI, gL_sL, gL_sR, gR_sI, gR_sL, gR_sR, gS_sI, gS_sL, gS_sR, gN_sI, gN_sL, gN_sR] | simp (disch := omega) only [Nat.zero_le, true_and, and_true, and_self, Nat.reduceLeDiff, true_or, or_true, false_or, or_false, Nat.reduceEqDiff, false_and, and_false, if_false, if_true, reduceIte, not_true_eq_false, not_false_eq_true, true_imp_iff, false_imp_iff, List.map_cons, List.map_nil, List.sum_cons, List.sum_nil, jcI, jcL, jcR, Nat.reduceAdd, jrv_s, j1r_c, jap_n, jap_c, gI_sI, gL_sL, gI_sL, gL_sI, an_lt, an_le, an_eq, an_lt0, an_0le, an_0lt, an_le0, an_eq0, an_eq1, an_1lt, an_le1, an_1le, an_lt1, an_eqm, an_sub, an_sub1, an_div, an_rem, an_in, an_in0, an_in1, an_cl, an_cl0, an_cl1, nI_add, nI_1, an_1a, pk_mul, Nat.reduceMul, jz10, jz01, j00, j11, jb0, Classical.not_not, eq_self, an_ite, an_of, an_nm, nI_l, lN_add, lN_mul, lN_i, lj_2, lj_3, lj_4, lj_5, lj_6, lj_7, lj_8, lj_9, lj_10, lj_11, lj_12, lj_13, lj_14, lj_15, lj_16, lj_17, lj_18, lj_19, lj_20, lj_21, lj_22, lj_23, lj_24, lj_25, lj_26, lj_27, lj_28, lj_29, lj_30, lj_31, lj_32, lj_33, lj_34, lj_35, lj_36, lj_37, lj_38, lj_39, lj_40, lj_48, lj_50, lj_57, lj_59, lj_60, lj_63, lj_64, lj_65, lj_90, lj_96, lj_97, lj_99, lj_100, lj_101, lj_105, lj_112, lj_114, lj_116, lj_119, lj_122, lj_128, lj_200, lj_255, lj_256, lj_500, lj_777, lj_1000, jr_133_4 hW, jr_133_5 hW, jr_133_6 hW, jr_133_7 hW, jr_133_31 hW, jr_133_32 hW, jr_133_33 hW, jr_133_34 hW, jr_133_35 hW, jr_133_36 hW, jr_133_37 hW, jr_133_38 hW, jr_133_39 hW, jr_133_40 hW, jr_133_41 hW, jr_133_42 hW, jr_133_44 hW, jr_133_45 hW, jr_133_46 hW, jr_133_47 hW, jr_133_48 hW, jr_133_49 hW, jr_133_50 hW, jr_133_51 hW, jr_133_55 hW, jr_133_56 hW, jr_133_57 hW, jr_133_58 hW, jr_133_62 hW, jr_133_65 hW, jr_133_66 hW, jr_133_67 hW, jr_133_68 hW, jr_133_69 hW, jr_133_70 hW, jr_133_71 hW, jr_133_74 hW, jr_133_75 hW, hW.1, jS0_133, jS0_134, jS0_135, jS0_136, jS0_137, jS0_138, jS0_139, jS0_140, jS0_141, jS0_142, jS0_143, jS0_144, jS0_145, jS0_146, jS0_147, jS0_148, jS0_149, jS0_150, jS0_151, jS0_152, jS0_153, jS0_154, jS0_155, jS0_156, jS0_157, jS0_158, jS0_159, jS0_160, jS0_161, jS0_162, jS0_163, jS0_164, jS0_165, jS0_166, jS0_167, jS0_168, jS0_169, jS0_170, jS0_171, j00le] | (refine br_c (fun _ => ?_) (fun _ => ?_) <;> try (exfalso; omega)) | (refine br_d (fun _ => ?_) (fun _ => ?_) <;> try (exfalso; omega)) | refine And.intro ?_ ?_ | (refine Nat.ne_of_gt ?_; omega))
  refine jh_o ?_
  have hW2 := F.wd hW0
  have hM2 := jTM_fr (by decide) F (hE.tm hM)
  have k := h ν F
  have hb1 := dMet_lt (n := n) (ticks := ticks) hK hV hw hv hn ht5
  obtain ⟨hb2, hb3⟩ := dB0 hK ht5 c0
  have wo : ∀ (d : Nat) (Q' : jQ), Q' (some (.long (lN (tAll T * 256 ^ times)))) ν → jC (d + 3) 271 [.ref 133, .int (nI times)] ν Q' := fun d Q' kq => sM_wholeOf hW2 hK hM2 ht5 kq
  generalize tAll T * 256 ^ times = B at *
  generalize dMet T V w v ticks n times = M at *
  have fr : ∀ (d : Nat) (Q' : jQ), Q' none (sL (sL ν 133 2 (lN (M / Nat.gcd M B))) 133 3 (lN (B / Nat.gcd M B))) → jC (d + 2) 192 [.ref 133, .long (lN M), .long (lN B)] ν Q' := fun d Q' kk => sM_fraction hW2 (by omega) (by omega) hb2 kk
  repeat' (first | refine b272_29 ?_ | refine wo _ _ ?_ | refine fr _ _ ?_ | dsimp only [jb_e0, jb_ec, jb_n, jb_c, jx_op, j1i_c, j2i_c, j1l_c, j2l_c, jil_c, j1r_c, jri_c, jrii_c, jril_c, jrl_c, jrr_c, j2i'_c, jdup_i, jdup_r, jdup2_c, jdup2_l, jpo_c, jli, jll, jlr, jat_0, jat_s, jst, jst2, jkill_i, jkill_r, jkill_l, jkill_n, jnone, jgv_0, jgv_1, jgv_2, jgv_3, jrv_s, jput_0, jput_1, jput_2, jput_3, jpop_0, jpop_1, jcl_s, jc1, jc2, jvi, Nat.reduceAdd, jol_i, jol_l, jol_n, jap_n, jap_c, List.map_cons, List.map_nil, List.sum_cons, List.sum_nil, jcI, jcL, jcR, gI_sI, gI_sL, gI_sR, gL_sI, gL_sL, gL_sR, gR_sI, gR_sL, gR_sR, gS_sI, gS_sL, gS_sR, gN_sI, gN_sL, gN_sR] | simp (disch := omega) only [Nat.zero_le, true_and, and_true, and_self, Nat.reduceLeDiff, true_or, or_true, false_or, or_false, Nat.reduceEqDiff, false_and, and_false, if_false, if_true, reduceIte, not_true_eq_false, not_false_eq_true, true_imp_iff, false_imp_iff, List.map_cons, List.map_nil, List.sum_cons, List.sum_nil, jcI, jcL, jcR, Nat.reduceAdd, jrv_s, j1r_c, jap_n, jap_c, gI_sI, gL_sL, gI_sL, gL_sI, an_lt, an_le, an_eq, an_lt0, an_0le, an_0lt, an_le0, an_eq0, an_eq1, an_1lt, an_le1, an_1le, an_lt1, an_eqm, an_sub, an_sub1, an_div, an_rem, an_in, an_in0, an_in1, an_cl, an_cl0, an_cl1, nI_add, nI_1, an_1a, pk_mul, Nat.reduceMul, jz10, jz01, j00, j11, jb0, Classical.not_not, eq_self, an_ite, an_of, an_nm, nI_l, lN_add, lN_mul, lN_i, lj_2, lj_3, lj_4, lj_5, lj_6, lj_7, lj_8, lj_9, lj_10, lj_11, lj_12, lj_13, lj_14, lj_15, lj_16, lj_17, lj_18, lj_19, lj_20, lj_21, lj_22, lj_23, lj_24, lj_25, lj_26, lj_27, lj_28, lj_29, lj_30, lj_31, lj_32, lj_33, lj_34, lj_35, lj_36, lj_37, lj_38, lj_39, lj_40, lj_48, lj_50, lj_57, lj_59, lj_60, lj_63, lj_64, lj_65, lj_90, lj_96, lj_97, lj_99, lj_100, lj_101, lj_105, lj_112, lj_114, lj_116, lj_119, lj_122, lj_128, lj_200, lj_255, lj_256, lj_500, lj_777, lj_1000, jr_133_4 hW2, jr_133_5 hW2, jr_133_6 hW2, jr_133_7 hW2, jr_133_31 hW2, jr_133_32 hW2, jr_133_33 hW2, jr_133_34 hW2, jr_133_35 hW2, jr_133_36 hW2, jr_133_37 hW2, jr_133_38 hW2, jr_133_39 hW2, jr_133_40 hW2, jr_133_41 hW2, jr_133_42 hW2, jr_133_44 hW2, jr_133_45 hW2, jr_133_46 hW2, jr_133_47 hW2, jr_133_48 hW2, jr_133_49 hW2, jr_133_50 hW2, jr_133_51 hW2, jr_133_55 hW2, jr_133_56 hW2, jr_133_57 hW2, jr_133_58 hW2, jr_133_62 hW2, jr_133_65 hW2, jr_133_66 hW2, jr_133_67 hW2, jr_133_68 hW2, jr_133_69 hW2, jr_133_70 hW2, jr_133_71 hW2, jr_133_74 hW2, jr_133_75 hW2, hW2.1, jS0_133, jS0_134, jS0_135, jS0_136, jS0_137, jS0_138, jS0_139, jS0_140, jS0_141, jS0_142, jS0_143, jS0_144, jS0_145, jS0_146, jS0_147, jS0_148, jS0_149, jS0_150, jS0_151, jS0_152, jS0_153, jS0_154, jS0_155, jS0_156, jS0_157, jS0_158, jS0_159, jS0_160, jS0_161, jS0_162, jS0_163, jS0_164, jS0_165, jS0_166, jS0_167, jS0_168, jS0_169, jS0_170, jS0_171] | (refine br_c (fun _ => ?_) (fun _ => ?_) <;> try (exfalso; omega)) | (refine br_d (fun _ => ?_) (fun _ => ?_) <;> try (exfalso; omega)) | refine And.intro ?_ ?_ | (refine Nat.ne_of_gt ?_; omega))
  all_goals exact k
/-! between calls, with the zeros of 'then' -/
def j25 (a k : Nat) : Bool := a == 125
theorem jEx.oth25 {ν : jMem} (h : jEx j25 μ ν) (h0 : ∀ k, k < 64 → gL ν 125 k = 0) (hO : jOth t μ) : jOth t ν := by
  obtain ⟨ht, hp, ⟨T, hK, hXT, hMT⟩, ⟨V, hV, hVX, hVM⟩, hR, hC⟩ := hO
  refine ⟨ht, ?_, ⟨T, hK, ?_, ?_⟩, ⟨V, hV, ?_, ?_⟩, ?_, ?_⟩
  · exact jTp_of (fun a k hx => (h a k (by rcases hx with ⟨rfl, rfl | rfl | rfl⟩ | rfl | rfl | ⟨rfl, rfl | rfl | rfl⟩ <;> rfl) (by rcases hx with ⟨rfl, rfl | rfl | rfl⟩ | rfl | rfl | ⟨rfl, rfl | rfl | rfl⟩ <;> rfl)).1) hp
  · refine jTX_of2 (fun a k h1 h2 => ?_) hXT
    have ha : 12 ≤ a ∧ a ≤ 33 := by omega
    refine (h a k ?_ ?_).1
    · rcases (show a = 12 ∨ a = 13 ∨ a = 14 ∨ a = 15 ∨ a = 16 ∨ a = 17 ∨ a = 18 ∨ a = 19 ∨ a = 20 ∨ a = 21 ∨ a = 22 ∨ a = 23 ∨ a = 24 ∨ a = 25 ∨ a = 26 ∨ a = 27 ∨ a = 28 ∨ a = 29 ∨ a = 30 ∨ a = 31 ∨ a = 32 ∨ a = 33 by omega) with rfl | rfl | rfl | rfl | rfl | rfl | rfl | rfl | rfl | rfl | rfl | rfl | rfl | rfl | rfl | rfl | rfl | rfl | rfl | rfl | rfl | rfl <;> rfl
    · rcases (show a = 12 ∨ a = 13 ∨ a = 14 ∨ a = 15 ∨ a = 16 ∨ a = 17 ∨ a = 18 ∨ a = 19 ∨ a = 20 ∨ a = 21 ∨ a = 22 ∨ a = 23 ∨ a = 24 ∨ a = 25 ∨ a = 26 ∨ a = 27 ∨ a = 28 ∨ a = 29 ∨ a = 30 ∨ a = 31 ∨ a = 32 ∨ a = 33 by omega) with rfl | rfl | rfl | rfl | rfl | rfl | rfl | rfl | rfl | rfl | rfl | rfl | rfl | rfl | rfl | rfl | rfl | rfl | rfl | rfl | rfl | rfl <;> rfl
  · exact jTM_of (fun a k hx => (h a k (by rcases hx with ⟨rfl, rfl | rfl | rfl | rfl | rfl | rfl⟩ | rfl | rfl | rfl | rfl | rfl | rfl <;> rfl) (by rcases hx with ⟨rfl, rfl | rfl | rfl | rfl | rfl | rfl⟩ | rfl | rfl | rfl | rfl | rfl | rfl <;> rfl)).1) hMT
  · exact jVX_of (fun a k hx => (h a k (by rcases hx with ⟨rfl, rfl⟩ | rfl | rfl | rfl <;> rfl) (by rcases hx with ⟨rfl, rfl⟩ | rfl | rfl | rfl <;> rfl)).1) hVX
  · exact jVM_of (fun a k hx => (h a k (by rcases hx with ⟨rfl, rfl⟩ | rfl | rfl | rfl <;> rfl) (by rcases hx with ⟨rfl, rfl⟩ | rfl | rfl | rfl <;> rfl)).1) hVM
  · exact jRw_of (fun a k hx => (h a k (by rcases hx with ⟨rfl | rfl, rfl | rfl⟩ | rfl | rfl | rfl | rfl | ⟨rfl, rfl | rfl⟩ <;> rfl) (by rcases hx with ⟨rfl | rfl, rfl | rfl⟩ | rfl | rfl | rfl | rfl | ⟨rfl, rfl | rfl⟩ <;> rfl)).1) hR
  · obtain ⟨n, hn, e1, e2, -, hc⟩ := hC
    refine ⟨n, hn, (h 128 0 rfl rfl).1.trans e1, (h 133 54 rfl rfl).1.trans e2, h0, fun z => ?_⟩
    obtain ⟨s, b, x, y, s0, s1, b0, b1, hx, hs, hb, hy⟩ := hc z
    exact ⟨s, b, x, y, s0, s1, b0, b1, fun k hk => ((h 130 k rfl rfl).2).trans (hx k hk), hs, ((h 133 59 rfl rfl).2).trans hb, fun k hk => ⟨((h 161 k rfl rfl).2).trans (hy k hk).1, (hy k hk).2⟩⟩
/-- behind the class -/
theorem d_fin {ν ξ : jMem} {p q : Int64} (hW : jWd L t μ) (hT : jTr μ) (hO : jOth t μ) (F : jFr [123, 124, 125, 126, 127] μ ν) (h0 : ∀ k, k < 64 → gL ν 125 k = 0) (G : jFr [153, 154, 155, 165, 166] (sI (sI (sI (sL (sL ν 1 1 p) 1 2 q) 1 0 0) 133 1 0) 133 0 0) ξ) : jInv L (sL (sL ξ 133 2 p) 133 3 q) := by
  have E1 : jEx j25 μ ν := jEx.rf.fr (by
    intro a ha
    rcases (show a = 123 ∨ a = 124 ∨ a = 125 ∨ a = 126 ∨ a = 127 by simpa using ha) with rfl | rfl | rfl | rfl | rfl
    · exact Or.inl rfl
    · exact Or.inl rfl
    · exact Or.inr (fun _ => rfl)
    · exact Or.inl rfl
    · exact Or.inl rfl) F
  have E0 : jEv true ν (sL (sL ξ 133 2 p) 133 3 q) := (((((((((jEv.rf.sL rfl).sL rfl).sI rfl).sI rfl).sI rfl).fr (by decide) G)).sL rfl).sL rfl)
  have E2 := E1.ev E0
  have W2 : jWd L t (sL (sL ξ 133 2 p) 133 3 q) := E0.wd (F.wd hW)
  refine ⟨t, W2, jStF ?_ ?_ ?_, E2.tr (fun a k ha => ?_) hT, E2.oth25 (fun k hk => ?_) hO⟩
  · rw [(G.1 1 (by simp)).1, (G.1 133 (by simp)).1]
    rfl
  · rw [(G.1 1 (by simp)).2]
    rfl
  · rw [(G.1 1 (by simp)).2]
    rfl
  · rcases (show a = 4 ∨ a = 5 ∨ a = 6 ∨ a = 7 ∨ a = 8 ∨ a = 9 ∨ a = 134 ∨ a = 135 ∨ a = 136 by omega) with rfl | rfl | rfl | rfl | rfl | rfl | rfl | rfl | rfl <;> rfl
  · rw [gL_sL, if_neg (by omega), gL_sL, if_neg (by omega), (G.1 125 (by simp)).2]
    exact h0 k hk
theorem d_nat {x : Int32} {a b : Nat} (ha : a ≤ 1) (hb : b < 100) (h : nI a ≤ x ∧ x ≤ nI b) : ∃ n, a ≤ n ∧ n ≤ b ∧ x = nI n := by
  rcases pk_ix x (n := b + 1) (by omega) with z | z | ⟨n, hn, e⟩
  · have h0 : (0 : Int32) ≤ nI a := nI_pos' (by omega)
    exact absurd h.1 (by clear h; grind)
  · have hh := h.2
    have z2 : nI b < nI (b + 1) := nI_lt (by omega) (by omega)
    exact absurd hh (by clear h hh; grind)
  · refine ⟨n, ?_, by omega, e⟩
    have := h.1
    rw [e] at this
    exact (nI_leI (by omega) (by omega)).mp this
theorem cAsk_n {x3 x4 x5 : Int32} (c : cAsk x3 x4 x5) : ∃ n ticks times, n ≤ 16 ∧ 1 ≤ ticks ∧ ticks ≤ 24 ∧ 1 ≤ times ∧ times ≤ 5 ∧ x3 = nI n ∧ x4 = nI ticks ∧ x5 = nI times := by
  obtain ⟨c1, c2, c3⟩ := c
  obtain ⟨n, -, a1, a2⟩ := d_nat (a := 0) (by omega) (by omega) c1
  obtain ⟨k, b0, b1, b2⟩ := d_nat (a := 1) (by omega) (by omega) c2
  obtain ⟨m, m0, m1, m2⟩ := d_nat (a := 1) (by omega) (by omega) c3
  exact ⟨n, k, m, a1, b0, b1, m0, m1, a2, b2, m2⟩
theorem R_drawn (x1 x2 x3 x4 x5 : Int32) (h : jInv L μ) : jRel 999 166 272 [.int x1, .int x2, .int x3, .int x4, .int x5] jInv L false μ := by
  obtain ⟨t, hW, hS, hT, hO⟩ := h
  obtain ⟨T, hK, hX, hM⟩ := hO.2.2.1
  obtain ⟨V, hV, hVX, hVM⟩ := hO.2.2.2.1
  have E : ∀ s : Int32, jEv false μ (sI μ 1 0 s) := fun s => jEv.rf.sI rfl
  have hWs : ∀ s : Int32, jWd L t (sI μ 1 0 s) := fun s => hW
  have E1 : ∀ s : Int32, jEv false μ (sI (sI μ 1 0 s) 133 1 0) := fun s => (E s).sI rfl
  have hW1 : ∀ s : Int32, jWd L t (sI (sI μ 1 0 s) 133 1 0) := fun s => hW
  by_cases c : (0 ≤ x1 ∧ x1 < nI (wC V)) ∧ (0 ≤ x2 ∧ x2 < nI (wC V))
  case neg => exact sX_drawn2 (d := 992) hW hV hVX c ⟨⟨_, rfl⟩, jg0 (by decide) 0, fun _ => rfl, sM_drawnS (d := 993) (s := 2) (hWs _) (by decide) (fun d Q' k => sM_asks2 (hW1 _) hV ((E1 _).vm hVM) c k) ⟨rfl, jref1 hW hS hT hO⟩⟩
  obtain ⟨c1, c2⟩ := c
  obtain ⟨w, hw, rfl⟩ := jwy hV c1
  obtain ⟨v, hv, rfl⟩ := jwy hV c2
  by_cases c : cAsk x3 x4 x5
  case neg => exact sX_drawn5 (d := 992) hW hV hVX hw hv c ⟨⟨_, rfl⟩, jg0 (by decide) 0, fun _ => rfl, sM_drawnS (d := 993) (s := 5) (hWs _) (by decide) (fun d Q' k => sM_asks5 (hW1 _) hV ((E1 _).vm hVM) hw hv c k) ⟨rfl, jref1 hW hS hT hO⟩⟩
  obtain ⟨n, ticks, times, hn, ht1, ht24, h1, ht5, rfl, rfl, rfl⟩ := cAsk_n c
  have h0 : ∀ k, k < 64 → gL μ 125 k = 0 := by
    obtain ⟨_, _, _, _, z, _⟩ := hO.2.2.2.2.2
    exact z
  refine sX_drawn_n (d := 992) hW hK hX hV hVX hw hv hn ht1 ht24 h1 ht5 h0 (fun z => ?_) (fun z ν F g0 => ?_)
  · exact ⟨⟨_, rfl⟩, jg0 (by decide) 0, fun _ => rfl, sM_drawnS (d := 993) (s := 9) (hWs _) (by decide) (fun d Q' k => sM_asks_n (hW1 _) hK ((E1 _).tm hM) hV ((E1 _).vm hVM) hw hv hn ht1 ht24 h1 ht5 (by rw [if_pos z]; exact k)) ⟨rfl, jref1 hW hS hT hO⟩⟩
  · generalize hp : lN (dMet T V w v ticks n times / Nat.gcd (dMet T V w v ticks n times) (tAll T * 256 ^ times)) = p
    generalize hq : lN (tAll T * 256 ^ times / Nat.gcd (dMet T V w v ticks n times) (tAll T * 256 ^ times)) = q
    have Fw : jWd L t (sI (sL (sL ν 1 1 p) 1 2 q) 1 0 0) := F.wd hW
    have cellM : ∀ a j, a ≠ 123 → a ≠ 124 → a ≠ 125 → a ≠ 126 → a ≠ 127 → a ≠ 1 → gI (sI (sL (sL ν 1 1 p) 1 2 q) 1 0 0) a j = gI μ a j := fun a j n1 n2 n3 n4 n5 n6 => by
      rw [gI_sI, if_neg (by omega), gI_sL, gI_sL, (F.1 a (by simp; omega)).1]
    have hM2 : jTM T (sI (sL (sL ν 1 1 p) 1 2 q) 1 0 0) := jTM_of (fun a k hx => cellM a k (by omega) (by omega) (by omega) (by omega) (by omega) (by omega)) hM
    have hVM2 : jVM V (sI (sL (sL ν 1 1 p) 1 2 q) 1 0 0) := jVM_of (fun a k hx => cellM a k (by omega) (by omega) (by omega) (by omega) (by omega) (by omega)) hVM
    refine ⟨⟨_, rfl⟩, fun j => cellM 0 j (by omega) (by omega) (by omega) (by omega) (by omega) (by omega), F.2.2.1, sM_drawn_n (d := 993) (t := t) Fw hK hM2 hV hVM2 hw hv hn ht1 ht24 h1 ht5 z (fun ξ G => ⟨rfl, ?_⟩)⟩
    rw [hp, hq]
    exact d_fin hW hT hO F g0 G
end JDB
