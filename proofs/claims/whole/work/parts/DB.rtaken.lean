/-! town: the reference takes what it read -/
section JTD8
variable {d L t : Nat} {μ : jMem} {Q : jQ} {B : Nat → Nat} {n p q s k j w x y : Nat} {T : jT}
/-- no lane is shut -/
def nSh (T : jT) : Prop := ∀ l, T 8 l 0 = 0
theorem nSh_F {f v : Nat} (hf : f < 3) (h : nSh T) : nSh (setF T f v) := fun l => by
  rw [setF_o (by omega)]
  exact h l
theorem nSh_N {i v j : Nat} (h : nSh T) : nSh (setN T i v j) := fun l => by
  rw [setN_o (by omega)]
  exact h l
theorem nSh_P (h : nSh T) : nSh (addP T x) := fun l => by
  rw [addP_5 (by omega) (by omega)]
  exact h l
theorem nSh_L (h : nSh T) : nSh (addL T x y) := fun l => by
  have e : addL T x y 8 l 0 = if l = tLn T then 0 else tSh T l := addL_S
  rw [e]
  split
  · rfl
  · exact h l
theorem nSh_feat {T' : jT} {p' : Nat} : ∀ (k had : Nat) (T : jT) (p : Nat), nSh T → pFeat B n k had T p = .inr (T', p') → nSh T'
  | 0, had, T, p, hT, h => by
    rw [pFeat] at h
    cases h
    exact hT
  | k + 1, had, T, p, hT, h => by
    rw [pFeat] at h
    split at h
    · cases h
      exact hT
    · next f hf =>
      split at h
      · cases h
      · split at h
        · cases h
        · split at h
          · cases h
          · exact nSh_feat k _ _ _ (nSh_F (qFt_lt hf) hT) h
theorem nSh_place {T' : jT} {p' : Nat} (hT : nSh T) (h : pPlace B n T p = .inr (T', p')) : nSh T' := by
  unfold pPlace at h
  split at h
  · split at h
    · cases h
    · split at h
      · cases h
      · exact nSh_feat _ _ _ _ (nSh_P hT) h
  · cases h
theorem nSh_laneTo {T' : jT} {p' : Nat} (hT : nSh T) (h : pLaneTo B n T x p = .inr (T', p')) : nSh T' := by
  unfold pLaneTo at h
  split at h
  · split at h
    · cases h
    · split at h
      · cases h
      · split at h
        · cases h
        · cases h
          exact nSh_L hT
  · cases h
theorem nSh_lane {T' : jT} {p' : Nat} (hT : nSh T) (h : pLane B n T p = .inr (T', p')) : nSh T' := by
  unfold pLane at h
  split at h
  · cases h
  · split at h
    · split at h
      · cases h
      · split at h
        · cases h
        · split at h
          · exact nSh_laneTo hT h
          · cases h
    · cases h
theorem nSh_once {T' : jT} {p' i j a b : Nat} (hT : nSh T) (h : pOnce B n T p i j a b = .inr (T', p')) : nSh T' := by
  unfold pOnce at h
  split at h
  · cases h
  · split at h
    · cases h
    · split at h
      · cases h
        exact nSh_N hT
      · cases h
theorem nSh_cross {T' : jT} {p' : Nat} (hT : nSh T) (h : pCross B n T p = .inr (T', p')) : nSh T' := by
  unfold pCross at h
  split at h
  · cases h
  · cases h
    exact nSh_N hT
theorem nSh_body {T' : jT} {p' : Nat} (hT : nSh T) (h : pBody B n T p = .inr (T', p')) : nSh T' := by
  unfold pBody at h
  split at h
  · exact nSh_place hT h
  · split at h
    · exact nSh_lane hT h
    · split at h
      · exact nSh_cross hT h
      · split at h
        · exact nSh_once hT h
        · split at h
          · exact nSh_once hT h
          · cases h
theorem nSh_part {T' : jT} {p' : Nat} (hT : nSh T) (h : pPart B n T p = .inr (T', p')) : nSh T' := by
  unfold pPart at h
  split at h
  · cases h
  · next T1 p1 e =>
    split at h
    · cases h
      exact nSh_body hT e
    · cases h
theorem nSh_all {T' : jT} : ∀ (k : Nat) (T : jT) (p : Nat), nSh T → pAll B n k T p = .inr T' → nSh T'
  | 0, T, p, hT, h => by
    rw [pAll] at h
    cases h
    exact hT
  | k + 1, T, p, hT, h => by
    rw [pAll] at h
    split at h
    · cases h
      exact hT
    · split at h
      · cases h
      · next T1 p1 e => exact nSh_all k T1 p1 (nSh_part hT e) h
/-- the cells that taken writes -/
def mtk (a k : Nat) : Bool := (a == 133 && (k == 20 || k == 21 || k == 24 || k == 25 || k == 28 || k == 30)) || a == 138 || a == 140 || a == 142 || a == 144 || a == 145 || a == 148
def mKt (μ ν : jMem) : Prop := (∀ a k, mtk a k = false → gI ν a k = gI μ a k) ∧ (∀ a k, gL ν a k = gL μ a k) ∧ (∀ a k, gR ν a k = gR μ a k) ∧ (∀ a, gS ν a = gS μ a) ∧ gN ν = gN μ
theorem mKt.rf : mKt μ μ := ⟨fun _ _ _ => rfl, fun _ _ => rfl, fun _ _ => rfl, fun _ => rfl, rfl⟩
theorem mKt.sI {ν : jMem} {a k : Nat} {v : Int32} (ha : mtk a k = true) (h : mKt μ ν) : mKt μ (sI ν a k v) := ⟨fun x j hx => by
  have hq : ¬ (x = a ∧ j = k) := fun q => by
    rw [q.1, q.2, ha] at hx
    cases hx
  rw [gI_sI, if_neg hq]
  exact h.1 x j hx, h.2⟩
theorem mKt.wd {ν : jMem} (h : mKt μ ν) (hw : jWd L t μ) : jWd L t ν := jWd_of h.2.2.2.1 h.2.2.1 hw
theorem sM_taken (hW : jWd L t μ) (hT : qOk B n T) (hN : nSh T) (hA : mA B n T (tP T) μ) (h : ∀ ν, mKt μ ν → jTM T ν → Q (some (.int (nI (tP T)))) ν) : jC d 227 [.ref 133] μ Q := by
  obtain ⟨⟨a1, a2, a3, a4, a5, a6, a7⟩, b, c, e⟩ := hA
  have h8 := hT.1.1.1
  have l12 := hT.1.1.2.1
  have dg := fun i hi => (hT.1.2.1 i hi).2.2.2
  have hM : ∀ ν, mKt μ ν → gI ν 133 20 = nI (tP T) → gI ν 133 21 = nI (tLn T) → gI ν 133 28 = nI (tCr T) → gI ν 133 24 = nI (tSl T) → gI ν 133 25 = nI (tHe T) → gI ν 133 30 = 0 → (∀ k, k < 24 → gI ν 138 k = gI μ 139 k) → (∀ k, k < 8 → gI ν 140 k = gI μ 141 k) → (∀ k, k < 32 → gI ν 142 k = gI μ 143 k) → (∀ k, k < 12 → gI ν 144 k = gI μ 146 k ∧ gI ν 145 k = gI μ 147 k ∧ gI ν 148 k = 0) → Q (some (.int (nI (tP T)))) ν := fun ν K m1 m2 m3 m4 m5 m6 q1 q2 q3 q4 => h ν K ⟨⟨m1, m2, m3, m4, m5, m6.trans (by rw [hT.2.2.1]; rfl)⟩, fun i hi => by
    rw [q1 _ (by omega), q1 _ (by omega), q1 _ (by omega), q2 _ (by omega)]
    obtain ⟨b1, b2, b3, b4, b5⟩ := b i hi
    exact ⟨b1, b2, b3, b4⟩, fun i k hi hk => by
    have := dg i hi
    rw [q3 _ (by omega)]
    exact c i k hi hk, fun l hl => by
    obtain ⟨z1, z2, z3⟩ := q4 l (by omega)
    rw [z1, z2, z3, show tSh T l = 0 from hN l]
    exact ⟨(e l hl).1, (e l hl).2, rfl⟩⟩
  clear h b c e hN
  have loop4 : ∀ (m i : Nat) (ν : jMem), i + m = 12 → mKt μ ν → gI ν 133 20 = nI (tP T) → gI ν 133 21 = nI (tLn T) → gI ν 133 28 = nI (tCr T) → gI ν 133 24 = nI (tSl T) → gI ν 133 25 = nI (tHe T) → gI ν 133 30 = 0 → (∀ k, k < 24 → gI ν 138 k = gI μ 139 k) → (∀ k, k < 8 → gI ν 140 k = gI μ 141 k) → (∀ k, k < 32 → gI ν 142 k = gI μ 143 k) → (∀ k, k < i → gI ν 144 k = gI μ 146 k ∧ gI ν 145 k = gI μ 147 k ∧ gI ν 148 k = 0) → jR d 227 125 [some (.ref 133), some (.int (nI i))] [] (0, 0) ν Q := by
    intro m
    induction m with
    | zero =>
      intro i ν hi K m1 m2 m3 m4 m5 m6 q1 q2 q3 q4
      obtain rfl : i = 12 := by omega
      have hWν := K.wd hW
      have kk := hM ν K m1 m2 m3 m4 m5 m6 q1 q2 q3 q4
      refine b227_125 ?_
      repeat' (first | refine b227_47 ?_ | refine b227_71 ?_ | refine b227_73 ?_ | refine b227_97 ?_ | refine b227_99 ?_ | refine b227_123 ?_ | refine b227_168 ?_ | dsimp only [jb_e0, jb_ec, jb_n, jb_c, jx_op, j1i_c, j2i_c, j1l_c, j2l_c, jil_c, j1r_c, jri_c, jrii_c, jril_c, jrl_c, jrr_c, j2i'_c, jdup_i, jdup_r, jdup2_c, jdup2_l, jpo_c, jli, jll, jlr, jat_0, jat_s, jst, jst2, jkill_i, jkill_r, jkill_l, jkill_n, jnone, jgv_0, jgv_1, jgv_2, jgv_3, jrv_s, jput_0, jput_1, jput_2, jput_3, jpop_0, jpop_1, jcl_s, jc1, jc2, jvi, Nat.reduceAdd, jol_i, jol_l, jol_n, jap_n, jap_c, List.map_cons, List.map_nil, List.sum_cons, List.sum_nil, jcI, jcL, jcR, gI_sI, gI_sL, gI_sR, gL_sI, gL_sL, gL_sR, gR_sI, gR_sL, gR_sR, gS_sI, gS_sL, gS_sR, gN_sI, gN_sL, gN_sR] | simp (disch := omega) only [Nat.zero_le, true_and, and_true, and_self, Nat.reduceLeDiff, true_or, or_true, false_or, or_false, Nat.reduceEqDiff, false_and, and_false, if_false, if_true, reduceIte, not_true_eq_false, not_false_eq_true, true_imp_iff, false_imp_iff, List.map_cons, List.map_nil, List.sum_cons, List.sum_nil, jcI, jcL, jcR, Nat.reduceAdd, jrv_s, j1r_c, jap_n, jap_c, gI_sI, gL_sL, gI_sL, gL_sI, an_lt, an_le, an_eq, an_lt0, an_0le, an_0lt, an_le0, an_eq0, an_eq1, an_1lt, an_le1, an_1le, an_lt1, an_eqm, an_sub, an_sub1, an_div, an_rem, an_in, an_in0, an_in1, an_cl, an_cl0, an_cl1, nI_add, nI_1, an_1a, pk_mul, Nat.reduceMul, jz10, jz01, j00, j11, jb0, Classical.not_not, eq_self, an_ite, an_of, an_nm, nI_l, lN_add, lN_mul, lN_i, lj_2, lj_3, lj_4, lj_5, lj_6, lj_7, lj_8, lj_9, lj_10, lj_11, lj_12, lj_13, lj_14, lj_15, lj_16, lj_17, lj_18, lj_19, lj_20, lj_21, lj_22, lj_23, lj_24, lj_25, lj_26, lj_27, lj_28, lj_29, lj_30, lj_31, lj_32, lj_33, lj_34, lj_35, lj_36, lj_37, lj_38, lj_39, lj_40, lj_48, lj_50, lj_57, lj_59, lj_60, lj_63, lj_64, lj_65, lj_90, lj_96, lj_97, lj_99, lj_100, lj_101, lj_105, lj_112, lj_114, lj_116, lj_119, lj_122, lj_128, lj_200, lj_255, lj_256, lj_500, lj_777, lj_1000, jr_133_4 hWν, jr_133_5 hWν, jr_133_6 hWν, jr_133_7 hWν, jr_133_31 hWν, jr_133_32 hWν, jr_133_33 hWν, jr_133_34 hWν, jr_133_35 hWν, jr_133_36 hWν, jr_133_37 hWν, jr_133_38 hWν, jr_133_39 hWν, jr_133_40 hWν, jr_133_41 hWν, jr_133_42 hWν, jr_133_44 hWν, jr_133_45 hWν, jr_133_46 hWν, jr_133_47 hWν, jr_133_48 hWν, jr_133_49 hWν, jr_133_50 hWν, jr_133_51 hWν, jr_133_55 hWν, jr_133_56 hWν, jr_133_57 hWν, jr_133_58 hWν, jr_133_62 hWν, jr_133_65 hWν, jr_133_66 hWν, jr_133_67 hWν, jr_133_68 hWν, jr_133_69 hWν, jr_133_70 hWν, jr_133_71 hWν, jr_133_74 hWν, jr_133_75 hWν, hWν.1, jS0_133, jS0_134, jS0_135, jS0_136, jS0_137, jS0_138, jS0_139, jS0_140, jS0_141, jS0_142, jS0_143, jS0_144, jS0_145, jS0_146, jS0_147, jS0_148, jS0_149, jS0_150, jS0_151, jS0_152, jS0_153, jS0_154, jS0_155, jS0_156, jS0_157, jS0_158, jS0_159, jS0_160, jS0_161, jS0_162, jS0_163, jS0_164, jS0_165, jS0_166, jS0_167, jS0_168, jS0_169, jS0_170, jS0_171, m1] | (refine br_c (fun _ => ?_) (fun _ => ?_) <;> try (exfalso; omega)) | (refine br_d (fun _ => ?_) (fun _ => ?_) <;> try (exfalso; omega)) | refine And.intro ?_ ?_ | (refine Nat.ne_of_gt ?_; omega))
      all_goals exact kk
    | succ m ih =>
      intro i ν hi K m1 m2 m3 m4 m5 m6 q1 q2 q3 q4
      have hWν := K.wd hW
      have f1 := K.1 146 i rfl
      have f2 := K.1 147 i rfl
      have kk := ih (i + 1) (sI (sI (sI ν 144 i (gI μ 146 i)) 145 i (gI μ 147 i)) 148 i 0) (by omega) (((K.sI rfl).sI rfl).sI rfl) m1 m2 m3 m4 m5 m6 q1 q2 q3 (fun k hk => by
        by_cases z : k = i
        · subst z
          refine ⟨?_, ?_, ?_⟩
          · rw [gI_sI, if_neg (by omega), gI_sI, if_neg (by omega), gI_sI, if_pos ⟨rfl, rfl⟩]
          · rw [gI_sI, if_neg (by omega), gI_sI, if_pos ⟨rfl, rfl⟩]
          · rw [gI_sI, if_pos ⟨rfl, rfl⟩]
        · rw [gI_sI, if_neg (by omega), gI_sI, if_neg (by omega), gI_sI, if_neg (by omega), gI_sI, if_neg (by omega), gI_sI, if_neg (by omega), gI_sI, if_neg (by omega), gI_sI, if_neg (by omega), gI_sI, if_neg (by omega), gI_sI, if_neg (by omega)]
          exact q4 k (by omega))
      clear hM ih
      refine b227_125 ?_
      repeat' (first | refine b227_47 ?_ | refine b227_71 ?_ | refine b227_73 ?_ | refine b227_97 ?_ | refine b227_99 ?_ | refine b227_123 ?_ | refine b227_168 ?_ | dsimp only [jb_e0, jb_ec, jb_n, jb_c, jx_op, j1i_c, j2i_c, j1l_c, j2l_c, jil_c, j1r_c, jri_c, jrii_c, jril_c, jrl_c, jrr_c, j2i'_c, jdup_i, jdup_r, jdup2_c, jdup2_l, jpo_c, jli, jll, jlr, jat_0, jat_s, jst, jst2, jkill_i, jkill_r, jkill_l, jkill_n, jnone, jgv_0, jgv_1, jgv_2, jgv_3, jrv_s, jput_0, jput_1, jput_2, jput_3, jpop_0, jpop_1, jcl_s, jc1, jc2, jvi, Nat.reduceAdd, jol_i, jol_l, jol_n, jap_n, jap_c, List.map_cons, List.map_nil, List.sum_cons, List.sum_nil, jcI, jcL, jcR, gI_sI, gI_sL, gI_sR, gL_sI, gL_sL, gL_sR, gR_sI, gR_sL, gR_sR, gS_sI, gS_sL, gS_sR, gN_sI, gN_sL, gN_sR] | simp (disch := omega) only [Nat.zero_le, true_and, and_true, and_self, Nat.reduceLeDiff, true_or, or_true, false_or, or_false, Nat.reduceEqDiff, false_and, and_false, if_false, if_true, reduceIte, not_true_eq_false, not_false_eq_true, true_imp_iff, false_imp_iff, List.map_cons, List.map_nil, List.sum_cons, List.sum_nil, jcI, jcL, jcR, Nat.reduceAdd, jrv_s, j1r_c, jap_n, jap_c, gI_sI, gL_sL, gI_sL, gL_sI, an_lt, an_le, an_eq, an_lt0, an_0le, an_0lt, an_le0, an_eq0, an_eq1, an_1lt, an_le1, an_1le, an_lt1, an_eqm, an_sub, an_sub1, an_div, an_rem, an_in, an_in0, an_in1, an_cl, an_cl0, an_cl1, nI_add, nI_1, an_1a, pk_mul, Nat.reduceMul, jz10, jz01, j00, j11, jb0, Classical.not_not, eq_self, an_ite, an_of, an_nm, nI_l, lN_add, lN_mul, lN_i, lj_2, lj_3, lj_4, lj_5, lj_6, lj_7, lj_8, lj_9, lj_10, lj_11, lj_12, lj_13, lj_14, lj_15, lj_16, lj_17, lj_18, lj_19, lj_20, lj_21, lj_22, lj_23, lj_24, lj_25, lj_26, lj_27, lj_28, lj_29, lj_30, lj_31, lj_32, lj_33, lj_34, lj_35, lj_36, lj_37, lj_38, lj_39, lj_40, lj_48, lj_50, lj_57, lj_59, lj_60, lj_63, lj_64, lj_65, lj_90, lj_96, lj_97, lj_99, lj_100, lj_101, lj_105, lj_112, lj_114, lj_116, lj_119, lj_122, lj_128, lj_200, lj_255, lj_256, lj_500, lj_777, lj_1000, jr_133_4 hWν, jr_133_5 hWν, jr_133_6 hWν, jr_133_7 hWν, jr_133_31 hWν, jr_133_32 hWν, jr_133_33 hWν, jr_133_34 hWν, jr_133_35 hWν, jr_133_36 hWν, jr_133_37 hWν, jr_133_38 hWν, jr_133_39 hWν, jr_133_40 hWν, jr_133_41 hWν, jr_133_42 hWν, jr_133_44 hWν, jr_133_45 hWν, jr_133_46 hWν, jr_133_47 hWν, jr_133_48 hWν, jr_133_49 hWν, jr_133_50 hWν, jr_133_51 hWν, jr_133_55 hWν, jr_133_56 hWν, jr_133_57 hWν, jr_133_58 hWν, jr_133_62 hWν, jr_133_65 hWν, jr_133_66 hWν, jr_133_67 hWν, jr_133_68 hWν, jr_133_69 hWν, jr_133_70 hWν, jr_133_71 hWν, jr_133_74 hWν, jr_133_75 hWν, hWν.1, jS0_133, jS0_134, jS0_135, jS0_136, jS0_137, jS0_138, jS0_139, jS0_140, jS0_141, jS0_142, jS0_143, jS0_144, jS0_145, jS0_146, jS0_147, jS0_148, jS0_149, jS0_150, jS0_151, jS0_152, jS0_153, jS0_154, jS0_155, jS0_156, jS0_157, jS0_158, jS0_159, jS0_160, jS0_161, jS0_162, jS0_163, jS0_164, jS0_165, jS0_166, jS0_167, jS0_168, jS0_169, jS0_170, jS0_171, f1, f2] | (refine br_c (fun _ => ?_) (fun _ => ?_) <;> try (exfalso; omega)) | (refine br_d (fun _ => ?_) (fun _ => ?_) <;> try (exfalso; omega)) | refine And.intro ?_ ?_ | (refine Nat.ne_of_gt ?_; omega))
      all_goals exact kk
  have loop3 : ∀ (m i : Nat) (ν : jMem), i + m = 32 → mKt μ ν → gI ν 133 20 = nI (tP T) → gI ν 133 21 = nI (tLn T) → gI ν 133 28 = nI (tCr T) → gI ν 133 24 = nI (tSl T) → gI ν 133 25 = nI (tHe T) → gI ν 133 30 = 0 → (∀ k, k < 24 → gI ν 138 k = gI μ 139 k) → (∀ k, k < 8 → gI ν 140 k = gI μ 141 k) → (∀ k, k < i → gI ν 142 k = gI μ 143 k) → jR d 227 99 [some (.ref 133), some (.int (nI i))] [] (0, 0) ν Q := by
    intro m
    induction m with
    | zero =>
      intro i ν hi K m1 m2 m3 m4 m5 m6 q1 q2 q3
      obtain rfl : i = 32 := by omega
      have hWν := K.wd hW
      have kk := loop4 12 0 ν (by omega) K m1 m2 m3 m4 m5 m6 q1 q2 q3 (fun k hk => absurd hk (Nat.not_lt_zero _))
      have z0 : nI 0 = 0 := rfl
      rw [z0] at kk
      clear hM loop4
      refine b227_99 ?_
      repeat' (first | refine b227_47 ?_ | refine b227_71 ?_ | refine b227_73 ?_ | refine b227_97 ?_ | refine b227_123 ?_ | refine b227_168 ?_ | dsimp only [jb_e0, jb_ec, jb_n, jb_c, jx_op, j1i_c, j2i_c, j1l_c, j2l_c, jil_c, j1r_c, jri_c, jrii_c, jril_c, jrl_c, jrr_c, j2i'_c, jdup_i, jdup_r, jdup2_c, jdup2_l, jpo_c, jli, jll, jlr, jat_0, jat_s, jst, jst2, jkill_i, jkill_r, jkill_l, jkill_n, jnone, jgv_0, jgv_1, jgv_2, jgv_3, jrv_s, jput_0, jput_1, jput_2, jput_3, jpop_0, jpop_1, jcl_s, jc1, jc2, jvi, Nat.reduceAdd, jol_i, jol_l, jol_n, jap_n, jap_c, List.map_cons, List.map_nil, List.sum_cons, List.sum_nil, jcI, jcL, jcR, gI_sI, gI_sL, gI_sR, gL_sI, gL_sL, gL_sR, gR_sI, gR_sL, gR_sR, gS_sI, gS_sL, gS_sR, gN_sI, gN_sL, gN_sR] | simp (disch := omega) only [Nat.zero_le, true_and, and_true, and_self, Nat.reduceLeDiff, true_or, or_true, false_or, or_false, Nat.reduceEqDiff, false_and, and_false, if_false, if_true, reduceIte, not_true_eq_false, not_false_eq_true, true_imp_iff, false_imp_iff, List.map_cons, List.map_nil, List.sum_cons, List.sum_nil, jcI, jcL, jcR, Nat.reduceAdd, jrv_s, j1r_c, jap_n, jap_c, gI_sI, gL_sL, gI_sL, gL_sI, an_lt, an_le, an_eq, an_lt0, an_0le, an_0lt, an_le0, an_eq0, an_eq1, an_1lt, an_le1, an_1le, an_lt1, an_eqm, an_sub, an_sub1, an_div, an_rem, an_in, an_in0, an_in1, an_cl, an_cl0, an_cl1, nI_add, nI_1, an_1a, pk_mul, Nat.reduceMul, jz10, jz01, j00, j11, jb0, Classical.not_not, eq_self, an_ite, an_of, an_nm, nI_l, lN_add, lN_mul, lN_i, lj_2, lj_3, lj_4, lj_5, lj_6, lj_7, lj_8, lj_9, lj_10, lj_11, lj_12, lj_13, lj_14, lj_15, lj_16, lj_17, lj_18, lj_19, lj_20, lj_21, lj_22, lj_23, lj_24, lj_25, lj_26, lj_27, lj_28, lj_29, lj_30, lj_31, lj_32, lj_33, lj_34, lj_35, lj_36, lj_37, lj_38, lj_39, lj_40, lj_48, lj_50, lj_57, lj_59, lj_60, lj_63, lj_64, lj_65, lj_90, lj_96, lj_97, lj_99, lj_100, lj_101, lj_105, lj_112, lj_114, lj_116, lj_119, lj_122, lj_128, lj_200, lj_255, lj_256, lj_500, lj_777, lj_1000, jr_133_4 hWν, jr_133_5 hWν, jr_133_6 hWν, jr_133_7 hWν, jr_133_31 hWν, jr_133_32 hWν, jr_133_33 hWν, jr_133_34 hWν, jr_133_35 hWν, jr_133_36 hWν, jr_133_37 hWν, jr_133_38 hWν, jr_133_39 hWν, jr_133_40 hWν, jr_133_41 hWν, jr_133_42 hWν, jr_133_44 hWν, jr_133_45 hWν, jr_133_46 hWν, jr_133_47 hWν, jr_133_48 hWν, jr_133_49 hWν, jr_133_50 hWν, jr_133_51 hWν, jr_133_55 hWν, jr_133_56 hWν, jr_133_57 hWν, jr_133_58 hWν, jr_133_62 hWν, jr_133_65 hWν, jr_133_66 hWν, jr_133_67 hWν, jr_133_68 hWν, jr_133_69 hWν, jr_133_70 hWν, jr_133_71 hWν, jr_133_74 hWν, jr_133_75 hWν, hWν.1, jS0_133, jS0_134, jS0_135, jS0_136, jS0_137, jS0_138, jS0_139, jS0_140, jS0_141, jS0_142, jS0_143, jS0_144, jS0_145, jS0_146, jS0_147, jS0_148, jS0_149, jS0_150, jS0_151, jS0_152, jS0_153, jS0_154, jS0_155, jS0_156, jS0_157, jS0_158, jS0_159, jS0_160, jS0_161, jS0_162, jS0_163, jS0_164, jS0_165, jS0_166, jS0_167, jS0_168, jS0_169, jS0_170, jS0_171] | (refine br_c (fun _ => ?_) (fun _ => ?_) <;> try (exfalso; omega)) | (refine br_d (fun _ => ?_) (fun _ => ?_) <;> try (exfalso; omega)) | refine And.intro ?_ ?_ | (refine Nat.ne_of_gt ?_; omega))
      all_goals exact kk
    | succ m ih =>
      intro i ν hi K m1 m2 m3 m4 m5 m6 q1 q2 q3
      have hWν := K.wd hW
      have f1 := K.1 143 i rfl
      have kk := ih (i + 1) (sI ν 142 i (gI μ 143 i)) (by omega) (K.sI rfl) m1 m2 m3 m4 m5 m6 q1 q2 (fun k hk => by
        by_cases z : k = i
        · subst z
          rw [gI_sI, if_pos ⟨rfl, rfl⟩]
        · rw [gI_sI, if_neg (by omega)]
          exact q3 k (by omega))
      clear hM ih loop4
      refine b227_99 ?_
      repeat' (first | refine b227_47 ?_ | refine b227_71 ?_ | refine b227_73 ?_ | refine b227_97 ?_ | refine b227_123 ?_ | refine b227_168 ?_ | dsimp only [jb_e0, jb_ec, jb_n, jb_c, jx_op, j1i_c, j2i_c, j1l_c, j2l_c, jil_c, j1r_c, jri_c, jrii_c, jril_c, jrl_c, jrr_c, j2i'_c, jdup_i, jdup_r, jdup2_c, jdup2_l, jpo_c, jli, jll, jlr, jat_0, jat_s, jst, jst2, jkill_i, jkill_r, jkill_l, jkill_n, jnone, jgv_0, jgv_1, jgv_2, jgv_3, jrv_s, jput_0, jput_1, jput_2, jput_3, jpop_0, jpop_1, jcl_s, jc1, jc2, jvi, Nat.reduceAdd, jol_i, jol_l, jol_n, jap_n, jap_c, List.map_cons, List.map_nil, List.sum_cons, List.sum_nil, jcI, jcL, jcR, gI_sI, gI_sL, gI_sR, gL_sI, gL_sL, gL_sR, gR_sI, gR_sL, gR_sR, gS_sI, gS_sL, gS_sR, gN_sI, gN_sL, gN_sR] | simp (disch := omega) only [Nat.zero_le, true_and, and_true, and_self, Nat.reduceLeDiff, true_or, or_true, false_or, or_false, Nat.reduceEqDiff, false_and, and_false, if_false, if_true, reduceIte, not_true_eq_false, not_false_eq_true, true_imp_iff, false_imp_iff, List.map_cons, List.map_nil, List.sum_cons, List.sum_nil, jcI, jcL, jcR, Nat.reduceAdd, jrv_s, j1r_c, jap_n, jap_c, gI_sI, gL_sL, gI_sL, gL_sI, an_lt, an_le, an_eq, an_lt0, an_0le, an_0lt, an_le0, an_eq0, an_eq1, an_1lt, an_le1, an_1le, an_lt1, an_eqm, an_sub, an_sub1, an_div, an_rem, an_in, an_in0, an_in1, an_cl, an_cl0, an_cl1, nI_add, nI_1, an_1a, pk_mul, Nat.reduceMul, jz10, jz01, j00, j11, jb0, Classical.not_not, eq_self, an_ite, an_of, an_nm, nI_l, lN_add, lN_mul, lN_i, lj_2, lj_3, lj_4, lj_5, lj_6, lj_7, lj_8, lj_9, lj_10, lj_11, lj_12, lj_13, lj_14, lj_15, lj_16, lj_17, lj_18, lj_19, lj_20, lj_21, lj_22, lj_23, lj_24, lj_25, lj_26, lj_27, lj_28, lj_29, lj_30, lj_31, lj_32, lj_33, lj_34, lj_35, lj_36, lj_37, lj_38, lj_39, lj_40, lj_48, lj_50, lj_57, lj_59, lj_60, lj_63, lj_64, lj_65, lj_90, lj_96, lj_97, lj_99, lj_100, lj_101, lj_105, lj_112, lj_114, lj_116, lj_119, lj_122, lj_128, lj_200, lj_255, lj_256, lj_500, lj_777, lj_1000, jr_133_4 hWν, jr_133_5 hWν, jr_133_6 hWν, jr_133_7 hWν, jr_133_31 hWν, jr_133_32 hWν, jr_133_33 hWν, jr_133_34 hWν, jr_133_35 hWν, jr_133_36 hWν, jr_133_37 hWν, jr_133_38 hWν, jr_133_39 hWν, jr_133_40 hWν, jr_133_41 hWν, jr_133_42 hWν, jr_133_44 hWν, jr_133_45 hWν, jr_133_46 hWν, jr_133_47 hWν, jr_133_48 hWν, jr_133_49 hWν, jr_133_50 hWν, jr_133_51 hWν, jr_133_55 hWν, jr_133_56 hWν, jr_133_57 hWν, jr_133_58 hWν, jr_133_62 hWν, jr_133_65 hWν, jr_133_66 hWν, jr_133_67 hWν, jr_133_68 hWν, jr_133_69 hWν, jr_133_70 hWν, jr_133_71 hWν, jr_133_74 hWν, jr_133_75 hWν, hWν.1, jS0_133, jS0_134, jS0_135, jS0_136, jS0_137, jS0_138, jS0_139, jS0_140, jS0_141, jS0_142, jS0_143, jS0_144, jS0_145, jS0_146, jS0_147, jS0_148, jS0_149, jS0_150, jS0_151, jS0_152, jS0_153, jS0_154, jS0_155, jS0_156, jS0_157, jS0_158, jS0_159, jS0_160, jS0_161, jS0_162, jS0_163, jS0_164, jS0_165, jS0_166, jS0_167, jS0_168, jS0_169, jS0_170, jS0_171, f1] | (refine br_c (fun _ => ?_) (fun _ => ?_) <;> try (exfalso; omega)) | (refine br_d (fun _ => ?_) (fun _ => ?_) <;> try (exfalso; omega)) | refine And.intro ?_ ?_ | (refine Nat.ne_of_gt ?_; omega))
      all_goals exact kk
  have loop2 : ∀ (m i : Nat) (ν : jMem), i + m = 8 → mKt μ ν → gI ν 133 20 = nI (tP T) → gI ν 133 21 = nI (tLn T) → gI ν 133 28 = nI (tCr T) → gI ν 133 24 = nI (tSl T) → gI ν 133 25 = nI (tHe T) → gI ν 133 30 = 0 → (∀ k, k < 24 → gI ν 138 k = gI μ 139 k) → (∀ k, k < i → gI ν 140 k = gI μ 141 k) → jR d 227 73 [some (.ref 133), some (.int (nI i))] [] (0, 0) ν Q := by
    intro m
    induction m with
    | zero =>
      intro i ν hi K m1 m2 m3 m4 m5 m6 q1 q2
      obtain rfl : i = 8 := by omega
      have hWν := K.wd hW
      have kk := loop3 32 0 ν (by omega) K m1 m2 m3 m4 m5 m6 q1 q2 (fun k hk => absurd hk (Nat.not_lt_zero _))
      have z0 : nI 0 = 0 := rfl
      rw [z0] at kk
      clear hM loop4 loop3
      refine b227_73 ?_
      repeat' (first | refine b227_47 ?_ | refine b227_71 ?_ | refine b227_97 ?_ | refine b227_123 ?_ | refine b227_125 ?_ | refine b227_168 ?_ | dsimp only [jb_e0, jb_ec, jb_n, jb_c, jx_op, j1i_c, j2i_c, j1l_c, j2l_c, jil_c, j1r_c, jri_c, jrii_c, jril_c, jrl_c, jrr_c, j2i'_c, jdup_i, jdup_r, jdup2_c, jdup2_l, jpo_c, jli, jll, jlr, jat_0, jat_s, jst, jst2, jkill_i, jkill_r, jkill_l, jkill_n, jnone, jgv_0, jgv_1, jgv_2, jgv_3, jrv_s, jput_0, jput_1, jput_2, jput_3, jpop_0, jpop_1, jcl_s, jc1, jc2, jvi, Nat.reduceAdd, jol_i, jol_l, jol_n, jap_n, jap_c, List.map_cons, List.map_nil, List.sum_cons, List.sum_nil, jcI, jcL, jcR, gI_sI, gI_sL, gI_sR, gL_sI, gL_sL, gL_sR, gR_sI, gR_sL, gR_sR, gS_sI, gS_sL, gS_sR, gN_sI, gN_sL, gN_sR] | simp (disch := omega) only [Nat.zero_le, true_and, and_true, and_self, Nat.reduceLeDiff, true_or, or_true, false_or, or_false, Nat.reduceEqDiff, false_and, and_false, if_false, if_true, reduceIte, not_true_eq_false, not_false_eq_true, true_imp_iff, false_imp_iff, List.map_cons, List.map_nil, List.sum_cons, List.sum_nil, jcI, jcL, jcR, Nat.reduceAdd, jrv_s, j1r_c, jap_n, jap_c, gI_sI, gL_sL, gI_sL, gL_sI, an_lt, an_le, an_eq, an_lt0, an_0le, an_0lt, an_le0, an_eq0, an_eq1, an_1lt, an_le1, an_1le, an_lt1, an_eqm, an_sub, an_sub1, an_div, an_rem, an_in, an_in0, an_in1, an_cl, an_cl0, an_cl1, nI_add, nI_1, an_1a, pk_mul, Nat.reduceMul, jz10, jz01, j00, j11, jb0, Classical.not_not, eq_self, an_ite, an_of, an_nm, nI_l, lN_add, lN_mul, lN_i, lj_2, lj_3, lj_4, lj_5, lj_6, lj_7, lj_8, lj_9, lj_10, lj_11, lj_12, lj_13, lj_14, lj_15, lj_16, lj_17, lj_18, lj_19, lj_20, lj_21, lj_22, lj_23, lj_24, lj_25, lj_26, lj_27, lj_28, lj_29, lj_30, lj_31, lj_32, lj_33, lj_34, lj_35, lj_36, lj_37, lj_38, lj_39, lj_40, lj_48, lj_50, lj_57, lj_59, lj_60, lj_63, lj_64, lj_65, lj_90, lj_96, lj_97, lj_99, lj_100, lj_101, lj_105, lj_112, lj_114, lj_116, lj_119, lj_122, lj_128, lj_200, lj_255, lj_256, lj_500, lj_777, lj_1000, jr_133_4 hWν, jr_133_5 hWν, jr_133_6 hWν, jr_133_7 hWν, jr_133_31 hWν, jr_133_32 hWν, jr_133_33 hWν, jr_133_34 hWν, jr_133_35 hWν, jr_133_36 hWν, jr_133_37 hWν, jr_133_38 hWν, jr_133_39 hWν, jr_133_40 hWν, jr_133_41 hWν, jr_133_42 hWν, jr_133_44 hWν, jr_133_45 hWν, jr_133_46 hWν, jr_133_47 hWν, jr_133_48 hWν, jr_133_49 hWν, jr_133_50 hWν, jr_133_51 hWν, jr_133_55 hWν, jr_133_56 hWν, jr_133_57 hWν, jr_133_58 hWν, jr_133_62 hWν, jr_133_65 hWν, jr_133_66 hWν, jr_133_67 hWν, jr_133_68 hWν, jr_133_69 hWν, jr_133_70 hWν, jr_133_71 hWν, jr_133_74 hWν, jr_133_75 hWν, hWν.1, jS0_133, jS0_134, jS0_135, jS0_136, jS0_137, jS0_138, jS0_139, jS0_140, jS0_141, jS0_142, jS0_143, jS0_144, jS0_145, jS0_146, jS0_147, jS0_148, jS0_149, jS0_150, jS0_151, jS0_152, jS0_153, jS0_154, jS0_155, jS0_156, jS0_157, jS0_158, jS0_159, jS0_160, jS0_161, jS0_162, jS0_163, jS0_164, jS0_165, jS0_166, jS0_167, jS0_168, jS0_169, jS0_170, jS0_171] | (refine br_c (fun _ => ?_) (fun _ => ?_) <;> try (exfalso; omega)) | (refine br_d (fun _ => ?_) (fun _ => ?_) <;> try (exfalso; omega)) | refine And.intro ?_ ?_ | (refine Nat.ne_of_gt ?_; omega))
      all_goals exact kk
    | succ m ih =>
      intro i ν hi K m1 m2 m3 m4 m5 m6 q1 q2
      have hWν := K.wd hW
      have f1 := K.1 141 i rfl
      have kk := ih (i + 1) (sI ν 140 i (gI μ 141 i)) (by omega) (K.sI rfl) m1 m2 m3 m4 m5 m6 q1 (fun k hk => by
        by_cases z : k = i
        · subst z
          rw [gI_sI, if_pos ⟨rfl, rfl⟩]
        · rw [gI_sI, if_neg (by omega)]
          exact q2 k (by omega))
      clear hM ih loop4 loop3
      refine b227_73 ?_
      repeat' (first | refine b227_47 ?_ | refine b227_71 ?_ | refine b227_97 ?_ | refine b227_123 ?_ | refine b227_125 ?_ | refine b227_168 ?_ | dsimp only [jb_e0, jb_ec, jb_n, jb_c, jx_op, j1i_c, j2i_c, j1l_c, j2l_c, jil_c, j1r_c, jri_c, jrii_c, jril_c, jrl_c, jrr_c, j2i'_c, jdup_i, jdup_r, jdup2_c, jdup2_l, jpo_c, jli, jll, jlr, jat_0, jat_s, jst, jst2, jkill_i, jkill_r, jkill_l, jkill_n, jnone, jgv_0, jgv_1, jgv_2, jgv_3, jrv_s, jput_0, jput_1, jput_2, jput_3, jpop_0, jpop_1, jcl_s, jc1, jc2, jvi, Nat.reduceAdd, jol_i, jol_l, jol_n, jap_n, jap_c, List.map_cons, List.map_nil, List.sum_cons, List.sum_nil, jcI, jcL, jcR, gI_sI, gI_sL, gI_sR, gL_sI, gL_sL, gL_sR, gR_sI, gR_sL, gR_sR, gS_sI, gS_sL, gS_sR, gN_sI, gN_sL, gN_sR] | simp (disch := omega) only [Nat.zero_le, true_and, and_true, and_self, Nat.reduceLeDiff, true_or, or_true, false_or, or_false, Nat.reduceEqDiff, false_and, and_false, if_false, if_true, reduceIte, not_true_eq_false, not_false_eq_true, true_imp_iff, false_imp_iff, List.map_cons, List.map_nil, List.sum_cons, List.sum_nil, jcI, jcL, jcR, Nat.reduceAdd, jrv_s, j1r_c, jap_n, jap_c, gI_sI, gL_sL, gI_sL, gL_sI, an_lt, an_le, an_eq, an_lt0, an_0le, an_0lt, an_le0, an_eq0, an_eq1, an_1lt, an_le1, an_1le, an_lt1, an_eqm, an_sub, an_sub1, an_div, an_rem, an_in, an_in0, an_in1, an_cl, an_cl0, an_cl1, nI_add, nI_1, an_1a, pk_mul, Nat.reduceMul, jz10, jz01, j00, j11, jb0, Classical.not_not, eq_self, an_ite, an_of, an_nm, nI_l, lN_add, lN_mul, lN_i, lj_2, lj_3, lj_4, lj_5, lj_6, lj_7, lj_8, lj_9, lj_10, lj_11, lj_12, lj_13, lj_14, lj_15, lj_16, lj_17, lj_18, lj_19, lj_20, lj_21, lj_22, lj_23, lj_24, lj_25, lj_26, lj_27, lj_28, lj_29, lj_30, lj_31, lj_32, lj_33, lj_34, lj_35, lj_36, lj_37, lj_38, lj_39, lj_40, lj_48, lj_50, lj_57, lj_59, lj_60, lj_63, lj_64, lj_65, lj_90, lj_96, lj_97, lj_99, lj_100, lj_101, lj_105, lj_112, lj_114, lj_116, lj_119, lj_122, lj_128, lj_200, lj_255, lj_256, lj_500, lj_777, lj_1000, jr_133_4 hWν, jr_133_5 hWν, jr_133_6 hWν, jr_133_7 hWν, jr_133_31 hWν, jr_133_32 hWν, jr_133_33 hWν, jr_133_34 hWν, jr_133_35 hWν, jr_133_36 hWν, jr_133_37 hWν, jr_133_38 hWν, jr_133_39 hWν, jr_133_40 hWν, jr_133_41 hWν, jr_133_42 hWν, jr_133_44 hWν, jr_133_45 hWν, jr_133_46 hWν, jr_133_47 hWν, jr_133_48 hWν, jr_133_49 hWν, jr_133_50 hWν, jr_133_51 hWν, jr_133_55 hWν, jr_133_56 hWν, jr_133_57 hWν, jr_133_58 hWν, jr_133_62 hWν, jr_133_65 hWν, jr_133_66 hWν, jr_133_67 hWν, jr_133_68 hWν, jr_133_69 hWν, jr_133_70 hWν, jr_133_71 hWν, jr_133_74 hWν, jr_133_75 hWν, hWν.1, jS0_133, jS0_134, jS0_135, jS0_136, jS0_137, jS0_138, jS0_139, jS0_140, jS0_141, jS0_142, jS0_143, jS0_144, jS0_145, jS0_146, jS0_147, jS0_148, jS0_149, jS0_150, jS0_151, jS0_152, jS0_153, jS0_154, jS0_155, jS0_156, jS0_157, jS0_158, jS0_159, jS0_160, jS0_161, jS0_162, jS0_163, jS0_164, jS0_165, jS0_166, jS0_167, jS0_168, jS0_169, jS0_170, jS0_171, f1] | (refine br_c (fun _ => ?_) (fun _ => ?_) <;> try (exfalso; omega)) | (refine br_d (fun _ => ?_) (fun _ => ?_) <;> try (exfalso; omega)) | refine And.intro ?_ ?_ | (refine Nat.ne_of_gt ?_; omega))
      all_goals exact kk
  have loop1 : ∀ (m i : Nat) (ν : jMem), i + m = 24 → mKt μ ν → gI ν 133 20 = nI (tP T) → gI ν 133 21 = nI (tLn T) → gI ν 133 28 = nI (tCr T) → gI ν 133 24 = nI (tSl T) → gI ν 133 25 = nI (tHe T) → gI ν 133 30 = 0 → (∀ k, k < i → gI ν 138 k = gI μ 139 k) → jR d 227 47 [some (.ref 133), some (.int (nI i))] [] (0, 0) ν Q := by
    intro m
    induction m with
    | zero =>
      intro i ν hi K m1 m2 m3 m4 m5 m6 q1
      obtain rfl : i = 24 := by omega
      have hWν := K.wd hW
      have kk := loop2 8 0 ν (by omega) K m1 m2 m3 m4 m5 m6 q1 (fun k hk => absurd hk (Nat.not_lt_zero _))
      have z0 : nI 0 = 0 := rfl
      rw [z0] at kk
      clear hM loop4 loop3 loop2
      refine b227_47 ?_
      repeat' (first | refine b227_71 ?_ | refine b227_97 ?_ | refine b227_99 ?_ | refine b227_123 ?_ | refine b227_125 ?_ | refine b227_168 ?_ | dsimp only [jb_e0, jb_ec, jb_n, jb_c, jx_op, j1i_c, j2i_c, j1l_c, j2l_c, jil_c, j1r_c, jri_c, jrii_c, jril_c, jrl_c, jrr_c, j2i'_c, jdup_i, jdup_r, jdup2_c, jdup2_l, jpo_c, jli, jll, jlr, jat_0, jat_s, jst, jst2, jkill_i, jkill_r, jkill_l, jkill_n, jnone, jgv_0, jgv_1, jgv_2, jgv_3, jrv_s, jput_0, jput_1, jput_2, jput_3, jpop_0, jpop_1, jcl_s, jc1, jc2, jvi, Nat.reduceAdd, jol_i, jol_l, jol_n, jap_n, jap_c, List.map_cons, List.map_nil, List.sum_cons, List.sum_nil, jcI, jcL, jcR, gI_sI, gI_sL, gI_sR, gL_sI, gL_sL, gL_sR, gR_sI, gR_sL, gR_sR, gS_sI, gS_sL, gS_sR, gN_sI, gN_sL, gN_sR] | simp (disch := omega) only [Nat.zero_le, true_and, and_true, and_self, Nat.reduceLeDiff, true_or, or_true, false_or, or_false, Nat.reduceEqDiff, false_and, and_false, if_false, if_true, reduceIte, not_true_eq_false, not_false_eq_true, true_imp_iff, false_imp_iff, List.map_cons, List.map_nil, List.sum_cons, List.sum_nil, jcI, jcL, jcR, Nat.reduceAdd, jrv_s, j1r_c, jap_n, jap_c, gI_sI, gL_sL, gI_sL, gL_sI, an_lt, an_le, an_eq, an_lt0, an_0le, an_0lt, an_le0, an_eq0, an_eq1, an_1lt, an_le1, an_1le, an_lt1, an_eqm, an_sub, an_sub1, an_div, an_rem, an_in, an_in0, an_in1, an_cl, an_cl0, an_cl1, nI_add, nI_1, an_1a, pk_mul, Nat.reduceMul, jz10, jz01, j00, j11, jb0, Classical.not_not, eq_self, an_ite, an_of, an_nm, nI_l, lN_add, lN_mul, lN_i, lj_2, lj_3, lj_4, lj_5, lj_6, lj_7, lj_8, lj_9, lj_10, lj_11, lj_12, lj_13, lj_14, lj_15, lj_16, lj_17, lj_18, lj_19, lj_20, lj_21, lj_22, lj_23, lj_24, lj_25, lj_26, lj_27, lj_28, lj_29, lj_30, lj_31, lj_32, lj_33, lj_34, lj_35, lj_36, lj_37, lj_38, lj_39, lj_40, lj_48, lj_50, lj_57, lj_59, lj_60, lj_63, lj_64, lj_65, lj_90, lj_96, lj_97, lj_99, lj_100, lj_101, lj_105, lj_112, lj_114, lj_116, lj_119, lj_122, lj_128, lj_200, lj_255, lj_256, lj_500, lj_777, lj_1000, jr_133_4 hWν, jr_133_5 hWν, jr_133_6 hWν, jr_133_7 hWν, jr_133_31 hWν, jr_133_32 hWν, jr_133_33 hWν, jr_133_34 hWν, jr_133_35 hWν, jr_133_36 hWν, jr_133_37 hWν, jr_133_38 hWν, jr_133_39 hWν, jr_133_40 hWν, jr_133_41 hWν, jr_133_42 hWν, jr_133_44 hWν, jr_133_45 hWν, jr_133_46 hWν, jr_133_47 hWν, jr_133_48 hWν, jr_133_49 hWν, jr_133_50 hWν, jr_133_51 hWν, jr_133_55 hWν, jr_133_56 hWν, jr_133_57 hWν, jr_133_58 hWν, jr_133_62 hWν, jr_133_65 hWν, jr_133_66 hWν, jr_133_67 hWν, jr_133_68 hWν, jr_133_69 hWν, jr_133_70 hWν, jr_133_71 hWν, jr_133_74 hWν, jr_133_75 hWν, hWν.1, jS0_133, jS0_134, jS0_135, jS0_136, jS0_137, jS0_138, jS0_139, jS0_140, jS0_141, jS0_142, jS0_143, jS0_144, jS0_145, jS0_146, jS0_147, jS0_148, jS0_149, jS0_150, jS0_151, jS0_152, jS0_153, jS0_154, jS0_155, jS0_156, jS0_157, jS0_158, jS0_159, jS0_160, jS0_161, jS0_162, jS0_163, jS0_164, jS0_165, jS0_166, jS0_167, jS0_168, jS0_169, jS0_170, jS0_171] | (refine br_c (fun _ => ?_) (fun _ => ?_) <;> try (exfalso; omega)) | (refine br_d (fun _ => ?_) (fun _ => ?_) <;> try (exfalso; omega)) | refine And.intro ?_ ?_ | (refine Nat.ne_of_gt ?_; omega))
      all_goals exact kk
    | succ m ih =>
      intro i ν hi K m1 m2 m3 m4 m5 m6 q1
      have hWν := K.wd hW
      have f1 := K.1 139 i rfl
      have kk := ih (i + 1) (sI ν 138 i (gI μ 139 i)) (by omega) (K.sI rfl) m1 m2 m3 m4 m5 m6 (fun k hk => by
        by_cases z : k = i
        · subst z
          rw [gI_sI, if_pos ⟨rfl, rfl⟩]
        · rw [gI_sI, if_neg (by omega)]
          exact q1 k (by omega))
      clear hM ih loop4 loop3 loop2
      refine b227_47 ?_
      repeat' (first | refine b227_71 ?_ | refine b227_97 ?_ | refine b227_99 ?_ | refine b227_123 ?_ | refine b227_125 ?_ | refine b227_168 ?_ | dsimp only [jb_e0, jb_ec, jb_n, jb_c, jx_op, j1i_c, j2i_c, j1l_c, j2l_c, jil_c, j1r_c, jri_c, jrii_c, jril_c, jrl_c, jrr_c, j2i'_c, jdup_i, jdup_r, jdup2_c, jdup2_l, jpo_c, jli, jll, jlr, jat_0, jat_s, jst, jst2, jkill_i, jkill_r, jkill_l, jkill_n, jnone, jgv_0, jgv_1, jgv_2, jgv_3, jrv_s, jput_0, jput_1, jput_2, jput_3, jpop_0, jpop_1, jcl_s, jc1, jc2, jvi, Nat.reduceAdd, jol_i, jol_l, jol_n, jap_n, jap_c, List.map_cons, List.map_nil, List.sum_cons, List.sum_nil, jcI, jcL, jcR, gI_sI, gI_sL, gI_sR, gL_sI, gL_sL, gL_sR, gR_sI, gR_sL, gR_sR, gS_sI, gS_sL, gS_sR, gN_sI, gN_sL, gN_sR] | simp (disch := omega) only [Nat.zero_le, true_and, and_true, and_self, Nat.reduceLeDiff, true_or, or_true, false_or, or_false, Nat.reduceEqDiff, false_and, and_false, if_false, if_true, reduceIte, not_true_eq_false, not_false_eq_true, true_imp_iff, false_imp_iff, List.map_cons, List.map_nil, List.sum_cons, List.sum_nil, jcI, jcL, jcR, Nat.reduceAdd, jrv_s, j1r_c, jap_n, jap_c, gI_sI, gL_sL, gI_sL, gL_sI, an_lt, an_le, an_eq, an_lt0, an_0le, an_0lt, an_le0, an_eq0, an_eq1, an_1lt, an_le1, an_1le, an_lt1, an_eqm, an_sub, an_sub1, an_div, an_rem, an_in, an_in0, an_in1, an_cl, an_cl0, an_cl1, nI_add, nI_1, an_1a, pk_mul, Nat.reduceMul, jz10, jz01, j00, j11, jb0, Classical.not_not, eq_self, an_ite, an_of, an_nm, nI_l, lN_add, lN_mul, lN_i, lj_2, lj_3, lj_4, lj_5, lj_6, lj_7, lj_8, lj_9, lj_10, lj_11, lj_12, lj_13, lj_14, lj_15, lj_16, lj_17, lj_18, lj_19, lj_20, lj_21, lj_22, lj_23, lj_24, lj_25, lj_26, lj_27, lj_28, lj_29, lj_30, lj_31, lj_32, lj_33, lj_34, lj_35, lj_36, lj_37, lj_38, lj_39, lj_40, lj_48, lj_50, lj_57, lj_59, lj_60, lj_63, lj_64, lj_65, lj_90, lj_96, lj_97, lj_99, lj_100, lj_101, lj_105, lj_112, lj_114, lj_116, lj_119, lj_122, lj_128, lj_200, lj_255, lj_256, lj_500, lj_777, lj_1000, jr_133_4 hWν, jr_133_5 hWν, jr_133_6 hWν, jr_133_7 hWν, jr_133_31 hWν, jr_133_32 hWν, jr_133_33 hWν, jr_133_34 hWν, jr_133_35 hWν, jr_133_36 hWν, jr_133_37 hWν, jr_133_38 hWν, jr_133_39 hWν, jr_133_40 hWν, jr_133_41 hWν, jr_133_42 hWν, jr_133_44 hWν, jr_133_45 hWν, jr_133_46 hWν, jr_133_47 hWν, jr_133_48 hWν, jr_133_49 hWν, jr_133_50 hWν, jr_133_51 hWν, jr_133_55 hWν, jr_133_56 hWν, jr_133_57 hWν, jr_133_58 hWν, jr_133_62 hWν, jr_133_65 hWν, jr_133_66 hWν, jr_133_67 hWν, jr_133_68 hWν, jr_133_69 hWν, jr_133_70 hWν, jr_133_71 hWν, jr_133_74 hWν, jr_133_75 hWν, hWν.1, jS0_133, jS0_134, jS0_135, jS0_136, jS0_137, jS0_138, jS0_139, jS0_140, jS0_141, jS0_142, jS0_143, jS0_144, jS0_145, jS0_146, jS0_147, jS0_148, jS0_149, jS0_150, jS0_151, jS0_152, jS0_153, jS0_154, jS0_155, jS0_156, jS0_157, jS0_158, jS0_159, jS0_160, jS0_161, jS0_162, jS0_163, jS0_164, jS0_165, jS0_166, jS0_167, jS0_168, jS0_169, jS0_170, jS0_171, f1] | (refine br_c (fun _ => ?_) (fun _ => ?_) <;> try (exfalso; omega)) | (refine br_d (fun _ => ?_) (fun _ => ?_) <;> try (exfalso; omega)) | refine And.intro ?_ ?_ | (refine Nat.ne_of_gt ?_; omega))
      all_goals exact kk
  have b5 := hT.1.1.2.2.2.2.1
  have fin : ∀ v : Nat, v ≤ 1 → v = tCr T → jR d 227 47 [some (.ref 133), some (.int 0)] [] (0, 0) (sI (sI (sI (sI (sI (sI μ 133 20 (nI (tP T))) 133 21 (nI (tLn T))) 133 28 (nI v)) 133 24 (nI (tSl T))) 133 25 (nI (tHe T))) 133 30 0) Q := fun v hv e => by
    subst e
    exact loop1 24 0 _ (by omega) ((((((mKt.rf.sI rfl).sI rfl).sI rfl).sI rfl).sI rfl).sI rfl) (by rw [gI_sI, if_neg (by omega), gI_sI, if_neg (by omega), gI_sI, if_neg (by omega), gI_sI, if_neg (by omega), gI_sI, if_neg (by omega), gI_sI, if_pos ⟨rfl, rfl⟩]) (by rw [gI_sI, if_neg (by omega), gI_sI, if_neg (by omega), gI_sI, if_neg (by omega), gI_sI, if_neg (by omega), gI_sI, if_pos ⟨rfl, rfl⟩]) (by rw [gI_sI, if_neg (by omega), gI_sI, if_neg (by omega), gI_sI, if_neg (by omega), gI_sI, if_pos ⟨rfl, rfl⟩]) (by rw [gI_sI, if_neg (by omega), gI_sI, if_neg (by omega), gI_sI, if_pos ⟨rfl, rfl⟩]) (by rw [gI_sI, if_neg (by omega), gI_sI, if_pos ⟨rfl, rfl⟩]) (by rw [gI_sI, if_pos ⟨rfl, rfl⟩]) (fun k hk => absurd hk (Nat.not_lt_zero _))
  clear hM loop4 loop3 loop2 loop1
  refine e227 (b227_0 ?_)
  rcases (show tCr T = 0 ∨ tCr T = 1 by omega) with z | z
  · have kk := fin 0 (by omega) z.symm
    rw [z] at a5
    have z0 : nI 0 = 0 := rfl
    rw [z0] at a5 kk
    repeat' (first | refine b227_71 ?_ | refine b227_73 ?_ | refine b227_97 ?_ | refine b227_99 ?_ | refine b227_123 ?_ | refine b227_125 ?_ | refine b227_168 ?_ | dsimp only [jb_e0, jb_ec, jb_n, jb_c, jx_op, j1i_c, j2i_c, j1l_c, j2l_c, jil_c, j1r_c, jri_c, jrii_c, jril_c, jrl_c, jrr_c, j2i'_c, jdup_i, jdup_r, jdup2_c, jdup2_l, jpo_c, jli, jll, jlr, jat_0, jat_s, jst, jst2, jkill_i, jkill_r, jkill_l, jkill_n, jnone, jgv_0, jgv_1, jgv_2, jgv_3, jrv_s, jput_0, jput_1, jput_2, jput_3, jpop_0, jpop_1, jcl_s, jc1, jc2, jvi, Nat.reduceAdd, jol_i, jol_l, jol_n, jap_n, jap_c, List.map_cons, List.map_nil, List.sum_cons, List.sum_nil, jcI, jcL, jcR, gI_sI, gI_sL, gI_sR, gL_sI, gL_sL, gL_sR, gR_sI, gR_sL, gR_sR, gS_sI, gS_sL, gS_sR, gN_sI, gN_sL, gN_sR] | simp (disch := omega) only [Nat.zero_le, true_and, and_true, and_self, Nat.reduceLeDiff, true_or, or_true, false_or, or_false, Nat.reduceEqDiff, false_and, and_false, if_false, if_true, reduceIte, not_true_eq_false, not_false_eq_true, true_imp_iff, false_imp_iff, List.map_cons, List.map_nil, List.sum_cons, List.sum_nil, jcI, jcL, jcR, Nat.reduceAdd, jrv_s, j1r_c, jap_n, jap_c, gI_sI, gL_sL, gI_sL, gL_sI, an_lt, an_le, an_eq, an_lt0, an_0le, an_0lt, an_le0, an_eq0, an_eq1, an_1lt, an_le1, an_1le, an_lt1, an_eqm, an_sub, an_sub1, an_div, an_rem, an_in, an_in0, an_in1, an_cl, an_cl0, an_cl1, nI_add, nI_1, an_1a, pk_mul, Nat.reduceMul, jz10, jz01, j00, j11, jb0, Classical.not_not, eq_self, an_ite, an_of, an_nm, nI_l, lN_add, lN_mul, lN_i, lj_2, lj_3, lj_4, lj_5, lj_6, lj_7, lj_8, lj_9, lj_10, lj_11, lj_12, lj_13, lj_14, lj_15, lj_16, lj_17, lj_18, lj_19, lj_20, lj_21, lj_22, lj_23, lj_24, lj_25, lj_26, lj_27, lj_28, lj_29, lj_30, lj_31, lj_32, lj_33, lj_34, lj_35, lj_36, lj_37, lj_38, lj_39, lj_40, lj_48, lj_50, lj_57, lj_59, lj_60, lj_63, lj_64, lj_65, lj_90, lj_96, lj_97, lj_99, lj_100, lj_101, lj_105, lj_112, lj_114, lj_116, lj_119, lj_122, lj_128, lj_200, lj_255, lj_256, lj_500, lj_777, lj_1000, jr_133_4 hW, jr_133_5 hW, jr_133_6 hW, jr_133_7 hW, jr_133_31 hW, jr_133_32 hW, jr_133_33 hW, jr_133_34 hW, jr_133_35 hW, jr_133_36 hW, jr_133_37 hW, jr_133_38 hW, jr_133_39 hW, jr_133_40 hW, jr_133_41 hW, jr_133_42 hW, jr_133_44 hW, jr_133_45 hW, jr_133_46 hW, jr_133_47 hW, jr_133_48 hW, jr_133_49 hW, jr_133_50 hW, jr_133_51 hW, jr_133_55 hW, jr_133_56 hW, jr_133_57 hW, jr_133_58 hW, jr_133_62 hW, jr_133_65 hW, jr_133_66 hW, jr_133_67 hW, jr_133_68 hW, jr_133_69 hW, jr_133_70 hW, jr_133_71 hW, jr_133_74 hW, jr_133_75 hW, hW.1, jS0_133, jS0_134, jS0_135, jS0_136, jS0_137, jS0_138, jS0_139, jS0_140, jS0_141, jS0_142, jS0_143, jS0_144, jS0_145, jS0_146, jS0_147, jS0_148, jS0_149, jS0_150, jS0_151, jS0_152, jS0_153, jS0_154, jS0_155, jS0_156, jS0_157, jS0_158, jS0_159, jS0_160, jS0_161, jS0_162, jS0_163, jS0_164, jS0_165, jS0_166, jS0_167, jS0_168, jS0_169, jS0_170, jS0_171, a1, a2, a3, a4, a5] | (refine br_c (fun _ => ?_) (fun _ => ?_) <;> try (exfalso; omega)) | (refine br_d (fun _ => ?_) (fun _ => ?_) <;> try (exfalso; omega)) | refine And.intro ?_ ?_ | (refine Nat.ne_of_gt ?_; omega))
    all_goals exact kk
  · have kk := fin 1 (by omega) z.symm
    rw [z] at a5
    have z1 : nI 1 = 1 := by decide
    rw [z1] at a5 kk
    repeat' (first | refine b227_71 ?_ | refine b227_73 ?_ | refine b227_97 ?_ | refine b227_99 ?_ | refine b227_123 ?_ | refine b227_125 ?_ | refine b227_168 ?_ | dsimp only [jb_e0, jb_ec, jb_n, jb_c, jx_op, j1i_c, j2i_c, j1l_c, j2l_c, jil_c, j1r_c, jri_c, jrii_c, jril_c, jrl_c, jrr_c, j2i'_c, jdup_i, jdup_r, jdup2_c, jdup2_l, jpo_c, jli, jll, jlr, jat_0, jat_s, jst, jst2, jkill_i, jkill_r, jkill_l, jkill_n, jnone, jgv_0, jgv_1, jgv_2, jgv_3, jrv_s, jput_0, jput_1, jput_2, jput_3, jpop_0, jpop_1, jcl_s, jc1, jc2, jvi, Nat.reduceAdd, jol_i, jol_l, jol_n, jap_n, jap_c, List.map_cons, List.map_nil, List.sum_cons, List.sum_nil, jcI, jcL, jcR, gI_sI, gI_sL, gI_sR, gL_sI, gL_sL, gL_sR, gR_sI, gR_sL, gR_sR, gS_sI, gS_sL, gS_sR, gN_sI, gN_sL, gN_sR] | simp (disch := omega) only [Nat.zero_le, true_and, and_true, and_self, Nat.reduceLeDiff, true_or, or_true, false_or, or_false, Nat.reduceEqDiff, false_and, and_false, if_false, if_true, reduceIte, not_true_eq_false, not_false_eq_true, true_imp_iff, false_imp_iff, List.map_cons, List.map_nil, List.sum_cons, List.sum_nil, jcI, jcL, jcR, Nat.reduceAdd, jrv_s, j1r_c, jap_n, jap_c, gI_sI, gL_sL, gI_sL, gL_sI, an_lt, an_le, an_eq, an_lt0, an_0le, an_0lt, an_le0, an_eq0, an_eq1, an_1lt, an_le1, an_1le, an_lt1, an_eqm, an_sub, an_sub1, an_div, an_rem, an_in, an_in0, an_in1, an_cl, an_cl0, an_cl1, nI_add, nI_1, an_1a, pk_mul, Nat.reduceMul, jz10, jz01, j00, j11, jb0, Classical.not_not, eq_self, an_ite, an_of, an_nm, nI_l, lN_add, lN_mul, lN_i, lj_2, lj_3, lj_4, lj_5, lj_6, lj_7, lj_8, lj_9, lj_10, lj_11, lj_12, lj_13, lj_14, lj_15, lj_16, lj_17, lj_18, lj_19, lj_20, lj_21, lj_22, lj_23, lj_24, lj_25, lj_26, lj_27, lj_28, lj_29, lj_30, lj_31, lj_32, lj_33, lj_34, lj_35, lj_36, lj_37, lj_38, lj_39, lj_40, lj_48, lj_50, lj_57, lj_59, lj_60, lj_63, lj_64, lj_65, lj_90, lj_96, lj_97, lj_99, lj_100, lj_101, lj_105, lj_112, lj_114, lj_116, lj_119, lj_122, lj_128, lj_200, lj_255, lj_256, lj_500, lj_777, lj_1000, jr_133_4 hW, jr_133_5 hW, jr_133_6 hW, jr_133_7 hW, jr_133_31 hW, jr_133_32 hW, jr_133_33 hW, jr_133_34 hW, jr_133_35 hW, jr_133_36 hW, jr_133_37 hW, jr_133_38 hW, jr_133_39 hW, jr_133_40 hW, jr_133_41 hW, jr_133_42 hW, jr_133_44 hW, jr_133_45 hW, jr_133_46 hW, jr_133_47 hW, jr_133_48 hW, jr_133_49 hW, jr_133_50 hW, jr_133_51 hW, jr_133_55 hW, jr_133_56 hW, jr_133_57 hW, jr_133_58 hW, jr_133_62 hW, jr_133_65 hW, jr_133_66 hW, jr_133_67 hW, jr_133_68 hW, jr_133_69 hW, jr_133_70 hW, jr_133_71 hW, jr_133_74 hW, jr_133_75 hW, hW.1, jS0_133, jS0_134, jS0_135, jS0_136, jS0_137, jS0_138, jS0_139, jS0_140, jS0_141, jS0_142, jS0_143, jS0_144, jS0_145, jS0_146, jS0_147, jS0_148, jS0_149, jS0_150, jS0_151, jS0_152, jS0_153, jS0_154, jS0_155, jS0_156, jS0_157, jS0_158, jS0_159, jS0_160, jS0_161, jS0_162, jS0_163, jS0_164, jS0_165, jS0_166, jS0_167, jS0_168, jS0_169, jS0_170, jS0_171, a1, a2, a3, a4, a5] | (refine br_c (fun _ => ?_) (fun _ => ?_) <;> try (exfalso; omega)) | (refine br_d (fun _ => ?_) (fun _ => ?_) <;> try (exfalso; omega)) | refine And.intro ?_ ?_ | (refine Nat.ne_of_gt ?_; omega))
    all_goals exact kk
end JTD8
