/-! value: the class's best -/
section JV6
variable {d L t : Nat} {μ : jMem} {Q : jQ} {W : Nat → Nat → Nat} {m n h p q i j k e b : Nat} {r : Nat → Nat → Int} {c β : Nat → Int}
/-- the corner of a number -/
def cN (W : Nat → Nat → Nat) (h l : Nat) : Int := vN (wZ W) ((bL h 6).getD 0 0) ((bL h 6).getD 1 0) ((bL h 6).getD 2 0) l
def cD (W : Nat → Nat → Nat) (h : Nat) : Int := vD (wZ W) ((bL h 6).getD 0 0) ((bL h 6).getD 1 0) ((bL h 6).getD 2 0)
def aC (W : Nat → Nat → Nat) (m n h : Nat) : Prop := aH m n h ∧ cD W h ≠ 0 ∧ vAl (wZ W) n (cN W h)
def vBest (W : Nat → Nat → Nat) (m n H : Nat) (β : Nat → Int) : Prop := ((∀ l, β l = 0) ∧ ∀ h, h < H → ¬ aC W m n h) ∨ ((∃ h, h < H ∧ aC W m n h ∧ β = cN W h) ∧ ∀ h, h < H → aC W m n h → ¬ vB (cN W h) β)
theorem aC_S (h : aC W m n p) : 0 < vS (cN W p) := vN_S h.2.1
theorem vB_self (c : Nat → Int) : ¬ vB c c := by
  unfold vB vLx
  omega
theorem vBest_b {H : Nat} (hw : ∀ i j, i < 3 → j < 3 → W i j ≤ 100) (hH : H ≤ 64) (hB : vBest W m n H β) : ∀ l, l < 4 → -6000000 ≤ β l ∧ β l ≤ 6000000 := fun l hl => by
  rcases hB with ⟨z, _⟩ | ⟨⟨h, hh, ⟨a, _⟩, rfl⟩, _⟩
  · rw [z]
    omega
  · have b3 := bL_3 h (by omega) a.1
    exact vN_b hw (by omega) (by omega) (by omega)
theorem vBest_skip {H : Nat} (hB : vBest W m n H β) (hn : ¬ aC W m n H) : vBest W m n (H + 1) β := by
  rcases hB with ⟨z, o⟩ | ⟨⟨h, hh, a, e⟩, o⟩
  · refine Or.inl ⟨z, fun h hh => ?_⟩
    by_cases e : h = H
    · rw [e]
      exact hn
    · exact o h (by omega)
  · refine Or.inr ⟨⟨h, by omega, a, e⟩, fun h' hh' a' => ?_⟩
    by_cases e : h' = H
    · rw [e] at a'
      exact absurd a' hn
    · exact o h' (by omega) a'
theorem vBest_keep {H : Nat} (hB : vBest W m n H β) (hb : ¬ (vS β = 0 ∨ vB (cN W H) β)) : vBest W m n (H + 1) β := by
  rcases hB with ⟨z, o⟩ | ⟨⟨h, hh, a, e⟩, o⟩
  · refine absurd (Or.inl ?_) hb
    unfold vS
    rw [z, z, z]
    rfl
  · refine Or.inr ⟨⟨h, by omega, a, e⟩, fun h' hh' a' => ?_⟩
    by_cases e : h' = H
    · rw [e]
      exact fun y => hb (Or.inr y)
    · exact o h' (by omega) a'
theorem vBest_take {H : Nat} (hB : vBest W m n H β) (ha : aC W m n H) (hb : vS β = 0 ∨ vB (cN W H) β) : vBest W m n (H + 1) (cN W H) := by
  refine Or.inr ⟨⟨H, by omega, ha, rfl⟩, fun h' hh' a' => ?_⟩
  by_cases e : h' = H
  · rw [e]
    exact vB_self _
  rcases hB with ⟨z, o⟩ | ⟨⟨h, hh, a, e⟩, o⟩
  · exact absurd a' (o h' (by omega))
  · have s := aC_S a
    rw [← e] at s
    have hb2 : vB (cN W H) β := by
      rcases hb with y | y
      · omega
      · exact y
    exact fun y => o h' (by omega) a' (vB_trans s (aC_S ha) (aC_S a') hb2 y)
theorem sg_solve (hW : jWd L t μ) (hG : gW W m n μ) (hz : ∀ l, l < 4 → gL μ 130 l = 0) (h : ∀ ν β, jFr [130, 131, 132] μ ν → (∀ l, l < 4 → gL ν 130 l = iL (β l)) → vBest W m n 64 β → Q none ν) : jC (d + 3) 7 [.ref 128] μ Q := by
  have hw : ∀ i j, i < 3 → j < 3 → W i j ≤ 100 := fun i j hi hj => (hG.2.1 i j hi hj).2
  have mono : ∀ {A : List Nat} {ν ξ : jMem}, jFr A ν ξ → (∀ a ∈ A, a = 130 ∨ a = 131 ∨ a = 132) → jFr [130, 131, 132] ν ξ := fun F s => F.mono (fun a ha => by
    have := s a ha
    simp
    exact this)
  have loop : ∀ (x H : Nat) (ν : jMem) (β : Nat → Int) (z : Option Value), H + x = 64 → jFr [130, 131, 132] μ ν → (∀ l, l < 4 → gL ν 130 l = iL (β l)) → vBest W m n H β → jR (d + 3) 7 2 [some (.ref 128), some (.int (nI H)), z] [] (0, 0) ν Q := by
    intro x
    induction x with
    | zero =>
      intro H ν β z hH F hβ hB
      obtain rfl : H = 64 := by omega
      have kk := h ν β F hβ hB
      refine b7_2 ?_
      repeat' (first | refine b7_39 ?_ | refine b7_62 ?_ | refine b7_68 ?_ | dsimp only [jb_e0, jb_ec, jb_n, jb_c, jx_op, j1i_c, j2i_c, j1l_c, j2l_c, jil_c, j1r_c, jri_c, jrii_c, jril_c, jrl_c, jrr_c, j2i'_c, jdup_i, jdup_r, jdup2_c, jdup2_l, jpo_c, jli, jll, jlr, jat_0, jat_s, jst, jst2, jkill_i, jkill_r, jkill_l, jkill_n, jnone, jgv_0, jgv_1, jgv_2, jgv_3, jrv_s, jput_0, jput_1, jput_2, jput_3, jpop_0, jpop_1, jcl_s, jc1, jc2, jvi, Nat.reduceAdd, jol_i, jol_l, jol_n, jap_n, jap_c, List.map_cons, List.map_nil, List.sum_cons, List.sum_nil, jcI, jcL, jcR, gI_sI, gI_sL, gI_sR, gL_sI, gL_sL, gL_sR, gR_sI, gR_sL, gR_sR, gS_sI, gS_sL, gS_sR, gN_sI, gN_sL, gN_sR] | simp (disch := omega) only [Nat.zero_le, true_and, and_true, and_self, Nat.reduceLeDiff, true_or, or_true, false_or, or_false, Nat.reduceEqDiff, false_and, and_false, if_false, if_true, reduceIte, not_true_eq_false, not_false_eq_true, true_imp_iff, false_imp_iff, List.map_cons, List.map_nil, List.sum_cons, List.sum_nil, jcI, jcL, jcR, Nat.reduceAdd, jrv_s, j1r_c, jap_n, jap_c, gI_sI, gL_sL, gI_sL, gL_sI, an_lt, an_le, an_eq, an_lt0, an_0le, an_0lt, an_le0, an_eq0, an_eq1, an_1lt, an_le1, an_1le, an_lt1, an_eqm, an_sub, an_sub1, an_div, an_rem, an_in, an_in0, an_in1, an_cl, an_cl0, an_cl1, nI_add, nI_1, an_1a, pk_mul, Nat.reduceMul, jz10, jz01, j00, j11, jb0, Classical.not_not, eq_self, an_ite, an_of, an_nm, nI_l, lN_add, lN_mul, lN_i, lj_2, lj_3, lj_4, lj_5, lj_6, lj_7, lj_8, lj_9, lj_10, lj_11, lj_12, lj_13, lj_14, lj_15, lj_16, lj_17, lj_18, lj_19, lj_20, lj_21, lj_22, lj_23, lj_24, lj_25, lj_26, lj_27, lj_28, lj_29, lj_30, lj_31, lj_32, lj_33, lj_34, lj_35, lj_36, lj_37, lj_38, lj_39, lj_40, lj_48, lj_50, lj_57, lj_59, lj_60, lj_63, lj_64, lj_65, lj_90, lj_96, lj_97, lj_99, lj_100, lj_101, lj_105, lj_112, lj_114, lj_116, lj_119, lj_122, lj_128, lj_200, lj_255, lj_256, lj_500, lj_777, lj_1000] | (refine br_c (fun _ => ?_) (fun _ => ?_) <;> try (exfalso; omega)) | (refine br_d (fun _ => ?_) (fun _ => ?_) <;> try (exfalso; omega)) | refine And.intro ?_ ?_ | (refine Nat.ne_of_gt ?_; omega))
      all_goals exact kk
    | succ x ih =>
      intro H ν β z hH F hβ hB
      have hWν := F.wd hW
      have hGν := hG.fr F (by simp) (by simp)
      have bβ := vBest_b hw (by omega) hB
      have skip : ∀ (ξ : jMem) (z : Option Value), jFr [130, 131, 132] ν ξ → (∀ l, gL ξ 130 l = gL ν 130 l) → vBest W m n (H + 1) β → jR (d + 3) 7 62 [some (.ref 128), some (.int (nI H)), z] [] (0, 0) ξ Q := fun ξ z F2 g hB2 => by
        have kk := ih (H + 1) ξ β z (by omega) (F.trans F2) (fun l hl => by
          rw [g]
          exact hβ l hl) hB2
        clear ih h
        refine b7_62 ?_
        repeat' (first | refine b7_39 ?_ | refine b7_62 ?_ | refine b7_68 ?_ | dsimp only [jb_e0, jb_ec, jb_n, jb_c, jx_op, j1i_c, j2i_c, j1l_c, j2l_c, jil_c, j1r_c, jri_c, jrii_c, jril_c, jrl_c, jrr_c, j2i'_c, jdup_i, jdup_r, jdup2_c, jdup2_l, jpo_c, jli, jll, jlr, jat_0, jat_s, jst, jst2, jkill_i, jkill_r, jkill_l, jkill_n, jnone, jgv_0, jgv_1, jgv_2, jgv_3, jrv_s, jput_0, jput_1, jput_2, jput_3, jpop_0, jpop_1, jcl_s, jc1, jc2, jvi, Nat.reduceAdd, jol_i, jol_l, jol_n, jap_n, jap_c, List.map_cons, List.map_nil, List.sum_cons, List.sum_nil, jcI, jcL, jcR, gI_sI, gI_sL, gI_sR, gL_sI, gL_sL, gL_sR, gR_sI, gR_sL, gR_sR, gS_sI, gS_sL, gS_sR, gN_sI, gN_sL, gN_sR] | simp (disch := omega) only [Nat.zero_le, true_and, and_true, and_self, Nat.reduceLeDiff, true_or, or_true, false_or, or_false, Nat.reduceEqDiff, false_and, and_false, if_false, if_true, reduceIte, not_true_eq_false, not_false_eq_true, true_imp_iff, false_imp_iff, List.map_cons, List.map_nil, List.sum_cons, List.sum_nil, jcI, jcL, jcR, Nat.reduceAdd, jrv_s, j1r_c, jap_n, jap_c, gI_sI, gL_sL, gI_sL, gL_sI, an_lt, an_le, an_eq, an_lt0, an_0le, an_0lt, an_le0, an_eq0, an_eq1, an_1lt, an_le1, an_1le, an_lt1, an_eqm, an_sub, an_sub1, an_div, an_rem, an_in, an_in0, an_in1, an_cl, an_cl0, an_cl1, nI_add, nI_1, an_1a, pk_mul, Nat.reduceMul, jz10, jz01, j00, j11, jb0, Classical.not_not, eq_self, an_ite, an_of, an_nm, nI_l, lN_add, lN_mul, lN_i, lj_2, lj_3, lj_4, lj_5, lj_6, lj_7, lj_8, lj_9, lj_10, lj_11, lj_12, lj_13, lj_14, lj_15, lj_16, lj_17, lj_18, lj_19, lj_20, lj_21, lj_22, lj_23, lj_24, lj_25, lj_26, lj_27, lj_28, lj_29, lj_30, lj_31, lj_32, lj_33, lj_34, lj_35, lj_36, lj_37, lj_38, lj_39, lj_40, lj_48, lj_50, lj_57, lj_59, lj_60, lj_63, lj_64, lj_65, lj_90, lj_96, lj_97, lj_99, lj_100, lj_101, lj_105, lj_112, lj_114, lj_116, lj_119, lj_122, lj_128, lj_200, lj_255, lj_256, lj_500, lj_777, lj_1000] | (refine br_c (fun _ => ?_) (fun _ => ?_) <;> try (exfalso; omega)) | (refine br_d (fun _ => ?_) (fun _ => ?_) <;> try (exfalso; omega)) | refine And.intro ?_ ?_ | (refine Nat.ne_of_gt ?_; omega))
        all_goals exact kk
      have copy : ∀ (y l : Nat) (ξ : jMem), l + y = 4 → jFr [130, 131, 132] ν ξ → (∀ l', l' < 4 → gL ξ 131 l' = iL (cN W H l')) → (∀ l', l' < l → gL ξ 130 l' = iL (cN W H l')) → vBest W m n (H + 1) (cN W H) → jR (d + 3) 7 39 [some (.ref 128), some (.int (nI H)), some (.int (nI l))] [] (0, 0) ξ Q := by
        intro y
        induction y with
        | zero =>
          intro l ξ hl F2 h1 h2 hB2
          obtain rfl : l = 4 := by omega
          have kk := ih (H + 1) ξ (cN W H) (some (.int (nI 4))) (by omega) (F.trans F2) h2 hB2
          clear ih h skip
          refine b7_39 ?_
          repeat' (first | refine b7_62 ?_ | refine b7_68 ?_ | dsimp only [jb_e0, jb_ec, jb_n, jb_c, jx_op, j1i_c, j2i_c, j1l_c, j2l_c, jil_c, j1r_c, jri_c, jrii_c, jril_c, jrl_c, jrr_c, j2i'_c, jdup_i, jdup_r, jdup2_c, jdup2_l, jpo_c, jli, jll, jlr, jat_0, jat_s, jst, jst2, jkill_i, jkill_r, jkill_l, jkill_n, jnone, jgv_0, jgv_1, jgv_2, jgv_3, jrv_s, jput_0, jput_1, jput_2, jput_3, jpop_0, jpop_1, jcl_s, jc1, jc2, jvi, Nat.reduceAdd, jol_i, jol_l, jol_n, jap_n, jap_c, List.map_cons, List.map_nil, List.sum_cons, List.sum_nil, jcI, jcL, jcR, gI_sI, gI_sL, gI_sR, gL_sI, gL_sL, gL_sR, gR_sI, gR_sL, gR_sR, gS_sI, gS_sL, gS_sR, gN_sI, gN_sL, gN_sR] | simp (disch := omega) only [Nat.zero_le, true_and, and_true, and_self, Nat.reduceLeDiff, true_or, or_true, false_or, or_false, Nat.reduceEqDiff, false_and, and_false, if_false, if_true, reduceIte, not_true_eq_false, not_false_eq_true, true_imp_iff, false_imp_iff, List.map_cons, List.map_nil, List.sum_cons, List.sum_nil, jcI, jcL, jcR, Nat.reduceAdd, jrv_s, j1r_c, jap_n, jap_c, gI_sI, gL_sL, gI_sL, gL_sI, an_lt, an_le, an_eq, an_lt0, an_0le, an_0lt, an_le0, an_eq0, an_eq1, an_1lt, an_le1, an_1le, an_lt1, an_eqm, an_sub, an_sub1, an_div, an_rem, an_in, an_in0, an_in1, an_cl, an_cl0, an_cl1, nI_add, nI_1, an_1a, pk_mul, Nat.reduceMul, jz10, jz01, j00, j11, jb0, Classical.not_not, eq_self, an_ite, an_of, an_nm, nI_l, lN_add, lN_mul, lN_i, lj_2, lj_3, lj_4, lj_5, lj_6, lj_7, lj_8, lj_9, lj_10, lj_11, lj_12, lj_13, lj_14, lj_15, lj_16, lj_17, lj_18, lj_19, lj_20, lj_21, lj_22, lj_23, lj_24, lj_25, lj_26, lj_27, lj_28, lj_29, lj_30, lj_31, lj_32, lj_33, lj_34, lj_35, lj_36, lj_37, lj_38, lj_39, lj_40, lj_48, lj_50, lj_57, lj_59, lj_60, lj_63, lj_64, lj_65, lj_90, lj_96, lj_97, lj_99, lj_100, lj_101, lj_105, lj_112, lj_114, lj_116, lj_119, lj_122, lj_128, lj_200, lj_255, lj_256, lj_500, lj_777, lj_1000] | (refine br_c (fun _ => ?_) (fun _ => ?_) <;> try (exfalso; omega)) | (refine br_d (fun _ => ?_) (fun _ => ?_) <;> try (exfalso; omega)) | refine And.intro ?_ ?_ | (refine Nat.ne_of_gt ?_; omega))
          all_goals exact kk
        | succ y ihy =>
          intro l ξ hl F2 h1 h2 hB2
          have hWξ := F2.wd hWν
          have g := h1 l (by omega)
          have kk := ihy (l + 1) (sL ξ 130 l (iL (cN W H l))) (by omega) (F2.trans (jFr.sL (by simp))) h1 (fun l' hl' => by
            rw [gL_sL]
            by_cases e : l' = l
            · rw [if_pos ⟨rfl, e⟩, e]
            · rw [if_neg (fun y => e y.2)]
              exact h2 l' (by omega)) hB2
          clear ih h skip ihy
          refine b7_39 ?_
          repeat' (first | refine b7_62 ?_ | refine b7_68 ?_ | dsimp only [jb_e0, jb_ec, jb_n, jb_c, jx_op, j1i_c, j2i_c, j1l_c, j2l_c, jil_c, j1r_c, jri_c, jrii_c, jril_c, jrl_c, jrr_c, j2i'_c, jdup_i, jdup_r, jdup2_c, jdup2_l, jpo_c, jli, jll, jlr, jat_0, jat_s, jst, jst2, jkill_i, jkill_r, jkill_l, jkill_n, jnone, jgv_0, jgv_1, jgv_2, jgv_3, jrv_s, jput_0, jput_1, jput_2, jput_3, jpop_0, jpop_1, jcl_s, jc1, jc2, jvi, Nat.reduceAdd, jol_i, jol_l, jol_n, jap_n, jap_c, List.map_cons, List.map_nil, List.sum_cons, List.sum_nil, jcI, jcL, jcR, gI_sI, gI_sL, gI_sR, gL_sI, gL_sL, gL_sR, gR_sI, gR_sL, gR_sR, gS_sI, gS_sL, gS_sR, gN_sI, gN_sL, gN_sR] | simp (disch := omega) only [Nat.zero_le, true_and, and_true, and_self, Nat.reduceLeDiff, true_or, or_true, false_or, or_false, Nat.reduceEqDiff, false_and, and_false, if_false, if_true, reduceIte, not_true_eq_false, not_false_eq_true, true_imp_iff, false_imp_iff, List.map_cons, List.map_nil, List.sum_cons, List.sum_nil, jcI, jcL, jcR, Nat.reduceAdd, jrv_s, j1r_c, jap_n, jap_c, gI_sI, gL_sL, gI_sL, gL_sI, an_lt, an_le, an_eq, an_lt0, an_0le, an_0lt, an_le0, an_eq0, an_eq1, an_1lt, an_le1, an_1le, an_lt1, an_eqm, an_sub, an_sub1, an_div, an_rem, an_in, an_in0, an_in1, an_cl, an_cl0, an_cl1, nI_add, nI_1, an_1a, pk_mul, Nat.reduceMul, jz10, jz01, j00, j11, jb0, Classical.not_not, eq_self, an_ite, an_of, an_nm, nI_l, lN_add, lN_mul, lN_i, lj_2, lj_3, lj_4, lj_5, lj_6, lj_7, lj_8, lj_9, lj_10, lj_11, lj_12, lj_13, lj_14, lj_15, lj_16, lj_17, lj_18, lj_19, lj_20, lj_21, lj_22, lj_23, lj_24, lj_25, lj_26, lj_27, lj_28, lj_29, lj_30, lj_31, lj_32, lj_33, lj_34, lj_35, lj_36, lj_37, lj_38, lj_39, lj_40, lj_48, lj_50, lj_57, lj_59, lj_60, lj_63, lj_64, lj_65, lj_90, lj_96, lj_97, lj_99, lj_100, lj_101, lj_105, lj_112, lj_114, lj_116, lj_119, lj_122, lj_128, lj_200, lj_255, lj_256, lj_500, lj_777, lj_1000, jr_128_2 hWξ, jr_128_3 hWξ, jr_128_4 hWξ, jr_128_5 hWξ, hWξ.1, jS0_128, jS0_129, jS0_130, jS0_131, jS0_132, g, jnone] | (refine br_c (fun _ => ?_) (fun _ => ?_) <;> try (exfalso; omega)) | (refine br_d (fun _ => ?_) (fun _ => ?_) <;> try (exfalso; omega)) | refine And.intro ?_ ?_ | (refine Nat.ne_of_gt ?_; omega))
          all_goals exact kk
      clear h ih
      have lay : ∀ (d : Nat) (Q' : jQ), (¬ aH m n H → ∀ ξ, jFr [132] ν ξ → Q' (some (.int 0)) ξ) → (aH m n H → ∀ ξ, jFr [132] ν ξ → (∀ e k, e < 3 → k < 4 → gL ξ 132 (e * 4 + k) = iL (vE (wZ W) ((bL H 6).getD e 0) k)) → Q' (some (.int 1)) ξ) → jC (d + 2) 8 [.ref 128, .int (nI H)] ν Q' := fun d Q' a b => sg_layEdges hWν hGν (by omega) a b
      refine b7_2 ?_
      by_cases cH : aH m n H
      case neg =>
        have lay0 : ∀ (d : Nat) (Q' : jQ), (∀ ξ, jFr [132] ν ξ → Q' (some (.int 0)) ξ) → jC (d + 2) 8 [.ref 128, .int (nI H)] ν Q' := fun d Q' a => lay d Q' (fun _ => a) (fun y => absurd y cH)
        have kk := fun ξ (F2 : jFr [132] ν ξ) => skip ξ z (mono F2 (by simp)) (fun l => (F2.1 130 (by simp)).2 l) (vBest_skip hB (fun y => cH y.1))
        clear copy skip lay
        repeat' (first | refine b7_68 ?_ | refine lay0 _ _ (fun ξ F2 => jh_i ?_) | dsimp only [jb_e0, jb_ec, jb_n, jb_c, jx_op, j1i_c, j2i_c, j1l_c, j2l_c, jil_c, j1r_c, jri_c, jrii_c, jril_c, jrl_c, jrr_c, j2i'_c, jdup_i, jdup_r, jdup2_c, jdup2_l, jpo_c, jli, jll, jlr, jat_0, jat_s, jst, jst2, jkill_i, jkill_r, jkill_l, jkill_n, jnone, jgv_0, jgv_1, jgv_2, jgv_3, jrv_s, jput_0, jput_1, jput_2, jput_3, jpop_0, jpop_1, jcl_s, jc1, jc2, jvi, Nat.reduceAdd, jol_i, jol_l, jol_n, jap_n, jap_c, List.map_cons, List.map_nil, List.sum_cons, List.sum_nil, jcI, jcL, jcR, gI_sI, gI_sL, gI_sR, gL_sI, gL_sL, gL_sR, gR_sI, gR_sL, gR_sR, gS_sI, gS_sL, gS_sR, gN_sI, gN_sL, gN_sR] | simp (disch := omega) only [Nat.zero_le, true_and, and_true, and_self, Nat.reduceLeDiff, true_or, or_true, false_or, or_false, Nat.reduceEqDiff, false_and, and_false, if_false, if_true, reduceIte, not_true_eq_false, not_false_eq_true, true_imp_iff, false_imp_iff, List.map_cons, List.map_nil, List.sum_cons, List.sum_nil, jcI, jcL, jcR, Nat.reduceAdd, jrv_s, j1r_c, jap_n, jap_c, gI_sI, gL_sL, gI_sL, gL_sI, an_lt, an_le, an_eq, an_lt0, an_0le, an_0lt, an_le0, an_eq0, an_eq1, an_1lt, an_le1, an_1le, an_lt1, an_eqm, an_sub, an_sub1, an_div, an_rem, an_in, an_in0, an_in1, an_cl, an_cl0, an_cl1, nI_add, nI_1, an_1a, pk_mul, Nat.reduceMul, jz10, jz01, j00, j11, jb0, Classical.not_not, eq_self, an_ite, an_of, an_nm, nI_l, lN_add, lN_mul, lN_i, lj_2, lj_3, lj_4, lj_5, lj_6, lj_7, lj_8, lj_9, lj_10, lj_11, lj_12, lj_13, lj_14, lj_15, lj_16, lj_17, lj_18, lj_19, lj_20, lj_21, lj_22, lj_23, lj_24, lj_25, lj_26, lj_27, lj_28, lj_29, lj_30, lj_31, lj_32, lj_33, lj_34, lj_35, lj_36, lj_37, lj_38, lj_39, lj_40, lj_48, lj_50, lj_57, lj_59, lj_60, lj_63, lj_64, lj_65, lj_90, lj_96, lj_97, lj_99, lj_100, lj_101, lj_105, lj_112, lj_114, lj_116, lj_119, lj_122, lj_128, lj_200, lj_255, lj_256, lj_500, lj_777, lj_1000, jr_128_2 hWν, jr_128_3 hWν, jr_128_4 hWν, jr_128_5 hWν, hWν.1, jS0_128, jS0_129, jS0_130, jS0_131, jS0_132] | (refine br_c (fun _ => ?_) (fun _ => ?_) <;> try (exfalso; omega)) | (refine br_d (fun _ => ?_) (fun _ => ?_) <;> try (exfalso; omega)) | refine And.intro ?_ ?_ | (refine Nat.ne_of_gt ?_; omega))
        refine jh_o ?_
        have k9 := kk ξ F2
        repeat' (first | refine b7_68 ?_ | dsimp only [jb_e0, jb_ec, jb_n, jb_c, jx_op, j1i_c, j2i_c, j1l_c, j2l_c, jil_c, j1r_c, jri_c, jrii_c, jril_c, jrl_c, jrr_c, j2i'_c, jdup_i, jdup_r, jdup2_c, jdup2_l, jpo_c, jli, jll, jlr, jat_0, jat_s, jst, jst2, jkill_i, jkill_r, jkill_l, jkill_n, jnone, jgv_0, jgv_1, jgv_2, jgv_3, jrv_s, jput_0, jput_1, jput_2, jput_3, jpop_0, jpop_1, jcl_s, jc1, jc2, jvi, Nat.reduceAdd, jol_i, jol_l, jol_n, jap_n, jap_c, List.map_cons, List.map_nil, List.sum_cons, List.sum_nil, jcI, jcL, jcR, gI_sI, gI_sL, gI_sR, gL_sI, gL_sL, gL_sR, gR_sI, gR_sL, gR_sR, gS_sI, gS_sL, gS_sR, gN_sI, gN_sL, gN_sR] | simp (disch := omega) only [Nat.zero_le, true_and, and_true, and_self, Nat.reduceLeDiff, true_or, or_true, false_or, or_false, Nat.reduceEqDiff, false_and, and_false, if_false, if_true, reduceIte, not_true_eq_false, not_false_eq_true, true_imp_iff, false_imp_iff, List.map_cons, List.map_nil, List.sum_cons, List.sum_nil, jcI, jcL, jcR, Nat.reduceAdd, jrv_s, j1r_c, jap_n, jap_c, gI_sI, gL_sL, gI_sL, gL_sI, an_lt, an_le, an_eq, an_lt0, an_0le, an_0lt, an_le0, an_eq0, an_eq1, an_1lt, an_le1, an_1le, an_lt1, an_eqm, an_sub, an_sub1, an_div, an_rem, an_in, an_in0, an_in1, an_cl, an_cl0, an_cl1, nI_add, nI_1, an_1a, pk_mul, Nat.reduceMul, jz10, jz01, j00, j11, jb0, Classical.not_not, eq_self, an_ite, an_of, an_nm, nI_l, lN_add, lN_mul, lN_i, lj_2, lj_3, lj_4, lj_5, lj_6, lj_7, lj_8, lj_9, lj_10, lj_11, lj_12, lj_13, lj_14, lj_15, lj_16, lj_17, lj_18, lj_19, lj_20, lj_21, lj_22, lj_23, lj_24, lj_25, lj_26, lj_27, lj_28, lj_29, lj_30, lj_31, lj_32, lj_33, lj_34, lj_35, lj_36, lj_37, lj_38, lj_39, lj_40, lj_48, lj_50, lj_57, lj_59, lj_60, lj_63, lj_64, lj_65, lj_90, lj_96, lj_97, lj_99, lj_100, lj_101, lj_105, lj_112, lj_114, lj_116, lj_119, lj_122, lj_128, lj_200, lj_255, lj_256, lj_500, lj_777, lj_1000] | (refine br_c (fun _ => ?_) (fun _ => ?_) <;> try (exfalso; omega)) | (refine br_d (fun _ => ?_) (fun _ => ?_) <;> try (exfalso; omega)) | refine And.intro ?_ ?_ | (refine Nat.ne_of_gt ?_; omega))
        all_goals exact k9
      have lay1 : ∀ (d : Nat) (Q' : jQ), (∀ ξ, jFr [132] ν ξ → (∀ e k, e < 3 → k < 4 → gL ξ 132 (e * 4 + k) = iL (vE (wZ W) ((bL H 6).getD e 0) k)) → Q' (some (.int 1)) ξ) → jC (d + 2) 8 [.ref 128, .int (nI H)] ν Q' := fun d Q' a => lay d Q' (fun y => absurd cH y) (fun _ => a)
      clear lay
      repeat' (first | refine b7_68 ?_ | refine lay1 _ _ (fun ξ F2 rows => jh_i ?_) | dsimp only [jb_e0, jb_ec, jb_n, jb_c, jx_op, j1i_c, j2i_c, j1l_c, j2l_c, jil_c, j1r_c, jri_c, jrii_c, jril_c, jrl_c, jrr_c, j2i'_c, jdup_i, jdup_r, jdup2_c, jdup2_l, jpo_c, jli, jll, jlr, jat_0, jat_s, jst, jst2, jkill_i, jkill_r, jkill_l, jkill_n, jnone, jgv_0, jgv_1, jgv_2, jgv_3, jrv_s, jput_0, jput_1, jput_2, jput_3, jpop_0, jpop_1, jcl_s, jc1, jc2, jvi, Nat.reduceAdd, jol_i, jol_l, jol_n, jap_n, jap_c, List.map_cons, List.map_nil, List.sum_cons, List.sum_nil, jcI, jcL, jcR, gI_sI, gI_sL, gI_sR, gL_sI, gL_sL, gL_sR, gR_sI, gR_sL, gR_sR, gS_sI, gS_sL, gS_sR, gN_sI, gN_sL, gN_sR] | simp (disch := omega) only [Nat.zero_le, true_and, and_true, and_self, Nat.reduceLeDiff, true_or, or_true, false_or, or_false, Nat.reduceEqDiff, false_and, and_false, if_false, if_true, reduceIte, not_true_eq_false, not_false_eq_true, true_imp_iff, false_imp_iff, List.map_cons, List.map_nil, List.sum_cons, List.sum_nil, jcI, jcL, jcR, Nat.reduceAdd, jrv_s, j1r_c, jap_n, jap_c, gI_sI, gL_sL, gI_sL, gL_sI, an_lt, an_le, an_eq, an_lt0, an_0le, an_0lt, an_le0, an_eq0, an_eq1, an_1lt, an_le1, an_1le, an_lt1, an_eqm, an_sub, an_sub1, an_div, an_rem, an_in, an_in0, an_in1, an_cl, an_cl0, an_cl1, nI_add, nI_1, an_1a, pk_mul, Nat.reduceMul, jz10, jz01, j00, j11, jb0, Classical.not_not, eq_self, an_ite, an_of, an_nm, nI_l, lN_add, lN_mul, lN_i, lj_2, lj_3, lj_4, lj_5, lj_6, lj_7, lj_8, lj_9, lj_10, lj_11, lj_12, lj_13, lj_14, lj_15, lj_16, lj_17, lj_18, lj_19, lj_20, lj_21, lj_22, lj_23, lj_24, lj_25, lj_26, lj_27, lj_28, lj_29, lj_30, lj_31, lj_32, lj_33, lj_34, lj_35, lj_36, lj_37, lj_38, lj_39, lj_40, lj_48, lj_50, lj_57, lj_59, lj_60, lj_63, lj_64, lj_65, lj_90, lj_96, lj_97, lj_99, lj_100, lj_101, lj_105, lj_112, lj_114, lj_116, lj_119, lj_122, lj_128, lj_200, lj_255, lj_256, lj_500, lj_777, lj_1000, jr_128_2 hWν, jr_128_3 hWν, jr_128_4 hWν, jr_128_5 hWν, hWν.1, jS0_128, jS0_129, jS0_130, jS0_131, jS0_132] | (refine br_c (fun _ => ?_) (fun _ => ?_) <;> try (exfalso; omega)) | (refine br_d (fun _ => ?_) (fun _ => ?_) <;> try (exfalso; omega)) | refine And.intro ?_ ?_ | (refine Nat.ne_of_gt ?_; omega))
      refine jh_o ?_
      have hWξ := F2.wd hWν
      have b3 := bL_3 H (by omega) cH.1
      have rc : ∀ l, rCo (fun e k => vE (wZ W) ((bL H 6).getD e 0) k) l = vCo (wZ W) ((bL H 6).getD 0 0) ((bL H 6).getD 1 0) ((bL H 6).getD 2 0) l := fun l => rfl
      have rS : vS (rCo (fun e k => vE (wZ W) ((bL H 6).getD e 0) k)) = cD W H := vCo_S
      have nb : ∀ l, l < 4 → -6000000 ≤ cN W H l ∧ cN W H l ≤ 6000000 := fun l hl => vN_b hw (by omega) (by omega) (by omega)
      have fc : ∀ (d : Nat) (Q' : jQ), (∀ ζ, jFr [131] ξ ζ → (∀ l, l < 4 → gL ζ 131 l = iL (cN W H l)) → Q' (some (.int (if cD W H = 0 then 0 else 1))) ζ) → jC (d + 2) 11 [.ref 128] ξ Q' := fun d Q' a => sg_findCorner (r := fun e k => vE (wZ W) ((bL H 6).getD e 0) k) hWξ rows (fun l => by
        rw [rc]
        exact vCo_b hw (by omega) (by omega) (by omega)) (fun ζ F3 g => by
        rw [rS]
        exact a ζ F3 g)
      by_cases cd : cD W H = 0
      · simp only [if_pos cd] at fc
        have kk := fun ζ (F3 : jFr [131] ξ ζ) => skip ζ z ((mono F2 (by simp)).trans (mono F3 (by simp))) (fun l => ((F3.1 130 (by simp)).2 l).trans ((F2.1 130 (by simp)).2 l)) (vBest_skip hB (fun y => y.2.1 cd))
        clear copy skip
        repeat' (first | refine b7_68 ?_ | refine fc _ _ (fun ζ F3 g => jh_i ?_) | dsimp only [jb_e0, jb_ec, jb_n, jb_c, jx_op, j1i_c, j2i_c, j1l_c, j2l_c, jil_c, j1r_c, jri_c, jrii_c, jril_c, jrl_c, jrr_c, j2i'_c, jdup_i, jdup_r, jdup2_c, jdup2_l, jpo_c, jli, jll, jlr, jat_0, jat_s, jst, jst2, jkill_i, jkill_r, jkill_l, jkill_n, jnone, jgv_0, jgv_1, jgv_2, jgv_3, jrv_s, jput_0, jput_1, jput_2, jput_3, jpop_0, jpop_1, jcl_s, jc1, jc2, jvi, Nat.reduceAdd, jol_i, jol_l, jol_n, jap_n, jap_c, List.map_cons, List.map_nil, List.sum_cons, List.sum_nil, jcI, jcL, jcR, gI_sI, gI_sL, gI_sR, gL_sI, gL_sL, gL_sR, gR_sI, gR_sL, gR_sR, gS_sI, gS_sL, gS_sR, gN_sI, gN_sL, gN_sR] | simp (disch := omega) only [Nat.zero_le, true_and, and_true, and_self, Nat.reduceLeDiff, true_or, or_true, false_or, or_false, Nat.reduceEqDiff, false_and, and_false, if_false, if_true, reduceIte, not_true_eq_false, not_false_eq_true, true_imp_iff, false_imp_iff, List.map_cons, List.map_nil, List.sum_cons, List.sum_nil, jcI, jcL, jcR, Nat.reduceAdd, jrv_s, j1r_c, jap_n, jap_c, gI_sI, gL_sL, gI_sL, gL_sI, an_lt, an_le, an_eq, an_lt0, an_0le, an_0lt, an_le0, an_eq0, an_eq1, an_1lt, an_le1, an_1le, an_lt1, an_eqm, an_sub, an_sub1, an_div, an_rem, an_in, an_in0, an_in1, an_cl, an_cl0, an_cl1, nI_add, nI_1, an_1a, pk_mul, Nat.reduceMul, jz10, jz01, j00, j11, jb0, Classical.not_not, eq_self, an_ite, an_of, an_nm, nI_l, lN_add, lN_mul, lN_i, lj_2, lj_3, lj_4, lj_5, lj_6, lj_7, lj_8, lj_9, lj_10, lj_11, lj_12, lj_13, lj_14, lj_15, lj_16, lj_17, lj_18, lj_19, lj_20, lj_21, lj_22, lj_23, lj_24, lj_25, lj_26, lj_27, lj_28, lj_29, lj_30, lj_31, lj_32, lj_33, lj_34, lj_35, lj_36, lj_37, lj_38, lj_39, lj_40, lj_48, lj_50, lj_57, lj_59, lj_60, lj_63, lj_64, lj_65, lj_90, lj_96, lj_97, lj_99, lj_100, lj_101, lj_105, lj_112, lj_114, lj_116, lj_119, lj_122, lj_128, lj_200, lj_255, lj_256, lj_500, lj_777, lj_1000, jr_128_2 hWξ, jr_128_3 hWξ, jr_128_4 hWξ, jr_128_5 hWξ, hWξ.1, jS0_128, jS0_129, jS0_130, jS0_131, jS0_132] | (refine br_c (fun _ => ?_) (fun _ => ?_) <;> try (exfalso; omega)) | (refine br_d (fun _ => ?_) (fun _ => ?_) <;> try (exfalso; omega)) | refine And.intro ?_ ?_ | (refine Nat.ne_of_gt ?_; omega))
        refine jh_o ?_
        have k9 := kk ζ F3
        repeat' (first | refine b7_68 ?_ | dsimp only [jb_e0, jb_ec, jb_n, jb_c, jx_op, j1i_c, j2i_c, j1l_c, j2l_c, jil_c, j1r_c, jri_c, jrii_c, jril_c, jrl_c, jrr_c, j2i'_c, jdup_i, jdup_r, jdup2_c, jdup2_l, jpo_c, jli, jll, jlr, jat_0, jat_s, jst, jst2, jkill_i, jkill_r, jkill_l, jkill_n, jnone, jgv_0, jgv_1, jgv_2, jgv_3, jrv_s, jput_0, jput_1, jput_2, jput_3, jpop_0, jpop_1, jcl_s, jc1, jc2, jvi, Nat.reduceAdd, jol_i, jol_l, jol_n, jap_n, jap_c, List.map_cons, List.map_nil, List.sum_cons, List.sum_nil, jcI, jcL, jcR, gI_sI, gI_sL, gI_sR, gL_sI, gL_sL, gL_sR, gR_sI, gR_sL, gR_sR, gS_sI, gS_sL, gS_sR, gN_sI, gN_sL, gN_sR] | simp (disch := omega) only [Nat.zero_le, true_and, and_true, and_self, Nat.reduceLeDiff, true_or, or_true, false_or, or_false, Nat.reduceEqDiff, false_and, and_false, if_false, if_true, reduceIte, not_true_eq_false, not_false_eq_true, true_imp_iff, false_imp_iff, List.map_cons, List.map_nil, List.sum_cons, List.sum_nil, jcI, jcL, jcR, Nat.reduceAdd, jrv_s, j1r_c, jap_n, jap_c, gI_sI, gL_sL, gI_sL, gL_sI, an_lt, an_le, an_eq, an_lt0, an_0le, an_0lt, an_le0, an_eq0, an_eq1, an_1lt, an_le1, an_1le, an_lt1, an_eqm, an_sub, an_sub1, an_div, an_rem, an_in, an_in0, an_in1, an_cl, an_cl0, an_cl1, nI_add, nI_1, an_1a, pk_mul, Nat.reduceMul, jz10, jz01, j00, j11, jb0, Classical.not_not, eq_self, an_ite, an_of, an_nm, nI_l, lN_add, lN_mul, lN_i, lj_2, lj_3, lj_4, lj_5, lj_6, lj_7, lj_8, lj_9, lj_10, lj_11, lj_12, lj_13, lj_14, lj_15, lj_16, lj_17, lj_18, lj_19, lj_20, lj_21, lj_22, lj_23, lj_24, lj_25, lj_26, lj_27, lj_28, lj_29, lj_30, lj_31, lj_32, lj_33, lj_34, lj_35, lj_36, lj_37, lj_38, lj_39, lj_40, lj_48, lj_50, lj_57, lj_59, lj_60, lj_63, lj_64, lj_65, lj_90, lj_96, lj_97, lj_99, lj_100, lj_101, lj_105, lj_112, lj_114, lj_116, lj_119, lj_122, lj_128, lj_200, lj_255, lj_256, lj_500, lj_777, lj_1000] | (refine br_c (fun _ => ?_) (fun _ => ?_) <;> try (exfalso; omega)) | (refine br_d (fun _ => ?_) (fun _ => ?_) <;> try (exfalso; omega)) | refine And.intro ?_ ?_ | (refine Nat.ne_of_gt ?_; omega))
        all_goals exact k9
      simp only [if_neg cd] at fc
      repeat' (first | refine b7_68 ?_ | refine fc _ _ (fun ζ F3 g => jh_i ?_) | dsimp only [jb_e0, jb_ec, jb_n, jb_c, jx_op, j1i_c, j2i_c, j1l_c, j2l_c, jil_c, j1r_c, jri_c, jrii_c, jril_c, jrl_c, jrr_c, j2i'_c, jdup_i, jdup_r, jdup2_c, jdup2_l, jpo_c, jli, jll, jlr, jat_0, jat_s, jst, jst2, jkill_i, jkill_r, jkill_l, jkill_n, jnone, jgv_0, jgv_1, jgv_2, jgv_3, jrv_s, jput_0, jput_1, jput_2, jput_3, jpop_0, jpop_1, jcl_s, jc1, jc2, jvi, Nat.reduceAdd, jol_i, jol_l, jol_n, jap_n, jap_c, List.map_cons, List.map_nil, List.sum_cons, List.sum_nil, jcI, jcL, jcR, gI_sI, gI_sL, gI_sR, gL_sI, gL_sL, gL_sR, gR_sI, gR_sL, gR_sR, gS_sI, gS_sL, gS_sR, gN_sI, gN_sL, gN_sR] | simp (disch := omega) only [Nat.zero_le, true_and, and_true, and_self, Nat.reduceLeDiff, true_or, or_true, false_or, or_false, Nat.reduceEqDiff, false_and, and_false, if_false, if_true, reduceIte, not_true_eq_false, not_false_eq_true, true_imp_iff, false_imp_iff, List.map_cons, List.map_nil, List.sum_cons, List.sum_nil, jcI, jcL, jcR, Nat.reduceAdd, jrv_s, j1r_c, jap_n, jap_c, gI_sI, gL_sL, gI_sL, gL_sI, an_lt, an_le, an_eq, an_lt0, an_0le, an_0lt, an_le0, an_eq0, an_eq1, an_1lt, an_le1, an_1le, an_lt1, an_eqm, an_sub, an_sub1, an_div, an_rem, an_in, an_in0, an_in1, an_cl, an_cl0, an_cl1, nI_add, nI_1, an_1a, pk_mul, Nat.reduceMul, jz10, jz01, j00, j11, jb0, Classical.not_not, eq_self, an_ite, an_of, an_nm, nI_l, lN_add, lN_mul, lN_i, lj_2, lj_3, lj_4, lj_5, lj_6, lj_7, lj_8, lj_9, lj_10, lj_11, lj_12, lj_13, lj_14, lj_15, lj_16, lj_17, lj_18, lj_19, lj_20, lj_21, lj_22, lj_23, lj_24, lj_25, lj_26, lj_27, lj_28, lj_29, lj_30, lj_31, lj_32, lj_33, lj_34, lj_35, lj_36, lj_37, lj_38, lj_39, lj_40, lj_48, lj_50, lj_57, lj_59, lj_60, lj_63, lj_64, lj_65, lj_90, lj_96, lj_97, lj_99, lj_100, lj_101, lj_105, lj_112, lj_114, lj_116, lj_119, lj_122, lj_128, lj_200, lj_255, lj_256, lj_500, lj_777, lj_1000, jr_128_2 hWξ, jr_128_3 hWξ, jr_128_4 hWξ, jr_128_5 hWξ, hWξ.1, jS0_128, jS0_129, jS0_130, jS0_131, jS0_132] | (refine br_c (fun _ => ?_) (fun _ => ?_) <;> try (exfalso; omega)) | (refine br_d (fun _ => ?_) (fun _ => ?_) <;> try (exfalso; omega)) | refine And.intro ?_ ?_ | (refine Nat.ne_of_gt ?_; omega))
      refine jh_o ?_
      have F4 : jFr [130, 131, 132] ν ζ := (mono F2 (by simp)).trans (mono F3 (by simp))
      have hWζ := F4.wd hWν
      have hGζ := hGν.fr F4 (by simp) (by simp)
      have g130 : ∀ l, gL ζ 130 l = gL ν 130 l := fun l => ((F3.1 130 (by simp)).2 l).trans ((F2.1 130 (by simp)).2 l)
      have al : ∀ (d : Nat) (Q' : jQ), (vAl (wZ W) n (cN W H) → Q' (some (.int 1)) ζ) → (¬ vAl (wZ W) n (cN W H) → Q' (some (.int 0)) ζ) → jC (d + 1) 14 [.ref 128] ζ Q' := fun d Q' a b => sg_isAllowed hWζ hGζ g nb a b
      by_cases ca : vAl (wZ W) n (cN W H)
      case neg =>
        have kk := skip ζ z F4 g130 (vBest_skip hB (fun y => ca y.2.2))
        have al0 : ∀ (d : Nat) (Q' : jQ), Q' (some (.int 0)) ζ → jC (d + 1) 14 [.ref 128] ζ Q' := fun d Q' a => al d Q' (fun y => absurd y ca) (fun _ => a)
        clear copy skip
        repeat' (first | refine b7_68 ?_ | refine al0 _ _ ?_ | dsimp only [jb_e0, jb_ec, jb_n, jb_c, jx_op, j1i_c, j2i_c, j1l_c, j2l_c, jil_c, j1r_c, jri_c, jrii_c, jril_c, jrl_c, jrr_c, j2i'_c, jdup_i, jdup_r, jdup2_c, jdup2_l, jpo_c, jli, jll, jlr, jat_0, jat_s, jst, jst2, jkill_i, jkill_r, jkill_l, jkill_n, jnone, jgv_0, jgv_1, jgv_2, jgv_3, jrv_s, jput_0, jput_1, jput_2, jput_3, jpop_0, jpop_1, jcl_s, jc1, jc2, jvi, Nat.reduceAdd, jol_i, jol_l, jol_n, jap_n, jap_c, List.map_cons, List.map_nil, List.sum_cons, List.sum_nil, jcI, jcL, jcR, gI_sI, gI_sL, gI_sR, gL_sI, gL_sL, gL_sR, gR_sI, gR_sL, gR_sR, gS_sI, gS_sL, gS_sR, gN_sI, gN_sL, gN_sR] | simp (disch := omega) only [Nat.zero_le, true_and, and_true, and_self, Nat.reduceLeDiff, true_or, or_true, false_or, or_false, Nat.reduceEqDiff, false_and, and_false, if_false, if_true, reduceIte, not_true_eq_false, not_false_eq_true, true_imp_iff, false_imp_iff, List.map_cons, List.map_nil, List.sum_cons, List.sum_nil, jcI, jcL, jcR, Nat.reduceAdd, jrv_s, j1r_c, jap_n, jap_c, gI_sI, gL_sL, gI_sL, gL_sI, an_lt, an_le, an_eq, an_lt0, an_0le, an_0lt, an_le0, an_eq0, an_eq1, an_1lt, an_le1, an_1le, an_lt1, an_eqm, an_sub, an_sub1, an_div, an_rem, an_in, an_in0, an_in1, an_cl, an_cl0, an_cl1, nI_add, nI_1, an_1a, pk_mul, Nat.reduceMul, jz10, jz01, j00, j11, jb0, Classical.not_not, eq_self, an_ite, an_of, an_nm, nI_l, lN_add, lN_mul, lN_i, lj_2, lj_3, lj_4, lj_5, lj_6, lj_7, lj_8, lj_9, lj_10, lj_11, lj_12, lj_13, lj_14, lj_15, lj_16, lj_17, lj_18, lj_19, lj_20, lj_21, lj_22, lj_23, lj_24, lj_25, lj_26, lj_27, lj_28, lj_29, lj_30, lj_31, lj_32, lj_33, lj_34, lj_35, lj_36, lj_37, lj_38, lj_39, lj_40, lj_48, lj_50, lj_57, lj_59, lj_60, lj_63, lj_64, lj_65, lj_90, lj_96, lj_97, lj_99, lj_100, lj_101, lj_105, lj_112, lj_114, lj_116, lj_119, lj_122, lj_128, lj_200, lj_255, lj_256, lj_500, lj_777, lj_1000, jr_128_2 hWζ, jr_128_3 hWζ, jr_128_4 hWζ, jr_128_5 hWζ, hWζ.1, jS0_128, jS0_129, jS0_130, jS0_131, jS0_132] | (refine br_c (fun _ => ?_) (fun _ => ?_) <;> try (exfalso; omega)) | (refine br_d (fun _ => ?_) (fun _ => ?_) <;> try (exfalso; omega)) | refine And.intro ?_ ?_ | (refine Nat.ne_of_gt ?_; omega))
        all_goals exact kk
      have al1 : ∀ (d : Nat) (Q' : jQ), Q' (some (.int 1)) ζ → jC (d + 1) 14 [.ref 128] ζ Q' := fun d Q' a => al d Q' (fun _ => a) (fun y => absurd ca y)
      have bt : ∀ (d : Nat) (Q' : jQ), ((vS β = 0 ∨ vB (cN W H) β) → Q' (some (.int 1)) ζ) → (¬ (vS β = 0 ∨ vB (cN W H) β) → Q' (some (.int 0)) ζ) → jC (d + 1) 15 [.ref 128] ζ Q' := fun d Q' a b => sg_isBetter hWζ g nb (fun l hl => (g130 l).trans (hβ l hl)) bβ a b
      by_cases cb : vS β = 0 ∨ vB (cN W H) β
      · have kk := copy 4 0 ζ (by omega) F4 g (fun l hl => absurd hl (Nat.not_lt_zero _)) (vBest_take hB ⟨cH, cd, ca⟩ cb)
        have bt1 : ∀ (d : Nat) (Q' : jQ), Q' (some (.int 1)) ζ → jC (d + 1) 15 [.ref 128] ζ Q' := fun d Q' a => bt d Q' (fun _ => a) (fun y => absurd cb y)
        have z0 : nI 0 = 0 := rfl
        rw [z0] at kk
        clear copy skip
        repeat' (first | refine b7_68 ?_ | refine al1 _ _ ?_ | refine bt1 _ _ ?_ | dsimp only [jb_e0, jb_ec, jb_n, jb_c, jx_op, j1i_c, j2i_c, j1l_c, j2l_c, jil_c, j1r_c, jri_c, jrii_c, jril_c, jrl_c, jrr_c, j2i'_c, jdup_i, jdup_r, jdup2_c, jdup2_l, jpo_c, jli, jll, jlr, jat_0, jat_s, jst, jst2, jkill_i, jkill_r, jkill_l, jkill_n, jnone, jgv_0, jgv_1, jgv_2, jgv_3, jrv_s, jput_0, jput_1, jput_2, jput_3, jpop_0, jpop_1, jcl_s, jc1, jc2, jvi, Nat.reduceAdd, jol_i, jol_l, jol_n, jap_n, jap_c, List.map_cons, List.map_nil, List.sum_cons, List.sum_nil, jcI, jcL, jcR, gI_sI, gI_sL, gI_sR, gL_sI, gL_sL, gL_sR, gR_sI, gR_sL, gR_sR, gS_sI, gS_sL, gS_sR, gN_sI, gN_sL, gN_sR] | simp (disch := omega) only [Nat.zero_le, true_and, and_true, and_self, Nat.reduceLeDiff, true_or, or_true, false_or, or_false, Nat.reduceEqDiff, false_and, and_false, if_false, if_true, reduceIte, not_true_eq_false, not_false_eq_true, true_imp_iff, false_imp_iff, List.map_cons, List.map_nil, List.sum_cons, List.sum_nil, jcI, jcL, jcR, Nat.reduceAdd, jrv_s, j1r_c, jap_n, jap_c, gI_sI, gL_sL, gI_sL, gL_sI, an_lt, an_le, an_eq, an_lt0, an_0le, an_0lt, an_le0, an_eq0, an_eq1, an_1lt, an_le1, an_1le, an_lt1, an_eqm, an_sub, an_sub1, an_div, an_rem, an_in, an_in0, an_in1, an_cl, an_cl0, an_cl1, nI_add, nI_1, an_1a, pk_mul, Nat.reduceMul, jz10, jz01, j00, j11, jb0, Classical.not_not, eq_self, an_ite, an_of, an_nm, nI_l, lN_add, lN_mul, lN_i, lj_2, lj_3, lj_4, lj_5, lj_6, lj_7, lj_8, lj_9, lj_10, lj_11, lj_12, lj_13, lj_14, lj_15, lj_16, lj_17, lj_18, lj_19, lj_20, lj_21, lj_22, lj_23, lj_24, lj_25, lj_26, lj_27, lj_28, lj_29, lj_30, lj_31, lj_32, lj_33, lj_34, lj_35, lj_36, lj_37, lj_38, lj_39, lj_40, lj_48, lj_50, lj_57, lj_59, lj_60, lj_63, lj_64, lj_65, lj_90, lj_96, lj_97, lj_99, lj_100, lj_101, lj_105, lj_112, lj_114, lj_116, lj_119, lj_122, lj_128, lj_200, lj_255, lj_256, lj_500, lj_777, lj_1000, jr_128_2 hWζ, jr_128_3 hWζ, jr_128_4 hWζ, jr_128_5 hWζ, hWζ.1, jS0_128, jS0_129, jS0_130, jS0_131, jS0_132] | (refine br_c (fun _ => ?_) (fun _ => ?_) <;> try (exfalso; omega)) | (refine br_d (fun _ => ?_) (fun _ => ?_) <;> try (exfalso; omega)) | refine And.intro ?_ ?_ | (refine Nat.ne_of_gt ?_; omega))
        all_goals exact kk
      · have kk := skip ζ z F4 g130 (vBest_keep hB cb)
        have bt0 : ∀ (d : Nat) (Q' : jQ), Q' (some (.int 0)) ζ → jC (d + 1) 15 [.ref 128] ζ Q' := fun d Q' a => bt d Q' (fun y => absurd y cb) (fun _ => a)
        clear copy skip
        repeat' (first | refine b7_68 ?_ | refine al1 _ _ ?_ | refine bt0 _ _ ?_ | dsimp only [jb_e0, jb_ec, jb_n, jb_c, jx_op, j1i_c, j2i_c, j1l_c, j2l_c, jil_c, j1r_c, jri_c, jrii_c, jril_c, jrl_c, jrr_c, j2i'_c, jdup_i, jdup_r, jdup2_c, jdup2_l, jpo_c, jli, jll, jlr, jat_0, jat_s, jst, jst2, jkill_i, jkill_r, jkill_l, jkill_n, jnone, jgv_0, jgv_1, jgv_2, jgv_3, jrv_s, jput_0, jput_1, jput_2, jput_3, jpop_0, jpop_1, jcl_s, jc1, jc2, jvi, Nat.reduceAdd, jol_i, jol_l, jol_n, jap_n, jap_c, List.map_cons, List.map_nil, List.sum_cons, List.sum_nil, jcI, jcL, jcR, gI_sI, gI_sL, gI_sR, gL_sI, gL_sL, gL_sR, gR_sI, gR_sL, gR_sR, gS_sI, gS_sL, gS_sR, gN_sI, gN_sL, gN_sR] | simp (disch := omega) only [Nat.zero_le, true_and, and_true, and_self, Nat.reduceLeDiff, true_or, or_true, false_or, or_false, Nat.reduceEqDiff, false_and, and_false, if_false, if_true, reduceIte, not_true_eq_false, not_false_eq_true, true_imp_iff, false_imp_iff, List.map_cons, List.map_nil, List.sum_cons, List.sum_nil, jcI, jcL, jcR, Nat.reduceAdd, jrv_s, j1r_c, jap_n, jap_c, gI_sI, gL_sL, gI_sL, gL_sI, an_lt, an_le, an_eq, an_lt0, an_0le, an_0lt, an_le0, an_eq0, an_eq1, an_1lt, an_le1, an_1le, an_lt1, an_eqm, an_sub, an_sub1, an_div, an_rem, an_in, an_in0, an_in1, an_cl, an_cl0, an_cl1, nI_add, nI_1, an_1a, pk_mul, Nat.reduceMul, jz10, jz01, j00, j11, jb0, Classical.not_not, eq_self, an_ite, an_of, an_nm, nI_l, lN_add, lN_mul, lN_i, lj_2, lj_3, lj_4, lj_5, lj_6, lj_7, lj_8, lj_9, lj_10, lj_11, lj_12, lj_13, lj_14, lj_15, lj_16, lj_17, lj_18, lj_19, lj_20, lj_21, lj_22, lj_23, lj_24, lj_25, lj_26, lj_27, lj_28, lj_29, lj_30, lj_31, lj_32, lj_33, lj_34, lj_35, lj_36, lj_37, lj_38, lj_39, lj_40, lj_48, lj_50, lj_57, lj_59, lj_60, lj_63, lj_64, lj_65, lj_90, lj_96, lj_97, lj_99, lj_100, lj_101, lj_105, lj_112, lj_114, lj_116, lj_119, lj_122, lj_128, lj_200, lj_255, lj_256, lj_500, lj_777, lj_1000, jr_128_2 hWζ, jr_128_3 hWζ, jr_128_4 hWζ, jr_128_5 hWζ, hWζ.1, jS0_128, jS0_129, jS0_130, jS0_131, jS0_132] | (refine br_c (fun _ => ?_) (fun _ => ?_) <;> try (exfalso; omega)) | (refine br_d (fun _ => ?_) (fun _ => ?_) <;> try (exfalso; omega)) | refine And.intro ?_ ?_ | (refine Nat.ne_of_gt ?_; omega))
        all_goals exact kk
  have kk := loop 64 0 μ (fun _ => 0) none (by omega) jFr.rf (fun l hl => by rw [hz l hl]; exact iL_0) (Or.inl ⟨fun _ => rfl, fun h hh => absurd hh (Nat.not_lt_zero _)⟩)
  have z0 : nI 0 = 0 := rfl
  rw [z0] at kk
  refine e7 (b7_0 ?_)
  clear h loop
  repeat' (first | refine b7_39 ?_ | refine b7_62 ?_ | refine b7_68 ?_ | dsimp only [jb_e0, jb_ec, jb_n, jb_c, jx_op, j1i_c, j2i_c, j1l_c, j2l_c, jil_c, j1r_c, jri_c, jrii_c, jril_c, jrl_c, jrr_c, j2i'_c, jdup_i, jdup_r, jdup2_c, jdup2_l, jpo_c, jli, jll, jlr, jat_0, jat_s, jst, jst2, jkill_i, jkill_r, jkill_l, jkill_n, jnone, jgv_0, jgv_1, jgv_2, jgv_3, jrv_s, jput_0, jput_1, jput_2, jput_3, jpop_0, jpop_1, jcl_s, jc1, jc2, jvi, Nat.reduceAdd, jol_i, jol_l, jol_n, jap_n, jap_c, List.map_cons, List.map_nil, List.sum_cons, List.sum_nil, jcI, jcL, jcR, gI_sI, gI_sL, gI_sR, gL_sI, gL_sL, gL_sR, gR_sI, gR_sL, gR_sR, gS_sI, gS_sL, gS_sR, gN_sI, gN_sL, gN_sR] | simp (disch := omega) only [Nat.zero_le, true_and, and_true, and_self, Nat.reduceLeDiff, true_or, or_true, false_or, or_false, Nat.reduceEqDiff, false_and, and_false, if_false, if_true, reduceIte, not_true_eq_false, not_false_eq_true, true_imp_iff, false_imp_iff, List.map_cons, List.map_nil, List.sum_cons, List.sum_nil, jcI, jcL, jcR, Nat.reduceAdd, jrv_s, j1r_c, jap_n, jap_c, gI_sI, gL_sL, gI_sL, gL_sI, an_lt, an_le, an_eq, an_lt0, an_0le, an_0lt, an_le0, an_eq0, an_eq1, an_1lt, an_le1, an_1le, an_lt1, an_eqm, an_sub, an_sub1, an_div, an_rem, an_in, an_in0, an_in1, an_cl, an_cl0, an_cl1, nI_add, nI_1, an_1a, pk_mul, Nat.reduceMul, jz10, jz01, j00, j11, jb0, Classical.not_not, eq_self, an_ite, an_of, an_nm, nI_l, lN_add, lN_mul, lN_i, lj_2, lj_3, lj_4, lj_5, lj_6, lj_7, lj_8, lj_9, lj_10, lj_11, lj_12, lj_13, lj_14, lj_15, lj_16, lj_17, lj_18, lj_19, lj_20, lj_21, lj_22, lj_23, lj_24, lj_25, lj_26, lj_27, lj_28, lj_29, lj_30, lj_31, lj_32, lj_33, lj_34, lj_35, lj_36, lj_37, lj_38, lj_39, lj_40, lj_48, lj_50, lj_57, lj_59, lj_60, lj_63, lj_64, lj_65, lj_90, lj_96, lj_97, lj_99, lj_100, lj_101, lj_105, lj_112, lj_114, lj_116, lj_119, lj_122, lj_128, lj_200, lj_255, lj_256, lj_500, lj_777, lj_1000] | (refine br_c (fun _ => ?_) (fun _ => ?_) <;> try (exfalso; omega)) | (refine br_d (fun _ => ?_) (fun _ => ?_) <;> try (exfalso; omega)) | refine And.intro ?_ ?_ | (refine Nat.ne_of_gt ?_; omega))
  all_goals exact kk
/-- what the class has found is best of all -/
theorem vBest_res (hm1 : 1 ≤ m) (hm3 : m ≤ 3) (hn1 : 1 ≤ n) (hn3 : n ≤ 3) (hw : ∀ i j, i < 3 → j < 3 → W i j ≤ 100) (hB : vBest W m n 64 β) : (∃ i j k, i < j ∧ j < k ∧ k < 3 + n ∧ vR m i j k ∧ vD (wZ W) i j k ≠ 0 ∧ β = vN (wZ W) i j k) ∧ vF (wZ W) m n β ∧ ∀ z, vF (wZ W) m n z → ¬ vB z β := by
  have cor : ∀ i j k, i < j → j < k → k < 3 + n → vR m i j k → vD (wZ W) i j k ≠ 0 → ∀ y, vSl (wZ W) y i = 0 → vSl (wZ W) y j = 0 → vSl (wZ W) y k = 0 → vF (wZ W) m n y → ∃ h, h < 64 ∧ aC W m n h ∧ ∀ l, l < 4 → cN W h l * vS y = y l * vS (cN W h) := fun i j k h1 h2 h3 h4 h5 y y1 y2 y3 hy => by
    obtain ⟨q1, q2, q3, q4, q5⟩ := bL_of k (by omega) j h2 i h1
    obtain ⟨a, b⟩ := vAl_of h5 y1 y2 y3 hy
    have b3 := bL_3 _ q1 q2
    rw [q3, q4, q5] at b3
    refine ⟨2 ^ i + 2 ^ j + 2 ^ k, q1, ⟨⟨q2, fun p hp => ⟨fun tt => ?_, fun tt => ?_⟩⟩, ?_, ?_⟩, ?_⟩
    · have := (b3.2 p hp).mp tt
      omega
    · rintro ⟨u1, u2⟩
      exact tt ((b3.2 p hp).mpr (h4 p u1 u2))
    · unfold cD
      rw [q3, q4, q5]
      exact h5
    · have e : cN W (2 ^ i + 2 ^ j + 2 ^ k) = vN (wZ W) i j k := by
        funext l
        unfold cN
        rw [q3, q4, q5]
      rw [e]
      exact a
    · have e : cN W (2 ^ i + 2 ^ j + 2 ^ k) = vN (wZ W) i j k := by
        funext l
        unfold cN
        rw [q3, q4, q5]
      rw [e]
      exact b
  rcases hB with ⟨z, o⟩ | ⟨⟨h, hh, a, rfl⟩, o⟩
  · have hz : vF (wZ W) m n (fun k => if k = 0 then 1 else if k = 3 then 100 else 0) := by
      refine ⟨fun i hi => ?_, fun k k1 k2 => ?_, ?_⟩
      · unfold vSl
        by_cases e : i < 3
        · rw [if_pos e]
          show 0 ≤ (if i = 0 then (1 : Int) else if i = 3 then 100 else 0)
          split
          · omega
          · split <;> omega
        · rw [if_neg e]
          have := hw 0 (i - 3) (by omega) (by omega)
          unfold wZ
          simp
          omega
      · show (if k = 0 then (1 : Int) else if k = 3 then 100 else 0) = 0
        rw [if_neg (by omega), if_neg (by omega)]
      · decide
    have := vA (b := fun k => if k = 3 then 1 else 0) hm1 hm3 hn1 (by decide) (fun i j k h1 h2 h3 h4 h5 y y1 y2 y3 hy => by
      obtain ⟨h, hh, a, _⟩ := cor i j k h1 h2 h3 h4 h5 y y1 y2 y3 hy
      exact absurd a (o h hh)) _ _ (Nat.le_refl _) hz
    exact (this (Or.inl (by decide))).elim
  · have b3 := bL_3 h hh a.1.1
    have hR : vR m ((bL h 6).getD 0 0) ((bL h 6).getD 1 0) ((bL h 6).getD 2 0) := fun l l1 l2 => (b3.2 l (by omega)).mp (by
      by_cases tt : h.testBit l = true
      · exact tt
      · exact absurd ⟨l1, l2⟩ ((a.1.2 l (by omega)).2 tt))
    have hF : vF (wZ W) m n (cN W h) := vAl_F hR a.2.1 a.2.2
    refine ⟨⟨_, _, _, b3.1.1, b3.1.2.1, ?_, hR, a.2.1, rfl⟩, hF, fun z hz => ?_⟩
    · exact (a.1.2 _ b3.1.2.2).1 ((b3.2 _ b3.1.2.2).mpr (Or.inr (Or.inr rfl)))
    · refine vA hm1 hm3 hn1 (Int.le_of_lt hF.2.2) (fun i j k h1 h2 h3 h4 h5 y y1 y2 y3 hy => ?_) _ _ (Nat.le_refl _) hz
      obtain ⟨h', hh', a', pr⟩ := cor i j k h1 h2 h3 h4 h5 y y1 y2 y3 hy
      intro hB
      exact o h' hh' a' ((vB_pt hy.2.2 (aC_S a') (pr 0 (by omega)).symm (pr 1 (by omega)).symm (pr 3 (by omega)).symm).mp hB)
end JV6
