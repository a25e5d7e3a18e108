/-! value: the reference's corner, its worth -/
section JV9
variable {d L t : Nat} {μ : jMem} {Q : jQ} {W : Nat → Nat → Nat} {m n h p q i j k e b : Nat} {c β E z : Nat → Int}
def oX (m : Nat) (E : Nat → Int) : Int := if cBot m E < 0 then - cX m E else cX m E
def oY (m : Nat) (E : Nat → Int) : Int := if cBot m E < 0 then - cY m E else cY m E
def oB (m : Nat) (E : Nat → Int) : Int := if cBot m E < 0 then - cBot m E else cBot m E
def oGg (m : Nat) (E : Nat → Int) : Nat := Nat.gcd (Nat.gcd (oX m E).natAbs (oY m E).natAbs) (oB m E).natAbs
def oC (m : Nat) (E : Nat → Int) (k : Nat) : Int := rCn m (oX m E) (oY m E) (oB m E) (oGg m E) k
def oCB (m : Nat) (E : Nat → Int) : Int := (oB m E).tdiv (oGg m E)
theorem oY_0 (hm : m < 3) : oY m E = 0 := by
  have : cY m E = 0 := if_neg (by omega)
  unfold oY
  rw [this]
  split <;> rfl
theorem oGg_f (hb : cBot m E ≠ 0) : 0 < oB m E ∧ 0 < oGg m E ∧ oX m E = (oGg m E : Int) * (oX m E).tdiv (oGg m E) ∧ oY m E = (oGg m E : Int) * (oY m E).tdiv (oGg m E) ∧ oB m E = (oGg m E : Int) * oCB m E := by
  have b0 : 0 < oB m E := by
    unfold oB
    split <;> omega
  have dB : oGg m E ∣ (oB m E).natAbs := Nat.gcd_dvd_right _ _
  have dXY : oGg m E ∣ Nat.gcd (oX m E).natAbs (oY m E).natAbs := Nat.gcd_dvd_left _ _
  exact ⟨b0, Nat.gcd_pos_of_pos_right _ (by omega), tdiv_ex (Nat.dvd_trans dXY (Nat.gcd_dvd_left _ _)), tdiv_ex (Nat.dvd_trans dXY (Nat.gcd_dvd_right _ _)), tdiv_ex dB⟩
theorem oCB_pos (hb : cBot m E ≠ 0) : 0 < oCB m E := by
  obtain ⟨b0, g0, -, -, eB⟩ := oGg_f hb
  rw [eB] at b0
  exact (vpos (by omega)).mp b0
theorem oC_sum (m1 : 1 ≤ m) (m3 : m ≤ 3) : oC m E 0 + oC m E 1 + oC m E 2 = oCB m E ∧ ∀ k, m ≤ k → k < 3 → oC m E k = 0 := by
  unfold oC oCB rCn
  rcases (show m = 1 ∨ m = 2 ∨ m = 3 by omega) with rfl | rfl | rfl
  · have e : oX 1 E = oB 1 E := rfl
    refine ⟨?_, fun k k1 k2 => ?_⟩
    · rw [e]
      simp
    · rcases (show k = 1 ∨ k = 2 by omega) with rfl | rfl <;> rfl
  · refine ⟨?_, fun k k1 k2 => ?_⟩
    · simp
      omega
    · obtain rfl : k = 2 := by omega
      rfl
  · refine ⟨?_, fun k k1 k2 => by omega⟩
    simp
    omega
theorem oC_pr (m1 : 1 ≤ m) (m3 : m ≤ 3) (hb : cBot m E ≠ 0) (hz : ∀ k, m ≤ k → k < 3 → z k = 0) (he : eqs m E z) : ∀ k, k < 3 → oC m E k * vS z = z k * oCB m E := by
  obtain ⟨b0, g0, eX, eY, eB⟩ := oGg_f hb
  obtain ⟨sm, zr⟩ := oC_sum (E := E) m1 m3
  have gi : (oGg m E : Int) ≠ 0 := by omega
  have canc : ∀ a b : Int, (oGg m E : Int) * a = (oGg m E : Int) * b → a = b := fun a b h => Int.eq_of_mul_eq_mul_left gi h
  have hX : oX m E * vS z = z 0 * oB m E := by
    have : cX m E * vS z = z 0 * cBot m E := by
      rcases (show m = 1 ∨ m = 2 ∨ m = 3 by omega) with rfl | rfl | rfl
      · show 1 * vS z = z 0 * 1
        unfold vS
        rw [hz 1 (by omega) (by omega), hz 2 (by omega) (by omega)]
        omega
      · have he : E 0 * z 0 = E 2 * vS z := he
        show E 2 * vS z = z 0 * E 0
        rw [← he, Int.mul_comm]
      · obtain ⟨h1, h2⟩ : E 0 * z 0 + E 1 * z 1 = E 2 * vS z ∧ E 3 * z 0 + E 4 * z 1 = E 5 * vS z := he
        show (E 2 * E 4 - E 1 * E 5) * vS z = z 0 * (E 0 * E 4 - E 1 * E 3)
        have e : (E 2 * E 4 - E 1 * E 5) * vS z = (E 2 * vS z) * E 4 - E 1 * (E 5 * vS z) := by grind
        rw [e, ← h1, ← h2]
        grind
    unfold oX oB
    split
    · rw [Int.neg_mul, this, Int.mul_neg]
    · exact this
  have c0 : oC m E 0 * vS z = z 0 * oCB m E := by
    have e0 : oC m E 0 = (oX m E).tdiv (oGg m E) := rfl
    apply canc
    rw [← Int.mul_assoc, e0, ← eX, hX, eB]
    grind
  intro k hk
  rcases (show m = 1 ∨ m = 2 ∨ m = 3 by omega) with rfl | rfl | rfl
  · rcases (show k = 0 ∨ k = 1 ∨ k = 2 by omega) with rfl | rfl | rfl
    · exact c0
    · rw [zr 1 (by omega) (by omega), hz 1 (by omega) (by omega), Int.zero_mul, Int.zero_mul]
    · rw [zr 2 (by omega) (by omega), hz 2 (by omega) (by omega), Int.zero_mul, Int.zero_mul]
  · rcases (show k = 0 ∨ k = 1 ∨ k = 2 by omega) with rfl | rfl | rfl
    · exact c0
    · have z2 := zr 2 (by omega) (by omega)
      have y2 := hz 2 (by omega) (by omega)
      have e1 : oC 2 E 1 = oCB 2 E - oC 2 E 0 := by omega
      rw [e1, Int.sub_mul, c0]
      unfold vS
      rw [y2]
      grind
    · rw [zr 2 (by omega) (by omega), hz 2 (by omega) (by omega), Int.zero_mul, Int.zero_mul]
  · have hY : oY 3 E * vS z = z 1 * oB 3 E := by
      have : cY 3 E * vS z = z 1 * cBot 3 E := by
        obtain ⟨h1, h2⟩ : E 0 * z 0 + E 1 * z 1 = E 2 * vS z ∧ E 3 * z 0 + E 4 * z 1 = E 5 * vS z := he
        show (E 0 * E 5 - E 2 * E 3) * vS z = z 1 * (E 0 * E 4 - E 1 * E 3)
        have e : (E 0 * E 5 - E 2 * E 3) * vS z = E 0 * (E 5 * vS z) - (E 2 * vS z) * E 3 := by grind
        rw [e, ← h1, ← h2]
        grind
      unfold oY oB
      split
      · rw [Int.neg_mul, this, Int.mul_neg]
      · exact this
    have c1 : oC 3 E 1 * vS z = z 1 * oCB 3 E := by
      have e0 : oC 3 E 1 = (oY 3 E).tdiv (oGg 3 E) := rfl
      apply canc
      rw [← Int.mul_assoc, e0, ← eY, hY, eB]
      grind
    rcases (show k = 0 ∨ k = 1 ∨ k = 2 by omega) with rfl | rfl | rfl
    · exact c0
    · exact c1
    · have e2 : oC 3 E 2 = oCB 3 E - oC 3 E 0 - oC 3 E 1 := by omega
      rw [e2, Int.sub_mul, Int.sub_mul, c0, c1]
      unfold vS
      grind
/-- a bound of the bottom -/
theorem oCB_le {f : Nat} {K : Int} (hb : cBot m E ≠ 0) (f0 : 0 < f) (fx : f ∣ (cX m E).natAbs) (fy : f ∣ (cY m E).natAbs) (fb : f ∣ (cBot m E).natAbs) (hK0 : 0 ≤ K) (hK : -((f : Int) * K) ≤ cBot m E ∧ cBot m E ≤ (f : Int) * K) : oCB m E ≤ K := by
  obtain ⟨b0, g0, eX, eY, eB⟩ := oGg_f hb
  have nx : (oX m E).natAbs = (cX m E).natAbs := by
    unfold oX
    split
    · exact Int.natAbs_neg _
    · rfl
  have ny : (oY m E).natAbs = (cY m E).natAbs := by
    unfold oY
    split
    · exact Int.natAbs_neg _
    · rfl
  have nb : (oB m E).natAbs = (cBot m E).natAbs := by
    unfold oB
    split
    · exact Int.natAbs_neg _
    · rfl
  have fg : f ∣ oGg m E := by
    unfold oGg
    rw [nx, ny, nb]
    exact Nat.dvd_gcd (Nat.dvd_gcd fx fy) fb
  have fle : f ≤ oGg m E := Nat.le_of_dvd g0 fg
  have ub : oB m E ≤ (f : Int) * K := by
    unfold oB
    split <;> omega
  have u2 : (f : Int) * K ≤ (oGg m E : Int) * K := Int.mul_le_mul_of_nonneg_right (by omega) hK0
  have u3 : (oGg m E : Int) * oCB m E ≤ (oGg m E : Int) * K := by
    rw [← eB]
    omega
  exact Int.le_of_mul_le_mul_left u3 (by omega)
theorem sM_isCorner (hW : jWd L t μ) (g72 : gI μ 133 72 = nI m) (m1 : 1 ≤ m) (m3 : m ≤ 3) (he : ∀ p, (m = 2 ∧ p < 3) ∨ (m = 3 ∧ p < 6) → gL μ 171 p = iL (E p)) (hB : -1152921504606846976 ≤ cBot m E ∧ cBot m E ≤ 1152921504606846976) (hX : -1152921504606846976 ≤ cX m E ∧ cX m E ≤ 1152921504606846976) (hY : -1152921504606846976 ≤ cY m E ∧ cY m E ≤ 1152921504606846976) (h0 : cBot m E = 0 → Q (some (.int 0)) μ) (h1 : cBot m E ≠ 0 → ∀ ν, vFr μ ν → (∀ k, k < 3 → gL ν 170 k = iL (oC m E k)) → gL ν 133 76 = iL (oCB m E) → (gL ν 133 77 = gL μ 133 77 ∧ gL ν 133 78 = gL μ 133 78) → (∀ p, gL ν 171 p = gL μ 171 p) → Q (some (.int (if 0 ≤ oC m E 0 ∧ 0 ≤ oC m E 1 ∧ 0 ≤ oC m E 2 then 1 else 0))) ν) : jC (d + 2) 278 [.ref 133] μ Q := by
  have q0 : (iL (cBot m E) = 0) = (cBot m E = 0) := by
    rw [iL_0]
    exact iL_eq (by omega) (by omega) (by omega) (by omega)
  have q1 : ((0 : Int64) ≤ iL (cBot m E)) = (0 ≤ cBot m E) := by
    rw [iL_0]
    exact iL_le (by omega) (by omega) (by omega) (by omega)
  have tail : jR (d + 2) 278 129 [some (.ref 133), some (.long (iL (cX m E))), none, some (.long (iL (cY m E))), none, some (.long (iL (cBot m E))), none, none, none] [] (0, 0) μ Q := by
    by_cases z0 : cBot m E = 0
    · have kk := h0 z0
      have q0' := q0.trans (eq_true z0)
      refine b278_129 ?_
      clear h0 h1
      repeat' (first | refine b278_18 ?_ | refine b278_44 ?_ | refine b278_129 ?_ | refine b278_250 ?_ | refine b278_251 ?_ | refine b278_253 ?_ | refine b278_290 ?_ | refine b278_291 ?_ | dsimp only [jb_e0, jb_ec, jb_n, jb_c, jx_op, j1i_c, j2i_c, j1l_c, j2l_c, jil_c, j1r_c, jri_c, jrii_c, jril_c, jrl_c, jrr_c, j2i'_c, jdup_i, jdup_r, jdup2_c, jdup2_l, jpo_c, jli, jll, jlr, jat_0, jat_s, jst, jst2, jkill_i, jkill_r, jkill_l, jkill_n, jnone, jgv_0, jgv_1, jgv_2, jgv_3, jrv_s, jput_0, jput_1, jput_2, jput_3, jpop_0, jpop_1, jcl_s, jc1, jc2, jvi, Nat.reduceAdd, jol_i, jol_l, jol_n, jap_n, jap_c, List.map_cons, List.map_nil, List.sum_cons, List.sum_nil, jcI, jcL, jcR, gI_sI, gI_sL, gI_sR, gL_sI, gL_sL, gL_sR, gR_sI, gR_sL, gR_sR, gS_sI, gS_sL, gS_sR, gN_sI, gN_sL, gN_sR] | simp (disch := omega) only [Nat.zero_le, true_and, and_true, and_self, Nat.reduceLeDiff, true_or, or_true, false_or, or_false, Nat.reduceEqDiff, false_and, and_false, if_false, if_true, reduceIte, not_true_eq_false, not_false_eq_true, true_imp_iff, false_imp_iff, List.map_cons, List.map_nil, List.sum_cons, List.sum_nil, jcI, jcL, jcR, Nat.reduceAdd, jrv_s, j1r_c, jap_n, jap_c, gI_sI, gL_sL, gI_sL, gL_sI, an_lt, an_le, an_eq, an_lt0, an_0le, an_0lt, an_le0, an_eq0, an_eq1, an_1lt, an_le1, an_1le, an_lt1, an_eqm, an_sub, an_sub1, an_div, an_rem, an_in, an_in0, an_in1, an_cl, an_cl0, an_cl1, nI_add, nI_1, an_1a, pk_mul, Nat.reduceMul, jz10, jz01, j00, j11, jb0, Classical.not_not, eq_self, an_ite, an_of, an_nm, nI_l, lN_add, lN_mul, lN_i, lj_2, lj_3, lj_4, lj_5, lj_6, lj_7, lj_8, lj_9, lj_10, lj_11, lj_12, lj_13, lj_14, lj_15, lj_16, lj_17, lj_18, lj_19, lj_20, lj_21, lj_22, lj_23, lj_24, lj_25, lj_26, lj_27, lj_28, lj_29, lj_30, lj_31, lj_32, lj_33, lj_34, lj_35, lj_36, lj_37, lj_38, lj_39, lj_40, lj_48, lj_50, lj_57, lj_59, lj_60, lj_63, lj_64, lj_65, lj_90, lj_96, lj_97, lj_99, lj_100, lj_101, lj_105, lj_112, lj_114, lj_116, lj_119, lj_122, lj_128, lj_200, lj_255, lj_256, lj_500, lj_777, lj_1000, jlc_eq, q0'] | (refine br_c (fun _ => ?_) (fun _ => ?_) <;> try (exfalso; omega)) | (refine br_d (fun _ => ?_) (fun _ => ?_) <;> try (exfalso; omega)) | refine And.intro ?_ ?_ | (refine Nat.ne_of_gt ?_; omega))
      all_goals exact kk
    · have q0' := q0.trans (eq_false z0)
      have hb0 := (oGg_f z0).1
      have kk := rc_156 (d := d) (X := oX m E) (Y := oY m E) (B := oB m E) (g := oGg m E) (Q := Q) hW g72 m1 m3 (by unfold oX; split <;> omega) (by unfold oX; split <;> omega) (by unfold oY; split <;> omega) (by unfold oY; split <;> omega) hb0 (by unfold oB; split <;> omega) (fun hm => oY_0 hm) rfl (h1 z0)
      refine b278_129 ?_
      clear h0 h1
      by_cases ng : cBot m E < 0
      · have q1' := q1.trans (eq_false (by omega))
        have ex : oX m E = - cX m E := if_pos ng
        have ey : oY m E = - cY m E := if_pos ng
        have eb : oB m E = - cBot m E := if_pos ng
        rw [ex, ey, eb] at kk
        repeat' (first | refine b278_18 ?_ | refine b278_44 ?_ | refine b278_129 ?_ | refine b278_138 ?_ | refine b278_250 ?_ | refine b278_251 ?_ | refine b278_253 ?_ | refine b278_290 ?_ | refine b278_291 ?_ | dsimp only [jb_e0, jb_ec, jb_n, jb_c, jx_op, j1i_c, j2i_c, j1l_c, j2l_c, jil_c, j1r_c, jri_c, jrii_c, jril_c, jrl_c, jrr_c, j2i'_c, jdup_i, jdup_r, jdup2_c, jdup2_l, jpo_c, jli, jll, jlr, jat_0, jat_s, jst, jst2, jkill_i, jkill_r, jkill_l, jkill_n, jnone, jgv_0, jgv_1, jgv_2, jgv_3, jrv_s, jput_0, jput_1, jput_2, jput_3, jpop_0, jpop_1, jcl_s, jc1, jc2, jvi, Nat.reduceAdd, jol_i, jol_l, jol_n, jap_n, jap_c, List.map_cons, List.map_nil, List.sum_cons, List.sum_nil, jcI, jcL, jcR, gI_sI, gI_sL, gI_sR, gL_sI, gL_sL, gL_sR, gR_sI, gR_sL, gR_sR, gS_sI, gS_sL, gS_sR, gN_sI, gN_sL, gN_sR] | simp (disch := omega) only [Nat.zero_le, true_and, and_true, and_self, Nat.reduceLeDiff, true_or, or_true, false_or, or_false, Nat.reduceEqDiff, false_and, and_false, if_false, if_true, reduceIte, not_true_eq_false, not_false_eq_true, true_imp_iff, false_imp_iff, List.map_cons, List.map_nil, List.sum_cons, List.sum_nil, jcI, jcL, jcR, Nat.reduceAdd, jrv_s, j1r_c, jap_n, jap_c, gI_sI, gL_sL, gI_sL, gL_sI, an_lt, an_le, an_eq, an_lt0, an_0le, an_0lt, an_le0, an_eq0, an_eq1, an_1lt, an_le1, an_1le, an_lt1, an_eqm, an_sub, an_sub1, an_div, an_rem, an_in, an_in0, an_in1, an_cl, an_cl0, an_cl1, nI_add, nI_1, an_1a, pk_mul, Nat.reduceMul, jz10, jz01, j00, j11, jb0, Classical.not_not, eq_self, an_ite, an_of, an_nm, nI_l, lN_add, lN_mul, lN_i, lj_2, lj_3, lj_4, lj_5, lj_6, lj_7, lj_8, lj_9, lj_10, lj_11, lj_12, lj_13, lj_14, lj_15, lj_16, lj_17, lj_18, lj_19, lj_20, lj_21, lj_22, lj_23, lj_24, lj_25, lj_26, lj_27, lj_28, lj_29, lj_30, lj_31, lj_32, lj_33, lj_34, lj_35, lj_36, lj_37, lj_38, lj_39, lj_40, lj_48, lj_50, lj_57, lj_59, lj_60, lj_63, lj_64, lj_65, lj_90, lj_96, lj_97, lj_99, lj_100, lj_101, lj_105, lj_112, lj_114, lj_116, lj_119, lj_122, lj_128, lj_200, lj_255, lj_256, lj_500, lj_777, lj_1000, jlc_eq, jlc_ge, q0', q1', iL_neg, jnone] | (refine br_c (fun _ => ?_) (fun _ => ?_) <;> try (exfalso; omega)) | (refine br_d (fun _ => ?_) (fun _ => ?_) <;> try (exfalso; omega)) | refine And.intro ?_ ?_ | (refine Nat.ne_of_gt ?_; omega))
        all_goals exact kk
      · have q1' := q1.trans (eq_true (by omega))
        have ex : oX m E = cX m E := if_neg ng
        have ey : oY m E = cY m E := if_neg ng
        have eb : oB m E = cBot m E := if_neg ng
        rw [ex, ey, eb] at kk
        repeat' (first | refine b278_18 ?_ | refine b278_44 ?_ | refine b278_129 ?_ | refine b278_138 ?_ | refine b278_250 ?_ | refine b278_251 ?_ | refine b278_253 ?_ | refine b278_290 ?_ | refine b278_291 ?_ | dsimp only [jb_e0, jb_ec, jb_n, jb_c, jx_op, j1i_c, j2i_c, j1l_c, j2l_c, jil_c, j1r_c, jri_c, jrii_c, jril_c, jrl_c, jrr_c, j2i'_c, jdup_i, jdup_r, jdup2_c, jdup2_l, jpo_c, jli, jll, jlr, jat_0, jat_s, jst, jst2, jkill_i, jkill_r, jkill_l, jkill_n, jnone, jgv_0, jgv_1, jgv_2, jgv_3, jrv_s, jput_0, jput_1, jput_2, jput_3, jpop_0, jpop_1, jcl_s, jc1, jc2, jvi, Nat.reduceAdd, jol_i, jol_l, jol_n, jap_n, jap_c, List.map_cons, List.map_nil, List.sum_cons, List.sum_nil, jcI, jcL, jcR, gI_sI, gI_sL, gI_sR, gL_sI, gL_sL, gL_sR, gR_sI, gR_sL, gR_sR, gS_sI, gS_sL, gS_sR, gN_sI, gN_sL, gN_sR] | simp (disch := omega) only [Nat.zero_le, true_and, and_true, and_self, Nat.reduceLeDiff, true_or, or_true, false_or, or_false, Nat.reduceEqDiff, false_and, and_false, if_false, if_true, reduceIte, not_true_eq_false, not_false_eq_true, true_imp_iff, false_imp_iff, List.map_cons, List.map_nil, List.sum_cons, List.sum_nil, jcI, jcL, jcR, Nat.reduceAdd, jrv_s, j1r_c, jap_n, jap_c, gI_sI, gL_sL, gI_sL, gL_sI, an_lt, an_le, an_eq, an_lt0, an_0le, an_0lt, an_le0, an_eq0, an_eq1, an_1lt, an_le1, an_1le, an_lt1, an_eqm, an_sub, an_sub1, an_div, an_rem, an_in, an_in0, an_in1, an_cl, an_cl0, an_cl1, nI_add, nI_1, an_1a, pk_mul, Nat.reduceMul, jz10, jz01, j00, j11, jb0, Classical.not_not, eq_self, an_ite, an_of, an_nm, nI_l, lN_add, lN_mul, lN_i, lj_2, lj_3, lj_4, lj_5, lj_6, lj_7, lj_8, lj_9, lj_10, lj_11, lj_12, lj_13, lj_14, lj_15, lj_16, lj_17, lj_18, lj_19, lj_20, lj_21, lj_22, lj_23, lj_24, lj_25, lj_26, lj_27, lj_28, lj_29, lj_30, lj_31, lj_32, lj_33, lj_34, lj_35, lj_36, lj_37, lj_38, lj_39, lj_40, lj_48, lj_50, lj_57, lj_59, lj_60, lj_63, lj_64, lj_65, lj_90, lj_96, lj_97, lj_99, lj_100, lj_101, lj_105, lj_112, lj_114, lj_116, lj_119, lj_122, lj_128, lj_200, lj_255, lj_256, lj_500, lj_777, lj_1000, jlc_eq, jlc_ge, q0', q1', jnone] | (refine br_c (fun _ => ?_) (fun _ => ?_) <;> try (exfalso; omega)) | (refine br_d (fun _ => ?_) (fun _ => ?_) <;> try (exfalso; omega)) | refine And.intro ?_ ?_ | (refine Nat.ne_of_gt ?_; omega))
        all_goals exact kk
  clear h0 h1 q0 q1
  refine e278 (b278_0 ?_)
  rcases (show m = 1 ∨ m = 2 ∨ m = 3 by omega) with rfl | rfl | rfl
  · have tail : jR (d + 2) 278 129 [some (.ref 133), some (.long 1), none, some (.long 0), none, some (.long 1), none, none, none] [] (0, 0) μ Q := by
      rw [iL_0, iL_1]
      exact tail
    repeat' (first | refine b278_18 ?_ | refine b278_44 ?_ | refine b278_138 ?_ | refine b278_156 ?_ | refine b278_250 ?_ | refine b278_251 ?_ | refine b278_253 ?_ | refine b278_290 ?_ | refine b278_291 ?_ | dsimp only [jb_e0, jb_ec, jb_n, jb_c, jx_op, j1i_c, j2i_c, j1l_c, j2l_c, jil_c, j1r_c, jri_c, jrii_c, jril_c, jrl_c, jrr_c, j2i'_c, jdup_i, jdup_r, jdup2_c, jdup2_l, jpo_c, jli, jll, jlr, jat_0, jat_s, jst, jst2, jkill_i, jkill_r, jkill_l, jkill_n, jnone, jgv_0, jgv_1, jgv_2, jgv_3, jrv_s, jput_0, jput_1, jput_2, jput_3, jpop_0, jpop_1, jcl_s, jc1, jc2, jvi, Nat.reduceAdd, jol_i, jol_l, jol_n, jap_n, jap_c, List.map_cons, List.map_nil, List.sum_cons, List.sum_nil, jcI, jcL, jcR, gI_sI, gI_sL, gI_sR, gL_sI, gL_sL, gL_sR, gR_sI, gR_sL, gR_sR, gS_sI, gS_sL, gS_sR, gN_sI, gN_sL, gN_sR] | simp (disch := omega) only [Nat.zero_le, true_and, and_true, and_self, Nat.reduceLeDiff, true_or, or_true, false_or, or_false, Nat.reduceEqDiff, false_and, and_false, if_false, if_true, reduceIte, not_true_eq_false, not_false_eq_true, true_imp_iff, false_imp_iff, List.map_cons, List.map_nil, List.sum_cons, List.sum_nil, jcI, jcL, jcR, Nat.reduceAdd, jrv_s, j1r_c, jap_n, jap_c, gI_sI, gL_sL, gI_sL, gL_sI, an_lt, an_le, an_eq, an_lt0, an_0le, an_0lt, an_le0, an_eq0, an_eq1, an_1lt, an_le1, an_1le, an_lt1, an_eqm, an_sub, an_sub1, an_div, an_rem, an_in, an_in0, an_in1, an_cl, an_cl0, an_cl1, nI_add, nI_1, an_1a, pk_mul, Nat.reduceMul, jz10, jz01, j00, j11, jb0, Classical.not_not, eq_self, an_ite, an_of, an_nm, nI_l, lN_add, lN_mul, lN_i, lj_2, lj_3, lj_4, lj_5, lj_6, lj_7, lj_8, lj_9, lj_10, lj_11, lj_12, lj_13, lj_14, lj_15, lj_16, lj_17, lj_18, lj_19, lj_20, lj_21, lj_22, lj_23, lj_24, lj_25, lj_26, lj_27, lj_28, lj_29, lj_30, lj_31, lj_32, lj_33, lj_34, lj_35, lj_36, lj_37, lj_38, lj_39, lj_40, lj_48, lj_50, lj_57, lj_59, lj_60, lj_63, lj_64, lj_65, lj_90, lj_96, lj_97, lj_99, lj_100, lj_101, lj_105, lj_112, lj_114, lj_116, lj_119, lj_122, lj_128, lj_200, lj_255, lj_256, lj_500, lj_777, lj_1000, jr_133_4 hW, jr_133_5 hW, jr_133_6 hW, jr_133_7 hW, jr_133_31 hW, jr_133_32 hW, jr_133_33 hW, jr_133_34 hW, jr_133_35 hW, jr_133_36 hW, jr_133_37 hW, jr_133_38 hW, jr_133_39 hW, jr_133_40 hW, jr_133_41 hW, jr_133_42 hW, jr_133_44 hW, jr_133_45 hW, jr_133_46 hW, jr_133_47 hW, jr_133_48 hW, jr_133_49 hW, jr_133_50 hW, jr_133_51 hW, jr_133_55 hW, jr_133_56 hW, jr_133_57 hW, jr_133_58 hW, jr_133_62 hW, jr_133_65 hW, jr_133_66 hW, jr_133_67 hW, jr_133_68 hW, jr_133_69 hW, jr_133_70 hW, jr_133_71 hW, jr_133_74 hW, jr_133_75 hW, hW.1, jS0_133, jS0_134, jS0_135, jS0_136, jS0_137, jS0_138, jS0_139, jS0_140, jS0_141, jS0_142, jS0_143, jS0_144, jS0_145, jS0_146, jS0_147, jS0_148, jS0_149, jS0_150, jS0_151, jS0_152, jS0_153, jS0_154, jS0_155, jS0_156, jS0_157, jS0_158, jS0_159, jS0_160, jS0_161, jS0_162, jS0_163, jS0_164, jS0_165, jS0_166, jS0_167, jS0_168, jS0_169, jS0_170, jS0_171, g72, jnone] | (refine br_c (fun _ => ?_) (fun _ => ?_) <;> try (exfalso; omega)) | (refine br_d (fun _ => ?_) (fun _ => ?_) <;> try (exfalso; omega)) | refine And.intro ?_ ?_ | (refine Nat.ne_of_gt ?_; omega))
    all_goals exact tail
  · have f0 := he 0 (by omega)
    have f2 := he 2 (by omega)
    have tail : jR (d + 2) 278 129 [some (.ref 133), some (.long (iL (E 2))), none, some (.long 0), none, some (.long (iL (E 0))), none, none, none] [] (0, 0) μ Q := by
      rw [iL_0]
      exact tail
    repeat' (first | refine b278_18 ?_ | refine b278_44 ?_ | refine b278_138 ?_ | refine b278_156 ?_ | refine b278_250 ?_ | refine b278_251 ?_ | refine b278_253 ?_ | refine b278_290 ?_ | refine b278_291 ?_ | dsimp only [jb_e0, jb_ec, jb_n, jb_c, jx_op, j1i_c, j2i_c, j1l_c, j2l_c, jil_c, j1r_c, jri_c, jrii_c, jril_c, jrl_c, jrr_c, j2i'_c, jdup_i, jdup_r, jdup2_c, jdup2_l, jpo_c, jli, jll, jlr, jat_0, jat_s, jst, jst2, jkill_i, jkill_r, jkill_l, jkill_n, jnone, jgv_0, jgv_1, jgv_2, jgv_3, jrv_s, jput_0, jput_1, jput_2, jput_3, jpop_0, jpop_1, jcl_s, jc1, jc2, jvi, Nat.reduceAdd, jol_i, jol_l, jol_n, jap_n, jap_c, List.map_cons, List.map_nil, List.sum_cons, List.sum_nil, jcI, jcL, jcR, gI_sI, gI_sL, gI_sR, gL_sI, gL_sL, gL_sR, gR_sI, gR_sL, gR_sR, gS_sI, gS_sL, gS_sR, gN_sI, gN_sL, gN_sR] | simp (disch := omega) only [Nat.zero_le, true_and, and_true, and_self, Nat.reduceLeDiff, true_or, or_true, false_or, or_false, Nat.reduceEqDiff, false_and, and_false, if_false, if_true, reduceIte, not_true_eq_false, not_false_eq_true, true_imp_iff, false_imp_iff, List.map_cons, List.map_nil, List.sum_cons, List.sum_nil, jcI, jcL, jcR, Nat.reduceAdd, jrv_s, j1r_c, jap_n, jap_c, gI_sI, gL_sL, gI_sL, gL_sI, an_lt, an_le, an_eq, an_lt0, an_0le, an_0lt, an_le0, an_eq0, an_eq1, an_1lt, an_le1, an_1le, an_lt1, an_eqm, an_sub, an_sub1, an_div, an_rem, an_in, an_in0, an_in1, an_cl, an_cl0, an_cl1, nI_add, nI_1, an_1a, pk_mul, Nat.reduceMul, jz10, jz01, j00, j11, jb0, Classical.not_not, eq_self, an_ite, an_of, an_nm, nI_l, lN_add, lN_mul, lN_i, lj_2, lj_3, lj_4, lj_5, lj_6, lj_7, lj_8, lj_9, lj_10, lj_11, lj_12, lj_13, lj_14, lj_15, lj_16, lj_17, lj_18, lj_19, lj_20, lj_21, lj_22, lj_23, lj_24, lj_25, lj_26, lj_27, lj_28, lj_29, lj_30, lj_31, lj_32, lj_33, lj_34, lj_35, lj_36, lj_37, lj_38, lj_39, lj_40, lj_48, lj_50, lj_57, lj_59, lj_60, lj_63, lj_64, lj_65, lj_90, lj_96, lj_97, lj_99, lj_100, lj_101, lj_105, lj_112, lj_114, lj_116, lj_119, lj_122, lj_128, lj_200, lj_255, lj_256, lj_500, lj_777, lj_1000, jr_133_4 hW, jr_133_5 hW, jr_133_6 hW, jr_133_7 hW, jr_133_31 hW, jr_133_32 hW, jr_133_33 hW, jr_133_34 hW, jr_133_35 hW, jr_133_36 hW, jr_133_37 hW, jr_133_38 hW, jr_133_39 hW, jr_133_40 hW, jr_133_41 hW, jr_133_42 hW, jr_133_44 hW, jr_133_45 hW, jr_133_46 hW, jr_133_47 hW, jr_133_48 hW, jr_133_49 hW, jr_133_50 hW, jr_133_51 hW, jr_133_55 hW, jr_133_56 hW, jr_133_57 hW, jr_133_58 hW, jr_133_62 hW, jr_133_65 hW, jr_133_66 hW, jr_133_67 hW, jr_133_68 hW, jr_133_69 hW, jr_133_70 hW, jr_133_71 hW, jr_133_74 hW, jr_133_75 hW, hW.1, jS0_133, jS0_134, jS0_135, jS0_136, jS0_137, jS0_138, jS0_139, jS0_140, jS0_141, jS0_142, jS0_143, jS0_144, jS0_145, jS0_146, jS0_147, jS0_148, jS0_149, jS0_150, jS0_151, jS0_152, jS0_153, jS0_154, jS0_155, jS0_156, jS0_157, jS0_158, jS0_159, jS0_160, jS0_161, jS0_162, jS0_163, jS0_164, jS0_165, jS0_166, jS0_167, jS0_168, jS0_169, jS0_170, jS0_171, g72, jnone, f0, f2] | (refine br_c (fun _ => ?_) (fun _ => ?_) <;> try (exfalso; omega)) | (refine br_d (fun _ => ?_) (fun _ => ?_) <;> try (exfalso; omega)) | refine And.intro ?_ ?_ | (refine Nat.ne_of_gt ?_; omega))
    all_goals exact tail
  · have f0 := he 0 (by omega)
    have f1 := he 1 (by omega)
    have f2 := he 2 (by omega)
    have f3 := he 3 (by omega)
    have f4 := he 4 (by omega)
    have f5 := he 5 (by omega)
    have tail : jR (d + 2) 278 129 [some (.ref 133), some (.long (iL (E 2 * E 4 - E 1 * E 5))), none, some (.long (iL (E 0 * E 5 - E 2 * E 3))), none, some (.long (iL (E 0 * E 4 - E 1 * E 3))), none, none, none] [] (0, 0) μ Q := tail
    repeat' (first | refine b278_18 ?_ | refine b278_44 ?_ | refine b278_138 ?_ | refine b278_156 ?_ | refine b278_250 ?_ | refine b278_251 ?_ | refine b278_253 ?_ | refine b278_290 ?_ | refine b278_291 ?_ | dsimp only [jb_e0, jb_ec, jb_n, jb_c, jx_op, j1i_c, j2i_c, j1l_c, j2l_c, jil_c, j1r_c, jri_c, jrii_c, jril_c, jrl_c, jrr_c, j2i'_c, jdup_i, jdup_r, jdup2_c, jdup2_l, jpo_c, jli, jll, jlr, jat_0, jat_s, jst, jst2, jkill_i, jkill_r, jkill_l, jkill_n, jnone, jgv_0, jgv_1, jgv_2, jgv_3, jrv_s, jput_0, jput_1, jput_2, jput_3, jpop_0, jpop_1, jcl_s, jc1, jc2, jvi, Nat.reduceAdd, jol_i, jol_l, jol_n, jap_n, jap_c, List.map_cons, List.map_nil, List.sum_cons, List.sum_nil, jcI, jcL, jcR, gI_sI, gI_sL, gI_sR, gL_sI, gL_sL, gL_sR, gR_sI, gR_sL, gR_sR, gS_sI, gS_sL, gS_sR, gN_sI, gN_sL, gN_sR] | simp (disch := omega) only [Nat.zero_le, true_and, and_true, and_self, Nat.reduceLeDiff, true_or, or_true, false_or, or_false, Nat.reduceEqDiff, false_and, and_false, if_false, if_true, reduceIte, not_true_eq_false, not_false_eq_true, true_imp_iff, false_imp_iff, List.map_cons, List.map_nil, List.sum_cons, List.sum_nil, jcI, jcL, jcR, Nat.reduceAdd, jrv_s, j1r_c, jap_n, jap_c, gI_sI, gL_sL, gI_sL, gL_sI, an_lt, an_le, an_eq, an_lt0, an_0le, an_0lt, an_le0, an_eq0, an_eq1, an_1lt, an_le1, an_1le, an_lt1, an_eqm, an_sub, an_sub1, an_div, an_rem, an_in, an_in0, an_in1, an_cl, an_cl0, an_cl1, nI_add, nI_1, an_1a, pk_mul, Nat.reduceMul, jz10, jz01, j00, j11, jb0, Classical.not_not, eq_self, an_ite, an_of, an_nm, nI_l, lN_add, lN_mul, lN_i, lj_2, lj_3, lj_4, lj_5, lj_6, lj_7, lj_8, lj_9, lj_10, lj_11, lj_12, lj_13, lj_14, lj_15, lj_16, lj_17, lj_18, lj_19, lj_20, lj_21, lj_22, lj_23, lj_24, lj_25, lj_26, lj_27, lj_28, lj_29, lj_30, lj_31, lj_32, lj_33, lj_34, lj_35, lj_36, lj_37, lj_38, lj_39, lj_40, lj_48, lj_50, lj_57, lj_59, lj_60, lj_63, lj_64, lj_65, lj_90, lj_96, lj_97, lj_99, lj_100, lj_101, lj_105, lj_112, lj_114, lj_116, lj_119, lj_122, lj_128, lj_200, lj_255, lj_256, lj_500, lj_777, lj_1000, jr_133_4 hW, jr_133_5 hW, jr_133_6 hW, jr_133_7 hW, jr_133_31 hW, jr_133_32 hW, jr_133_33 hW, jr_133_34 hW, jr_133_35 hW, jr_133_36 hW, jr_133_37 hW, jr_133_38 hW, jr_133_39 hW, jr_133_40 hW, jr_133_41 hW, jr_133_42 hW, jr_133_44 hW, jr_133_45 hW, jr_133_46 hW, jr_133_47 hW, jr_133_48 hW, jr_133_49 hW, jr_133_50 hW, jr_133_51 hW, jr_133_55 hW, jr_133_56 hW, jr_133_57 hW, jr_133_58 hW, jr_133_62 hW, jr_133_65 hW, jr_133_66 hW, jr_133_67 hW, jr_133_68 hW, jr_133_69 hW, jr_133_70 hW, jr_133_71 hW, jr_133_74 hW, jr_133_75 hW, hW.1, jS0_133, jS0_134, jS0_135, jS0_136, jS0_137, jS0_138, jS0_139, jS0_140, jS0_141, jS0_142, jS0_143, jS0_144, jS0_145, jS0_146, jS0_147, jS0_148, jS0_149, jS0_150, jS0_151, jS0_152, jS0_153, jS0_154, jS0_155, jS0_156, jS0_157, jS0_158, jS0_159, jS0_160, jS0_161, jS0_162, jS0_163, jS0_164, jS0_165, jS0_166, jS0_167, jS0_168, jS0_169, jS0_170, jS0_171, g72, jnone, f0, f1, f2, f3, f4, f5, iL_mul, iL_sub] | (refine br_c (fun _ => ?_) (fun _ => ?_) <;> try (exfalso; omega)) | (refine br_d (fun _ => ?_) (fun _ => ?_) <;> try (exfalso; omega)) | refine And.intro ?_ ?_ | (refine Nat.ne_of_gt ?_; omega))
    all_goals exact tail
/-- the greatest worth of a corner -/
theorem sM_mostOf (hW : jWd L t μ) (hV : gV W m n μ) (hc : ∀ k, k < 3 → gL μ 170 k = iL (c k)) (c0 : ∀ k, k < 3 → 0 ≤ c k ∧ c k ≤ 1000000000000) (cz : ∀ k, m ≤ k → k < 3 → c k = 0) (h : ∀ v : Int, (∀ j, j < n → vCol (wZ W) c j ≤ v) → (∃ j, j < n ∧ vCol (wZ W) c j = v) → Q (some (.long (iL v))) μ) : jC (d + 1) 279 [.ref 133] μ Q := by
  obtain ⟨⟨g72, g73⟩, gw, w100, wz0, ⟨m1, m3⟩, n1, n3⟩ := hV
  have cb : ∀ k j, k < 3 → 0 ≤ c k * (W k j : Int) ∧ c k * (W k j : Int) ≤ 100000000000000 := fun k j hk => by
    have a := c0 k hk
    have b := w100 k j
    refine ⟨Int.mul_nonneg a.1 (by omega), (vbd (A := 1000000000000) (B := 100) (by omega) a.2 (by omega) (by omega)).2⟩
  have colb : ∀ j, 0 ≤ vCol (wZ W) c j ∧ vCol (wZ W) c j ≤ 300000000000000 := fun j => by
    have a := cb 0 j (by omega)
    have b := cb 1 j (by omega)
    have e := cb 2 j (by omega)
    unfold vCol wZ
    omega
  have loop : ∀ (x j : Nat) (v : Int) (z4 z5 z6 : Option Value), j + x = n → -1 ≤ v → v ≤ 300000000000000 → (∀ j', j' < j → vCol (wZ W) c j' ≤ v) → (0 < j → ∃ j', j' < n ∧ vCol (wZ W) c j' = v) → (0 < j ∨ v = -1) → jR (d + 1) 279 6 [some (.ref 133), some (.long (iL v)), none, some (.int (nI j)), z4, z5, z6] [] (0, 0) μ Q := by
    intro x
    induction x with
    | zero =>
      intro j v z4 z5 z6 hj v1 v2 h1 h2 h3
      obtain rfl : j = n := by omega
      have kk := h v h1 (h2 (by omega))
      refine b279_6 ?_
      clear h
      repeat' (first | refine b279_20 ?_ | refine b279_60 ?_ | refine b279_73 ?_ | dsimp only [jb_e0, jb_ec, jb_n, jb_c, jx_op, j1i_c, j2i_c, j1l_c, j2l_c, jil_c, j1r_c, jri_c, jrii_c, jril_c, jrl_c, jrr_c, j2i'_c, jdup_i, jdup_r, jdup2_c, jdup2_l, jpo_c, jli, jll, jlr, jat_0, jat_s, jst, jst2, jkill_i, jkill_r, jkill_l, jkill_n, jnone, jgv_0, jgv_1, jgv_2, jgv_3, jrv_s, jput_0, jput_1, jput_2, jput_3, jpop_0, jpop_1, jcl_s, jc1, jc2, jvi, Nat.reduceAdd, jol_i, jol_l, jol_n, jap_n, jap_c, List.map_cons, List.map_nil, List.sum_cons, List.sum_nil, jcI, jcL, jcR, gI_sI, gI_sL, gI_sR, gL_sI, gL_sL, gL_sR, gR_sI, gR_sL, gR_sR, gS_sI, gS_sL, gS_sR, gN_sI, gN_sL, gN_sR] | simp (disch := omega) only [Nat.zero_le, true_and, and_true, and_self, Nat.reduceLeDiff, true_or, or_true, false_or, or_false, Nat.reduceEqDiff, false_and, and_false, if_false, if_true, reduceIte, not_true_eq_false, not_false_eq_true, true_imp_iff, false_imp_iff, List.map_cons, List.map_nil, List.sum_cons, List.sum_nil, jcI, jcL, jcR, Nat.reduceAdd, jrv_s, j1r_c, jap_n, jap_c, gI_sI, gL_sL, gI_sL, gL_sI, an_lt, an_le, an_eq, an_lt0, an_0le, an_0lt, an_le0, an_eq0, an_eq1, an_1lt, an_le1, an_1le, an_lt1, an_eqm, an_sub, an_sub1, an_div, an_rem, an_in, an_in0, an_in1, an_cl, an_cl0, an_cl1, nI_add, nI_1, an_1a, pk_mul, Nat.reduceMul, jz10, jz01, j00, j11, jb0, Classical.not_not, eq_self, an_ite, an_of, an_nm, nI_l, lN_add, lN_mul, lN_i, lj_2, lj_3, lj_4, lj_5, lj_6, lj_7, lj_8, lj_9, lj_10, lj_11, lj_12, lj_13, lj_14, lj_15, lj_16, lj_17, lj_18, lj_19, lj_20, lj_21, lj_22, lj_23, lj_24, lj_25, lj_26, lj_27, lj_28, lj_29, lj_30, lj_31, lj_32, lj_33, lj_34, lj_35, lj_36, lj_37, lj_38, lj_39, lj_40, lj_48, lj_50, lj_57, lj_59, lj_60, lj_63, lj_64, lj_65, lj_90, lj_96, lj_97, lj_99, lj_100, lj_101, lj_105, lj_112, lj_114, lj_116, lj_119, lj_122, lj_128, lj_200, lj_255, lj_256, lj_500, lj_777, lj_1000, jr_133_4 hW, jr_133_5 hW, jr_133_6 hW, jr_133_7 hW, jr_133_31 hW, jr_133_32 hW, jr_133_33 hW, jr_133_34 hW, jr_133_35 hW, jr_133_36 hW, jr_133_37 hW, jr_133_38 hW, jr_133_39 hW, jr_133_40 hW, jr_133_41 hW, jr_133_42 hW, jr_133_44 hW, jr_133_45 hW, jr_133_46 hW, jr_133_47 hW, jr_133_48 hW, jr_133_49 hW, jr_133_50 hW, jr_133_51 hW, jr_133_55 hW, jr_133_56 hW, jr_133_57 hW, jr_133_58 hW, jr_133_62 hW, jr_133_65 hW, jr_133_66 hW, jr_133_67 hW, jr_133_68 hW, jr_133_69 hW, jr_133_70 hW, jr_133_71 hW, jr_133_74 hW, jr_133_75 hW, hW.1, jS0_133, jS0_134, jS0_135, jS0_136, jS0_137, jS0_138, jS0_139, jS0_140, jS0_141, jS0_142, jS0_143, jS0_144, jS0_145, jS0_146, jS0_147, jS0_148, jS0_149, jS0_150, jS0_151, jS0_152, jS0_153, jS0_154, jS0_155, jS0_156, jS0_157, jS0_158, jS0_159, jS0_160, jS0_161, jS0_162, jS0_163, jS0_164, jS0_165, jS0_166, jS0_167, jS0_168, jS0_169, jS0_170, jS0_171, g73] | (refine br_c (fun _ => ?_) (fun _ => ?_) <;> try (exfalso; omega)) | (refine br_d (fun _ => ?_) (fun _ => ?_) <;> try (exfalso; omega)) | refine And.intro ?_ ?_ | (refine Nat.ne_of_gt ?_; omega))
      all_goals exact kk
    | succ x ih =>
      intro j v z4 z5 z6 hj v1 v2 h1 h2 h3
      have cj := colb j
      have mx : (if iL (vCol (wZ W) c j) < iL v then iL v else iL (vCol (wZ W) c j)) = iL (if vCol (wZ W) c j < v then v else vCol (wZ W) c j) := by
        have q : (iL (vCol (wZ W) c j) < iL v) = (vCol (wZ W) c j < v) := iL_lt (by omega) (by omega) (by omega) (by omega)
        by_cases y : vCol (wZ W) c j < v
        · rw [if_pos y, if_pos (q.mpr y)]
        · rw [if_neg y, if_neg (fun z => y (q.mp z))]
      have kk := fun z4 z5 z6 => ih (j + 1) (if vCol (wZ W) c j < v then v else vCol (wZ W) c j) z4 z5 z6 (by omega) (by split <;> omega) (by split <;> omega) (fun j' hj' => by
        by_cases e : j' = j
        · rw [e]
          split <;> omega
        · have := h1 j' (by omega)
          split <;> omega) (fun _ => by
        by_cases y : vCol (wZ W) c j < v
        · rw [if_pos y]
          by_cases j0 : 0 < j
          · exact h2 j0
          · omega
        · rw [if_neg y]
          exact ⟨j, by omega, rfl⟩) (Or.inl (by omega))
      rw [← mx] at kk
      have jn : j < n := by omega
      have f0 := hc 0 (by omega)
      have f1 := hc 1 (by omega)
      have f2 := hc 2 (by omega)
      have l0 := iL_N (W 0 j)
      have l1 := iL_N (W 1 j)
      have l2 := iL_N (W 2 j)
      have W0 := w100 0 j
      have W1 := w100 1 j
      have W2 := w100 2 j
      have s0 : (0 : Int64) + iL (c 0 * (W 0 j : Int)) = iL (c 0 * (W 0 j : Int)) := by
        rw [iL_0, iL_add, Int.zero_add]
      have m30 : nI 3 * (0 : Int32) = 0 := by decide
      have m31 : nI 3 * (1 : Int32) = nI 3 := by decide
      have zj : (0 : Int32) + nI j = nI j := Int32.zero_add _
      clear ih h h1 h2 h3 cb colb mx
      refine b279_6 ?_
      rcases (show m = 1 ∨ m = 2 ∨ m = 3 by omega) with rfl | rfl | rfl
      · have e0 := gw 0 j (by omega) jn
        rw [Nat.mul_zero, Nat.zero_add] at e0
        have vc : vCol (wZ W) c j = c 0 * (W 0 j : Int) := by
          unfold vCol wZ
          rw [cz 1 (by omega) (by omega), cz 2 (by omega) (by omega)]
          simp
        rw [vc] at kk
        clear vc gw
        generalize W 0 j = V0 at *
        repeat' (first | refine b279_20 ?_ | refine b279_60 ?_ | refine b279_73 ?_ | dsimp only [jb_e0, jb_ec, jb_n, jb_c, jx_op, j1i_c, j2i_c, j1l_c, j2l_c, jil_c, j1r_c, jri_c, jrii_c, jril_c, jrl_c, jrr_c, j2i'_c, jdup_i, jdup_r, jdup2_c, jdup2_l, jpo_c, jli, jll, jlr, jat_0, jat_s, jst, jst2, jkill_i, jkill_r, jkill_l, jkill_n, jnone, jgv_0, jgv_1, jgv_2, jgv_3, jrv_s, jput_0, jput_1, jput_2, jput_3, jpop_0, jpop_1, jcl_s, jc1, jc2, jvi, Nat.reduceAdd, jol_i, jol_l, jol_n, jap_n, jap_c, List.map_cons, List.map_nil, List.sum_cons, List.sum_nil, jcI, jcL, jcR, gI_sI, gI_sL, gI_sR, gL_sI, gL_sL, gL_sR, gR_sI, gR_sL, gR_sR, gS_sI, gS_sL, gS_sR, gN_sI, gN_sL, gN_sR] | simp (disch := omega) only [Nat.zero_le, true_and, and_true, and_self, Nat.reduceLeDiff, true_or, or_true, false_or, or_false, Nat.reduceEqDiff, false_and, and_false, if_false, if_true, reduceIte, not_true_eq_false, not_false_eq_true, true_imp_iff, false_imp_iff, List.map_cons, List.map_nil, List.sum_cons, List.sum_nil, jcI, jcL, jcR, Nat.reduceAdd, jrv_s, j1r_c, jap_n, jap_c, gI_sI, gL_sL, gI_sL, gL_sI, an_lt, an_le, an_eq, an_lt0, an_0le, an_0lt, an_le0, an_eq0, an_eq1, an_1lt, an_le1, an_1le, an_lt1, an_eqm, an_sub, an_sub1, an_div, an_rem, an_in, an_in0, an_in1, an_cl, an_cl0, an_cl1, nI_add, nI_1, an_1a, pk_mul, Nat.reduceMul, jz10, jz01, j00, j11, jb0, Classical.not_not, eq_self, an_ite, an_of, an_nm, nI_l, lN_add, lN_mul, lN_i, lj_2, lj_3, lj_4, lj_5, lj_6, lj_7, lj_8, lj_9, lj_10, lj_11, lj_12, lj_13, lj_14, lj_15, lj_16, lj_17, lj_18, lj_19, lj_20, lj_21, lj_22, lj_23, lj_24, lj_25, lj_26, lj_27, lj_28, lj_29, lj_30, lj_31, lj_32, lj_33, lj_34, lj_35, lj_36, lj_37, lj_38, lj_39, lj_40, lj_48, lj_50, lj_57, lj_59, lj_60, lj_63, lj_64, lj_65, lj_90, lj_96, lj_97, lj_99, lj_100, lj_101, lj_105, lj_112, lj_114, lj_116, lj_119, lj_122, lj_128, lj_200, lj_255, lj_256, lj_500, lj_777, lj_1000, jr_133_4 hW, jr_133_5 hW, jr_133_6 hW, jr_133_7 hW, jr_133_31 hW, jr_133_32 hW, jr_133_33 hW, jr_133_34 hW, jr_133_35 hW, jr_133_36 hW, jr_133_37 hW, jr_133_38 hW, jr_133_39 hW, jr_133_40 hW, jr_133_41 hW, jr_133_42 hW, jr_133_44 hW, jr_133_45 hW, jr_133_46 hW, jr_133_47 hW, jr_133_48 hW, jr_133_49 hW, jr_133_50 hW, jr_133_51 hW, jr_133_55 hW, jr_133_56 hW, jr_133_57 hW, jr_133_58 hW, jr_133_62 hW, jr_133_65 hW, jr_133_66 hW, jr_133_67 hW, jr_133_68 hW, jr_133_69 hW, jr_133_70 hW, jr_133_71 hW, jr_133_74 hW, jr_133_75 hW, hW.1, jS0_133, jS0_134, jS0_135, jS0_136, jS0_137, jS0_138, jS0_139, jS0_140, jS0_141, jS0_142, jS0_143, jS0_144, jS0_145, jS0_146, jS0_147, jS0_148, jS0_149, jS0_150, jS0_151, jS0_152, jS0_153, jS0_154, jS0_155, jS0_156, jS0_157, jS0_158, jS0_159, jS0_160, jS0_161, jS0_162, jS0_163, jS0_164, jS0_165, jS0_166, jS0_167, jS0_168, jS0_169, jS0_170, jS0_171, g72, g73, f0, e0, l0, jnone, iL_mul, iL_add, s0, i01, i11, m30, m31, zj] | (refine br_c (fun _ => ?_) (fun _ => ?_) <;> try (exfalso; omega)) | (refine br_d (fun _ => ?_) (fun _ => ?_) <;> try (exfalso; omega)) | refine And.intro ?_ ?_ | (refine Nat.ne_of_gt ?_; omega))
        all_goals exact kk _ _ _
      · have e0 := gw 0 j (by omega) jn
        rw [Nat.mul_zero, Nat.zero_add] at e0
        have e1 : gI μ 169 (3 + j) = nI (W 1 j) := gw 1 j (by omega) jn
        have vc : vCol (wZ W) c j = c 0 * (W 0 j : Int) + c 1 * (W 1 j : Int) := by
          unfold vCol wZ
          rw [cz 2 (by omega) (by omega)]
          simp
        rw [vc] at kk
        clear vc gw
        generalize W 0 j = V0 at *
        generalize W 1 j = V1 at *
        repeat' (first | refine b279_20 ?_ | refine b279_60 ?_ | refine b279_73 ?_ | dsimp only [jb_e0, jb_ec, jb_n, jb_c, jx_op, j1i_c, j2i_c, j1l_c, j2l_c, jil_c, j1r_c, jri_c, jrii_c, jril_c, jrl_c, jrr_c, j2i'_c, jdup_i, jdup_r, jdup2_c, jdup2_l, jpo_c, jli, jll, jlr, jat_0, jat_s, jst, jst2, jkill_i, jkill_r, jkill_l, jkill_n, jnone, jgv_0, jgv_1, jgv_2, jgv_3, jrv_s, jput_0, jput_1, jput_2, jput_3, jpop_0, jpop_1, jcl_s, jc1, jc2, jvi, Nat.reduceAdd, jol_i, jol_l, jol_n, jap_n, jap_c, List.map_cons, List.map_nil, List.sum_cons, List.sum_nil, jcI, jcL, jcR, gI_sI, gI_sL, gI_sR, gL_sI, gL_sL, gL_sR, gR_sI, gR_sL, gR_sR, gS_sI, gS_sL, gS_sR, gN_sI, gN_sL, gN_sR] | simp (disch := omega) only [Nat.zero_le, true_and, and_true, and_self, Nat.reduceLeDiff, true_or, or_true, false_or, or_false, Nat.reduceEqDiff, false_and, and_false, if_false, if_true, reduceIte, not_true_eq_false, not_false_eq_true, true_imp_iff, false_imp_iff, List.map_cons, List.map_nil, List.sum_cons, List.sum_nil, jcI, jcL, jcR, Nat.reduceAdd, jrv_s, j1r_c, jap_n, jap_c, gI_sI, gL_sL, gI_sL, gL_sI, an_lt, an_le, an_eq, an_lt0, an_0le, an_0lt, an_le0, an_eq0, an_eq1, an_1lt, an_le1, an_1le, an_lt1, an_eqm, an_sub, an_sub1, an_div, an_rem, an_in, an_in0, an_in1, an_cl, an_cl0, an_cl1, nI_add, nI_1, an_1a, pk_mul, Nat.reduceMul, jz10, jz01, j00, j11, jb0, Classical.not_not, eq_self, an_ite, an_of, an_nm, nI_l, lN_add, lN_mul, lN_i, lj_2, lj_3, lj_4, lj_5, lj_6, lj_7, lj_8, lj_9, lj_10, lj_11, lj_12, lj_13, lj_14, lj_15, lj_16, lj_17, lj_18, lj_19, lj_20, lj_21, lj_22, lj_23, lj_24, lj_25, lj_26, lj_27, lj_28, lj_29, lj_30, lj_31, lj_32, lj_33, lj_34, lj_35, lj_36, lj_37, lj_38, lj_39, lj_40, lj_48, lj_50, lj_57, lj_59, lj_60, lj_63, lj_64, lj_65, lj_90, lj_96, lj_97, lj_99, lj_100, lj_101, lj_105, lj_112, lj_114, lj_116, lj_119, lj_122, lj_128, lj_200, lj_255, lj_256, lj_500, lj_777, lj_1000, jr_133_4 hW, jr_133_5 hW, jr_133_6 hW, jr_133_7 hW, jr_133_31 hW, jr_133_32 hW, jr_133_33 hW, jr_133_34 hW, jr_133_35 hW, jr_133_36 hW, jr_133_37 hW, jr_133_38 hW, jr_133_39 hW, jr_133_40 hW, jr_133_41 hW, jr_133_42 hW, jr_133_44 hW, jr_133_45 hW, jr_133_46 hW, jr_133_47 hW, jr_133_48 hW, jr_133_49 hW, jr_133_50 hW, jr_133_51 hW, jr_133_55 hW, jr_133_56 hW, jr_133_57 hW, jr_133_58 hW, jr_133_62 hW, jr_133_65 hW, jr_133_66 hW, jr_133_67 hW, jr_133_68 hW, jr_133_69 hW, jr_133_70 hW, jr_133_71 hW, jr_133_74 hW, jr_133_75 hW, hW.1, jS0_133, jS0_134, jS0_135, jS0_136, jS0_137, jS0_138, jS0_139, jS0_140, jS0_141, jS0_142, jS0_143, jS0_144, jS0_145, jS0_146, jS0_147, jS0_148, jS0_149, jS0_150, jS0_151, jS0_152, jS0_153, jS0_154, jS0_155, jS0_156, jS0_157, jS0_158, jS0_159, jS0_160, jS0_161, jS0_162, jS0_163, jS0_164, jS0_165, jS0_166, jS0_167, jS0_168, jS0_169, jS0_170, jS0_171, g72, g73, f0, f1, e0, e1, l0, l1, jnone, iL_mul, iL_add, s0, i01, i11, m30, m31, zj] | (refine br_c (fun _ => ?_) (fun _ => ?_) <;> try (exfalso; omega)) | (refine br_d (fun _ => ?_) (fun _ => ?_) <;> try (exfalso; omega)) | refine And.intro ?_ ?_ | (refine Nat.ne_of_gt ?_; omega))
        all_goals exact kk _ _ _
      · have e0 := gw 0 j (by omega) jn
        rw [Nat.mul_zero, Nat.zero_add] at e0
        have e1 : gI μ 169 (3 + j) = nI (W 1 j) := gw 1 j (by omega) jn
        have e2 : gI μ 169 (6 + j) = nI (W 2 j) := gw 2 j (by omega) jn
        have vc : vCol (wZ W) c j = c 0 * (W 0 j : Int) + c 1 * (W 1 j : Int) + c 2 * (W 2 j : Int) := rfl
        rw [vc] at kk
        clear vc gw
        generalize W 0 j = V0 at *
        generalize W 1 j = V1 at *
        generalize W 2 j = V2 at *
        repeat' (first | refine b279_20 ?_ | refine b279_60 ?_ | refine b279_73 ?_ | dsimp only [jb_e0, jb_ec, jb_n, jb_c, jx_op, j1i_c, j2i_c, j1l_c, j2l_c, jil_c, j1r_c, jri_c, jrii_c, jril_c, jrl_c, jrr_c, j2i'_c, jdup_i, jdup_r, jdup2_c, jdup2_l, jpo_c, jli, jll, jlr, jat_0, jat_s, jst, jst2, jkill_i, jkill_r, jkill_l, jkill_n, jnone, jgv_0, jgv_1, jgv_2, jgv_3, jrv_s, jput_0, jput_1, jput_2, jput_3, jpop_0, jpop_1, jcl_s, jc1, jc2, jvi, Nat.reduceAdd, jol_i, jol_l, jol_n, jap_n, jap_c, List.map_cons, List.map_nil, List.sum_cons, List.sum_nil, jcI, jcL, jcR, gI_sI, gI_sL, gI_sR, gL_sI, gL_sL, gL_sR, gR_sI, gR_sL, gR_sR, gS_sI, gS_sL, gS_sR, gN_sI, gN_sL, gN_sR] | simp (disch := omega) only [Nat.zero_le, true_and, and_true, and_self, Nat.reduceLeDiff, true_or, or_true, false_or, or_false, Nat.reduceEqDiff, false_and, and_false, if_false, if_true, reduceIte, not_true_eq_false, not_false_eq_true, true_imp_iff, false_imp_iff, List.map_cons, List.map_nil, List.sum_cons, List.sum_nil, jcI, jcL, jcR, Nat.reduceAdd, jrv_s, j1r_c, jap_n, jap_c, gI_sI, gL_sL, gI_sL, gL_sI, an_lt, an_le, an_eq, an_lt0, an_0le, an_0lt, an_le0, an_eq0, an_eq1, an_1lt, an_le1, an_1le, an_lt1, an_eqm, an_sub, an_sub1, an_div, an_rem, an_in, an_in0, an_in1, an_cl, an_cl0, an_cl1, nI_add, nI_1, an_1a, pk_mul, Nat.reduceMul, jz10, jz01, j00, j11, jb0, Classical.not_not, eq_self, an_ite, an_of, an_nm, nI_l, lN_add, lN_mul, lN_i, lj_2, lj_3, lj_4, lj_5, lj_6, lj_7, lj_8, lj_9, lj_10, lj_11, lj_12, lj_13, lj_14, lj_15, lj_16, lj_17, lj_18, lj_19, lj_20, lj_21, lj_22, lj_23, lj_24, lj_25, lj_26, lj_27, lj_28, lj_29, lj_30, lj_31, lj_32, lj_33, lj_34, lj_35, lj_36, lj_37, lj_38, lj_39, lj_40, lj_48, lj_50, lj_57, lj_59, lj_60, lj_63, lj_64, lj_65, lj_90, lj_96, lj_97, lj_99, lj_100, lj_101, lj_105, lj_112, lj_114, lj_116, lj_119, lj_122, lj_128, lj_200, lj_255, lj_256, lj_500, lj_777, lj_1000, jr_133_4 hW, jr_133_5 hW, jr_133_6 hW, jr_133_7 hW, jr_133_31 hW, jr_133_32 hW, jr_133_33 hW, jr_133_34 hW, jr_133_35 hW, jr_133_36 hW, jr_133_37 hW, jr_133_38 hW, jr_133_39 hW, jr_133_40 hW, jr_133_41 hW, jr_133_42 hW, jr_133_44 hW, jr_133_45 hW, jr_133_46 hW, jr_133_47 hW, jr_133_48 hW, jr_133_49 hW, jr_133_50 hW, jr_133_51 hW, jr_133_55 hW, jr_133_56 hW, jr_133_57 hW, jr_133_58 hW, jr_133_62 hW, jr_133_65 hW, jr_133_66 hW, jr_133_67 hW, jr_133_68 hW, jr_133_69 hW, jr_133_70 hW, jr_133_71 hW, jr_133_74 hW, jr_133_75 hW, hW.1, jS0_133, jS0_134, jS0_135, jS0_136, jS0_137, jS0_138, jS0_139, jS0_140, jS0_141, jS0_142, jS0_143, jS0_144, jS0_145, jS0_146, jS0_147, jS0_148, jS0_149, jS0_150, jS0_151, jS0_152, jS0_153, jS0_154, jS0_155, jS0_156, jS0_157, jS0_158, jS0_159, jS0_160, jS0_161, jS0_162, jS0_163, jS0_164, jS0_165, jS0_166, jS0_167, jS0_168, jS0_169, jS0_170, jS0_171, g72, g73, f0, f1, f2, e0, e1, e2, l0, l1, l2, jnone, iL_mul, iL_add, s0, i01, i11, m30, m31, zj] | (refine br_c (fun _ => ?_) (fun _ => ?_) <;> try (exfalso; omega)) | (refine br_d (fun _ => ?_) (fun _ => ?_) <;> try (exfalso; omega)) | refine And.intro ?_ ?_ | (refine Nat.ne_of_gt ?_; omega))
        all_goals exact kk _ _ _
  have kk := loop n 0 (-1) none none none (by omega) (by omega) (by omega) (fun j hj => absurd hj (Nat.not_lt_zero _)) (fun z => absurd z (Nat.not_lt_zero _)) (Or.inr rfl)
  have z0 : nI 0 = 0 := rfl
  rw [z0, ← iL_m1] at kk
  clear h loop
  refine e279 (b279_0 ?_)
  repeat' (first | refine b279_20 ?_ | refine b279_60 ?_ | refine b279_73 ?_ | dsimp only [jb_e0, jb_ec, jb_n, jb_c, jx_op, j1i_c, j2i_c, j1l_c, j2l_c, jil_c, j1r_c, jri_c, jrii_c, jril_c, jrl_c, jrr_c, j2i'_c, jdup_i, jdup_r, jdup2_c, jdup2_l, jpo_c, jli, jll, jlr, jat_0, jat_s, jst, jst2, jkill_i, jkill_r, jkill_l, jkill_n, jnone, jgv_0, jgv_1, jgv_2, jgv_3, jrv_s, jput_0, jput_1, jput_2, jput_3, jpop_0, jpop_1, jcl_s, jc1, jc2, jvi, Nat.reduceAdd, jol_i, jol_l, jol_n, jap_n, jap_c, List.map_cons, List.map_nil, List.sum_cons, List.sum_nil, jcI, jcL, jcR, gI_sI, gI_sL, gI_sR, gL_sI, gL_sL, gL_sR, gR_sI, gR_sL, gR_sR, gS_sI, gS_sL, gS_sR, gN_sI, gN_sL, gN_sR] | simp (disch := omega) only [Nat.zero_le, true_and, and_true, and_self, Nat.reduceLeDiff, true_or, or_true, false_or, or_false, Nat.reduceEqDiff, false_and, and_false, if_false, if_true, reduceIte, not_true_eq_false, not_false_eq_true, true_imp_iff, false_imp_iff, List.map_cons, List.map_nil, List.sum_cons, List.sum_nil, jcI, jcL, jcR, Nat.reduceAdd, jrv_s, j1r_c, jap_n, jap_c, gI_sI, gL_sL, gI_sL, gL_sI, an_lt, an_le, an_eq, an_lt0, an_0le, an_0lt, an_le0, an_eq0, an_eq1, an_1lt, an_le1, an_1le, an_lt1, an_eqm, an_sub, an_sub1, an_div, an_rem, an_in, an_in0, an_in1, an_cl, an_cl0, an_cl1, nI_add, nI_1, an_1a, pk_mul, Nat.reduceMul, jz10, jz01, j00, j11, jb0, Classical.not_not, eq_self, an_ite, an_of, an_nm, nI_l, lN_add, lN_mul, lN_i, lj_2, lj_3, lj_4, lj_5, lj_6, lj_7, lj_8, lj_9, lj_10, lj_11, lj_12, lj_13, lj_14, lj_15, lj_16, lj_17, lj_18, lj_19, lj_20, lj_21, lj_22, lj_23, lj_24, lj_25, lj_26, lj_27, lj_28, lj_29, lj_30, lj_31, lj_32, lj_33, lj_34, lj_35, lj_36, lj_37, lj_38, lj_39, lj_40, lj_48, lj_50, lj_57, lj_59, lj_60, lj_63, lj_64, lj_65, lj_90, lj_96, lj_97, lj_99, lj_100, lj_101, lj_105, lj_112, lj_114, lj_116, lj_119, lj_122, lj_128, lj_200, lj_255, lj_256, lj_500, lj_777, lj_1000, jnone] | (refine br_c (fun _ => ?_) (fun _ => ?_) <;> try (exfalso; omega)) | (refine br_d (fun _ => ?_) (fun _ => ?_) <;> try (exfalso; omega)) | refine And.intro ?_ ?_ | (refine Nat.ne_of_gt ?_; omega))
  all_goals exact kk
end JV9
