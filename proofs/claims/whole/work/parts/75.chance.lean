/-! chance -/
section JCC
variable {d L t : Nat} {μ : jMem} {Q : jQ}
theorem jfr_eq {x s y b : Nat} (hs : 0 < s) (hb : 0 < b) (h : x * b = y * s) : x / Nat.gcd x s = y / Nat.gcd y b ∧ s / Nat.gcd x s = b / Nat.gcd y b := by
  have h1 : Nat.gcd x s * b = Nat.gcd y b * s := by
    rw [← Nat.gcd_mul_right, ← Nat.gcd_mul_right, h, Nat.mul_comm s b]
  have p1 : 0 < Nat.gcd x s := Nat.gcd_pos_of_pos_right x hs
  have p2 : 0 < Nat.gcd y b := Nat.gcd_pos_of_pos_right y hb
  have e1 := Nat.div_mul_cancel (Nat.gcd_dvd_left x s)
  have e2 := Nat.div_mul_cancel (Nat.gcd_dvd_right x s)
  have e3 := Nat.div_mul_cancel (Nat.gcd_dvd_left y b)
  have e4 := Nat.div_mul_cancel (Nat.gcd_dvd_right y b)
  generalize Nat.gcd x s = g at *
  generalize Nat.gcd y b = f at *
  generalize x / g = x' at *
  generalize s / g = s' at *
  generalize y / f = y' at *
  generalize b / f = b' at *
  have hgb : 0 < g * b := Nat.mul_pos p1 hb
  constructor
  · apply Nat.eq_of_mul_eq_mul_right hgb
    calc x' * (g * b) = (x' * g) * b := (Nat.mul_assoc _ _ _).symm
      _ = x * b := by rw [e1]
      _ = y * s := h
      _ = (y' * f) * s := by rw [e3]
      _ = y' * (f * s) := Nat.mul_assoc _ _ _
      _ = y' * (g * b) := by rw [h1]
  · have hgf : 0 < g * f := Nat.mul_pos p1 p2
    apply Nat.eq_of_mul_eq_mul_right hgf
    calc s' * (g * f) = (s' * g) * f := (Nat.mul_assoc _ _ _).symm
      _ = s * f := by rw [e2]
      _ = f * s := Nat.mul_comm _ _
      _ = g * b := h1.symm
      _ = g * (b' * f) := by rw [e4]
      _ = b' * (g * f) := by rw [Nat.mul_comm b' f, ← Nat.mul_assoc, Nat.mul_comm]
theorem sp_sum {o : Nat} {x : Nat → Nat} (hs : gS μ o = (101, 4)) (hx : ∀ k, k < 3 → gL μ o k = lN (x k)) (hb : ∀ k, k < 3 → x k < 2 ^ 50) (h : Q (some (.long (lN (x 0 + x 1 + x 2)))) μ) : jC d 6 [.ref o] μ Q := by
  have a0 := hx 0 (by omega)
  have a1 := hx 1 (by omega)
  have a2 := hx 2 (by omega)
  have z0 : lN 0 + lN (x 0) = lN (x 0) := by rw [lN_add, Nat.zero_add]
  refine e6 (b6_0 ?_)
  repeat' (first | refine b6_4 ?_ | refine b6_27 ?_ | dsimp only [jb_e0, jb_ec, jb_n, jb_c, jx_op, j1i_c, j2i_c, j1l_c, j2l_c, jil_c, j1r_c, jri_c, jrii_c, jril_c, jrl_c, jrr_c, j2i'_c, jdup_i, jdup_r, jdup2_c, jdup2_l, jpo_c, jli, jll, jlr, jat_0, jat_s, jst, jst2, jkill_i, jkill_r, jkill_l, jkill_n, jnone, jgv_0, jgv_1, jgv_2, jgv_3, jrv_s, jput_0, jput_1, jput_2, jput_3, jpop_0, jpop_1, jcl_s, jc1, jc2, jvi, Nat.reduceAdd, jol_i, jol_l, jol_n, jap_n, jap_c, List.map_cons, List.map_nil, List.sum_cons, List.sum_nil, jcI, jcL, jcR, gI_sI, gI_sL, gI_sR, gL_sI, gL_sL, gL_sR, gR_sI, gR_sL, gR_sR, gS_sI, gS_sL, gS_sR, gN_sI, gN_sL, gN_sR] | simp (disch := omega) only [Nat.zero_le, true_and, and_true, and_self, Nat.reduceLeDiff, true_or, or_true, false_or, or_false, Nat.reduceEqDiff, false_and, and_false, if_false, if_true, reduceIte, not_true_eq_false, not_false_eq_true, true_imp_iff, false_imp_iff, List.map_cons, List.map_nil, List.sum_cons, List.sum_nil, jcI, jcL, jcR, Nat.reduceAdd, jrv_s, j1r_c, jap_n, jap_c, gI_sI, gL_sL, gI_sL, gL_sI, an_lt, an_le, an_eq, an_lt0, an_0le, an_0lt, an_le0, an_eq0, an_eq1, an_1lt, an_le1, an_1le, an_lt1, an_eqm, an_sub, an_sub1, an_div, an_rem, an_in, an_in0, an_in1, an_cl, an_cl0, an_cl1, nI_add, nI_1, an_1a, pk_mul, Nat.reduceMul, jz10, jz01, j00, j11, jb0, Classical.not_not, eq_self, an_ite, an_of, an_nm, nI_l, lN_add, lN_mul, lN_i, lj_2, lj_3, lj_4, lj_5, lj_6, lj_7, lj_8, lj_9, lj_10, lj_11, lj_12, lj_13, lj_14, lj_15, lj_16, lj_17, lj_18, lj_19, lj_20, lj_21, lj_22, lj_23, lj_24, lj_25, lj_26, lj_27, lj_28, lj_29, lj_30, lj_31, lj_32, lj_33, lj_34, lj_35, lj_36, lj_37, lj_38, lj_39, lj_40, lj_48, lj_50, lj_57, lj_59, lj_60, lj_63, lj_64, lj_65, lj_90, lj_96, lj_97, lj_99, lj_100, lj_101, lj_105, lj_112, lj_114, lj_116, lj_119, lj_122, lj_128, lj_200, lj_255, lj_256, lj_500, lj_777, lj_1000, hs, a0, a1, a2, al_0, jnone, z0, Nat.zero_add, i01, i11] | (refine br_c (fun _ => ?_) (fun _ => ?_) <;> try (exfalso; omega)) | (refine br_d (fun _ => ?_) (fun _ => ?_) <;> try (exfalso; omega)) | refine And.intro ?_ ?_ | (refine Nat.ne_of_gt ?_; omega))
  all_goals exact h
end JCC
