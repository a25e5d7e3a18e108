/-! value: the class's sides and corners -/
section JV2
variable {d L t : Nat} {μ : jMem} {Q : jQ} {W : Nat → Nat → Nat} {m n h p q i j k e b : Nat} {r : Nat → Nat → Int}
def iL (z : Int) : Int64 := Int64.ofInt z
theorem iL_add (a b : Int) : iL a + iL b = iL (a + b) := (Int64.ofInt_add a b).symm
theorem iL_sub (a b : Int) : iL a - iL b = iL (a - b) := (Int64.ofInt_sub a b).symm
theorem iL_mul (a b : Int) : iL a * iL b = iL (a * b) := (Int64.ofInt_mul a b).symm
theorem iL_neg (a : Int) : - iL a = iL (- a) := (Int64.ofInt_neg a).symm
theorem iL_N (k : Nat) : lN k = iL k := (Int64.ofInt_eq_ofNat (n := k)).symm
theorem iL_0 : (0 : Int64) = iL 0 := by decide
theorem iL_1 : (1 : Int64) = iL 1 := by decide
theorem iL_m1 : (-1 : Int64) = iL (-1) := by decide
theorem iL_t {a : Int} (h1 : -4611686018427387904 ≤ a) (h2 : a ≤ 4611686018427387904) : (iL a).toInt = a := Int64.toInt_ofInt_of_le (by omega) (by omega)
theorem iL_lt {a b : Int} (a1 : -4611686018427387904 ≤ a) (a2 : a ≤ 4611686018427387904) (b1 : -4611686018427387904 ≤ b) (b2 : b ≤ 4611686018427387904) : (iL a < iL b) = (a < b) := by
  apply propext
  rw [Int64.lt_iff_toInt_lt, iL_t a1 a2, iL_t b1 b2]
theorem iL_le {a b : Int} (a1 : -4611686018427387904 ≤ a) (a2 : a ≤ 4611686018427387904) (b1 : -4611686018427387904 ≤ b) (b2 : b ≤ 4611686018427387904) : (iL a ≤ iL b) = (a ≤ b) := by
  apply propext
  rw [Int64.le_iff_toInt_le, iL_t a1 a2, iL_t b1 b2]
theorem iL_eq {a b : Int} (a1 : -4611686018427387904 ≤ a) (a2 : a ≤ 4611686018427387904) (b1 : -4611686018427387904 ≤ b) (b2 : b ≤ 4611686018427387904) : (iL a = iL b) = (a = b) := by
  apply propext
  rw [← Int64.toInt_inj, iL_t a1 a2, iL_t b1 b2]
theorem vbd {a b A B : Int} (a1 : -A ≤ a) (a2 : a ≤ A) (b1 : -B ≤ b) (b2 : b ≤ B) : -(A * B) ≤ a * b ∧ a * b ≤ A * B := by
  have p1 := Int.mul_nonneg (show 0 ≤ A - a by omega) (show 0 ≤ B + b by omega)
  have p2 := Int.mul_nonneg (show 0 ≤ A + a by omega) (show 0 ≤ B - b by omega)
  have p3 := Int.mul_nonneg (show 0 ≤ A - a by omega) (show 0 ≤ B - b by omega)
  have p4 := Int.mul_nonneg (show 0 ≤ A + a by omega) (show 0 ≤ B + b by omega)
  have e1 : (A - a) * (B + b) = A * B + A * b - a * B - a * b := by grind
  have e2 : (A + a) * (B - b) = A * B - A * b + a * B - a * b := by grind
  have e3 : (A - a) * (B - b) = A * B - A * b - a * B + a * b := by grind
  have e4 : (A + a) * (B + b) = A * B + A * b + a * B + a * b := by grind
  rw [e1] at p1
  rw [e2] at p2
  rw [e3] at p3
  rw [e4] at p4
  generalize A * B = AB at *
  generalize A * b = Ab at *
  generalize a * B = aB at *
  generalize a * b = ab at *
  omega
/-- worths as numbers -/
def wZ (W : Nat → Nat → Nat) : Nat → Nat → Int := fun i j => (W i j : Int)
def gW (W : Nat → Nat → Nat) (m n : Nat) (μ : jMem) : Prop := (gI μ 128 0 = nI m ∧ gI μ 128 1 = nI n) ∧ (∀ i j, i < 3 → j < 3 → gI μ 129 (3 * i + j) = nI (W i j) ∧ W i j ≤ 100) ∧ (1 ≤ m ∧ m ≤ 3) ∧ 1 ≤ n ∧ n ≤ 3
theorem gW.fr {A : List Nat} {ν : jMem} (h : gW W m n μ) (F : jFr A μ ν) (h1 : 128 ∉ A) (h2 : 129 ∉ A) : gW W m n ν := by
  obtain ⟨⟨a, b⟩, c, e⟩ := h
  exact ⟨⟨((F.1 128 h1).1 0).trans a, ((F.1 128 h1).1 1).trans b⟩, fun i j hi hj => by rw [(F.1 129 h2).1]; exact c i j hi hj, e⟩
theorem vE_b (hw : ∀ i j, i < 3 → j < 3 → W i j ≤ 100) (hb : b < 6) (hk : k < 4) : -100 ≤ vE (wZ W) b k ∧ vE (wZ W) b k ≤ 100 := by
  unfold vE wZ
  split
  · split <;> omega
  · split
    · omega
    · have := hw k (b - 3) (by omega) (by omega)
      omega
theorem vM_b {x y z : Nat} (hw : ∀ i j, i < 3 → j < 3 → W i j ≤ 100) (hi : i < 6) (hj : j < 6) (hk : k < 6) (hx : x < 4) (hy : y < 4) (hz : z < 4) : -6000000 ≤ vM (wZ W) i j k x y z ∧ vM (wZ W) i j k x y z ≤ 6000000 := by
  have B := fun e l he hl => vE_b (b := e) (k := l) hw he hl
  unfold vM
  have t : ∀ a p q r s : Int, (-100 ≤ a ∧ a ≤ 100) → (-100 ≤ p ∧ p ≤ 100) → (-100 ≤ q ∧ q ≤ 100) → (-100 ≤ r ∧ r ≤ 100) → (-100 ≤ s ∧ s ≤ 100) → -2000000 ≤ a * (p * q - r * s) ∧ a * (p * q - r * s) ≤ 2000000 := fun a p q r s ha hp hq hr hs => by
    have u1 := vbd (A := 100) (B := 100) hp.1 hp.2 hq.1 hq.2
    have u2 := vbd (A := 100) (B := 100) hr.1 hr.2 hs.1 hs.2
    have u3 := vbd (a := a) (b := p * q - r * s) (A := 100) (B := 20000) ha.1 ha.2 (by omega) (by omega)
    omega
  have t1 := t _ _ _ _ _ (B i x hi hx) (B j y hj hy) (B k z hk hz) (B j z hj hz) (B k y hk hy)
  have t2 := t _ _ _ _ _ (B i y hi hy) (B j x hj hx) (B k z hk hz) (B j z hj hz) (B k x hk hx)
  have t3 := t _ _ _ _ _ (B i z hi hz) (B j x hj hx) (B k y hk hy) (B j y hj hy) (B k x hk hx)
  omega
theorem vCo_b {l : Nat} (hw : ∀ i j, i < 3 → j < 3 → W i j ≤ 100) (hi : i < 6) (hj : j < 6) (hk : k < 6) : -6000000 ≤ vCo (wZ W) i j k l ∧ vCo (wZ W) i j k l ≤ 6000000 := by
  have a := vM_b (x := 1) (y := 2) (z := 3) hw hi hj hk (by omega) (by omega) (by omega)
  have b := vM_b (x := 0) (y := 2) (z := 3) hw hi hj hk (by omega) (by omega) (by omega)
  have c := vM_b (x := 0) (y := 1) (z := 3) hw hi hj hk (by omega) (by omega) (by omega)
  have d := vM_b (x := 0) (y := 1) (z := 2) hw hi hj hk (by omega) (by omega) (by omega)
  unfold vCo
  split
  · omega
  · split
    · omega
    · split <;> omega
theorem vN_b {l : Nat} (hw : ∀ i j, i < 3 → j < 3 → W i j ≤ 100) (hi : i < 6) (hj : j < 6) (hk : k < 6) : -6000000 ≤ vN (wZ W) i j k l ∧ vN (wZ W) i j k l ≤ 6000000 := by
  have a := vCo_b (l := l) hw hi hj hk
  unfold vN
  split <;> omega
theorem sg_worthAt (hW : jWd L t μ) (hG : gW W m n μ) (hi : i < 3) (hj : j < 3) (h : Q (some (.int (nI (W i j)))) μ) : jC d 10 [.ref 128, .int (nI i), .int (nI j)] μ Q := by
  have e1 := (hG.2.1 i j hi hj).1
  refine e10 (b10_0 ?_)
  rw [Nat.mul_comm] at e1
  repeat' (first | refine b10_28 ?_ | refine b10_29 ?_ | dsimp only [jb_e0, jb_ec, jb_n, jb_c, jx_op, j1i_c, j2i_c, j1l_c, j2l_c, jil_c, j1r_c, jri_c, jrii_c, jril_c, jrl_c, jrr_c, j2i'_c, jdup_i, jdup_r, jdup2_c, jdup2_l, jpo_c, jli, jll, jlr, jat_0, jat_s, jst, jst2, jkill_i, jkill_r, jkill_l, jkill_n, jnone, jgv_0, jgv_1, jgv_2, jgv_3, jrv_s, jput_0, jput_1, jput_2, jput_3, jpop_0, jpop_1, jcl_s, jc1, jc2, jvi, Nat.reduceAdd, jol_i, jol_l, jol_n, jap_n, jap_c, List.map_cons, List.map_nil, List.sum_cons, List.sum_nil, jcI, jcL, jcR, gI_sI, gI_sL, gI_sR, gL_sI, gL_sL, gL_sR, gR_sI, gR_sL, gR_sR, gS_sI, gS_sL, gS_sR, gN_sI, gN_sL, gN_sR] | simp (disch := omega) only [Nat.zero_le, true_and, and_true, and_self, Nat.reduceLeDiff, true_or, or_true, false_or, or_false, Nat.reduceEqDiff, false_and, and_false, if_false, if_true, reduceIte, not_true_eq_false, not_false_eq_true, true_imp_iff, false_imp_iff, List.map_cons, List.map_nil, List.sum_cons, List.sum_nil, jcI, jcL, jcR, Nat.reduceAdd, jrv_s, j1r_c, jap_n, jap_c, gI_sI, gL_sL, gI_sL, gL_sI, an_lt, an_le, an_eq, an_lt0, an_0le, an_0lt, an_le0, an_eq0, an_eq1, an_1lt, an_le1, an_1le, an_lt1, an_eqm, an_sub, an_sub1, an_div, an_rem, an_in, an_in0, an_in1, an_cl, an_cl0, an_cl1, nI_add, nI_1, an_1a, pk_mul, Nat.reduceMul, jz10, jz01, j00, j11, jb0, Classical.not_not, eq_self, an_ite, an_of, an_nm, nI_l, lN_add, lN_mul, lN_i, lj_2, lj_3, lj_4, lj_5, lj_6, lj_7, lj_8, lj_9, lj_10, lj_11, lj_12, lj_13, lj_14, lj_15, lj_16, lj_17, lj_18, lj_19, lj_20, lj_21, lj_22, lj_23, lj_24, lj_25, lj_26, lj_27, lj_28, lj_29, lj_30, lj_31, lj_32, lj_33, lj_34, lj_35, lj_36, lj_37, lj_38, lj_39, lj_40, lj_48, lj_50, lj_57, lj_59, lj_60, lj_63, lj_64, lj_65, lj_90, lj_96, lj_97, lj_99, lj_100, lj_101, lj_105, lj_112, lj_114, lj_116, lj_119, lj_122, lj_128, lj_200, lj_255, lj_256, lj_500, lj_777, lj_1000, jr_128_2 hW, jr_128_3 hW, jr_128_4 hW, jr_128_5 hW, hW.1, jS0_128, jS0_129, jS0_130, jS0_131, jS0_132, e1] | (refine br_c (fun _ => ?_) (fun _ => ?_) <;> try (exfalso; omega)) | (refine br_d (fun _ => ?_) (fun _ => ?_) <;> try (exfalso; omega)) | refine And.intro ?_ ?_ | (refine Nat.ne_of_gt ?_; omega))
  all_goals exact h
theorem sg_layEdge (hW : jWd L t μ) (hG : gW W m n μ) (he : e < 3) (hb : b < 6) (h : ∀ ν, jFr [132] μ ν → (∀ k, k < 4 → gL ν 132 (e * 4 + k) = iL (vE (wZ W) b k)) → (∀ x, x < e * 4 → gL ν 132 x = gL μ 132 x) → Q none ν) : jC (d + 1) 9 [.ref 128, .int (nI e), .int (nI b)] μ Q := by
  have key : ∀ (c k : Nat) (ν : jMem) (z : Option Value), k + c = 4 → jFr [132] μ ν → (∀ l, l < k → gL ν 132 (e * 4 + l) = iL (vE (wZ W) b l)) → (∀ x, x < e * 4 → gL ν 132 x = gL μ 132 x) → jR (d + 1) 9 2 [some (.ref 128), some (.int (nI e)), some (.int (nI b)), some (.int (nI k)), z] [] (0, 0) ν Q := by
    intro c
    induction c with
    | zero =>
      intro k ν z hk F h1 h2
      obtain rfl : k = 4 := by omega
      have kk := h ν F h1 h2
      refine b9_2 ?_
      repeat' (first | refine b9_29 ?_ | refine b9_30 ?_ | refine b9_50 ?_ | refine b9_51 ?_ | refine b9_55 ?_ | refine b9_72 ?_ | refine b9_81 ?_ | refine b9_82 ?_ | refine b9_88 ?_ | dsimp only [jb_e0, jb_ec, jb_n, jb_c, jx_op, j1i_c, j2i_c, j1l_c, j2l_c, jil_c, j1r_c, jri_c, jrii_c, jril_c, jrl_c, jrr_c, j2i'_c, jdup_i, jdup_r, jdup2_c, jdup2_l, jpo_c, jli, jll, jlr, jat_0, jat_s, jst, jst2, jkill_i, jkill_r, jkill_l, jkill_n, jnone, jgv_0, jgv_1, jgv_2, jgv_3, jrv_s, jput_0, jput_1, jput_2, jput_3, jpop_0, jpop_1, jcl_s, jc1, jc2, jvi, Nat.reduceAdd, jol_i, jol_l, jol_n, jap_n, jap_c, List.map_cons, List.map_nil, List.sum_cons, List.sum_nil, jcI, jcL, jcR, gI_sI, gI_sL, gI_sR, gL_sI, gL_sL, gL_sR, gR_sI, gR_sL, gR_sR, gS_sI, gS_sL, gS_sR, gN_sI, gN_sL, gN_sR] | simp (disch := omega) only [Nat.zero_le, true_and, and_true, and_self, Nat.reduceLeDiff, true_or, or_true, false_or, or_false, Nat.reduceEqDiff, false_and, and_false, if_false, if_true, reduceIte, not_true_eq_false, not_false_eq_true, true_imp_iff, false_imp_iff, List.map_cons, List.map_nil, List.sum_cons, List.sum_nil, jcI, jcL, jcR, Nat.reduceAdd, jrv_s, j1r_c, jap_n, jap_c, gI_sI, gL_sL, gI_sL, gL_sI, an_lt, an_le, an_eq, an_lt0, an_0le, an_0lt, an_le0, an_eq0, an_eq1, an_1lt, an_le1, an_1le, an_lt1, an_eqm, an_sub, an_sub1, an_div, an_rem, an_in, an_in0, an_in1, an_cl, an_cl0, an_cl1, nI_add, nI_1, an_1a, pk_mul, Nat.reduceMul, jz10, jz01, j00, j11, jb0, Classical.not_not, eq_self, an_ite, an_of, an_nm, nI_l, lN_add, lN_mul, lN_i, lj_2, lj_3, lj_4, lj_5, lj_6, lj_7, lj_8, lj_9, lj_10, lj_11, lj_12, lj_13, lj_14, lj_15, lj_16, lj_17, lj_18, lj_19, lj_20, lj_21, lj_22, lj_23, lj_24, lj_25, lj_26, lj_27, lj_28, lj_29, lj_30, lj_31, lj_32, lj_33, lj_34, lj_35, lj_36, lj_37, lj_38, lj_39, lj_40, lj_48, lj_50, lj_57, lj_59, lj_60, lj_63, lj_64, lj_65, lj_90, lj_96, lj_97, lj_99, lj_100, lj_101, lj_105, lj_112, lj_114, lj_116, lj_119, lj_122, lj_128, lj_200, lj_255, lj_256, lj_500, lj_777, lj_1000] | (refine br_c (fun _ => ?_) (fun _ => ?_) <;> try (exfalso; omega)) | (refine br_d (fun _ => ?_) (fun _ => ?_) <;> try (exfalso; omega)) | refine And.intro ?_ ?_ | (refine Nat.ne_of_gt ?_; omega))
      all_goals exact kk
    | succ c ih =>
      intro k ν z hk F h1 h2
      have hWν := F.wd hW
      have hGν := hG.fr F (by simp) (by simp)
      have kk := ih (k + 1) (sL ν 132 (e * 4 + k) (iL (vE (wZ W) b k))) (some (.int (nI (e * 4 + k)))) (by omega) (F.trans (jFr.sL (by simp))) (fun l hl => by
        rw [gL_sL]
        by_cases q : l = k
        · rw [q, if_pos ⟨rfl, rfl⟩]
        · rw [if_neg (by omega)]
          exact h1 l (by omega)) (fun x hx => by
        rw [gL_sL, if_neg (by omega)]
        exact h2 x hx)
      clear ih h
      refine b9_2 ?_
      by_cases c3 : b < 3
      · by_cases ck : k = b
        · have e1 : vE (wZ W) b k = 1 := by
            unfold vE
            rw [if_pos c3, if_pos ck]
          have c' := eq_true ck
          rw [e1, ← iL_1] at kk
          repeat' (first | refine b9_29 ?_ | refine b9_30 ?_ | refine b9_50 ?_ | refine b9_51 ?_ | refine b9_55 ?_ | refine b9_72 ?_ | refine b9_81 ?_ | refine b9_82 ?_ | refine b9_88 ?_ | dsimp only [jb_e0, jb_ec, jb_n, jb_c, jx_op, j1i_c, j2i_c, j1l_c, j2l_c, jil_c, j1r_c, jri_c, jrii_c, jril_c, jrl_c, jrr_c, j2i'_c, jdup_i, jdup_r, jdup2_c, jdup2_l, jpo_c, jli, jll, jlr, jat_0, jat_s, jst, jst2, jkill_i, jkill_r, jkill_l, jkill_n, jnone, jgv_0, jgv_1, jgv_2, jgv_3, jrv_s, jput_0, jput_1, jput_2, jput_3, jpop_0, jpop_1, jcl_s, jc1, jc2, jvi, Nat.reduceAdd, jol_i, jol_l, jol_n, jap_n, jap_c, List.map_cons, List.map_nil, List.sum_cons, List.sum_nil, jcI, jcL, jcR, gI_sI, gI_sL, gI_sR, gL_sI, gL_sL, gL_sR, gR_sI, gR_sL, gR_sR, gS_sI, gS_sL, gS_sR, gN_sI, gN_sL, gN_sR] | simp (disch := omega) only [Nat.zero_le, true_and, and_true, and_self, Nat.reduceLeDiff, true_or, or_true, false_or, or_false, Nat.reduceEqDiff, false_and, and_false, if_false, if_true, reduceIte, not_true_eq_false, not_false_eq_true, true_imp_iff, false_imp_iff, List.map_cons, List.map_nil, List.sum_cons, List.sum_nil, jcI, jcL, jcR, Nat.reduceAdd, jrv_s, j1r_c, jap_n, jap_c, gI_sI, gL_sL, gI_sL, gL_sI, an_lt, an_le, an_eq, an_lt0, an_0le, an_0lt, an_le0, an_eq0, an_eq1, an_1lt, an_le1, an_1le, an_lt1, an_eqm, an_sub, an_sub1, an_div, an_rem, an_in, an_in0, an_in1, an_cl, an_cl0, an_cl1, nI_add, nI_1, an_1a, pk_mul, Nat.reduceMul, jz10, jz01, j00, j11, jb0, Classical.not_not, eq_self, an_ite, an_of, an_nm, nI_l, lN_add, lN_mul, lN_i, lj_2, lj_3, lj_4, lj_5, lj_6, lj_7, lj_8, lj_9, lj_10, lj_11, lj_12, lj_13, lj_14, lj_15, lj_16, lj_17, lj_18, lj_19, lj_20, lj_21, lj_22, lj_23, lj_24, lj_25, lj_26, lj_27, lj_28, lj_29, lj_30, lj_31, lj_32, lj_33, lj_34, lj_35, lj_36, lj_37, lj_38, lj_39, lj_40, lj_48, lj_50, lj_57, lj_59, lj_60, lj_63, lj_64, lj_65, lj_90, lj_96, lj_97, lj_99, lj_100, lj_101, lj_105, lj_112, lj_114, lj_116, lj_119, lj_122, lj_128, lj_200, lj_255, lj_256, lj_500, lj_777, lj_1000, jr_128_2 hWν, jr_128_3 hWν, jr_128_4 hWν, jr_128_5 hWν, hWν.1, jS0_128, jS0_129, jS0_130, jS0_131, jS0_132, jnone, c'] | (refine br_c (fun _ => ?_) (fun _ => ?_) <;> try (exfalso; omega)) | (refine br_d (fun _ => ?_) (fun _ => ?_) <;> try (exfalso; omega)) | refine And.intro ?_ ?_ | (refine Nat.ne_of_gt ?_; omega))
          all_goals exact kk
        · have e1 : vE (wZ W) b k = 0 := by
            unfold vE
            rw [if_pos c3, if_neg ck]
          have c' := eq_false ck
          rw [e1, ← iL_0] at kk
          repeat' (first | refine b9_29 ?_ | refine b9_30 ?_ | refine b9_50 ?_ | refine b9_51 ?_ | refine b9_55 ?_ | refine b9_72 ?_ | refine b9_81 ?_ | refine b9_82 ?_ | refine b9_88 ?_ | dsimp only [jb_e0, jb_ec, jb_n, jb_c, jx_op, j1i_c, j2i_c, j1l_c, j2l_c, jil_c, j1r_c, jri_c, jrii_c, jril_c, jrl_c, jrr_c, j2i'_c, jdup_i, jdup_r, jdup2_c, jdup2_l, jpo_c, jli, jll, jlr, jat_0, jat_s, jst, jst2, jkill_i, jkill_r, jkill_l, jkill_n, jnone, jgv_0, jgv_1, jgv_2, jgv_3, jrv_s, jput_0, jput_1, jput_2, jput_3, jpop_0, jpop_1, jcl_s, jc1, jc2, jvi, Nat.reduceAdd, jol_i, jol_l, jol_n, jap_n, jap_c, List.map_cons, List.map_nil, List.sum_cons, List.sum_nil, jcI, jcL, jcR, gI_sI, gI_sL, gI_sR, gL_sI, gL_sL, gL_sR, gR_sI, gR_sL, gR_sR, gS_sI, gS_sL, gS_sR, gN_sI, gN_sL, gN_sR] | simp (disch := omega) only [Nat.zero_le, true_and, and_true, and_self, Nat.reduceLeDiff, true_or, or_true, false_or, or_false, Nat.reduceEqDiff, false_and, and_false, if_false, if_true, reduceIte, not_true_eq_false, not_false_eq_true, true_imp_iff, false_imp_iff, List.map_cons, List.map_nil, List.sum_cons, List.sum_nil, jcI, jcL, jcR, Nat.reduceAdd, jrv_s, j1r_c, jap_n, jap_c, gI_sI, gL_sL, gI_sL, gL_sI, an_lt, an_le, an_eq, an_lt0, an_0le, an_0lt, an_le0, an_eq0, an_eq1, an_1lt, an_le1, an_1le, an_lt1, an_eqm, an_sub, an_sub1, an_div, an_rem, an_in, an_in0, an_in1, an_cl, an_cl0, an_cl1, nI_add, nI_1, an_1a, pk_mul, Nat.reduceMul, jz10, jz01, j00, j11, jb0, Classical.not_not, eq_self, an_ite, an_of, an_nm, nI_l, lN_add, lN_mul, lN_i, lj_2, lj_3, lj_4, lj_5, lj_6, lj_7, lj_8, lj_9, lj_10, lj_11, lj_12, lj_13, lj_14, lj_15, lj_16, lj_17, lj_18, lj_19, lj_20, lj_21, lj_22, lj_23, lj_24, lj_25, lj_26, lj_27, lj_28, lj_29, lj_30, lj_31, lj_32, lj_33, lj_34, lj_35, lj_36, lj_37, lj_38, lj_39, lj_40, lj_48, lj_50, lj_57, lj_59, lj_60, lj_63, lj_64, lj_65, lj_90, lj_96, lj_97, lj_99, lj_100, lj_101, lj_105, lj_112, lj_114, lj_116, lj_119, lj_122, lj_128, lj_200, lj_255, lj_256, lj_500, lj_777, lj_1000, jr_128_2 hWν, jr_128_3 hWν, jr_128_4 hWν, jr_128_5 hWν, hWν.1, jS0_128, jS0_129, jS0_130, jS0_131, jS0_132, jnone, c'] | (refine br_c (fun _ => ?_) (fun _ => ?_) <;> try (exfalso; omega)) | (refine br_d (fun _ => ?_) (fun _ => ?_) <;> try (exfalso; omega)) | refine And.intro ?_ ?_ | (refine Nat.ne_of_gt ?_; omega))
          all_goals exact kk
      · by_cases ck : k = 3
        · have e1 : vE (wZ W) b k = -1 := by
            unfold vE
            rw [if_neg c3, if_pos ck]
          have c' := eq_true ck
          rw [e1, ← iL_m1] at kk
          repeat' (first | refine b9_29 ?_ | refine b9_30 ?_ | refine b9_50 ?_ | refine b9_51 ?_ | refine b9_55 ?_ | refine b9_72 ?_ | refine b9_81 ?_ | refine b9_82 ?_ | refine b9_88 ?_ | dsimp only [jb_e0, jb_ec, jb_n, jb_c, jx_op, j1i_c, j2i_c, j1l_c, j2l_c, jil_c, j1r_c, jri_c, jrii_c, jril_c, jrl_c, jrr_c, j2i'_c, jdup_i, jdup_r, jdup2_c, jdup2_l, jpo_c, jli, jll, jlr, jat_0, jat_s, jst, jst2, jkill_i, jkill_r, jkill_l, jkill_n, jnone, jgv_0, jgv_1, jgv_2, jgv_3, jrv_s, jput_0, jput_1, jput_2, jput_3, jpop_0, jpop_1, jcl_s, jc1, jc2, jvi, Nat.reduceAdd, jol_i, jol_l, jol_n, jap_n, jap_c, List.map_cons, List.map_nil, List.sum_cons, List.sum_nil, jcI, jcL, jcR, gI_sI, gI_sL, gI_sR, gL_sI, gL_sL, gL_sR, gR_sI, gR_sL, gR_sR, gS_sI, gS_sL, gS_sR, gN_sI, gN_sL, gN_sR] | simp (disch := omega) only [Nat.zero_le, true_and, and_true, and_self, Nat.reduceLeDiff, true_or, or_true, false_or, or_false, Nat.reduceEqDiff, false_and, and_false, if_false, if_true, reduceIte, not_true_eq_false, not_false_eq_true, true_imp_iff, false_imp_iff, List.map_cons, List.map_nil, List.sum_cons, List.sum_nil, jcI, jcL, jcR, Nat.reduceAdd, jrv_s, j1r_c, jap_n, jap_c, gI_sI, gL_sL, gI_sL, gL_sI, an_lt, an_le, an_eq, an_lt0, an_0le, an_0lt, an_le0, an_eq0, an_eq1, an_1lt, an_le1, an_1le, an_lt1, an_eqm, an_sub, an_sub1, an_div, an_rem, an_in, an_in0, an_in1, an_cl, an_cl0, an_cl1, nI_add, nI_1, an_1a, pk_mul, Nat.reduceMul, jz10, jz01, j00, j11, jb0, Classical.not_not, eq_self, an_ite, an_of, an_nm, nI_l, lN_add, lN_mul, lN_i, lj_2, lj_3, lj_4, lj_5, lj_6, lj_7, lj_8, lj_9, lj_10, lj_11, lj_12, lj_13, lj_14, lj_15, lj_16, lj_17, lj_18, lj_19, lj_20, lj_21, lj_22, lj_23, lj_24, lj_25, lj_26, lj_27, lj_28, lj_29, lj_30, lj_31, lj_32, lj_33, lj_34, lj_35, lj_36, lj_37, lj_38, lj_39, lj_40, lj_48, lj_50, lj_57, lj_59, lj_60, lj_63, lj_64, lj_65, lj_90, lj_96, lj_97, lj_99, lj_100, lj_101, lj_105, lj_112, lj_114, lj_116, lj_119, lj_122, lj_128, lj_200, lj_255, lj_256, lj_500, lj_777, lj_1000, jr_128_2 hWν, jr_128_3 hWν, jr_128_4 hWν, jr_128_5 hWν, hWν.1, jS0_128, jS0_129, jS0_130, jS0_131, jS0_132, jnone, c'] | (refine br_c (fun _ => ?_) (fun _ => ?_) <;> try (exfalso; omega)) | (refine br_d (fun _ => ?_) (fun _ => ?_) <;> try (exfalso; omega)) | refine And.intro ?_ ?_ | (refine Nat.ne_of_gt ?_; omega))
          all_goals exact kk
        · have e1 : vE (wZ W) b k = ((W k (b - 3) : Nat) : Int) := by
            unfold vE wZ
            rw [if_neg c3, if_neg ck]
          have c' := eq_false ck
          rw [e1, ← iL_N] at kk
          have wa : ∀ (d : Nat) (Q' : jQ), Q' (some (.int (nI (W k (b - 3))))) ν → jC d 10 [.ref 128, .int (nI k), .int (nI (b - 3))] ν Q' := fun d Q' a => sg_worthAt hWν hGν (by omega) (by omega) a
          have wb := (hG.2.1 k (b - 3) (by omega) (by omega)).2
          generalize W k (b - 3) = X at *
          repeat' (first | refine b9_29 ?_ | refine b9_30 ?_ | refine b9_50 ?_ | refine b9_51 ?_ | refine b9_55 ?_ | refine b9_72 ?_ | refine b9_81 ?_ | refine b9_82 ?_ | refine b9_88 ?_ | refine wa _ _ ?_ | dsimp only [jb_e0, jb_ec, jb_n, jb_c, jx_op, j1i_c, j2i_c, j1l_c, j2l_c, jil_c, j1r_c, jri_c, jrii_c, jril_c, jrl_c, jrr_c, j2i'_c, jdup_i, jdup_r, jdup2_c, jdup2_l, jpo_c, jli, jll, jlr, jat_0, jat_s, jst, jst2, jkill_i, jkill_r, jkill_l, jkill_n, jnone, jgv_0, jgv_1, jgv_2, jgv_3, jrv_s, jput_0, jput_1, jput_2, jput_3, jpop_0, jpop_1, jcl_s, jc1, jc2, jvi, Nat.reduceAdd, jol_i, jol_l, jol_n, jap_n, jap_c, List.map_cons, List.map_nil, List.sum_cons, List.sum_nil, jcI, jcL, jcR, gI_sI, gI_sL, gI_sR, gL_sI, gL_sL, gL_sR, gR_sI, gR_sL, gR_sR, gS_sI, gS_sL, gS_sR, gN_sI, gN_sL, gN_sR] | simp (disch := omega) only [Nat.zero_le, true_and, and_true, and_self, Nat.reduceLeDiff, true_or, or_true, false_or, or_false, Nat.reduceEqDiff, false_and, and_false, if_false, if_true, reduceIte, not_true_eq_false, not_false_eq_true, true_imp_iff, false_imp_iff, List.map_cons, List.map_nil, List.sum_cons, List.sum_nil, jcI, jcL, jcR, Nat.reduceAdd, jrv_s, j1r_c, jap_n, jap_c, gI_sI, gL_sL, gI_sL, gL_sI, an_lt, an_le, an_eq, an_lt0, an_0le, an_0lt, an_le0, an_eq0, an_eq1, an_1lt, an_le1, an_1le, an_lt1, an_eqm, an_sub, an_sub1, an_div, an_rem, an_in, an_in0, an_in1, an_cl, an_cl0, an_cl1, nI_add, nI_1, an_1a, pk_mul, Nat.reduceMul, jz10, jz01, j00, j11, jb0, Classical.not_not, eq_self, an_ite, an_of, an_nm, nI_l, lN_add, lN_mul, lN_i, lj_2, lj_3, lj_4, lj_5, lj_6, lj_7, lj_8, lj_9, lj_10, lj_11, lj_12, lj_13, lj_14, lj_15, lj_16, lj_17, lj_18, lj_19, lj_20, lj_21, lj_22, lj_23, lj_24, lj_25, lj_26, lj_27, lj_28, lj_29, lj_30, lj_31, lj_32, lj_33, lj_34, lj_35, lj_36, lj_37, lj_38, lj_39, lj_40, lj_48, lj_50, lj_57, lj_59, lj_60, lj_63, lj_64, lj_65, lj_90, lj_96, lj_97, lj_99, lj_100, lj_101, lj_105, lj_112, lj_114, lj_116, lj_119, lj_122, lj_128, lj_200, lj_255, lj_256, lj_500, lj_777, lj_1000, jr_128_2 hWν, jr_128_3 hWν, jr_128_4 hWν, jr_128_5 hWν, hWν.1, jS0_128, jS0_129, jS0_130, jS0_131, jS0_132, jnone, c'] | (refine br_c (fun _ => ?_) (fun _ => ?_) <;> try (exfalso; omega)) | (refine br_d (fun _ => ?_) (fun _ => ?_) <;> try (exfalso; omega)) | refine And.intro ?_ ?_ | (refine Nat.ne_of_gt ?_; omega))
          all_goals exact kk
  have kk := key 4 0 μ none (by omega) jFr.rf (fun l hl => absurd hl (Nat.not_lt_zero _)) (fun _ _ => rfl)
  have z0 : nI 0 = 0 := rfl
  rw [z0] at kk
  refine e9 (b9_0 ?_)
  repeat' (first | refine b9_29 ?_ | refine b9_30 ?_ | refine b9_50 ?_ | refine b9_51 ?_ | refine b9_55 ?_ | refine b9_72 ?_ | refine b9_81 ?_ | refine b9_82 ?_ | refine b9_88 ?_ | dsimp only [jb_e0, jb_ec, jb_n, jb_c, jx_op, j1i_c, j2i_c, j1l_c, j2l_c, jil_c, j1r_c, jri_c, jrii_c, jril_c, jrl_c, jrr_c, j2i'_c, jdup_i, jdup_r, jdup2_c, jdup2_l, jpo_c, jli, jll, jlr, jat_0, jat_s, jst, jst2, jkill_i, jkill_r, jkill_l, jkill_n, jnone, jgv_0, jgv_1, jgv_2, jgv_3, jrv_s, jput_0, jput_1, jput_2, jput_3, jpop_0, jpop_1, jcl_s, jc1, jc2, jvi, Nat.reduceAdd, jol_i, jol_l, jol_n, jap_n, jap_c, List.map_cons, List.map_nil, List.sum_cons, List.sum_nil, jcI, jcL, jcR, gI_sI, gI_sL, gI_sR, gL_sI, gL_sL, gL_sR, gR_sI, gR_sL, gR_sR, gS_sI, gS_sL, gS_sR, gN_sI, gN_sL, gN_sR] | simp (disch := omega) only [Nat.zero_le, true_and, and_true, and_self, Nat.reduceLeDiff, true_or, or_true, false_or, or_false, Nat.reduceEqDiff, false_and, and_false, if_false, if_true, reduceIte, not_true_eq_false, not_false_eq_true, true_imp_iff, false_imp_iff, List.map_cons, List.map_nil, List.sum_cons, List.sum_nil, jcI, jcL, jcR, Nat.reduceAdd, jrv_s, j1r_c, jap_n, jap_c, gI_sI, gL_sL, gI_sL, gL_sI, an_lt, an_le, an_eq, an_lt0, an_0le, an_0lt, an_le0, an_eq0, an_eq1, an_1lt, an_le1, an_1le, an_lt1, an_eqm, an_sub, an_sub1, an_div, an_rem, an_in, an_in0, an_in1, an_cl, an_cl0, an_cl1, nI_add, nI_1, an_1a, pk_mul, Nat.reduceMul, jz10, jz01, j00, j11, jb0, Classical.not_not, eq_self, an_ite, an_of, an_nm, nI_l, lN_add, lN_mul, lN_i, lj_2, lj_3, lj_4, lj_5, lj_6, lj_7, lj_8, lj_9, lj_10, lj_11, lj_12, lj_13, lj_14, lj_15, lj_16, lj_17, lj_18, lj_19, lj_20, lj_21, lj_22, lj_23, lj_24, lj_25, lj_26, lj_27, lj_28, lj_29, lj_30, lj_31, lj_32, lj_33, lj_34, lj_35, lj_36, lj_37, lj_38, lj_39, lj_40, lj_48, lj_50, lj_57, lj_59, lj_60, lj_63, lj_64, lj_65, lj_90, lj_96, lj_97, lj_99, lj_100, lj_101, lj_105, lj_112, lj_114, lj_116, lj_119, lj_122, lj_128, lj_200, lj_255, lj_256, lj_500, lj_777, lj_1000] | (refine br_c (fun _ => ?_) (fun _ => ?_) <;> try (exfalso; omega)) | (refine br_d (fun _ => ?_) (fun _ => ?_) <;> try (exfalso; omega)) | refine And.intro ?_ ?_ | (refine Nat.ne_of_gt ?_; omega))
  all_goals exact kk
theorem sg_edge (hW : jWd L t μ) (he : e < 3) (hk : k < 4) (hE : gL μ 132 (e * 4 + k) = iL (r e k)) (h : Q (some (.long (iL (r e k)))) μ) : jC d 13 [.ref 128, .int (nI e), .int (nI k)] μ Q := by
  refine e13 (b13_0 ?_)
  repeat' (first | refine b13_28 ?_ | refine b13_29 ?_ | dsimp only [jb_e0, jb_ec, jb_n, jb_c, jx_op, j1i_c, j2i_c, j1l_c, j2l_c, jil_c, j1r_c, jri_c, jrii_c, jril_c, jrl_c, jrr_c, j2i'_c, jdup_i, jdup_r, jdup2_c, jdup2_l, jpo_c, jli, jll, jlr, jat_0, jat_s, jst, jst2, jkill_i, jkill_r, jkill_l, jkill_n, jnone, jgv_0, jgv_1, jgv_2, jgv_3, jrv_s, jput_0, jput_1, jput_2, jput_3, jpop_0, jpop_1, jcl_s, jc1, jc2, jvi, Nat.reduceAdd, jol_i, jol_l, jol_n, jap_n, jap_c, List.map_cons, List.map_nil, List.sum_cons, List.sum_nil, jcI, jcL, jcR, gI_sI, gI_sL, gI_sR, gL_sI, gL_sL, gL_sR, gR_sI, gR_sL, gR_sR, gS_sI, gS_sL, gS_sR, gN_sI, gN_sL, gN_sR] | simp (disch := omega) only [Nat.zero_le, true_and, and_true, and_self, Nat.reduceLeDiff, true_or, or_true, false_or, or_false, Nat.reduceEqDiff, false_and, and_false, if_false, if_true, reduceIte, not_true_eq_false, not_false_eq_true, true_imp_iff, false_imp_iff, List.map_cons, List.map_nil, List.sum_cons, List.sum_nil, jcI, jcL, jcR, Nat.reduceAdd, jrv_s, j1r_c, jap_n, jap_c, gI_sI, gL_sL, gI_sL, gL_sI, an_lt, an_le, an_eq, an_lt0, an_0le, an_0lt, an_le0, an_eq0, an_eq1, an_1lt, an_le1, an_1le, an_lt1, an_eqm, an_sub, an_sub1, an_div, an_rem, an_in, an_in0, an_in1, an_cl, an_cl0, an_cl1, nI_add, nI_1, an_1a, pk_mul, Nat.reduceMul, jz10, jz01, j00, j11, jb0, Classical.not_not, eq_self, an_ite, an_of, an_nm, nI_l, lN_add, lN_mul, lN_i, lj_2, lj_3, lj_4, lj_5, lj_6, lj_7, lj_8, lj_9, lj_10, lj_11, lj_12, lj_13, lj_14, lj_15, lj_16, lj_17, lj_18, lj_19, lj_20, lj_21, lj_22, lj_23, lj_24, lj_25, lj_26, lj_27, lj_28, lj_29, lj_30, lj_31, lj_32, lj_33, lj_34, lj_35, lj_36, lj_37, lj_38, lj_39, lj_40, lj_48, lj_50, lj_57, lj_59, lj_60, lj_63, lj_64, lj_65, lj_90, lj_96, lj_97, lj_99, lj_100, lj_101, lj_105, lj_112, lj_114, lj_116, lj_119, lj_122, lj_128, lj_200, lj_255, lj_256, lj_500, lj_777, lj_1000, jr_128_2 hW, jr_128_3 hW, jr_128_4 hW, jr_128_5 hW, hW.1, jS0_128, jS0_129, jS0_130, jS0_131, jS0_132, jnone, hE] | (refine br_c (fun _ => ?_) (fun _ => ?_) <;> try (exfalso; omega)) | (refine br_d (fun _ => ?_) (fun _ => ?_) <;> try (exfalso; omega)) | refine And.intro ?_ ?_ | (refine Nat.ne_of_gt ?_; omega))
  all_goals exact h
def vMr (r : Nat → Nat → Int) (x y z : Nat) : Int := r 0 x * (r 1 y * r 2 z - r 1 z * r 2 y) - r 0 y * (r 1 x * r 2 z - r 1 z * r 2 x) + r 0 z * (r 1 x * r 2 y - r 1 y * r 2 x)
theorem sg_minor {x y z : Nat} (hW : jWd L t μ) (hE : ∀ e k, e < 3 → k < 4 → gL μ 132 (e * 4 + k) = iL (r e k)) (hx : x < 4) (hy : y < 4) (hz : z < 4) (h : Q (some (.long (iL (vMr r x y z)))) μ) : jC (d + 1) 12 [.ref 128, .int (nI x), .int (nI y), .int (nI z)] μ Q := by
  have e0 : ∀ (k : Nat), k < 4 → ∀ (d : Nat) (Q' : jQ), Q' (some (.long (iL (r 0 k)))) μ → jC d 13 [.ref 128, .int 0, .int (nI k)] μ Q' := fun k hk d Q' a => sg_edge (e := 0) hW (by omega) hk (hE 0 k (by omega) hk) a
  have e1 : ∀ (k : Nat), k < 4 → ∀ (d : Nat) (Q' : jQ), Q' (some (.long (iL (r 1 k)))) μ → jC d 13 [.ref 128, .int 1, .int (nI k)] μ Q' := fun k hk d Q' a => sg_edge (e := 1) hW (by omega) hk (hE 1 k (by omega) hk) a
  have e2 : ∀ (k : Nat), k < 4 → ∀ (d : Nat) (Q' : jQ), Q' (some (.long (iL (r 2 k)))) μ → jC d 13 [.ref 128, .int (nI 2), .int (nI k)] μ Q' := fun k hk d Q' a => sg_edge (e := 2) hW (by omega) hk (hE 2 k (by omega) hk) a
  unfold vMr at h
  refine e12 (b12_0 ?_)
  repeat' (first | refine e0 x hx _ _ ?_ | refine e0 y hy _ _ ?_ | refine e0 z hz _ _ ?_ | refine e1 x hx _ _ ?_ | refine e1 y hy _ _ ?_ | refine e1 z hz _ _ ?_ | refine e2 x hx _ _ ?_ | refine e2 y hy _ _ ?_ | refine e2 z hz _ _ ?_ | dsimp only [jb_e0, jb_ec, jb_n, jb_c, jx_op, j1i_c, j2i_c, j1l_c, j2l_c, jil_c, j1r_c, jri_c, jrii_c, jril_c, jrl_c, jrr_c, j2i'_c, jdup_i, jdup_r, jdup2_c, jdup2_l, jpo_c, jli, jll, jlr, jat_0, jat_s, jst, jst2, jkill_i, jkill_r, jkill_l, jkill_n, jnone, jgv_0, jgv_1, jgv_2, jgv_3, jrv_s, jput_0, jput_1, jput_2, jput_3, jpop_0, jpop_1, jcl_s, jc1, jc2, jvi, Nat.reduceAdd, jol_i, jol_l, jol_n, jap_n, jap_c, List.map_cons, List.map_nil, List.sum_cons, List.sum_nil, jcI, jcL, jcR, gI_sI, gI_sL, gI_sR, gL_sI, gL_sL, gL_sR, gR_sI, gR_sL, gR_sR, gS_sI, gS_sL, gS_sR, gN_sI, gN_sL, gN_sR] | simp (disch := omega) only [Nat.zero_le, true_and, and_true, and_self, Nat.reduceLeDiff, true_or, or_true, false_or, or_false, Nat.reduceEqDiff, false_and, and_false, if_false, if_true, reduceIte, not_true_eq_false, not_false_eq_true, true_imp_iff, false_imp_iff, List.map_cons, List.map_nil, List.sum_cons, List.sum_nil, jcI, jcL, jcR, Nat.reduceAdd, jrv_s, j1r_c, jap_n, jap_c, gI_sI, gL_sL, gI_sL, gL_sI, an_lt, an_le, an_eq, an_lt0, an_0le, an_0lt, an_le0, an_eq0, an_eq1, an_1lt, an_le1, an_1le, an_lt1, an_eqm, an_sub, an_sub1, an_div, an_rem, an_in, an_in0, an_in1, an_cl, an_cl0, an_cl1, nI_add, nI_1, an_1a, pk_mul, Nat.reduceMul, jz10, jz01, j00, j11, jb0, Classical.not_not, eq_self, an_ite, an_of, an_nm, nI_l, lN_add, lN_mul, lN_i, lj_2, lj_3, lj_4, lj_5, lj_6, lj_7, lj_8, lj_9, lj_10, lj_11, lj_12, lj_13, lj_14, lj_15, lj_16, lj_17, lj_18, lj_19, lj_20, lj_21, lj_22, lj_23, lj_24, lj_25, lj_26, lj_27, lj_28, lj_29, lj_30, lj_31, lj_32, lj_33, lj_34, lj_35, lj_36, lj_37, lj_38, lj_39, lj_40, lj_48, lj_50, lj_57, lj_59, lj_60, lj_63, lj_64, lj_65, lj_90, lj_96, lj_97, lj_99, lj_100, lj_101, lj_105, lj_112, lj_114, lj_116, lj_119, lj_122, lj_128, lj_200, lj_255, lj_256, lj_500, lj_777, lj_1000, jr_128_2 hW, jr_128_3 hW, jr_128_4 hW, jr_128_5 hW, hW.1, jS0_128, jS0_129, jS0_130, jS0_131, jS0_132, jnone, iL_mul, iL_sub, iL_add] | (refine br_c (fun _ => ?_) (fun _ => ?_) <;> try (exfalso; omega)) | (refine br_d (fun _ => ?_) (fun _ => ?_) <;> try (exfalso; omega)) | refine And.intro ?_ ?_ | (refine Nat.ne_of_gt ?_; omega))
  all_goals exact h
theorem sg_sum {o : Nat} {x : Nat → Int} (hs : gS μ o = (101, 4)) (hx : ∀ k, k < 3 → gL μ o k = iL (x k)) (h : Q (some (.long (iL (x 0 + x 1 + x 2)))) μ) : jC d 6 [.ref o] μ Q := by
  have a0 := hx 0 (by omega)
  have a1 := hx 1 (by omega)
  have a2 := hx 2 (by omega)
  have z0 : (0 : Int64) + iL (x 0) = iL (x 0) := by
    rw [iL_0, iL_add, Int.zero_add]
  refine e6 (b6_0 ?_)
  repeat' (first | refine b6_4 ?_ | refine b6_27 ?_ | dsimp only [jb_e0, jb_ec, jb_n, jb_c, jx_op, j1i_c, j2i_c, j1l_c, j2l_c, jil_c, j1r_c, jri_c, jrii_c, jril_c, jrl_c, jrr_c, j2i'_c, jdup_i, jdup_r, jdup2_c, jdup2_l, jpo_c, jli, jll, jlr, jat_0, jat_s, jst, jst2, jkill_i, jkill_r, jkill_l, jkill_n, jnone, jgv_0, jgv_1, jgv_2, jgv_3, jrv_s, jput_0, jput_1, jput_2, jput_3, jpop_0, jpop_1, jcl_s, jc1, jc2, jvi, Nat.reduceAdd, jol_i, jol_l, jol_n, jap_n, jap_c, List.map_cons, List.map_nil, List.sum_cons, List.sum_nil, jcI, jcL, jcR, gI_sI, gI_sL, gI_sR, gL_sI, gL_sL, gL_sR, gR_sI, gR_sL, gR_sR, gS_sI, gS_sL, gS_sR, gN_sI, gN_sL, gN_sR] | simp (disch := omega) only [Nat.zero_le, true_and, and_true, and_self, Nat.reduceLeDiff, true_or, or_true, false_or, or_false, Nat.reduceEqDiff, false_and, and_false, if_false, if_true, reduceIte, not_true_eq_false, not_false_eq_true, true_imp_iff, false_imp_iff, List.map_cons, List.map_nil, List.sum_cons, List.sum_nil, jcI, jcL, jcR, Nat.reduceAdd, jrv_s, j1r_c, jap_n, jap_c, gI_sI, gL_sL, gI_sL, gL_sI, an_lt, an_le, an_eq, an_lt0, an_0le, an_0lt, an_le0, an_eq0, an_eq1, an_1lt, an_le1, an_1le, an_lt1, an_eqm, an_sub, an_sub1, an_div, an_rem, an_in, an_in0, an_in1, an_cl, an_cl0, an_cl1, nI_add, nI_1, an_1a, pk_mul, Nat.reduceMul, jz10, jz01, j00, j11, jb0, Classical.not_not, eq_self, an_ite, an_of, an_nm, nI_l, lN_add, lN_mul, lN_i, lj_2, lj_3, lj_4, lj_5, lj_6, lj_7, lj_8, lj_9, lj_10, lj_11, lj_12, lj_13, lj_14, lj_15, lj_16, lj_17, lj_18, lj_19, lj_20, lj_21, lj_22, lj_23, lj_24, lj_25, lj_26, lj_27, lj_28, lj_29, lj_30, lj_31, lj_32, lj_33, lj_34, lj_35, lj_36, lj_37, lj_38, lj_39, lj_40, lj_48, lj_50, lj_57, lj_59, lj_60, lj_63, lj_64, lj_65, lj_90, lj_96, lj_97, lj_99, lj_100, lj_101, lj_105, lj_112, lj_114, lj_116, lj_119, lj_122, lj_128, lj_200, lj_255, lj_256, lj_500, lj_777, lj_1000, hs, a0, a1, a2, jnone, z0, iL_add, Nat.zero_add, i01, i11] | (refine br_c (fun _ => ?_) (fun _ => ?_) <;> try (exfalso; omega)) | (refine br_d (fun _ => ?_) (fun _ => ?_) <;> try (exfalso; omega)) | refine And.intro ?_ ?_ | (refine Nat.ne_of_gt ?_; omega))
  all_goals exact h
end JV2
