/-! agreed, alike: the class's moves -/
section JRB
variable {d L t : Nat} {μ : jMem} {Q : jQ} {T : jT} {a b c m n N : Nat}
def rM (T : jT) (c pr : Nat) : Bool := decide (pr / 8 < tP T) && decide (pr % 8 < tP T) && !decide (pr / 8 = pr % 8) && (gd T c pr).isNone
def lyQ (T : jT) (c N m : Nat) (qu : Nat → Nat) (μ : jMem) : Prop := (∀ x y, x < tP T → y < tP T → x ≠ y → 8 * x + y < N → gI μ (50 + c) (8 * x + y) = oI (gd T c (8 * x + y))) ∧ m ≤ N ∧ gI μ 101 c = nI m ∧ (∀ j, j < m → gI μ (76 + c) j = nI (qu j) ∧ qu j < 64) ∧ ∀ f : Nat → Nat, jsum (fun j => f (qu j)) m = jsum (fun pr => if rM T c pr = true then f pr else 0) N
def lyA (T : jT) (c N : Nat) (μ : jMem) : Prop := ∃ (m : Nat) (qu : Nat → Nat), lyQ T c N m qu μ
def lyB (T : jT) (k : Nat) (μ : jMem) : Prop := ∀ c, c < k → lyA T c 64 μ
def mvO : List Nat := [50, 51, 52, 53, 54, 55, 56, 57, 58, 59, 60, 61, 62, 63, 64, 65, 66, 67, 68, 69, 70, 71, 72, 73, 74, 76, 77, 78, 79, 80, 81, 82, 83, 84, 85, 86, 87, 88, 89, 90, 91, 92, 93, 94, 95, 96, 97, 98, 99, 100, 101]
theorem mvO_1 : ∀ c, c < 25 → 50 + c ∈ mvO := by decide
theorem mvO_2 : ∀ c, c < 25 → 76 + c ∈ mvO := by decide
theorem mvS_1 (L : Nat) : ∀ c, c < 25 → jS0 L (50 + c) = (100, 64) := fun c hc => by
  have : ∀ c, c < 25 → jS0 0 (50 + c) = (100, 64) := by decide
  have h := this c hc
  obtain ⟨k, hk⟩ : ∃ k, 50 + c = k + 1 := ⟨49 + c, by omega⟩
  rw [hk] at h ⊢
  exact h
theorem mvS_2 (L : Nat) : ∀ c, c < 25 → jS0 L (76 + c) = (100, 64) := fun c hc => by
  have : ∀ c, c < 25 → jS0 0 (76 + c) = (100, 64) := by decide
  have h := this c hc
  obtain ⟨k, hk⟩ : ∃ k, 76 + c = k + 1 := ⟨75 + c, by omega⟩
  rw [hk] at h ⊢
  exact h
theorem rM_t {pr : Nat} (h1 : pr / 8 < tP T) (h2 : pr % 8 < tP T) (h3 : pr / 8 ≠ pr % 8) (h4 : gd T c pr = none) : rM T c pr = true := by
  simp [rM, h1, h2, h3, h4]
theorem rM_f {pr : Nat} (h : pr / 8 < tP T → pr % 8 < tP T → pr / 8 ≠ pr % 8 → gd T c pr ≠ none) : rM T c pr = false := by
  cases e : rM T c pr with
  | false => rfl
  | true =>
    simp [rM] at e
    exact absurd e.2 (h e.1.1.1 e.1.1.2 e.1.2)
theorem lyA_of {μ ν : jMem} (h1 : ∀ k, gI ν (50 + c) k = gI μ (50 + c) k) (h2 : ∀ k, gI ν (76 + c) k = gI μ (76 + c) k) (h3 : gI ν 101 c = gI μ 101 c) (h : lyA T c N μ) : lyA T c N ν := by
  obtain ⟨m, qu, a1, a2, a3, a4, a5⟩ := h
  exact ⟨m, qu, fun x y hx hy hne hN => by rw [h1]; exact a1 x y hx hy hne hN, a2, by rw [h3]; exact a3, fun j hj => by rw [h2]; exact a4 j hj, a5⟩
theorem lyA_up {N' : Nat} (hN : N ≤ N') (hz : ∀ pr, N ≤ pr → pr < N' → pr / 8 < tP T → pr % 8 < tP T → pr / 8 = pr % 8) (h8 : tP T ≤ 8) (h : lyA T c N μ) : lyA T c N' μ := by
  obtain ⟨m, qu, a1, a2, a3, a4, a5⟩ := h
  refine ⟨m, qu, fun x y hx hy hne hxy => ?_, by omega, a3, a4, fun f => ?_⟩
  · by_cases e : 8 * x + y < N
    · exact a1 x y hx hy hne e
    · have f1 : (8 * x + y) / 8 = x := by omega
      have f2 : (8 * x + y) % 8 = y := by omega
      have := hz (8 * x + y) (by omega) hxy (by omega) (by omega)
      rw [f1, f2] at this
      exact absurd this hne
  · rw [a5 f]
    exact (jsum_cut hN (fun i hi hNi => by
      rw [rM_f (fun z1 z2 z3 => absurd (hz i hNi hi z1 z2) z3)]
      rfl)).symm
variable {qu : Nat → Nat}
theorem lyQ_some (hc : c < 25) (h8 : tP T ≤ 8) (ha : a < tP T) (hb : b < tP T) {z : Nat} (hg : gd T c (8 * a + b) = some z) (h : lyQ T c (8 * a + b) m qu μ) : lyA T c (8 * a + b + 1) (sI μ (50 + c) (8 * a + b) (nI z)) := by
  obtain ⟨a1, a2, a3, a4, a5⟩ := h
  refine ⟨m, qu, fun x y hx hy hne hxy => ?_, by omega, ?_, fun j hj => ?_, fun f => ?_⟩
  · rw [gI_sI]
    by_cases e : 8 * x + y = 8 * a + b
    · rw [if_pos ⟨rfl, e⟩, e, hg]
      rfl
    · rw [if_neg (fun q => e q.2)]
      exact a1 x y hx hy hne (by omega)
  · rw [gI_sI, if_neg (fun q => by omega)]
    exact a3
  · rw [gI_sI, if_neg (fun q => by omega)]
    exact a4 j hj
  · rw [jsum, a5 f, rM_f (fun _ _ _ z => by rw [hg] at z; cases z)]
    rfl
theorem lyQ_none (hc : c < 25) (h8 : tP T ≤ 8) (ha : a < tP T) (hb : b < tP T) (hne : a ≠ b) (hg : gd T c (8 * a + b) = none) (h : lyQ T c (8 * a + b) m qu μ) : lyA T c (8 * a + b + 1) (sI (sI (sI μ (50 + c) (8 * a + b) (-1)) (76 + c) m (nI (8 * a + b))) 101 c (nI (m + 1))) := by
  obtain ⟨a1, a2, a3, a4, a5⟩ := h
  have f1 : (8 * a + b) / 8 = a := by omega
  have f2 : (8 * a + b) % 8 = b := by omega
  refine ⟨m + 1, fun j => if j = m then 8 * a + b else qu j, fun x y hx hy hxy hN => ?_, by omega, ?_, fun j hj => ?_, fun f => ?_⟩
  · rw [gI_sI, if_neg (fun q => by omega), gI_sI, if_neg (fun q => by omega), gI_sI]
    by_cases e : 8 * x + y = 8 * a + b
    · rw [if_pos ⟨rfl, e⟩, e, hg]
      rfl
    · rw [if_neg (fun q => e q.2)]
      exact a1 x y hx hy hxy (by omega)
  · rw [gI_sI, if_pos ⟨rfl, rfl⟩]
  · rw [gI_sI, if_neg (fun q => by omega), gI_sI]
    by_cases e : j = m
    · simp only [if_pos e]
      rw [if_pos ⟨trivial, e⟩]
      exact ⟨rfl, by omega⟩
    · simp only [if_neg e]
      rw [if_neg (fun q => e q.2), gI_sI, if_neg (fun q => by omega)]
      exact a4 j (by omega)
  · rw [jsum, jsum, rM_t (by rw [f1]; exact ha) (by rw [f2]; exact hb) (by rw [f1, f2]; exact hne) hg]
    simp only [if_pos]
    rw [← a5 f, jsum_congr m (fun j hj => by rw [if_neg (by omega)])]
theorem gd_ab (h8 : tP T ≤ 8) (ha : a < tP T) (hb : b < tP T) : gd T c (8 * a + b) = if tA T a (c / 5) = tA T b (c % 5) ∨ (tCr T ≠ 0 ∧ tA T a (c / 5) = b ∧ tA T b (c % 5) = a) then none else some (8 * tA T a (c / 5) + tA T b (c % 5)) := by
  unfold gd
  rw [show (8 * a + b) / 8 = a by omega, show (8 * a + b) % 8 = b by omega]
theorem sp_layOne (hW : jWd L t μ) (hK : jTok T) (hX : jTX T t μ) (hc : c < 25) (ha : a < tP T) (hb : b < tP T) (e : gI μ 101 c = nI m) (hm : m < 64) (h1 : ∀ z, gd T c (8 * a + b) = some z → Q none (sI μ (50 + c) (8 * a + b) (nI z))) (h0 : gd T c (8 * a + b) = none → Q none (sI (sI (sI μ (50 + c) (8 * a + b) (-1)) (76 + c) m (nI (8 * a + b))) 101 c (nI (m + 1)))) : jC (d + 2) 35 [.ref 48, .ref t, .int (nI c), .int (nI a), .int (nI b)] μ Q := by
  have h8 := hK.1.1
  have w0 := (jWs hW).1
  have r1 := hW.2.2.2.1 c hc
  have r2 := hW.2.2.2.2.1 c hc
  have s1 := mvS_1 L c hc
  have s2 := mvS_2 L c hc
  have hx1 := tA_lt (s := c / 5) hK ha
  have hx2 := tA_lt (s := c % 5) hK hb
  have n1 := eq_false (show ¬ 101 = 50 + c by omega)
  have n2 := eq_false (show ¬ 101 = 76 + c by omega)
  have n3 := eq_false (show ¬ 50 + c = 0 by omega)
  have n4 := eq_false (show ¬ 76 + c = 0 by omega)
  have ga : ∀ (d : Nat) (Q' : jQ), Q' (some (.int (nI (tA T a (c / 5))))) μ → jC (d + 1) 92 [.ref t, .int (nI a), .int (nI (c / 5))] μ Q' := fun d Q' kq => sp_after hW hK hX ha (by omega) kq
  have gb : ∀ (d : Nat) (Q' : jQ), Q' (some (.int (nI (tA T b (c % 5))))) μ → jC (d + 1) 92 [.ref t, .int (nI b), .int (nI (c % 5))] μ Q' := fun d Q' kq => sp_after hW hK hX hb (by omega) kq
  have im : ∀ (d : Nat) (Q' : jQ), Q' (some (.int 1)) μ → jC d 36 [.int (nI c), .int (nI (8 * a + b))] μ Q' := fun d Q' kq => by
    refine e36 (b36_0 ?_)
    repeat' (first | refine b36_24 ?_ | refine b36_25 ?_ | dsimp only [jb_e0, jb_ec, jb_n, jb_c, jx_op, j1i_c, j2i_c, j1l_c, j2l_c, jil_c, j1r_c, jri_c, jrii_c, jril_c, jrl_c, jrr_c, j2i'_c, jdup_i, jdup_r, jdup2_c, jdup2_l, jpo_c, jli, jll, jlr, jat_0, jat_s, jst, jst2, jkill_i, jkill_r, jkill_l, jkill_n, jnone, jgv_0, jgv_1, jgv_2, jgv_3, jrv_s, jput_0, jput_1, jput_2, jput_3, jpop_0, jpop_1, jcl_s, jc1, jc2, jvi, Nat.reduceAdd, jol_i, jol_l, jol_n, jap_n, jap_c, List.map_cons, List.map_nil, List.sum_cons, List.sum_nil, jcI, jcL, jcR, gI_sI, gI_sL, gI_sR, gL_sI, gL_sL, gL_sR, gR_sI, gR_sL, gR_sR, gS_sI, gS_sL, gS_sR, gN_sI, gN_sL, gN_sR] | simp (disch := omega) only [Nat.zero_le, true_and, and_true, and_self, Nat.reduceLeDiff, true_or, or_true, false_or, or_false, Nat.reduceEqDiff, false_and, and_false, if_false, if_true, reduceIte, not_true_eq_false, not_false_eq_true, true_imp_iff, false_imp_iff, List.map_cons, List.map_nil, List.sum_cons, List.sum_nil, jcI, jcL, jcR, Nat.reduceAdd, jrv_s, j1r_c, jap_n, jap_c, gI_sI, gL_sL, gI_sL, gL_sI, an_lt, an_le, an_eq, an_lt0, an_0le, an_0lt, an_le0, an_eq0, an_eq1, an_1lt, an_le1, an_1le, an_lt1, an_eqm, an_sub, an_sub1, an_div, an_rem, an_in, an_in0, an_in1, an_cl, an_cl0, an_cl1, nI_add, nI_1, an_1a, pk_mul, Nat.reduceMul, jz10, jz01, j00, j11, jb0, Classical.not_not, eq_self, an_ite, an_of, an_nm, nI_l, lN_add, lN_mul, lN_i, lj_2, lj_3, lj_4, lj_5, lj_6, lj_7, lj_8, lj_9, lj_10, lj_11, lj_12, lj_13, lj_14, lj_15, lj_16, lj_17, lj_18, lj_19, lj_20, lj_21, lj_22, lj_23, lj_24, lj_25, lj_26, lj_27, lj_28, lj_29, lj_30, lj_31, lj_32, lj_33, lj_34, lj_35, lj_36, lj_37, lj_38, lj_39, lj_40, lj_48, lj_50, lj_57, lj_59, lj_60, lj_63, lj_64, lj_65, lj_90, lj_96, lj_97, lj_99, lj_100, lj_101, lj_105, lj_112, lj_114, lj_116, lj_119, lj_122, lj_128, lj_200, lj_255, lj_256, lj_500, lj_777, lj_1000] | (refine br_c (fun _ => ?_) (fun _ => ?_) <;> try (exfalso; omega)) | (refine br_d (fun _ => ?_) (fun _ => ?_) <;> try (exfalso; omega)) | refine And.intro ?_ ?_ | (refine Nat.ne_of_gt ?_; omega))
    all_goals exact kq
  rw [gd_ab h8 ha hb] at h1 h0
  rw [Nat.mul_comm 8 a] at h1 h0 im
  generalize tA T a (c / 5) = X at *
  generalize tA T b (c % 5) = Y at *
  generalize 50 + c = A at *
  generalize 76 + c = B at *
  refine e35 (b35_0 ?_)
  by_cases cm : X = Y ∨ (tCr T ≠ 0 ∧ X = b ∧ Y = a)
  · have me : ∀ (d : Nat) (Q' : jQ), Q' (some (.int 1)) μ → jC d 100 [.ref t, .int (nI a), .int (nI b), .int (nI X), .int (nI Y)] μ Q' := fun d Q' kq => sp_haveMet hW hK hX ha hb hx1 hx2 (by rw [if_pos cm]; exact kq)
    have kk := h0 (if_pos cm)
    repeat' (first | refine b35_19 ?_ | refine b35_72 ?_ | refine b35_127 ?_ | refine im _ _ ?_ | refine ga _ _ ?_ | refine gb _ _ ?_ | refine me _ _ ?_ | dsimp only [jb_e0, jb_ec, jb_n, jb_c, jx_op, j1i_c, j2i_c, j1l_c, j2l_c, jil_c, j1r_c, jri_c, jrii_c, jril_c, jrl_c, jrr_c, j2i'_c, jdup_i, jdup_r, jdup2_c, jdup2_l, jpo_c, jli, jll, jlr, jat_0, jat_s, jst, jst2, jkill_i, jkill_r, jkill_l, jkill_n, jnone, jgv_0, jgv_1, jgv_2, jgv_3, jrv_s, jput_0, jput_1, jput_2, jput_3, jpop_0, jpop_1, jcl_s, jc1, jc2, jvi, Nat.reduceAdd, jol_i, jol_l, jol_n, jap_n, jap_c, List.map_cons, List.map_nil, List.sum_cons, List.sum_nil, jcI, jcL, jcR, gI_sI, gI_sL, gI_sR, gL_sI, gL_sL, gL_sR, gR_sI, gR_sL, gR_sR, gS_sI, gS_sL, gS_sR, gN_sI, gN_sL, gN_sR] | simp (disch := omega) only [Nat.zero_le, true_and, and_true, and_self, Nat.reduceLeDiff, true_or, or_true, false_or, or_false, Nat.reduceEqDiff, false_and, and_false, if_false, if_true, reduceIte, not_true_eq_false, not_false_eq_true, true_imp_iff, false_imp_iff, List.map_cons, List.map_nil, List.sum_cons, List.sum_nil, jcI, jcL, jcR, Nat.reduceAdd, jrv_s, j1r_c, jap_n, jap_c, gI_sI, gL_sL, gI_sL, gL_sI, an_lt, an_le, an_eq, an_lt0, an_0le, an_0lt, an_le0, an_eq0, an_eq1, an_1lt, an_le1, an_1le, an_lt1, an_eqm, an_sub, an_sub1, an_div, an_rem, an_in, an_in0, an_in1, an_cl, an_cl0, an_cl1, nI_add, nI_1, an_1a, pk_mul, Nat.reduceMul, jz10, jz01, j00, j11, jb0, Classical.not_not, eq_self, an_ite, an_of, an_nm, nI_l, lN_add, lN_mul, lN_i, lj_2, lj_3, lj_4, lj_5, lj_6, lj_7, lj_8, lj_9, lj_10, lj_11, lj_12, lj_13, lj_14, lj_15, lj_16, lj_17, lj_18, lj_19, lj_20, lj_21, lj_22, lj_23, lj_24, lj_25, lj_26, lj_27, lj_28, lj_29, lj_30, lj_31, lj_32, lj_33, lj_34, lj_35, lj_36, lj_37, lj_38, lj_39, lj_40, lj_48, lj_50, lj_57, lj_59, lj_60, lj_63, lj_64, lj_65, lj_90, lj_96, lj_97, lj_99, lj_100, lj_101, lj_105, lj_112, lj_114, lj_116, lj_119, lj_122, lj_128, lj_200, lj_255, lj_256, lj_500, lj_777, lj_1000, hW.1, w0, jr_48_0 hW, jr_48_1 hW, jr_48_2 hW, hW.1, jS0_48, jS0_49, jS0_75, jS0_101, r1, r2, s1, s2, n1, n2, n3, n4, e] | (refine br_c (fun _ => ?_) (fun _ => ?_) <;> try (exfalso; omega)) | (refine br_d (fun _ => ?_) (fun _ => ?_) <;> try (exfalso; omega)) | refine And.intro ?_ ?_ | (refine Nat.ne_of_gt ?_; omega))
    all_goals exact kk
  · have me : ∀ (d : Nat) (Q' : jQ), Q' (some (.int 0)) μ → jC d 100 [.ref t, .int (nI a), .int (nI b), .int (nI X), .int (nI Y)] μ Q' := fun d Q' kq => sp_haveMet hW hK hX ha hb hx1 hx2 (by rw [if_neg cm]; exact kq)
    have kk := h1 _ (if_neg cm)
    rw [Nat.mul_comm 8 X] at kk
    repeat' (first | refine b35_19 ?_ | refine b35_72 ?_ | refine b35_127 ?_ | refine im _ _ ?_ | refine ga _ _ ?_ | refine gb _ _ ?_ | refine me _ _ ?_ | dsimp only [jb_e0, jb_ec, jb_n, jb_c, jx_op, j1i_c, j2i_c, j1l_c, j2l_c, jil_c, j1r_c, jri_c, jrii_c, jril_c, jrl_c, jrr_c, j2i'_c, jdup_i, jdup_r, jdup2_c, jdup2_l, jpo_c, jli, jll, jlr, jat_0, jat_s, jst, jst2, jkill_i, jkill_r, jkill_l, jkill_n, jnone, jgv_0, jgv_1, jgv_2, jgv_3, jrv_s, jput_0, jput_1, jput_2, jput_3, jpop_0, jpop_1, jcl_s, jc1, jc2, jvi, Nat.reduceAdd, jol_i, jol_l, jol_n, jap_n, jap_c, List.map_cons, List.map_nil, List.sum_cons, List.sum_nil, jcI, jcL, jcR, gI_sI, gI_sL, gI_sR, gL_sI, gL_sL, gL_sR, gR_sI, gR_sL, gR_sR, gS_sI, gS_sL, gS_sR, gN_sI, gN_sL, gN_sR] | simp (disch := omega) only [Nat.zero_le, true_and, and_true, and_self, Nat.reduceLeDiff, true_or, or_true, false_or, or_false, Nat.reduceEqDiff, false_and, and_false, if_false, if_true, reduceIte, not_true_eq_false, not_false_eq_true, true_imp_iff, false_imp_iff, List.map_cons, List.map_nil, List.sum_cons, List.sum_nil, jcI, jcL, jcR, Nat.reduceAdd, jrv_s, j1r_c, jap_n, jap_c, gI_sI, gL_sL, gI_sL, gL_sI, an_lt, an_le, an_eq, an_lt0, an_0le, an_0lt, an_le0, an_eq0, an_eq1, an_1lt, an_le1, an_1le, an_lt1, an_eqm, an_sub, an_sub1, an_div, an_rem, an_in, an_in0, an_in1, an_cl, an_cl0, an_cl1, nI_add, nI_1, an_1a, pk_mul, Nat.reduceMul, jz10, jz01, j00, j11, jb0, Classical.not_not, eq_self, an_ite, an_of, an_nm, nI_l, lN_add, lN_mul, lN_i, lj_2, lj_3, lj_4, lj_5, lj_6, lj_7, lj_8, lj_9, lj_10, lj_11, lj_12, lj_13, lj_14, lj_15, lj_16, lj_17, lj_18, lj_19, lj_20, lj_21, lj_22, lj_23, lj_24, lj_25, lj_26, lj_27, lj_28, lj_29, lj_30, lj_31, lj_32, lj_33, lj_34, lj_35, lj_36, lj_37, lj_38, lj_39, lj_40, lj_48, lj_50, lj_57, lj_59, lj_60, lj_63, lj_64, lj_65, lj_90, lj_96, lj_97, lj_99, lj_100, lj_101, lj_105, lj_112, lj_114, lj_116, lj_119, lj_122, lj_128, lj_200, lj_255, lj_256, lj_500, lj_777, lj_1000, hW.1, w0, jr_48_0 hW, jr_48_1 hW, jr_48_2 hW, hW.1, jS0_48, jS0_49, jS0_75, jS0_101, r1, r2, s1, s2, n1, n2, n3, n4, e] | (refine br_c (fun _ => ?_) (fun _ => ?_) <;> try (exfalso; omega)) | (refine br_d (fun _ => ?_) (fun _ => ?_) <;> try (exfalso; omega)) | refine And.intro ?_ ?_ | (refine Nat.ne_of_gt ?_; omega))
    all_goals exact kk
end JRB
