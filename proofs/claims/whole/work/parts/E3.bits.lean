/-! value: the bits of a number -/
section JV3
variable {d n pc h : Nat} {ls : List (Option Value)} {stk : List Value} {al : Nat × Nat} {μ : jMem} {Q : jQ}
def ush (x y : Int32) : Int32 := (x.toUInt32 >>> (y.toUInt32 &&& Int32.toUInt32 31)).toInt32
theorem jo_iushr (hd : decode (jmB n) pc = .ok (.iushr, 1)) (h : j2i stk (fun x y s => jR d n (pc + 1) ls (.int (ush x y) :: s) al μ Q)) : jR d n pc ls stk al μ Q := by
  obtain ⟨x, y, s, rfl, h⟩ := j2i_inv h
  intro G p l e R s0 m args below meth c0 Z hc he H locs LS hl hR hS
  have hh := hc
  obtain ⟨hx, hb, hml, hown, hts, hK, hsz, hnm, hfr, hlo, hce, hsl⟩ := hh
  exact lv_iushr hx hb hd rfl (h G p l e R s0 m args below meth c0 Z hc he H locs LS hl hR hS)
theorem bc_u3 {x y : Int32} {s : List Value} (h : jR d 291 4 ls (.int (ush x y) :: s) al μ Q) : jR d 291 3 ls (.int y :: .int x :: s) al μ Q := jo_iushr (by decide +kernel) h
theorem bc_u17 {x y : Int32} {s : List Value} (h : jR d 291 18 ls (.int (ush x y) :: s) al μ Q) : jR d 291 17 ls (.int y :: .int x :: s) al μ Q := jo_iushr (by decide +kernel) h
theorem bc_u27 {x y : Int32} {s : List Value} (h : jR d 291 28 ls (.int (ush x y) :: s) al μ Q) : jR d 291 27 ls (.int y :: .int x :: s) al μ Q := jo_iushr (by decide +kernel) h
theorem bc_u38 {x y : Int32} {s : List Value} (h : jR d 291 39 ls (.int (ush x y) :: s) al μ Q) : jR d 291 38 ls (.int y :: .int x :: s) al μ Q := jo_iushr (by decide +kernel) h
theorem bc_u45 {x y : Int32} {s : List Value} (h : jR d 291 46 ls (.int (ush x y) :: s) al μ Q) : jR d 291 45 ls (.int y :: .int x :: s) al μ Q := jo_iushr (by decide +kernel) h
theorem bc_s0 (h : jx_blk d 291 [(.iload_n 0, 1, 0, 0, 0, .null), (.iload_n 0, 1, 0, 0, 0, .null), (.iconst 1, 1, 0, 0, 0, .int 1)] 0 ls stk al μ Q) : jR d 291 0 ls stk al μ Q := jx_go h (by decide +kernel) ⟨rfl, ⟨rfl, ⟨rfl, trivial⟩⟩⟩ (jx_sws_of rfl)
theorem bc_s4 (h : jx_blk d 291 [(.ldc_w 265, 3, 0, 0, 0, .int 1431655765), (.iand, 1, 0, 0, 0, .null), (.isub, 1, 0, 0, 0, .null), (.istore_n 0, 1, 0, 0, 0, .null), (.iload_n 0, 1, 0, 0, 0, .null), (.ldc_w 266, 3, 0, 0, 0, .int 858993459), (.iand, 1, 0, 0, 0, .null), (.iload_n 0, 1, 0, 0, 0, .null), (.iconst 2, 1, 0, 0, 0, .int 2)] 4 ls stk al μ Q) : jR d 291 4 ls stk al μ Q := jx_go h (by decide +kernel) ⟨⟨_, rfl, jk_14_265⟩, ⟨trivial, ⟨trivial, ⟨⟨rfl, by decide +kernel⟩, ⟨rfl, ⟨⟨_, rfl, jk_14_266⟩, ⟨trivial, ⟨rfl, ⟨rfl, trivial⟩⟩⟩⟩⟩⟩⟩⟩⟩ (jx_sws_of rfl)
theorem bc_s18 (h : jx_blk d 291 [(.ldc_w 266, 3, 0, 0, 0, .int 858993459), (.iand, 1, 0, 0, 0, .null), (.iadd, 1, 0, 0, 0, .null), (.istore_n 0, 1, 0, 0, 0, .null), (.iload_n 0, 1, 0, 0, 0, .null), (.iload_n 0, 1, 0, 0, 0, .null), (.iconst 4, 1, 0, 0, 0, .int 4)] 18 ls stk al μ Q) : jR d 291 18 ls stk al μ Q := jx_go h (by decide +kernel) ⟨⟨_, rfl, jk_14_266⟩, ⟨trivial, ⟨trivial, ⟨⟨rfl, by decide +kernel⟩, ⟨rfl, ⟨rfl, ⟨rfl, trivial⟩⟩⟩⟩⟩⟩⟩ (jx_sws_of rfl)
theorem bc_s28 (h : jx_blk d 291 [(.iadd, 1, 0, 0, 0, .null), (.ldc_w 267, 3, 0, 0, 0, .int 252645135), (.iand, 1, 0, 0, 0, .null), (.istore_n 0, 1, 0, 0, 0, .null), (.iload_n 0, 1, 0, 0, 0, .null), (.iload_n 0, 1, 0, 0, 0, .null), (.bipush 8, 2, 0, 0, 0, .int 8)] 28 ls stk al μ Q) : jR d 291 28 ls stk al μ Q := jx_go h (by decide +kernel) ⟨trivial, ⟨⟨_, rfl, jk_14_267⟩, ⟨trivial, ⟨⟨rfl, by decide +kernel⟩, ⟨rfl, ⟨rfl, ⟨rfl, trivial⟩⟩⟩⟩⟩⟩⟩ (jx_sws_of rfl)
theorem bc_s39 (h : jx_blk d 291 [(.iadd, 1, 0, 0, 0, .null), (.istore_n 0, 1, 0, 0, 0, .null), (.iload_n 0, 1, 0, 0, 0, .null), (.iload_n 0, 1, 0, 0, 0, .null), (.bipush 16, 2, 0, 0, 0, .int 16)] 39 ls stk al μ Q) : jR d 291 39 ls stk al μ Q := jx_go h (by decide +kernel) ⟨trivial, ⟨⟨rfl, by decide +kernel⟩, ⟨rfl, ⟨rfl, ⟨rfl, trivial⟩⟩⟩⟩⟩ (jx_sws_of rfl)
theorem bc_s46 (h : jx_blk d 291 [(.iadd, 1, 0, 0, 0, .null), (.istore_n 0, 1, 0, 0, 0, .null), (.iload_n 0, 1, 0, 0, 0, .null), (.bipush 63, 2, 0, 0, 0, .int 63), (.iand, 1, 0, 0, 0, .null), (.ireturn, 1, 0, 0, 0, .null)] 46 ls stk al μ Q) : jR d 291 46 ls stk al μ Q := jx_go h (by decide +kernel) ⟨trivial, ⟨⟨rfl, by decide +kernel⟩, ⟨rfl, ⟨rfl, ⟨trivial, ⟨⟨fun _ => rfl, Or.inl rfl⟩, trivial⟩⟩⟩⟩⟩⟩ (jx_sws_of rfl)
def bcI (x : Int32) : Int32 :=
  let a := x - (ush x 1 &&& 1431655765)
  let b := (a &&& 858993459) + (ush a 2 &&& 858993459)
  let c := (b + ush b 4) &&& 252645135
  let e := c + ush c 8
  let f := e + ush e 16
  f &&& 63
theorem sJ_bit {x : Int32} (h : Q (some (.int (bcI x))) μ) : jC d 291 [.int x] μ Q := by
  unfold bcI at h
  refine e291 (bc_s0 ?_)
  simp only [jb_e0, jb_ec, jb_n, jb_c, jx_op, j1i_c, j2i_c, j1l_c, j2l_c, jil_c, j1r_c, jri_c, jrii_c, jril_c, jrl_c, jrr_c, j2i'_c, jdup_i, jdup_r, jdup2_c, jdup2_l, jpo_c, jli, jll, jlr, jat_0, jat_s, jst, jst2, jkill_i, jkill_r, jkill_l, jkill_n, jnone, jgv_0, jgv_1, jgv_2, jgv_3, jrv_s, jput_0, jput_1, jput_2, jput_3, jpop_0, jpop_1, jcl_s, jc1, jc2, jvi, Nat.reduceAdd, jol_i, jol_l, jol_n, jap_n, jap_c, List.map_cons, List.map_nil, List.sum_cons, List.sum_nil, jcI, jcL, jcR, Nat.zero_le, true_and, and_true, and_self, Nat.reduceLeDiff, gI_sI, gI_sL, gI_sR, gL_sI, gL_sL, gL_sR, gR_sI, gR_sL, gR_sR, gS_sI, gS_sL, gS_sR, gN_sI, gN_sL, gN_sR, true_or, or_true, false_or, or_false, Nat.reduceEqDiff, false_and, and_false, if_false, if_true, reduceIte, not_true_eq_false, not_false_eq_true, true_imp_iff, false_imp_iff]
  refine bc_u3 (bc_s4 ?_)
  simp only [jb_e0, jb_ec, jb_n, jb_c, jx_op, j1i_c, j2i_c, j1l_c, j2l_c, jil_c, j1r_c, jri_c, jrii_c, jril_c, jrl_c, jrr_c, j2i'_c, jdup_i, jdup_r, jdup2_c, jdup2_l, jpo_c, jli, jll, jlr, jat_0, jat_s, jst, jst2, jkill_i, jkill_r, jkill_l, jkill_n, jnone, jgv_0, jgv_1, jgv_2, jgv_3, jrv_s, jput_0, jput_1, jput_2, jput_3, jpop_0, jpop_1, jcl_s, jc1, jc2, jvi, Nat.reduceAdd, jol_i, jol_l, jol_n, jap_n, jap_c, List.map_cons, List.map_nil, List.sum_cons, List.sum_nil, jcI, jcL, jcR, Nat.zero_le, true_and, and_true, and_self, Nat.reduceLeDiff, gI_sI, gI_sL, gI_sR, gL_sI, gL_sL, gL_sR, gR_sI, gR_sL, gR_sR, gS_sI, gS_sL, gS_sR, gN_sI, gN_sL, gN_sR, true_or, or_true, false_or, or_false, Nat.reduceEqDiff, false_and, and_false, if_false, if_true, reduceIte, not_true_eq_false, not_false_eq_true, true_imp_iff, false_imp_iff]
  refine bc_u17 (bc_s18 ?_)
  simp only [jb_e0, jb_ec, jb_n, jb_c, jx_op, j1i_c, j2i_c, j1l_c, j2l_c, jil_c, j1r_c, jri_c, jrii_c, jril_c, jrl_c, jrr_c, j2i'_c, jdup_i, jdup_r, jdup2_c, jdup2_l, jpo_c, jli, jll, jlr, jat_0, jat_s, jst, jst2, jkill_i, jkill_r, jkill_l, jkill_n, jnone, jgv_0, jgv_1, jgv_2, jgv_3, jrv_s, jput_0, jput_1, jput_2, jput_3, jpop_0, jpop_1, jcl_s, jc1, jc2, jvi, Nat.reduceAdd, jol_i, jol_l, jol_n, jap_n, jap_c, List.map_cons, List.map_nil, List.sum_cons, List.sum_nil, jcI, jcL, jcR, Nat.zero_le, true_and, and_true, and_self, Nat.reduceLeDiff, gI_sI, gI_sL, gI_sR, gL_sI, gL_sL, gL_sR, gR_sI, gR_sL, gR_sR, gS_sI, gS_sL, gS_sR, gN_sI, gN_sL, gN_sR, true_or, or_true, false_or, or_false, Nat.reduceEqDiff, false_and, and_false, if_false, if_true, reduceIte, not_true_eq_false, not_false_eq_true, true_imp_iff, false_imp_iff]
  refine bc_u27 (bc_s28 ?_)
  simp only [jb_e0, jb_ec, jb_n, jb_c, jx_op, j1i_c, j2i_c, j1l_c, j2l_c, jil_c, j1r_c, jri_c, jrii_c, jril_c, jrl_c, jrr_c, j2i'_c, jdup_i, jdup_r, jdup2_c, jdup2_l, jpo_c, jli, jll, jlr, jat_0, jat_s, jst, jst2, jkill_i, jkill_r, jkill_l, jkill_n, jnone, jgv_0, jgv_1, jgv_2, jgv_3, jrv_s, jput_0, jput_1, jput_2, jput_3, jpop_0, jpop_1, jcl_s, jc1, jc2, jvi, Nat.reduceAdd, jol_i, jol_l, jol_n, jap_n, jap_c, List.map_cons, List.map_nil, List.sum_cons, List.sum_nil, jcI, jcL, jcR, Nat.zero_le, true_and, and_true, and_self, Nat.reduceLeDiff, gI_sI, gI_sL, gI_sR, gL_sI, gL_sL, gL_sR, gR_sI, gR_sL, gR_sR, gS_sI, gS_sL, gS_sR, gN_sI, gN_sL, gN_sR, true_or, or_true, false_or, or_false, Nat.reduceEqDiff, false_and, and_false, if_false, if_true, reduceIte, not_true_eq_false, not_false_eq_true, true_imp_iff, false_imp_iff]
  refine bc_u38 (bc_s39 ?_)
  simp only [jb_e0, jb_ec, jb_n, jb_c, jx_op, j1i_c, j2i_c, j1l_c, j2l_c, jil_c, j1r_c, jri_c, jrii_c, jril_c, jrl_c, jrr_c, j2i'_c, jdup_i, jdup_r, jdup2_c, jdup2_l, jpo_c, jli, jll, jlr, jat_0, jat_s, jst, jst2, jkill_i, jkill_r, jkill_l, jkill_n, jnone, jgv_0, jgv_1, jgv_2, jgv_3, jrv_s, jput_0, jput_1, jput_2, jput_3, jpop_0, jpop_1, jcl_s, jc1, jc2, jvi, Nat.reduceAdd, jol_i, jol_l, jol_n, jap_n, jap_c, List.map_cons, List.map_nil, List.sum_cons, List.sum_nil, jcI, jcL, jcR, Nat.zero_le, true_and, and_true, and_self, Nat.reduceLeDiff, gI_sI, gI_sL, gI_sR, gL_sI, gL_sL, gL_sR, gR_sI, gR_sL, gR_sR, gS_sI, gS_sL, gS_sR, gN_sI, gN_sL, gN_sR, true_or, or_true, false_or, or_false, Nat.reduceEqDiff, false_and, and_false, if_false, if_true, reduceIte, not_true_eq_false, not_false_eq_true, true_imp_iff, false_imp_iff]
  refine bc_u45 (bc_s46 ?_)
  simp only [jb_e0, jb_ec, jb_n, jb_c, jx_op, j1i_c, j2i_c, j1l_c, j2l_c, jil_c, j1r_c, jri_c, jrii_c, jril_c, jrl_c, jrr_c, j2i'_c, jdup_i, jdup_r, jdup2_c, jdup2_l, jpo_c, jli, jll, jlr, jat_0, jat_s, jst, jst2, jkill_i, jkill_r, jkill_l, jkill_n, jnone, jgv_0, jgv_1, jgv_2, jgv_3, jrv_s, jput_0, jput_1, jput_2, jput_3, jpop_0, jpop_1, jcl_s, jc1, jc2, jvi, Nat.reduceAdd, jol_i, jol_l, jol_n, jap_n, jap_c, List.map_cons, List.map_nil, List.sum_cons, List.sum_nil, jcI, jcL, jcR, Nat.zero_le, true_and, and_true, and_self, Nat.reduceLeDiff, gI_sI, gI_sL, gI_sR, gL_sI, gL_sL, gL_sR, gR_sI, gR_sL, gR_sR, gS_sI, gS_sL, gS_sR, gN_sI, gN_sL, gN_sR, true_or, or_true, false_or, or_false, Nat.reduceEqDiff, false_and, and_false, if_false, if_true, reduceIte, not_true_eq_false, not_false_eq_true, true_imp_iff, false_imp_iff]
  exact h
/-- the bits of a number below 64 -/
def bL (h p : Nat) : List Nat := (List.range p).filter (fun b => h.testBit b)
theorem bcI_n : ∀ h, h < 64 → bcI (nI h) = nI (bL h 6).length := by decide +kernel
theorem bL_n6 : ∀ h, h < 64 → (bL h 6).length ≤ 6 := by decide +kernel
theorem bL_3 : ∀ h, h < 64 → (bL h 6).length = 3 → ((bL h 6).getD 0 0 < (bL h 6).getD 1 0 ∧ (bL h 6).getD 1 0 < (bL h 6).getD 2 0 ∧ (bL h 6).getD 2 0 < 6) ∧ (∀ l, l < 6 → (h.testBit l = true ↔ l = (bL h 6).getD 0 0 ∨ l = (bL h 6).getD 1 0 ∨ l = (bL h 6).getD 2 0)) := by decide +kernel
theorem bL_of : ∀ k, k < 6 → ∀ j, j < k → ∀ i, i < j → 2 ^ i + 2 ^ j + 2 ^ k < 64 ∧ (bL (2 ^ i + 2 ^ j + 2 ^ k) 6).length = 3 ∧ (bL (2 ^ i + 2 ^ j + 2 ^ k) 6).getD 0 0 = i ∧ (bL (2 ^ i + 2 ^ j + 2 ^ k) 6).getD 1 0 = j ∧ (bL (2 ^ i + 2 ^ j + 2 ^ k) 6).getD 2 0 = k := by decide +kernel
theorem bL_s {p : Nat} : bL h (p + 1) = bL h p ++ (if h.testBit p = true then [p] else []) := by
  unfold bL
  rw [List.range_succ, List.filter_append]
  congr 1
  cases e : h.testBit p <;> simp [e]
theorem bL_le {p q : Nat} (hpq : p ≤ q) : (bL h p).length ≤ (bL h q).length := by
  induction q with
  | zero =>
    obtain rfl : p = 0 := by omega
    exact Nat.le_refl _
  | succ q ih =>
    by_cases z : p = q + 1
    · rw [z]
      exact Nat.le_refl _
    · have := ih (by omega)
      rw [bL_s, List.length_append]
      omega
end JV3
