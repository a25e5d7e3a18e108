/-! two who walk: the numbers, and the class -/
section JWK
variable {d L t : Nat} {μ : jMem} {Q : jQ} {T V : jT} {w v : Nat}
theorem jTX_fr {A : List Nat} {ν : jMem} (hA : ∀ a ∈ A, ¬ (12 ≤ a ∧ a ≤ 33)) (hW : jWd L t μ) (hF : jFr A μ ν) (h : jTX T t μ) : jTX T t ν := jTX_of2 (fun a k h1 h2 => (hF.1 a (fun q => hA a q (by
  have := hW.2.2.2.2.2.2.2.1
  omega))).1 k) h
theorem jVX_fr {A : List Nat} {ν : jMem} (hA : ∀ a ∈ A, ¬ (34 ≤ a ∧ a ≤ 37)) (hF : jFr A μ ν) (h : jVX V μ) : jVX V ν := jVX_of (fun a k h1 => (hF.1 a (fun q => hA a q (by omega))).1 k) h
theorem jTM_fr {A : List Nat} {ν : jMem} (hA : ∀ a ∈ A, ¬ (a = 133 ∨ a = 138 ∨ a = 140 ∨ a = 142 ∨ a = 144 ∨ a = 145 ∨ a = 148)) (hF : jFr A μ ν) (h : jTM T μ) : jTM T ν := jTM_of (fun a k h1 => (hF.1 a (fun q => hA a q (by omega))).1 k) h
theorem jVM_fr {A : List Nat} {ν : jMem} (hA : ∀ a ∈ A, ¬ (a = 133 ∨ a = 150 ∨ a = 151 ∨ a = 152)) (hF : jFr A μ ν) (h : jVM V μ) : jVM V ν := jVM_of (fun a k h1 => (hF.1 a (fun q => hA a q (by omega))).1 k) h
/-- places of the two, how far their ways have gone, the steps by which the first left places -/
abbrev mSt : Type := Nat × Nat × Nat × Nat × (Nat → Nat)
def mT (T V : jT) (w v k : Nat) : mSt → mSt
  | (p, q, g, h, b) => if 0 < tHe T ∧ tDi T p q ≤ tHe T then (p, (if k % tSl T = 0 then tNe T q p else q), g, h, b)
    else (tA T p (wSt V w g (tSi T p)), (if k % tSl T = 0 then (if tMk T ≠ 0 ∧ b q ≠ 0 then tA T q (b q) else tA T q (wSt V v h (tSi T q))) else q), wGo V w g (tSi T p),
      (if k % tSl T = 0 ∧ ¬ (tMk T ≠ 0 ∧ b q ≠ 0) then wGo V v h (tSi T q) else h), (if tA T p (wSt V w g (tSi T p)) = p then b else fun x => if x = p then wSt V w g (tSi T p) else b x))
def mF (T V : jT) (w v : Nat) : Nat → Nat → mSt → Option Nat
  | 0, _, _ => none
  | n + 1, k, S => if (mT T V w v k S).1 = (mT T V w v k S).2.1 ∨ (tCr T ≠ 0 ∧ (mT T V w v k S).1 = S.2.1 ∧ (mT T V w v k S).2.1 = S.1) then some (k + 1) else mF T V w v n (k + 1) (mT T V w v k S)
/-- when two ways meet -/
def mW (T V : jT) (w v a b : Nat) : Option Nat := if a = b then some 0 else mF T V w v 200 0 (a, b, 0, 0, fun _ => 0)
def oI : Option Nat → Int32
  | none => -1
  | some n => nI n
theorem mF_le : ∀ (n k : Nat) (S : mSt) (x : Nat), mF T V w v n k S = some x → x ≤ k + n
  | 0, _, _, _, h => by cases h
  | n + 1, k, S, x, h => by
    unfold mF at h
    split at h
    · cases h
      omega
    · have := mF_le n (k + 1) _ x h
      omega
theorem mW_le {a b x : Nat} (h : mW T V w v a b = some x) : x ≤ 200 := by
  unfold mW at h
  split at h
  · cases h
    omega
  · have := mF_le _ _ _ _ h
    omega
def mOk (T V : jT) (w v : Nat) : mSt → Prop
  | (p, q, g, h, b) => p < tP T ∧ q < tP T ∧ wOk V w g ∧ wOk V v h ∧ ∀ x, x < tP T → b x < 5 ∧ (b x ≠ 0 → b x - 1 < tD T x)
theorem mOk_T {k : Nat} (hK : jTok T) (hV : jVok V) (hw : w < wC V) (hv : v < wC V) {S : mSt} (h : mOk T V w v S) : mOk T V w v (mT T V w v k S) := by
  obtain ⟨p, q, g, hh, b⟩ := S
  obtain ⟨h1, h2, h3, h4, h5⟩ := h
  have hs1 := (hK.2.1 p h1).1
  have hs2 := (hK.2.1 q h2).1
  by_cases c0 : 0 < tHe T ∧ tDi T p q ≤ tHe T
  · have e : mT T V w v k (p, q, g, hh, b) = _ := if_pos c0
    rw [e]
    refine ⟨h1, ?_, h3, h4, h5⟩
    split
    · exact tNe_lt hK h2
    · exact h2
  · have e : mT T V w v k (p, q, g, hh, b) = _ := if_neg c0
    rw [e]
    refine ⟨tA_lt hK h1, ?_, wGo_ok hV hw h3 hs1, ?_, ?_⟩
    · split
      · split <;> exact tA_lt hK h2
      · exact h2
    · split
      · exact wGo_ok hV hv h4 hs2
      · exact h4
    · split
      · exact h5
      · next c =>
        intro x hx
        show (if x = p then wSt V w g (tSi T p) else b x) < 5 ∧ ((if x = p then wSt V w g (tSi T p) else b x) ≠ 0 → (if x = p then wSt V w g (tSi T p) else b x) - 1 < tD T x)
        by_cases e : x = p
        · rw [if_pos e]
          refine ⟨wSt_lt hV hw h3 hs1, fun hn => ?_⟩
          by_cases c2 : 0 < wSt V w g (tSi T p) ∧ wSt V w g (tSi T p) - 1 < tD T p ∧ tSh T (tL T p (wSt V w g (tSi T p) - 1)) = 0
          · rw [e]
            exact c2.2.1
          · exfalso
            apply c
            unfold tA
            rw [if_neg c2]
        · rw [if_neg e]
          exact h5 x hx
def mX (w v : Nat) : mSt → jMem → Prop
  | (p, q, g, h, b), μ => jWk 40 w g p μ ∧ jWk 41 v h q μ ∧ ∀ x, x < 8 → gI μ 39 x = nI (b x)
theorem sp_second {q h0 b : Nat} (hW : jWd L t μ) (hK : jTok T) (hX : jTX T t μ) (hV : jVok V) (hVX : jVX V μ) (hv : v < wC V) (hh : wOk V v h0) (hq : q < tP T) (hS : jWk 41 v h0 q μ) (hb : gI μ 39 q = nI b) (hb5 : b < 5)
    (h : ∀ ν, jFr [41] μ ν → jWk 41 v (if ¬ (tMk T ≠ 0 ∧ b ≠ 0) then wGo V v h0 (tSi T q) else h0) (if tMk T ≠ 0 ∧ b ≠ 0 then tA T q b else tA T q (wSt V v h0 (tSi T q))) ν → Q none ν) : jC (d + 3) 119 [.ref 38, .ref t] μ Q := by
  have h8 := hK.1.1
  have w0 := (jWs hW).1
  have qm := hX.1.2.2.2.2.2
  have hm1 := hK.1.2.2.2.2.2
  have hS2 := hS
  obtain ⟨s1, s2, s3⟩ := hS
  refine e119 (b119_0 ?_)
  by_cases c : tMk T ≠ 0 ∧ b ≠ 0
  · rw [if_pos c, if_neg (fun z => z c)] at h
    have k := h (sI μ 41 3 (nI (tA T q b))) (jFr.sI (by simp)) ⟨s1, s2, rfl⟩
    obtain ⟨c1, c2⟩ := c
    repeat' (first | refine b119_55 ?_ | refine b119_64 ?_ | refine sp_after hW hK hX hq hb5 ?_ | dsimp only [jb_e0, jb_ec, jb_n, jb_c, jx_op, j1i_c, j2i_c, j1l_c, j2l_c, jil_c, j1r_c, jri_c, jrii_c, jril_c, jrl_c, jrr_c, j2i'_c, jdup_i, jdup_r, jdup2_c, jdup2_l, jpo_c, jli, jll, jlr, jat_0, jat_s, jst, jst2, jkill_i, jkill_r, jkill_l, jkill_n, jnone, jgv_0, jgv_1, jgv_2, jgv_3, jrv_s, jput_0, jput_1, jput_2, jput_3, jpop_0, jpop_1, jcl_s, jc1, jc2, jvi, Nat.reduceAdd, jol_i, jol_l, jol_n, jap_n, jap_c, List.map_cons, List.map_nil, List.sum_cons, List.sum_nil, jcI, jcL, jcR, gI_sI, gI_sL, gI_sR, gL_sI, gL_sL, gL_sR, gR_sI, gR_sL, gR_sR, gS_sI, gS_sL, gS_sR, gN_sI, gN_sL, gN_sR] | simp (disch := omega) only [Nat.zero_le, true_and, and_true, and_self, Nat.reduceLeDiff, true_or, or_true, false_or, or_false, Nat.reduceEqDiff, false_and, and_false, if_false, if_true, reduceIte, not_true_eq_false, not_false_eq_true, true_imp_iff, false_imp_iff, List.map_cons, List.map_nil, List.sum_cons, List.sum_nil, jcI, jcL, jcR, Nat.reduceAdd, jrv_s, j1r_c, jap_n, jap_c, gI_sI, gL_sL, gI_sL, gL_sI, an_lt, an_le, an_eq, an_lt0, an_0le, an_0lt, an_le0, an_eq0, an_eq1, an_1lt, an_le1, an_1le, an_lt1, an_eqm, an_sub, an_sub1, an_div, an_rem, an_in, an_in0, an_in1, an_cl, an_cl0, an_cl1, nI_add, nI_1, an_1a, pk_mul, Nat.reduceMul, jz10, jz01, j00, j11, jb0, Classical.not_not, eq_self, an_ite, an_of, an_nm, nI_l, lN_add, lN_mul, lN_i, lj_2, lj_3, lj_4, lj_5, lj_6, lj_7, lj_8, lj_9, lj_10, lj_11, lj_12, lj_13, lj_14, lj_15, lj_16, lj_17, lj_18, lj_19, lj_20, lj_21, lj_22, lj_23, lj_24, lj_25, lj_26, lj_27, lj_28, lj_29, lj_30, lj_31, lj_32, lj_33, lj_34, lj_35, lj_36, lj_37, lj_38, lj_39, lj_40, lj_48, lj_50, lj_57, lj_59, lj_60, lj_63, lj_64, lj_65, lj_90, lj_96, lj_97, lj_99, lj_100, lj_101, lj_105, lj_112, lj_114, lj_116, lj_119, lj_122, lj_128, lj_200, lj_255, lj_256, lj_500, lj_777, lj_1000, hW.1, w0, qm, jr_38_0 hW, jr_38_1 hW, jr_38_2 hW, jr_38_3 hW, jr_41_0 hW, hW.1, jS0_34, jS0_38, jS0_39, jS0_40, jS0_41, jS0_42, s3, hb] | (refine br_c (fun _ => ?_) (fun _ => ?_) <;> try (exfalso; omega)) | (refine br_d (fun _ => ?_) (fun _ => ?_) <;> try (exfalso; omega)) | refine And.intro ?_ ?_ | (refine Nat.ne_of_gt ?_; omega))
    all_goals (first | exact k | rfl)
  · rw [if_neg c, if_pos c] at h
    have k := h (sI (sI μ 41 2 (nI (wGo V v h0 (tSi T q)))) 41 3 (nI (tA T q (wSt V v h0 (tSi T q))))) ((jFr.sI (by simp)).trans (jFr.sI (by simp))) ⟨s1, rfl, rfl⟩
    repeat' (first | refine b119_55 ?_ | refine b119_64 ?_ | refine sp_stepOn (by simp [jwk]) hW hK hX hV hVX hv hh hq hS2 ?_ | dsimp only [jb_e0, jb_ec, jb_n, jb_c, jx_op, j1i_c, j2i_c, j1l_c, j2l_c, jil_c, j1r_c, jri_c, jrii_c, jril_c, jrl_c, jrr_c, j2i'_c, jdup_i, jdup_r, jdup2_c, jdup2_l, jpo_c, jli, jll, jlr, jat_0, jat_s, jst, jst2, jkill_i, jkill_r, jkill_l, jkill_n, jnone, jgv_0, jgv_1, jgv_2, jgv_3, jrv_s, jput_0, jput_1, jput_2, jput_3, jpop_0, jpop_1, jcl_s, jc1, jc2, jvi, Nat.reduceAdd, jol_i, jol_l, jol_n, jap_n, jap_c, List.map_cons, List.map_nil, List.sum_cons, List.sum_nil, jcI, jcL, jcR, gI_sI, gI_sL, gI_sR, gL_sI, gL_sL, gL_sR, gR_sI, gR_sL, gR_sR, gS_sI, gS_sL, gS_sR, gN_sI, gN_sL, gN_sR] | simp (disch := omega) only [Nat.zero_le, true_and, and_true, and_self, Nat.reduceLeDiff, true_or, or_true, false_or, or_false, Nat.reduceEqDiff, false_and, and_false, if_false, if_true, reduceIte, not_true_eq_false, not_false_eq_true, true_imp_iff, false_imp_iff, List.map_cons, List.map_nil, List.sum_cons, List.sum_nil, jcI, jcL, jcR, Nat.reduceAdd, jrv_s, j1r_c, jap_n, jap_c, gI_sI, gL_sL, gI_sL, gL_sI, an_lt, an_le, an_eq, an_lt0, an_0le, an_0lt, an_le0, an_eq0, an_eq1, an_1lt, an_le1, an_1le, an_lt1, an_eqm, an_sub, an_sub1, an_div, an_rem, an_in, an_in0, an_in1, an_cl, an_cl0, an_cl1, nI_add, nI_1, an_1a, pk_mul, Nat.reduceMul, jz10, jz01, j00, j11, jb0, Classical.not_not, eq_self, an_ite, an_of, an_nm, nI_l, lN_add, lN_mul, lN_i, lj_2, lj_3, lj_4, lj_5, lj_6, lj_7, lj_8, lj_9, lj_10, lj_11, lj_12, lj_13, lj_14, lj_15, lj_16, lj_17, lj_18, lj_19, lj_20, lj_21, lj_22, lj_23, lj_24, lj_25, lj_26, lj_27, lj_28, lj_29, lj_30, lj_31, lj_32, lj_33, lj_34, lj_35, lj_36, lj_37, lj_38, lj_39, lj_40, lj_48, lj_50, lj_57, lj_59, lj_60, lj_63, lj_64, lj_65, lj_90, lj_96, lj_97, lj_99, lj_100, lj_101, lj_105, lj_112, lj_114, lj_116, lj_119, lj_122, lj_128, lj_200, lj_255, lj_256, lj_500, lj_777, lj_1000, hW.1, w0, qm, jr_38_0 hW, jr_38_1 hW, jr_38_2 hW, jr_38_3 hW, jr_41_0 hW, hW.1, jS0_34, jS0_38, jS0_39, jS0_40, jS0_41, jS0_42, s3, hb] | (refine br_c (fun _ => ?_) (fun _ => ?_) <;> try (exfalso; omega)) | (refine br_d (fun _ => ?_) (fun _ => ?_) <;> try (exfalso; omega)) | refine And.intro ?_ ?_ | (refine Nat.ne_of_gt ?_; omega))
    all_goals (first | exact k | rfl)
theorem goOn_98 {k p q h0 s : Nat} {b : Nat → Nat} (hW : jWd L t μ) (hK : jTok T) (hX : jTX T t μ) (hV : jVok V) (hVX : jVX V μ) (hv : v < wC V) (o2 : q < tP T) (o4 : wOk V v h0) (k2 : jWk 41 v h0 q μ) (hbq : gI μ 39 q = nI (b q)) (hb5 : b q < 5) (h : ∀ ν, jFr [41] μ ν → jWk 41 v (if k % tSl T = 0 ∧ ¬ (tMk T ≠ 0 ∧ b q ≠ 0) then wGo V v h0 (tSi T q) else h0) (if k % tSl T = 0 then (if tMk T ≠ 0 ∧ b q ≠ 0 then tA T q (b q) else tA T q (wSt V v h0 (tSi T q))) else q) ν → Q none ν) : jR (d + 4) 118 98 [some (.ref 38), some (.ref t), some (.int (if k % tSl T = 0 then 0 else 1)), some (.int (nI p)), some (.int (nI s))] [] (0, 0) μ Q := by
  have h8 := hK.1.1
  have w0 := (jWs hW).1
  refine b118_98 ?_
  by_cases cs : k % tSl T = 0
  · have e3 : (if k % tSl T = 0 ∧ ¬ (tMk T ≠ 0 ∧ b q ≠ 0) then wGo V v h0 (tSi T q) else h0) = (if ¬ (tMk T ≠ 0 ∧ b q ≠ 0) then wGo V v h0 (tSi T q) else h0) := by
      by_cases cq : ¬ (tMk T ≠ 0 ∧ b q ≠ 0)
      · rw [if_pos ⟨cs, cq⟩, if_pos cq]
      · rw [if_neg (fun z => cq z.2), if_neg cq]
    rw [e3, if_pos cs] at h
    repeat' (first | refine b118_50 ?_ | refine b118_51 ?_ | refine b118_98 ?_ | refine b118_107 ?_ | refine sp_second hW hK hX hV hVX hv o4 o2 k2 hbq hb5 (fun ν G k4 => ?_) | dsimp only [jb_e0, jb_ec, jb_n, jb_c, jx_op, j1i_c, j2i_c, j1l_c, j2l_c, jil_c, j1r_c, jri_c, jrii_c, jril_c, jrl_c, jrr_c, j2i'_c, jdup_i, jdup_r, jdup2_c, jdup2_l, jpo_c, jli, jll, jlr, jat_0, jat_s, jst, jst2, jkill_i, jkill_r, jkill_l, jkill_n, jnone, jgv_0, jgv_1, jgv_2, jgv_3, jrv_s, jput_0, jput_1, jput_2, jput_3, jpop_0, jpop_1, jcl_s, jc1, jc2, jvi, Nat.reduceAdd, jol_i, jol_l, jol_n, jap_n, jap_c, List.map_cons, List.map_nil, List.sum_cons, List.sum_nil, jcI, jcL, jcR, gI_sI, gI_sL, gI_sR, gL_sI, gL_sL, gL_sR, gR_sI, gR_sL, gR_sR, gS_sI, gS_sL, gS_sR, gN_sI, gN_sL, gN_sR] | simp (disch := omega) only [Nat.zero_le, true_and, and_true, and_self, Nat.reduceLeDiff, true_or, or_true, false_or, or_false, Nat.reduceEqDiff, false_and, and_false, if_false, if_true, reduceIte, not_true_eq_false, not_false_eq_true, true_imp_iff, false_imp_iff, List.map_cons, List.map_nil, List.sum_cons, List.sum_nil, jcI, jcL, jcR, Nat.reduceAdd, jrv_s, j1r_c, jap_n, jap_c, gI_sI, gL_sL, gI_sL, gL_sI, an_lt, an_le, an_eq, an_lt0, an_0le, an_0lt, an_le0, an_eq0, an_eq1, an_1lt, an_le1, an_1le, an_lt1, an_eqm, an_sub, an_sub1, an_div, an_rem, an_in, an_in0, an_in1, an_cl, an_cl0, an_cl1, nI_add, nI_1, an_1a, pk_mul, Nat.reduceMul, jz10, jz01, j00, j11, jb0, Classical.not_not, eq_self, an_ite, an_of, an_nm, nI_l, lN_add, lN_mul, lN_i, lj_2, lj_3, lj_4, lj_5, lj_6, lj_7, lj_8, lj_9, lj_10, lj_11, lj_12, lj_13, lj_14, lj_15, lj_16, lj_17, lj_18, lj_19, lj_20, lj_21, lj_22, lj_23, lj_24, lj_25, lj_26, lj_27, lj_28, lj_29, lj_30, lj_31, lj_32, lj_33, lj_34, lj_35, lj_36, lj_37, lj_38, lj_39, lj_40, lj_48, lj_50, lj_57, lj_59, lj_60, lj_63, lj_64, lj_65, lj_90, lj_96, lj_97, lj_99, lj_100, lj_101, lj_105, lj_112, lj_114, lj_116, lj_119, lj_122, lj_128, lj_200, lj_255, lj_256, lj_500, lj_777, lj_1000, hW.1, w0, jr_38_0 hW, jr_38_1 hW, jr_38_2 hW, jr_38_3 hW, hW.1, jS0_38, jS0_39, jS0_40, jS0_41, jS0_42, cs] | (refine br_c (fun _ => ?_) (fun _ => ?_) <;> try (exfalso; omega)) | (refine br_d (fun _ => ?_) (fun _ => ?_) <;> try (exfalso; omega)) | refine And.intro ?_ ?_ | (refine Nat.ne_of_gt ?_; omega))
    all_goals exact h ν G k4
  · rw [if_neg cs, if_neg (fun z => cs z.1)] at h
    have k4 := h μ jFr.rf k2
    repeat' (first | refine b118_50 ?_ | refine b118_51 ?_ | refine b118_98 ?_ | refine b118_107 ?_ | dsimp only [jb_e0, jb_ec, jb_n, jb_c, jx_op, j1i_c, j2i_c, j1l_c, j2l_c, jil_c, j1r_c, jri_c, jrii_c, jril_c, jrl_c, jrr_c, j2i'_c, jdup_i, jdup_r, jdup2_c, jdup2_l, jpo_c, jli, jll, jlr, jat_0, jat_s, jst, jst2, jkill_i, jkill_r, jkill_l, jkill_n, jnone, jgv_0, jgv_1, jgv_2, jgv_3, jrv_s, jput_0, jput_1, jput_2, jput_3, jpop_0, jpop_1, jcl_s, jc1, jc2, jvi, Nat.reduceAdd, jol_i, jol_l, jol_n, jap_n, jap_c, List.map_cons, List.map_nil, List.sum_cons, List.sum_nil, jcI, jcL, jcR, gI_sI, gI_sL, gI_sR, gL_sI, gL_sL, gL_sR, gR_sI, gR_sL, gR_sR, gS_sI, gS_sL, gS_sR, gN_sI, gN_sL, gN_sR] | simp (disch := omega) only [Nat.zero_le, true_and, and_true, and_self, Nat.reduceLeDiff, true_or, or_true, false_or, or_false, Nat.reduceEqDiff, false_and, and_false, if_false, if_true, reduceIte, not_true_eq_false, not_false_eq_true, true_imp_iff, false_imp_iff, List.map_cons, List.map_nil, List.sum_cons, List.sum_nil, jcI, jcL, jcR, Nat.reduceAdd, jrv_s, j1r_c, jap_n, jap_c, gI_sI, gL_sL, gI_sL, gL_sI, an_lt, an_le, an_eq, an_lt0, an_0le, an_0lt, an_le0, an_eq0, an_eq1, an_1lt, an_le1, an_1le, an_lt1, an_eqm, an_sub, an_sub1, an_div, an_rem, an_in, an_in0, an_in1, an_cl, an_cl0, an_cl1, nI_add, nI_1, an_1a, pk_mul, Nat.reduceMul, jz10, jz01, j00, j11, jb0, Classical.not_not, eq_self, an_ite, an_of, an_nm, nI_l, lN_add, lN_mul, lN_i, lj_2, lj_3, lj_4, lj_5, lj_6, lj_7, lj_8, lj_9, lj_10, lj_11, lj_12, lj_13, lj_14, lj_15, lj_16, lj_17, lj_18, lj_19, lj_20, lj_21, lj_22, lj_23, lj_24, lj_25, lj_26, lj_27, lj_28, lj_29, lj_30, lj_31, lj_32, lj_33, lj_34, lj_35, lj_36, lj_37, lj_38, lj_39, lj_40, lj_48, lj_50, lj_57, lj_59, lj_60, lj_63, lj_64, lj_65, lj_90, lj_96, lj_97, lj_99, lj_100, lj_101, lj_105, lj_112, lj_114, lj_116, lj_119, lj_122, lj_128, lj_200, lj_255, lj_256, lj_500, lj_777, lj_1000, hW.1, w0, jr_38_0 hW, jr_38_1 hW, jr_38_2 hW, jr_38_3 hW, hW.1, jS0_38, jS0_39, jS0_40, jS0_41, jS0_42, cs] | (refine br_c (fun _ => ?_) (fun _ => ?_) <;> try (exfalso; omega)) | (refine br_d (fun _ => ?_) (fun _ => ?_) <;> try (exfalso; omega)) | refine And.intro ?_ ?_ | (refine Nat.ne_of_gt ?_; omega))
    all_goals (first | exact k4 | rfl)
theorem goOn_hear {k p q g h0 : Nat} (hW : jWd L t μ) (hK : jTok T) (hX : jTX T t μ) (o1 : p < tP T) (o2 : q < tP T) (s1 : jWk 40 w g p μ) (s2 : jWk 41 v h0 q μ) (c : 0 < tHe T ∧ tDi T p q ≤ tHe T) (h : ∀ ν, jFr [41] μ ν → jWk 41 v h0 (if k % tSl T = 0 then tNe T q p else q) ν → Q none ν) : jC (d + 4) 118 [.ref 38, .ref t, .int (if k % tSl T = 0 then 0 else 1)] μ Q := by
  have h8 := hK.1.1
  have w0 := (jWs hW).1
  obtain ⟨a1, a2, a3⟩ := s1
  obtain ⟨b1, b2, b3⟩ := s2
  refine e118 (b118_0 ?_)
  by_cases cs : k % tSl T = 0
  · rw [if_pos cs] at h
    have k2 := h (sI μ 41 3 (nI (tNe T q p))) (jFr.sI (by simp)) ⟨b1, b2, rfl⟩
    repeat' (first | refine b118_50 ?_ | refine b118_98 ?_ | refine b118_107 ?_ | refine sp_areHeard hW hK hX o1 o2 ?_ | refine sp_nearer hW hK hX o2 o1 ?_ | dsimp only [jb_e0, jb_ec, jb_n, jb_c, jx_op, j1i_c, j2i_c, j1l_c, j2l_c, jil_c, j1r_c, jri_c, jrii_c, jril_c, jrl_c, jrr_c, j2i'_c, jdup_i, jdup_r, jdup2_c, jdup2_l, jpo_c, jli, jll, jlr, jat_0, jat_s, jst, jst2, jkill_i, jkill_r, jkill_l, jkill_n, jnone, jgv_0, jgv_1, jgv_2, jgv_3, jrv_s, jput_0, jput_1, jput_2, jput_3, jpop_0, jpop_1, jcl_s, jc1, jc2, jvi, Nat.reduceAdd, jol_i, jol_l, jol_n, jap_n, jap_c, List.map_cons, List.map_nil, List.sum_cons, List.sum_nil, jcI, jcL, jcR, gI_sI, gI_sL, gI_sR, gL_sI, gL_sL, gL_sR, gR_sI, gR_sL, gR_sR, gS_sI, gS_sL, gS_sR, gN_sI, gN_sL, gN_sR] | simp (disch := omega) only [Nat.zero_le, true_and, and_true, and_self, Nat.reduceLeDiff, true_or, or_true, false_or, or_false, Nat.reduceEqDiff, false_and, and_false, if_false, if_true, reduceIte, not_true_eq_false, not_false_eq_true, true_imp_iff, false_imp_iff, List.map_cons, List.map_nil, List.sum_cons, List.sum_nil, jcI, jcL, jcR, Nat.reduceAdd, jrv_s, j1r_c, jap_n, jap_c, gI_sI, gL_sL, gI_sL, gL_sI, an_lt, an_le, an_eq, an_lt0, an_0le, an_0lt, an_le0, an_eq0, an_eq1, an_1lt, an_le1, an_1le, an_lt1, an_eqm, an_sub, an_sub1, an_div, an_rem, an_in, an_in0, an_in1, an_cl, an_cl0, an_cl1, nI_add, nI_1, an_1a, pk_mul, Nat.reduceMul, jz10, jz01, j00, j11, jb0, Classical.not_not, eq_self, an_ite, an_of, an_nm, nI_l, lN_add, lN_mul, lN_i, lj_2, lj_3, lj_4, lj_5, lj_6, lj_7, lj_8, lj_9, lj_10, lj_11, lj_12, lj_13, lj_14, lj_15, lj_16, lj_17, lj_18, lj_19, lj_20, lj_21, lj_22, lj_23, lj_24, lj_25, lj_26, lj_27, lj_28, lj_29, lj_30, lj_31, lj_32, lj_33, lj_34, lj_35, lj_36, lj_37, lj_38, lj_39, lj_40, lj_48, lj_50, lj_57, lj_59, lj_60, lj_63, lj_64, lj_65, lj_90, lj_96, lj_97, lj_99, lj_100, lj_101, lj_105, lj_112, lj_114, lj_116, lj_119, lj_122, lj_128, lj_200, lj_255, lj_256, lj_500, lj_777, lj_1000, hW.1, w0, jr_38_0 hW, jr_38_1 hW, jr_38_2 hW, jr_38_3 hW, jr_40_0 hW, jr_41_0 hW, hW.1, jS0_34, jS0_38, jS0_39, jS0_40, jS0_41, jS0_42, a3, b3, c, cs] | (refine br_c (fun _ => ?_) (fun _ => ?_) <;> try (exfalso; omega)) | (refine br_d (fun _ => ?_) (fun _ => ?_) <;> try (exfalso; omega)) | refine And.intro ?_ ?_ | (refine Nat.ne_of_gt ?_; omega))
    all_goals (first | exact k2 | rfl)
  · rw [if_neg cs] at h
    have k2 := h μ jFr.rf ⟨b1, b2, b3⟩
    repeat' (first | refine b118_50 ?_ | refine b118_98 ?_ | refine b118_107 ?_ | refine sp_areHeard hW hK hX o1 o2 ?_ | dsimp only [jb_e0, jb_ec, jb_n, jb_c, jx_op, j1i_c, j2i_c, j1l_c, j2l_c, jil_c, j1r_c, jri_c, jrii_c, jril_c, jrl_c, jrr_c, j2i'_c, jdup_i, jdup_r, jdup2_c, jdup2_l, jpo_c, jli, jll, jlr, jat_0, jat_s, jst, jst2, jkill_i, jkill_r, jkill_l, jkill_n, jnone, jgv_0, jgv_1, jgv_2, jgv_3, jrv_s, jput_0, jput_1, jput_2, jput_3, jpop_0, jpop_1, jcl_s, jc1, jc2, jvi, Nat.reduceAdd, jol_i, jol_l, jol_n, jap_n, jap_c, List.map_cons, List.map_nil, List.sum_cons, List.sum_nil, jcI, jcL, jcR, gI_sI, gI_sL, gI_sR, gL_sI, gL_sL, gL_sR, gR_sI, gR_sL, gR_sR, gS_sI, gS_sL, gS_sR, gN_sI, gN_sL, gN_sR] | simp (disch := omega) only [Nat.zero_le, true_and, and_true, and_self, Nat.reduceLeDiff, true_or, or_true, false_or, or_false, Nat.reduceEqDiff, false_and, and_false, if_false, if_true, reduceIte, not_true_eq_false, not_false_eq_true, true_imp_iff, false_imp_iff, List.map_cons, List.map_nil, List.sum_cons, List.sum_nil, jcI, jcL, jcR, Nat.reduceAdd, jrv_s, j1r_c, jap_n, jap_c, gI_sI, gL_sL, gI_sL, gL_sI, an_lt, an_le, an_eq, an_lt0, an_0le, an_0lt, an_le0, an_eq0, an_eq1, an_1lt, an_le1, an_1le, an_lt1, an_eqm, an_sub, an_sub1, an_div, an_rem, an_in, an_in0, an_in1, an_cl, an_cl0, an_cl1, nI_add, nI_1, an_1a, pk_mul, Nat.reduceMul, jz10, jz01, j00, j11, jb0, Classical.not_not, eq_self, an_ite, an_of, an_nm, nI_l, lN_add, lN_mul, lN_i, lj_2, lj_3, lj_4, lj_5, lj_6, lj_7, lj_8, lj_9, lj_10, lj_11, lj_12, lj_13, lj_14, lj_15, lj_16, lj_17, lj_18, lj_19, lj_20, lj_21, lj_22, lj_23, lj_24, lj_25, lj_26, lj_27, lj_28, lj_29, lj_30, lj_31, lj_32, lj_33, lj_34, lj_35, lj_36, lj_37, lj_38, lj_39, lj_40, lj_48, lj_50, lj_57, lj_59, lj_60, lj_63, lj_64, lj_65, lj_90, lj_96, lj_97, lj_99, lj_100, lj_101, lj_105, lj_112, lj_114, lj_116, lj_119, lj_122, lj_128, lj_200, lj_255, lj_256, lj_500, lj_777, lj_1000, hW.1, w0, jr_38_0 hW, jr_38_1 hW, jr_38_2 hW, jr_38_3 hW, jr_40_0 hW, jr_41_0 hW, hW.1, jS0_34, jS0_38, jS0_39, jS0_40, jS0_41, jS0_42, a3, b3, c, cs] | (refine br_c (fun _ => ?_) (fun _ => ?_) <;> try (exfalso; omega)) | (refine br_d (fun _ => ?_) (fun _ => ?_) <;> try (exfalso; omega)) | refine And.intro ?_ ?_ | (refine Nat.ne_of_gt ?_; omega))
    all_goals (first | exact k2 | rfl)
theorem goOn_far {k p q g : Nat} (hW : jWd L t μ) (hK : jTok T) (hX : jTX T t μ) (hV : jVok V) (hVX : jVX V μ) (hw : w < wC V) (o1 : p < tP T) (o2 : q < tP T) (o3 : wOk V w g) (s1 : jWk 40 w g p μ) (b3 : gI μ 41 3 = nI q) (c : ¬ (0 < tHe T ∧ tDi T p q ≤ tHe T))
    (h0 : tA T p (wSt V w g (tSi T p)) = p → jR (d + 4) 118 98 [some (.ref 38), some (.ref t), some (.int (if k % tSl T = 0 then 0 else 1)), some (.int (nI p)), some (.int (nI (wSt V w g (tSi T p))))] [] (0, 0) (sI (sI μ 40 2 (nI (wGo V w g (tSi T p)))) 40 3 (nI (tA T p (wSt V w g (tSi T p))))) Q)
    (h1 : ¬ tA T p (wSt V w g (tSi T p)) = p → jR (d + 4) 118 98 [some (.ref 38), some (.ref t), some (.int (if k % tSl T = 0 then 0 else 1)), some (.int (nI p)), some (.int (nI (wSt V w g (tSi T p))))] [] (0, 0) (sI (sI (sI μ 40 2 (nI (wGo V w g (tSi T p)))) 40 3 (nI (tA T p (wSt V w g (tSi T p))))) 39 p (nI (wSt V w g (tSi T p)))) Q) : jC (d + 4) 118 [.ref 38, .ref t, .int (if k % tSl T = 0 then 0 else 1)] μ Q := by
  have h8 := hK.1.1
  have w0 := (jWs hW).1
  have s11 := s1
  obtain ⟨a1, a2, a3⟩ := s11
  have hA := tA_lt (s := wSt V w g (tSi T p)) hK o1
  generalize hst : (if k % tSl T = 0 then (0 : Int32) else 1) = st at h0 h1
  refine e118 (b118_0 ?_)
  by_cases cm : tA T p (wSt V w g (tSi T p)) = p
  · have k2 := h0 cm
    repeat' (first | refine b118_50 ?_ | refine b118_51 ?_ | refine b118_107 ?_ | refine sp_areHeard hW hK hX o1 o2 ?_ | refine sp_stepOn (by simp [jwk]) hW hK hX hV hVX hw o3 o1 s1 ?_ | dsimp only [jb_e0, jb_ec, jb_n, jb_c, jx_op, j1i_c, j2i_c, j1l_c, j2l_c, jil_c, j1r_c, jri_c, jrii_c, jril_c, jrl_c, jrr_c, j2i'_c, jdup_i, jdup_r, jdup2_c, jdup2_l, jpo_c, jli, jll, jlr, jat_0, jat_s, jst, jst2, jkill_i, jkill_r, jkill_l, jkill_n, jnone, jgv_0, jgv_1, jgv_2, jgv_3, jrv_s, jput_0, jput_1, jput_2, jput_3, jpop_0, jpop_1, jcl_s, jc1, jc2, jvi, Nat.reduceAdd, jol_i, jol_l, jol_n, jap_n, jap_c, List.map_cons, List.map_nil, List.sum_cons, List.sum_nil, jcI, jcL, jcR, gI_sI, gI_sL, gI_sR, gL_sI, gL_sL, gL_sR, gR_sI, gR_sL, gR_sR, gS_sI, gS_sL, gS_sR, gN_sI, gN_sL, gN_sR] | simp (disch := omega) only [Nat.zero_le, true_and, and_true, and_self, Nat.reduceLeDiff, true_or, or_true, false_or, or_false, Nat.reduceEqDiff, false_and, and_false, if_false, if_true, reduceIte, not_true_eq_false, not_false_eq_true, true_imp_iff, false_imp_iff, List.map_cons, List.map_nil, List.sum_cons, List.sum_nil, jcI, jcL, jcR, Nat.reduceAdd, jrv_s, j1r_c, jap_n, jap_c, gI_sI, gL_sL, gI_sL, gL_sI, an_lt, an_le, an_eq, an_lt0, an_0le, an_0lt, an_le0, an_eq0, an_eq1, an_1lt, an_le1, an_1le, an_lt1, an_eqm, an_sub, an_sub1, an_div, an_rem, an_in, an_in0, an_in1, an_cl, an_cl0, an_cl1, nI_add, nI_1, an_1a, pk_mul, Nat.reduceMul, jz10, jz01, j00, j11, jb0, Classical.not_not, eq_self, an_ite, an_of, an_nm, nI_l, lN_add, lN_mul, lN_i, lj_2, lj_3, lj_4, lj_5, lj_6, lj_7, lj_8, lj_9, lj_10, lj_11, lj_12, lj_13, lj_14, lj_15, lj_16, lj_17, lj_18, lj_19, lj_20, lj_21, lj_22, lj_23, lj_24, lj_25, lj_26, lj_27, lj_28, lj_29, lj_30, lj_31, lj_32, lj_33, lj_34, lj_35, lj_36, lj_37, lj_38, lj_39, lj_40, lj_48, lj_50, lj_57, lj_59, lj_60, lj_63, lj_64, lj_65, lj_90, lj_96, lj_97, lj_99, lj_100, lj_101, lj_105, lj_112, lj_114, lj_116, lj_119, lj_122, lj_128, lj_200, lj_255, lj_256, lj_500, lj_777, lj_1000, hW.1, w0, jr_38_0 hW, jr_38_1 hW, jr_38_2 hW, jr_38_3 hW, jr_40_0 hW, jr_41_0 hW, hW.1, jS0_34, jS0_38, jS0_39, jS0_40, jS0_41, jS0_42, a3, b3, c] | (refine br_c (fun _ => ?_) (fun _ => ?_) <;> try (exfalso; omega)) | (refine br_d (fun _ => ?_) (fun _ => ?_) <;> try (exfalso; omega)) | refine And.intro ?_ ?_ | (refine Nat.ne_of_gt ?_; omega))
    all_goals exact k2
  · have k2 := h1 cm
    repeat' (first | refine b118_50 ?_ | refine b118_51 ?_ | refine b118_107 ?_ | refine sp_areHeard hW hK hX o1 o2 ?_ | refine sp_stepOn (by simp [jwk]) hW hK hX hV hVX hw o3 o1 s1 ?_ | dsimp only [jb_e0, jb_ec, jb_n, jb_c, jx_op, j1i_c, j2i_c, j1l_c, j2l_c, jil_c, j1r_c, jri_c, jrii_c, jril_c, jrl_c, jrr_c, j2i'_c, jdup_i, jdup_r, jdup2_c, jdup2_l, jpo_c, jli, jll, jlr, jat_0, jat_s, jst, jst2, jkill_i, jkill_r, jkill_l, jkill_n, jnone, jgv_0, jgv_1, jgv_2, jgv_3, jrv_s, jput_0, jput_1, jput_2, jput_3, jpop_0, jpop_1, jcl_s, jc1, jc2, jvi, Nat.reduceAdd, jol_i, jol_l, jol_n, jap_n, jap_c, List.map_cons, List.map_nil, List.sum_cons, List.sum_nil, jcI, jcL, jcR, gI_sI, gI_sL, gI_sR, gL_sI, gL_sL, gL_sR, gR_sI, gR_sL, gR_sR, gS_sI, gS_sL, gS_sR, gN_sI, gN_sL, gN_sR] | simp (disch := omega) only [Nat.zero_le, true_and, and_true, and_self, Nat.reduceLeDiff, true_or, or_true, false_or, or_false, Nat.reduceEqDiff, false_and, and_false, if_false, if_true, reduceIte, not_true_eq_false, not_false_eq_true, true_imp_iff, false_imp_iff, List.map_cons, List.map_nil, List.sum_cons, List.sum_nil, jcI, jcL, jcR, Nat.reduceAdd, jrv_s, j1r_c, jap_n, jap_c, gI_sI, gL_sL, gI_sL, gL_sI, an_lt, an_le, an_eq, an_lt0, an_0le, an_0lt, an_le0, an_eq0, an_eq1, an_1lt, an_le1, an_1le, an_lt1, an_eqm, an_sub, an_sub1, an_div, an_rem, an_in, an_in0, an_in1, an_cl, an_cl0, an_cl1, nI_add, nI_1, an_1a, pk_mul, Nat.reduceMul, jz10, jz01, j00, j11, jb0, Classical.not_not, eq_self, an_ite, an_of, an_nm, nI_l, lN_add, lN_mul, lN_i, lj_2, lj_3, lj_4, lj_5, lj_6, lj_7, lj_8, lj_9, lj_10, lj_11, lj_12, lj_13, lj_14, lj_15, lj_16, lj_17, lj_18, lj_19, lj_20, lj_21, lj_22, lj_23, lj_24, lj_25, lj_26, lj_27, lj_28, lj_29, lj_30, lj_31, lj_32, lj_33, lj_34, lj_35, lj_36, lj_37, lj_38, lj_39, lj_40, lj_48, lj_50, lj_57, lj_59, lj_60, lj_63, lj_64, lj_65, lj_90, lj_96, lj_97, lj_99, lj_100, lj_101, lj_105, lj_112, lj_114, lj_116, lj_119, lj_122, lj_128, lj_200, lj_255, lj_256, lj_500, lj_777, lj_1000, hW.1, w0, jr_38_0 hW, jr_38_1 hW, jr_38_2 hW, jr_38_3 hW, jr_40_0 hW, jr_41_0 hW, hW.1, jS0_34, jS0_38, jS0_39, jS0_40, jS0_41, jS0_42, a3, b3, c] | (refine br_c (fun _ => ?_) (fun _ => ?_) <;> try (exfalso; omega)) | (refine br_d (fun _ => ?_) (fun _ => ?_) <;> try (exfalso; omega)) | refine And.intro ?_ ?_ | (refine Nat.ne_of_gt ?_; omega))
    all_goals exact k2
theorem sp_goOn {k : Nat} {S : mSt} (hW : jWd L t μ) (hK : jTok T) (hX : jTX T t μ) (hV : jVok V) (hVX : jVX V μ) (hw : w < wC V) (hv : v < wC V) (hok : mOk T V w v S) (hne : S.1 ≠ S.2.1) (hS : mX w v S μ) (h : ∀ ν, jFr [39, 40, 41] μ ν → mX w v (mT T V w v k S) ν → Q none ν) : jC (d + 4) 118 [.ref 38, .ref t, .int (if k % tSl T = 0 then 0 else 1)] μ Q := by
  have h8 := hK.1.1
  obtain ⟨p, q, g, h0, b⟩ := S
  obtain ⟨o1, o2, o3, o4, o5⟩ := hok
  obtain ⟨s1, s2, s3⟩ := hS
  have hne : p ≠ q := hne
  by_cases c : 0 < tHe T ∧ tDi T p q ≤ tHe T
  · have e : mT T V w v k (p, q, g, h0, b) = (p, (if k % tSl T = 0 then tNe T q p else q), g, h0, b) := if_pos c
    rw [e] at h
    refine goOn_hear hW hK hX o1 o2 s1 s2 c (fun ν G k4 => h ν (G.mono (by simp)) ⟨?_, k4, fun x hx => ((G.1 39 (by simp)).1 x).trans (s3 x hx)⟩)
    exact ⟨((G.1 40 (by simp)).1 _).trans s1.1, ((G.1 40 (by simp)).1 _).trans s1.2.1, ((G.1 40 (by simp)).1 _).trans s1.2.2⟩
  · have e : mT T V w v k (p, q, g, h0, b) = _ := if_neg c
    rw [e] at h
    have fin : ∀ μ2 : jMem, jFr [39, 40, 41] μ μ2 → jWk 40 w (wGo V w g (tSi T p)) (tA T p (wSt V w g (tSi T p))) μ2 → jWk 41 v h0 q μ2 → (∀ x, x < 8 → gI μ2 39 x = nI ((if tA T p (wSt V w g (tSi T p)) = p then b else fun x => if x = p then wSt V w g (tSi T p) else b x) x)) → jR (d + 4) 118 98 [some (.ref 38), some (.ref t), some (.int (if k % tSl T = 0 then 0 else 1)), some (.int (nI p)), some (.int (nI (wSt V w g (tSi T p))))] [] (0, 0) μ2 Q := by
      intro μ2 hF k1 k2 k3
      have hbq : gI μ2 39 q = nI (b q) := by
        rw [k3 q (by omega)]
        split
        · rfl
        · show nI (if q = p then _ else b q) = nI (b q)
          rw [if_neg (fun z => hne z.symm)]
      refine goOn_98 (hF.wd hW) hK (jTX_fr (by decide) hW hF hX) hV (jVX_fr (by decide) hF hVX) hv o2 o4 k2 hbq (o5 q o2).1 (fun ν G k4 => h ν (hF.trans (G.mono (by simp))) ⟨?_, k4, fun x hx => ((G.1 39 (by simp)).1 x).trans (k3 x hx)⟩)
      exact ⟨((G.1 40 (by simp)).1 _).trans k1.1, ((G.1 40 (by simp)).1 _).trans k1.2.1, ((G.1 40 (by simp)).1 _).trans k1.2.2⟩
    refine goOn_far hW hK hX hV hVX hw o1 o2 o3 s1 s2.2.2 c (fun cm => ?_) (fun cm => ?_)
    · refine fin _ ((jFr.sI (by simp)).trans (jFr.sI (by simp))) ⟨s1.1, rfl, rfl⟩ s2 (fun x hx => ?_)
      rw [if_pos cm]
      exact s3 x hx
    · refine fin _ (((jFr.sI (by simp)).trans (jFr.sI (by simp))).trans (jFr.sI (by simp))) ⟨s1.1, rfl, rfl⟩ s2 (fun x hx => ?_)
      rw [if_neg cm, gI_sI]
      by_cases e : x = p
      · rw [if_pos ⟨rfl, e⟩, if_pos e]
      · rw [if_neg (fun z => e z.2), if_neg e]
        exact s3 x hx
theorem walk_loop {a b : Int32} (hW : jWd L t μ) (hK : jTok T) (hX : jTX T t μ) (hV : jVok V) (hVX : jVX V μ) (hw : w < wC V) (hv : v < wC V) : ∀ (n k : Nat) (ν : jMem) (S : mSt) (z z' : Option Value), jkill z = z → jkill z' = z' → k + n = 200 → jFr [39, 40, 41] μ ν → mOk T V w v S → S.1 ≠ S.2.1 → mX w v S ν → (∀ ν', jFr [39, 40, 41] μ ν' → Q (some (.int (oI (mF T V w v n k S)))) ν') → jR (d + 5) 117 56 [some (.ref 38), some (.ref t), some (.int (nI w)), some (.int (nI v)), some (.int a), some (.int b), some (.int (nI k)), z, z'] [] (0, 0) ν Q := by
  have h8 := hK.1.1
  intro n
  induction n with
  | zero =>
    intro k ν S z z' hz hz' hk hF hok hne hS h
    obtain rfl : k = 200 := by omega
    have hWν := hF.wd hW
    have k2 := h ν hF
    refine b117_56 ?_
    repeat' (first | refine b117_9 ?_ | refine b117_32 ?_ | refine b117_53 ?_ | refine b117_123 ?_ | refine b117_129 ?_ | dsimp only [jb_e0, jb_ec, jb_n, jb_c, jx_op, j1i_c, j2i_c, j1l_c, j2l_c, jil_c, j1r_c, jri_c, jrii_c, jril_c, jrl_c, jrr_c, j2i'_c, jdup_i, jdup_r, jdup2_c, jdup2_l, jpo_c, jli, jll, jlr, jat_0, jat_s, jst, jst2, jkill_i, jkill_r, jkill_l, jkill_n, jnone, jgv_0, jgv_1, jgv_2, jgv_3, jrv_s, jput_0, jput_1, jput_2, jput_3, jpop_0, jpop_1, jcl_s, jc1, jc2, jvi, Nat.reduceAdd, jol_i, jol_l, jol_n, jap_n, jap_c, List.map_cons, List.map_nil, List.sum_cons, List.sum_nil, jcI, jcL, jcR, gI_sI, gI_sL, gI_sR, gL_sI, gL_sL, gL_sR, gR_sI, gR_sL, gR_sR, gS_sI, gS_sL, gS_sR, gN_sI, gN_sL, gN_sR] | simp (disch := omega) only [Nat.zero_le, true_and, and_true, and_self, Nat.reduceLeDiff, true_or, or_true, false_or, or_false, Nat.reduceEqDiff, false_and, and_false, if_false, if_true, reduceIte, not_true_eq_false, not_false_eq_true, true_imp_iff, false_imp_iff, List.map_cons, List.map_nil, List.sum_cons, List.sum_nil, jcI, jcL, jcR, Nat.reduceAdd, jrv_s, j1r_c, jap_n, jap_c, gI_sI, gL_sL, gI_sL, gL_sI, an_lt, an_le, an_eq, an_lt0, an_0le, an_0lt, an_le0, an_eq0, an_eq1, an_1lt, an_le1, an_1le, an_lt1, an_eqm, an_sub, an_sub1, an_div, an_rem, an_in, an_in0, an_in1, an_cl, an_cl0, an_cl1, nI_add, nI_1, an_1a, pk_mul, Nat.reduceMul, jz10, jz01, j00, j11, jb0, Classical.not_not, eq_self, an_ite, an_of, an_nm, nI_l, lN_add, lN_mul, lN_i, lj_2, lj_3, lj_4, lj_5, lj_6, lj_7, lj_8, lj_9, lj_10, lj_11, lj_12, lj_13, lj_14, lj_15, lj_16, lj_17, lj_18, lj_19, lj_20, lj_21, lj_22, lj_23, lj_24, lj_25, lj_26, lj_27, lj_28, lj_29, lj_30, lj_31, lj_32, lj_33, lj_34, lj_35, lj_36, lj_37, lj_38, lj_39, lj_40, lj_48, lj_50, lj_57, lj_59, lj_60, lj_63, lj_64, lj_65, lj_90, lj_96, lj_97, lj_99, lj_100, lj_101, lj_105, lj_112, lj_114, lj_116, lj_119, lj_122, lj_128, lj_200, lj_255, lj_256, lj_500, lj_777, lj_1000, hWν.1] | (refine br_c (fun _ => ?_) (fun _ => ?_) <;> try (exfalso; omega)) | (refine br_d (fun _ => ?_) (fun _ => ?_) <;> try (exfalso; omega)) | refine And.intro ?_ ?_ | (refine Nat.ne_of_gt ?_; omega))
    all_goals (first | exact k2 | rfl)
  | succ n ih =>
    intro k ν S z z' hz hz' hk hF hok hne hS h
    have hWν := hF.wd hW
    have w0 := (jWs hW).1
    have hXν := jTX_fr (by decide) hW hF hX
    have hVXν := jVX_fr (by decide) hF hVX
    have hok2 := mOk_T (k := k) hK hV hw hv hok
    have hgo := fun (Q : jQ) (d : Nat) => sp_goOn (d := d) (Q := Q) (k := k) hWν hK hXν hV hVXν hw hv hok hne hS
    unfold mF at h
    generalize hT' : mT T V w v k S = S2 at h hok2 hgo
    obtain ⟨p, q, g, h0, b0⟩ := S
    obtain ⟨p2, q2, g2, h2, b2⟩ := S2
    have a3 := hS.1.2.2
    have b3 := hS.2.1.2.2
    obtain ⟨o1, o2, -, -, -⟩ := hok
    have o1' := hok2.1
    have o2' := hok2.2.1
    refine b117_56 ?_
    repeat' (first | refine b117_9 ?_ | refine b117_32 ?_ | refine b117_53 ?_ | refine b117_123 ?_ | refine b117_129 ?_ | refine sp_stands hWν hK hXν (show k < 10000 by omega) ?_ | refine hgo _ _ (fun ν2 hF2 hS2 => jh_i ?_) | dsimp only [jb_e0, jb_ec, jb_n, jb_c, jx_op, j1i_c, j2i_c, j1l_c, j2l_c, jil_c, j1r_c, jri_c, jrii_c, jril_c, jrl_c, jrr_c, j2i'_c, jdup_i, jdup_r, jdup2_c, jdup2_l, jpo_c, jli, jll, jlr, jat_0, jat_s, jst, jst2, jkill_i, jkill_r, jkill_l, jkill_n, jnone, jgv_0, jgv_1, jgv_2, jgv_3, jrv_s, jput_0, jput_1, jput_2, jput_3, jpop_0, jpop_1, jcl_s, jc1, jc2, jvi, Nat.reduceAdd, jol_i, jol_l, jol_n, jap_n, jap_c, List.map_cons, List.map_nil, List.sum_cons, List.sum_nil, jcI, jcL, jcR, gI_sI, gI_sL, gI_sR, gL_sI, gL_sL, gL_sR, gR_sI, gR_sL, gR_sR, gS_sI, gS_sL, gS_sR, gN_sI, gN_sL, gN_sR] | simp (disch := omega) only [Nat.zero_le, true_and, and_true, and_self, Nat.reduceLeDiff, true_or, or_true, false_or, or_false, Nat.reduceEqDiff, false_and, and_false, if_false, if_true, reduceIte, not_true_eq_false, not_false_eq_true, true_imp_iff, false_imp_iff, List.map_cons, List.map_nil, List.sum_cons, List.sum_nil, jcI, jcL, jcR, Nat.reduceAdd, jrv_s, j1r_c, jap_n, jap_c, gI_sI, gL_sL, gI_sL, gL_sI, an_lt, an_le, an_eq, an_lt0, an_0le, an_0lt, an_le0, an_eq0, an_eq1, an_1lt, an_le1, an_1le, an_lt1, an_eqm, an_sub, an_sub1, an_div, an_rem, an_in, an_in0, an_in1, an_cl, an_cl0, an_cl1, nI_add, nI_1, an_1a, pk_mul, Nat.reduceMul, jz10, jz01, j00, j11, jb0, Classical.not_not, eq_self, an_ite, an_of, an_nm, nI_l, lN_add, lN_mul, lN_i, lj_2, lj_3, lj_4, lj_5, lj_6, lj_7, lj_8, lj_9, lj_10, lj_11, lj_12, lj_13, lj_14, lj_15, lj_16, lj_17, lj_18, lj_19, lj_20, lj_21, lj_22, lj_23, lj_24, lj_25, lj_26, lj_27, lj_28, lj_29, lj_30, lj_31, lj_32, lj_33, lj_34, lj_35, lj_36, lj_37, lj_38, lj_39, lj_40, lj_48, lj_50, lj_57, lj_59, lj_60, lj_63, lj_64, lj_65, lj_90, lj_96, lj_97, lj_99, lj_100, lj_101, lj_105, lj_112, lj_114, lj_116, lj_119, lj_122, lj_128, lj_200, lj_255, lj_256, lj_500, lj_777, lj_1000, hWν.1, w0, jr_38_0 hWν, jr_38_1 hWν, jr_38_2 hWν, jr_38_3 hWν, jr_40_0 hWν, jr_41_0 hWν, hWν.1, jS0_34, jS0_38, jS0_39, jS0_40, jS0_41, jS0_42, a3, b3, hz, hz'] | (refine br_c (fun _ => ?_) (fun _ => ?_) <;> try (exfalso; omega)) | (refine br_d (fun _ => ?_) (fun _ => ?_) <;> try (exfalso; omega)) | refine And.intro ?_ ?_ | (refine Nat.ne_of_gt ?_; omega))
    refine jh_o ?_
    have hF3 := hF.trans hF2
    have hW2 := hF3.wd hW
    have hX2 := jTX_fr (by decide) hW hF3 hX
    have a32 := hS2.1.2.2
    have b32 := hS2.2.1.2.2
    by_cases c : p2 = q2 ∨ (tCr T ≠ 0 ∧ p2 = q ∧ q2 = p)
    · rw [if_pos c] at h
      have k2 := h ν2 hF3
      repeat' (first | refine b117_9 ?_ | refine b117_32 ?_ | refine b117_53 ?_ | refine b117_123 ?_ | refine b117_129 ?_ | refine sp_haveMet hW2 hK hX2 o1 o2 o1' o2' ?_ | dsimp only [jb_e0, jb_ec, jb_n, jb_c, jx_op, j1i_c, j2i_c, j1l_c, j2l_c, jil_c, j1r_c, jri_c, jrii_c, jril_c, jrl_c, jrr_c, j2i'_c, jdup_i, jdup_r, jdup2_c, jdup2_l, jpo_c, jli, jll, jlr, jat_0, jat_s, jst, jst2, jkill_i, jkill_r, jkill_l, jkill_n, jnone, jgv_0, jgv_1, jgv_2, jgv_3, jrv_s, jput_0, jput_1, jput_2, jput_3, jpop_0, jpop_1, jcl_s, jc1, jc2, jvi, Nat.reduceAdd, jol_i, jol_l, jol_n, jap_n, jap_c, List.map_cons, List.map_nil, List.sum_cons, List.sum_nil, jcI, jcL, jcR, gI_sI, gI_sL, gI_sR, gL_sI, gL_sL, gL_sR, gR_sI, gR_sL, gR_sR, gS_sI, gS_sL, gS_sR, gN_sI, gN_sL, gN_sR] | simp (disch := omega) only [Nat.zero_le, true_and, and_true, and_self, Nat.reduceLeDiff, true_or, or_true, false_or, or_false, Nat.reduceEqDiff, false_and, and_false, if_false, if_true, reduceIte, not_true_eq_false, not_false_eq_true, true_imp_iff, false_imp_iff, List.map_cons, List.map_nil, List.sum_cons, List.sum_nil, jcI, jcL, jcR, Nat.reduceAdd, jrv_s, j1r_c, jap_n, jap_c, gI_sI, gL_sL, gI_sL, gL_sI, an_lt, an_le, an_eq, an_lt0, an_0le, an_0lt, an_le0, an_eq0, an_eq1, an_1lt, an_le1, an_1le, an_lt1, an_eqm, an_sub, an_sub1, an_div, an_rem, an_in, an_in0, an_in1, an_cl, an_cl0, an_cl1, nI_add, nI_1, an_1a, pk_mul, Nat.reduceMul, jz10, jz01, j00, j11, jb0, Classical.not_not, eq_self, an_ite, an_of, an_nm, nI_l, lN_add, lN_mul, lN_i, lj_2, lj_3, lj_4, lj_5, lj_6, lj_7, lj_8, lj_9, lj_10, lj_11, lj_12, lj_13, lj_14, lj_15, lj_16, lj_17, lj_18, lj_19, lj_20, lj_21, lj_22, lj_23, lj_24, lj_25, lj_26, lj_27, lj_28, lj_29, lj_30, lj_31, lj_32, lj_33, lj_34, lj_35, lj_36, lj_37, lj_38, lj_39, lj_40, lj_48, lj_50, lj_57, lj_59, lj_60, lj_63, lj_64, lj_65, lj_90, lj_96, lj_97, lj_99, lj_100, lj_101, lj_105, lj_112, lj_114, lj_116, lj_119, lj_122, lj_128, lj_200, lj_255, lj_256, lj_500, lj_777, lj_1000, hW2.1, w0, jr_38_0 hW2, jr_38_1 hW2, jr_38_2 hW2, jr_38_3 hW2, jr_40_0 hW2, jr_41_0 hW2, hW2.1, jS0_34, jS0_38, jS0_39, jS0_40, jS0_41, jS0_42, a32, b32, c] | (refine br_c (fun _ => ?_) (fun _ => ?_) <;> try (exfalso; omega)) | (refine br_d (fun _ => ?_) (fun _ => ?_) <;> try (exfalso; omega)) | refine And.intro ?_ ?_ | (refine Nat.ne_of_gt ?_; omega))
      all_goals (first | exact k2 | rfl)
    · rw [if_neg c] at h
      have k2 : ∀ z z' : Int32, jR (d + 5) 117 56 [some (.ref 38), some (.ref t), some (.int (nI w)), some (.int (nI v)), some (.int a), some (.int b), some (.int (nI (k + 1))), some (.int z), some (.int z')] [] (0, 0) ν2 Q := fun z z' => ih (k + 1) ν2 (p2, q2, g2, h2, b2) _ _ rfl rfl (by omega) hF3 hok2 (fun e => c (Or.inl e)) hS2 h
      repeat' (first | refine b117_9 ?_ | refine b117_32 ?_ | refine b117_53 ?_ | refine b117_123 ?_ | refine b117_129 ?_ | refine sp_haveMet hW2 hK hX2 o1 o2 o1' o2' ?_ | dsimp only [jb_e0, jb_ec, jb_n, jb_c, jx_op, j1i_c, j2i_c, j1l_c, j2l_c, jil_c, j1r_c, jri_c, jrii_c, jril_c, jrl_c, jrr_c, j2i'_c, jdup_i, jdup_r, jdup2_c, jdup2_l, jpo_c, jli, jll, jlr, jat_0, jat_s, jst, jst2, jkill_i, jkill_r, jkill_l, jkill_n, jnone, jgv_0, jgv_1, jgv_2, jgv_3, jrv_s, jput_0, jput_1, jput_2, jput_3, jpop_0, jpop_1, jcl_s, jc1, jc2, jvi, Nat.reduceAdd, jol_i, jol_l, jol_n, jap_n, jap_c, List.map_cons, List.map_nil, List.sum_cons, List.sum_nil, jcI, jcL, jcR, gI_sI, gI_sL, gI_sR, gL_sI, gL_sL, gL_sR, gR_sI, gR_sL, gR_sR, gS_sI, gS_sL, gS_sR, gN_sI, gN_sL, gN_sR] | simp (disch := omega) only [Nat.zero_le, true_and, and_true, and_self, Nat.reduceLeDiff, true_or, or_true, false_or, or_false, Nat.reduceEqDiff, false_and, and_false, if_false, if_true, reduceIte, not_true_eq_false, not_false_eq_true, true_imp_iff, false_imp_iff, List.map_cons, List.map_nil, List.sum_cons, List.sum_nil, jcI, jcL, jcR, Nat.reduceAdd, jrv_s, j1r_c, jap_n, jap_c, gI_sI, gL_sL, gI_sL, gL_sI, an_lt, an_le, an_eq, an_lt0, an_0le, an_0lt, an_le0, an_eq0, an_eq1, an_1lt, an_le1, an_1le, an_lt1, an_eqm, an_sub, an_sub1, an_div, an_rem, an_in, an_in0, an_in1, an_cl, an_cl0, an_cl1, nI_add, nI_1, an_1a, pk_mul, Nat.reduceMul, jz10, jz01, j00, j11, jb0, Classical.not_not, eq_self, an_ite, an_of, an_nm, nI_l, lN_add, lN_mul, lN_i, lj_2, lj_3, lj_4, lj_5, lj_6, lj_7, lj_8, lj_9, lj_10, lj_11, lj_12, lj_13, lj_14, lj_15, lj_16, lj_17, lj_18, lj_19, lj_20, lj_21, lj_22, lj_23, lj_24, lj_25, lj_26, lj_27, lj_28, lj_29, lj_30, lj_31, lj_32, lj_33, lj_34, lj_35, lj_36, lj_37, lj_38, lj_39, lj_40, lj_48, lj_50, lj_57, lj_59, lj_60, lj_63, lj_64, lj_65, lj_90, lj_96, lj_97, lj_99, lj_100, lj_101, lj_105, lj_112, lj_114, lj_116, lj_119, lj_122, lj_128, lj_200, lj_255, lj_256, lj_500, lj_777, lj_1000, hW2.1, w0, jr_38_0 hW2, jr_38_1 hW2, jr_38_2 hW2, jr_38_3 hW2, jr_40_0 hW2, jr_41_0 hW2, hW2.1, jS0_34, jS0_38, jS0_39, jS0_40, jS0_41, jS0_42, a32, b32, c] | (refine br_c (fun _ => ?_) (fun _ => ?_) <;> try (exfalso; omega)) | (refine br_d (fun _ => ?_) (fun _ => ?_) <;> try (exfalso; omega)) | refine And.intro ?_ ?_ | (refine Nat.ne_of_gt ?_; omega))
      all_goals exact k2 _ _
theorem sp_walk {a b : Nat} (hW : jWd L t μ) (hK : jTok T) (hX : jTX T t μ) (hV : jVok V) (hVX : jVX V μ) (hw : w < wC V) (hv : v < wC V) (ha : a < tP T) (hb : b < tP T) (h : ∀ ν, jFr [39, 40, 41] μ ν → Q (some (.int (oI (mW T V w v a b)))) ν) : jC (d + 5) 117 [.ref 38, .ref t, .int (nI w), .int (nI v), .int (nI a), .int (nI b)] μ Q := by
  have h8 := hK.1.1
  refine e117 (b117_0 ?_)
  unfold mW at h
  by_cases c : a = b
  · rw [if_pos c] at h
    have k := h μ jFr.rf
    repeat' (first | refine b117_9 ?_ | refine b117_53 ?_ | refine b117_56 ?_ | refine b117_123 ?_ | refine b117_129 ?_ | dsimp only [jb_e0, jb_ec, jb_n, jb_c, jx_op, j1i_c, j2i_c, j1l_c, j2l_c, jil_c, j1r_c, jri_c, jrii_c, jril_c, jrl_c, jrr_c, j2i'_c, jdup_i, jdup_r, jdup2_c, jdup2_l, jpo_c, jli, jll, jlr, jat_0, jat_s, jst, jst2, jkill_i, jkill_r, jkill_l, jkill_n, jnone, jgv_0, jgv_1, jgv_2, jgv_3, jrv_s, jput_0, jput_1, jput_2, jput_3, jpop_0, jpop_1, jcl_s, jc1, jc2, jvi, Nat.reduceAdd, jol_i, jol_l, jol_n, jap_n, jap_c, List.map_cons, List.map_nil, List.sum_cons, List.sum_nil, jcI, jcL, jcR, gI_sI, gI_sL, gI_sR, gL_sI, gL_sL, gL_sR, gR_sI, gR_sL, gR_sR, gS_sI, gS_sL, gS_sR, gN_sI, gN_sL, gN_sR] | simp (disch := omega) only [Nat.zero_le, true_and, and_true, and_self, Nat.reduceLeDiff, true_or, or_true, false_or, or_false, Nat.reduceEqDiff, false_and, and_false, if_false, if_true, reduceIte, not_true_eq_false, not_false_eq_true, true_imp_iff, false_imp_iff, List.map_cons, List.map_nil, List.sum_cons, List.sum_nil, jcI, jcL, jcR, Nat.reduceAdd, jrv_s, j1r_c, jap_n, jap_c, gI_sI, gL_sL, gI_sL, gL_sI, an_lt, an_le, an_eq, an_lt0, an_0le, an_0lt, an_le0, an_eq0, an_eq1, an_1lt, an_le1, an_1le, an_lt1, an_eqm, an_sub, an_sub1, an_div, an_rem, an_in, an_in0, an_in1, an_cl, an_cl0, an_cl1, nI_add, nI_1, an_1a, pk_mul, Nat.reduceMul, jz10, jz01, j00, j11, jb0, Classical.not_not, eq_self, an_ite, an_of, an_nm, nI_l, lN_add, lN_mul, lN_i, lj_2, lj_3, lj_4, lj_5, lj_6, lj_7, lj_8, lj_9, lj_10, lj_11, lj_12, lj_13, lj_14, lj_15, lj_16, lj_17, lj_18, lj_19, lj_20, lj_21, lj_22, lj_23, lj_24, lj_25, lj_26, lj_27, lj_28, lj_29, lj_30, lj_31, lj_32, lj_33, lj_34, lj_35, lj_36, lj_37, lj_38, lj_39, lj_40, lj_48, lj_50, lj_57, lj_59, lj_60, lj_63, lj_64, lj_65, lj_90, lj_96, lj_97, lj_99, lj_100, lj_101, lj_105, lj_112, lj_114, lj_116, lj_119, lj_122, lj_128, lj_200, lj_255, lj_256, lj_500, lj_777, lj_1000, hW.1, c] | (refine br_c (fun _ => ?_) (fun _ => ?_) <;> try (exfalso; omega)) | (refine br_d (fun _ => ?_) (fun _ => ?_) <;> try (exfalso; omega)) | refine And.intro ?_ ?_ | (refine Nat.ne_of_gt ?_; omega))
    all_goals exact k
  · rw [if_neg c] at h
    have key : ∀ (n k : Nat) (ν : jMem), k + n = 8 → jFr [39, 40, 41] μ ν → jWk 40 w 0 a ν → jWk 41 v 0 b ν → (∀ x, x < k → gI ν 39 x = 0) → jR (d + 5) 117 32 [some (.ref 38), some (.ref t), some (.int (nI w)), some (.int (nI v)), some (.int (nI a)), some (.int (nI b)), some (.int (nI k)), none, none] [] (0, 0) ν Q := by
      intro n
      induction n with
      | zero =>
        intro k ν hk hF k1 k2 k3
        obtain rfl : k = 8 := by omega
        have hWν := hF.wd hW
        have k4 := walk_loop (d := d) (Q := Q) (a := nI a) (b := nI b) hW hK hX hV hVX hw hv 200 0 ν (a, b, 0, 0, fun _ => 0) none none rfl rfl (by omega) hF ⟨ha, hb, wOk_0, wOk_0, fun x hx => ⟨by show 0 < 5; omega, fun z => absurd rfl z⟩⟩ c ⟨k1, k2, k3⟩ h
        refine b117_32 ?_
        repeat' (first | refine b117_9 ?_ | refine b117_53 ?_ | refine b117_123 ?_ | refine b117_129 ?_ | dsimp only [jb_e0, jb_ec, jb_n, jb_c, jx_op, j1i_c, j2i_c, j1l_c, j2l_c, jil_c, j1r_c, jri_c, jrii_c, jril_c, jrl_c, jrr_c, j2i'_c, jdup_i, jdup_r, jdup2_c, jdup2_l, jpo_c, jli, jll, jlr, jat_0, jat_s, jst, jst2, jkill_i, jkill_r, jkill_l, jkill_n, jnone, jgv_0, jgv_1, jgv_2, jgv_3, jrv_s, jput_0, jput_1, jput_2, jput_3, jpop_0, jpop_1, jcl_s, jc1, jc2, jvi, Nat.reduceAdd, jol_i, jol_l, jol_n, jap_n, jap_c, List.map_cons, List.map_nil, List.sum_cons, List.sum_nil, jcI, jcL, jcR, gI_sI, gI_sL, gI_sR, gL_sI, gL_sL, gL_sR, gR_sI, gR_sL, gR_sR, gS_sI, gS_sL, gS_sR, gN_sI, gN_sL, gN_sR] | simp (disch := omega) only [Nat.zero_le, true_and, and_true, and_self, Nat.reduceLeDiff, true_or, or_true, false_or, or_false, Nat.reduceEqDiff, false_and, and_false, if_false, if_true, reduceIte, not_true_eq_false, not_false_eq_true, true_imp_iff, false_imp_iff, List.map_cons, List.map_nil, List.sum_cons, List.sum_nil, jcI, jcL, jcR, Nat.reduceAdd, jrv_s, j1r_c, jap_n, jap_c, gI_sI, gL_sL, gI_sL, gL_sI, an_lt, an_le, an_eq, an_lt0, an_0le, an_0lt, an_le0, an_eq0, an_eq1, an_1lt, an_le1, an_1le, an_lt1, an_eqm, an_sub, an_sub1, an_div, an_rem, an_in, an_in0, an_in1, an_cl, an_cl0, an_cl1, nI_add, nI_1, an_1a, pk_mul, Nat.reduceMul, jz10, jz01, j00, j11, jb0, Classical.not_not, eq_self, an_ite, an_of, an_nm, nI_l, lN_add, lN_mul, lN_i, lj_2, lj_3, lj_4, lj_5, lj_6, lj_7, lj_8, lj_9, lj_10, lj_11, lj_12, lj_13, lj_14, lj_15, lj_16, lj_17, lj_18, lj_19, lj_20, lj_21, lj_22, lj_23, lj_24, lj_25, lj_26, lj_27, lj_28, lj_29, lj_30, lj_31, lj_32, lj_33, lj_34, lj_35, lj_36, lj_37, lj_38, lj_39, lj_40, lj_48, lj_50, lj_57, lj_59, lj_60, lj_63, lj_64, lj_65, lj_90, lj_96, lj_97, lj_99, lj_100, lj_101, lj_105, lj_112, lj_114, lj_116, lj_119, lj_122, lj_128, lj_200, lj_255, lj_256, lj_500, lj_777, lj_1000, hWν.1] | (refine br_c (fun _ => ?_) (fun _ => ?_) <;> try (exfalso; omega)) | (refine br_d (fun _ => ?_) (fun _ => ?_) <;> try (exfalso; omega)) | refine And.intro ?_ ?_ | (refine Nat.ne_of_gt ?_; omega))
        all_goals (first | exact k4 | rfl)
      | succ n ih =>
        intro k ν hk hF k1 k2 k3
        have hWν := hF.wd hW
        refine b117_32 ?_
        repeat' (first | refine b117_9 ?_ | refine b117_53 ?_ | refine b117_123 ?_ | refine b117_129 ?_ | dsimp only [jb_e0, jb_ec, jb_n, jb_c, jx_op, j1i_c, j2i_c, j1l_c, j2l_c, jil_c, j1r_c, jri_c, jrii_c, jril_c, jrl_c, jrr_c, j2i'_c, jdup_i, jdup_r, jdup2_c, jdup2_l, jpo_c, jli, jll, jlr, jat_0, jat_s, jst, jst2, jkill_i, jkill_r, jkill_l, jkill_n, jnone, jgv_0, jgv_1, jgv_2, jgv_3, jrv_s, jput_0, jput_1, jput_2, jput_3, jpop_0, jpop_1, jcl_s, jc1, jc2, jvi, Nat.reduceAdd, jol_i, jol_l, jol_n, jap_n, jap_c, List.map_cons, List.map_nil, List.sum_cons, List.sum_nil, jcI, jcL, jcR, gI_sI, gI_sL, gI_sR, gL_sI, gL_sL, gL_sR, gR_sI, gR_sL, gR_sR, gS_sI, gS_sL, gS_sR, gN_sI, gN_sL, gN_sR] | simp (disch := omega) only [Nat.zero_le, true_and, and_true, and_self, Nat.reduceLeDiff, true_or, or_true, false_or, or_false, Nat.reduceEqDiff, false_and, and_false, if_false, if_true, reduceIte, not_true_eq_false, not_false_eq_true, true_imp_iff, false_imp_iff, List.map_cons, List.map_nil, List.sum_cons, List.sum_nil, jcI, jcL, jcR, Nat.reduceAdd, jrv_s, j1r_c, jap_n, jap_c, gI_sI, gL_sL, gI_sL, gL_sI, an_lt, an_le, an_eq, an_lt0, an_0le, an_0lt, an_le0, an_eq0, an_eq1, an_1lt, an_le1, an_1le, an_lt1, an_eqm, an_sub, an_sub1, an_div, an_rem, an_in, an_in0, an_in1, an_cl, an_cl0, an_cl1, nI_add, nI_1, an_1a, pk_mul, Nat.reduceMul, jz10, jz01, j00, j11, jb0, Classical.not_not, eq_self, an_ite, an_of, an_nm, nI_l, lN_add, lN_mul, lN_i, lj_2, lj_3, lj_4, lj_5, lj_6, lj_7, lj_8, lj_9, lj_10, lj_11, lj_12, lj_13, lj_14, lj_15, lj_16, lj_17, lj_18, lj_19, lj_20, lj_21, lj_22, lj_23, lj_24, lj_25, lj_26, lj_27, lj_28, lj_29, lj_30, lj_31, lj_32, lj_33, lj_34, lj_35, lj_36, lj_37, lj_38, lj_39, lj_40, lj_48, lj_50, lj_57, lj_59, lj_60, lj_63, lj_64, lj_65, lj_90, lj_96, lj_97, lj_99, lj_100, lj_101, lj_105, lj_112, lj_114, lj_116, lj_119, lj_122, lj_128, lj_200, lj_255, lj_256, lj_500, lj_777, lj_1000, hWν.1, jr_38_0 hWν, jr_38_1 hWν, jr_38_2 hWν, jr_38_3 hWν, hWν.1, jS0_38, jS0_39, jS0_40, jS0_41, jS0_42] | (refine br_c (fun _ => ?_) (fun _ => ?_) <;> try (exfalso; omega)) | (refine br_d (fun _ => ?_) (fun _ => ?_) <;> try (exfalso; omega)) | refine And.intro ?_ ?_ | (refine Nat.ne_of_gt ?_; omega))
        refine ih (k + 1) _ (by omega) (hF.trans (jFr.sI (by simp))) k1 k2 (fun x hx => ?_)
        rw [gI_sI]
        by_cases e : x = k
        · rw [if_pos ⟨rfl, e⟩]
        · rw [if_neg (fun z => e z.2)]
          exact k3 x (by omega)
    have hW1 : jWd L t (sI (sI (sI μ 40 1 (nI w)) 40 2 0) 40 3 (nI a)) := hW
    have k := key 8 0 (sI (sI (sI (sI (sI (sI μ 40 1 (nI w)) 40 2 0) 40 3 (nI a)) 41 1 (nI v)) 41 2 0) 41 3 (nI b)) (by omega) ((((((jFr.sI (by simp)).trans (jFr.sI (by simp))).trans (jFr.sI (by simp))).trans (jFr.sI (by simp))).trans (jFr.sI (by simp))).trans (jFr.sI (by simp))) ⟨rfl, rfl, rfl⟩ ⟨rfl, rfl, rfl⟩ (fun x hx => absurd hx (Nat.not_lt_zero _))
    repeat' (first | refine b117_9 ?_ | refine b117_53 ?_ | refine b117_56 ?_ | refine b117_123 ?_ | refine b117_129 ?_ | refine sp_begin (by simp [jwk]) hW ?_ | refine sp_begin (by simp [jwk]) hW1 ?_ | dsimp only [jb_e0, jb_ec, jb_n, jb_c, jx_op, j1i_c, j2i_c, j1l_c, j2l_c, jil_c, j1r_c, jri_c, jrii_c, jril_c, jrl_c, jrr_c, j2i'_c, jdup_i, jdup_r, jdup2_c, jdup2_l, jpo_c, jli, jll, jlr, jat_0, jat_s, jst, jst2, jkill_i, jkill_r, jkill_l, jkill_n, jnone, jgv_0, jgv_1, jgv_2, jgv_3, jrv_s, jput_0, jput_1, jput_2, jput_3, jpop_0, jpop_1, jcl_s, jc1, jc2, jvi, Nat.reduceAdd, jol_i, jol_l, jol_n, jap_n, jap_c, List.map_cons, List.map_nil, List.sum_cons, List.sum_nil, jcI, jcL, jcR, gI_sI, gI_sL, gI_sR, gL_sI, gL_sL, gL_sR, gR_sI, gR_sL, gR_sR, gS_sI, gS_sL, gS_sR, gN_sI, gN_sL, gN_sR] | simp (disch := omega) only [Nat.zero_le, true_and, and_true, and_self, Nat.reduceLeDiff, true_or, or_true, false_or, or_false, Nat.reduceEqDiff, false_and, and_false, if_false, if_true, reduceIte, not_true_eq_false, not_false_eq_true, true_imp_iff, false_imp_iff, List.map_cons, List.map_nil, List.sum_cons, List.sum_nil, jcI, jcL, jcR, Nat.reduceAdd, jrv_s, j1r_c, jap_n, jap_c, gI_sI, gL_sL, gI_sL, gL_sI, an_lt, an_le, an_eq, an_lt0, an_0le, an_0lt, an_le0, an_eq0, an_eq1, an_1lt, an_le1, an_1le, an_lt1, an_eqm, an_sub, an_sub1, an_div, an_rem, an_in, an_in0, an_in1, an_cl, an_cl0, an_cl1, nI_add, nI_1, an_1a, pk_mul, Nat.reduceMul, jz10, jz01, j00, j11, jb0, Classical.not_not, eq_self, an_ite, an_of, an_nm, nI_l, lN_add, lN_mul, lN_i, lj_2, lj_3, lj_4, lj_5, lj_6, lj_7, lj_8, lj_9, lj_10, lj_11, lj_12, lj_13, lj_14, lj_15, lj_16, lj_17, lj_18, lj_19, lj_20, lj_21, lj_22, lj_23, lj_24, lj_25, lj_26, lj_27, lj_28, lj_29, lj_30, lj_31, lj_32, lj_33, lj_34, lj_35, lj_36, lj_37, lj_38, lj_39, lj_40, lj_48, lj_50, lj_57, lj_59, lj_60, lj_63, lj_64, lj_65, lj_90, lj_96, lj_97, lj_99, lj_100, lj_101, lj_105, lj_112, lj_114, lj_116, lj_119, lj_122, lj_128, lj_200, lj_255, lj_256, lj_500, lj_777, lj_1000, hW.1, jr_38_0 hW, jr_38_1 hW, jr_38_2 hW, jr_38_3 hW, hW.1, jS0_38, jS0_39, jS0_40, jS0_41, jS0_42] | (refine br_c (fun _ => ?_) (fun _ => ?_) <;> try (exfalso; omega)) | (refine br_d (fun _ => ?_) (fun _ => ?_) <;> try (exfalso; omega)) | refine And.intro ?_ ?_ | (refine Nat.ne_of_gt ?_; omega))
    all_goals exact k
end JWK
