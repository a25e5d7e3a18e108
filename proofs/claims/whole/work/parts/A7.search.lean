/-! agreed, alike: the class's search -/
section JRK
variable {d L t : Nat} {μ : jMem} {Q : jQ} {T : jT} {a b c m n o k last : Nat} {al st : Bool} {r tr : Nat → Nat}
def rwO (o : Nat) : List Nat := [o, o + 1, o + 2, o + 3, o + 4, o + 5, o + 6, o + 7, o + 8, o + 9]
theorem rwO_in {x : Nat} (h1 : o ≤ x) (h2 : x ≤ o + 9) : x ∈ rwO o := by
  unfold rwO
  simp
  omega
theorem rwO_out {x : Nat} (h : x < o ∨ o + 9 < x) : x ∉ rwO o := by
  unfold rwO
  simp
  omega
theorem lj_M : (1000000 : Int32) = nI 1000000 := by decide
def rW : Nat → Nat
  | 0 => 1
  | j + 1 => 25 * (1 + rW j) + 1
def rWc : Nat → Nat → Nat
  | 0, _ => 1
  | j + 1, q => q * (1 + rW j) + 1
theorem rWc_25 {j : Nat} : rWc j 25 = rW j := by cases j <;> rfl
theorem rW_le (h : last < 5) : rW last ≤ 1000000 := by
  rcases (show last = 0 ∨ last = 1 ∨ last = 2 ∨ last = 3 ∨ last = 4 by omega) with rfl | rfl | rfl | rfl | rfl <;> decide
/-- the state of the search at a tick -/
def rSS (al : Bool) (T : jT) (o : Nat) (μ : jMem) (k : Nat) (tr : Nat → Nat) (ν : jMem) : Prop := jFr (rwO o) μ ν ∧ (∀ i, i ≠ 4 → i ≠ 5 → gI ν o i = gI μ o i) ∧ (∀ j, j ≤ k → ∀ pr, pr < 64 → gI ν (o + 4 + j) pr = nI (rAp T tr j pr)) ∧ (∀ j, j ≤ k → gI ν (o + 9) j = nI (rAA T tr j)) ∧ (∀ j, j < k → gI ν (o + 2) j = nI (tr j)) ∧ ∀ j, j < k → rV al T j (tr j) ∧ tr j < 25
theorem node (hW : jWd L t μ) (hK : jTok T) (hX : jTX T t μ) (ho : jRO al o) (hl : lyB T 25 μ) (hk : last < 5) (h1 : gI μ o 1 = jbi al) (h2 : gI μ o 2 = nI (rMx T (tP T))) (h3 : gI μ o 3 = nI (last + 1)) {n0 : Int32} :
    ∀ (j k : Nat), k + j = last → ∀ (q : Nat) (tr : Nat → Nat) (told : Option Nat) (u : Nat) (ν : jMem), rSS al T o μ k tr ν → gI ν (o + 2) k = oI told → (∀ c0, told = some c0 → rV al T k c0 ∧ c0 < 25 ∧ c0 + 1 + q = 25) → (told = none → q = 25) → (j = 0 → told = none) → rwB al T o (last + 1) (XP tr k told) ν → u + rWc j q ≤ 1000000 →
      (∀ ξ u', rSS al T o μ k tr ξ → rwB al T o (last + 1) (XQ tr k) ξ → u' + 1 ≤ u + rWc j q → jR (d + 4) 66 98 [some (.ref o), some (.ref t), some (.int n0), some (.int (nI last)), some (.int (nI k + -1)), some (.int (nI u'))] [] (0, 0) ξ Q) →
      jR (d + 4) 66 27 [some (.ref o), some (.ref t), some (.int n0), some (.int (nI last)), some (.int (nI k)), some (.int (nI u))] [] (0, 0) ν Q := by
  have hm := rMx_4 hK (tP T) (Nat.le_refl _)
  have o100 : 102 ≤ o := by rcases ho with ⟨_, rfl⟩ | ⟨_, rfl⟩ <;> omega
  have w := rwS L ho
  intro j
  induction j with
  | zero =>
    intro k hkl q tr told u ν hS et htold hq0 hj0 hB hu hK2
    obtain rfl : k = last := by omega
    obtain rfl := hj0 rfl
    obtain ⟨s1, s2, s3, s4, s5, s6⟩ := hS
    have hu : u + 1 ≤ 1000000 := hu
    have hWν := s1.wd hW
    have wt := (jWs hWν).1
    have hXν := jTX_fr (by unfold rwO; simp <;> omega) hW s1 hX
    have oth : ∀ x, x < o → ∀ i, gI ν x i = gI μ x i := fun x hx i => (s1.1 x (rwO_out (Or.inl hx))).1 i
    have sd : ∀ (d : Nat) (Q' : jQ), Q' (some (.int (jbi (tSd T k)))) ν → jC d 99 [.ref t, .int (nI k)] ν Q' := fun d Q' kq => sp_stands hWν hK hXν (by omega) (by
      have : (if k % tSl T = 0 then (0 : Int32) else 1) = jbi (tSd T k) := by
        unfold tSd jbi
        by_cases z : k % tSl T = 0 <;> simp [z]
      rw [this]
      exact kq)
    have en : ∀ (d : Nat) (Q' : jQ), (∀ ξ, jFr [o, o + 1, o + 2] ν ξ → (∀ i, i ≠ 4 → i ≠ 5 → gI ξ o i = gI ν o i) → (∀ j, j < k → gI ξ (o + 2) j = gI ν (o + 2) j) → rwB al T o (k + 1) (XQ tr k) ξ → Q' none ξ) → jC (d + 2) 70 [.ref o, .int (jbi (tSd T k))] ν Q' := fun d Q' kq => sp_endRows (tr := tr) hWν hK ho (fun c hc => lyA_of (oth _ (by omega)) (oth _ (by omega)) (oth _ (by omega) c) (hl c hc)) hk (by rw [s2 1 (by omega) (by omega)]; exact h1) (by rw [s2 2 (by omega) (by omega)]; exact h2) (by rw [s2 3 (by omega) (by omega)]; exact h3) (s3 k (Nat.le_refl _)) s4 s5 s6 (rwB_iff (fun r _ => ⟨fun y => by
        rcases y with y | ⟨c, y, _⟩
        · exact y
        · exact absurd y (by simp), fun y => Or.inl y⟩) hB) kq
    generalize hv : jbi (tSd T k) = v1 at *
    refine b66_27 ?_
    repeat' (first | refine b66_10 ?_ | refine b66_11 ?_ | refine b66_66 ?_ | refine b66_95 ?_ | refine b66_104 ?_ | refine sd _ _ ?_ | refine en _ _ (fun ξ F g1 g2 g3 => jh_i ?_) | dsimp only [jb_e0, jb_ec, jb_n, jb_c, jx_op, j1i_c, j2i_c, j1l_c, j2l_c, jil_c, j1r_c, jri_c, jrii_c, jril_c, jrl_c, jrr_c, j2i'_c, jdup_i, jdup_r, jdup2_c, jdup2_l, jpo_c, jli, jll, jlr, jat_0, jat_s, jst, jst2, jkill_i, jkill_r, jkill_l, jkill_n, jnone, jgv_0, jgv_1, jgv_2, jgv_3, jrv_s, jput_0, jput_1, jput_2, jput_3, jpop_0, jpop_1, jcl_s, jc1, jc2, jvi, Nat.reduceAdd, jol_i, jol_l, jol_n, jap_n, jap_c, List.map_cons, List.map_nil, List.sum_cons, List.sum_nil, jcI, jcL, jcR, gI_sI, gI_sL, gI_sR, gL_sI, gL_sL, gL_sR, gR_sI, gR_sL, gR_sR, gS_sI, gS_sL, gS_sR, gN_sI, gN_sL, gN_sR] | simp (disch := omega) only [Nat.zero_le, true_and, and_true, and_self, Nat.reduceLeDiff, true_or, or_true, false_or, or_false, Nat.reduceEqDiff, false_and, and_false, if_false, if_true, reduceIte, not_true_eq_false, not_false_eq_true, true_imp_iff, false_imp_iff, List.map_cons, List.map_nil, List.sum_cons, List.sum_nil, jcI, jcL, jcR, Nat.reduceAdd, jrv_s, j1r_c, jap_n, jap_c, gI_sI, gL_sL, gI_sL, gL_sI, an_lt, an_le, an_eq, an_lt0, an_0le, an_0lt, an_le0, an_eq0, an_eq1, an_1lt, an_le1, an_1le, an_lt1, an_eqm, an_sub, an_sub1, an_div, an_rem, an_in, an_in0, an_in1, an_cl, an_cl0, an_cl1, nI_add, nI_1, an_1a, pk_mul, Nat.reduceMul, jz10, jz01, j00, j11, jb0, Classical.not_not, eq_self, an_ite, an_of, an_nm, nI_l, lN_add, lN_mul, lN_i, lj_2, lj_3, lj_4, lj_5, lj_6, lj_7, lj_8, lj_9, lj_10, lj_11, lj_12, lj_13, lj_14, lj_15, lj_16, lj_17, lj_18, lj_19, lj_20, lj_21, lj_22, lj_23, lj_24, lj_25, lj_26, lj_27, lj_28, lj_29, lj_30, lj_31, lj_32, lj_33, lj_34, lj_35, lj_36, lj_37, lj_38, lj_39, lj_40, lj_48, lj_50, lj_57, lj_59, lj_60, lj_63, lj_64, lj_65, lj_90, lj_96, lj_97, lj_99, lj_100, lj_101, lj_105, lj_112, lj_114, lj_116, lj_119, lj_122, lj_128, lj_200, lj_255, lj_256, lj_500, lj_777, lj_1000, hWν.1, w, wt, lj_M] | (refine br_c (fun _ => ?_) (fun _ => ?_) <;> try (exfalso; omega)) | (refine br_d (fun _ => ?_) (fun _ => ?_) <;> try (exfalso; omega)) | refine And.intro ?_ ?_ | (refine Nat.ne_of_gt ?_; omega))
    refine jh_o ?_
    have hS2 : rSS al T o μ k tr ξ := ⟨s1.trans (F.mono (by unfold rwO; simp)), fun i i4 i5 => by rw [g1 i i4 i5, s2 i i4 i5], fun j hj pr hpr => by rw [(F.1 (o + 4 + j) (by simp <;> omega)).1]; exact s3 j hj pr hpr, fun j hj => by rw [(F.1 (o + 9) (by simp)).1]; exact s4 j hj, fun j hj => by rw [g2 j hj]; exact s5 j hj, s6⟩
    have kk := hK2 ξ u hS2 g3 (Nat.le_refl _)
    repeat' (first | refine b66_10 ?_ | refine b66_11 ?_ | refine b66_66 ?_ | refine b66_95 ?_ | refine b66_104 ?_ | dsimp only [jb_e0, jb_ec, jb_n, jb_c, jx_op, j1i_c, j2i_c, j1l_c, j2l_c, jil_c, j1r_c, jri_c, jrii_c, jril_c, jrl_c, jrr_c, j2i'_c, jdup_i, jdup_r, jdup2_c, jdup2_l, jpo_c, jli, jll, jlr, jat_0, jat_s, jst, jst2, jkill_i, jkill_r, jkill_l, jkill_n, jnone, jgv_0, jgv_1, jgv_2, jgv_3, jrv_s, jput_0, jput_1, jput_2, jput_3, jpop_0, jpop_1, jcl_s, jc1, jc2, jvi, Nat.reduceAdd, jol_i, jol_l, jol_n, jap_n, jap_c, List.map_cons, List.map_nil, List.sum_cons, List.sum_nil, jcI, jcL, jcR, gI_sI, gI_sL, gI_sR, gL_sI, gL_sL, gL_sR, gR_sI, gR_sL, gR_sR, gS_sI, gS_sL, gS_sR, gN_sI, gN_sL, gN_sR] | simp (disch := omega) only [Nat.zero_le, true_and, and_true, and_self, Nat.reduceLeDiff, true_or, or_true, false_or, or_false, Nat.reduceEqDiff, false_and, and_false, if_false, if_true, reduceIte, not_true_eq_false, not_false_eq_true, true_imp_iff, false_imp_iff, List.map_cons, List.map_nil, List.sum_cons, List.sum_nil, jcI, jcL, jcR, Nat.reduceAdd, jrv_s, j1r_c, jap_n, jap_c, gI_sI, gL_sL, gI_sL, gL_sI, an_lt, an_le, an_eq, an_lt0, an_0le, an_0lt, an_le0, an_eq0, an_eq1, an_1lt, an_le1, an_1le, an_lt1, an_eqm, an_sub, an_sub1, an_div, an_rem, an_in, an_in0, an_in1, an_cl, an_cl0, an_cl1, nI_add, nI_1, an_1a, pk_mul, Nat.reduceMul, jz10, jz01, j00, j11, jb0, Classical.not_not, eq_self, an_ite, an_of, an_nm, nI_l, lN_add, lN_mul, lN_i, lj_2, lj_3, lj_4, lj_5, lj_6, lj_7, lj_8, lj_9, lj_10, lj_11, lj_12, lj_13, lj_14, lj_15, lj_16, lj_17, lj_18, lj_19, lj_20, lj_21, lj_22, lj_23, lj_24, lj_25, lj_26, lj_27, lj_28, lj_29, lj_30, lj_31, lj_32, lj_33, lj_34, lj_35, lj_36, lj_37, lj_38, lj_39, lj_40, lj_48, lj_50, lj_57, lj_59, lj_60, lj_63, lj_64, lj_65, lj_90, lj_96, lj_97, lj_99, lj_100, lj_101, lj_105, lj_112, lj_114, lj_116, lj_119, lj_122, lj_128, lj_200, lj_255, lj_256, lj_500, lj_777, lj_1000] | (refine br_c (fun _ => ?_) (fun _ => ?_) <;> try (exfalso; omega)) | (refine br_d (fun _ => ?_) (fun _ => ?_) <;> try (exfalso; omega)) | refine And.intro ?_ ?_ | (refine Nat.ne_of_gt ?_; omega))
    all_goals exact kk
  | succ j ihj =>
    intro k hkl q
    induction q using Nat.strongRecOn with
    | ind q ihq =>
      intro tr told u ν hS et htold hq0 hj0 hB hu hK2
      obtain ⟨s1, s2, s3, s4, s5, s6⟩ := hS
      have hu : u + (q * (1 + rW j) + 1) ≤ 1000000 := hu
      have hWν := s1.wd hW
      have wt := (jWs hWν).1
      have hXν := jTX_fr (by unfold rwO; simp <;> omega) hW s1 hX
      have oth : ∀ x, x < o → ∀ i, gI ν x i = gI μ x i := fun x hx i => (s1.1 x (rwO_out (Or.inl hx))).1 i
      have sd : ∀ (d : Nat) (Q' : jQ), Q' (some (.int (jbi (tSd T k)))) ν → jC d 99 [.ref t, .int (nI k)] ν Q' := fun d Q' kq => sp_stands hWν hK hXν (by omega) (by
        have : (if k % tSl T = 0 then (0 : Int32) else 1) = jbi (tSd T k) := by
          unfold tSd jbi
          by_cases z : k % tSl T = 0 <;> simp [z]
        rw [this]
        exact kq)
      have lB : lyB T 25 ν := fun c hc => lyA_of (oth _ (by omega)) (oth _ (by omega)) (oth _ (by omega) c) (hl c hc)
      have t2 : ∀ c0, told = some c0 → rV al T k c0 ∧ c0 < 25 := fun c0 z => ⟨(htold c0 z).1, (htold c0 z).2.1⟩
      have ne := eq_false (show ¬ k = last by omega)
      have rf := rwF ho hWν
      have n2 := eq_false (show ¬ o + 2 = 0 by omega)
      cases hf : fol al (tSd T k) (rMx T (tP T)) told with
      | none =>
        have tn : ∀ (d : Nat) (Q' : jQ), Q' (some (.int 0)) ν → jC (d + 2) 69 [.ref o, .int (nI k), .int (jbi (tSd T k))] ν Q' := fun d Q' kq => sp_tryNext (r := tr) (told := told) hWν hK ho (by omega) lB (s3 k (Nat.le_refl _)) (by rw [s2 1 (by omega) (by omega)]; exact h1) (by rw [s2 2 (by omega) (by omega)]; exact h2) (fun c0 z => (t2 c0 z).2) et (fun _ => kq) (fun c z => by rw [hf] at z; cases z)
        have kk := hK2 ν u ⟨s1, s2, s3, s4, s5, s6⟩ (rwB_iff (fun r hr => ⟨fun y => by
          rcases y with y | ⟨c, y1, y2, _⟩
          · exact Or.inl y
          · exact Or.inr y2, fun y => by
          rcases y with y | y
          · exact Or.inl y
          · obtain ⟨c0, z1, z2⟩ := fol_none t2 hf (r k) (hr k (by omega)).1 (hr k (by omega)).2
            exact Or.inr ⟨c0, z1, y, z2⟩⟩) hB) (show u + 1 ≤ u + (q * (1 + rW j) + 1) by omega)
        generalize hv : jbi (tSd T k) = v1 at *
        refine b66_27 ?_
        repeat' (first | refine b66_10 ?_ | refine b66_11 ?_ | refine b66_66 ?_ | refine b66_95 ?_ | refine b66_104 ?_ | refine sd _ _ ?_ | refine tn _ _ ?_ | dsimp only [jb_e0, jb_ec, jb_n, jb_c, jx_op, j1i_c, j2i_c, j1l_c, j2l_c, jil_c, j1r_c, jri_c, jrii_c, jril_c, jrl_c, jrr_c, j2i'_c, jdup_i, jdup_r, jdup2_c, jdup2_l, jpo_c, jli, jll, jlr, jat_0, jat_s, jst, jst2, jkill_i, jkill_r, jkill_l, jkill_n, jnone, jgv_0, jgv_1, jgv_2, jgv_3, jrv_s, jput_0, jput_1, jput_2, jput_3, jpop_0, jpop_1, jcl_s, jc1, jc2, jvi, Nat.reduceAdd, jol_i, jol_l, jol_n, jap_n, jap_c, List.map_cons, List.map_nil, List.sum_cons, List.sum_nil, jcI, jcL, jcR, gI_sI, gI_sL, gI_sR, gL_sI, gL_sL, gL_sR, gR_sI, gR_sL, gR_sR, gS_sI, gS_sL, gS_sR, gN_sI, gN_sL, gN_sR] | simp (disch := omega) only [Nat.zero_le, true_and, and_true, and_self, Nat.reduceLeDiff, true_or, or_true, false_or, or_false, Nat.reduceEqDiff, false_and, and_false, if_false, if_true, reduceIte, not_true_eq_false, not_false_eq_true, true_imp_iff, false_imp_iff, List.map_cons, List.map_nil, List.sum_cons, List.sum_nil, jcI, jcL, jcR, Nat.reduceAdd, jrv_s, j1r_c, jap_n, jap_c, gI_sI, gL_sL, gI_sL, gL_sI, an_lt, an_le, an_eq, an_lt0, an_0le, an_0lt, an_le0, an_eq0, an_eq1, an_1lt, an_le1, an_1le, an_lt1, an_eqm, an_sub, an_sub1, an_div, an_rem, an_in, an_in0, an_in1, an_cl, an_cl0, an_cl1, nI_add, nI_1, an_1a, pk_mul, Nat.reduceMul, jz10, jz01, j00, j11, jb0, Classical.not_not, eq_self, an_ite, an_of, an_nm, nI_l, lN_add, lN_mul, lN_i, lj_2, lj_3, lj_4, lj_5, lj_6, lj_7, lj_8, lj_9, lj_10, lj_11, lj_12, lj_13, lj_14, lj_15, lj_16, lj_17, lj_18, lj_19, lj_20, lj_21, lj_22, lj_23, lj_24, lj_25, lj_26, lj_27, lj_28, lj_29, lj_30, lj_31, lj_32, lj_33, lj_34, lj_35, lj_36, lj_37, lj_38, lj_39, lj_40, lj_48, lj_50, lj_57, lj_59, lj_60, lj_63, lj_64, lj_65, lj_90, lj_96, lj_97, lj_99, lj_100, lj_101, lj_105, lj_112, lj_114, lj_116, lj_119, lj_122, lj_128, lj_200, lj_255, lj_256, lj_500, lj_777, lj_1000, hWν.1, w, wt, ne, lj_M] | (refine br_c (fun _ => ?_) (fun _ => ?_) <;> try (exfalso; omega)) | (refine br_d (fun _ => ?_) (fun _ => ?_) <;> try (exfalso; omega)) | refine And.intro ?_ ?_ | (refine Nat.ne_of_gt ?_; omega))
        all_goals exact kk
      | some c =>
        obtain ⟨⟨f1, f2⟩, f3, f4⟩ := fol_some t2 hf
        have hqc : 24 - c < q := by
          cases ht : told with
          | none =>
            have := hq0 ht
            omega
          | some c0 =>
            have := htold c0 ht
            have := f3 c0 ht
            omega
        have tn : ∀ (d : Nat) (Q' : jQ), (∀ ξ, jFr [o + 2, o + 4 + (k + 1), o + 9] ν ξ → (∀ j, gI ξ (o + 2) j = if j = k then nI c else gI ν (o + 2) j) → (∀ j, gI ξ (o + 9) j = if j = k + 1 then nI (rAA T (rU tr k c) (k + 1)) else gI ν (o + 9) j) → (∀ pr, pr < 64 → gI ξ (o + 4 + (k + 1)) pr = nI (rAp T (rU tr k c) (k + 1) pr)) → Q' (some (.int 1)) ξ) → jC (d + 2) 69 [.ref o, .int (nI k), .int (jbi (tSd T k))] ν Q' := fun d Q' kq => sp_tryNext (r := tr) (told := told) hWν hK ho (by omega) lB (s3 k (Nat.le_refl _)) (by rw [s2 1 (by omega) (by omega)]; exact h1) (by rw [s2 2 (by omega) (by omega)]; exact h2) (fun c0 z => (t2 c0 z).2) et (fun z => by rw [hf] at z; cases z) (fun c' z => by rw [hf] at z; cases z; exact kq)
        have ruk : rU tr k c k = c := if_pos rfl
        have ruj : ∀ j, j < k → rU tr k c j = tr j := fun j hj => if_neg (by omega)
        have ap : ∀ i, i ≤ k → (∀ pr, pr < 64 → rAp T (rU tr k c) i pr = rAp T tr i pr) ∧ rAA T (rU tr k c) i = rAA T tr i := fun i hi => ⟨fun pr hpr => rAp_congr hK hpr (fun t p ht _ => by rw [ruj t (by omega)]), rAA_congr hK (fun t p ht _ => by rw [ruj t (by omega)])⟩
        have wmul : (24 - c) * (1 + rW j) + (1 + rW j) ≤ q * (1 + rW j) := by
          have := Nat.mul_le_mul_right (1 + rW j) (show 24 - c + 1 ≤ q from hqc)
          rw [Nat.add_mul, Nat.one_mul] at this
          exact this
        generalize hv : jbi (tSd T k) = v1 at *
        refine b66_27 ?_
        repeat' (first | refine b66_10 ?_ | refine b66_11 ?_ | refine b66_66 ?_ | refine b66_95 ?_ | refine b66_104 ?_ | refine sd _ _ ?_ | refine tn _ _ (fun ξ F g1 g2 g3 => jh_i ?_) | dsimp only [jb_e0, jb_ec, jb_n, jb_c, jx_op, j1i_c, j2i_c, j1l_c, j2l_c, jil_c, j1r_c, jri_c, jrii_c, jril_c, jrl_c, jrr_c, j2i'_c, jdup_i, jdup_r, jdup2_c, jdup2_l, jpo_c, jli, jll, jlr, jat_0, jat_s, jst, jst2, jkill_i, jkill_r, jkill_l, jkill_n, jnone, jgv_0, jgv_1, jgv_2, jgv_3, jrv_s, jput_0, jput_1, jput_2, jput_3, jpop_0, jpop_1, jcl_s, jc1, jc2, jvi, Nat.reduceAdd, jol_i, jol_l, jol_n, jap_n, jap_c, List.map_cons, List.map_nil, List.sum_cons, List.sum_nil, jcI, jcL, jcR, gI_sI, gI_sL, gI_sR, gL_sI, gL_sL, gL_sR, gR_sI, gR_sL, gR_sR, gS_sI, gS_sL, gS_sR, gN_sI, gN_sL, gN_sR] | simp (disch := omega) only [Nat.zero_le, true_and, and_true, and_self, Nat.reduceLeDiff, true_or, or_true, false_or, or_false, Nat.reduceEqDiff, false_and, and_false, if_false, if_true, reduceIte, not_true_eq_false, not_false_eq_true, true_imp_iff, false_imp_iff, List.map_cons, List.map_nil, List.sum_cons, List.sum_nil, jcI, jcL, jcR, Nat.reduceAdd, jrv_s, j1r_c, jap_n, jap_c, gI_sI, gL_sL, gI_sL, gL_sI, an_lt, an_le, an_eq, an_lt0, an_0le, an_0lt, an_le0, an_eq0, an_eq1, an_1lt, an_le1, an_1le, an_lt1, an_eqm, an_sub, an_sub1, an_div, an_rem, an_in, an_in0, an_in1, an_cl, an_cl0, an_cl1, nI_add, nI_1, an_1a, pk_mul, Nat.reduceMul, jz10, jz01, j00, j11, jb0, Classical.not_not, eq_self, an_ite, an_of, an_nm, nI_l, lN_add, lN_mul, lN_i, lj_2, lj_3, lj_4, lj_5, lj_6, lj_7, lj_8, lj_9, lj_10, lj_11, lj_12, lj_13, lj_14, lj_15, lj_16, lj_17, lj_18, lj_19, lj_20, lj_21, lj_22, lj_23, lj_24, lj_25, lj_26, lj_27, lj_28, lj_29, lj_30, lj_31, lj_32, lj_33, lj_34, lj_35, lj_36, lj_37, lj_38, lj_39, lj_40, lj_48, lj_50, lj_57, lj_59, lj_60, lj_63, lj_64, lj_65, lj_90, lj_96, lj_97, lj_99, lj_100, lj_101, lj_105, lj_112, lj_114, lj_116, lj_119, lj_122, lj_128, lj_200, lj_255, lj_256, lj_500, lj_777, lj_1000, hWν.1, w, wt, ne, lj_M] | (refine br_c (fun _ => ?_) (fun _ => ?_) <;> try (exfalso; omega)) | (refine br_d (fun _ => ?_) (fun _ => ?_) <;> try (exfalso; omega)) | refine And.intro ?_ ?_ | (refine Nat.ne_of_gt ?_; omega))
        refine jh_o ?_
        have G : jFr (rwO o) μ ξ := s1.trans (F.mono (fun x hx => by
          simp at hx
          exact rwO_in (by omega) (by omega)))
        have hWξ := G.wd hW
        have rfξ := rwF ho hWξ
        have hS2 : rSS al T o μ (k + 1) (rU tr k c) (sI ξ (o + 2) (k + 1) (-1)) := by
          refine ⟨G.trans (jFr.sI (rwO_in (by omega) (by omega))), fun i i4 i5 => ?_, fun i hi pr hpr => ?_, fun i hi => ?_, fun i hi => ?_, fun i hi => ?_⟩
          · rw [gI_sI, if_neg (by omega), (F.1 o (by simp <;> omega)).1]
            exact s2 i i4 i5
          · rw [gI_sI, if_neg (by omega)]
            by_cases e : i = k + 1
            · rw [e]
              exact g3 pr hpr
            · rw [(F.1 (o + 4 + i) (by simp <;> omega)).1, (ap i (by omega)).1 pr hpr]
              exact s3 i (by omega) pr hpr
          · rw [gI_sI, if_neg (by omega), g2 i]
            by_cases e : i = k + 1
            · rw [if_pos e, e]
            · rw [if_neg e, (ap i (by omega)).2]
              exact s4 i (by omega)
          · rw [gI_sI, if_neg (by omega), g1 i]
            by_cases e : i = k
            · rw [if_pos e, e, ruk]
            · rw [if_neg e, ruj i (by omega)]
              exact s5 i (by omega)
          · by_cases e : i = k
            · rw [e, ruk]
              exact ⟨f1, f2⟩
            · rw [ruj i (by omega)]
              exact s6 i (by omega)
        have hB2 : rwB al T o (last + 1) (XP (rU tr k c) (k + 1) none) (sI ξ (o + 2) (k + 1) (-1)) := rwB_iff (X := XP tr k told) (fun r hr => ⟨fun y => by
          rcases y with ⟨i, y1, y2, y3⟩ | ⟨c0, y1, y2, y3⟩
          · exact Or.inl ⟨i, by omega, fun j hj => by rw [ruj j (by omega)]; exact y2 j hj, by rw [ruj i y1]; exact y3⟩
          · have := f3 c0 y1
            exact Or.inl ⟨k, by omega, fun j hj => by rw [ruj j hj]; exact y2 j hj, by rw [ruk]; omega⟩, fun y => by
          rcases y with ⟨i, y1, y2, y3⟩ | ⟨c0, y1, _⟩
          · by_cases e : i = k
            · rw [e, ruk] at y3
              obtain ⟨c0, z1, z2⟩ := f4 (r k) (hr k (by omega)).1 (hr k (by omega)).2 y3
              exact Or.inr ⟨c0, z1, fun j hj => by rw [y2 j (by omega), ruj j hj], z2⟩
            · rw [ruj i (by omega)] at y3
              exact Or.inl ⟨i, by omega, fun j hj => by rw [y2 j hj, ruj j (by omega)], y3⟩
          · cases y1⟩) (rwB_of (by rw [gI_sI, if_neg (by omega), (F.1 o (by simp <;> omega)).1]) (by rw [gI_sI, if_neg (by omega), (F.1 o (by simp <;> omega)).1]) (fun i => by rw [gI_sI, if_neg (by omega), (F.1 (o + 1) (by simp <;> omega)).1]) hB)
        have kk := ihj (k + 1) (by omega) 25 (rU tr k c) none (u + 1) _ hS2 (by rw [gI_sI, if_pos ⟨rfl, rfl⟩]; rfl) (fun c0 z => by cases z) (fun _ => rfl) (fun _ => rfl) hB2 (by rw [rWc_25]; omega) (fun η u' hη hBη hu' => by
          rw [rWc_25] at hu'
          obtain ⟨e1, e2, e3, e4, e5, e6⟩ := hη
          have hS3 : rSS al T o μ k tr η := ⟨e1, e2, fun i hi pr hpr => by rw [← (ap i hi).1 pr hpr]; exact e3 i (by omega) pr hpr, fun i hi => by rw [← (ap i hi).2]; exact e4 i (by omega), fun i hi => by rw [← ruj i hi]; exact e5 i (by omega), s6⟩
          have k2 := ihq (24 - c) hqc tr (some c) (u' + 1) η hS3 (by rw [e5 k (by omega), ruk]; rfl) (fun c0 z => by cases z; exact ⟨f1, f2, by omega⟩) (fun z => by cases z) (fun z => by cases z) (rwB_iff (fun r hr => ⟨fun y => by
            rcases y with ⟨i, y1, y2, y3⟩ | y
            · by_cases e : i = k
              · rw [e, ruk] at y3
                exact Or.inr ⟨c, rfl, fun j hj => by rw [y2 j (by omega), ruj j hj], by omega⟩
              · rw [ruj i (by omega)] at y3
                exact Or.inl ⟨i, by omega, fun j hj => by rw [y2 j hj, ruj j (by omega)], y3⟩
            · exact Or.inr ⟨c, rfl, fun j hj => by rw [y j (by omega), ruj j hj], by rw [y k (by omega), ruk]; omega⟩, fun y => by
            rcases y with ⟨i, y1, y2, y3⟩ | ⟨c0, y1, y2, y3⟩
            · exact Or.inl ⟨i, by omega, fun j hj => by rw [ruj j (by omega)]; exact y2 j hj, by rw [ruj i y1]; exact y3⟩
            · cases y1
              by_cases e : r k = c
              · refine Or.inr (fun j hj => ?_)
                by_cases z : j = k
                · rw [z, ruk, e]
                · rw [ruj j (by omega)]
                  exact y2 j (by omega)
              · exact Or.inl ⟨k, by omega, fun j hj => by rw [ruj j hj]; exact y2 j hj, by rw [ruk]; omega⟩⟩) hBη) (show u' + 1 + ((24 - c) * (1 + rW j) + 1) ≤ 1000000 by omega) (fun ζ u3 h31 h32 h33 => hK2 ζ u3 h31 h32 (by
              have h33 : u3 + 1 ≤ u' + 1 + ((24 - c) * (1 + rW j) + 1) := h33
              show u3 + 1 ≤ u + (q * (1 + rW j) + 1)
              omega))
          have ek : nI (k + 1) + -1 = nI k := by
            rw [← Int32.sub_eq_add_neg, an_sub1 (by omega)]
            rfl
          refine b66_98 ?_
          repeat' (first | refine b66_10 ?_ | refine b66_11 ?_ | refine b66_66 ?_ | refine b66_95 ?_ | refine b66_104 ?_ | dsimp only [jb_e0, jb_ec, jb_n, jb_c, jx_op, j1i_c, j2i_c, j1l_c, j2l_c, jil_c, j1r_c, jri_c, jrii_c, jril_c, jrl_c, jrr_c, j2i'_c, jdup_i, jdup_r, jdup2_c, jdup2_l, jpo_c, jli, jll, jlr, jat_0, jat_s, jst, jst2, jkill_i, jkill_r, jkill_l, jkill_n, jnone, jgv_0, jgv_1, jgv_2, jgv_3, jrv_s, jput_0, jput_1, jput_2, jput_3, jpop_0, jpop_1, jcl_s, jc1, jc2, jvi, Nat.reduceAdd, jol_i, jol_l, jol_n, jap_n, jap_c, List.map_cons, List.map_nil, List.sum_cons, List.sum_nil, jcI, jcL, jcR, gI_sI, gI_sL, gI_sR, gL_sI, gL_sL, gL_sR, gR_sI, gR_sL, gR_sR, gS_sI, gS_sL, gS_sR, gN_sI, gN_sL, gN_sR] | simp (disch := omega) only [Nat.zero_le, true_and, and_true, and_self, Nat.reduceLeDiff, true_or, or_true, false_or, or_false, Nat.reduceEqDiff, false_and, and_false, if_false, if_true, reduceIte, not_true_eq_false, not_false_eq_true, true_imp_iff, false_imp_iff, List.map_cons, List.map_nil, List.sum_cons, List.sum_nil, jcI, jcL, jcR, Nat.reduceAdd, jrv_s, j1r_c, jap_n, jap_c, gI_sI, gL_sL, gI_sL, gL_sI, an_lt, an_le, an_eq, an_lt0, an_0le, an_0lt, an_le0, an_eq0, an_eq1, an_1lt, an_le1, an_1le, an_lt1, an_eqm, an_sub, an_sub1, an_div, an_rem, an_in, an_in0, an_in1, an_cl, an_cl0, an_cl1, nI_add, nI_1, an_1a, pk_mul, Nat.reduceMul, jz10, jz01, j00, j11, jb0, Classical.not_not, eq_self, an_ite, an_of, an_nm, nI_l, lN_add, lN_mul, lN_i, lj_2, lj_3, lj_4, lj_5, lj_6, lj_7, lj_8, lj_9, lj_10, lj_11, lj_12, lj_13, lj_14, lj_15, lj_16, lj_17, lj_18, lj_19, lj_20, lj_21, lj_22, lj_23, lj_24, lj_25, lj_26, lj_27, lj_28, lj_29, lj_30, lj_31, lj_32, lj_33, lj_34, lj_35, lj_36, lj_37, lj_38, lj_39, lj_40, lj_48, lj_50, lj_57, lj_59, lj_60, lj_63, lj_64, lj_65, lj_90, lj_96, lj_97, lj_99, lj_100, lj_101, lj_105, lj_112, lj_114, lj_116, lj_119, lj_122, lj_128, lj_200, lj_255, lj_256, lj_500, lj_777, lj_1000, ek] | (refine br_c (fun _ => ?_) (fun _ => ?_) <;> try (exfalso; omega)) | (refine br_d (fun _ => ?_) (fun _ => ?_) <;> try (exfalso; omega)) | refine And.intro ?_ ?_ | (refine Nat.ne_of_gt ?_; omega))
          all_goals exact k2)
        repeat' (first | refine b66_10 ?_ | refine b66_11 ?_ | refine b66_66 ?_ | refine b66_95 ?_ | refine b66_98 ?_ | refine b66_104 ?_ | dsimp only [jb_e0, jb_ec, jb_n, jb_c, jx_op, j1i_c, j2i_c, j1l_c, j2l_c, jil_c, j1r_c, jri_c, jrii_c, jril_c, jrl_c, jrr_c, j2i'_c, jdup_i, jdup_r, jdup2_c, jdup2_l, jpo_c, jli, jll, jlr, jat_0, jat_s, jst, jst2, jkill_i, jkill_r, jkill_l, jkill_n, jnone, jgv_0, jgv_1, jgv_2, jgv_3, jrv_s, jput_0, jput_1, jput_2, jput_3, jpop_0, jpop_1, jcl_s, jc1, jc2, jvi, Nat.reduceAdd, jol_i, jol_l, jol_n, jap_n, jap_c, List.map_cons, List.map_nil, List.sum_cons, List.sum_nil, jcI, jcL, jcR, gI_sI, gI_sL, gI_sR, gL_sI, gL_sL, gL_sR, gR_sI, gR_sL, gR_sR, gS_sI, gS_sL, gS_sR, gN_sI, gN_sL, gN_sR] | simp (disch := omega) only [Nat.zero_le, true_and, and_true, and_self, Nat.reduceLeDiff, true_or, or_true, false_or, or_false, Nat.reduceEqDiff, false_and, and_false, if_false, if_true, reduceIte, not_true_eq_false, not_false_eq_true, true_imp_iff, false_imp_iff, List.map_cons, List.map_nil, List.sum_cons, List.sum_nil, jcI, jcL, jcR, Nat.reduceAdd, jrv_s, j1r_c, jap_n, jap_c, gI_sI, gL_sL, gI_sL, gL_sI, an_lt, an_le, an_eq, an_lt0, an_0le, an_0lt, an_le0, an_eq0, an_eq1, an_1lt, an_le1, an_1le, an_lt1, an_eqm, an_sub, an_sub1, an_div, an_rem, an_in, an_in0, an_in1, an_cl, an_cl0, an_cl1, nI_add, nI_1, an_1a, pk_mul, Nat.reduceMul, jz10, jz01, j00, j11, jb0, Classical.not_not, eq_self, an_ite, an_of, an_nm, nI_l, lN_add, lN_mul, lN_i, lj_2, lj_3, lj_4, lj_5, lj_6, lj_7, lj_8, lj_9, lj_10, lj_11, lj_12, lj_13, lj_14, lj_15, lj_16, lj_17, lj_18, lj_19, lj_20, lj_21, lj_22, lj_23, lj_24, lj_25, lj_26, lj_27, lj_28, lj_29, lj_30, lj_31, lj_32, lj_33, lj_34, lj_35, lj_36, lj_37, lj_38, lj_39, lj_40, lj_48, lj_50, lj_57, lj_59, lj_60, lj_63, lj_64, lj_65, lj_90, lj_96, lj_97, lj_99, lj_100, lj_101, lj_105, lj_112, lj_114, lj_116, lj_119, lj_122, lj_128, lj_200, lj_255, lj_256, lj_500, lj_777, lj_1000, hWξ.1, w, rfξ, n2] | (refine br_c (fun _ => ?_) (fun _ => ?_) <;> try (exfalso; omega)) | (refine br_d (fun _ => ?_) (fun _ => ?_) <;> try (exfalso; omega)) | refine And.intro ?_ ?_ | (refine Nat.ne_of_gt ?_; omega))
        all_goals exact kk
end JRK
