/-! agreed, alike: the best among rows gone through -/
section JRI
variable {d L t : Nat} {μ : jMem} {Q : jQ} {T : jT} {a b c m n o k last : Nat} {al st : Bool} {r tr : Nat → Nat}
def rVs (al : Bool) (T : jT) (n : Nat) (r : Nat → Nat) : Prop := ∀ k, k < n → rV al T k (r k) ∧ r k < 25
def rwB (al : Bool) (T : jT) (o n : Nat) (X : (Nat → Nat) → Prop) (μ : jMem) : Prop := (gI μ o 4 = 2147483647 ∧ gI μ o 5 = 2147483647 ∧ ∀ r, rVs al T n r → ¬ X r) ∨ ∃ b, rVs al T n b ∧ X b ∧ gI μ o 4 = nI (rFm T b n) ∧ gI μ o 5 = nI (rFl T b n) ∧ (∀ k, k < n → gI μ (o + 1) k = nI (b k)) ∧ ∀ r, rVs al T n r → X r → rBe T n b r (rLx n r b)
theorem rwB_iff {X Y : (Nat → Nat) → Prop} (h : ∀ r, rVs al T n r → (X r ↔ Y r)) (hB : rwB al T o n X μ) : rwB al T o n Y μ := by
  rcases hB with ⟨h1, h2, h3⟩ | ⟨b, h1, h2, h3, h4, h5, h6⟩
  · exact Or.inl ⟨h1, h2, fun r hr y => h3 r hr ((h r hr).mpr y)⟩
  · exact Or.inr ⟨b, h1, (h b h1).mp h2, h3, h4, h5, fun r hr y => h6 r hr ((h r hr).mpr y)⟩
theorem rwB_of {X : (Nat → Nat) → Prop} {ν : jMem} (h4 : gI ν o 4 = gI μ o 4) (h5 : gI ν o 5 = gI μ o 5) (h1 : ∀ k, gI ν (o + 1) k = gI μ (o + 1) k) (hB : rwB al T o n X μ) : rwB al T o n X ν := by
  rcases hB with ⟨g1, g2, g3⟩ | ⟨b, g1, g2, g3, g4, g5, g6⟩
  · exact Or.inl ⟨by rw [h4]; exact g1, by rw [h5]; exact g2, g3⟩
  · exact Or.inr ⟨b, g1, g2, by rw [h4]; exact g3, by rw [h5]; exact g4, fun k hk => by rw [h1]; exact g5 k hk, g6⟩
def XL (tr : Nat → Nat) (t : Nat) (r : Nat → Nat) : Prop := ∃ k, k < t ∧ (∀ j, j < k → r j = tr j) ∧ r k < tr k
def XQ (tr : Nat → Nat) (t : Nat) (r : Nat → Nat) : Prop := XL tr t r ∨ ∀ j, j < t → r j = tr j
def XP (tr : Nat → Nat) (t : Nat) (told : Option Nat) (r : Nat → Nat) : Prop := XL tr t r ∨ ∃ c, told = some c ∧ (∀ j, j < t → r j = tr j) ∧ r t ≤ c
theorem rLx_no (h : rLx n r tr) : ¬ rLx n tr r := fun g => by
  obtain ⟨k, _, _, h3⟩ := rLx_trans h g
  omega
theorem rBe_new {b b' : Nat → Nat} {lx lx' : Prop} (h : rBe T n b r lx) (hs : rFm T b' n < rFm T b n ∨ (rFm T b' n = rFm T b n ∧ rFl T b' n < rFl T b n)) : rBe T n b' r lx' := by
  unfold rBe at *
  have : rFm T b' n < rFm T r n ∨ (rFm T b' n = rFm T r n ∧ rFl T b' n < rFl T r n) := by
    rcases h with h | ⟨h, h2 | h2⟩ <;> omega
  rcases this with z | z
  · exact Or.inl z
  · exact Or.inr ⟨z.1, Or.inl z.2⟩
theorem rBe_old {b b' : Nat → Nat} {lx lx' : Prop} (h : rBe T n b' r lx) (hs : ¬ (rFm T b' n < rFm T b n ∨ (rFm T b' n = rFm T b n ∧ rFl T b' n < rFl T b n))) (hl : ¬ lx') : rBe T n b r lx' := by
  unfold rBe at *
  have : rFm T b n < rFm T r n ∨ (rFm T b n = rFm T r n ∧ rFl T b n ≤ rFl T r n) := by
    rcases h with h | ⟨h, h2 | h2⟩ <;> omega
  rcases this with z | z
  · exact Or.inl z
  · refine Or.inr ⟨z.1, ?_⟩
    rcases Nat.lt_or_eq_of_le z.2 with q | q
    · exact Or.inl q
    · exact Or.inr ⟨q, hl⟩
/-- a row with a told beginning, by its last code -/
theorem rF_end (hK : jTok T) (h : ∀ j, j < last → r j = tr j) : rFm T r (last + 1) + rMt T tr last (r last) = rAA T tr last ∧ rFl T r (last + 1) = rFm T r (last + 1) + jsum (rAA T tr) (last + 1) := by
  have e : ∀ m, m ≤ last → rAA T r m = rAA T tr m := fun m hm => rAA_congr hK (fun t pr ht _ => by rw [h t (by omega)])
  have e2 : rAA T r (last + 1) = rAA T (rU tr last (r last)) (last + 1) := rAA_congr hK (fun t pr ht _ => by
    unfold rU
    by_cases q : t = last
    · rw [if_pos q, q]
    · rw [if_neg q, h t (by omega)])
  refine ⟨?_, ?_⟩
  · unfold rFm
    rw [e2]
    exact rAA_m hK
  · unfold rFl rFm
    rw [jsum, jsum_congr (last + 1) (fun i hi => e i (by omega))]
    omega
theorem sp_endRows (hW : jWd L t μ) (hK : jTok T) (ho : jRO al o) (hl : lyB T 25 μ) (hk : last < 5) (h1 : gI μ o 1 = jbi al) (h2 : gI μ o 2 = nI (rMx T (tP T))) (h3 : gI μ o 3 = nI (last + 1)) (hR : ∀ pr, pr < 64 → gI μ (o + 4 + last) pr = nI (rAp T tr last pr)) (hA : ∀ j, j ≤ last → gI μ (o + 9) j = nI (rAA T tr j)) (h7 : ∀ j, j < last → gI μ (o + 2) j = nI (tr j)) (hv : ∀ j, j < last → rV al T j (tr j) ∧ tr j < 25) (hB : rwB al T o (last + 1) (XL tr last) μ)
    (h : ∀ ν, jFr [o, o + 1, o + 2] μ ν → (∀ i, i ≠ 4 → i ≠ 5 → gI ν o i = gI μ o i) → (∀ j, j < last → gI ν (o + 2) j = gI μ (o + 2) j) → rwB al T o (last + 1) (XQ tr last) ν → Q none ν) :
    jC (d + 2) 70 [.ref o, .int (jbi (tSd T last))] μ Q := by
  have hm := rMx_4 hK (tP T) (Nat.le_refl _)
  have o100 : 102 ≤ o := by rcases ho with ⟨_, rfl⟩ | ⟨_, rfl⟩ <;> omega
  have w := rwS L ho
  have jl := end_loop (d := d) (Q := Q) (r := tr) hW hK ho hl hk h1 h2 h3 hR (hA last (Nat.le_refl _)) (fun c0 hc0 hT ν F hc Q' hq => by
    have hWν := F.wd hW
    have oth : ∀ a, a ≠ o + 2 → ∀ i, gI ν a i = gI μ a i := fun a na i => (F.1 a (by simpa using na)).1 i
    have q1 := rMt_le (T := T) (r := tr) (k := last) (c := c0) hK
    have q2 := rAA_le (T := T) (r := tr) (k := last) hK
    have rnl : rU tr last c0 last = c0 := if_pos rfl
    have rnj : ∀ j, j < last → rU tr last c0 j = tr j := fun j hj => if_neg (by omega)
    have E := rF_end (T := T) (r := rU tr last c0) (tr := tr) hK rnj
    rw [rnl] at E
    have hM : rAA T tr last - rMt T tr last c0 = rFm T (rU tr last c0) (last + 1) := by omega
    have hvn : rVs al T (last + 1) (rU tr last c0) := fun j hj => by
      by_cases e : j = last
      · rw [e, rnl]
        exact hc0
      · rw [rnj j (by omega)]
        exact hv j (by omega)
    have hpre : ∀ r, rVs al T (last + 1) r → (∀ j, j < last → r j = tr j) → rBe T (last + 1) (rU tr last c0) r (rLx (last + 1) r (rU tr last c0)) := fun r hr he => by
      have E2 := rF_end (T := T) (r := r) (tr := tr) hK he
      have b2 := rMt_le (T := T) (r := tr) (k := last) (c := r last) hK
      unfold rBe
      rcases hT (r last) (hr last (by omega)).1 (hr last (by omega)).2 with z | ⟨z, z2⟩
      · exact Or.inl (by omega)
      · refine Or.inr ⟨by omega, Or.inr ⟨by omega, ?_⟩⟩
        rintro ⟨k, k1, k2, k3⟩
        by_cases e : k = last
        · rw [e, rnl] at k3
          omega
        · rw [he k (by omega), rnj k (by omega)] at k3
          omega
    have fm : rFm T (rU tr last c0) (last + 1) ≤ 5184 := rAA_le hK
    have fl : rFl T (rU tr last c0) (last + 1) ≤ 40000 := by
      have := rFl_le (T := T) (r := rU tr last c0) (n := last + 1) hK
      omega
    rw [hM]
    refine sp_keep (r := tr) (M := rFm T (rU tr last c0) (last + 1)) hWν ho hk (fun j hj => by rw [oth _ (by omega)]; exact hA j hj) (fun j => rAA_le hK) fm (m0 := gI μ o 4) (l0 := gI μ o 5) (oth _ (by omega) 4) (oth _ (by omega) 5) (fun hn => hq _ (h ν (F.mono (by simp)) (fun i _ _ => oth _ (by omega) i) (fun j hj => by rw [hc j, if_neg (by omega)]) ?_)) (fun hy ξ G e4 e5 ei e1 => hq _ (h ξ ((F.mono (by simp)).trans (G.mono (by simp))) (fun i i4 i5 => by rw [ei i i4 i5, oth _ (by omega)]) (fun j hj => by rw [(G.1 (o + 2) (by simp <;> omega)).1, hc j, if_neg (by omega)]) ?_))
    · rw [← E.2] at hn
      rcases hB with ⟨g1, g2, g3⟩ | ⟨b, g1, g2, g3, g4, g5, g6⟩
      · exfalso
        rw [g1] at hn
        refine hn (Or.inl ?_)
        have := an_lt (a := rFm T (rU tr last c0) (last + 1)) (b := 2147483647) (by omega) (by omega)
        exact this.mpr (by omega)
      · have bm : rFm T b (last + 1) ≤ 5184 := rAA_le hK
        have bl : rFl T b (last + 1) ≤ 40000 := by
          have := rFl_le (T := T) (r := b) (n := last + 1) hK
          omega
        rw [g3, g4, an_lt (by omega) (by omega), an_eq (by omega) (by omega), an_lt (by omega) (by omega)] at hn
        refine Or.inr ⟨b, g1, Or.inl g2, by rw [oth _ (by omega)]; exact g3, by rw [oth _ (by omega)]; exact g4, fun k hk => by rw [oth _ (by omega)]; exact g5 k hk, fun r hr hX => ?_⟩
        rcases hX with hX | hX
        · exact g6 r hr hX
        · refine rBe_old (hpre r hr hX) hn (rLx_no ?_)
          obtain ⟨k, k1, k2, k3⟩ := g2
          exact ⟨k, by omega, fun j hj => by rw [k2 j hj, hX j (by omega)], by rw [hX k k1]; exact k3⟩
    · rw [← E.2] at hy e5
      refine Or.inr ⟨rU tr last c0, hvn, Or.inr rnj, e4, e5, fun k hk => ?_, fun r hr hX => ?_⟩
      · rw [e1 k (by omega), hc k]
        by_cases e : k = last
        · rw [if_pos e, e, rnl]
        · rw [if_neg e, rnj k (by omega)]
          exact h7 k (by omega)
      · rcases hX with hX | hX
        · rcases hB with ⟨g1, g2, g3⟩ | ⟨b, g1, g2, g3, g4, g5, g6⟩
          · exact absurd hX (g3 r hr)
          · have bm : rFm T b (last + 1) ≤ 5184 := rAA_le hK
            have bl : rFl T b (last + 1) ≤ 40000 := by
              have := rFl_le (T := T) (r := b) (n := last + 1) hK
              omega
            rw [g3, g4, an_lt (by omega) (by omega), an_eq (by omega) (by omega), an_lt (by omega) (by omega)] at hy
            exact rBe_new (g6 r hr hX) hy
        · exact hpre r hr hX) 25 0 none _ μ 0 none rfl (fun c1 z => by cases z) rfl (fun _ => rfl) jFr.rf (fun i _ => rfl) (fun z => absurd rfl z)
  have rf := rwF ho hW
  have fw : ∀ (d : Nat) (Q' : jQ), Q' (some (.int (oI (fol al (tSd T last) (rMx T (tP T)) none)))) μ → jC d 68 [.ref o, .int (-1), .int (jbi (tSd T last))] μ Q' := fun d Q' kq => sp_following (told := none) hW ho h1 h2 hm (fun c0 z => by cases z) kq
  have kk := jl
  rw [if_pos rfl] at kk
  clear jl h hB
  generalize oI (fol al (tSd T last) (rMx T (tP T)) none) = x at *
  generalize jbi (tSd T last) = v1 at *
  refine e70 (b70_0 ?_)
  repeat' (first | refine b70_16 ?_ | refine b70_17 ?_ | refine b70_77 ?_ | refine b70_92 ?_ | refine fw _ _ ?_ | dsimp only [jb_e0, jb_ec, jb_n, jb_c, jx_op, j1i_c, j2i_c, j1l_c, j2l_c, jil_c, j1r_c, jri_c, jrii_c, jril_c, jrl_c, jrr_c, j2i'_c, jdup_i, jdup_r, jdup2_c, jdup2_l, jpo_c, jli, jll, jlr, jat_0, jat_s, jst, jst2, jkill_i, jkill_r, jkill_l, jkill_n, jnone, jgv_0, jgv_1, jgv_2, jgv_3, jrv_s, jput_0, jput_1, jput_2, jput_3, jpop_0, jpop_1, jcl_s, jc1, jc2, jvi, Nat.reduceAdd, jol_i, jol_l, jol_n, jap_n, jap_c, List.map_cons, List.map_nil, List.sum_cons, List.sum_nil, jcI, jcL, jcR, gI_sI, gI_sL, gI_sR, gL_sI, gL_sL, gL_sR, gR_sI, gR_sL, gR_sR, gS_sI, gS_sL, gS_sR, gN_sI, gN_sL, gN_sR] | simp (disch := omega) only [Nat.zero_le, true_and, and_true, and_self, Nat.reduceLeDiff, true_or, or_true, false_or, or_false, Nat.reduceEqDiff, false_and, and_false, if_false, if_true, reduceIte, not_true_eq_false, not_false_eq_true, true_imp_iff, false_imp_iff, List.map_cons, List.map_nil, List.sum_cons, List.sum_nil, jcI, jcL, jcR, Nat.reduceAdd, jrv_s, j1r_c, jap_n, jap_c, gI_sI, gL_sL, gI_sL, gL_sI, an_lt, an_le, an_eq, an_lt0, an_0le, an_0lt, an_le0, an_eq0, an_eq1, an_1lt, an_le1, an_1le, an_lt1, an_eqm, an_sub, an_sub1, an_div, an_rem, an_in, an_in0, an_in1, an_cl, an_cl0, an_cl1, nI_add, nI_1, an_1a, pk_mul, Nat.reduceMul, jz10, jz01, j00, j11, jb0, Classical.not_not, eq_self, an_ite, an_of, an_nm, nI_l, lN_add, lN_mul, lN_i, lj_2, lj_3, lj_4, lj_5, lj_6, lj_7, lj_8, lj_9, lj_10, lj_11, lj_12, lj_13, lj_14, lj_15, lj_16, lj_17, lj_18, lj_19, lj_20, lj_21, lj_22, lj_23, lj_24, lj_25, lj_26, lj_27, lj_28, lj_29, lj_30, lj_31, lj_32, lj_33, lj_34, lj_35, lj_36, lj_37, lj_38, lj_39, lj_40, lj_48, lj_50, lj_57, lj_59, lj_60, lj_63, lj_64, lj_65, lj_90, lj_96, lj_97, lj_99, lj_100, lj_101, lj_105, lj_112, lj_114, lj_116, lj_119, lj_122, lj_128, lj_200, lj_255, lj_256, lj_500, lj_777, lj_1000, hW.1, w, rf, h3] | (refine br_c (fun _ => ?_) (fun _ => ?_) <;> try (exfalso; omega)) | (refine br_d (fun _ => ?_) (fun _ => ?_) <;> try (exfalso; omega)) | refine And.intro ?_ ?_ | (refine Nat.ne_of_gt ?_; omega))
  all_goals exact kk
end JRI
