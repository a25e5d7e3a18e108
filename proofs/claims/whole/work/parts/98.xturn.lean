/-! parted: turning; the class -/
section JPK
variable {d L t : Nat} {μ : jMem} {Q : jQ} {T : jT} {a b : Nat}
def tS0 (a b : Nat) : Nat → Option Nat := fun j => if j = a then some b else if j = b then some a else none
def gTu (T : jT) (a b : Nat) : Prop := tuE T (tS0 a b)
def tGc (T : jT) (a b : Nat) (G : Nat → Nat → Prop) : Prop := G a b ∧ G b a ∧ ∀ p q k, p < tP T → q < tP T → k < 4 → G p q → oOp T p k → oOp T q k → G (tLe T p k) (tLe T q k)
def tCl (T : jT) (pu : Nat → Option Nat) (p q k : Nat) : Prop := (oOp T p k ↔ oOp T q k) ∧ (oOp T p k → pu (tLe T p k) = some (tLe T q k))
def aP (T : jT) (a b : Nat) (pu : Nat → Option Nat) (qu : Nat → Nat) (n i c k : Nat) : Prop := (∀ j, j < n → qu j / 8 < tP T ∧ qu j % 8 < tP T ∧ (∀ G, tGc T a b G → G (qu j / 8) (qu j % 8)) ∧ pu (qu j / 8) = some (qu j % 8)) ∧ (∀ x y, x < 8 → pu x = some y → y < 8 ∧ ∃ m, m < n ∧ qu m = 8 * x + y) ∧ (pu a = some b ∧ pu b = some a) ∧ n = sCt (fun x => (pu x).isSome) 8 ∧ (∀ m k', m < n → k' < 4 → (m < i ∨ (m = i ∧ k' < k)) → tCl T pu (qu m / 8) (qu m % 8) k') ∧ ∀ m, m < n → m < c → tSi T (qu m / 8) = tSi T (qu m % 8)
variable {pu : Nat → Option Nat} {qu : Nat → Nat} {n i c k P q0 : Nat}
theorem oOp_k (hK : jTok T) {p k : Nat} (hp : p < tP T) (h : oOp T p k) : k < 4 := by
  have := (hK.2.1 p hp).2.2.2
  have := h.1
  omega
theorem tLe_ne (hK : jTok T) {p k : Nat} (hp : p < tP T) (h : k < tD T p) : tLe T p k ≠ p := by
  have h1 := hK.2.2.1 p k hp h
  have h2 := (hK.2.2.2 _ h1.1).2.2.2.1
  unfold tLe
  by_cases e : tO T (tL T p k) = p
  · rw [if_pos e]
    intro y
    exact h2 (e.trans y.symm)
  · rw [if_neg e]
    exact e
theorem oOp_rev (hK : jTok T) {p k : Nat} (hp : p < tP T) (h : oOp T p k) : ∃ k', k' < 4 ∧ oOp T (tLe T p k) k' ∧ tLe T (tLe T p k) k' = p := by
  have h1 := hK.2.2.1 p k hp h.1
  obtain ⟨l1, l2, l3, l4, ⟨k1, k2, k3⟩, j1, j2, j3⟩ := hK.2.2.2 _ h1.1
  by_cases c1 : tO T (tL T p k) = p
  · have e2 : tLe T p k = tQ T (tL T p k) := by
      unfold tLe
      rw [if_pos c1]
    have d4 := (hK.2.1 _ l3).2.2.2
    refine ⟨j1, by omega, ?_, ?_⟩
    · rw [e2]
      exact ⟨j2, by rw [j3]; exact h.2⟩
    · rw [e2]
      unfold tLe
      rw [j3, if_neg l4]
      exact c1
  · have c2 : tQ T (tL T p k) = p := h1.2.resolve_left c1
    have e2 : tLe T p k = tO T (tL T p k) := by
      unfold tLe
      rw [if_neg c1]
    have d4 := (hK.2.1 _ l2).2.2.2
    refine ⟨k1, by omega, ?_, ?_⟩
    · rw [e2]
      exact ⟨k2, by rw [k3]; exact h.2⟩
    · rw [e2]
      unfold tLe
      rw [k3, if_pos rfl]
      exact c2
theorem tA_op {p k : Nat} (h : oOp T p k) : tA T p (k + 1) = tLe T p k := by
  unfold tA
  rw [if_pos ⟨by omega, h⟩]
  rfl
theorem tA_no {p k : Nat} (h : ¬ oOp T p k) : tA T p (k + 1) = p := by
  unfold tA
  exact if_neg (fun y => h y.2)
theorem gTu_r (hne : a ≠ b) (ha : a < tP T) (hb : b < tP T) (h : gTu T a b) : ∃ r, tuF T r ∧ r a = b ∧ r b = a := by
  obtain ⟨r, h1, h2⟩ := h
  refine ⟨r, h1, h2 a b ha (if_pos rfl), h2 b a hb ?_⟩
  show (if b = a then some b else if b = b then some a else none) = some a
  rw [if_neg (fun y => hne y.symm), if_pos rfl]
theorem tGc_r {r : Nat → Nat} (ha : a < tP T) (hb : b < tP T) (h : tuF T r) (e1 : r a = b) (e2 : r b = a) (hK : jTok T) : tGc T a b (fun p q => p < tP T ∧ r p = q) :=
  ⟨⟨ha, e1⟩, ⟨hb, e2⟩, fun p q k hp _ hk hg ho _ => ⟨tLe_lt hK hp ho.1, by
    rw [← hg.2]
    exact ((h.1 p hp).2.2 k hk).2 ho⟩⟩
theorem aP_r {r : Nat → Nat} (hK : jTok T) (ha : a < tP T) (hb : b < tP T) (hr : tuF T r) (e1 : r a = b) (e2 : r b = a) (h : aP T a b pu qu n i c k) {j : Nat} (hj : j < n) : r (qu j / 8) = qu j % 8 := ((h.1 j hj).2.2.1 _ (tGc_r ha hb hr e1 e2 hK)).2
theorem aP_nosi (hK : jTok T) (ha : a < tP T) (hb : b < tP T) (hne : a ≠ b) (h : aP T a b pu qu n i c k) (hi : i < n) (hs : tSi T (qu i / 8) ≠ tSi T (qu i % 8)) : ¬ gTu T a b := fun g => by
  obtain ⟨r, r1, r2, r3⟩ := gTu_r hne ha hb g
  have e := aP_r hK ha hb r1 r2 r3 h hi
  have := (r1.1 _ (h.1 i hi).1).2.1
  rw [e] at this
  exact hs this
theorem aP_noop (hK : jTok T) (ha : a < tP T) (hb : b < tP T) (hne : a ≠ b) (h : aP T a b pu qu n i c k) (hi : i < n) (hk : k < 4) (hs : ¬ (oOp T (qu i / 8) k ↔ oOp T (qu i % 8) k)) : ¬ gTu T a b := fun g => by
  obtain ⟨r, r1, r2, r3⟩ := gTu_r hne ha hb g
  have e := aP_r hK ha hb r1 r2 r3 h hi
  have := ((r1.1 _ (h.1 i hi).1).2.2 k hk).1
  rw [e] at this
  exact hs this
theorem aP_nopu (hK : jTok T) (ha : a < tP T) (hb : b < tP T) (hne : a ≠ b) (h : aP T a b pu qu n i c k) (hi : i < n) (hk : k < 4) (ho : oOp T (qu i / 8) k) {z : Nat} (hz : pu (tLe T (qu i / 8) k) = some z) (hs : z ≠ tLe T (qu i % 8) k) : ¬ gTu T a b := fun g => by
  obtain ⟨r, r1, r2, r3⟩ := gTu_r hne ha hb g
  have e := aP_r hK ha hb r1 r2 r3 h hi
  have e2 := ((r1.1 _ (h.1 i hi).1).2.2 k hk).2 ho
  have h8 := hK.1.1
  have hx := tLe_lt hK (h.1 i hi).1 ho.1
  rw [e] at e2
  obtain ⟨z8, m, m1, m2⟩ := h.2.1 _ z (by omega) hz
  have e3 := aP_r hK ha hb r1 r2 r3 h m1
  have f1 : qu m / 8 = tLe T (qu i / 8) k := by omega
  have f2 : qu m % 8 = z := by omega
  rw [f1, f2, e2] at e3
  exact hs e3.symm
theorem aP_next (h : aP T a b pu qu n i c k) (hn : tCl T pu (qu i / 8) (qu i % 8) k) : aP T a b pu qu n i c (k + 1) := by
  obtain ⟨h1, h2, h3, h4, h5, h6⟩ := h
  refine ⟨h1, h2, h3, h4, fun m k' hm hk' hb => ?_, h6⟩
  by_cases e : m = i ∧ k' = k
  · rw [e.1, e.2]
    exact hn
  · exact h5 m k' hm hk' (by omega)
theorem aP_end (h : aP T a b pu qu n i c 4) : aP T a b pu qu n (i + 1) c 0 := by
  obtain ⟨h1, h2, h3, h4, h5, h6⟩ := h
  exact ⟨h1, h2, h3, h4, fun m k' hm hk' hb => h5 m k' hm hk' (by omega), h6⟩
theorem aP_si (h : aP T a b pu qu n i i k) (hs : tSi T (qu i / 8) = tSi T (qu i % 8)) : aP T a b pu qu n i (i + 1) k := by
  obtain ⟨h1, h2, h3, h4, h5, h6⟩ := h
  refine ⟨h1, h2, h3, h4, h5, fun m hm hb => ?_⟩
  by_cases e : m = i
  · rw [e]
    exact hs
  · exact h6 m hm (by omega)
theorem sC8 {f : Nat → Bool} {j : Nat} (hj : j < 8) (h : f j = false) : sCt f 8 < 8 := by
  have h1 := sCt_le f 8
  rcases Nat.lt_or_ge (sCt f 8) 8 with z | z
  · exact z
  · have := sCt_all (f := f) 8 (by omega) j hj
    rw [h] at this
    cases this
theorem aP_new (hK : jTok T) {x y : Nat} (hx : x < tP T) (hy : y < tP T) (hn : pu x = none) (hg : ∀ G, tGc T a b G → G x y) (hin : i < n) (hc : c ≤ i + 1) (h : aP T a b pu qu n i c k) : aP T a b (tuU pu x y) (fun j => if j = n then 8 * x + y else qu j) (n + 1) i c k := by
  have h8 := hK.1.1
  obtain ⟨h1, h2, h3, h4, h5, h6⟩ := h
  have keep : ∀ {j z : Nat}, pu j = some z → tuU pu x y j = some z := fun {j z} e => by
    rw [tuU_n]
    · exact e
    · intro e2
      rw [e2, hn] at e
      cases e
  have f1 : (8 * x + y) / 8 = x := by omega
  have f2 : (8 * x + y) % 8 = y := by omega
  refine ⟨fun j hj => ?_, fun u v hu hv => ?_, ⟨keep h3.1, keep h3.2⟩, ?_, fun m k' hm hk' hb => ?_, fun m hm hb => ?_⟩
  · by_cases e : j = n
    · simp only [if_pos e, f1, f2]
      exact ⟨hx, hy, hg, tuU_s⟩
    · simp only [if_neg e]
      obtain ⟨y1, y2, y3, y4⟩ := h1 j (by omega)
      exact ⟨y1, y2, y3, keep y4⟩
  · by_cases e : u = x
    · rw [e, tuU_s] at hv
      cases hv
      exact ⟨by omega, n, by omega, (if_pos rfl).trans (by rw [e])⟩
    · rw [tuU_n e] at hv
      obtain ⟨z1, m, m1, m2⟩ := h2 u v hu hv
      exact ⟨z1, m, by omega, (if_neg (by omega)).trans m2⟩
  · have := sCt_up (f := fun x => (pu x).isSome) (g := fun u => (tuU pu x y u).isSome) (j := x) (by simp [hn]) (fun u => by
      by_cases e : u = x
      · rw [if_pos e, e, tuU_s]
        rfl
      · rw [if_neg e, tuU_n e]) 8
    rw [if_pos (by omega)] at this
    omega
  · by_cases e : m = n
    · exfalso
      omega
    · simp only [if_neg e]
      obtain ⟨z1, z2⟩ := h5 m k' (by omega) hk' hb
      exact ⟨z1, fun z => keep (z2 z)⟩
  · by_cases e : m = n
    · exfalso
      omega
    · simp only [if_neg e]
      exact h6 m (by omega) hb
theorem aP_fin (hK : jTok T) (ha : a < tP T) (hb : b < tP T) (hne : a ≠ b) (h : aP T a b pu qu n i i 0) (hn : n ≤ i) : gTu T a b := by
  obtain ⟨h1, h2, h3, h4, h5, h6⟩ := h
  have h8 := hK.1.1
  have key : ∀ p q, p < tP T → pu p = some q → q < tP T ∧ tSi T p = tSi T q ∧ (∀ k, k < 4 → tCl T pu p q k) ∧ ∀ G, tGc T a b G → G p q := fun p q hp e => by
    obtain ⟨z1, m, m1, m2⟩ := h2 p q (by omega) e
    have f1 : qu m / 8 = p := by omega
    have f2 : qu m % 8 = q := by omega
    obtain ⟨g1, g2, g3, g4⟩ := h1 m m1
    have g6 := h6 m m1 (by omega)
    have g5 := fun k hk => h5 m k m1 hk (Or.inl (by omega))
    rw [f1, f2] at g3 g5 g6
    rw [f2] at g2
    exact ⟨g2, g6, g5, g3⟩
  have swap : ∀ p q, p < tP T → pu p = some q → pu q = some p := fun p q hp e => (key p q hp e).2.2.2 (fun p q => pu q = some p) ⟨h3.2, h3.1, fun p q k _ hq hk hg ho1 ho2 => ((key q p hq hg).2.2.1 k hk).2 ho2⟩
  have dom : ∀ p k, p < tP T → pu p = none → oOp T p k → pu (tLe T p k) = none := fun p k hp hn ho => by
    cases e : pu (tLe T p k) with
    | none => rfl
    | some y =>
      obtain ⟨k', y1, y2, y3⟩ := oOp_rev hK hp ho
      have := ((key _ y (tLe_lt hK hp ho.1) e).2.2.1 k' y1).2 y2
      rw [y3, hn] at this
      cases this
  refine ⟨fun p => (pu p).getD p, ⟨fun p hp => ?_, fun p q hp hq e => ?_⟩, fun j z hj e => ?_⟩
  · cases e : pu p with
    | none =>
      refine ⟨by simpa [e] using hp, by simp [e], fun k hk => ⟨by simp [e], fun ho => ?_⟩⟩
      have := dom p k hp e ho
      simp [e, this]
    | some q =>
      obtain ⟨k1, k2, k3, k4⟩ := key p q hp e
      refine ⟨by simpa [e] using k1, by simpa [e] using k2, fun k hk => ⟨by simpa [e] using (k3 k hk).1, fun ho => ?_⟩⟩
      have := (k3 k hk).2 ho
      simp [e, this]
  · have e : (pu p).getD p = (pu q).getD q := e
    cases e1 : pu p with
    | none =>
      cases e2 : pu q with
      | none =>
        rw [e1, e2] at e
        exact e
      | some y =>
        rw [e1, e2] at e
        have e : p = y := e
        subst e
        have := swap q p hq e2
        rw [e1] at this
        cases this
    | some x =>
      cases e2 : pu q with
      | none =>
        rw [e1, e2] at e
        have e : x = q := e
        subst e
        have := swap p x hp e1
        rw [e2] at this
        cases this
      | some y =>
        rw [e1, e2] at e
        have e : x = y := e
        subst e
        have z1 := swap p x hp e1
        have z2 := swap q x hq e2
        rw [z1] at z2
        cases z2
        rfl
  · have e : (if j = a then some b else if j = b then some a else none) = some z := e
    by_cases c1 : j = a
    · rw [if_pos c1] at e
      have e := Option.some.inj e
      show (pu j).getD j = z
      rw [c1, h3.1]
      exact e
    · rw [if_neg c1] at e
      by_cases c2 : j = b
      · rw [if_pos c2] at e
        have e := Option.some.inj e
        show (pu j).getD j = z
        rw [c2, h3.2]
        exact e
      · rw [if_neg c2] at e
        cases e
def aMp (pu : Nat → Option Nat) (qu : Nat → Nat) (n : Nat) (ν : jMem) : Prop := (∀ j, j < 8 → gI ν 47 j = oI (pu j)) ∧ (∀ j, j < n → gI ν 46 j = nI (qu j)) ∧ gI ν 43 3 = nI n
theorem aMp_new {x y : Nat} {ν : jMem} (h : aMp pu qu n ν) : aMp (tuU pu x y) (fun j => if j = n then 8 * x + y else qu j) (n + 1) (sI (sI (sI ν 47 x (nI y)) 46 n (nI (8 * x + y))) 43 3 (nI (n + 1))) := by
  obtain ⟨h1, h2, h3⟩ := h
  refine ⟨fun j hj => ?_, fun j hj => ?_, ?_⟩
  · rw [gI_sI, if_neg (by omega), gI_sI, if_neg (by omega), gI_sI]
    by_cases e : j = x
    · rw [if_pos ⟨rfl, e⟩, e, tuU_s]
      rfl
    · rw [if_neg (fun z => e z.2), tuU_n e]
      exact h1 j hj
  · show gI (sI (sI (sI ν 47 x (nI y)) 46 n (nI (8 * x + y))) 43 3 (nI (n + 1))) 46 j = nI (if j = n then 8 * x + y else qu j)
    rw [gI_sI, if_neg (by omega), gI_sI]
    by_cases e : j = n
    · rw [if_pos ⟨rfl, e⟩, if_pos e]
    · rw [if_neg (fun z => e z.2), if_neg e, gI_sI, if_neg (by omega)]
      exact h2 j (by omega)
  · rw [gI_sI, if_pos ⟨rfl, rfl⟩]
theorem sp_opens1 {p k : Nat} (hW : jWd L t μ) (hK : jTok T) (hX : jTX T t μ) (hp : p < tP T) (ho : oOp T p k) (h : Q (some (.int (nI (tLe T p k)))) μ) : jC (d + 2) 89 [.ref t, .int (nI p), .int (nI k)] μ Q := by
  have h8 := hK.1.1
  have k4 := oOp_k hK hp ho
  have hy := tLe_lt hK hp ho.1
  have ne := eq_false (tLe_ne hK hp ho.1)
  have w0 := (jWs hW).1
  have af : ∀ (d : Nat) (Q' : jQ), Q' (some (.int (nI (tLe T p k)))) μ → jC (d + 1) 92 [.ref t, .int (nI p), .int (nI (k + 1))] μ Q' := fun d Q' kk => sp_after hW hK hX hp (by omega) (by rw [tA_op ho]; exact kk)
  generalize tLe T p k = Y at *
  refine e89 (b89_0 ?_)
  repeat' (first | refine b89_18 ?_ | refine b89_19 ?_ | refine af _ _ ?_ | dsimp only [jb_e0, jb_ec, jb_n, jb_c, jx_op, j1i_c, j2i_c, j1l_c, j2l_c, jil_c, j1r_c, jri_c, jrii_c, jril_c, jrl_c, jrr_c, j2i'_c, jdup_i, jdup_r, jdup2_c, jdup2_l, jpo_c, jli, jll, jlr, jat_0, jat_s, jst, jst2, jkill_i, jkill_r, jkill_l, jkill_n, jnone, jgv_0, jgv_1, jgv_2, jgv_3, jrv_s, jput_0, jput_1, jput_2, jput_3, jpop_0, jpop_1, jcl_s, jc1, jc2, jvi, Nat.reduceAdd, jol_i, jol_l, jol_n, jap_n, jap_c, List.map_cons, List.map_nil, List.sum_cons, List.sum_nil, jcI, jcL, jcR, gI_sI, gI_sL, gI_sR, gL_sI, gL_sL, gL_sR, gR_sI, gR_sL, gR_sR, gS_sI, gS_sL, gS_sR, gN_sI, gN_sL, gN_sR] | simp (disch := omega) only [Nat.zero_le, true_and, and_true, and_self, Nat.reduceLeDiff, true_or, or_true, false_or, or_false, Nat.reduceEqDiff, false_and, and_false, if_false, if_true, reduceIte, not_true_eq_false, not_false_eq_true, true_imp_iff, false_imp_iff, List.map_cons, List.map_nil, List.sum_cons, List.sum_nil, jcI, jcL, jcR, Nat.reduceAdd, jrv_s, j1r_c, jap_n, jap_c, gI_sI, gL_sL, gI_sL, gL_sI, an_lt, an_le, an_eq, an_lt0, an_0le, an_0lt, an_le0, an_eq0, an_eq1, an_1lt, an_le1, an_1le, an_lt1, an_eqm, an_sub, an_sub1, an_div, an_rem, an_in, an_in0, an_in1, an_cl, an_cl0, an_cl1, nI_add, nI_1, an_1a, pk_mul, Nat.reduceMul, jz10, jz01, j00, j11, jb0, Classical.not_not, eq_self, an_ite, an_of, an_nm, nI_l, lN_add, lN_mul, lN_i, lj_2, lj_3, lj_4, lj_5, lj_6, lj_7, lj_8, lj_9, lj_10, lj_11, lj_12, lj_13, lj_14, lj_15, lj_16, lj_17, lj_18, lj_19, lj_20, lj_21, lj_22, lj_23, lj_24, lj_25, lj_26, lj_27, lj_28, lj_29, lj_30, lj_31, lj_32, lj_33, lj_34, lj_35, lj_36, lj_37, lj_38, lj_39, lj_40, lj_48, lj_50, lj_57, lj_59, lj_60, lj_63, lj_64, lj_65, lj_90, lj_96, lj_97, lj_99, lj_100, lj_101, lj_105, lj_112, lj_114, lj_116, lj_119, lj_122, lj_128, lj_200, lj_255, lj_256, lj_500, lj_777, lj_1000, hW.1, w0, ne] | (refine br_c (fun _ => ?_) (fun _ => ?_) <;> try (exfalso; omega)) | (refine br_d (fun _ => ?_) (fun _ => ?_) <;> try (exfalso; omega)) | refine And.intro ?_ ?_ | (refine Nat.ne_of_gt ?_; omega))
  all_goals exact h
theorem sp_opens0 {p k : Nat} (hW : jWd L t μ) (hK : jTok T) (hX : jTX T t μ) (hp : p < tP T) (hk : k < 4) (ho : ¬ oOp T p k) (h : Q (some (.int (-1))) μ) : jC (d + 2) 89 [.ref t, .int (nI p), .int (nI k)] μ Q := by
  have h8 := hK.1.1
  have w0 := (jWs hW).1
  have af : ∀ (d : Nat) (Q' : jQ), Q' (some (.int (nI p))) μ → jC (d + 1) 92 [.ref t, .int (nI p), .int (nI (k + 1))] μ Q' := fun d Q' kk => sp_after hW hK hX hp (by omega) (by rw [tA_no ho]; exact kk)
  refine e89 (b89_0 ?_)
  repeat' (first | refine b89_18 ?_ | refine b89_19 ?_ | refine af _ _ ?_ | dsimp only [jb_e0, jb_ec, jb_n, jb_c, jx_op, j1i_c, j2i_c, j1l_c, j2l_c, jil_c, j1r_c, jri_c, jrii_c, jril_c, jrl_c, jrr_c, j2i'_c, jdup_i, jdup_r, jdup2_c, jdup2_l, jpo_c, jli, jll, jlr, jat_0, jat_s, jst, jst2, jkill_i, jkill_r, jkill_l, jkill_n, jnone, jgv_0, jgv_1, jgv_2, jgv_3, jrv_s, jput_0, jput_1, jput_2, jput_3, jpop_0, jpop_1, jcl_s, jc1, jc2, jvi, Nat.reduceAdd, jol_i, jol_l, jol_n, jap_n, jap_c, List.map_cons, List.map_nil, List.sum_cons, List.sum_nil, jcI, jcL, jcR, gI_sI, gI_sL, gI_sR, gL_sI, gL_sL, gL_sR, gR_sI, gR_sL, gR_sR, gS_sI, gS_sL, gS_sR, gN_sI, gN_sL, gN_sR] | simp (disch := omega) only [Nat.zero_le, true_and, and_true, and_self, Nat.reduceLeDiff, true_or, or_true, false_or, or_false, Nat.reduceEqDiff, false_and, and_false, if_false, if_true, reduceIte, not_true_eq_false, not_false_eq_true, true_imp_iff, false_imp_iff, List.map_cons, List.map_nil, List.sum_cons, List.sum_nil, jcI, jcL, jcR, Nat.reduceAdd, jrv_s, j1r_c, jap_n, jap_c, gI_sI, gL_sL, gI_sL, gL_sI, an_lt, an_le, an_eq, an_lt0, an_0le, an_0lt, an_le0, an_eq0, an_eq1, an_1lt, an_le1, an_1le, an_lt1, an_eqm, an_sub, an_sub1, an_div, an_rem, an_in, an_in0, an_in1, an_cl, an_cl0, an_cl1, nI_add, nI_1, an_1a, pk_mul, Nat.reduceMul, jz10, jz01, j00, j11, jb0, Classical.not_not, eq_self, an_ite, an_of, an_nm, nI_l, lN_add, lN_mul, lN_i, lj_2, lj_3, lj_4, lj_5, lj_6, lj_7, lj_8, lj_9, lj_10, lj_11, lj_12, lj_13, lj_14, lj_15, lj_16, lj_17, lj_18, lj_19, lj_20, lj_21, lj_22, lj_23, lj_24, lj_25, lj_26, lj_27, lj_28, lj_29, lj_30, lj_31, lj_32, lj_33, lj_34, lj_35, lj_36, lj_37, lj_38, lj_39, lj_40, lj_48, lj_50, lj_57, lj_59, lj_60, lj_63, lj_64, lj_65, lj_90, lj_96, lj_97, lj_99, lj_100, lj_101, lj_105, lj_112, lj_114, lj_116, lj_119, lj_122, lj_128, lj_200, lj_255, lj_256, lj_500, lj_777, lj_1000, hW.1, w0] | (refine br_c (fun _ => ?_) (fun _ => ?_) <;> try (exfalso; omega)) | (refine br_d (fun _ => ?_) (fun _ => ?_) <;> try (exfalso; omega)) | refine And.intro ?_ ?_ | (refine Nat.ne_of_gt ?_; omega))
  all_goals exact h
theorem sp_putW {x y : Nat} {v : Int32} {ν : jMem} (hW : jWd L t μ) (hx : x < 8) (hy : y < 8) (hv : v = 0 ∨ v = 1) (h : ∀ Q' : jQ, Q' (some (.int v)) ν → jC d 25 [.ref 43, .int (nI x), .int (nI y)] μ Q') (kk : Q (some (.int v)) ν) : jC (d + 1) 24 [.ref 43, .int (nI x), .int (nI y)] μ Q := by
  refine e24 (b24_0 ?_)
  rcases hv with rfl | rfl
  · repeat' (first | refine b24_10 ?_ | refine b24_19 ?_ | refine b24_20 ?_ | refine b24_21 ?_ | refine h _ ?_ | dsimp only [jb_e0, jb_ec, jb_n, jb_c, jx_op, j1i_c, j2i_c, j1l_c, j2l_c, jil_c, j1r_c, jri_c, jrii_c, jril_c, jrl_c, jrr_c, j2i'_c, jdup_i, jdup_r, jdup2_c, jdup2_l, jpo_c, jli, jll, jlr, jat_0, jat_s, jst, jst2, jkill_i, jkill_r, jkill_l, jkill_n, jnone, jgv_0, jgv_1, jgv_2, jgv_3, jrv_s, jput_0, jput_1, jput_2, jput_3, jpop_0, jpop_1, jcl_s, jc1, jc2, jvi, Nat.reduceAdd, jol_i, jol_l, jol_n, jap_n, jap_c, List.map_cons, List.map_nil, List.sum_cons, List.sum_nil, jcI, jcL, jcR, gI_sI, gI_sL, gI_sR, gL_sI, gL_sL, gL_sR, gR_sI, gR_sL, gR_sR, gS_sI, gS_sL, gS_sR, gN_sI, gN_sL, gN_sR] | simp (disch := omega) only [Nat.zero_le, true_and, and_true, and_self, Nat.reduceLeDiff, true_or, or_true, false_or, or_false, Nat.reduceEqDiff, false_and, and_false, if_false, if_true, reduceIte, not_true_eq_false, not_false_eq_true, true_imp_iff, false_imp_iff, List.map_cons, List.map_nil, List.sum_cons, List.sum_nil, jcI, jcL, jcR, Nat.reduceAdd, jrv_s, j1r_c, jap_n, jap_c, gI_sI, gL_sL, gI_sL, gL_sI, an_lt, an_le, an_eq, an_lt0, an_0le, an_0lt, an_le0, an_eq0, an_eq1, an_1lt, an_le1, an_1le, an_lt1, an_eqm, an_sub, an_sub1, an_div, an_rem, an_in, an_in0, an_in1, an_cl, an_cl0, an_cl1, nI_add, nI_1, an_1a, pk_mul, Nat.reduceMul, jz10, jz01, j00, j11, jb0, Classical.not_not, eq_self, an_ite, an_of, an_nm, nI_l, lN_add, lN_mul, lN_i, lj_2, lj_3, lj_4, lj_5, lj_6, lj_7, lj_8, lj_9, lj_10, lj_11, lj_12, lj_13, lj_14, lj_15, lj_16, lj_17, lj_18, lj_19, lj_20, lj_21, lj_22, lj_23, lj_24, lj_25, lj_26, lj_27, lj_28, lj_29, lj_30, lj_31, lj_32, lj_33, lj_34, lj_35, lj_36, lj_37, lj_38, lj_39, lj_40, lj_48, lj_50, lj_57, lj_59, lj_60, lj_63, lj_64, lj_65, lj_90, lj_96, lj_97, lj_99, lj_100, lj_101, lj_105, lj_112, lj_114, lj_116, lj_119, lj_122, lj_128, lj_200, lj_255, lj_256, lj_500, lj_777, lj_1000, hW.1, jS0_43] | (refine br_c (fun _ => ?_) (fun _ => ?_) <;> try (exfalso; omega)) | (refine br_d (fun _ => ?_) (fun _ => ?_) <;> try (exfalso; omega)) | refine And.intro ?_ ?_ | (refine Nat.ne_of_gt ?_; omega))
    all_goals exact kk
  · repeat' (first | refine b24_10 ?_ | refine b24_19 ?_ | refine b24_20 ?_ | refine b24_21 ?_ | refine h _ ?_ | dsimp only [jb_e0, jb_ec, jb_n, jb_c, jx_op, j1i_c, j2i_c, j1l_c, j2l_c, jil_c, j1r_c, jri_c, jrii_c, jril_c, jrl_c, jrr_c, j2i'_c, jdup_i, jdup_r, jdup2_c, jdup2_l, jpo_c, jli, jll, jlr, jat_0, jat_s, jst, jst2, jkill_i, jkill_r, jkill_l, jkill_n, jnone, jgv_0, jgv_1, jgv_2, jgv_3, jrv_s, jput_0, jput_1, jput_2, jput_3, jpop_0, jpop_1, jcl_s, jc1, jc2, jvi, Nat.reduceAdd, jol_i, jol_l, jol_n, jap_n, jap_c, List.map_cons, List.map_nil, List.sum_cons, List.sum_nil, jcI, jcL, jcR, gI_sI, gI_sL, gI_sR, gL_sI, gL_sL, gL_sR, gR_sI, gR_sL, gR_sR, gS_sI, gS_sL, gS_sR, gN_sI, gN_sL, gN_sR] | simp (disch := omega) only [Nat.zero_le, true_and, and_true, and_self, Nat.reduceLeDiff, true_or, or_true, false_or, or_false, Nat.reduceEqDiff, false_and, and_false, if_false, if_true, reduceIte, not_true_eq_false, not_false_eq_true, true_imp_iff, false_imp_iff, List.map_cons, List.map_nil, List.sum_cons, List.sum_nil, jcI, jcL, jcR, Nat.reduceAdd, jrv_s, j1r_c, jap_n, jap_c, gI_sI, gL_sL, gI_sL, gL_sI, an_lt, an_le, an_eq, an_lt0, an_0le, an_0lt, an_le0, an_eq0, an_eq1, an_1lt, an_le1, an_1le, an_lt1, an_eqm, an_sub, an_sub1, an_div, an_rem, an_in, an_in0, an_in1, an_cl, an_cl0, an_cl1, nI_add, nI_1, an_1a, pk_mul, Nat.reduceMul, jz10, jz01, j00, j11, jb0, Classical.not_not, eq_self, an_ite, an_of, an_nm, nI_l, lN_add, lN_mul, lN_i, lj_2, lj_3, lj_4, lj_5, lj_6, lj_7, lj_8, lj_9, lj_10, lj_11, lj_12, lj_13, lj_14, lj_15, lj_16, lj_17, lj_18, lj_19, lj_20, lj_21, lj_22, lj_23, lj_24, lj_25, lj_26, lj_27, lj_28, lj_29, lj_30, lj_31, lj_32, lj_33, lj_34, lj_35, lj_36, lj_37, lj_38, lj_39, lj_40, lj_48, lj_50, lj_57, lj_59, lj_60, lj_63, lj_64, lj_65, lj_90, lj_96, lj_97, lj_99, lj_100, lj_101, lj_105, lj_112, lj_114, lj_116, lj_119, lj_122, lj_128, lj_200, lj_255, lj_256, lj_500, lj_777, lj_1000, hW.1, jS0_43] | (refine br_c (fun _ => ?_) (fun _ => ?_) <;> try (exfalso; omega)) | (refine br_d (fun _ => ?_) (fun _ => ?_) <;> try (exfalso; omega)) | refine And.intro ?_ ?_ | (refine Nat.ne_of_gt ?_; omega))
    all_goals exact kk
theorem ap_t (hW : jWd L t μ) (hK : jTok T) (hX : jTX T t μ) {x1 x2 : Int32} (ha : a < tP T) (hb : b < tP T) (hne : a ≠ b) (hP : P < tP T) (hq : q0 < tP T)
    (hy : ¬ gTu T a b → ∀ ν, jFr [43, 46, 47] μ ν → Q (some (.int 0)) ν)
    (h : ∀ ν pu qu n, jFr [43, 46, 47] μ ν → aMp pu qu n ν → aP T a b pu qu n (i + 1) (i + 1) 0 → jR (d + 4) 23 149 [some (.ref 43), some (.ref t), some (.int x1), some (.int x2), some (.int (nI i)), some (.int (nI P)), some (.int (nI q0)), some (.int (nI 4))] [] (0, 0) ν Q) :
    ∀ (m k : Nat) (ν : jMem) (pu : Nat → Option Nat) (qu : Nat → Nat) (n : Nat), k + m = 4 → jFr [43, 46, 47] μ ν → aMp pu qu n ν → i < n → qu i / 8 = P → qu i % 8 = q0 → aP T a b pu qu n i (i + 1) k → jR (d + 4) 23 112 [some (.ref 43), some (.ref t), some (.int x1), some (.int x2), some (.int (nI i)), some (.int (nI P)), some (.int (nI q0)), some (.int (nI k))] [] (0, 0) ν Q := by
  have h8 := hK.1.1
  intro m
  induction m with
  | zero =>
    intro k ν pu qu n hk hF hM hin f1 f2 hb
    obtain rfl : k = 4 := by omega
    have kk := h ν pu qu n hF hM (aP_end hb)
    refine b23_112 ?_
    repeat' (first | refine b23_3 ?_ | refine b23_24 ?_ | refine b23_47 ?_ | refine b23_49 ?_ | refine b23_52 ?_ | refine b23_109 ?_ | refine b23_143 ?_ | refine b23_155 ?_ | dsimp only [jb_e0, jb_ec, jb_n, jb_c, jx_op, j1i_c, j2i_c, j1l_c, j2l_c, jil_c, j1r_c, jri_c, jrii_c, jril_c, jrl_c, jrr_c, j2i'_c, jdup_i, jdup_r, jdup2_c, jdup2_l, jpo_c, jli, jll, jlr, jat_0, jat_s, jst, jst2, jkill_i, jkill_r, jkill_l, jkill_n, jnone, jgv_0, jgv_1, jgv_2, jgv_3, jrv_s, jput_0, jput_1, jput_2, jput_3, jpop_0, jpop_1, jcl_s, jc1, jc2, jvi, Nat.reduceAdd, jol_i, jol_l, jol_n, jap_n, jap_c, List.map_cons, List.map_nil, List.sum_cons, List.sum_nil, jcI, jcL, jcR, gI_sI, gI_sL, gI_sR, gL_sI, gL_sL, gL_sR, gR_sI, gR_sL, gR_sR, gS_sI, gS_sL, gS_sR, gN_sI, gN_sL, gN_sR] | simp (disch := omega) only [Nat.zero_le, true_and, and_true, and_self, Nat.reduceLeDiff, true_or, or_true, false_or, or_false, Nat.reduceEqDiff, false_and, and_false, if_false, if_true, reduceIte, not_true_eq_false, not_false_eq_true, true_imp_iff, false_imp_iff, List.map_cons, List.map_nil, List.sum_cons, List.sum_nil, jcI, jcL, jcR, Nat.reduceAdd, jrv_s, j1r_c, jap_n, jap_c, gI_sI, gL_sL, gI_sL, gL_sI, an_lt, an_le, an_eq, an_lt0, an_0le, an_0lt, an_le0, an_eq0, an_eq1, an_1lt, an_le1, an_1le, an_lt1, an_eqm, an_sub, an_sub1, an_div, an_rem, an_in, an_in0, an_in1, an_cl, an_cl0, an_cl1, nI_add, nI_1, an_1a, pk_mul, Nat.reduceMul, jz10, jz01, j00, j11, jb0, Classical.not_not, eq_self, an_ite, an_of, an_nm, nI_l, lN_add, lN_mul, lN_i, lj_2, lj_3, lj_4, lj_5, lj_6, lj_7, lj_8, lj_9, lj_10, lj_11, lj_12, lj_13, lj_14, lj_15, lj_16, lj_17, lj_18, lj_19, lj_20, lj_21, lj_22, lj_23, lj_24, lj_25, lj_26, lj_27, lj_28, lj_29, lj_30, lj_31, lj_32, lj_33, lj_34, lj_35, lj_36, lj_37, lj_38, lj_39, lj_40, lj_48, lj_50, lj_57, lj_59, lj_60, lj_63, lj_64, lj_65, lj_90, lj_96, lj_97, lj_99, lj_100, lj_101, lj_105, lj_112, lj_114, lj_116, lj_119, lj_122, lj_128, lj_200, lj_255, lj_256, lj_500, lj_777, lj_1000] | (refine br_c (fun _ => ?_) (fun _ => ?_) <;> try (exfalso; omega)) | (refine br_d (fun _ => ?_) (fun _ => ?_) <;> try (exfalso; omega)) | refine And.intro ?_ ?_ | (refine Nat.ne_of_gt ?_; omega))
    all_goals exact kk
  | succ m ih =>
    intro k ν pu qu n hk hF hM hin f1 f2 hA
    have hWν := hF.wd hW
    have w0 := (jWs hWν).1
    have hXν := jTX_fr (by decide) hW hF hX
    have hk4 : k < 4 := by omega
    refine b23_112 ?_
    by_cases c1 : oOp T P k <;> by_cases c2 : oOp T q0 k
    · have o1 : ∀ (d : Nat) (Q' : jQ), Q' (some (.int (nI (tLe T P k)))) ν → jC (d + 2) 89 [.ref t, .int (nI P), .int (nI k)] ν Q' := fun d Q' kq => sp_opens1 hWν hK hXν hP c1 kq
      have o2 : ∀ (d : Nat) (Q' : jQ), Q' (some (.int (nI (tLe T q0 k)))) ν → jC (d + 2) 89 [.ref t, .int (nI q0), .int (nI k)] ν Q' := fun d Q' kq => sp_opens1 hWν hK hXν hq c2 kq
      have hx := tLe_lt hK hP c1.1
      have hy2 := tLe_lt hK hq c2.1
      have ex := hM.1 (tLe T P k) (by omega)
      cases hz : pu (tLe T P k) with
      | some z =>
        rw [hz] at ex
        have ex : gI ν 47 (tLe T P k) = nI z := ex
        have hz8 := (hA.2.1 _ z (by omega) hz).1
        by_cases cz : z = tLe T q0 k
        · have pw : ∀ (d : Nat) (Q' : jQ), Q' (some (.int 1)) ν → jC (d + 1) 24 [.ref 43, .int (nI (tLe T P k)), .int (nI (tLe T q0 k))] ν Q' := fun d Q' kq => sp_putW hWν (by omega) (by omega) (Or.inr rfl) (fun Q2 k2 => sp_put1 hWν (by omega) (by omega) hz8 ex (fun _ => k2) (fun y => absurd cz y)) kq
          have kk := ih (k + 1) ν pu qu n (by omega) hF hM hin f1 f2 (aP_next hA ⟨by rw [f1, f2]; exact ⟨fun _ => c2, fun _ => c1⟩, fun _ => by rw [f1, f2, hz, cz]⟩)
          generalize tLe T P k = X at *
          generalize tLe T q0 k = Y at *
          repeat' (first | refine b23_3 ?_ | refine b23_24 ?_ | refine b23_47 ?_ | refine b23_49 ?_ | refine b23_52 ?_ | refine b23_109 ?_ | refine b23_143 ?_ | refine b23_155 ?_ | refine o1 _ _ ?_ | refine o2 _ _ ?_ | refine pw _ _ ?_ | dsimp only [jb_e0, jb_ec, jb_n, jb_c, jx_op, j1i_c, j2i_c, j1l_c, j2l_c, jil_c, j1r_c, jri_c, jrii_c, jril_c, jrl_c, jrr_c, j2i'_c, jdup_i, jdup_r, jdup2_c, jdup2_l, jpo_c, jli, jll, jlr, jat_0, jat_s, jst, jst2, jkill_i, jkill_r, jkill_l, jkill_n, jnone, jgv_0, jgv_1, jgv_2, jgv_3, jrv_s, jput_0, jput_1, jput_2, jput_3, jpop_0, jpop_1, jcl_s, jc1, jc2, jvi, Nat.reduceAdd, jol_i, jol_l, jol_n, jap_n, jap_c, List.map_cons, List.map_nil, List.sum_cons, List.sum_nil, jcI, jcL, jcR, gI_sI, gI_sL, gI_sR, gL_sI, gL_sL, gL_sR, gR_sI, gR_sL, gR_sR, gS_sI, gS_sL, gS_sR, gN_sI, gN_sL, gN_sR] | simp (disch := omega) only [Nat.zero_le, true_and, and_true, and_self, Nat.reduceLeDiff, true_or, or_true, false_or, or_false, Nat.reduceEqDiff, false_and, and_false, if_false, if_true, reduceIte, not_true_eq_false, not_false_eq_true, true_imp_iff, false_imp_iff, List.map_cons, List.map_nil, List.sum_cons, List.sum_nil, jcI, jcL, jcR, Nat.reduceAdd, jrv_s, j1r_c, jap_n, jap_c, gI_sI, gL_sL, gI_sL, gL_sI, an_lt, an_le, an_eq, an_lt0, an_0le, an_0lt, an_le0, an_eq0, an_eq1, an_1lt, an_le1, an_1le, an_lt1, an_eqm, an_sub, an_sub1, an_div, an_rem, an_in, an_in0, an_in1, an_cl, an_cl0, an_cl1, nI_add, nI_1, an_1a, pk_mul, Nat.reduceMul, jz10, jz01, j00, j11, jb0, Classical.not_not, eq_self, an_ite, an_of, an_nm, nI_l, lN_add, lN_mul, lN_i, lj_2, lj_3, lj_4, lj_5, lj_6, lj_7, lj_8, lj_9, lj_10, lj_11, lj_12, lj_13, lj_14, lj_15, lj_16, lj_17, lj_18, lj_19, lj_20, lj_21, lj_22, lj_23, lj_24, lj_25, lj_26, lj_27, lj_28, lj_29, lj_30, lj_31, lj_32, lj_33, lj_34, lj_35, lj_36, lj_37, lj_38, lj_39, lj_40, lj_48, lj_50, lj_57, lj_59, lj_60, lj_63, lj_64, lj_65, lj_90, lj_96, lj_97, lj_99, lj_100, lj_101, lj_105, lj_112, lj_114, lj_116, lj_119, lj_122, lj_128, lj_200, lj_255, lj_256, lj_500, lj_777, lj_1000, hWν.1, w0, jr_43_0 hWν, jr_43_1 hWν, jr_43_2 hWν, jr_43_4 hWν, hWν.1, jS0_43, jS0_44, jS0_45, jS0_46, jS0_47] | (refine br_c (fun _ => ?_) (fun _ => ?_) <;> try (exfalso; omega)) | (refine br_d (fun _ => ?_) (fun _ => ?_) <;> try (exfalso; omega)) | refine And.intro ?_ ?_ | (refine Nat.ne_of_gt ?_; omega))
          all_goals exact kk
        · have pw : ∀ (d : Nat) (Q' : jQ), Q' (some (.int 0)) ν → jC (d + 1) 24 [.ref 43, .int (nI (tLe T P k)), .int (nI (tLe T q0 k))] ν Q' := fun d Q' kq => sp_putW hWν (by omega) (by omega) (Or.inl rfl) (fun Q2 k2 => sp_put1 hWν (by omega) (by omega) hz8 ex (fun y => absurd y cz) (fun _ => k2)) kq
          have kk := hy (aP_nopu hK ha hb hne hA hin hk4 (by rw [f1]; exact c1) (by rw [f1]; exact hz) (by rw [f2]; exact cz)) ν hF
          generalize tLe T P k = X at *
          generalize tLe T q0 k = Y at *
          repeat' (first | refine b23_3 ?_ | refine b23_24 ?_ | refine b23_47 ?_ | refine b23_49 ?_ | refine b23_52 ?_ | refine b23_109 ?_ | refine b23_143 ?_ | refine b23_155 ?_ | refine o1 _ _ ?_ | refine o2 _ _ ?_ | refine pw _ _ ?_ | dsimp only [jb_e0, jb_ec, jb_n, jb_c, jx_op, j1i_c, j2i_c, j1l_c, j2l_c, jil_c, j1r_c, jri_c, jrii_c, jril_c, jrl_c, jrr_c, j2i'_c, jdup_i, jdup_r, jdup2_c, jdup2_l, jpo_c, jli, jll, jlr, jat_0, jat_s, jst, jst2, jkill_i, jkill_r, jkill_l, jkill_n, jnone, jgv_0, jgv_1, jgv_2, jgv_3, jrv_s, jput_0, jput_1, jput_2, jput_3, jpop_0, jpop_1, jcl_s, jc1, jc2, jvi, Nat.reduceAdd, jol_i, jol_l, jol_n, jap_n, jap_c, List.map_cons, List.map_nil, List.sum_cons, List.sum_nil, jcI, jcL, jcR, gI_sI, gI_sL, gI_sR, gL_sI, gL_sL, gL_sR, gR_sI, gR_sL, gR_sR, gS_sI, gS_sL, gS_sR, gN_sI, gN_sL, gN_sR] | simp (disch := omega) only [Nat.zero_le, true_and, and_true, and_self, Nat.reduceLeDiff, true_or, or_true, false_or, or_false, Nat.reduceEqDiff, false_and, and_false, if_false, if_true, reduceIte, not_true_eq_false, not_false_eq_true, true_imp_iff, false_imp_iff, List.map_cons, List.map_nil, List.sum_cons, List.sum_nil, jcI, jcL, jcR, Nat.reduceAdd, jrv_s, j1r_c, jap_n, jap_c, gI_sI, gL_sL, gI_sL, gL_sI, an_lt, an_le, an_eq, an_lt0, an_0le, an_0lt, an_le0, an_eq0, an_eq1, an_1lt, an_le1, an_1le, an_lt1, an_eqm, an_sub, an_sub1, an_div, an_rem, an_in, an_in0, an_in1, an_cl, an_cl0, an_cl1, nI_add, nI_1, an_1a, pk_mul, Nat.reduceMul, jz10, jz01, j00, j11, jb0, Classical.not_not, eq_self, an_ite, an_of, an_nm, nI_l, lN_add, lN_mul, lN_i, lj_2, lj_3, lj_4, lj_5, lj_6, lj_7, lj_8, lj_9, lj_10, lj_11, lj_12, lj_13, lj_14, lj_15, lj_16, lj_17, lj_18, lj_19, lj_20, lj_21, lj_22, lj_23, lj_24, lj_25, lj_26, lj_27, lj_28, lj_29, lj_30, lj_31, lj_32, lj_33, lj_34, lj_35, lj_36, lj_37, lj_38, lj_39, lj_40, lj_48, lj_50, lj_57, lj_59, lj_60, lj_63, lj_64, lj_65, lj_90, lj_96, lj_97, lj_99, lj_100, lj_101, lj_105, lj_112, lj_114, lj_116, lj_119, lj_122, lj_128, lj_200, lj_255, lj_256, lj_500, lj_777, lj_1000, hWν.1, w0, jr_43_0 hWν, jr_43_1 hWν, jr_43_2 hWν, jr_43_4 hWν, hWν.1, jS0_43, jS0_44, jS0_45, jS0_46, jS0_47] | (refine br_c (fun _ => ?_) (fun _ => ?_) <;> try (exfalso; omega)) | (refine br_d (fun _ => ?_) (fun _ => ?_) <;> try (exfalso; omega)) | refine And.intro ?_ ?_ | (refine Nat.ne_of_gt ?_; omega))
          all_goals exact kk
      | none =>
        rw [hz] at ex
        have ex : gI ν 47 (tLe T P k) = -1 := ex
        have hn8 : n < 8 := by
          have := sC8 (f := fun x => (pu x).isSome) (j := tLe T P k) (by omega) (by simp [hz])
          have := hA.2.2.2.1
          omega
        have hA2 := aP_new hK hx hy2 hz (fun G g => by
          have := g.2.2 P q0 k hP hq hk4 (by
            have := (hA.1 i hin).2.2.1 G g
            rw [f1, f2] at this
            exact this) c1 c2
          exact this) hin (Nat.le_refl _) hA
        have pw : ∀ (d : Nat) (Q' : jQ), Q' (some (.int 1)) (sI (sI (sI ν 47 (tLe T P k) (nI (tLe T q0 k))) 46 n (nI (8 * tLe T P k + tLe T q0 k))) 43 3 (nI (n + 1))) → jC (d + 1) 24 [.ref 43, .int (nI (tLe T P k)), .int (nI (tLe T q0 k))] ν Q' := fun d Q' kq => sp_putW hWν (by omega) (by omega) (Or.inr rfl) (fun Q2 k2 => sp_put0 hWν (by omega) (by omega) (by omega) ex hM.2.2 k2) kq
        have kk := ih (k + 1) _ _ _ (n + 1) (by omega) (((hF.trans (jFr.sI (by simp))).trans (jFr.sI (by simp))).trans (jFr.sI (by simp))) (aMp_new (x := tLe T P k) (y := tLe T q0 k) hM) (by omega) (by rw [if_neg (by omega)]; exact f1) (by rw [if_neg (by omega)]; exact f2) (aP_next hA2 ⟨by
          rw [if_neg (by omega), f1, f2]
          exact ⟨fun _ => c2, fun _ => c1⟩, fun _ => by
          rw [if_neg (by omega), f1, f2]
          exact tuU_s⟩)
        clear hA2 hA
        generalize tLe T P k = X at *
        generalize tLe T q0 k = Y at *
        repeat' (first | refine b23_3 ?_ | refine b23_24 ?_ | refine b23_47 ?_ | refine b23_49 ?_ | refine b23_52 ?_ | refine b23_109 ?_ | refine b23_143 ?_ | refine b23_155 ?_ | refine o1 _ _ ?_ | refine o2 _ _ ?_ | refine pw _ _ ?_ | dsimp only [jb_e0, jb_ec, jb_n, jb_c, jx_op, j1i_c, j2i_c, j1l_c, j2l_c, jil_c, j1r_c, jri_c, jrii_c, jril_c, jrl_c, jrr_c, j2i'_c, jdup_i, jdup_r, jdup2_c, jdup2_l, jpo_c, jli, jll, jlr, jat_0, jat_s, jst, jst2, jkill_i, jkill_r, jkill_l, jkill_n, jnone, jgv_0, jgv_1, jgv_2, jgv_3, jrv_s, jput_0, jput_1, jput_2, jput_3, jpop_0, jpop_1, jcl_s, jc1, jc2, jvi, Nat.reduceAdd, jol_i, jol_l, jol_n, jap_n, jap_c, List.map_cons, List.map_nil, List.sum_cons, List.sum_nil, jcI, jcL, jcR, gI_sI, gI_sL, gI_sR, gL_sI, gL_sL, gL_sR, gR_sI, gR_sL, gR_sR, gS_sI, gS_sL, gS_sR, gN_sI, gN_sL, gN_sR] | simp (disch := omega) only [Nat.zero_le, true_and, and_true, and_self, Nat.reduceLeDiff, true_or, or_true, false_or, or_false, Nat.reduceEqDiff, false_and, and_false, if_false, if_true, reduceIte, not_true_eq_false, not_false_eq_true, true_imp_iff, false_imp_iff, List.map_cons, List.map_nil, List.sum_cons, List.sum_nil, jcI, jcL, jcR, Nat.reduceAdd, jrv_s, j1r_c, jap_n, jap_c, gI_sI, gL_sL, gI_sL, gL_sI, an_lt, an_le, an_eq, an_lt0, an_0le, an_0lt, an_le0, an_eq0, an_eq1, an_1lt, an_le1, an_1le, an_lt1, an_eqm, an_sub, an_sub1, an_div, an_rem, an_in, an_in0, an_in1, an_cl, an_cl0, an_cl1, nI_add, nI_1, an_1a, pk_mul, Nat.reduceMul, jz10, jz01, j00, j11, jb0, Classical.not_not, eq_self, an_ite, an_of, an_nm, nI_l, lN_add, lN_mul, lN_i, lj_2, lj_3, lj_4, lj_5, lj_6, lj_7, lj_8, lj_9, lj_10, lj_11, lj_12, lj_13, lj_14, lj_15, lj_16, lj_17, lj_18, lj_19, lj_20, lj_21, lj_22, lj_23, lj_24, lj_25, lj_26, lj_27, lj_28, lj_29, lj_30, lj_31, lj_32, lj_33, lj_34, lj_35, lj_36, lj_37, lj_38, lj_39, lj_40, lj_48, lj_50, lj_57, lj_59, lj_60, lj_63, lj_64, lj_65, lj_90, lj_96, lj_97, lj_99, lj_100, lj_101, lj_105, lj_112, lj_114, lj_116, lj_119, lj_122, lj_128, lj_200, lj_255, lj_256, lj_500, lj_777, lj_1000, hWν.1, w0, jr_43_0 hWν, jr_43_1 hWν, jr_43_2 hWν, jr_43_4 hWν, hWν.1, jS0_43, jS0_44, jS0_45, jS0_46, jS0_47] | (refine br_c (fun _ => ?_) (fun _ => ?_) <;> try (exfalso; omega)) | (refine br_d (fun _ => ?_) (fun _ => ?_) <;> try (exfalso; omega)) | refine And.intro ?_ ?_ | (refine Nat.ne_of_gt ?_; omega))
        all_goals exact kk
    · have o1 : ∀ (d : Nat) (Q' : jQ), Q' (some (.int (nI (tLe T P k)))) ν → jC (d + 2) 89 [.ref t, .int (nI P), .int (nI k)] ν Q' := fun d Q' kq => sp_opens1 hWν hK hXν hP c1 kq
      have o2 : ∀ (d : Nat) (Q' : jQ), Q' (some (.int (-1))) ν → jC (d + 2) 89 [.ref t, .int (nI q0), .int (nI k)] ν Q' := fun d Q' kq => sp_opens0 hWν hK hXν hq hk4 c2 kq
      have hx := tLe_lt hK hP c1.1
      have pw : ∀ (d : Nat) (Q' : jQ), Q' (some (.int 0)) ν → jC (d + 1) 24 [.ref 43, .int (nI (tLe T P k)), .int (-1)] ν Q' := fun d Q' kq => sp_putB hWν (Or.inr rfl) (fun y => absurd y (by
        have := an_eqm (a := tLe T P k) (by omega)
        rw [this]
        exact id)) (fun _ => kq)
      have kk := hy (aP_noop hK ha hb hne hA hin hk4 (by rw [f1, f2]; exact fun y => c2 (y.mp c1))) ν hF
      generalize tLe T P k = X at *
      repeat' (first | refine b23_3 ?_ | refine b23_24 ?_ | refine b23_47 ?_ | refine b23_49 ?_ | refine b23_52 ?_ | refine b23_109 ?_ | refine b23_143 ?_ | refine b23_155 ?_ | refine o1 _ _ ?_ | refine o2 _ _ ?_ | refine pw _ _ ?_ | dsimp only [jb_e0, jb_ec, jb_n, jb_c, jx_op, j1i_c, j2i_c, j1l_c, j2l_c, jil_c, j1r_c, jri_c, jrii_c, jril_c, jrl_c, jrr_c, j2i'_c, jdup_i, jdup_r, jdup2_c, jdup2_l, jpo_c, jli, jll, jlr, jat_0, jat_s, jst, jst2, jkill_i, jkill_r, jkill_l, jkill_n, jnone, jgv_0, jgv_1, jgv_2, jgv_3, jrv_s, jput_0, jput_1, jput_2, jput_3, jpop_0, jpop_1, jcl_s, jc1, jc2, jvi, Nat.reduceAdd, jol_i, jol_l, jol_n, jap_n, jap_c, List.map_cons, List.map_nil, List.sum_cons, List.sum_nil, jcI, jcL, jcR, gI_sI, gI_sL, gI_sR, gL_sI, gL_sL, gL_sR, gR_sI, gR_sL, gR_sR, gS_sI, gS_sL, gS_sR, gN_sI, gN_sL, gN_sR] | simp (disch := omega) only [Nat.zero_le, true_and, and_true, and_self, Nat.reduceLeDiff, true_or, or_true, false_or, or_false, Nat.reduceEqDiff, false_and, and_false, if_false, if_true, reduceIte, not_true_eq_false, not_false_eq_true, true_imp_iff, false_imp_iff, List.map_cons, List.map_nil, List.sum_cons, List.sum_nil, jcI, jcL, jcR, Nat.reduceAdd, jrv_s, j1r_c, jap_n, jap_c, gI_sI, gL_sL, gI_sL, gL_sI, an_lt, an_le, an_eq, an_lt0, an_0le, an_0lt, an_le0, an_eq0, an_eq1, an_1lt, an_le1, an_1le, an_lt1, an_eqm, an_sub, an_sub1, an_div, an_rem, an_in, an_in0, an_in1, an_cl, an_cl0, an_cl1, nI_add, nI_1, an_1a, pk_mul, Nat.reduceMul, jz10, jz01, j00, j11, jb0, Classical.not_not, eq_self, an_ite, an_of, an_nm, nI_l, lN_add, lN_mul, lN_i, lj_2, lj_3, lj_4, lj_5, lj_6, lj_7, lj_8, lj_9, lj_10, lj_11, lj_12, lj_13, lj_14, lj_15, lj_16, lj_17, lj_18, lj_19, lj_20, lj_21, lj_22, lj_23, lj_24, lj_25, lj_26, lj_27, lj_28, lj_29, lj_30, lj_31, lj_32, lj_33, lj_34, lj_35, lj_36, lj_37, lj_38, lj_39, lj_40, lj_48, lj_50, lj_57, lj_59, lj_60, lj_63, lj_64, lj_65, lj_90, lj_96, lj_97, lj_99, lj_100, lj_101, lj_105, lj_112, lj_114, lj_116, lj_119, lj_122, lj_128, lj_200, lj_255, lj_256, lj_500, lj_777, lj_1000, hWν.1, w0, jr_43_0 hWν, jr_43_1 hWν, jr_43_2 hWν, jr_43_4 hWν, hWν.1, jS0_43, jS0_44, jS0_45, jS0_46, jS0_47] | (refine br_c (fun _ => ?_) (fun _ => ?_) <;> try (exfalso; omega)) | (refine br_d (fun _ => ?_) (fun _ => ?_) <;> try (exfalso; omega)) | refine And.intro ?_ ?_ | (refine Nat.ne_of_gt ?_; omega))
      all_goals exact kk
    · have o1 : ∀ (d : Nat) (Q' : jQ), Q' (some (.int (-1))) ν → jC (d + 2) 89 [.ref t, .int (nI P), .int (nI k)] ν Q' := fun d Q' kq => sp_opens0 hWν hK hXν hP hk4 c1 kq
      have o2 : ∀ (d : Nat) (Q' : jQ), Q' (some (.int (nI (tLe T q0 k)))) ν → jC (d + 2) 89 [.ref t, .int (nI q0), .int (nI k)] ν Q' := fun d Q' kq => sp_opens1 hWν hK hXν hq c2 kq
      have hx := tLe_lt hK hq c2.1
      have pw : ∀ (d : Nat) (Q' : jQ), Q' (some (.int 0)) ν → jC (d + 1) 24 [.ref 43, .int (-1), .int (nI (tLe T q0 k))] ν Q' := fun d Q' kq => sp_putB hWν (Or.inl rfl) (fun y => absurd y.symm (by
        have := an_eqm (a := tLe T q0 k) (by omega)
        rw [this]
        exact id)) (fun _ => kq)
      have kk := hy (aP_noop hK ha hb hne hA hin hk4 (by rw [f1, f2]; exact fun y => c1 (y.mpr c2))) ν hF
      generalize tLe T q0 k = X at *
      repeat' (first | refine b23_3 ?_ | refine b23_24 ?_ | refine b23_47 ?_ | refine b23_49 ?_ | refine b23_52 ?_ | refine b23_109 ?_ | refine b23_143 ?_ | refine b23_155 ?_ | refine o1 _ _ ?_ | refine o2 _ _ ?_ | refine pw _ _ ?_ | dsimp only [jb_e0, jb_ec, jb_n, jb_c, jx_op, j1i_c, j2i_c, j1l_c, j2l_c, jil_c, j1r_c, jri_c, jrii_c, jril_c, jrl_c, jrr_c, j2i'_c, jdup_i, jdup_r, jdup2_c, jdup2_l, jpo_c, jli, jll, jlr, jat_0, jat_s, jst, jst2, jkill_i, jkill_r, jkill_l, jkill_n, jnone, jgv_0, jgv_1, jgv_2, jgv_3, jrv_s, jput_0, jput_1, jput_2, jput_3, jpop_0, jpop_1, jcl_s, jc1, jc2, jvi, Nat.reduceAdd, jol_i, jol_l, jol_n, jap_n, jap_c, List.map_cons, List.map_nil, List.sum_cons, List.sum_nil, jcI, jcL, jcR, gI_sI, gI_sL, gI_sR, gL_sI, gL_sL, gL_sR, gR_sI, gR_sL, gR_sR, gS_sI, gS_sL, gS_sR, gN_sI, gN_sL, gN_sR] | simp (disch := omega) only [Nat.zero_le, true_and, and_true, and_self, Nat.reduceLeDiff, true_or, or_true, false_or, or_false, Nat.reduceEqDiff, false_and, and_false, if_false, if_true, reduceIte, not_true_eq_false, not_false_eq_true, true_imp_iff, false_imp_iff, List.map_cons, List.map_nil, List.sum_cons, List.sum_nil, jcI, jcL, jcR, Nat.reduceAdd, jrv_s, j1r_c, jap_n, jap_c, gI_sI, gL_sL, gI_sL, gL_sI, an_lt, an_le, an_eq, an_lt0, an_0le, an_0lt, an_le0, an_eq0, an_eq1, an_1lt, an_le1, an_1le, an_lt1, an_eqm, an_sub, an_sub1, an_div, an_rem, an_in, an_in0, an_in1, an_cl, an_cl0, an_cl1, nI_add, nI_1, an_1a, pk_mul, Nat.reduceMul, jz10, jz01, j00, j11, jb0, Classical.not_not, eq_self, an_ite, an_of, an_nm, nI_l, lN_add, lN_mul, lN_i, lj_2, lj_3, lj_4, lj_5, lj_6, lj_7, lj_8, lj_9, lj_10, lj_11, lj_12, lj_13, lj_14, lj_15, lj_16, lj_17, lj_18, lj_19, lj_20, lj_21, lj_22, lj_23, lj_24, lj_25, lj_26, lj_27, lj_28, lj_29, lj_30, lj_31, lj_32, lj_33, lj_34, lj_35, lj_36, lj_37, lj_38, lj_39, lj_40, lj_48, lj_50, lj_57, lj_59, lj_60, lj_63, lj_64, lj_65, lj_90, lj_96, lj_97, lj_99, lj_100, lj_101, lj_105, lj_112, lj_114, lj_116, lj_119, lj_122, lj_128, lj_200, lj_255, lj_256, lj_500, lj_777, lj_1000, hWν.1, w0, jr_43_0 hWν, jr_43_1 hWν, jr_43_2 hWν, jr_43_4 hWν, hWν.1, jS0_43, jS0_44, jS0_45, jS0_46, jS0_47] | (refine br_c (fun _ => ?_) (fun _ => ?_) <;> try (exfalso; omega)) | (refine br_d (fun _ => ?_) (fun _ => ?_) <;> try (exfalso; omega)) | refine And.intro ?_ ?_ | (refine Nat.ne_of_gt ?_; omega))
      all_goals exact kk
    · have o1 : ∀ (d : Nat) (Q' : jQ), Q' (some (.int (-1))) ν → jC (d + 2) 89 [.ref t, .int (nI P), .int (nI k)] ν Q' := fun d Q' kq => sp_opens0 hWν hK hXν hP hk4 c1 kq
      have o2 : ∀ (d : Nat) (Q' : jQ), Q' (some (.int (-1))) ν → jC (d + 2) 89 [.ref t, .int (nI q0), .int (nI k)] ν Q' := fun d Q' kq => sp_opens0 hWν hK hXν hq hk4 c2 kq
      have pw : ∀ (d : Nat) (Q' : jQ), Q' (some (.int 1)) ν → jC (d + 1) 24 [.ref 43, .int (-1), .int (-1)] ν Q' := fun d Q' kq => sp_putB hWν (Or.inl rfl) (fun _ => kq) (fun y => absurd rfl y)
      have kk := ih (k + 1) ν pu qu n (by omega) hF hM hin f1 f2 (aP_next hA ⟨by rw [f1, f2]; exact ⟨fun y => absurd y c1, fun y => absurd y c2⟩, fun y => by rw [f1] at y; exact absurd y c1⟩)
      repeat' (first | refine b23_3 ?_ | refine b23_24 ?_ | refine b23_47 ?_ | refine b23_49 ?_ | refine b23_52 ?_ | refine b23_109 ?_ | refine b23_143 ?_ | refine b23_155 ?_ | refine o1 _ _ ?_ | refine o2 _ _ ?_ | refine pw _ _ ?_ | dsimp only [jb_e0, jb_ec, jb_n, jb_c, jx_op, j1i_c, j2i_c, j1l_c, j2l_c, jil_c, j1r_c, jri_c, jrii_c, jril_c, jrl_c, jrr_c, j2i'_c, jdup_i, jdup_r, jdup2_c, jdup2_l, jpo_c, jli, jll, jlr, jat_0, jat_s, jst, jst2, jkill_i, jkill_r, jkill_l, jkill_n, jnone, jgv_0, jgv_1, jgv_2, jgv_3, jrv_s, jput_0, jput_1, jput_2, jput_3, jpop_0, jpop_1, jcl_s, jc1, jc2, jvi, Nat.reduceAdd, jol_i, jol_l, jol_n, jap_n, jap_c, List.map_cons, List.map_nil, List.sum_cons, List.sum_nil, jcI, jcL, jcR, gI_sI, gI_sL, gI_sR, gL_sI, gL_sL, gL_sR, gR_sI, gR_sL, gR_sR, gS_sI, gS_sL, gS_sR, gN_sI, gN_sL, gN_sR] | simp (disch := omega) only [Nat.zero_le, true_and, and_true, and_self, Nat.reduceLeDiff, true_or, or_true, false_or, or_false, Nat.reduceEqDiff, false_and, and_false, if_false, if_true, reduceIte, not_true_eq_false, not_false_eq_true, true_imp_iff, false_imp_iff, List.map_cons, List.map_nil, List.sum_cons, List.sum_nil, jcI, jcL, jcR, Nat.reduceAdd, jrv_s, j1r_c, jap_n, jap_c, gI_sI, gL_sL, gI_sL, gL_sI, an_lt, an_le, an_eq, an_lt0, an_0le, an_0lt, an_le0, an_eq0, an_eq1, an_1lt, an_le1, an_1le, an_lt1, an_eqm, an_sub, an_sub1, an_div, an_rem, an_in, an_in0, an_in1, an_cl, an_cl0, an_cl1, nI_add, nI_1, an_1a, pk_mul, Nat.reduceMul, jz10, jz01, j00, j11, jb0, Classical.not_not, eq_self, an_ite, an_of, an_nm, nI_l, lN_add, lN_mul, lN_i, lj_2, lj_3, lj_4, lj_5, lj_6, lj_7, lj_8, lj_9, lj_10, lj_11, lj_12, lj_13, lj_14, lj_15, lj_16, lj_17, lj_18, lj_19, lj_20, lj_21, lj_22, lj_23, lj_24, lj_25, lj_26, lj_27, lj_28, lj_29, lj_30, lj_31, lj_32, lj_33, lj_34, lj_35, lj_36, lj_37, lj_38, lj_39, lj_40, lj_48, lj_50, lj_57, lj_59, lj_60, lj_63, lj_64, lj_65, lj_90, lj_96, lj_97, lj_99, lj_100, lj_101, lj_105, lj_112, lj_114, lj_116, lj_119, lj_122, lj_128, lj_200, lj_255, lj_256, lj_500, lj_777, lj_1000, hWν.1, w0, jr_43_0 hWν, jr_43_1 hWν, jr_43_2 hWν, jr_43_4 hWν, hWν.1, jS0_43, jS0_44, jS0_45, jS0_46, jS0_47] | (refine br_c (fun _ => ?_) (fun _ => ?_) <;> try (exfalso; omega)) | (refine br_d (fun _ => ?_) (fun _ => ?_) <;> try (exfalso; omega)) | refine And.intro ?_ ?_ | (refine Nat.ne_of_gt ?_; omega))
      all_goals exact kk
theorem sp_turn (hW : jWd L t μ) (hK : jTok T) (hX : jTX T t μ) (ha : a < tP T) (hb : b < tP T) (hne : a ≠ b) (h1 : gTu T a b → ∀ ν, jFr [43, 46, 47] μ ν → Q (some (.int 1)) ν) (h0 : ¬ gTu T a b → ∀ ν, jFr [43, 46, 47] μ ν → Q (some (.int 0)) ν) : jC (d + 4) 23 [.ref 43, .ref t, .int (nI a), .int (nI b)] μ Q := by
  have h8 := hK.1.1
  have loop : ∀ (m i : Nat) (ν : jMem) (pu : Nat → Option Nat) (qu : Nat → Nat) (n : Nat) (z5 z6 z7 : Option Value), i + m = 9 → i ≤ 8 → jFr [43, 46, 47] μ ν → aMp pu qu n ν → aP T a b pu qu n i i 0 → jR (d + 4) 23 52 [some (.ref 43), some (.ref t), some (.int (nI a)), some (.int (nI b)), some (.int (nI i)), z5, z6, z7] [] (0, 0) ν Q := by
    intro m
    induction m with
    | zero =>
      intro i ν pu qu n z5 z6 z7 hi h9
      exact absurd hi (by omega)
    | succ m ih =>
      intro i ν pu qu n z5 z6 z7 hi h9 hF hM hQ
      have hWν := hF.wd hW
      have w0 := (jWs hWν).1
      have hXν := jTX_fr (by decide) hW hF hX
      have hn8 : n ≤ 8 := by
        have h1 := hQ.2.2.2.1
        have h2 := sCt_le (fun x => (pu x).isSome) 8
        omega
      have e3 := hM.2.2
      by_cases c : i < n
      · have hq := hQ.1 i c
        have e46 := hM.2.1 i c
        have hqb : qu i < 64 := by omega
        have s1 : ∀ (d : Nat) (Q' : jQ), Q' (some (.int (nI (tSi T (qu i / 8))))) ν → jC (d + 1) 83 [.ref t, .int (nI (qu i / 8))] ν Q' := fun d Q' kq => sp_sightOf hWν hK hXν hq.1 kq
        have s2 : ∀ (d : Nat) (Q' : jQ), Q' (some (.int (nI (tSi T (qu i % 8))))) ν → jC (d + 1) 83 [.ref t, .int (nI (qu i % 8))] ν Q' := fun d Q' kq => sp_sightOf hWν hK hXν hq.2.1 kq
        have b1 := (hK.2.1 _ hq.1).1
        have b2 := (hK.2.1 _ hq.2.1).1
        refine b23_52 ?_
        by_cases cs : tSi T (qu i / 8) = tSi T (qu i % 8)
        · have cs' := eq_true cs
          have kk := ap_t (d := d) (Q := Q) (a := a) (b := b) (i := i) (P := qu i / 8) (q0 := qu i % 8) (x1 := nI a) (x2 := nI b) hWν hK hXν ha hb hne hq.1 hq.2.1 (fun z ξ F => h0 z ξ (hF.trans F)) (fun ξ pu' qu' n' F g1 g2 => by
            have k2 := ih (i + 1) ξ pu' qu' n' (some (.int (nI (qu i / 8)))) (some (.int (nI (qu i % 8)))) (some (.int (nI 4))) (by omega) (by omega) (hF.trans F) g1 g2
            refine b23_149 ?_
            repeat' (first | refine b23_3 ?_ | refine b23_24 ?_ | refine b23_47 ?_ | refine b23_49 ?_ | refine b23_109 ?_ | refine b23_112 ?_ | refine b23_143 ?_ | refine b23_149 ?_ | refine b23_155 ?_ | dsimp only [jb_e0, jb_ec, jb_n, jb_c, jx_op, j1i_c, j2i_c, j1l_c, j2l_c, jil_c, j1r_c, jri_c, jrii_c, jril_c, jrl_c, jrr_c, j2i'_c, jdup_i, jdup_r, jdup2_c, jdup2_l, jpo_c, jli, jll, jlr, jat_0, jat_s, jst, jst2, jkill_i, jkill_r, jkill_l, jkill_n, jnone, jgv_0, jgv_1, jgv_2, jgv_3, jrv_s, jput_0, jput_1, jput_2, jput_3, jpop_0, jpop_1, jcl_s, jc1, jc2, jvi, Nat.reduceAdd, jol_i, jol_l, jol_n, jap_n, jap_c, List.map_cons, List.map_nil, List.sum_cons, List.sum_nil, jcI, jcL, jcR, gI_sI, gI_sL, gI_sR, gL_sI, gL_sL, gL_sR, gR_sI, gR_sL, gR_sR, gS_sI, gS_sL, gS_sR, gN_sI, gN_sL, gN_sR] | simp (disch := omega) only [Nat.zero_le, true_and, and_true, and_self, Nat.reduceLeDiff, true_or, or_true, false_or, or_false, Nat.reduceEqDiff, false_and, and_false, if_false, if_true, reduceIte, not_true_eq_false, not_false_eq_true, true_imp_iff, false_imp_iff, List.map_cons, List.map_nil, List.sum_cons, List.sum_nil, jcI, jcL, jcR, Nat.reduceAdd, jrv_s, j1r_c, jap_n, jap_c, gI_sI, gL_sL, gI_sL, gL_sI, an_lt, an_le, an_eq, an_lt0, an_0le, an_0lt, an_le0, an_eq0, an_eq1, an_1lt, an_le1, an_1le, an_lt1, an_eqm, an_sub, an_sub1, an_div, an_rem, an_in, an_in0, an_in1, an_cl, an_cl0, an_cl1, nI_add, nI_1, an_1a, pk_mul, Nat.reduceMul, jz10, jz01, j00, j11, jb0, Classical.not_not, eq_self, an_ite, an_of, an_nm, nI_l, lN_add, lN_mul, lN_i, lj_2, lj_3, lj_4, lj_5, lj_6, lj_7, lj_8, lj_9, lj_10, lj_11, lj_12, lj_13, lj_14, lj_15, lj_16, lj_17, lj_18, lj_19, lj_20, lj_21, lj_22, lj_23, lj_24, lj_25, lj_26, lj_27, lj_28, lj_29, lj_30, lj_31, lj_32, lj_33, lj_34, lj_35, lj_36, lj_37, lj_38, lj_39, lj_40, lj_48, lj_50, lj_57, lj_59, lj_60, lj_63, lj_64, lj_65, lj_90, lj_96, lj_97, lj_99, lj_100, lj_101, lj_105, lj_112, lj_114, lj_116, lj_119, lj_122, lj_128, lj_200, lj_255, lj_256, lj_500, lj_777, lj_1000] | (refine br_c (fun _ => ?_) (fun _ => ?_) <;> try (exfalso; omega)) | (refine br_d (fun _ => ?_) (fun _ => ?_) <;> try (exfalso; omega)) | refine And.intro ?_ ?_ | (refine Nat.ne_of_gt ?_; omega))
            all_goals exact k2) 4 0 ν pu qu n rfl jFr.rf hM c rfl rfl (aP_si hQ cs)
          repeat' (first | refine b23_3 ?_ | refine b23_24 ?_ | refine b23_47 ?_ | refine b23_49 ?_ | refine b23_109 ?_ | refine b23_143 ?_ | refine b23_149 ?_ | refine b23_155 ?_ | refine s1 _ _ ?_ | refine s2 _ _ ?_ | dsimp only [jb_e0, jb_ec, jb_n, jb_c, jx_op, j1i_c, j2i_c, j1l_c, j2l_c, jil_c, j1r_c, jri_c, jrii_c, jril_c, jrl_c, jrr_c, j2i'_c, jdup_i, jdup_r, jdup2_c, jdup2_l, jpo_c, jli, jll, jlr, jat_0, jat_s, jst, jst2, jkill_i, jkill_r, jkill_l, jkill_n, jnone, jgv_0, jgv_1, jgv_2, jgv_3, jrv_s, jput_0, jput_1, jput_2, jput_3, jpop_0, jpop_1, jcl_s, jc1, jc2, jvi, Nat.reduceAdd, jol_i, jol_l, jol_n, jap_n, jap_c, List.map_cons, List.map_nil, List.sum_cons, List.sum_nil, jcI, jcL, jcR, gI_sI, gI_sL, gI_sR, gL_sI, gL_sL, gL_sR, gR_sI, gR_sL, gR_sR, gS_sI, gS_sL, gS_sR, gN_sI, gN_sL, gN_sR] | simp (disch := omega) only [Nat.zero_le, true_and, and_true, and_self, Nat.reduceLeDiff, true_or, or_true, false_or, or_false, Nat.reduceEqDiff, false_and, and_false, if_false, if_true, reduceIte, not_true_eq_false, not_false_eq_true, true_imp_iff, false_imp_iff, List.map_cons, List.map_nil, List.sum_cons, List.sum_nil, jcI, jcL, jcR, Nat.reduceAdd, jrv_s, j1r_c, jap_n, jap_c, gI_sI, gL_sL, gI_sL, gL_sI, an_lt, an_le, an_eq, an_lt0, an_0le, an_0lt, an_le0, an_eq0, an_eq1, an_1lt, an_le1, an_1le, an_lt1, an_eqm, an_sub, an_sub1, an_div, an_rem, an_in, an_in0, an_in1, an_cl, an_cl0, an_cl1, nI_add, nI_1, an_1a, pk_mul, Nat.reduceMul, jz10, jz01, j00, j11, jb0, Classical.not_not, eq_self, an_ite, an_of, an_nm, nI_l, lN_add, lN_mul, lN_i, lj_2, lj_3, lj_4, lj_5, lj_6, lj_7, lj_8, lj_9, lj_10, lj_11, lj_12, lj_13, lj_14, lj_15, lj_16, lj_17, lj_18, lj_19, lj_20, lj_21, lj_22, lj_23, lj_24, lj_25, lj_26, lj_27, lj_28, lj_29, lj_30, lj_31, lj_32, lj_33, lj_34, lj_35, lj_36, lj_37, lj_38, lj_39, lj_40, lj_48, lj_50, lj_57, lj_59, lj_60, lj_63, lj_64, lj_65, lj_90, lj_96, lj_97, lj_99, lj_100, lj_101, lj_105, lj_112, lj_114, lj_116, lj_119, lj_122, lj_128, lj_200, lj_255, lj_256, lj_500, lj_777, lj_1000, hWν.1, w0, jr_43_0 hWν, jr_43_1 hWν, jr_43_2 hWν, jr_43_4 hWν, hWν.1, jS0_43, jS0_44, jS0_45, jS0_46, jS0_47, e3, e46, cs'] | (refine br_c (fun _ => ?_) (fun _ => ?_) <;> try (exfalso; omega)) | (refine br_d (fun _ => ?_) (fun _ => ?_) <;> try (exfalso; omega)) | refine And.intro ?_ ?_ | (refine Nat.ne_of_gt ?_; omega))
          all_goals exact kk
        · have cs' := eq_false cs
          have kk := h0 (aP_nosi hK ha hb hne hQ c cs) ν hF
          repeat' (first | refine b23_3 ?_ | refine b23_24 ?_ | refine b23_47 ?_ | refine b23_49 ?_ | refine b23_109 ?_ | refine b23_143 ?_ | refine b23_149 ?_ | refine b23_155 ?_ | refine s1 _ _ ?_ | refine s2 _ _ ?_ | dsimp only [jb_e0, jb_ec, jb_n, jb_c, jx_op, j1i_c, j2i_c, j1l_c, j2l_c, jil_c, j1r_c, jri_c, jrii_c, jril_c, jrl_c, jrr_c, j2i'_c, jdup_i, jdup_r, jdup2_c, jdup2_l, jpo_c, jli, jll, jlr, jat_0, jat_s, jst, jst2, jkill_i, jkill_r, jkill_l, jkill_n, jnone, jgv_0, jgv_1, jgv_2, jgv_3, jrv_s, jput_0, jput_1, jput_2, jput_3, jpop_0, jpop_1, jcl_s, jc1, jc2, jvi, Nat.reduceAdd, jol_i, jol_l, jol_n, jap_n, jap_c, List.map_cons, List.map_nil, List.sum_cons, List.sum_nil, jcI, jcL, jcR, gI_sI, gI_sL, gI_sR, gL_sI, gL_sL, gL_sR, gR_sI, gR_sL, gR_sR, gS_sI, gS_sL, gS_sR, gN_sI, gN_sL, gN_sR] | simp (disch := omega) only [Nat.zero_le, true_and, and_true, and_self, Nat.reduceLeDiff, true_or, or_true, false_or, or_false, Nat.reduceEqDiff, false_and, and_false, if_false, if_true, reduceIte, not_true_eq_false, not_false_eq_true, true_imp_iff, false_imp_iff, List.map_cons, List.map_nil, List.sum_cons, List.sum_nil, jcI, jcL, jcR, Nat.reduceAdd, jrv_s, j1r_c, jap_n, jap_c, gI_sI, gL_sL, gI_sL, gL_sI, an_lt, an_le, an_eq, an_lt0, an_0le, an_0lt, an_le0, an_eq0, an_eq1, an_1lt, an_le1, an_1le, an_lt1, an_eqm, an_sub, an_sub1, an_div, an_rem, an_in, an_in0, an_in1, an_cl, an_cl0, an_cl1, nI_add, nI_1, an_1a, pk_mul, Nat.reduceMul, jz10, jz01, j00, j11, jb0, Classical.not_not, eq_self, an_ite, an_of, an_nm, nI_l, lN_add, lN_mul, lN_i, lj_2, lj_3, lj_4, lj_5, lj_6, lj_7, lj_8, lj_9, lj_10, lj_11, lj_12, lj_13, lj_14, lj_15, lj_16, lj_17, lj_18, lj_19, lj_20, lj_21, lj_22, lj_23, lj_24, lj_25, lj_26, lj_27, lj_28, lj_29, lj_30, lj_31, lj_32, lj_33, lj_34, lj_35, lj_36, lj_37, lj_38, lj_39, lj_40, lj_48, lj_50, lj_57, lj_59, lj_60, lj_63, lj_64, lj_65, lj_90, lj_96, lj_97, lj_99, lj_100, lj_101, lj_105, lj_112, lj_114, lj_116, lj_119, lj_122, lj_128, lj_200, lj_255, lj_256, lj_500, lj_777, lj_1000, hWν.1, w0, jr_43_0 hWν, jr_43_1 hWν, jr_43_2 hWν, jr_43_4 hWν, hWν.1, jS0_43, jS0_44, jS0_45, jS0_46, jS0_47, e3, e46, cs'] | (refine br_c (fun _ => ?_) (fun _ => ?_) <;> try (exfalso; omega)) | (refine br_d (fun _ => ?_) (fun _ => ?_) <;> try (exfalso; omega)) | refine And.intro ?_ ?_ | (refine Nat.ne_of_gt ?_; omega))
          all_goals exact kk
      · have kk := h1 (aP_fin hK ha hb hne hQ (by omega)) ν hF
        refine b23_52 ?_
        repeat' (first | refine b23_3 ?_ | refine b23_24 ?_ | refine b23_47 ?_ | refine b23_49 ?_ | refine b23_109 ?_ | refine b23_143 ?_ | refine b23_149 ?_ | refine b23_155 ?_ | dsimp only [jb_e0, jb_ec, jb_n, jb_c, jx_op, j1i_c, j2i_c, j1l_c, j2l_c, jil_c, j1r_c, jri_c, jrii_c, jril_c, jrl_c, jrr_c, j2i'_c, jdup_i, jdup_r, jdup2_c, jdup2_l, jpo_c, jli, jll, jlr, jat_0, jat_s, jst, jst2, jkill_i, jkill_r, jkill_l, jkill_n, jnone, jgv_0, jgv_1, jgv_2, jgv_3, jrv_s, jput_0, jput_1, jput_2, jput_3, jpop_0, jpop_1, jcl_s, jc1, jc2, jvi, Nat.reduceAdd, jol_i, jol_l, jol_n, jap_n, jap_c, List.map_cons, List.map_nil, List.sum_cons, List.sum_nil, jcI, jcL, jcR, gI_sI, gI_sL, gI_sR, gL_sI, gL_sL, gL_sR, gR_sI, gR_sL, gR_sR, gS_sI, gS_sL, gS_sR, gN_sI, gN_sL, gN_sR] | simp (disch := omega) only [Nat.zero_le, true_and, and_true, and_self, Nat.reduceLeDiff, true_or, or_true, false_or, or_false, Nat.reduceEqDiff, false_and, and_false, if_false, if_true, reduceIte, not_true_eq_false, not_false_eq_true, true_imp_iff, false_imp_iff, List.map_cons, List.map_nil, List.sum_cons, List.sum_nil, jcI, jcL, jcR, Nat.reduceAdd, jrv_s, j1r_c, jap_n, jap_c, gI_sI, gL_sL, gI_sL, gL_sI, an_lt, an_le, an_eq, an_lt0, an_0le, an_0lt, an_le0, an_eq0, an_eq1, an_1lt, an_le1, an_1le, an_lt1, an_eqm, an_sub, an_sub1, an_div, an_rem, an_in, an_in0, an_in1, an_cl, an_cl0, an_cl1, nI_add, nI_1, an_1a, pk_mul, Nat.reduceMul, jz10, jz01, j00, j11, jb0, Classical.not_not, eq_self, an_ite, an_of, an_nm, nI_l, lN_add, lN_mul, lN_i, lj_2, lj_3, lj_4, lj_5, lj_6, lj_7, lj_8, lj_9, lj_10, lj_11, lj_12, lj_13, lj_14, lj_15, lj_16, lj_17, lj_18, lj_19, lj_20, lj_21, lj_22, lj_23, lj_24, lj_25, lj_26, lj_27, lj_28, lj_29, lj_30, lj_31, lj_32, lj_33, lj_34, lj_35, lj_36, lj_37, lj_38, lj_39, lj_40, lj_48, lj_50, lj_57, lj_59, lj_60, lj_63, lj_64, lj_65, lj_90, lj_96, lj_97, lj_99, lj_100, lj_101, lj_105, lj_112, lj_114, lj_116, lj_119, lj_122, lj_128, lj_200, lj_255, lj_256, lj_500, lj_777, lj_1000, hWν.1, jr_43_0 hWν, jr_43_1 hWν, jr_43_2 hWν, jr_43_4 hWν, hWν.1, jS0_43, jS0_44, jS0_45, jS0_46, jS0_47, e3] | (refine br_c (fun _ => ?_) (fun _ => ?_) <;> try (exfalso; omega)) | (refine br_d (fun _ => ?_) (fun _ => ?_) <;> try (exfalso; omega)) | refine And.intro ?_ ?_ | (refine Nat.ne_of_gt ?_; omega))
        all_goals exact kk
  have first : ∀ (m k : Nat) (ν : jMem), k + m = 8 → jFr [43, 46, 47] μ ν → (∀ j, j < k → gI ν 47 j = -1) → jR (d + 4) 23 3 [some (.ref 43), some (.ref t), some (.int (nI a)), some (.int (nI b)), some (.int (nI k)), none, none, none] [] (0, 0) ν Q := by
    intro m
    induction m with
    | zero =>
      intro k ν hk hF hR
      obtain rfl : k = 8 := by omega
      have hWν := hF.wd hW
      have hW2 : jWd L t (sI ν 43 3 0) := hWν
      have hW3 : jWd L t (sI (sI (sI (sI ν 43 3 0) 47 a (nI b)) 46 0 (nI (8 * a + b))) 43 3 (nI (0 + 1))) := hWν
      have p1 : ∀ (d : Nat) (Q' : jQ), Q' (some (.int 1)) (sI (sI (sI (sI ν 43 3 0) 47 a (nI b)) 46 0 (nI (8 * a + b))) 43 3 (nI (0 + 1))) → jC d 25 [.ref 43, .int (nI a), .int (nI b)] (sI ν 43 3 0) Q' := fun d Q' kq => sp_put0 (n := 0) hW2 (by omega) (by omega) (by omega) (by rw [gI_sI, if_neg (by omega)]; exact hR _ (by omega)) rfl kq
      have m0 : aMp (fun _ => none) (fun _ => 0) 0 (sI ν 43 3 0) := ⟨fun j hj => by rw [gI_sI, if_neg (by omega)]; exact hR j hj, fun j hj => absurd hj (Nat.not_lt_zero _), rfl⟩
      have m1 := aMp_new (x := a) (y := b) m0
      have m2 := aMp_new (x := b) (y := a) m1
      have ub : tuU (fun _ => none) a b b = none := by
        rw [tuU_n (fun y => hne y.symm)]
      have p2 : ∀ (d : Nat) (Q' : jQ), Q' (some (.int 1)) (sI (sI (sI (sI (sI (sI (sI ν 43 3 0) 47 a (nI b)) 46 0 (nI (8 * a + b))) 43 3 (nI (0 + 1))) 47 b (nI a)) 46 (0 + 1) (nI (8 * b + a))) 43 3 (nI (0 + 1 + 1))) → jC d 25 [.ref 43, .int (nI b), .int (nI a)] (sI (sI (sI (sI ν 43 3 0) 47 a (nI b)) 46 0 (nI (8 * a + b))) 43 3 (nI (0 + 1))) Q' := fun d Q' kq => sp_put0 (n := 0 + 1) hW3 (by omega) (by omega) (by omega) (by
        have := m1.1 b (by omega)
        rw [ub] at this
        exact this) m1.2.2 kq
      have c0 : sCt (fun x => ((fun _ => none : Nat → Option Nat) x).isSome) 8 = 0 := by decide
      have c1 := sCt_up (f := fun x => ((fun _ => none : Nat → Option Nat) x).isSome) (j := a) (g := fun x => (tuU (fun _ => none) a b x).isSome) rfl (fun i => by
        by_cases e : i = a
        · rw [if_pos e, e, tuU_s]
          rfl
        · rw [if_neg e, tuU_n e]) 8
      have c2 := sCt_up (f := fun x => (tuU (fun _ => none) a b x).isSome) (j := b) (g := fun x => (tuU (tuU (fun _ => none) a b) b a x).isSome) (by rw [ub]; rfl) (fun i => by
        by_cases e : i = b
        · rw [if_pos e, e, tuU_s]
          rfl
        · rw [if_neg e, tuU_n e]) 8
      rw [if_pos (by omega)] at c1 c2
      have q1 : (8 * a + b) / 8 = a := by omega
      have q2 : (8 * a + b) % 8 = b := by omega
      have q3 : (8 * b + a) / 8 = b := by omega
      have q4 : (8 * b + a) % 8 = a := by omega
      have ua : tuU (tuU (fun _ => none) a b) b a a = some b := by rw [tuU_n hne, tuU_s]
      have hq2 : ∀ x y, x < 8 → tuU (tuU (fun _ => none) a b) b a x = some y → y < 8 ∧ ∃ m, m < 0 + 1 + 1 ∧ (fun j => if j = 0 + 1 then 8 * b + a else (fun j => if j = 0 then 8 * a + b else (fun _ => 0) j) j) m = 8 * x + y := fun x y hx hxy => by
        by_cases e : x = b
        · rw [e, tuU_s] at hxy
          cases hxy
          exact ⟨by omega, 0 + 1, by omega, (if_pos rfl).trans (by rw [e])⟩
        · rw [tuU_n e] at hxy
          by_cases e2 : x = a
          · rw [e2, tuU_s] at hxy
            cases hxy
            exact ⟨by omega, 0, by omega, (if_neg (by omega)).trans ((if_pos rfl).trans (by rw [e2]))⟩
          · rw [tuU_n e2] at hxy
            cases hxy
      have kk := loop 9 0 _ _ _ (0 + 1 + 1) none none none rfl (by omega) ((((((((hF.trans (jFr.sI (by simp))).trans (jFr.sI (by simp))).trans (jFr.sI (by simp))).trans (jFr.sI (by simp))).trans (jFr.sI (by simp))).trans (jFr.sI (by simp)))).trans (jFr.sI (by simp))) m2 ⟨fun j hj => by
        by_cases e : j = 0 + 1
        · simp only [if_pos e, q3, q4]
          exact ⟨hb, ha, fun G g => g.2.1, tuU_s⟩
        · obtain rfl : j = 0 := by omega
          simp only [if_neg e, if_pos, q1, q2]
          exact ⟨ha, hb, fun G g => g.1, ua⟩, hq2, ⟨ua, tuU_s⟩, by omega, fun m k' _ _ hh => absurd hh (by omega), fun m _ hh => absurd hh (by omega)⟩
      refine b23_3 ?_
      repeat' (first | refine b23_24 ?_ | refine b23_47 ?_ | refine b23_49 ?_ | refine b23_109 ?_ | refine b23_112 ?_ | refine b23_143 ?_ | refine b23_149 ?_ | refine b23_155 ?_ | refine p1 _ _ ?_ | refine p2 _ _ ?_ | dsimp only [jb_e0, jb_ec, jb_n, jb_c, jx_op, j1i_c, j2i_c, j1l_c, j2l_c, jil_c, j1r_c, jri_c, jrii_c, jril_c, jrl_c, jrr_c, j2i'_c, jdup_i, jdup_r, jdup2_c, jdup2_l, jpo_c, jli, jll, jlr, jat_0, jat_s, jst, jst2, jkill_i, jkill_r, jkill_l, jkill_n, jnone, jgv_0, jgv_1, jgv_2, jgv_3, jrv_s, jput_0, jput_1, jput_2, jput_3, jpop_0, jpop_1, jcl_s, jc1, jc2, jvi, Nat.reduceAdd, jol_i, jol_l, jol_n, jap_n, jap_c, List.map_cons, List.map_nil, List.sum_cons, List.sum_nil, jcI, jcL, jcR, gI_sI, gI_sL, gI_sR, gL_sI, gL_sL, gL_sR, gR_sI, gR_sL, gR_sR, gS_sI, gS_sL, gS_sR, gN_sI, gN_sL, gN_sR] | simp (disch := omega) only [Nat.zero_le, true_and, and_true, and_self, Nat.reduceLeDiff, true_or, or_true, false_or, or_false, Nat.reduceEqDiff, false_and, and_false, if_false, if_true, reduceIte, not_true_eq_false, not_false_eq_true, true_imp_iff, false_imp_iff, List.map_cons, List.map_nil, List.sum_cons, List.sum_nil, jcI, jcL, jcR, Nat.reduceAdd, jrv_s, j1r_c, jap_n, jap_c, gI_sI, gL_sL, gI_sL, gL_sI, an_lt, an_le, an_eq, an_lt0, an_0le, an_0lt, an_le0, an_eq0, an_eq1, an_1lt, an_le1, an_1le, an_lt1, an_eqm, an_sub, an_sub1, an_div, an_rem, an_in, an_in0, an_in1, an_cl, an_cl0, an_cl1, nI_add, nI_1, an_1a, pk_mul, Nat.reduceMul, jz10, jz01, j00, j11, jb0, Classical.not_not, eq_self, an_ite, an_of, an_nm, nI_l, lN_add, lN_mul, lN_i, lj_2, lj_3, lj_4, lj_5, lj_6, lj_7, lj_8, lj_9, lj_10, lj_11, lj_12, lj_13, lj_14, lj_15, lj_16, lj_17, lj_18, lj_19, lj_20, lj_21, lj_22, lj_23, lj_24, lj_25, lj_26, lj_27, lj_28, lj_29, lj_30, lj_31, lj_32, lj_33, lj_34, lj_35, lj_36, lj_37, lj_38, lj_39, lj_40, lj_48, lj_50, lj_57, lj_59, lj_60, lj_63, lj_64, lj_65, lj_90, lj_96, lj_97, lj_99, lj_100, lj_101, lj_105, lj_112, lj_114, lj_116, lj_119, lj_122, lj_128, lj_200, lj_255, lj_256, lj_500, lj_777, lj_1000, hWν.1, jr_43_0 hWν, jr_43_1 hWν, jr_43_2 hWν, jr_43_4 hWν, hWν.1, jS0_43, jS0_44, jS0_45, jS0_46, jS0_47] | (refine br_c (fun _ => ?_) (fun _ => ?_) <;> try (exfalso; omega)) | (refine br_d (fun _ => ?_) (fun _ => ?_) <;> try (exfalso; omega)) | refine And.intro ?_ ?_ | (refine Nat.ne_of_gt ?_; omega))
      all_goals exact kk
    | succ m ih =>
      intro k ν hk hF hR
      have hWν := hF.wd hW
      have kk := ih (k + 1) (sI ν 47 k (-1)) (by omega) (hF.trans (jFr.sI (by simp))) (fun j hj => by
        rw [gI_sI]
        by_cases e : j = k
        · rw [if_pos ⟨rfl, e⟩]
        · rw [if_neg (fun z => e z.2)]
          exact hR j (by omega))
      refine b23_3 ?_
      repeat' (first | refine b23_24 ?_ | refine b23_47 ?_ | refine b23_49 ?_ | refine b23_109 ?_ | refine b23_112 ?_ | refine b23_143 ?_ | refine b23_149 ?_ | refine b23_155 ?_ | dsimp only [jb_e0, jb_ec, jb_n, jb_c, jx_op, j1i_c, j2i_c, j1l_c, j2l_c, jil_c, j1r_c, jri_c, jrii_c, jril_c, jrl_c, jrr_c, j2i'_c, jdup_i, jdup_r, jdup2_c, jdup2_l, jpo_c, jli, jll, jlr, jat_0, jat_s, jst, jst2, jkill_i, jkill_r, jkill_l, jkill_n, jnone, jgv_0, jgv_1, jgv_2, jgv_3, jrv_s, jput_0, jput_1, jput_2, jput_3, jpop_0, jpop_1, jcl_s, jc1, jc2, jvi, Nat.reduceAdd, jol_i, jol_l, jol_n, jap_n, jap_c, List.map_cons, List.map_nil, List.sum_cons, List.sum_nil, jcI, jcL, jcR, gI_sI, gI_sL, gI_sR, gL_sI, gL_sL, gL_sR, gR_sI, gR_sL, gR_sR, gS_sI, gS_sL, gS_sR, gN_sI, gN_sL, gN_sR] | simp (disch := omega) only [Nat.zero_le, true_and, and_true, and_self, Nat.reduceLeDiff, true_or, or_true, false_or, or_false, Nat.reduceEqDiff, false_and, and_false, if_false, if_true, reduceIte, not_true_eq_false, not_false_eq_true, true_imp_iff, false_imp_iff, List.map_cons, List.map_nil, List.sum_cons, List.sum_nil, jcI, jcL, jcR, Nat.reduceAdd, jrv_s, j1r_c, jap_n, jap_c, gI_sI, gL_sL, gI_sL, gL_sI, an_lt, an_le, an_eq, an_lt0, an_0le, an_0lt, an_le0, an_eq0, an_eq1, an_1lt, an_le1, an_1le, an_lt1, an_eqm, an_sub, an_sub1, an_div, an_rem, an_in, an_in0, an_in1, an_cl, an_cl0, an_cl1, nI_add, nI_1, an_1a, pk_mul, Nat.reduceMul, jz10, jz01, j00, j11, jb0, Classical.not_not, eq_self, an_ite, an_of, an_nm, nI_l, lN_add, lN_mul, lN_i, lj_2, lj_3, lj_4, lj_5, lj_6, lj_7, lj_8, lj_9, lj_10, lj_11, lj_12, lj_13, lj_14, lj_15, lj_16, lj_17, lj_18, lj_19, lj_20, lj_21, lj_22, lj_23, lj_24, lj_25, lj_26, lj_27, lj_28, lj_29, lj_30, lj_31, lj_32, lj_33, lj_34, lj_35, lj_36, lj_37, lj_38, lj_39, lj_40, lj_48, lj_50, lj_57, lj_59, lj_60, lj_63, lj_64, lj_65, lj_90, lj_96, lj_97, lj_99, lj_100, lj_101, lj_105, lj_112, lj_114, lj_116, lj_119, lj_122, lj_128, lj_200, lj_255, lj_256, lj_500, lj_777, lj_1000, hWν.1, jr_43_0 hWν, jr_43_1 hWν, jr_43_2 hWν, jr_43_4 hWν, hWν.1, jS0_43, jS0_44, jS0_45, jS0_46, jS0_47] | (refine br_c (fun _ => ?_) (fun _ => ?_) <;> try (exfalso; omega)) | (refine br_d (fun _ => ?_) (fun _ => ?_) <;> try (exfalso; omega)) | refine And.intro ?_ ?_ | (refine Nat.ne_of_gt ?_; omega))
      all_goals exact kk
  have kk := first 8 0 μ rfl jFr.rf (fun j hj => absurd hj (Nat.not_lt_zero _))
  refine e23 (b23_0 ?_)
  repeat' (first | refine b23_24 ?_ | refine b23_47 ?_ | refine b23_49 ?_ | refine b23_52 ?_ | refine b23_109 ?_ | refine b23_112 ?_ | refine b23_143 ?_ | refine b23_149 ?_ | refine b23_155 ?_ | dsimp only [jb_e0, jb_ec, jb_n, jb_c, jx_op, j1i_c, j2i_c, j1l_c, j2l_c, jil_c, j1r_c, jri_c, jrii_c, jril_c, jrl_c, jrr_c, j2i'_c, jdup_i, jdup_r, jdup2_c, jdup2_l, jpo_c, jli, jll, jlr, jat_0, jat_s, jst, jst2, jkill_i, jkill_r, jkill_l, jkill_n, jnone, jgv_0, jgv_1, jgv_2, jgv_3, jrv_s, jput_0, jput_1, jput_2, jput_3, jpop_0, jpop_1, jcl_s, jc1, jc2, jvi, Nat.reduceAdd, jol_i, jol_l, jol_n, jap_n, jap_c, List.map_cons, List.map_nil, List.sum_cons, List.sum_nil, jcI, jcL, jcR, gI_sI, gI_sL, gI_sR, gL_sI, gL_sL, gL_sR, gR_sI, gR_sL, gR_sR, gS_sI, gS_sL, gS_sR, gN_sI, gN_sL, gN_sR] | simp (disch := omega) only [Nat.zero_le, true_and, and_true, and_self, Nat.reduceLeDiff, true_or, or_true, false_or, or_false, Nat.reduceEqDiff, false_and, and_false, if_false, if_true, reduceIte, not_true_eq_false, not_false_eq_true, true_imp_iff, false_imp_iff, List.map_cons, List.map_nil, List.sum_cons, List.sum_nil, jcI, jcL, jcR, Nat.reduceAdd, jrv_s, j1r_c, jap_n, jap_c, gI_sI, gL_sL, gI_sL, gL_sI, an_lt, an_le, an_eq, an_lt0, an_0le, an_0lt, an_le0, an_eq0, an_eq1, an_1lt, an_le1, an_1le, an_lt1, an_eqm, an_sub, an_sub1, an_div, an_rem, an_in, an_in0, an_in1, an_cl, an_cl0, an_cl1, nI_add, nI_1, an_1a, pk_mul, Nat.reduceMul, jz10, jz01, j00, j11, jb0, Classical.not_not, eq_self, an_ite, an_of, an_nm, nI_l, lN_add, lN_mul, lN_i, lj_2, lj_3, lj_4, lj_5, lj_6, lj_7, lj_8, lj_9, lj_10, lj_11, lj_12, lj_13, lj_14, lj_15, lj_16, lj_17, lj_18, lj_19, lj_20, lj_21, lj_22, lj_23, lj_24, lj_25, lj_26, lj_27, lj_28, lj_29, lj_30, lj_31, lj_32, lj_33, lj_34, lj_35, lj_36, lj_37, lj_38, lj_39, lj_40, lj_48, lj_50, lj_57, lj_59, lj_60, lj_63, lj_64, lj_65, lj_90, lj_96, lj_97, lj_99, lj_100, lj_101, lj_105, lj_112, lj_114, lj_116, lj_119, lj_122, lj_128, lj_200, lj_255, lj_256, lj_500, lj_777, lj_1000] | (refine br_c (fun _ => ?_) (fun _ => ?_) <;> try (exfalso; omega)) | (refine br_d (fun _ => ?_) (fun _ => ?_) <;> try (exfalso; omega)) | refine And.intro ?_ ?_ | (refine Nat.ne_of_gt ?_; omega))
  all_goals exact kk
end JPK
