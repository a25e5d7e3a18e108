/-! town: the class's state while it reads -/
section JTC4
variable {d L t : Nat} {μ : jMem} {Q : jQ} {B : Nat → Nat} {n p q s k j w x y o : Nat} {T : jT}
def xO (o : Nat) : List Nat := [10, o, o + 1, o + 2, o + 3, o + 4, o + 5, o + 6, o + 7, o + 8]
theorem xO_in {a : Nat} (h : a = 10 ∨ (o ≤ a ∧ a ≤ o + 8)) : a ∈ xO o := by
  unfold xO
  simp
  omega
theorem xO_out {a : Nat} (h : a ≠ 10 ∧ (a < o ∨ o + 8 < a)) : a ∉ xO o := by
  unfold xO
  simp
  omega
def xS (B : Nat → Nat) (n : Nat) (T : jT) (o p : Nat) (μ : jMem) : Prop := xTp B n μ ∧ xTk B n p μ ∧ jTY T o μ ∧ xN B n T o μ ∧ gI μ 10 5 = nI (T 0 6 0) ∧ gI μ 10 6 = nI (T 0 7 0) ∧ gR μ 10 4 = some o
def xG (o : Nat) (μ ν : jMem) : Prop := jFr (xO o) μ ν ∧ gI ν 10 1 = gI μ 10 1 ∧ gI ν 10 2 = gI μ 10 2 ∧ gI ν 10 3 = gI μ 10 3
def xE (o : Nat) (μ ν : jMem) (e : Nat × Nat) : Prop := jFr (xO o) μ ν ∧ gI ν 10 1 = gI μ 10 1 ∧ gI ν 10 2 = nI e.1 ∧ gI ν 10 3 = nI e.2
theorem xG.rf : xG o μ μ := ⟨jFr.rf, rfl, rfl, rfl⟩
theorem xG.trans {ν ξ : jMem} (h1 : xG o μ ν) (h2 : xG o ν ξ) : xG o μ ξ := ⟨h1.1.trans h2.1, h2.2.1.trans h1.2.1, h2.2.2.1.trans h1.2.2.1, h2.2.2.2.trans h1.2.2.2⟩
theorem xG.e {ν ξ : jMem} {e : Nat × Nat} (h1 : xG o μ ν) (h2 : xE o ν ξ e) : xE o μ ξ e := ⟨h1.1.trans h2.1, h2.2.1.trans h1.2.1, h2.2.2.1, h2.2.2.2⟩
theorem xG.of {ν : jMem} (h : xFr μ ν) : xG o μ ν := ⟨h.1.mono (fun a ha => xO_in (Or.inl (by simpa using ha))), h.2 1 (by omega) (by omega) (by omega), h.2 2 (by omega) (by omega) (by omega), h.2 3 (by omega) (by omega) (by omega)⟩
theorem xG.sI {ν : jMem} {a i : Nat} {v : Int32} (h : xG o μ ν) (ha : (o ≤ a ∧ a ≤ o + 8 ∧ a ≠ 10) ∨ (a = 10 ∧ 4 ≤ i)) : xG o μ (sI ν a i v) := ⟨h.1.trans (jFr.sI (xO_in (by omega))), by rw [gI_sI, if_neg (by omega)]; exact h.2.1, by rw [gI_sI, if_neg (by omega)]; exact h.2.2.1, by rw [gI_sI, if_neg (by omega)]; exact h.2.2.2⟩
theorem xG.sL {ν : jMem} {a i : Nat} {v : Int64} (h : xG o μ ν) (ha : o ≤ a ∧ a ≤ o + 8) : xG o μ (sL ν a i v) := ⟨h.1.trans (jFr.sL (xO_in (by omega))), h.2.1, h.2.2.1, h.2.2.2⟩
theorem xE.wr {ν : jMem} {a b : Nat} (h : xG o μ ν) : xE o μ (sI (sI ν 10 2 (nI a)) 10 3 (nI b)) (a, b) := ⟨(h.1.trans (jFr.sI (xO_in (by omega)))).trans (jFr.sI (xO_in (by omega))), by rw [gI_sI, if_neg (by omega), gI_sI, if_neg (by omega)]; exact h.2.1, by rw [gI_sI, if_neg (by omega), gI_sI, if_pos ⟨rfl, rfl⟩], by rw [gI_sI, if_pos ⟨rfl, rfl⟩]⟩
theorem xS.fr {ν : jMem} {p' : Nat} (ho : jTO o) (h : xS B n T o p μ) (F : xFr μ ν) (hT : xTk B n p' ν) : xS B n T o p' ν := by
  obtain ⟨s1, s2, s3, s4, s5, s6, s7⟩ := h
  have ob := jTO_b ho
  exact ⟨F.tp s1, hT, jTY_fr (by simp; omega) F.1 s3, fun i hi => by rw [(F.1.1 (o + 1) (by simp; omega)).2]; exact s4 i hi, (F.2 5 (by omega) (by omega) (by omega)).trans s5, (F.2 6 (by omega) (by omega) (by omega)).trans s6, (F.1.2.1 10 4).trans s7⟩
theorem xTk_of {ν : jMem} (h8 : gI ν 10 8 = gI μ 10 8) (h9 : gI ν 10 9 = gI μ 10 9) (h10 : gI ν 10 10 = gI μ 10 10) (h11 : gL ν 10 11 = gL μ 10 11) (h : xTk B n p μ) : xTk B n p ν := ⟨h8.trans h.1, h9.trans h.2.1, h10.trans h.2.2.1, fun z => h11.trans (h.2.2.2.1 z), fun z => h11.trans (h.2.2.2.2 z)⟩
theorem addP_Le {i k : Nat} : tLe (addP T x) i k = tLe T i k := by
  unfold tLe
  rw [show tL (addP T x) i k = tL T i k from addP_5 (by omega) (by omega), show tO (addP T x) (tL T i k) = tO T (tL T i k) from addP_5 (by omega) (by omega), show tQ (addP T x) (tL T i k) = tQ T (tL T i k) from addP_5 (by omega) (by omega)]
theorem xS_addP {pos : Nat} (ho : jTO o) (h8 : tP T < 8) (h : xS B n T o p μ) : xS B n (addP T pos) o p (sI (sI (sI (sI (sI (sL μ (o + 1) (tP T) (lN (qX B n pos))) (o + 2) (tP T) 0) (o + 3) (tP T) 1) (o + 4) (tP T) 1) (o + 5) (tP T) 0) o 0 (nI (tP T + 1))) := by
  obtain ⟨s1, s2, s3, s4, s5, s6, s7⟩ := h
  have ob := jTO_b ho
  obtain ⟨⟨a1, a2, a3, a4, a5, a6⟩, b, c, e⟩ := s3
  refine ⟨xTp_of (by (repeat (first | rw [gI_sL] | rw [gI_sI, if_neg (by omega)]))) (fun k => by (repeat (first | rw [gI_sL] | rw [gI_sI, if_neg (by omega)]))) s1, xTk_of (by (repeat (first | rw [gI_sL] | rw [gI_sI, if_neg (by omega)]))) (by (repeat (first | rw [gI_sL] | rw [gI_sI, if_neg (by omega)]))) (by (repeat (first | rw [gI_sL] | rw [gI_sI, if_neg (by omega)]))) (by (repeat rw [gL_sI]); rw [gL_sL, if_neg (by omega)]) s2, ⟨⟨?_, ?_, ?_, ?_, ?_, ?_⟩, fun i hi => ?_, fun i k hi hk => ?_, fun l hl => ?_⟩, fun i hi => ?_, ?_, ?_, s7⟩
  · rw [gI_sI, if_pos ⟨rfl, rfl⟩, addP_P]
  · (repeat (first | rw [gI_sL] | rw [gI_sI, if_neg (by omega)]))
    rw [addP_Ln]
    exact a2
  · (repeat (first | rw [gI_sL] | rw [gI_sI, if_neg (by omega)]))
    rw [show tCr (addP T pos) = tCr T from addP_0 (by omega)]
    exact a3
  · (repeat (first | rw [gI_sL] | rw [gI_sI, if_neg (by omega)]))
    rw [show tSl (addP T pos) = tSl T from addP_0 (by omega)]
    exact a4
  · (repeat (first | rw [gI_sL] | rw [gI_sI, if_neg (by omega)]))
    rw [show tHe (addP T pos) = tHe T from addP_0 (by omega)]
    exact a5
  · (repeat (first | rw [gI_sL] | rw [gI_sI, if_neg (by omega)]))
    rw [show tMk (addP T pos) = tMk T from addP_0 (by omega)]
    exact a6
  · rw [addP_P] at hi
    rw [show tSi (addP T pos) i = _ from addP_a (by omega) (by omega), show tFi (addP T pos) i = _ from addP_a (by omega) (by omega), show tSe (addP T pos) i = _ from addP_a (by omega) (by omega), addP_D]
    by_cases z : i = tP T
    · simp only [if_pos z]
      refine ⟨?_, ?_, ?_, ?_⟩
      · (repeat (first | rw [gI_sL] | rw [gI_sI, if_neg (by omega)]))
        rw [gI_sI, if_pos ⟨rfl, z⟩]
        rfl
      · (repeat (first | rw [gI_sL] | rw [gI_sI, if_neg (by omega)]))
        rw [gI_sI, if_pos ⟨rfl, z⟩]
        rfl
      · (repeat (first | rw [gI_sL] | rw [gI_sI, if_neg (by omega)]))
        rw [gI_sI, if_pos ⟨rfl, z⟩]
        rfl
      · (repeat (first | rw [gI_sL] | rw [gI_sI, if_neg (by omega)]))
        rw [gI_sI, if_pos ⟨rfl, z⟩]
        rfl
    · simp only [if_neg z]
      obtain ⟨b1, b2, b3, b4⟩ := b i (by omega)
      refine ⟨?_, ?_, ?_, ?_⟩
      · (repeat (first | rw [gI_sL] | rw [gI_sI, if_neg (by omega)]))
        exact b1
      · (repeat (first | rw [gI_sL] | rw [gI_sI, if_neg (by omega)]))
        exact b2
      · (repeat (first | rw [gI_sL] | rw [gI_sI, if_neg (by omega)]))
        exact b3
      · (repeat (first | rw [gI_sL] | rw [gI_sI, if_neg (by omega)]))
        exact b4
  · rw [addP_P] at hi
    rw [addP_D] at hk
    by_cases z : i = tP T
    · rw [if_pos z] at hk
      omega
    · rw [if_neg z] at hk
      obtain ⟨c1, c2⟩ := c i k (by omega) hk
      rw [show tL (addP T pos) i k = tL T i k from addP_5 (by omega) (by omega), addP_Le]
      refine ⟨?_, ?_⟩
      · (repeat (first | rw [gI_sL] | rw [gI_sI, if_neg (by omega)]))
        exact c1
      · (repeat (first | rw [gI_sL] | rw [gI_sI, if_neg (by omega)]))
        exact c2
  · rw [addP_Ln] at hl
    rw [show tSh (addP T pos) l = tSh T l from addP_5 (by omega) (by omega)]
    (repeat (first | rw [gI_sL] | rw [gI_sI, if_neg (by omega)]))
    exact e l hl
  · rw [addP_P] at hi
    rw [addP_9]
    (repeat rw [gL_sI])
    rw [gL_sL]
    by_cases z : i = tP T
    · rw [if_pos ⟨rfl, z⟩, if_pos z]
    · rw [if_neg (fun y => z y.2), if_neg z]
      exact s4 i (by omega)
  · rw [addP_0 (by omega)]
    (repeat (first | rw [gI_sL] | rw [gI_sI, if_neg (by omega)]))
    exact s5
  · rw [addP_0 (by omega)]
    (repeat (first | rw [gI_sL] | rw [gI_sI, if_neg (by omega)]))
    exact s6
theorem xS_setF {f v : Nat} (ho : jTO o) (hf : f < 3) (h1 : 0 < tP T) (h : xS B n T o p μ) : xS B n (setF T f v) o p (sI μ (o + 2 + f) (tP T - 1) (nI v)) := by
  obtain ⟨s1, s2, s3, s4, s5, s6, s7⟩ := h
  have ob := jTO_b ho
  obtain ⟨⟨a1, a2, a3, a4, a5, a6⟩, b, c, e⟩ := s3
  have o0 : ∀ b, setF T f v 0 b 0 = T 0 b 0 := fun b => setF_o (by omega)
  have o4 : ∀ a b c, 4 ≤ a → setF T f v a b c = T a b c := fun a b c ha => setF_o (by omega)
  have eLe : ∀ i k, tLe (setF T f v) i k = tLe T i k := fun i k => by
    unfold tLe
    rw [show tL (setF T f v) i k = tL T i k from o4 5 i k (by omega), show tO (setF T f v) (tL T i k) = tO T (tL T i k) from o4 6 _ 0 (by omega), show tQ (setF T f v) (tL T i k) = tQ T (tL T i k) from o4 7 _ 0 (by omega)]
  have g : ∀ a i, ¬ (a = o + 2 + f ∧ i = tP T - 1) → gI (sI μ (o + 2 + f) (tP T - 1) (nI v)) a i = gI μ a i := fun a i z => by rw [gI_sI, if_neg z]
  refine ⟨xTp_of (g _ _ (by omega)) (fun k => g _ _ (by omega)) s1, xTk_of (g _ _ (by omega)) (g _ _ (by omega)) (g _ _ (by omega)) rfl s2, ⟨⟨?_, ?_, ?_, ?_, ?_, ?_⟩, fun i hi => ?_, fun i k hi hk => ?_, fun l hl => ?_⟩, fun i hi => ?_, ?_, ?_, s7⟩
  · rw [g _ _ (by omega), setF_P]
    exact a1
  · rw [g _ _ (by omega), show tLn (setF T f v) = tLn T from o0 1]
    exact a2
  · rw [g _ _ (by omega), show tCr (setF T f v) = tCr T from o0 4]
    exact a3
  · rw [g _ _ (by omega), show tSl (setF T f v) = tSl T from o0 2]
    exact a4
  · rw [g _ _ (by omega), show tHe (setF T f v) = tHe T from o0 3]
    exact a5
  · rw [g _ _ (by omega), show tMk (setF T f v) = tMk T from o0 5]
    exact a6
  · rw [setF_P] at hi
    obtain ⟨b1, b2, b3, b4⟩ := b i hi
    rw [show tSi (setF T f v) i = _ from setF_a, show tFi (setF T f v) i = _ from setF_a, show tSe (setF T f v) i = _ from setF_a, show tD (setF T f v) i = tD T i from o4 4 i 0 (by omega), gI_sI, gI_sI, gI_sI, gI_sI]
    refine ⟨?_, ?_, ?_, ?_⟩
    · by_cases z : 1 = f + 1 ∧ i = tP T - 1
      · rw [if_pos z, if_pos (by omega)]
      · rw [if_neg z, if_neg (by omega)]
        exact b1
    · by_cases z : 2 = f + 1 ∧ i = tP T - 1
      · rw [if_pos z, if_pos (by omega)]
      · rw [if_neg z, if_neg (by omega)]
        exact b2
    · by_cases z : 3 = f + 1 ∧ i = tP T - 1
      · rw [if_pos z, if_pos (by omega)]
      · rw [if_neg z, if_neg (by omega)]
        exact b3
    · rw [if_neg (by omega)]
      exact b4
  · rw [setF_P] at hi
    rw [show tD (setF T f v) i = tD T i from o4 4 i 0 (by omega)] at hk
    obtain ⟨c1, c2⟩ := c i k hi hk
    rw [show tL (setF T f v) i k = tL T i k from o4 5 i k (by omega), eLe, g _ _ (by omega), g _ _ (by omega)]
    exact ⟨c1, c2⟩
  · rw [show tLn (setF T f v) = tLn T from o0 1] at hl
    rw [show tSh (setF T f v) l = tSh T l from o4 8 l 0 (by omega), g _ _ (by omega)]
    exact e l hl
  · rw [setF_P] at hi
    rw [o4 9 i 0 (by omega)]
    exact s4 i hi
  · rw [g _ _ (by omega), o0 6]
    exact s5
  · rw [g _ _ (by omega), o0 7]
    exact s6
/-- a number of the town itself -/
theorem xS_setN {i v j : Nat} {ν : jMem} (ho : jTO o) (hi : (i = 2 ∧ j = 6) ∨ (i = 3 ∧ j = 7) ∨ (i = 4 ∧ j = 4 ∧ v = 1)) (h : xS B n T o p μ) (hg : ∀ a k, ¬ (a = 10 ∧ (k = 5 ∨ k = 6)) → ¬ (a = o ∧ 2 ≤ k ∧ k ≤ 4) → gI ν a k = gI μ a k) (hL : ∀ a k, gL ν a k = gL μ a k) (hR : gR ν 10 4 = gR μ 10 4) (e2 : gI ν o 2 = nI (if i = 4 then v else tCr T)) (e3 : gI ν o 3 = nI (if i = 2 then v else tSl T)) (e4 : gI ν o 4 = nI (if i = 3 then v else tHe T)) (e5 : gI ν 10 5 = nI (if i = 2 then 1 else T 0 6 0)) (e6 : gI ν 10 6 = nI (if i = 3 then 1 else T 0 7 0)) : xS B n (setN T i v j) o p ν := by
  obtain ⟨s1, s2, s3, s4, s5, s6, s7⟩ := h
  have ob := jTO_b ho
  obtain ⟨⟨a1, a2, a3, a4, a5, a6⟩, b, c, e⟩ := s3
  have on : ∀ a b c, a ≠ 0 → setN T i v j a b c = T a b c := fun a b c ha => setN_o ha
  have eP : tP (setN T i v j) = tP T := by
    show setN T i v j 0 0 0 = _
    rw [setN_0, if_neg (by omega), if_neg (by omega)]
    rfl
  have eLn : tLn (setN T i v j) = tLn T := by
    show setN T i v j 0 1 0 = _
    rw [setN_0, if_neg (by omega), if_neg (by omega)]
    rfl
  have eLe : ∀ p k, tLe (setN T i v j) p k = tLe T p k := fun p k => by
    unfold tLe
    rw [show tL (setN T i v j) p k = tL T p k from on 5 p k (by omega), show tO (setN T i v j) (tL T p k) = tO T (tL T p k) from on 6 _ 0 (by omega), show tQ (setN T i v j) (tL T p k) = tQ T (tL T p k) from on 7 _ 0 (by omega)]
  refine ⟨xTp_of (hg _ _ (by omega) (by omega)) (fun k => hg _ _ (by omega) (by omega)) s1, xTk_of (hg _ _ (by omega) (by omega)) (hg _ _ (by omega) (by omega)) (hg _ _ (by omega) (by omega)) (hL _ _) s2, ⟨⟨?_, ?_, ?_, ?_, ?_, ?_⟩, fun p hp => ?_, fun p k hp hk => ?_, fun l hl => ?_⟩, fun p hp => ?_, ?_, ?_, hR.trans s7⟩
  · rw [hg _ _ (by omega) (by omega), eP]
    exact a1
  · rw [hg _ _ (by omega) (by omega), eLn]
    exact a2
  · rw [e2]
    show _ = nI (setN T i v j 0 4 0)
    rw [setN_0]
    by_cases z : i = 4
    · rw [if_pos z, if_pos z.symm]
    · rw [if_neg z, if_neg (by omega), if_neg (by omega)]
      rfl
  · rw [e3]
    show _ = nI (setN T i v j 0 2 0)
    rw [setN_0]
    by_cases z : i = 2
    · rw [if_pos z, if_pos z.symm]
    · rw [if_neg z, if_neg (by omega), if_neg (by omega)]
      rfl
  · rw [e4]
    show _ = nI (setN T i v j 0 3 0)
    rw [setN_0]
    by_cases z : i = 3
    · rw [if_pos z, if_pos z.symm]
    · rw [if_neg z, if_neg (by omega), if_neg (by omega)]
      rfl
  · rw [hg _ _ (by omega) (by omega)]
    show _ = nI (setN T i v j 0 5 0)
    rw [setN_0, if_neg (by omega), if_neg (by omega)]
    exact a6
  · rw [eP] at hp
    rw [show tSi (setN T i v j) p = tSi T p from on 1 p 0 (by omega), show tFi (setN T i v j) p = tFi T p from on 2 p 0 (by omega), show tSe (setN T i v j) p = tSe T p from on 3 p 0 (by omega), show tD (setN T i v j) p = tD T p from on 4 p 0 (by omega), hg _ _ (by omega) (by omega), hg _ _ (by omega) (by omega), hg _ _ (by omega) (by omega), hg _ _ (by omega) (by omega)]
    exact b p hp
  · rw [eP] at hp
    rw [show tD (setN T i v j) p = tD T p from on 4 p 0 (by omega)] at hk
    rw [show tL (setN T i v j) p k = tL T p k from on 5 p k (by omega), eLe, hg _ _ (by omega) (by omega), hg _ _ (by omega) (by omega)]
    exact c p k hp hk
  · rw [eLn] at hl
    rw [show tSh (setN T i v j) l = tSh T l from on 8 l 0 (by omega), hg _ _ (by omega) (by omega)]
    exact e l hl
  · rw [eP] at hp
    rw [on 9 p 0 (by omega), hL]
    exact s4 p hp
  · rw [e5, setN_0]
    by_cases z : i = 2
    · rw [if_pos z, if_neg (by omega), if_pos (by omega)]
    · rw [if_neg z, if_neg (by omega), if_neg (by omega)]
  · rw [e6, setN_0]
    by_cases z : i = 3
    · rw [if_pos z, if_neg (by omega), if_pos (by omega)]
    · rw [if_neg z, if_neg (by omega), if_neg (by omega)]
/-- a lane more -/
def xLm (T : jT) (o x y : Nat) (μ : jMem) : jMem := sI (sI (sI (sI (sI (sI (sI (sI μ (o + 7) (4 * x + tD T x) (nI y)) (o + 6) (4 * x + tD T x) (nI (tLn T))) (o + 5) x (nI (tD T x + 1))) (o + 7) (4 * y + tD T y) (nI x)) (o + 6) (4 * y + tD T y) (nI (tLn T))) (o + 5) y (nI (tD T y + 1))) (o + 8) (tLn T) 0) o 1 (nI (tLn T + 1))
theorem xS_addL (ho : jTO o) (hT : jTok T) (hx : x < tP T) (hy : y < tP T) (hne : x ≠ y) (h12 : tLn T < 12) (dx : tD T x < 4) (dy : tD T y < 4) (h : xS B n T o p μ) : xS B n (addL T x y) o p (xLm T o x y μ) := by
  obtain ⟨s1, s2, s3, s4, s5, s6, s7⟩ := h
  have ob := jTO_b ho
  have hD4 : ∀ i, i < tP T → tD T i ≤ 4 := fun i hi => (hT.2.1 i hi).2.2.2
  have hLn : ∀ i k, i < tP T → k < tD T i → tL T i k < tLn T := fun i k hi hk => (hT.2.2.1 i k hi hk).1
  obtain ⟨⟨a1, a2, a3, a4, a5, a6⟩, b, c, e⟩ := s3
  unfold xLm
  refine ⟨xTp_of (by (repeat rw [gI_sI, if_neg (by omega)])) (fun k => by (repeat rw [gI_sI, if_neg (by omega)])) s1, xTk_of (by (repeat rw [gI_sI, if_neg (by omega)])) (by (repeat rw [gI_sI, if_neg (by omega)])) (by (repeat rw [gI_sI, if_neg (by omega)])) (by (repeat rw [gL_sI])) s2, ⟨⟨?_, ?_, ?_, ?_, ?_, ?_⟩, fun i hi => ?_, fun i k hi hk => ?_, fun l hl => ?_⟩, fun i hi => ?_, ?_, ?_, s7⟩
  · (repeat rw [gI_sI, if_neg (by omega)])
    rw [addL_P]
    exact a1
  · rw [gI_sI, if_pos ⟨rfl, rfl⟩, addL_Ln]
  · (repeat rw [gI_sI, if_neg (by omega)])
    rw [show tCr (addL T x y) = tCr T from addL_0 (by omega)]
    exact a3
  · (repeat rw [gI_sI, if_neg (by omega)])
    rw [show tSl (addL T x y) = tSl T from addL_0 (by omega)]
    exact a4
  · (repeat rw [gI_sI, if_neg (by omega)])
    rw [show tHe (addL T x y) = tHe T from addL_0 (by omega)]
    exact a5
  · (repeat rw [gI_sI, if_neg (by omega)])
    rw [show tMk (addL T x y) = tMk T from addL_0 (by omega)]
    exact a6
  · rw [addL_P] at hi
    obtain ⟨b1, b2, b3, b4⟩ := b i hi
    rw [show tSi (addL T x y) i = tSi T i from addL_p (by omega), show tFi (addL T x y) i = tFi T i from addL_p (by omega), show tSe (addL T x y) i = tSe T i from addL_p (by omega), addL_D]
    refine ⟨?_, ?_, ?_, ?_⟩
    · (repeat rw [gI_sI, if_neg (by omega)])
      exact b1
    · (repeat rw [gI_sI, if_neg (by omega)])
      exact b2
    · (repeat rw [gI_sI, if_neg (by omega)])
      exact b3
    · by_cases z1 : i = x
      · rw [if_pos z1]
        (repeat rw [gI_sI, if_neg (by omega)])
        rw [gI_sI, if_pos ⟨rfl, z1⟩]
      · rw [if_neg z1]
        by_cases z2 : i = y
        · rw [if_pos z2]
          (repeat rw [gI_sI, if_neg (by omega)])
          rw [gI_sI, if_pos ⟨rfl, z2⟩]
        · rw [if_neg z2]
          (repeat rw [gI_sI, if_neg (by omega)])
          exact b4
  · rw [addL_P] at hi
    rw [addL_D] at hk
    have hx4 := hD4 x hx
    have hy4 := hD4 y hy
    by_cases z1 : i = x ∧ k = tD T x
    · have e1 : tL (addL T x y) i k = tLn T := by rw [addL_L, if_pos z1]
      have e2 : tLe (addL T x y) i k = y := by
        unfold tLe
        rw [e1, addL_O, if_pos rfl, if_pos z1.1.symm, addL_Q, if_pos rfl]
      rw [e1, e2, z1.1, z1.2]
      refine ⟨?_, ?_⟩
      · (repeat rw [gI_sI, if_neg (by omega)])
        rw [gI_sI, if_pos ⟨rfl, rfl⟩]
      · (repeat rw [gI_sI, if_neg (by omega)])
        rw [gI_sI, if_pos ⟨rfl, rfl⟩]
    · by_cases z2 : i = y ∧ k = tD T y
      · have e1 : tL (addL T x y) i k = tLn T := by rw [addL_L, if_neg z1, if_pos z2]
        have e2 : tLe (addL T x y) i k = x := by
          unfold tLe
          rw [e1, addL_O, if_pos rfl, if_neg (fun z => hne (z.trans z2.1)), ]
        rw [e1, e2, z2.1, z2.2]
        refine ⟨?_, ?_⟩
        · (repeat rw [gI_sI, if_neg (by omega)])
          rw [gI_sI, if_pos ⟨rfl, rfl⟩]
        · (repeat rw [gI_sI, if_neg (by omega)])
          rw [gI_sI, if_pos ⟨rfl, rfl⟩]
      · have hk2 : k < tD T i := by
          by_cases q1 : i = x
          · rw [if_pos q1] at hk
            have : k ≠ tD T x := fun z => z1 ⟨q1, z⟩
            rw [q1]
            omega
          · rw [if_neg q1] at hk
            by_cases q2 : i = y
            · rw [if_pos q2] at hk
              have : k ≠ tD T y := fun z => z2 ⟨q2, z⟩
              rw [q2]
              omega
            · rw [if_neg q2] at hk
              exact hk
        have hi4 := hD4 i hi
        have hl := hLn i k hi hk2
        obtain ⟨c1, c2⟩ := c i k hi hk2
        have e1 : tL (addL T x y) i k = tL T i k := by rw [addL_L, if_neg z1, if_neg z2]
        have e2 : tLe (addL T x y) i k = tLe T i k := by
          unfold tLe
          rw [e1, addL_O, if_neg (show ¬ tL T i k = tLn T by omega), addL_Q, if_neg (show ¬ tL T i k = tLn T by omega)]
        have i1 : ¬ 4 * i + k = 4 * x + tD T x := fun z => z1 ⟨by omega, by omega⟩
        have i2 : ¬ 4 * i + k = 4 * y + tD T y := fun z => z2 ⟨by omega, by omega⟩
        rw [e1, e2]
        refine ⟨?_, ?_⟩
        · (repeat rw [gI_sI, if_neg (by omega)])
          exact c1
        · (repeat rw [gI_sI, if_neg (by omega)])
          exact c2
  · rw [addL_Ln] at hl
    rw [addL_S]
    by_cases z : l = tLn T
    · rw [if_pos z]
      (repeat rw [gI_sI, if_neg (by omega)])
      rw [gI_sI, if_pos ⟨rfl, z⟩]
      rfl
    · rw [if_neg z]
      (repeat rw [gI_sI, if_neg (by omega)])
      exact e l (by omega)
  · rw [addL_P] at hi
    rw [addL_p (by omega)]
    (repeat rw [gL_sI])
    exact s4 i hi
  · rw [addL_0 (by omega)]
    (repeat rw [gI_sI, if_neg (by omega)])
    exact s5
  · rw [addL_0 (by omega)]
    (repeat rw [gI_sI, if_neg (by omega)])
    exact s6
theorem xG_addL (ho : jTO o) : xG o μ (xLm T o x y μ) := by
  have ob := jTO_b ho
  unfold xLm
  exact (((((((xG.rf.sI (by omega)).sI (by omega)).sI (by omega)).sI (by omega)).sI (by omega)).sI (by omega)).sI (by omega)).sI (by omega)
end JTC4
