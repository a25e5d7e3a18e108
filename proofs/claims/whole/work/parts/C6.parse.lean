/-! town: what a text tells, as a function of it -/
section JTC1
variable {B : Nat → Nat} {n p q s k j w x y : Nat} {T : jT}
def bW (B : Nat → Nat) (n p w : Nat) : Bool := decide (qK B n p = 1) && decide (qL B n p ≤ 8) && decide (qX B n p = kX w)
def bNm (B : Nat → Nat) (n p : Nat) : Bool := decide (qK B n p = 1) && decide (qL B n p ≤ 8) && (List.range 9).all (fun w => !decide (qX B n p = kX w))
theorem bW_i : bW B n p w = true ↔ qW B n p w := by
  unfold bW qW
  simp only [Bool.and_eq_true, decide_eq_true_eq, and_assoc]
theorem bNm_i : bNm B n p = true ↔ qNm B n p := by
  unfold bNm qNm
  simp only [Bool.and_eq_true, decide_eq_true_eq, List.all_eq_true, List.mem_range, Bool.not_eq_true', decide_eq_false_iff_not, and_assoc, ne_eq]
/-- a text's town, while it is read: T 0 6, T 0 7: slow, hears told; T 9 p: where the name of a place stands -/
def tT0 : jT := fun a b c => if a = 0 ∧ b = 2 ∧ c = 0 then 1 else 0
def addP (T : jT) (pos : Nat) : jT := fun a b c => if a = 0 ∧ b = 0 ∧ c = 0 then tP T + 1 else if b = tP T ∧ c = 0 ∧ 1 ≤ a ∧ a ≤ 4 then (if a = 2 ∨ a = 3 then 1 else 0) else if a = 9 ∧ b = tP T ∧ c = 0 then pos else T a b c
def setF (T : jT) (f v : Nat) : jT := fun a b c => if a = f + 1 ∧ b = tP T - 1 ∧ c = 0 then v else T a b c
def addL (T : jT) (x y : Nat) : jT := fun a b c => if a = 0 ∧ b = 1 ∧ c = 0 then tLn T + 1 else if a = 6 ∧ b = tLn T ∧ c = 0 then x else if a = 7 ∧ b = tLn T ∧ c = 0 then y else if a = 8 ∧ b = tLn T ∧ c = 0 then 0 else if a = 5 ∧ b = x ∧ c = tD T x then tLn T else if a = 5 ∧ b = y ∧ c = tD T y then tLn T else if a = 4 ∧ b = x ∧ c = 0 then tD T x + 1 else if a = 4 ∧ b = y ∧ c = 0 then tD T y + 1 else T a b c
def setN (T : jT) (i v j : Nat) : jT := fun a b c => if a = 0 ∧ b = i ∧ c = 0 then v else if a = 0 ∧ b = j ∧ c = 0 then 1 else T a b c
def fdF (B : Nat → Nat) (n : Nat) (T : jT) (pos : Nat) : Nat → Nat → Option Nat
  | 0, _ => none
  | k + 1, i => if qX B n (T 9 i 0) = qX B n pos then some i else fdF B n T pos k (i + 1)
def fd (B : Nat → Nat) (n : Nat) (T : jT) (pos : Nat) : Option Nat := fdF B n T pos (tP T) 0
def jnd (T : jT) (x y : Nat) : Bool := sAny (fun l => decide ((tO T l = x ∧ tQ T l = y) ∨ (tO T l = y ∧ tQ T l = x))) (tLn T) 0
abbrev pR : Type := Sum (Nat × Nat) (jT × Nat)
def pWr (B : Nat → Nat) (n p f : Nat) : pR := .inl (wrK B n p f, qS B n p)
def fHi (f : Nat) : Nat := if f = 0 then 5 else 9
def pFeat (B : Nat → Nat) (n : Nat) : Nat → Nat → jT → Nat → pR
  | 0, _, T, p => .inr (T, p)
  | k + 1, had, T, p => match qFt B n p with
    | none => .inr (T, p)
    | some f => if had.testBit f = true then pWr B n p 5 else if qK B n (qE B n p) ≠ 2 then pWr B n (qE B n p) 2 else if fHi f < qN B n (qE B n p) then pWr B n (qE B n p) 4 else pFeat B n k (had ||| 2 ^ f) (setF T f (qN B n (qE B n p))) (qE B n (qE B n p))
def pPlace (B : Nat → Nat) (n : Nat) (T : jT) (p : Nat) : pR := if bNm B n (qE B n p) = true then (match fd B n T (qE B n p) with
  | some _ => pWr B n (qE B n p) 3
  | none => if tP T = 8 then pWr B n (qE B n p) 6 else pFeat B n 4 0 (addP T (qE B n p)) (qE B n (qE B n p))) else pWr B n (qE B n p) 2
def pLaneTo (B : Nat → Nat) (n : Nat) (T : jT) (x p : Nat) : pR := if bNm B n p = true then (match fd B n T p with
  | none => pWr B n p 3
  | some y => if y = x then pWr B n p 5 else if tD T y = 4 ∨ jnd T x y = true then pWr B n p 6 else .inr (addL T x y, qE B n p)) else pWr B n p 2
def pLane (B : Nat → Nat) (n : Nat) (T : jT) (p : Nat) : pR := if tLn T = 12 then pWr B n p 6 else if bNm B n (qE B n p) = true then (match fd B n T (qE B n p) with
  | none => pWr B n (qE B n p) 3
  | some x => if tD T x = 4 then pWr B n (qE B n p) 6 else if bW B n (qE B n (qE B n p)) 2 = true then pLaneTo B n T x (qE B n (qE B n (qE B n p))) else pWr B n (qE B n (qE B n p)) 2) else pWr B n (qE B n p) 2
def pCross (B : Nat → Nat) (n : Nat) (T : jT) (p : Nat) : pR := if tCr T ≠ 0 then pWr B n p 5 else .inr (setN T 4 1 4, qE B n p)
def pOnce (B : Nat → Nat) (n : Nat) (T : jT) (p i j a b : Nat) : pR := if T 0 j 0 ≠ 0 then pWr B n p 5 else if qK B n (qE B n p) ≠ 2 then pWr B n (qE B n p) 2 else if a ≤ qN B n (qE B n p) ∧ qN B n (qE B n p) ≤ b then .inr (setN T i (qN B n (qE B n p)) j, qE B n (qE B n p)) else pWr B n (qE B n p) 4
def pBody (B : Nat → Nat) (n : Nat) (T : jT) (p : Nat) : pR := if bW B n p 0 = true then pPlace B n T p else if bW B n p 1 = true then pLane B n T p else if bW B n p 3 = true then pCross B n T p else if bW B n p 4 = true then pOnce B n T p 2 6 1 4 else if bW B n p 5 = true then pOnce B n T p 3 7 0 3 else pWr B n p 2
def pPart (B : Nat → Nat) (n : Nat) (T : jT) (p : Nat) : pR := match pBody B n T p with
  | .inl e => .inl e
  | .inr (T', p') => if qK B n p' = 3 then .inr (T', qE B n p') else pWr B n p' 2
def pAll (B : Nat → Nat) (n : Nat) : Nat → jT → Nat → Sum (Nat × Nat) jT
  | 0, T, _ => .inr T
  | k + 1, T, p => if qK B n p = 0 then .inr T else match pPart B n T p with
    | .inl e => .inl e
    | .inr (T', p') => pAll B n k T' p'
/-! reading what was added -/
theorem addP_P : tP (addP T x) = tP T + 1 := by simp [addP, tP]
theorem addP_Ln : tLn (addP T x) = tLn T := by simp [addP, tLn]
theorem addP_0 {b : Nat} (hb : b ≠ 0) : addP T x 0 b 0 = T 0 b 0 := by simp [addP, hb]
theorem addP_a {a i : Nat} (h1 : 1 ≤ a) (h4 : a ≤ 4) : addP T x a i 0 = if i = tP T then (if a = 2 ∨ a = 3 then 1 else 0) else T a i 0 := by
  unfold addP
  rw [if_neg (by omega)]
  by_cases e : i = tP T
  · rw [if_pos ⟨e, rfl, h1, h4⟩, if_pos e]
  · rw [if_neg (fun z => e z.1), if_neg e, if_neg (by omega)]
theorem addP_5 {a i c : Nat} (h5 : 5 ≤ a) (h9 : a ≠ 9) : addP T x a i c = T a i c := by
  unfold addP
  rw [if_neg (by omega), if_neg (by omega), if_neg (by omega)]
theorem addP_9 {i : Nat} : addP T x 9 i 0 = if i = tP T then x else T 9 i 0 := by
  unfold addP
  rw [if_neg (by omega), if_neg (by omega)]
  by_cases e : i = tP T
  · rw [if_pos ⟨rfl, e, rfl⟩, if_pos e]
  · rw [if_neg (fun z => e z.2.1), if_neg e]
theorem addP_D {i : Nat} : tD (addP T x) i = if i = tP T then 0 else tD T i := by
  show addP T x 4 i 0 = _
  rw [addP_a (by omega) (by omega)]
  rfl
theorem addP_ok (h : jTok T) (h8 : tP T < 8) : jTok (addP T x) := by
  obtain ⟨⟨g1, g2, g3, g4, g5, g6⟩, a, b, c⟩ := h
  refine ⟨⟨by rw [addP_P]; omega, by rw [addP_Ln]; exact g2, by rw [show tSl (addP T x) = tSl T from addP_0 (by omega)]; exact g3, by rw [show tHe (addP T x) = tHe T from addP_0 (by omega)]; exact g4, by rw [show tCr (addP T x) = tCr T from addP_0 (by omega)]; exact g5, by rw [show tMk (addP T x) = tMk T from addP_0 (by omega)]; exact g6⟩, fun i hi => ?_, fun i k hi hk => ?_, fun l hl => ?_⟩
  · rw [addP_P] at hi
    rw [show tSi (addP T x) i = _ from addP_a (by omega) (by omega), show tFi (addP T x) i = _ from addP_a (by omega) (by omega), show tSe (addP T x) i = _ from addP_a (by omega) (by omega), addP_D]
    by_cases e : i = tP T
    · simp only [if_pos e]
      exact ⟨by decide, by decide, by decide, by decide⟩
    · simp only [if_neg e]
      exact a i (by omega)
  · rw [addP_P] at hi
    rw [addP_D] at hk
    by_cases e : i = tP T
    · rw [if_pos e] at hk
      omega
    · rw [if_neg e] at hk
      rw [addP_Ln, show tL (addP T x) i k = tL T i k from addP_5 (by omega) (by omega), show tO (addP T x) (tL T i k) = tO T (tL T i k) from addP_5 (by omega) (by omega), show tQ (addP T x) (tL T i k) = tQ T (tL T i k) from addP_5 (by omega) (by omega)]
      exact b i k (by omega) hk
  · rw [addP_Ln] at hl
    obtain ⟨c1, c2, c3, c4, ⟨k1, k2, k3⟩, j1, j2, j3⟩ := c l hl
    rw [show tSh (addP T x) l = tSh T l from addP_5 (by omega) (by omega), show tO (addP T x) l = tO T l from addP_5 (by omega) (by omega), show tQ (addP T x) l = tQ T l from addP_5 (by omega) (by omega), addP_P]
    refine ⟨c1, by omega, by omega, c4, ⟨k1, ?_, ?_⟩, j1, ?_, ?_⟩
    · rw [addP_D, if_neg (by omega)]
      exact k2
    · exact (addP_5 (by omega) (by omega)).trans k3
    · rw [addP_D, if_neg (by omega)]
      exact j2
    · exact (addP_5 (by omega) (by omega)).trans j3
theorem setF_P {f v : Nat} : tP (setF T f v) = tP T := by
  show setF T f v 0 0 0 = T 0 0 0
  unfold setF
  rw [if_neg (by omega)]
theorem setF_o {f v a b c : Nat} (h : a ≠ f + 1) : setF T f v a b c = T a b c := by
  unfold setF
  rw [if_neg (fun z => h z.1)]
theorem setF_s {f v i : Nat} : setF T f v (f + 1) i 0 = if i = tP T - 1 then v else T (f + 1) i 0 := by
  unfold setF
  by_cases e : i = tP T - 1
  · rw [if_pos ⟨rfl, e, rfl⟩, if_pos e]
  · rw [if_neg (fun z => e z.2.1), if_neg e]
theorem setF_a {f v a i : Nat} : setF T f v a i 0 = if a = f + 1 ∧ i = tP T - 1 then v else T a i 0 := by
  unfold setF
  by_cases e : a = f + 1 ∧ i = tP T - 1
  · rw [if_pos ⟨e.1, e.2, rfl⟩, if_pos e]
  · rw [if_neg (fun z => e ⟨z.1, z.2.1⟩), if_neg e]
theorem setF_ok {f v : Nat} (hf : f < 3) (hv : v ≤ fHi f) (h : jTok T) : jTok (setF T f v) := by
  obtain ⟨g, a, b, c⟩ := h
  have o0 : ∀ b, setF T f v 0 b 0 = T 0 b 0 := fun b => setF_o (by omega)
  have o4 : ∀ a b c, 4 ≤ a → setF T f v a b c = T a b c := fun a b c ha => setF_o (by omega)
  have eP : tP (setF T f v) = tP T := o0 0
  have eLn : tLn (setF T f v) = tLn T := o0 1
  have eD : ∀ i, tD (setF T f v) i = tD T i := fun i => o4 4 i 0 (by omega)
  have eL : ∀ i k, tL (setF T f v) i k = tL T i k := fun i k => o4 5 i k (by omega)
  have eO : ∀ l, tO (setF T f v) l = tO T l := fun l => o4 6 l 0 (by omega)
  have eQ : ∀ l, tQ (setF T f v) l = tQ T l := fun l => o4 7 l 0 (by omega)
  have eS : ∀ l, tSh (setF T f v) l = tSh T l := fun l => o4 8 l 0 (by omega)
  refine ⟨⟨by rw [eP]; exact g.1, by rw [eLn]; exact g.2.1, by rw [show tSl (setF T f v) = tSl T from o0 2]; exact g.2.2.1, by rw [show tHe (setF T f v) = tHe T from o0 3]; exact g.2.2.2.1, by rw [show tCr (setF T f v) = tCr T from o0 4]; exact g.2.2.2.2.1, by rw [show tMk (setF T f v) = tMk T from o0 5]; exact g.2.2.2.2.2⟩, fun i hi => ?_, fun i k hi hk => ?_, fun l hl => ?_⟩
  · rw [eP] at hi
    obtain ⟨a1, a2, a3, a4⟩ := a i hi
    rw [show tSi (setF T f v) i = _ from setF_a, show tFi (setF T f v) i = _ from setF_a, show tSe (setF T f v) i = _ from setF_a, eD]
    have hv9 : v ≤ 9 := by
      unfold fHi at hv
      split at hv <;> omega
    refine ⟨?_, ?_, ?_, a4⟩
    · split
      · next z =>
        have : f = 0 := by omega
        rw [this] at hv
        exact hv
      · exact a1
    · split
      · exact hv9
      · exact a2
    · split
      · exact hv9
      · exact a3
  · rw [eP] at hi
    rw [eD] at hk
    rw [eLn, eL, eO, eQ]
    exact b i k hi hk
  · rw [eLn] at hl
    obtain ⟨c1, c2, c3, c4, ⟨k1, k2, k3⟩, j1, j2, j3⟩ := c l hl
    rw [eS, eO, eQ, eP]
    refine ⟨c1, c2, c3, c4, ⟨k1, ?_, ?_⟩, j1, ?_, ?_⟩
    · rw [eD]
      exact k2
    · rw [eL]
      exact k3
    · rw [eD]
      exact j2
    · rw [eL]
      exact j3
theorem setN_0 {i v j b : Nat} : setN T i v j 0 b 0 = if b = i then v else if b = j then 1 else T 0 b 0 := by
  unfold setN
  by_cases e : b = i
  · rw [if_pos ⟨rfl, e, rfl⟩, if_pos e]
  · rw [if_neg (fun z => e z.2.1), if_neg e]
    by_cases e2 : b = j
    · rw [if_pos ⟨rfl, e2, rfl⟩, if_pos e2]
    · rw [if_neg (fun z => e2 z.2.1), if_neg e2]
theorem setN_o {i v j a b c : Nat} (h : a ≠ 0) : setN T i v j a b c = T a b c := by
  unfold setN
  rw [if_neg (fun z => h z.1), if_neg (fun z => h z.1)]
theorem setN_ok {i v j : Nat} (hi : (i = 2 ∧ 1 ≤ v ∧ v ≤ 4) ∨ (i = 3 ∧ v ≤ 3) ∨ (i = 4 ∧ v ≤ 1)) (hj : j = 4 ∨ j = 6 ∨ j = 7) (h : jTok T) : jTok (setN T i v j) := by
  obtain ⟨⟨g1, g2, g3, g4, g5, g6⟩, a, b, c⟩ := h
  have o : ∀ a b c, a ≠ 0 → setN T i v j a b c = T a b c := fun a b c ha => setN_o ha
  have eP : tP (setN T i v j) = tP T := by
    show setN T i v j 0 0 0 = _
    rw [setN_0, if_neg (by omega), if_neg (by omega)]
    rfl
  have eLn : tLn (setN T i v j) = tLn T := by
    show setN T i v j 0 1 0 = _
    rw [setN_0, if_neg (by omega), if_neg (by omega)]
    rfl
  have eD : ∀ p, tD (setN T i v j) p = tD T p := fun p => o 4 p 0 (by omega)
  have eL : ∀ p k, tL (setN T i v j) p k = tL T p k := fun p k => o 5 p k (by omega)
  have eO : ∀ l, tO (setN T i v j) l = tO T l := fun l => o 6 l 0 (by omega)
  have eQ : ∀ l, tQ (setN T i v j) l = tQ T l := fun l => o 7 l 0 (by omega)
  have eS : ∀ l, tSh (setN T i v j) l = tSh T l := fun l => o 8 l 0 (by omega)
  refine ⟨⟨by rw [eP]; exact g1, by rw [eLn]; exact g2, ?_, ?_, ?_, ?_⟩, fun p hp => ?_, fun p k hp hk => ?_, fun l hl => ?_⟩
  · show 1 ≤ setN T i v j 0 2 0 ∧ setN T i v j 0 2 0 ≤ 4
    rw [setN_0]
    split
    · omega
    · rw [if_neg (by omega)]
      exact g3
  · show setN T i v j 0 3 0 ≤ 3
    rw [setN_0]
    split
    · omega
    · rw [if_neg (by omega)]
      exact g4
  · show setN T i v j 0 4 0 ≤ 1
    rw [setN_0]
    split
    · omega
    · split
      · omega
      · exact g5
  · show setN T i v j 0 5 0 ≤ 1
    rw [setN_0, if_neg (by omega), if_neg (by omega)]
    exact g6
  · rw [eP] at hp
    rw [show tSi (setN T i v j) p = tSi T p from o 1 p 0 (by omega), show tFi (setN T i v j) p = tFi T p from o 2 p 0 (by omega), show tSe (setN T i v j) p = tSe T p from o 3 p 0 (by omega), eD]
    exact a p hp
  · rw [eP] at hp
    rw [eD] at hk
    rw [eLn, eL, eO, eQ]
    exact b p k hp hk
  · rw [eLn] at hl
    obtain ⟨c1, c2, c3, c4, ⟨k1, k2, k3⟩, j1, j2, j3⟩ := c l hl
    rw [eS, eO, eQ, eP]
    refine ⟨c1, c2, c3, c4, ⟨k1, ?_, ?_⟩, j1, ?_, ?_⟩
    · rw [eD]
      exact k2
    · rw [eL]
      exact k3
    · rw [eD]
      exact j2
    · rw [eL]
      exact j3
theorem addL_Ln : tLn (addL T x y) = tLn T + 1 := by simp [addL, tLn]
theorem addL_0 {b : Nat} (hb : b ≠ 1) : addL T x y 0 b 0 = T 0 b 0 := by simp [addL, hb]
theorem addL_P : tP (addL T x y) = tP T := addL_0 (by omega)
theorem addL_p {a i : Nat} (h1 : a = 1 ∨ a = 2 ∨ a = 3 ∨ a = 9) : addL T x y a i 0 = T a i 0 := by
  unfold addL
  rw [if_neg (by omega), if_neg (by omega), if_neg (by omega), if_neg (by omega), if_neg (by omega), if_neg (by omega), if_neg (by omega), if_neg (by omega)]
theorem addL_D {i : Nat} : tD (addL T x y) i = if i = x then tD T x + 1 else if i = y then tD T y + 1 else tD T i := by
  show addL T x y 4 i 0 = _
  unfold addL
  rw [if_neg (by omega), if_neg (by omega), if_neg (by omega), if_neg (by omega), if_neg (by omega), if_neg (by omega)]
  by_cases e : i = x
  · rw [if_pos ⟨rfl, e, rfl⟩, if_pos e]
  · rw [if_neg (fun z => e z.2.1), if_neg e]
    by_cases e2 : i = y
    · rw [if_pos ⟨rfl, e2, rfl⟩, if_pos e2]
    · rw [if_neg (fun z => e2 z.2.1), if_neg e2]
      rfl
theorem addL_L {i k : Nat} : tL (addL T x y) i k = if i = x ∧ k = tD T x then tLn T else if i = y ∧ k = tD T y then tLn T else tL T i k := by
  show addL T x y 5 i k = _
  unfold addL
  rw [if_neg (by omega), if_neg (by omega), if_neg (by omega), if_neg (by omega)]
  by_cases e : i = x ∧ k = tD T x
  · rw [if_pos ⟨rfl, e⟩, if_pos e]
  · rw [if_neg (fun z => e z.2), if_neg e]
    by_cases e2 : i = y ∧ k = tD T y
    · rw [if_pos ⟨rfl, e2⟩, if_pos e2]
    · rw [if_neg (fun z => e2 z.2), if_neg e2, if_neg (by omega), if_neg (by omega)]
      rfl
theorem addL_O {l : Nat} : tO (addL T x y) l = if l = tLn T then x else tO T l := by
  show addL T x y 6 l 0 = _
  unfold addL
  rw [if_neg (by omega)]
  by_cases e : l = tLn T
  · rw [if_pos ⟨rfl, e, rfl⟩, if_pos e]
  · rw [if_neg (fun z => e z.2.1), if_neg e, if_neg (by omega), if_neg (by omega), if_neg (by omega), if_neg (by omega), if_neg (by omega), if_neg (by omega)]
    rfl
theorem addL_Q {l : Nat} : tQ (addL T x y) l = if l = tLn T then y else tQ T l := by
  show addL T x y 7 l 0 = _
  unfold addL
  rw [if_neg (by omega), if_neg (by omega)]
  by_cases e : l = tLn T
  · rw [if_pos ⟨rfl, e, rfl⟩, if_pos e]
  · rw [if_neg (fun z => e z.2.1), if_neg e, if_neg (by omega), if_neg (by omega), if_neg (by omega), if_neg (by omega), if_neg (by omega)]
    rfl
theorem addL_S {l : Nat} : tSh (addL T x y) l = if l = tLn T then 0 else tSh T l := by
  show addL T x y 8 l 0 = _
  unfold addL
  rw [if_neg (by omega), if_neg (by omega), if_neg (by omega)]
  by_cases e : l = tLn T
  · rw [if_pos ⟨rfl, e, rfl⟩, if_pos e]
  · rw [if_neg (fun z => e z.2.1), if_neg e, if_neg (by omega), if_neg (by omega), if_neg (by omega), if_neg (by omega)]
    rfl
theorem addL_ok (h : jTok T) (hx : x < tP T) (hy : y < tP T) (hne : x ≠ y) (h12 : tLn T < 12) (dx : tD T x < 4) (dy : tD T y < 4) : jTok (addL T x y) := by
  obtain ⟨⟨g1, g2, g3, g4, g5, g6⟩, a, b, c⟩ := h
  refine ⟨⟨by rw [addL_P]; exact g1, by rw [addL_Ln]; omega, by rw [show tSl (addL T x y) = tSl T from addL_0 (by omega)]; exact g3, by rw [show tHe (addL T x y) = tHe T from addL_0 (by omega)]; exact g4, by rw [show tCr (addL T x y) = tCr T from addL_0 (by omega)]; exact g5, by rw [show tMk (addL T x y) = tMk T from addL_0 (by omega)]; exact g6⟩, fun i hi => ?_, fun i k hi hk => ?_, fun l hl => ?_⟩
  · rw [addL_P] at hi
    rw [show tSi (addL T x y) i = tSi T i from addL_p (by omega), show tFi (addL T x y) i = tFi T i from addL_p (by omega), show tSe (addL T x y) i = tSe T i from addL_p (by omega), addL_D]
    obtain ⟨a1, a2, a3, a4⟩ := a i hi
    refine ⟨a1, a2, a3, ?_⟩
    split
    · omega
    · split <;> omega
  · rw [addL_P] at hi
    rw [addL_D] at hk
    rw [addL_Ln, addL_L]
    by_cases e1 : i = x ∧ k = tD T x
    · rw [if_pos e1, addL_O, if_pos rfl]
      exact ⟨by omega, Or.inl e1.1.symm⟩
    · rw [if_neg e1]
      by_cases e2 : i = y ∧ k = tD T y
      · rw [if_pos e2, addL_Q, if_pos rfl]
        exact ⟨by omega, Or.inr e2.1.symm⟩
      · rw [if_neg e2]
        have hk2 : k < tD T i := by
          by_cases z1 : i = x
          · rw [if_pos z1] at hk
            have : k ≠ tD T x := fun z => e1 ⟨z1, z⟩
            rw [z1]
            omega
          · rw [if_neg z1] at hk
            by_cases z2 : i = y
            · rw [if_pos z2] at hk
              have : k ≠ tD T y := fun z => e2 ⟨z2, z⟩
              rw [z2]
              omega
            · rw [if_neg z2] at hk
              exact hk
        obtain ⟨b1, b2⟩ := b i k hi hk2
        rw [addL_O, if_neg (by omega), addL_Q, if_neg (by omega)]
        exact ⟨by omega, b2⟩
  · rw [addL_Ln] at hl
    rw [addL_S, addL_O, addL_Q, addL_P]
    by_cases e : l = tLn T
    · simp only [if_pos e]
      refine ⟨by omega, hx, hy, hne, ⟨tD T x, ?_, ?_⟩, tD T y, ?_, ?_⟩
      · rw [addL_D, if_pos rfl]
        omega
      · rw [addL_L, if_pos ⟨rfl, rfl⟩, e]
      · rw [addL_D, if_neg (fun z => hne z.symm), if_pos rfl]
        omega
      · rw [addL_L, if_neg (fun z => hne z.1.symm), if_pos ⟨rfl, rfl⟩, e]
    · simp only [if_neg e]
      obtain ⟨c1, c2, c3, c4, ⟨k1, k2, k3⟩, j1, j2, j3⟩ := c l (by omega)
      have low : ∀ p k, k < tD T p → k < tD (addL T x y) p ∧ tL (addL T x y) p k = tL T p k := fun p k hk => by
        rw [addL_D, addL_L]
        refine ⟨?_, ?_⟩
        · split
          · next z =>
            rw [z] at hk
            omega
          · split
            · next z =>
              rw [z] at hk
              omega
            · exact hk
        · rw [if_neg (fun z => by
            rw [z.1] at hk
            omega), if_neg (fun z => by
            rw [z.1] at hk
            omega)]
      exact ⟨c1, c2, c3, c4, ⟨k1, (low _ _ k2).1, (low _ _ k2).2.trans k3⟩, j1, (low _ _ j2).1, (low _ _ j2).2.trans j3⟩
end JTC1
