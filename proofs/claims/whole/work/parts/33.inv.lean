/-! THE INVARIANT between calls, in parts -/
/-- status and fraction -/
def jSt (μ : jMem) : Prop := gI μ 133 0 = gI μ 1 0 ∧ gL μ 133 2 = gL μ 1 1 ∧ gL μ 133 3 = gL μ 1 2
/-- trays: rows 4 to 7, sorts 8, lengths 9; sorts 134, lengths 135, numbers 136 -/
def jTr (μ : jMem) : Prop := ∀ i, i < 4 → gI μ 134 i = gI μ 8 i ∧ gI μ 135 i = gI μ 9 i ∧ (gI μ 9 i = -1 ∨ ∃ n, n ≤ 64 ∧ gI μ 9 i = nI n) ∧ ∀ k, k < (gI μ 9 i).toNatClampNeg → gL μ 136 (64 * i + k) = gL μ (4 + i) k
/-- cells of which the rest of the invariant does not speak -/
def jScrO (a : Nat) : Bool := [4, 5, 6, 7, 8, 9, 134, 135, 136, 38, 39, 40, 41, 42, 43, 44, 45, 46, 47, 48, 49, 50, 51, 52, 53, 54, 55, 56, 57, 58, 59, 60, 61, 62, 63, 64, 65, 66, 67, 68, 69, 70, 71, 72, 73, 74, 75, 76, 77, 78, 79, 80, 81, 82, 83, 84, 85, 86, 87, 88, 89, 90, 91, 92, 93, 94, 95, 96, 97, 98, 99, 100, 101, 104, 105, 106, 107, 108, 109, 110, 111, 114, 115, 116, 117, 118, 119, 120, 121, 122, 123, 124, 125, 126, 127, 129, 131, 132, 139, 141, 143, 146, 147, 149, 153, 154, 155, 156, 157, 160, 162, 163, 164, 165, 166, 167, 168, 169, 170, 171].contains a
def jScr (t a k : Nat) : Bool := jScrO a || (a == 1 && decide (k ≤ 2)) || (a == 133 && [0, 1, 2, 3, 9, 12, 13, 14, 15, 16, 17, 18, 19, 22, 23, 26, 27, 29, 60, 61, 63, 64, 72, 73, 76, 77, 78].contains k) || (decide (35 - t ≤ a) && decide (a ≤ 45 - t))
def jOth (t : Nat) (μ : jMem) : Prop := True
theorem jOth_of {t : Nat} {μ ν : jMem} (hI : ∀ a k, jScr t a k = false → gI ν a k = gI μ a k) (hL : ∀ a k, jScr t a k = false → gL ν a k = gL μ a k) (h : jOth t μ) : jOth t ν := trivial
theorem jOth_sI {t : Nat} {μ : jMem} {a k : Nat} {v : Int32} (ha : jScr t a k = true) (h : jOth t μ) : jOth t (sI μ a k v) := jOth_of (fun x j hx => by
  have hq : ¬ (x = a ∧ j = k) := fun q => by rw [q.1, q.2, ha] at hx; cases hx
  rw [gI_sI, if_neg hq]) (fun _ _ _ => rfl) h
theorem jOth_sL {t : Nat} {μ : jMem} {a k : Nat} {v : Int64} (ha : jScr t a k = true) (h : jOth t μ) : jOth t (sL μ a k v) := jOth_of (fun _ _ _ => rfl) (fun x j hx => by
  have hq : ¬ (x = a ∧ j = k) := fun q => by rw [q.1, q.2, ha] at hx; cases hx
  rw [gL_sL, if_neg hq]) h
theorem jOth_Fr {t : Nat} {A : List Nat} {μ ν : jMem} (hA : ∀ a ∈ A, jScrO a = true) (hF : jFr A μ ν) (h : jOth t μ) : jOth t ν := by
  have key : ∀ a k, jScr t a k = false → a ∉ A := fun a k hs hm => by
    have := hA a hm
    simp [jScr, this] at hs
  exact jOth_of (fun a k hs => (hF.1 a (key a k hs)).1 k) (fun a k hs => (hF.1 a (key a k hs)).2 k) h
def jInv (L : Nat) (μ : jMem) : Prop := ∃ t, jWd L t μ ∧ jSt μ ∧ jTr μ ∧ jOth t μ
theorem jTr_sI {μ : jMem} {a k : Nat} {v : Int32} (ha : ¬ (a = 8 ∨ a = 9 ∨ a = 134 ∨ a = 135)) (h : jTr μ) : jTr (sI μ a k v) := fun i hi => by
  obtain ⟨h1, h2, h3, h4⟩ := h i hi
  have e1 : ∀ x, (x = 8 ∨ x = 9 ∨ x = 134 ∨ x = 135) → gI (sI μ a k v) x i = gI μ x i := fun x hx => by
    have hq : ¬ (x = a ∧ i = k) := fun q => ha (q.1 ▸ hx)
    rw [gI_sI, if_neg hq]
  rw [e1 8 (by simp), e1 9 (by simp), e1 134 (by simp), e1 135 (by simp)]
  exact ⟨h1, h2, h3, h4⟩
theorem jTr_sL {μ : jMem} {a k : Nat} {v : Int64} (ha : ¬ (4 ≤ a ∧ a ≤ 7) ∧ a ≠ 136) (h : jTr μ) : jTr (sL μ a k v) := fun i hi => by
  obtain ⟨h1, h2, h3, h4⟩ := h i hi
  refine ⟨h1, h2, h3, fun j hj => ?_⟩
  have hq : ¬ (136 = a ∧ 64 * i + j = k) := fun q => ha.2 q.1.symm
  have hq2 : ¬ (4 + i = a ∧ j = k) := fun q => ha.1 (by omega)
  rw [gL_sL, gL_sL, if_neg hq, if_neg hq2]
  exact h4 j hj
theorem jref {L t : Nat} {μ : jMem} {w : Int32} (hW : jWd L t μ) (hS : jSt μ) (hT : jTr μ) (hO : jOth t μ) : jInv L (sI (sI (sI (sI μ 1 0 w) 133 1 0) 133 0 0) 133 0 w) :=
  ⟨t, hW, ⟨by simp [gI_sI], hS.2⟩, jTr_sI (by decide) (jTr_sI (by decide) (jTr_sI (by decide) (jTr_sI (by decide) hT))), jOth_sI rfl (jOth_sI rfl (jOth_sI rfl (jOth_sI rfl hO)))⟩
theorem jg0 {μ : jMem} {w : Int32} {a : Nat} (ha : ¬ 0 = a) (k j : Nat) : gI (sI μ a k w) 0 j = gI μ 0 j := by
  rw [gI_sI, if_neg (fun q => ha q.1)]
theorem jg1 {μ ν : jMem} {A : List Nat} (h : jFr A μ ν) (hA : 0 ∉ A) (j : Nat) : gI ν 0 j = gI μ 0 j := (h.1 0 hA).1 j
