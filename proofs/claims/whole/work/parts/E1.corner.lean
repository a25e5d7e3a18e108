/-! value: the class's corners -/
section JV1
variable {w : Nat → Nat → Int} {m n : Nat} {b z d c y : Nat → Int}
def vM (w : Nat → Nat → Int) (i j k x y z : Nat) : Int := vE w i x * (vE w j y * vE w k z - vE w j z * vE w k y) - vE w i y * (vE w j x * vE w k z - vE w j z * vE w k x) + vE w i z * (vE w j x * vE w k y - vE w j y * vE w k x)
def vCo (w : Nat → Nat → Int) (i j k l : Nat) : Int := if l = 0 then vM w i j k 1 2 3 else if l = 1 then - vM w i j k 0 2 3 else if l = 2 then vM w i j k 0 1 3 else - vM w i j k 0 1 2
def vN (w : Nat → Nat → Int) (i j k l : Nat) : Int := if vS (vCo w i j k) < 0 then - vCo w i j k l else vCo w i j k l
theorem vSl_E (z : Nat → Int) (i : Nat) : (vSl w z i = 0 ↔ vE w i 0 * z 0 + vE w i 1 * z 1 + vE w i 2 * z 2 + vE w i 3 * z 3 = 0) := by
  unfold vSl vE
  by_cases e : i < 3
  · rcases (show i = 0 ∨ i = 1 ∨ i = 2 by omega) with rfl | rfl | rfl <;> simp
  · simp only [if_neg e, show ¬ (0 : Nat) = 3 by decide, show ¬ (1 : Nat) = 3 by decide, show ¬ (2 : Nat) = 3 by decide, if_false, if_true]
    constructor
    · intro q
      grind
    · intro q
      grind
theorem vCo_o {i j k : Nat} : vSl w (vCo w i j k) i = 0 ∧ vSl w (vCo w i j k) j = 0 ∧ vSl w (vCo w i j k) k = 0 := by
  have c0 : vCo w i j k 0 = vM w i j k 1 2 3 := rfl
  have c1 : vCo w i j k 1 = - vM w i j k 0 2 3 := rfl
  have c2 : vCo w i j k 2 = vM w i j k 0 1 3 := rfl
  have c3 : vCo w i j k 3 = - vM w i j k 0 1 2 := rfl
  refine ⟨(vSl_E _ _).mpr ?_, (vSl_E _ _).mpr ?_, (vSl_E _ _).mpr ?_⟩ <;>
  · rw [c0, c1, c2, c3]
    unfold vM
    clear c0 c1 c2 c3
    generalize vE w i 0 = i0
    generalize vE w i 1 = i1
    generalize vE w i 2 = i2
    generalize vE w i 3 = i3
    generalize vE w j 0 = j0
    generalize vE w j 1 = j1
    generalize vE w j 2 = j2
    generalize vE w j 3 = j3
    generalize vE w k 0 = k0
    generalize vE w k 1 = k1
    generalize vE w k 2 = k2
    generalize vE w k 3 = k3
    grind
theorem vCo_S {i j k : Nat} : vS (vCo w i j k) = vD w i j k := by
  have c0 : vCo w i j k 0 = vM w i j k 1 2 3 := rfl
  have c1 : vCo w i j k 1 = - vM w i j k 0 2 3 := rfl
  have c2 : vCo w i j k 2 = vM w i j k 0 1 3 := rfl
  have u : ∀ i, vU w i 0 = vE w i 0 - vE w i 2 ∧ vU w i 1 = vE w i 1 - vE w i 2 ∧ vU w i 2 = vE w i 3 := fun i => ⟨rfl, rfl, rfl⟩
  unfold vS vD
  rw [c0, c1, c2, (u i).1, (u i).2.1, (u i).2.2, (u j).1, (u j).2.1, (u j).2.2, (u k).1, (u k).2.1, (u k).2.2]
  unfold vM
  clear c0 c1 c2 u
  generalize vE w i 0 = i0
  generalize vE w i 1 = i1
  generalize vE w i 2 = i2
  generalize vE w i 3 = i3
  generalize vE w j 0 = j0
  generalize vE w j 1 = j1
  generalize vE w j 2 = j2
  generalize vE w j 3 = j3
  generalize vE w k 0 = k0
  generalize vE w k 1 = k1
  generalize vE w k 2 = k2
  generalize vE w k 3 = k3
  grind
theorem vN_eq {i j k : Nat} : ∃ s : Int, (s = 1 ∨ s = -1) ∧ (∀ l, vN w i j k l = s * vCo w i j k l) ∧ vS (vN w i j k) = s * vS (vCo w i j k) := by
  by_cases e : vS (vCo w i j k) < 0
  · have h : ∀ l, vN w i j k l = -1 * vCo w i j k l := fun l => by
      unfold vN
      rw [if_pos e]
      omega
    refine ⟨-1, Or.inr rfl, h, ?_⟩
    unfold vS
    rw [h, h, h]
    omega
  · have h : ∀ l, vN w i j k l = 1 * vCo w i j k l := fun l => by
      unfold vN
      rw [if_neg e]
      omega
    refine ⟨1, Or.inl rfl, h, ?_⟩
    unfold vS
    rw [h, h, h]
    omega
theorem vSl_sc {s : Int} (h : ∀ l, y l = s * z l) (i : Nat) : vSl w y i = s * vSl w z i := by
  unfold vSl
  split
  · exact h i
  · rw [h, h, h, h]
    grind
theorem vN_o {i j k : Nat} : vSl w (vN w i j k) i = 0 ∧ vSl w (vN w i j k) j = 0 ∧ vSl w (vN w i j k) k = 0 := by
  obtain ⟨s, -, h, -⟩ := vN_eq (w := w) (i := i) (j := j) (k := k)
  obtain ⟨a, b, c⟩ := vCo_o (w := w) (i := i) (j := j) (k := k)
  refine ⟨?_, ?_, ?_⟩
  · rw [vSl_sc h, a, Int.mul_zero]
  · rw [vSl_sc h, b, Int.mul_zero]
  · rw [vSl_sc h, c, Int.mul_zero]
theorem vN_S {i j k : Nat} (hD : vD w i j k ≠ 0) : 0 < vS (vN w i j k) := by
  rw [← vCo_S] at hD
  have h0 : vN w i j k 0 = if vS (vCo w i j k) < 0 then - vCo w i j k 0 else vCo w i j k 0 := rfl
  have h1 : vN w i j k 1 = if vS (vCo w i j k) < 0 then - vCo w i j k 1 else vCo w i j k 1 := rfl
  have h2 : vN w i j k 2 = if vS (vCo w i j k) < 0 then - vCo w i j k 2 else vCo w i j k 2 := rfl
  have e : vS (vN w i j k) = vN w i j k 0 + vN w i j k 1 + vN w i j k 2 := rfl
  have e2 : vS (vCo w i j k) = vCo w i j k 0 + vCo w i j k 1 + vCo w i j k 2 := rfl
  rw [e, h0, h1, h2]
  by_cases q : vS (vCo w i j k) < 0
  · rw [if_pos q, if_pos q, if_pos q]
    omega
  · rw [if_neg q, if_neg q, if_neg q]
    omega
/-- allowed -/
def vAl (w : Nat → Nat → Int) (n : Nat) (c : Nat → Int) : Prop := (∀ k, k < 3 → 0 ≤ c k) ∧ ∀ j, j < n → c 0 * w 0 j + c 1 * w 1 j + c 2 * w 2 j ≤ c 3
theorem vAl_F {i j k : Nat} (hR : vR m i j k) (hD : vD w i j k ≠ 0) (h : vAl w n (vN w i j k)) : vF w m n (vN w i j k) := by
  obtain ⟨a, b, c⟩ := vN_o (w := w) (i := i) (j := j) (k := k)
  refine ⟨fun e he => ?_, fun l l1 l2 => ?_, vN_S hD⟩
  · unfold vSl
    by_cases q : e < 3
    · rw [if_pos q]
      exact h.1 e q
    · rw [if_neg q]
      have := h.2 (e - 3) (by omega)
      omega
  · have z : ∀ e, e < 3 → vSl w (vN w i j k) e = 0 → vN w i j k e = 0 := fun e he q => by
      unfold vSl at q
      rw [if_pos he] at q
      exact q
    rcases hR l l1 l2 with e | e | e
    · subst e
      exact z _ l2 a
    · subst e
      exact z _ l2 b
    · subst e
      exact z _ l2 c
theorem vF_Al (h : vF w m n z) : vAl w n z := by
  refine ⟨fun k hk => ?_, fun j hj => ?_⟩
  · have := h.1 k (by omega)
    unfold vSl at this
    rw [if_pos hk] at this
    exact this
  · have := h.1 (3 + j) (by omega)
    unfold vSl at this
    rw [if_neg (by omega), show 3 + j - 3 = j by omega] at this
    omega
/-- any allowed point of a corner makes the corner allowed -/
theorem vAl_of {i j k : Nat} (hD : vD w i j k ≠ 0) (y1 : vSl w y i = 0) (y2 : vSl w y j = 0) (y3 : vSl w y k = 0) (hy : vF w m n y) : vAl w n (vN w i j k) ∧ ∀ l, l < 4 → vN w i j k l * vS y = y l * vS (vN w i j k) := by
  obtain ⟨a, b, c⟩ := vN_o (w := w) (i := i) (j := j) (k := k)
  have pr := vProp a b c y1 y2 y3 hD
  have sN := vN_S hD
  have sy := hy.2.2
  refine ⟨⟨fun l hl => ?_, fun x hx => ?_⟩, pr⟩
  · have := (vF_Al hy).1 l hl
    have e := pr l (by omega)
    have q : 0 ≤ y l * vS (vN w i j k) := Int.mul_nonneg this (Int.le_of_lt sN)
    exact Int.le_of_mul_le_mul_right (a := vS y) (by rw [Int.zero_mul, e]; exact q) sy
  · have q := Int.mul_le_mul_of_nonneg_right ((vF_Al hy).2 x hx) (Int.le_of_lt sN)
    have e0 := pr 0 (by omega)
    have e1 := pr 1 (by omega)
    have e2 := pr 2 (by omega)
    have e3 := pr 3 (by omega)
    refine Int.le_of_mul_le_mul_right (a := vS y) ?_ sy
    have : (vN w i j k 0 * w 0 x + vN w i j k 1 * w 1 x + vN w i j k 2 * w 2 x) * vS y = (y 0 * w 0 x + y 1 * w 1 x + y 2 * w 2 x) * vS (vN w i j k) := by
      clear q e3 pr sN sy a b c hy
      generalize vS (vN w i j k) = S at *
      generalize vS y = Y at *
      generalize vN w i j k 0 = C0 at *
      generalize vN w i j k 1 = C1 at *
      generalize vN w i j k 2 = C2 at *
      generalize w 0 x = W0 at *
      generalize w 1 x = W1 at *
      generalize w 2 x = W2 at *
      grind
    rw [this, e3]
    exact q
theorem vB_trans (hb' : 0 < vS b) (hc : 0 < vS c) (hz : 0 < vS z) (h1 : vB c b) (h2 : vB z c) : vB z b := by
  unfold vB at h1 h2 ⊢
  rw [← vLx_mul (D := vS c) hc]
  have := vLx_add (D := vS z) (S := vS b) hz (Int.le_of_lt hb') h1 h2
  have e1 : vS c * (b 3 * vS z - z 3 * vS b) = vS z * (b 3 * vS c - c 3 * vS b) + vS b * (c 3 * vS z - z 3 * vS c) := by grind
  have e2 : vS c * (z 0 * vS b - b 0 * vS z) = vS z * (c 0 * vS b - b 0 * vS c) + vS b * (z 0 * vS c - c 0 * vS z) := by grind
  have e3 : vS c * (z 1 * vS b - b 1 * vS z) = vS z * (c 1 * vS b - b 1 * vS c) + vS b * (z 1 * vS c - c 1 * vS z) := by grind
  rw [e1, e2, e3]
  exact this
end JV1
