/-! value: what is best stands in a corner -/
section JV0
variable {w : Nat → Nat → Int} {m n : Nat} {b z d c y : Nat → Int}
def vS (z : Nat → Int) : Int := z 0 + z 1 + z 2
def vSl (w : Nat → Nat → Int) (z : Nat → Int) (i : Nat) : Int := if i < 3 then z i else z 3 - (z 0 * w 0 (i - 3) + z 1 * w 1 (i - 3) + z 2 * w 2 (i - 3))
def vF (w : Nat → Nat → Int) (m n : Nat) (z : Nat → Int) : Prop := (∀ i, i < 3 + n → 0 ≤ vSl w z i) ∧ (∀ k, m ≤ k → k < 3 → z k = 0) ∧ 0 < vS z
def vLx (a b c : Int) : Prop := 0 < a ∨ (a = 0 ∧ (0 < b ∨ (b = 0 ∧ 0 < c)))
/-- z is better than b -/
def vB (z b : Nat → Int) : Prop := vLx (b 3 * vS z - z 3 * vS b) (z 0 * vS b - b 0 * vS z) (z 1 * vS b - b 1 * vS z)
theorem vpos {D a : Int} (hD : 0 < D) : 0 < D * a ↔ 0 < a := ⟨fun h => Int.lt_of_mul_lt_mul_left (a := D) (by rw [Int.mul_zero]; exact h) (Int.le_of_lt hD), fun h => Int.mul_pos hD h⟩
theorem vzero {D a : Int} (hD : 0 < D) : D * a = 0 ↔ a = 0 := by
  rw [Int.mul_eq_zero]
  omega
theorem vLx_mul {D a b c : Int} (hD : 0 < D) : vLx (D * a) (D * b) (D * c) ↔ vLx a b c := by
  unfold vLx
  rw [vpos hD, vpos hD, vpos hD, vzero hD, vzero hD]
theorem vLx_add {D S a b c a' b' c' : Int} (hD : 0 < D) (hS : 0 ≤ S) (h : vLx a b c) (h' : vLx a' b' c') : vLx (D * a + S * a') (D * b + S * b') (D * c + S * c') := by
  have hh := (vLx_mul hD).mpr h
  rcases (show S = 0 ∨ 0 < S by omega) with e | e
  · subst e
    simp only [Int.zero_mul, Int.add_zero]
    exact hh
  · have hh' := (vLx_mul e).mpr h'
    generalize D * a = A at *
    generalize D * b = B at *
    generalize D * c = C at *
    generalize S * a' = A' at *
    generalize S * b' = B' at *
    generalize S * c' = C' at *
    clear h h'
    unfold vLx at *
    omega
theorem vSl_lin {D S : Int} (i : Nat) : vSl w (fun k => D * z k + S * d k) i = D * vSl w z i + S * vSl w d i := by
  unfold vSl
  split
  · rfl
  · grind
theorem vS_lin {D S : Int} : vS (fun k => D * z k + S * d k) = D * vS z + S * vS d := by
  unfold vS
  grind
theorem vMin {f g : Nat → Int} {P : Nat → Prop} : ∀ N, (∃ i, i < N ∧ P i) → (∀ i, i < N → P i → 0 < g i) → ∃ i, i < N ∧ P i ∧ ∀ j, j < N → P j → f i * g j ≤ f j * g i
  | 0, ⟨i, hi, _⟩, _ => absurd hi (Nat.not_lt_zero _)
  | N + 1, ⟨i, hi, pi⟩, hg => by
    by_cases hP : ∃ i, i < N ∧ P i
    · obtain ⟨k, hk, pk, mk⟩ := vMin (f := f) N hP (fun i hi pi => hg i (by omega) pi)
      by_cases pN : P N
      · by_cases hle : f k * g N ≤ f N * g k
        · refine ⟨k, by omega, pk, fun j hj pj => ?_⟩
          by_cases e : j = N
          · rw [e]
            exact hle
          · exact mk j (by omega) pj
        · refine ⟨N, by omega, pN, fun j hj pj => ?_⟩
          by_cases e : j = N
          · rw [e]
            exact Int.le_refl _
          · have gk := hg k (by omega) pk
            have gj := hg j (by omega) pj
            have gN := hg N (by omega) pN
            have a1 := Int.mul_le_mul_of_nonneg_right (Int.le_of_lt (Int.not_le.mp hle)) (Int.le_of_lt gj)
            have a2 := Int.mul_le_mul_of_nonneg_right (mk j (by omega) pj) (Int.le_of_lt gN)
            refine Int.le_of_mul_le_mul_right (a := g k) ?_ gk
            have b1 : f N * g j * g k = f N * g k * g j := by grind
            have b2 : f k * g N * g j = f k * g j * g N := by grind
            have b3 : f j * g N * g k = f j * g k * g N := by grind
            rw [b1, b3]
            rw [b2] at a1
            exact Int.le_trans a1 a2
      · refine ⟨k, by omega, pk, fun j hj pj => ?_⟩
        by_cases e : j = N
        · rw [e] at pj
          exact absurd pj pN
        · exact mk j (by omega) pj
    · refine ⟨i, hi, pi, fun j hj pj => ?_⟩
      have e1 : i = N := by
        by_cases e : i = N
        · exact e
        · exact absurd ⟨i, by omega, pi⟩ hP
      have e2 : j = N := by
        by_cases e : j = N
        · exact e
        · exact absurd ⟨j, by omega, pj⟩ hP
      rw [e1, e2]
      exact Int.le_refl _
/-- one more side is met -/
theorem vStep (hz : vF w m n z) (hd0 : vS d = 0) (hdt : ∀ i, i < 3 + n → vSl w z i = 0 → vSl w d i = 0) (hneg : ∃ i, i < 3 + n ∧ vSl w d i < 0) (hfr : ∀ k, m ≤ k → k < 3 → d k = 0) : ∃ (D S : Int), 0 < D ∧ 0 ≤ S ∧ vF w m n (fun k => D * z k + S * d k) ∧ (∀ i, i < 3 + n → vSl w z i = 0 → vSl w (fun k => D * z k + S * d k) i = 0) ∧ ∃ i, i < 3 + n ∧ vSl w z i ≠ 0 ∧ vSl w (fun k => D * z k + S * d k) i = 0 := by
  obtain ⟨z1, z2, z3⟩ := hz
  obtain ⟨i0, h0, n0, min⟩ := vMin (f := vSl w z) (g := fun i => - vSl w d i) (P := fun i => vSl w d i < 0) (3 + n) hneg (fun i hi pi => by omega)
  have p0 := z1 i0 h0
  refine ⟨- vSl w d i0, vSl w z i0, by omega, p0, ⟨fun i hi => ?_, fun k k1 k2 => ?_, ?_⟩, fun i hi ht => ?_, i0, h0, fun e => ?_, ?_⟩
  · rw [vSl_lin]
    have pz := z1 i hi
    by_cases c : vSl w d i < 0
    · have := min i hi c
      have e1 : vSl w z i0 * -vSl w d i = -(vSl w z i0 * vSl w d i) := Int.mul_neg _ _
      have e2 : vSl w z i * -vSl w d i0 = -vSl w d i0 * vSl w z i := Int.mul_comm _ _
      simp only [e1, e2] at this
      omega
    · have a1 := Int.mul_nonneg (show 0 ≤ -vSl w d i0 by omega) pz
      have a2 := Int.mul_nonneg p0 (show 0 ≤ vSl w d i by omega)
      omega
  · show _ * z k + _ * d k = 0
    rw [z2 k k1 k2, hfr k k1 k2, Int.mul_zero, Int.mul_zero]
    rfl
  · rw [vS_lin, hd0, Int.mul_zero, Int.add_zero]
    exact Int.mul_pos (by omega) z3
  · rw [vSl_lin, ht, hdt i hi ht, Int.mul_zero, Int.mul_zero]
    rfl
  · have := hdt i0 h0 e
    omega
  · rw [vSl_lin, Int.neg_mul, Int.mul_comm (vSl w z i0)]
    omega
/-- how many sides are not met -/
def vC (w : Nat → Nat → Int) (z : Nat → Int) : Nat → Nat
  | 0 => 0
  | k + 1 => vC w z k + (if vSl w z k = 0 then 0 else 1)
theorem vC_le : ∀ N, (∀ i, i < N → vSl w z i = 0 → vSl w y i = 0) → vC w y N ≤ vC w z N
  | 0, _ => Nat.le_refl _
  | N + 1, h => by
    have := vC_le N (fun i hi => h i (by omega))
    have hN := h N (by omega)
    unfold vC
    by_cases e : vSl w z N = 0
    · rw [if_pos e, if_pos (hN e)]
      omega
    · rw [if_neg e]
      split <;> omega
theorem vC_lt : ∀ N, (∀ i, i < N → vSl w z i = 0 → vSl w y i = 0) → (∃ i, i < N ∧ vSl w z i ≠ 0 ∧ vSl w y i = 0) → vC w y N < vC w z N
  | 0, _, ⟨i, hi, _⟩ => absurd hi (Nat.not_lt_zero _)
  | N + 1, h, ⟨i, hi, e1, e2⟩ => by
    have le := vC_le N (fun i hi => h i (by omega))
    have hN := h N (by omega)
    unfold vC
    by_cases e : i = N
    · rw [← e, if_neg e1, if_pos e2]
      rw [← e] at le
      omega
    · have := vC_lt N (fun i hi => h i (by omega)) ⟨i, by omega, e1, e2⟩
      by_cases e : vSl w z N = 0
      · rw [if_pos e, if_pos (hN e)]
        omega
      · rw [if_neg e]
        split <;> omega
/-- sides -/
def vE (w : Nat → Nat → Int) (i k : Nat) : Int := if i < 3 then (if k = i then 1 else 0) else if k = 3 then -1 else w k (i - 3)
def vU (w : Nat → Nat → Int) (i k : Nat) : Int := if k = 0 then vE w i 0 - vE w i 2 else if k = 1 then vE w i 1 - vE w i 2 else vE w i 3
theorem vSl_z (h : vS d = 0) (i : Nat) : vSl w d i = 0 ↔ vU w i 0 * d 0 + vU w i 1 * d 1 + vU w i 2 * d 3 = 0 := by
  unfold vS at h
  have h2 : d 2 = - d 0 - d 1 := by omega
  unfold vSl vU vE
  by_cases e : i < 3
  · rcases (show i = 0 ∨ i = 1 ∨ i = 2 by omega) with rfl | rfl | rfl
    · simp
    · simp
    · simp
      omega
  · simp only [if_neg e, h2]
    simp only [if_pos, if_neg, show ¬ (0 : Nat) = 3 by decide, show ¬ (1 : Nat) = 3 by decide, show ¬ (2 : Nat) = 3 by decide, show ¬ (1 : Nat) = 0 by decide, show ¬ (2 : Nat) = 0 by decide, show ¬ (2 : Nat) = 1 by decide, if_false, if_true]
    constructor
    · intro q
      grind
    · intro q
      grind
theorem vU_ne (i : Nat) : ¬ (vU w i 0 = 0 ∧ vU w i 1 = 0 ∧ vU w i 2 = 0) := by
  rintro ⟨a, b, c⟩
  unfold vU vE at a b c
  by_cases e : i < 3
  · rcases (show i = 0 ∨ i = 1 ∨ i = 2 by omega) with rfl | rfl | rfl <;> simp at a b
  · simp [e] at c
def vD (w : Nat → Nat → Int) (i j k : Nat) : Int := vU w i 0 * (vU w j 1 * vU w k 2 - vU w j 2 * vU w k 1) - vU w i 1 * (vU w j 0 * vU w k 2 - vU w j 2 * vU w k 0) + vU w i 2 * (vU w j 0 * vU w k 1 - vU w j 1 * vU w k 0)
theorem vD_12 (i j k : Nat) : vD w j i k = - vD w i j k := by
  unfold vD
  grind
theorem vD_23 (i j k : Nat) : vD w i k j = - vD w i j k := by
  unfold vD
  grind
theorem vD_11 (i k : Nat) : vD w i i k = 0 := by
  unfold vD
  grind
theorem vD_22 (i k : Nat) : vD w i k k = 0 := by
  unfold vD
  grind
def vR (m i j k : Nat) : Prop := ∀ l, m ≤ l → l < 3 → l = i ∨ l = j ∨ l = k
theorem vD_any {P : Nat → Prop} (H : ∀ i j k, i < j → j < k → P i → P j → P k → vR m i j k → vD w i j k = 0) : ∀ i j k, P i → P j → P k → vR m i j k → vD w i j k = 0 := by
  intro i j k pi pj pk r
  have r1 : vR m i k j := fun l a b => by have := r l a b; omega
  have r2 : vR m j i k := fun l a b => by have := r l a b; omega
  have r3 : vR m j k i := fun l a b => by have := r l a b; omega
  have r4 : vR m k i j := fun l a b => by have := r l a b; omega
  have r5 : vR m k j i := fun l a b => by have := r l a b; omega
  by_cases e1 : i = j
  · rw [e1]
    exact vD_11 _ _
  by_cases e2 : j = k
  · rw [e2]
    exact vD_22 _ _
  by_cases e3 : i = k
  · rw [vD_23 i k j, e3, vD_11]
    rfl
  rcases (show (i < j ∧ j < k) ∨ (i < k ∧ k < j) ∨ (j < i ∧ i < k) ∨ (j < k ∧ k < i) ∨ (k < i ∧ i < j) ∨ (k < j ∧ j < i) by omega) with ⟨a, b⟩ | ⟨a, b⟩ | ⟨a, b⟩ | ⟨a, b⟩ | ⟨a, b⟩ | ⟨a, b⟩
  · exact H i j k a b pi pj pk r
  · rw [vD_23 i k j, H i k j a b pi pk pj r1]
    rfl
  · rw [vD_12 j i k, H j i k a b pj pi pk r2]
    rfl
  · rw [vD_12 j i k, vD_23 j k i, H j k i a b pj pk pi r3]
    rfl
  · rw [vD_23 i k j, vD_12 k i j, H k i j a b pk pi pj r4]
    rfl
  · rw [vD_12 j i k, vD_23 j k i, vD_12 k j i, H k j i a b pk pj pi r5]
    rfl
theorem vPerp {u0 u1 u2 : Int} (hu : ¬ (u0 = 0 ∧ u1 = 0 ∧ u2 = 0)) {P : Nat → Prop} {f0 f1 f2 : Nat → Int} (h : ∀ i j, P i → P j → u0 * (f1 i * f2 j - f2 i * f1 j) - u1 * (f0 i * f2 j - f2 i * f0 j) + u2 * (f0 i * f1 j - f1 i * f0 j) = 0) : ∃ d0 d1 d2 : Int, ¬ (d0 = 0 ∧ d1 = 0 ∧ d2 = 0) ∧ ∀ i, P i → f0 i * d0 + f1 i * d1 + f2 i * d2 = 0 := by
  by_cases e : ∃ i, P i ∧ ¬ (u1 * f2 i - u2 * f1 i = 0 ∧ u2 * f0 i - u0 * f2 i = 0 ∧ u0 * f1 i - u1 * f0 i = 0)
  · obtain ⟨i, pi, ne⟩ := e
    refine ⟨_, _, _, ne, fun j pj => ?_⟩
    have := h i j pi pj
    grind
  · have e' : ∀ i, P i → u1 * f2 i - u2 * f1 i = 0 ∧ u2 * f0 i - u0 * f2 i = 0 ∧ u0 * f1 i - u1 * f0 i = 0 := fun i pi => by
      by_cases q : u1 * f2 i - u2 * f1 i = 0 ∧ u2 * f0 i - u0 * f2 i = 0 ∧ u0 * f1 i - u1 * f0 i = 0
      · exact q
      · exact absurd ⟨i, pi, q⟩ e
    by_cases z : u0 = 0 ∧ u1 = 0
    · refine ⟨1, 0, 0, by omega, fun i pi => ?_⟩
      obtain ⟨-, q, -⟩ := e' i pi
      rw [z.1, Int.zero_mul, Int.sub_zero, Int.mul_eq_zero] at q
      have : f0 i = 0 := by omega
      rw [this, Int.mul_zero, Int.mul_zero]
      rfl
    · refine ⟨u1, - u0, 0, by omega, fun i pi => ?_⟩
      obtain ⟨-, -, q⟩ := e' i pi
      rw [Int.mul_zero, Int.add_zero, Int.mul_neg, Int.mul_comm (f0 i), Int.mul_comm (f1 i)]
      omega
def vMk (d0 d1 d2 : Int) : Nat → Int := fun k => if k = 0 then d0 else if k = 1 then d1 else if k = 2 then - d0 - d1 else d2
theorem vDir (hm1 : 1 ≤ m) (hm3 : m ≤ 3) (hz : vF w m n z) (hd : ∀ i j k, i < j → j < k → k < 3 + n → vR m i j k → vSl w z i = 0 → vSl w z j = 0 → vSl w z k = 0 → vD w i j k = 0) : ∃ d : Nat → Int, vS d = 0 ∧ (∀ i, i < 3 + n → vSl w z i = 0 → vSl w d i = 0) ∧ ¬ (d 0 = 0 ∧ d 1 = 0 ∧ d 3 = 0) := by
  have any : ∀ i j k, (i < 3 + n ∧ vSl w z i = 0) → (j < 3 + n ∧ vSl w z j = 0) → (k < 3 + n ∧ vSl w z k = 0) → vR m i j k → vD w i j k = 0 := vD_any (P := fun i => i < 3 + n ∧ vSl w z i = 0) (fun i j k a b p q r s => hd i j k a b r.1 s p.2 q.2 r.2)
  have forc : ∀ k, m ≤ k → k < 3 → k < 3 + n ∧ vSl w z k = 0 := fun k a b => ⟨by omega, by
    unfold vSl
    rw [if_pos b]
    exact hz.2.1 k a b⟩
  have mk : ∀ d0 d1 d2 : Int, ¬ (d0 = 0 ∧ d1 = 0 ∧ d2 = 0) → (∀ i, (i < 3 + n ∧ vSl w z i = 0) → vU w i 0 * d0 + vU w i 1 * d1 + vU w i 2 * d2 = 0) → ∃ d : Nat → Int, vS d = 0 ∧ (∀ i, i < 3 + n → vSl w z i = 0 → vSl w d i = 0) ∧ ¬ (d 0 = 0 ∧ d 1 = 0 ∧ d 3 = 0) := fun d0 d1 d2 ne h => by
    have s0 : vS (vMk d0 d1 d2) = 0 := by
      show d0 + d1 + (- d0 - d1) = 0
      omega
    exact ⟨vMk d0 d1 d2, s0, fun i a b => (vSl_z s0 i).mpr (h i ⟨a, b⟩), ne⟩
  rcases (show m = 1 ∨ m = 2 ∨ m = 3 by omega) with rfl | rfl | rfl
  · refine mk 0 0 1 (by omega) (fun i hi => ?_)
    have := any 1 2 i (forc 1 (by omega) (by omega)) (forc 2 (by omega) (by omega)) hi (fun l a b => by omega)
    have e : vD w 1 2 i = vU w i 2 := by
      have a0 : vU w 1 0 = 0 := rfl
      have a1 : vU w 1 1 = 1 := rfl
      have a2 : vU w 1 2 = 0 := rfl
      have b0 : vU w 2 0 = -1 := rfl
      have b1 : vU w 2 1 = -1 := rfl
      have b2 : vU w 2 2 = 0 := rfl
      unfold vD
      rw [a0, a1, a2, b0, b1, b2]
      omega
    rw [e] at this
    rw [this]
    simp
  · obtain ⟨d0, d1, d2, ne, h⟩ := vPerp (vU_ne (w := w) 2) (P := fun i => i < 3 + n ∧ vSl w z i = 0) (f0 := fun i => vU w i 0) (f1 := fun i => vU w i 1) (f2 := fun i => vU w i 2) (fun i j pi pj => any 2 i j (forc 2 (by omega) (by omega)) pi pj (fun l a b => by omega))
    exact mk d0 d1 d2 ne h
  · by_cases e : ∃ i, i < 3 + n ∧ vSl w z i = 0
    · obtain ⟨a, pa⟩ := e
      obtain ⟨d0, d1, d2, ne, h⟩ := vPerp (vU_ne (w := w) a) (P := fun i => i < 3 + n ∧ vSl w z i = 0) (f0 := fun i => vU w i 0) (f1 := fun i => vU w i 1) (f2 := fun i => vU w i 2) (fun i j pi pj => any a i j pa pi pj (fun l a b => by omega))
      exact mk d0 d1 d2 ne h
    · exact mk 0 0 1 (by omega) (fun i hi => absurd ⟨i, hi⟩ e)
theorem vNeg (hn1 : 1 ≤ n) (h0 : vS d = 0) (h : vLx (- d 3) (d 0) (d 1)) : ∃ i, i < 3 + n ∧ vSl w d i < 0 := by
  unfold vS at h0
  unfold vLx at h
  have s0 : vSl w d 0 = d 0 := rfl
  have s1 : vSl w d 1 = d 1 := rfl
  have s2 : vSl w d 2 = d 2 := rfl
  by_cases c0 : d 0 < 0
  · exact ⟨0, by omega, by omega⟩
  by_cases c1 : d 1 < 0
  · exact ⟨1, by omega, by omega⟩
  by_cases c2 : d 2 < 0
  · exact ⟨2, by omega, by omega⟩
  refine ⟨3, by omega, ?_⟩
  have e0 : d 0 = 0 := by omega
  have e1 : d 1 = 0 := by omega
  have e2 : d 2 = 0 := by omega
  have s3 : vSl w d 3 = d 3 - (d 0 * w 0 0 + d 1 * w 1 0 + d 2 * w 2 0) := rfl
  rw [s3, e0, e1, e2, Int.zero_mul, Int.zero_mul, Int.zero_mul]
  omega
/-- what no corner is better than, nothing is better than -/
theorem vA (hm1 : 1 ≤ m) (hm3 : m ≤ 3) (hn1 : 1 ≤ n) (hb0 : 0 ≤ vS b) (hb : ∀ i j k, i < j → j < k → k < 3 + n → vR m i j k → vD w i j k ≠ 0 → ∀ y, vSl w y i = 0 → vSl w y j = 0 → vSl w y k = 0 → vF w m n y → ¬ vB y b) : ∀ N z, vC w z (3 + n) ≤ N → vF w m n z → ¬ vB z b := by
  intro N
  induction N with
  | zero =>
    intro z hc hz hB
    have key : ∀ i, i < 3 + n → vSl w z i = 0 := by
      have : ∀ N, vC w z N ≤ 0 → ∀ i, i < N → vSl w z i = 0 := by
        intro N
        induction N with
        | zero => exact fun _ i hi => absurd hi (Nat.not_lt_zero _)
        | succ N ih =>
          intro h i hi
          unfold vC at h
          by_cases e : i = N
          · rw [e]
            by_cases q : vSl w z N = 0
            · exact q
            · rw [if_neg q] at h
              omega
          · exact ih (by omega) i (by omega)
      exact this _ hc
    have a0 : z 0 = 0 := key 0 (by omega)
    have a1 : z 1 = 0 := key 1 (by omega)
    have a2 : z 2 = 0 := key 2 (by omega)
    have := hz.2.2
    unfold vS at this
    omega
  | succ N ih =>
    intro z hc hz hB
    by_cases hex : ∃ i j k, i < j ∧ j < k ∧ k < 3 + n ∧ vR m i j k ∧ vSl w z i = 0 ∧ vSl w z j = 0 ∧ vSl w z k = 0 ∧ vD w i j k ≠ 0
    · obtain ⟨i, j, k, h1, h2, h3, h4, h5, h6, h7, h8⟩ := hex
      exact hb i j k h1 h2 h3 h4 h8 z h5 h6 h7 hz hB
    · have hd : ∀ i j k, i < j → j < k → k < 3 + n → vR m i j k → vSl w z i = 0 → vSl w z j = 0 → vSl w z k = 0 → vD w i j k = 0 := fun i j k h1 h2 h3 h4 h5 h6 h7 => by
        by_cases q : vD w i j k = 0
        · exact q
        · exact absurd ⟨i, j, k, h1, h2, h3, h4, h5, h6, h7, q⟩ hex
      obtain ⟨d1, e1, e2, e3⟩ := vDir hm1 hm3 hz hd
      have sgn : ∃ d : Nat → Int, vS d = 0 ∧ (∀ i, i < 3 + n → vSl w z i = 0 → vSl w d i = 0) ∧ vLx (- d 3) (d 0) (d 1) := by
        by_cases q : vLx (- d1 3) (d1 0) (d1 1)
        · exact ⟨d1, e1, e2, q⟩
        · refine ⟨fun k => 0 * z k + (-1) * d1 k, ?_, fun i a b => ?_, ?_⟩
          · rw [vS_lin, e1]
            omega
          · rw [vSl_lin, e2 i a b]
            omega
          · show vLx (- (0 * z 3 + (-1) * d1 3)) (0 * z 0 + (-1) * d1 0) (0 * z 1 + (-1) * d1 1)
            unfold vLx at *
            omega
      obtain ⟨d, f1, f2, f3⟩ := sgn
      have fr : ∀ k, m ≤ k → k < 3 → d k = 0 := fun k a b => by
        have q := f2 k (by omega) (by
          unfold vSl
          rw [if_pos b]
          exact hz.2.1 k a b)
        unfold vSl at q
        rw [if_pos b] at q
        exact q
      obtain ⟨D, S, hD, hS, g1, g2, g3⟩ := vStep hz f1 f2 (vNeg hn1 f1 f3) fr
      have lt := vC_lt (3 + n) g2 g3
      refine ih _ (by omega) g1 ?_
      unfold vB at hB ⊢
      rw [vS_lin, f1]
      have := vLx_add (D := D) (S := S * vS b) hD (Int.mul_nonneg hS hb0) hB f3
      have q1 : b 3 * (D * vS z + S * 0) - (D * z 3 + S * d 3) * vS b = D * (b 3 * vS z - z 3 * vS b) + S * vS b * -d 3 := by grind
      have q2 : (D * z 0 + S * d 0) * vS b - b 0 * (D * vS z + S * 0) = D * (z 0 * vS b - b 0 * vS z) + S * vS b * d 0 := by grind
      have q3 : (D * z 1 + S * d 1) * vS b - b 1 * (D * vS z + S * 0) = D * (z 1 * vS b - b 1 * vS z) + S * vS b * d 1 := by grind
      show vLx (b 3 * (D * vS z + S * 0) - (D * z 3 + S * d 3) * vS b) ((D * z 0 + S * d 0) * vS b - b 0 * (D * vS z + S * 0)) ((D * z 1 + S * d 1) * vS b - b 1 * (D * vS z + S * 0))
      rw [q1, q2, q3]
      exact this
/-- a corner is one point -/
theorem vUniq {i j k : Nat} {q : Nat → Int} (h0 : vS q = 0) (hi : vSl w q i = 0) (hj : vSl w q j = 0) (hk : vSl w q k = 0) (hD : vD w i j k ≠ 0) : q 0 = 0 ∧ q 1 = 0 ∧ q 2 = 0 ∧ q 3 = 0 := by
  have a := (vSl_z h0 i).mp hi
  have b := (vSl_z h0 j).mp hj
  have c := (vSl_z h0 k).mp hk
  have x0 : vD w i j k * q 0 = 0 := by
    unfold vD
    generalize vU w i 0 = i0 at *
    generalize vU w i 1 = i1 at *
    generalize vU w i 2 = i2 at *
    generalize vU w j 0 = j0 at *
    generalize vU w j 1 = j1 at *
    generalize vU w j 2 = j2 at *
    generalize vU w k 0 = k0 at *
    generalize vU w k 1 = k1 at *
    generalize vU w k 2 = k2 at *
    have : (i0 * (j1 * k2 - j2 * k1) - i1 * (j0 * k2 - j2 * k0) + i2 * (j0 * k1 - j1 * k0)) * q 0 = (i0 * q 0 + i1 * q 1 + i2 * q 3) * (j1 * k2 - j2 * k1) + (j0 * q 0 + j1 * q 1 + j2 * q 3) * (i2 * k1 - i1 * k2) + (k0 * q 0 + k1 * q 1 + k2 * q 3) * (i1 * j2 - i2 * j1) := by grind
    rw [this, a, b, c]
    simp
  have x1 : vD w i j k * q 1 = 0 := by
    unfold vD
    generalize vU w i 0 = i0 at *
    generalize vU w i 1 = i1 at *
    generalize vU w i 2 = i2 at *
    generalize vU w j 0 = j0 at *
    generalize vU w j 1 = j1 at *
    generalize vU w j 2 = j2 at *
    generalize vU w k 0 = k0 at *
    generalize vU w k 1 = k1 at *
    generalize vU w k 2 = k2 at *
    have : (i0 * (j1 * k2 - j2 * k1) - i1 * (j0 * k2 - j2 * k0) + i2 * (j0 * k1 - j1 * k0)) * q 1 = (i0 * q 0 + i1 * q 1 + i2 * q 3) * (j2 * k0 - j0 * k2) + (j0 * q 0 + j1 * q 1 + j2 * q 3) * (i0 * k2 - i2 * k0) + (k0 * q 0 + k1 * q 1 + k2 * q 3) * (i2 * j0 - i0 * j2) := by grind
    rw [this, a, b, c]
    simp
  have x3 : vD w i j k * q 3 = 0 := by
    unfold vD
    generalize vU w i 0 = i0 at *
    generalize vU w i 1 = i1 at *
    generalize vU w i 2 = i2 at *
    generalize vU w j 0 = j0 at *
    generalize vU w j 1 = j1 at *
    generalize vU w j 2 = j2 at *
    generalize vU w k 0 = k0 at *
    generalize vU w k 1 = k1 at *
    generalize vU w k 2 = k2 at *
    have : (i0 * (j1 * k2 - j2 * k1) - i1 * (j0 * k2 - j2 * k0) + i2 * (j0 * k1 - j1 * k0)) * q 3 = (i0 * q 0 + i1 * q 1 + i2 * q 3) * (j0 * k1 - j1 * k0) + (j0 * q 0 + j1 * q 1 + j2 * q 3) * (i1 * k0 - i0 * k1) + (k0 * q 0 + k1 * q 1 + k2 * q 3) * (i0 * j1 - i1 * j0) := by grind
    rw [this, a, b, c]
    simp
  rw [Int.mul_eq_zero] at x0 x1 x3
  have y0 : q 0 = 0 := by omega
  have y1 : q 1 = 0 := by omega
  have y3 : q 3 = 0 := by omega
  unfold vS at h0
  exact ⟨y0, y1, by omega, y3⟩
theorem vProp {i j k : Nat} (c1 : vSl w c i = 0) (c2 : vSl w c j = 0) (c3 : vSl w c k = 0) (y1 : vSl w y i = 0) (y2 : vSl w y j = 0) (y3 : vSl w y k = 0) (hD : vD w i j k ≠ 0) : ∀ l, l < 4 → c l * vS y = y l * vS c := by
  have e : ∀ l, (fun l => vS y * c l + (- vS c) * y l) l = vS y * c l + (- vS c) * y l := fun _ => rfl
  have := vUniq (w := w) (i := i) (j := j) (k := k) (q := fun l => vS y * c l + (- vS c) * y l) (by
    rw [vS_lin]
    grind) (by
    rw [vSl_lin, c1, y1]
    simp) (by
    rw [vSl_lin, c2, y2]
    simp) (by
    rw [vSl_lin, c3, y3]
    simp) hD
  obtain ⟨t0, t1, t2, t3⟩ := this
  intro l hl
  rcases (show l = 0 ∨ l = 1 ∨ l = 2 ∨ l = 3 by omega) with rfl | rfl | rfl | rfl <;> grind
/-- being better goes by the point -/
theorem vB_pt {y' : Nat → Int} (hy : 0 < vS y) (hy' : 0 < vS y') (h0 : y 0 * vS y' = y' 0 * vS y) (h1 : y 1 * vS y' = y' 1 * vS y) (h3 : y 3 * vS y' = y' 3 * vS y) : vB y b ↔ vB y' b := by
  unfold vB
  rw [← vLx_mul (D := vS y') hy', ← vLx_mul (D := vS y) (a := b 3 * vS y' - y' 3 * vS b) hy]
  have e1 : vS y' * (b 3 * vS y - y 3 * vS b) = vS y * (b 3 * vS y' - y' 3 * vS b) := by grind
  have e2 : vS y' * (y 0 * vS b - b 0 * vS y) = vS y * (y' 0 * vS b - b 0 * vS y') := by grind
  have e3 : vS y' * (y 1 * vS b - b 1 * vS y) = vS y * (y' 1 * vS b - b 1 * vS y') := by grind
  rw [e1, e2, e3]
theorem vB_no (h1 : ¬ vB z b) (h2 : ¬ vB b z) : b 3 * vS z = z 3 * vS b ∧ z 0 * vS b = b 0 * vS z ∧ z 1 * vS b = b 1 * vS z ∧ z 2 * vS b = b 2 * vS z := by
  unfold vB vLx at h1 h2
  have e : z 0 * vS b + z 1 * vS b + z 2 * vS b = b 0 * vS z + b 1 * vS z + b 2 * vS z := by
    unfold vS
    grind
  generalize b 3 * vS z = A at *
  generalize z 3 * vS b = A' at *
  generalize z 0 * vS b = B at *
  generalize b 0 * vS z = B' at *
  generalize z 1 * vS b = C at *
  generalize b 1 * vS z = C' at *
  generalize z 2 * vS b = D at *
  generalize b 2 * vS z = D' at *
  omega
end JV0
