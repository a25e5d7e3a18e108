/-! value: both have found the same -/
section JVE
variable {W : Nat → Nat → Nat} {m n : Nat} {β C : Nat → Int} {vt vb cb : Int} {cm : Nat}
theorem vFinal (m1 : 1 ≤ m) (m3 : m ≤ 3) (n1 : 1 ≤ n) (n3 : n ≤ 3) (w100 : ∀ i j, W i j ≤ 100) (hβ : vBest W m n 64 β) (hS : vSt W m n vt vb) (hD : vDone W m n vt vb) : vF (wZ W) m n β ∧ 0 < vb ∧ vb * β 3 = vt * vS β := by
  obtain ⟨⟨i, j, k, hij, hjk, hk, hR, hDt, e⟩, hF, best⟩ := vBest_res m1 m3 n1 n3 (fun i j _ _ => w100 i j) hβ
  obtain ⟨a1, a2, a3⟩ := vN_o (w := wZ W) (i := i) (j := j) (k := k)
  rw [← e] at a1 a2 a3
  have key : 0 < vb ∧ vt * vS β ≤ β 3 * vb := by
    rcases (show m = 1 ∨ m = 2 ∨ m = 3 by omega) with rfl | rfl | rfl
    · exact hD β hF trivial (by decide)
    · obtain ⟨⟨a, h6, ok, hq, hb⟩, -⟩ := cand2 hij hjk hk n3 hR (hF.2.1 2 (by omega) (by omega)) hDt a1 a2 a3
      exact hD a h6 ok β hF hq hb
    · obtain ⟨⟨a, b, hab, h6, oka, okb, hq, hb⟩, -⟩ := cand3 hij hjk hk n3 hDt a1 a2 a3
      exact hD a b hab h6 oka okb β hF hq hb
  obtain ⟨vbp, le⟩ := key
  obtain ⟨-, -, z, zF, ze⟩ := hS.2.2 vbp
  refine ⟨hF, vbp, ?_⟩
  have nb := best z zF
  have f1 : β 3 * vS z ≤ z 3 * vS β := by
    by_cases c : β 3 * vS z ≤ z 3 * vS β
    · exact c
    · exact absurd (Or.inl (by omega)) nb
  have ge : β 3 * vb ≤ vt * vS β := by
    refine Int.le_of_mul_le_mul_right (a := vS z) ?_ zF.2.2
    have u := Int.mul_le_mul_of_nonneg_right f1 (Int.le_of_lt vbp)
    have e1 : β 3 * vb * vS z = β 3 * vS z * vb := by grind
    have e2 : z 3 * vS β * vb = vt * vS β * vS z := by
      have : z 3 * vS β * vb = vb * z 3 * vS β := by grind
      rw [this, ze]
      grind
    rw [e1, ← e2]
    exact u
  have : β 3 * vb = vt * vS β := by omega
  rw [Int.mul_comm]
  exact this
theorem cFinal (m1 : 1 ≤ m) (m3 : m ≤ 3) (n1 : 1 ≤ n) (n3 : n ≤ 3) (w100 : ∀ i j, W i j ≤ 100) (hβ : vBest W m n 64 β) (vbp : 0 < vb) (hv : vb * β 3 = vt * vS β) (hS : cSt W m n vt vb cm C cb) (hD : cDone W m n vt vb cm C cb) : cm = m ∧ (0 < cb ∧ cb ≤ 1600000000) ∧ (∀ k, k < 3 → 0 ≤ C k) ∧ C 0 + C 1 + C 2 = cb ∧ ∀ k, k < 3 → β k * cb = C k * vS β := by
  obtain ⟨⟨i, j, k, hij, hjk, hk, hR, hDt, e⟩, hF, best⟩ := vBest_res m1 m3 n1 n3 (fun i j _ _ => w100 i j) hβ
  obtain ⟨a1, a2, a3⟩ := vN_o (w := wZ W) (i := i) (j := j) (k := k)
  rw [← e] at a1 a2 a3
  have key : cm ≠ 0 ∧ cLe β C cb := by
    rcases (show m = 1 ∨ m = 2 ∨ m = 3 by omega) with rfl | rfl | rfl
    · exact hD β hF trivial (by decide) hv
    · obtain ⟨-, h⟩ := cand2 hij hjk hk n3 hR (hF.2.1 2 (by omega) (by omega)) hDt a1 a2 a3
      obtain ⟨a, h6, ok, hq, hb⟩ := h vt vb vbp hv
      exact hD a h6 ok β hF hq hb hv
    · obtain ⟨-, h⟩ := cand3 hij hjk hk n3 hDt a1 a2 a3
      obtain ⟨a, b, hab, h6, oka, okb, hq, hb⟩ := h vt vb vbp hv
      exact hD a b hab h6 oka okb β hF hq hb hv
  obtain ⟨cm0, le⟩ := key
  obtain ⟨cme, ⟨cb1, cb2⟩, Cge, Csum, Cz, Ccol⟩ := hS.resolve_left cm0
  have zs : vS (fun k => if k = 3 then vt * cb else C k * vb) = cb * vb := by
    show C 0 * vb + C 1 * vb + C 2 * vb = cb * vb
    rw [← Csum]
    grind
  have zF : vF (wZ W) m n (fun k => if k = 3 then vt * cb else C k * vb) := by
    refine ⟨fun i hi => ?_, fun k k1 k2 => ?_, by rw [zs]; exact Int.mul_pos cb1 vbp⟩
    · unfold vSl
      by_cases c : i < 3
      · rw [if_pos c]
        show 0 ≤ if i = 3 then vt * cb else C i * vb
        rw [if_neg (by omega)]
        exact Int.mul_nonneg (Cge i c) (Int.le_of_lt vbp)
      · rw [if_neg c]
        have := Ccol (i - 3) (by omega)
        unfold vCol at this
        show 0 ≤ vt * cb - (C 0 * vb * wZ W 0 (i - 3) + C 1 * vb * wZ W 1 (i - 3) + C 2 * vb * wZ W 2 (i - 3))
        have e1 : C 0 * vb * wZ W 0 (i - 3) + C 1 * vb * wZ W 1 (i - 3) + C 2 * vb * wZ W 2 (i - 3) = (C 0 * wZ W 0 (i - 3) + C 1 * wZ W 1 (i - 3) + C 2 * wZ W 2 (i - 3)) * vb := by grind
        rw [e1]
        omega
    · show (if k = 3 then vt * cb else C k * vb) = 0
      rw [if_neg (by omega), Cz k k1 k2, Int.zero_mul]
  have nb := best _ zF
  unfold vB at nb
  rw [zs] at nb
  have nb : ¬ vLx (β 3 * (cb * vb) - vt * cb * vS β) (C 0 * vb * vS β - β 0 * (cb * vb)) (C 1 * vb * vS β - β 1 * (cb * vb)) := nb
  have q1 : β 3 * (cb * vb) - vt * cb * vS β = 0 := by
    have e1 : β 3 * (cb * vb) = vb * β 3 * cb := by grind
    rw [e1, hv]
    grind
  have q2 : C 0 * vb * vS β - β 0 * (cb * vb) = vb * (C 0 * vS β - β 0 * cb) := by grind
  have q3 : C 1 * vb * vS β - β 1 * (cb * vb) = vb * (C 1 * vS β - β 1 * cb) := by grind
  rw [q1, q2, q3] at nb
  unfold vLx at nb
  rw [vpos vbp, vpos vbp, vzero vbp] at nb
  unfold cLe at le
  have r0 : β 0 * cb = C 0 * vS β := by omega
  have r1 : β 1 * cb = C 1 * vS β := by omega
  refine ⟨cme, ⟨cb1, cb2⟩, Cge, Csum, fun k hk => ?_⟩
  rcases (show k = 0 ∨ k = 1 ∨ k = 2 by omega) with rfl | rfl | rfl
  · exact r0
  · exact r1
  · have e0 : β 2 = vS β - β 0 - β 1 := by
      unfold vS
      omega
    have e1 : C 2 = cb - C 0 - C 1 := by omega
    rw [e0, e1, Int.sub_mul, Int.sub_mul, Int.sub_mul, Int.sub_mul, r0, r1, Int.mul_comm (vS β) cb]
end JVE
