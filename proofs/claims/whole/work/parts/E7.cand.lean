/-! value: what the reference tries; the class's best is among it -/
section JV7
variable {w : Nat → Nat → Int} {m n : Nat} {β z : Nat → Int} {vt vb : Int}
/-- a side that is met, as the reference writes it (t by b) -/
def eQ (w : Nat → Nat → Int) (m k : Nat) (t b : Int) (p : Nat) : Int := if k < 3 then (if k = m - 1 then 1 else if p = k then 1 else 0) else if p = 0 then b * (w 0 (k - 3) - w (m - 1) (k - 3)) else if p = 1 then (if m < 3 then 0 else b * (w 1 (k - 3) - w (m - 1) (k - 3))) else t - b * w (m - 1) (k - 3)
/-- two columns alike -/
def eB (w : Nat → Nat → Int) (m i j p : Nat) : Int := if p = 0 then w 0 i - w 0 j - (w (m - 1) i - w (m - 1) j) else if p = 1 then (if m < 3 then 0 else w 1 i - w 1 j - (w (m - 1) i - w (m - 1) j)) else - (w (m - 1) i - w (m - 1) j)
def kI (k : Nat) : Nat := if k = 5 then 1 else 0
def kJ (k : Nat) : Nat := if k = 3 then 1 else 2
/-- an item of the value's search -/
def eV (w : Nat → Nat → Int) (m k p : Nat) : Int := if k < 3 then eQ w m k 0 1 p else eB w m (kI k) (kJ k) p
def okV (m n k : Nat) : Prop := if k < 3 then k < m else kJ k < n
def okT (m n k : Nat) : Prop := if k < 3 then k < m else k - 3 < n
def eTw (f g : Nat → Int) (p : Nat) : Int := if p < 3 then f p else g (p - 3)
def cBot (m : Nat) (E : Nat → Int) : Int := if m = 1 then 1 else if m = 2 then E 0 else E 0 * E 4 - E 1 * E 3
def cX (m : Nat) (E : Nat → Int) : Int := if m = 1 then 1 else if m = 2 then E 2 else E 2 * E 4 - E 1 * E 5
def cY (m : Nat) (E : Nat → Int) : Int := if m = 3 then E 0 * E 5 - E 2 * E 3 else 0
def eqs (m : Nat) (E z : Nat → Int) : Prop := if m = 1 then True else if m = 2 then E 0 * z 0 = E 2 * vS z else E 0 * z 0 + E 1 * z 1 = E 2 * vS z ∧ E 3 * z 0 + E 4 * z 1 = E 5 * vS z
/-- a column's worth at a point -/
def vCol (w : Nat → Nat → Int) (z : Nat → Int) (j : Nat) : Int := z 0 * w 0 j + z 1 * w 1 j + z 2 * w 2 j
theorem tight_col {k : Nat} (hk : 3 ≤ k) (h : vSl w z k = 0) : vCol w z (k - 3) = z 3 := by
  unfold vSl at h
  rw [if_neg (by omega)] at h
  unfold vCol
  omega
theorem tight_row {k : Nat} (hk : k < 3) (h : vSl w z k = 0) : z k = 0 := by
  unfold vSl at h
  rw [if_pos hk] at h
  exact h
/-- one equation at a point, m = 3 -/
theorem eq3_row {k : Nat} {t b : Int} (hk : k < 3) (h : z k = 0) : eQ w 3 k t b 0 * z 0 + eQ w 3 k t b 1 * z 1 = eQ w 3 k t b 2 * vS z := by
  unfold eQ vS
  rcases (show k = 0 ∨ k = 1 ∨ k = 2 by omega) with rfl | rfl | rfl
  · simp
    exact h
  · simp
    exact h
  · simp
    omega
theorem eq3_bal {i j : Nat} (h : vCol w z i = vCol w z j) : eB w 3 i j 0 * z 0 + eB w 3 i j 1 * z 1 = eB w 3 i j 2 * vS z := by
  have a0 : eB w 3 i j 0 = w 0 i - w 0 j - (w 2 i - w 2 j) := rfl
  have a1 : eB w 3 i j 1 = w 1 i - w 1 j - (w 2 i - w 2 j) := rfl
  have a2 : eB w 3 i j 2 = - (w 2 i - w 2 j) := rfl
  rw [a0, a1, a2]
  unfold vCol at h
  unfold vS
  grind
theorem eq3_col {k : Nat} (hk : 3 ≤ k) (h : vb * vCol w z (k - 3) = vt * vS z) : eQ w 3 k vt vb 0 * z 0 + eQ w 3 k vt vb 1 * z 1 = eQ w 3 k vt vb 2 * vS z := by
  have c : ¬ k < 3 := by omega
  have a0 : eQ w 3 k vt vb 0 = vb * (w 0 (k - 3) - w 2 (k - 3)) := by
    unfold eQ
    rw [if_neg c]
    rfl
  have a1 : eQ w 3 k vt vb 1 = vb * (w 1 (k - 3) - w 2 (k - 3)) := by
    unfold eQ
    rw [if_neg c]
    rfl
  have a2 : eQ w 3 k vt vb 2 = vt - vb * w 2 (k - 3) := by
    unfold eQ
    rw [if_neg c]
    rfl
  rw [a0, a1, a2]
  unfold vCol at h
  generalize k - 3 = j at *
  have : vt * vS z = vb * (z 0 * w 0 j + z 1 * w 1 j + z 2 * w 2 j) := h.symm
  have e : (vt - vb * w 2 j) * vS z = vt * vS z - vb * w 2 j * vS z := by grind
  rw [e, this]
  unfold vS
  grind
theorem eqs_3 {f g : Nat → Int} (h1 : f 0 * z 0 + f 1 * z 1 = f 2 * vS z) (h2 : g 0 * z 0 + g 1 * z 1 = g 2 * vS z) : eqs 3 (eTw f g) z := ⟨h1, h2⟩
theorem bot_3 {f g : Nat → Int} : cBot 3 (eTw f g) = f 0 * g 1 - f 1 * g 0 := rfl
theorem u_col {k : Nat} (hk : 3 ≤ k) : vU w k 0 = w 0 (k - 3) - w 2 (k - 3) ∧ vU w k 1 = w 1 (k - 3) - w 2 (k - 3) ∧ vU w k 2 = -1 := by
  unfold vU vE
  simp [show ¬ k < 3 by omega]
theorem vD_012 : vD w 0 1 2 = 0 := by
  have a : ∀ k, vU w 0 k = if k = 0 then 1 else 0 := fun k => by
    unfold vU vE
    by_cases e : k = 0
    · simp [e]
    · by_cases e1 : k = 1
      · simp [e1]
      · simp [e, e1]
  unfold vD
  rw [a, a, a]
  have b2 : vU w 1 2 = 0 := rfl
  have c2 : vU w 2 2 = 0 := rfl
  rw [b2, c2]
  simp
/-- a row's equation against the sides' determinant -/
theorem row_u {k : Nat} {t b : Int} (hk : k < 3) : vU w k 2 = 0 ∧ ((vU w k 0 = eQ w 3 k t b 0 ∧ vU w k 1 = eQ w 3 k t b 1) ∨ (vU w k 0 = - eQ w 3 k t b 0 ∧ vU w k 1 = - eQ w 3 k t b 1)) := by
  rcases (show k = 0 ∨ k = 1 ∨ k = 2 by omega) with rfl | rfl | rfl
  · exact ⟨rfl, Or.inl ⟨rfl, rfl⟩⟩
  · exact ⟨rfl, Or.inl ⟨rfl, rfl⟩⟩
  · exact ⟨rfl, Or.inr ⟨rfl, rfl⟩⟩
/-- the best point is among the reference's corners: three rows -/
theorem cand3 {i j k : Nat} (hi : i < j) (hj : j < k) (hk : k < 3 + n) (hn3 : n ≤ 3) (hD : vD w i j k ≠ 0) (h1 : vSl w β i = 0) (h2 : vSl w β j = 0) (h3 : vSl w β k = 0) : (∃ a b, a < b ∧ b < 6 ∧ okV 3 n a ∧ okV 3 n b ∧ eqs 3 (eTw (eV w 3 a) (eV w 3 b)) β ∧ cBot 3 (eTw (eV w 3 a) (eV w 3 b)) ≠ 0) ∧ ∀ vt vb : Int, 0 < vb → vb * β 3 = vt * vS β → ∃ a b, a < b ∧ b < 6 ∧ okT 3 n a ∧ okT 3 n b ∧ eqs 3 (eTw (eQ w 3 a vt vb) (eQ w 3 b vt vb)) β ∧ cBot 3 (eTw (eQ w 3 a vt vb) (eQ w 3 b vt vb)) ≠ 0 := by
  have k3 : 3 ≤ k := by
    by_cases e : k < 3
    · obtain ⟨rfl, rfl, rfl⟩ : i = 0 ∧ j = 1 ∧ k = 2 := by omega
      exact absurd vD_012 hD
    · omega
  have rowV : ∀ a, a < 3 → eV w 3 a = eQ w 3 a 0 1 := fun a ha => by
    funext p
    unfold eV
    rw [if_pos ha]
  have okVr : ∀ a, a < 3 → okV 3 n a := fun a ha => by
    unfold okV
    rw [if_pos ha]
    exact ha
  have okTr : ∀ a, a < 3 → okT 3 n a := fun a ha => by
    unfold okT
    rw [if_pos ha]
    exact ha
  have okTc : ∀ a, 3 ≤ a → a < 3 + n → okT 3 n a := fun a ha hn => by
    unfold okT
    rw [if_neg (by omega)]
    omega
  obtain ⟨uk0, uk1, uk2⟩ := u_col (w := w) k3
  by_cases j3 : j < 3
  · -- two rows
    have z1 := tight_row (by omega) h1
    have z2 := tight_row j3 h2
    have nz : ∀ t b : Int, cBot 3 (eTw (eQ w 3 i t b) (eQ w 3 j t b)) ≠ 0 := fun t b => by
      rw [bot_3]
      rcases (show (i = 0 ∧ j = 1) ∨ (i = 0 ∧ j = 2) ∨ (i = 1 ∧ j = 2) by omega) with ⟨rfl, rfl⟩ | ⟨rfl, rfl⟩ | ⟨rfl, rfl⟩ <;> simp [eQ]
    refine ⟨⟨i, j, hi, by omega, okVr i (by omega), okVr j j3, ?_, ?_⟩, fun vt vb _ _ => ⟨i, j, hi, by omega, okTr i (by omega), okTr j j3, eqs_3 (eq3_row (by omega) z1) (eq3_row j3 z2), nz vt vb⟩⟩
    · rw [rowV i (by omega), rowV j j3]
      exact eqs_3 (eq3_row (by omega) z1) (eq3_row j3 z2)
    · rw [rowV i (by omega), rowV j j3]
      exact nz 0 1
  obtain ⟨uj0, uj1, uj2⟩ := u_col (w := w) (show 3 ≤ j by omega)
  have cj := tight_col (by omega) h2
  have ck := tight_col k3 h3
  by_cases i3 : i < 3
  · -- a row, two columns
    have z1 := tight_row i3 h1
    obtain ⟨ui2, ui⟩ := row_u (w := w) (t := 0) (b := 1) i3
    have fr : ∀ t b p, p < 2 → eQ w 3 i t b p = eQ w 3 i 0 1 p := fun t b p hp => by
      unfold eQ
      rw [if_pos i3, if_pos i3]
    have det : vD w i j k = vU w i 1 * (w 0 (j - 3) - w 0 (k - 3) - (w 2 (j - 3) - w 2 (k - 3))) - vU w i 0 * (w 1 (j - 3) - w 1 (k - 3) - (w 2 (j - 3) - w 2 (k - 3))) := by
      unfold vD
      rw [uk0, uk1, uk2, uj0, uj1, uj2, ui2]
      grind
    refine ⟨?_, fun vt vb hvb hv => ?_⟩
    · obtain ⟨c, c3, c6, cI, cJ⟩ : ∃ c, 3 ≤ c ∧ c < 6 ∧ kI c = j - 3 ∧ kJ c = k - 3 := by
        rcases (show (j = 3 ∧ k = 4) ∨ (j = 3 ∧ k = 5) ∨ (j = 4 ∧ k = 5) by omega) with ⟨rfl, rfl⟩ | ⟨rfl, rfl⟩ | ⟨rfl, rfl⟩
        · exact ⟨3, by omega, by omega, rfl, rfl⟩
        · exact ⟨4, by omega, by omega, rfl, rfl⟩
        · exact ⟨5, by omega, by omega, rfl, rfl⟩
      have ec : eV w 3 c = eB w 3 (j - 3) (k - 3) := by
        funext p
        unfold eV
        rw [if_neg (by omega), cI, cJ]
      refine ⟨i, c, by omega, c6, okVr i i3, ?_, ?_, ?_⟩
      · unfold okV
        rw [if_neg (by omega), cJ]
        omega
      · rw [rowV i i3, ec]
        exact eqs_3 (eq3_row i3 z1) (eq3_bal (cj.trans ck.symm))
      · rw [rowV i i3, ec, bot_3]
        have b0 : eB w 3 (j - 3) (k - 3) 0 = w 0 (j - 3) - w 0 (k - 3) - (w 2 (j - 3) - w 2 (k - 3)) := rfl
        have b1 : eB w 3 (j - 3) (k - 3) 1 = w 1 (j - 3) - w 1 (k - 3) - (w 2 (j - 3) - w 2 (k - 3)) := rfl
        rw [b0, b1]
        intro q
        apply hD
        rw [det]
        rcases ui with ⟨a, b⟩ | ⟨a, b⟩
        · rw [a, b]
          omega
        · rw [a, b, Int.neg_mul, Int.neg_mul]
          omega
    · have tj : vb * vCol w β (j - 3) = vt * vS β := by rw [cj]; exact hv
      have tk : vb * vCol w β (k - 3) = vt * vS β := by rw [ck]; exact hv
      have row := eq3_row (w := w) (t := vt) (b := vb) i3 z1
      have c0 : ∀ a, 3 ≤ a → eQ w 3 a vt vb 0 = vb * (w 0 (a - 3) - w 2 (a - 3)) ∧ eQ w 3 a vt vb 1 = vb * (w 1 (a - 3) - w 2 (a - 3)) := fun a ha => by
        unfold eQ
        refine ⟨?_, ?_⟩
        · rw [if_neg (show ¬ a < 3 by omega)]
          rfl
        · rw [if_neg (show ¬ a < 3 by omega)]
          rfl
      by_cases q : cBot 3 (eTw (eQ w 3 i vt vb) (eQ w 3 j vt vb)) = 0
      · by_cases q2 : cBot 3 (eTw (eQ w 3 i vt vb) (eQ w 3 k vt vb)) = 0
        · exfalso
          apply hD
          rw [bot_3, fr _ _ 0 (by omega), fr _ _ 1 (by omega), (c0 j (by omega)).1, (c0 j (by omega)).2] at q
          rw [bot_3, fr _ _ 0 (by omega), fr _ _ 1 (by omega), (c0 k k3).1, (c0 k k3).2] at q2
          have key : vb * (eQ w 3 i 0 1 1 * (w 0 (j - 3) - w 0 (k - 3) - (w 2 (j - 3) - w 2 (k - 3))) - eQ w 3 i 0 1 0 * (w 1 (j - 3) - w 1 (k - 3) - (w 2 (j - 3) - w 2 (k - 3)))) = 0 := by
            generalize eQ w 3 i 0 1 0 = f0 at *
            generalize eQ w 3 i 0 1 1 = f1 at *
            grind
          have key2 := (Int.mul_eq_zero.mp key).resolve_left (by omega)
          rw [det]
          rcases ui with ⟨a, b⟩ | ⟨a, b⟩
          · rw [a, b]
            exact key2
          · rw [a, b, Int.neg_mul, Int.neg_mul]
            omega
        · exact ⟨i, k, by omega, by omega, okTr i i3, okTc k k3 hk, eqs_3 row (eq3_col k3 tk), q2⟩
      · exact ⟨i, j, hi, by omega, okTr i i3, okTc j (by omega) (by omega), eqs_3 row (eq3_col (by omega) tj), q⟩
  · -- three columns
    obtain ⟨rfl, rfl, rfl⟩ : i = 3 ∧ j = 4 ∧ k = 5 := by omega
    obtain ⟨ui0, ui1, ui2⟩ := u_col (w := w) (show 3 ≤ 3 by omega)
    have ci := tight_col (by omega) h1
    have det : vD w 3 4 5 = - ((w 0 0 - w 2 0) * (w 1 1 - w 2 1) - (w 1 0 - w 2 0) * (w 0 1 - w 2 1)) + ((w 0 0 - w 2 0) * (w 1 2 - w 2 2) - (w 1 0 - w 2 0) * (w 0 2 - w 2 2)) - ((w 0 1 - w 2 1) * (w 1 2 - w 2 2) - (w 1 1 - w 2 1) * (w 0 2 - w 2 2)) := by
      unfold vD
      rw [uk0, uk1, uk2, uj0, uj1, uj2, ui0, ui1, ui2]
      simp only [Nat.reduceSub]
      grind
    have ec3 : eV w 3 3 = eB w 3 0 1 := rfl
    have ec4 : eV w 3 4 = eB w 3 0 2 := rfl
    refine ⟨⟨3, 4, by omega, by omega, ?_, ?_, ?_, ?_⟩, fun vt vb hvb hv => ?_⟩
    · show kJ 3 < n
      have : kJ 3 = 1 := rfl
      omega
    · show kJ 4 < n
      have : kJ 4 = 2 := rfl
      omega
    · rw [ec3, ec4]
      exact eqs_3 (eq3_bal (ci.trans cj.symm)) (eq3_bal (ci.trans ck.symm))
    · rw [ec3, ec4, bot_3]
      have b0 : eB w 3 0 1 0 = w 0 0 - w 0 1 - (w 2 0 - w 2 1) := rfl
      have b1 : eB w 3 0 1 1 = w 1 0 - w 1 1 - (w 2 0 - w 2 1) := rfl
      have b2 : eB w 3 0 2 0 = w 0 0 - w 0 2 - (w 2 0 - w 2 2) := rfl
      have b3 : eB w 3 0 2 1 = w 1 0 - w 1 2 - (w 2 0 - w 2 2) := rfl
      rw [b0, b1, b2, b3]
      intro q
      apply hD
      rw [det]
      grind
    · have t3 : vb * vCol w β (3 - 3) = vt * vS β := by rw [ci]; exact hv
      have t4 : vb * vCol w β (4 - 3) = vt * vS β := by rw [cj]; exact hv
      have t5 : vb * vCol w β (5 - 3) = vt * vS β := by rw [ck]; exact hv
      have a30 : eQ w 3 3 vt vb 0 = vb * (w 0 0 - w 2 0) := rfl
      have a31 : eQ w 3 3 vt vb 1 = vb * (w 1 0 - w 2 0) := rfl
      have a40 : eQ w 3 4 vt vb 0 = vb * (w 0 1 - w 2 1) := rfl
      have a41 : eQ w 3 4 vt vb 1 = vb * (w 1 1 - w 2 1) := rfl
      have a50 : eQ w 3 5 vt vb 0 = vb * (w 0 2 - w 2 2) := rfl
      have a51 : eQ w 3 5 vt vb 1 = vb * (w 1 2 - w 2 2) := rfl
      by_cases q : cBot 3 (eTw (eQ w 3 3 vt vb) (eQ w 3 4 vt vb)) = 0
      · by_cases q2 : cBot 3 (eTw (eQ w 3 3 vt vb) (eQ w 3 5 vt vb)) = 0
        · by_cases q3 : cBot 3 (eTw (eQ w 3 4 vt vb) (eQ w 3 5 vt vb)) = 0
          · exfalso
            apply hD
            rw [bot_3, a30, a31, a40, a41] at q
            rw [bot_3, a30, a31, a50, a51] at q2
            rw [bot_3, a40, a41, a50, a51] at q3
            have key : vb * (vb * (- ((w 0 0 - w 2 0) * (w 1 1 - w 2 1) - (w 1 0 - w 2 0) * (w 0 1 - w 2 1)) + ((w 0 0 - w 2 0) * (w 1 2 - w 2 2) - (w 1 0 - w 2 0) * (w 0 2 - w 2 2)) - ((w 0 1 - w 2 1) * (w 1 2 - w 2 2) - (w 1 1 - w 2 1) * (w 0 2 - w 2 2)))) = 0 := by
              grind
            rw [det]
            exact (Int.mul_eq_zero.mp ((Int.mul_eq_zero.mp key).resolve_left (by omega))).resolve_left (by omega)
          · exact ⟨4, 5, by omega, by omega, okTc 4 (by omega) (by omega), okTc 5 (by omega) (by omega), eqs_3 (eq3_col (by omega) t4) (eq3_col (by omega) t5), q3⟩
        · exact ⟨3, 5, by omega, by omega, okTc 3 (by omega) (by omega), okTc 5 (by omega) (by omega), eqs_3 (eq3_col (by omega) t3) (eq3_col (by omega) t5), q2⟩
      · exact ⟨3, 4, by omega, by omega, okTc 3 (by omega) (by omega), okTc 4 (by omega) (by omega), eqs_3 (eq3_col (by omega) t3) (eq3_col (by omega) t4), q⟩
/-- two rows -/
theorem cand2 {i j k : Nat} (hi : i < j) (hj : j < k) (hk : k < 3 + n) (hn3 : n ≤ 3) (hR : vR 2 i j k) (hb2 : β 2 = 0) (hD : vD w i j k ≠ 0) (h1 : vSl w β i = 0) (h2 : vSl w β j = 0) (h3 : vSl w β k = 0) : (∃ a, a < 6 ∧ okV 2 n a ∧ eqs 2 (eV w 2 a) β ∧ cBot 2 (eV w 2 a) ≠ 0) ∧ ∀ vt vb : Int, 0 < vb → vb * β 3 = vt * vS β → ∃ a, a < 6 ∧ okT 2 n a ∧ eqs 2 (eQ w 2 a vt vb) β ∧ cBot 2 (eQ w 2 a vt vb) ≠ 0 := by
  have h2in := hR 2 (by omega) (by omega)
  have k3 : 3 ≤ k := by
    by_cases e : k < 3
    · obtain ⟨rfl, rfl, rfl⟩ : i = 0 ∧ j = 1 ∧ k = 2 := by omega
      exact absurd vD_012 hD
    · omega
  have sS : vS β = β 0 + β 1 := by
    unfold vS
    omega
  by_cases j2 : j = 2
  · subst j2
    have z1 := tight_row (by omega) h1
    have eqr : ∀ t b : Int, eQ w 2 i t b 0 * β 0 = eQ w 2 i t b 2 * vS β := fun t b => by
      rw [sS]
      rcases (show i = 0 ∨ i = 1 by omega) with rfl | rfl
      · simp [eQ, z1]
      · simp [eQ, z1]
    have nz : ∀ t b : Int, eQ w 2 i t b 0 ≠ 0 := fun t b => by
      rcases (show i = 0 ∨ i = 1 by omega) with rfl | rfl <;> simp [eQ]
    have ev : eV w 2 i = eQ w 2 i 0 1 := by
      funext p
      unfold eV
      rw [if_pos (by omega)]
    refine ⟨⟨i, by omega, ?_, ?_, ?_⟩, fun vt vb _ _ => ⟨i, by omega, ?_, eqr vt vb, nz vt vb⟩⟩
    · unfold okV
      rw [if_pos (by omega)]
      omega
    · rw [ev]
      exact eqr 0 1
    · rw [ev]
      exact nz 0 1
    · unfold okT
      rw [if_pos (by omega)]
      omega
  · have i2 : i = 2 := by omega
    subst i2
    have j3 : 3 ≤ j := by omega
    obtain ⟨uk0, uk1, uk2⟩ := u_col (w := w) k3
    obtain ⟨uj0, uj1, uj2⟩ := u_col (w := w) j3
    have u0 : vU w 2 0 = -1 := rfl
    have u1 : vU w 2 1 = -1 := rfl
    have u2 : vU w 2 2 = 0 := rfl
    have cj := tight_col j3 h2
    have ck := tight_col k3 h3
    have det : vD w 2 j k = (w 1 (j - 3) - w 1 (k - 3)) - (w 0 (j - 3) - w 0 (k - 3)) := by
      unfold vD
      rw [uk0, uk1, uk2, uj0, uj1, uj2, u0, u1, u2]
      grind
    have vc : ∀ a, vCol w β a = β 0 * w 0 a + β 1 * w 1 a := fun a => by
      unfold vCol
      rw [hb2, Int.zero_mul, Int.add_zero]
    refine ⟨?_, fun vt vb hvb hv => ?_⟩
    · obtain ⟨c, c3, c6, cI, cJ⟩ : ∃ c, 3 ≤ c ∧ c < 6 ∧ kI c = j - 3 ∧ kJ c = k - 3 := by
        rcases (show (j = 3 ∧ k = 4) ∨ (j = 3 ∧ k = 5) ∨ (j = 4 ∧ k = 5) by omega) with ⟨rfl, rfl⟩ | ⟨rfl, rfl⟩ | ⟨rfl, rfl⟩
        · exact ⟨3, by omega, by omega, rfl, rfl⟩
        · exact ⟨4, by omega, by omega, rfl, rfl⟩
        · exact ⟨5, by omega, by omega, rfl, rfl⟩
      have ec : eV w 2 c = eB w 2 (j - 3) (k - 3) := by
        funext p
        unfold eV
        rw [if_neg (by omega), cI, cJ]
      have b0 : eB w 2 (j - 3) (k - 3) 0 = w 0 (j - 3) - w 0 (k - 3) - (w 1 (j - 3) - w 1 (k - 3)) := rfl
      have b2 : eB w 2 (j - 3) (k - 3) 2 = - (w 1 (j - 3) - w 1 (k - 3)) := rfl
      refine ⟨c, c6, ?_, ?_, ?_⟩
      · unfold okV
        rw [if_neg (by omega), cJ]
        omega
      · rw [ec]
        show eB w 2 (j - 3) (k - 3) 0 * β 0 = eB w 2 (j - 3) (k - 3) 2 * vS β
        rw [b0, b2, sS]
        have := cj.trans ck.symm
        rw [vc, vc] at this
        grind
      · rw [ec]
        show eB w 2 (j - 3) (k - 3) 0 ≠ 0
        rw [b0]
        intro q
        apply hD
        rw [det]
        omega
    · have c0 : ∀ a, 3 ≤ a → eQ w 2 a vt vb 0 = vb * (w 0 (a - 3) - w 1 (a - 3)) ∧ eQ w 2 a vt vb 2 = vt - vb * w 1 (a - 3) := fun a ha => by
        unfold eQ
        refine ⟨?_, ?_⟩
        · rw [if_neg (show ¬ a < 3 by omega)]
          rfl
        · rw [if_neg (show ¬ a < 3 by omega)]
          rfl
      have okTc : ∀ a, 3 ≤ a → a < 3 + n → okT 2 n a := fun a ha hn => by
        unfold okT
        rw [if_neg (by omega)]
        omega
      have ceq : ∀ a, 3 ≤ a → vCol w β (a - 3) = β 3 → eqs 2 (eQ w 2 a vt vb) β := fun a ha hc => by
        show eQ w 2 a vt vb 0 * β 0 = eQ w 2 a vt vb 2 * vS β
        rw [(c0 a ha).1, (c0 a ha).2]
        have e : (vt - vb * w 1 (a - 3)) * vS β = vt * vS β - vb * w 1 (a - 3) * vS β := by grind
        rw [e, ← hv, ← hc, vc, sS]
        grind
      by_cases q : cBot 2 (eQ w 2 j vt vb) = 0
      · by_cases q2 : cBot 2 (eQ w 2 k vt vb) = 0
        · exfalso
          apply hD
          have q' : vb * (w 0 (j - 3) - w 1 (j - 3)) = 0 := (c0 j j3).1.symm.trans q
          have q2' : vb * (w 0 (k - 3) - w 1 (k - 3)) = 0 := (c0 k k3).1.symm.trans q2
          have := (Int.mul_eq_zero.mp q').resolve_left (by omega)
          have := (Int.mul_eq_zero.mp q2').resolve_left (by omega)
          rw [det]
          omega
        · exact ⟨k, by omega, okTc k k3 hk, ceq k k3 ck, q2⟩
      · exact ⟨j, by omega, okTc j j3 (by omega), ceq j j3 cj, q⟩
end JV7
