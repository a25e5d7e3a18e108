/-! town: what is read stays a town, and the reading goes on -/
section JTC2
variable {B : Nat → Nat} {n p q s k j w x y : Nat} {T : jT}
def qOk (B : Nat → Nat) (n : Nat) (T : jT) : Prop := jTok T ∧ (∀ i, i < tP T → qNm B n (T 9 i 0)) ∧ tMk T = 0 ∧ T 0 6 0 ≤ 1 ∧ T 0 7 0 ≤ 1
theorem qOk_0 : qOk B n tT0 := ⟨⟨⟨by decide, by decide, by decide, by decide, by decide, by decide⟩, fun p hp => absurd hp (Nat.not_lt_zero _), fun p k hp => absurd hp (Nat.not_lt_zero _), fun l hl => absurd hl (Nat.not_lt_zero _)⟩, fun i hi => absurd hi (Nat.not_lt_zero _), by decide, by decide, by decide⟩
theorem qOk_P (h : qOk B n T) (h8 : tP T < 8) (hx : qNm B n x) : qOk B n (addP T x) := by
  obtain ⟨h1, h2, h3, h4, h5⟩ := h
  refine ⟨addP_ok h1 h8, fun i hi => ?_, (addP_0 (by omega)).trans h3, by rw [addP_0 (by omega)]; exact h4, by rw [addP_0 (by omega)]; exact h5⟩
  rw [addP_P] at hi
  rw [addP_9]
  split
  · exact hx
  · exact h2 i (by omega)
theorem qOk_F {f v : Nat} (h : qOk B n T) (hf : f < 3) (hv : v ≤ fHi f) : qOk B n (setF T f v) := by
  obtain ⟨h1, h2, h3, h4, h5⟩ := h
  refine ⟨setF_ok hf hv h1, fun i hi => ?_, (setF_o (by omega)).trans h3, by rw [setF_o (by omega)]; exact h4, by rw [setF_o (by omega)]; exact h5⟩
  rw [setF_P] at hi
  rw [setF_o (by omega)]
  exact h2 i hi
theorem qOk_N {i v j : Nat} (h : qOk B n T) (hi : (i = 2 ∧ 1 ≤ v ∧ v ≤ 4) ∨ (i = 3 ∧ v ≤ 3) ∨ (i = 4 ∧ v ≤ 1)) (hj : j = 4 ∨ j = 6 ∨ j = 7) : qOk B n (setN T i v j) := by
  obtain ⟨h1, h2, h3, h4, h5⟩ := h
  refine ⟨setN_ok hi hj h1, fun k hk => ?_, ?_, ?_, ?_⟩
  · have e : tP (setN T i v j) = tP T := by
      show setN T i v j 0 0 0 = _
      rw [setN_0, if_neg (by omega), if_neg (by omega)]
      rfl
    rw [e] at hk
    rw [setN_o (by omega)]
    exact h2 k hk
  · show setN T i v j 0 5 0 = 0
    rw [setN_0, if_neg (by omega), if_neg (by omega)]
    exact h3
  · rw [setN_0, if_neg (by omega)]
    split
    · omega
    · exact h4
  · rw [setN_0, if_neg (by omega)]
    split
    · omega
    · exact h5
theorem qOk_L (h : qOk B n T) (hx : x < tP T) (hy : y < tP T) (hne : x ≠ y) (h12 : tLn T < 12) (dx : tD T x < 4) (dy : tD T y < 4) : qOk B n (addL T x y) := by
  obtain ⟨h1, h2, h3, h4, h5⟩ := h
  refine ⟨addL_ok h1 hx hy hne h12 dx dy, fun i hi => ?_, (addL_0 (by omega)).trans h3, by rw [addL_0 (by omega)]; exact h4, by rw [addL_0 (by omega)]; exact h5⟩
  rw [addL_P] at hi
  rw [addL_p (by omega)]
  exact h2 i hi
theorem fdF_lt : ∀ (k i : Nat), fdF B n T p k i = some x → i ≤ x ∧ x < i + k
  | 0, _, h => by cases h
  | k + 1, i, h => by
    rw [fdF] at h
    split at h
    · cases h
      omega
    · have := fdF_lt k (i + 1) h
      omega
theorem fd_lt (h : fd B n T p = some x) : x < tP T := by
  have := fdF_lt _ _ h
  omega
theorem qNm_K (h : qNm B n p) : qK B n p ≠ 0 := by
  rw [h.1]
  decide
theorem qW_K (h : bW B n p w = true) : qK B n p = 1 := (bW_i.mp h).1
theorem qFt_K {f : Nat} (h : qFt B n p = some f) : qK B n p = 1 := by
  unfold qFt at h
  split at h
  · next c => exact c.1
  · split at h
    · next c => exact c.1
    · split at h
      · next c => exact c.1
      · cases h
theorem qE_go (h : qK B n p ≠ 0) (hp : p ≤ n) : p < qE B n p ∧ qE B n p ≤ n := ⟨qE_gt h, qE_le hp⟩
theorem qE_m (hp : p ≤ n) : p ≤ qE B n p ∧ qE B n p ≤ n := ⟨Nat.le_trans qS_ge qE_ge, qE_le hp⟩
theorem pFeat_ok {T' : jT} {p' : Nat} : ∀ (k had : Nat) (T : jT) (p : Nat), p ≤ n → qOk B n T → pFeat B n k had T p = .inr (T', p') → qOk B n T' ∧ p ≤ p' ∧ p' ≤ n
  | 0, had, T, p, hp, hT, h => by
    rw [pFeat] at h
    cases h
    exact ⟨hT, Nat.le_refl _, hp⟩
  | k + 1, had, T, p, hp, hT, h => by
    rw [pFeat] at h
    split at h
    · cases h
      exact ⟨hT, Nat.le_refl _, hp⟩
    · next f hf =>
      split at h
      · cases h
      · split at h
        · cases h
        · next c2 =>
          split at h
          · cases h
          · next c3 =>
            have m1 := qE_m (B := B) hp
            have m2 := qE_m (B := B) m1.2
            have r := pFeat_ok k _ _ _ m2.2 (qOk_F hT (qFt_lt hf) (by omega)) h
            exact ⟨r.1, by omega, r.2.2⟩
theorem pPlace_ok {T' : jT} {p' : Nat} (hp : p ≤ n) (hT : qOk B n T) (h : pPlace B n T p = .inr (T', p')) : qOk B n T' ∧ qE B n p ≤ p' ∧ p' ≤ n := by
  have m1 := qE_m (B := B) hp
  have m2 := qE_m (B := B) m1.2
  unfold pPlace at h
  split at h
  · next c =>
    split at h
    · cases h
    · split at h
      · cases h
      · next c8 =>
        have h8 := hT.1.1.1
        have r := pFeat_ok _ _ _ _ m2.2 (qOk_P hT (by omega) (bNm_i.mp c)) h
        exact ⟨r.1, by omega, r.2.2⟩
  · cases h
theorem jnd_i (hT : jTok T) (hx : x < tP T) (hne : y ≠ x) : jnd T x y = true ↔ ∃ k, k < tD T x ∧ tLe T x k = y := by
  unfold jnd
  rw [sAny_iff]
  constructor
  · rintro ⟨l, _, l1, l2⟩
    have l2 := of_decide_eq_true l2
    obtain ⟨c1, c2, c3, c4, ⟨k1, k2, k3⟩, j1, j2, j3⟩ := hT.2.2.2 l (by omega)
    rcases l2 with ⟨e1, e2⟩ | ⟨e1, e2⟩
    · refine ⟨k1, by rw [← e1]; exact k2, ?_⟩
      unfold tLe
      rw [← e1, k3, if_pos rfl]
      exact e2
    · refine ⟨j1, by rw [← e2]; exact j2, ?_⟩
      unfold tLe
      rw [← e2, j3, if_neg c4]
      exact e1
  · rintro ⟨k, k1, k2⟩
    obtain ⟨b1, b2⟩ := hT.2.2.1 x k hx k1
    refine ⟨tL T x k, by omega, by omega, decide_eq_true ?_⟩
    unfold tLe at k2
    by_cases e : tO T (tL T x k) = x
    · rw [if_pos e] at k2
      exact Or.inl ⟨e, k2⟩
    · rw [if_neg e] at k2
      exact Or.inr ⟨k2, b2.resolve_left e⟩
theorem pLaneTo_ok {T' : jT} {p' : Nat} (hp : p ≤ n) (hT : qOk B n T) (hx : x < tP T) (dx : tD T x ≠ 4) (h12 : tLn T ≠ 12) (h : pLaneTo B n T x p = .inr (T', p')) : qOk B n T' ∧ p ≤ p' ∧ p' ≤ n := by
  have m1 := qE_m (B := B) hp
  unfold pLaneTo at h
  split at h
  · split at h
    · cases h
    · next y hy =>
      split at h
      · cases h
      · next c1 =>
        split at h
        · cases h
        · next c2 =>
          cases h
          have hyl := fd_lt hy
          have d1 := (hT.1.2.1 x hx).2.2.2
          have d2 := (hT.1.2.1 y hyl).2.2.2
          have l12 := hT.1.1.2.1
          have dy : tD T y ≠ 4 := fun z => c2 (Or.inl z)
          exact ⟨qOk_L hT hx hyl (fun z => c1 z.symm) (by omega) (by omega) (by omega), by omega, m1.2⟩
  · cases h
theorem pLane_ok {T' : jT} {p' : Nat} (hp : p ≤ n) (hT : qOk B n T) (h : pLane B n T p = .inr (T', p')) : qOk B n T' ∧ qE B n p ≤ p' ∧ p' ≤ n := by
  have m1 := qE_m (B := B) hp
  have m2 := qE_m (B := B) m1.2
  have m3 := qE_m (B := B) m2.2
  unfold pLane at h
  split at h
  · cases h
  · next c12 =>
    split at h
    · split at h
      · cases h
      · next x hx =>
        split at h
        · cases h
        · next c4 =>
          split at h
          · have r := pLaneTo_ok m3.2 hT (fd_lt hx) c4 c12 h
            exact ⟨r.1, by omega, r.2.2⟩
          · cases h
    · cases h
theorem pOnce_ok {T' : jT} {p' i j a b : Nat} (hp : p ≤ n) (hT : qOk B n T) (hi : (i = 2 ∧ 1 ≤ a ∧ b ≤ 4) ∨ (i = 3 ∧ b ≤ 3)) (hj : j = 6 ∨ j = 7) (h : pOnce B n T p i j a b = .inr (T', p')) : qOk B n T' ∧ qE B n p ≤ p' ∧ p' ≤ n := by
  have m1 := qE_m (B := B) hp
  have m2 := qE_m (B := B) m1.2
  unfold pOnce at h
  split at h
  · cases h
  · split at h
    · cases h
    · split at h
      · next c =>
        cases h
        exact ⟨qOk_N hT (by omega) (by omega), by omega, m2.2⟩
      · cases h
theorem pCross_ok {T' : jT} {p' : Nat} (hp : p ≤ n) (hT : qOk B n T) (h : pCross B n T p = .inr (T', p')) : qOk B n T' ∧ qE B n p ≤ p' ∧ p' ≤ n := by
  have m1 := qE_m (B := B) hp
  unfold pCross at h
  split at h
  · cases h
  · cases h
    exact ⟨qOk_N hT (by omega) (by omega), Nat.le_refl _, m1.2⟩
theorem pBody_ok {T' : jT} {p' : Nat} (hp : p ≤ n) (hT : qOk B n T) (h : pBody B n T p = .inr (T', p')) : qOk B n T' ∧ p < p' ∧ p' ≤ n := by
  unfold pBody at h
  have go : bW B n p 0 = true ∨ bW B n p 1 = true ∨ bW B n p 3 = true ∨ bW B n p 4 = true ∨ bW B n p 5 = true → p < qE B n p := fun z => qE_gt (by
    rcases z with z | z | z | z | z <;> rw [qW_K z] <;> decide)
  split at h
  · next c =>
    have g := go (Or.inl c)
    have r := pPlace_ok hp hT h
    exact ⟨r.1, by omega, r.2.2⟩
  · split at h
    · next c =>
      have g := go (Or.inr (Or.inl c))
      have r := pLane_ok hp hT h
      exact ⟨r.1, by omega, r.2.2⟩
    · split at h
      · next c =>
        have g := go (Or.inr (Or.inr (Or.inl c)))
        have r := pCross_ok hp hT h
        exact ⟨r.1, by omega, r.2.2⟩
      · split at h
        · next c =>
          have g := go (Or.inr (Or.inr (Or.inr (Or.inl c))))
          have r := pOnce_ok hp hT (Or.inl ⟨rfl, Nat.le_refl _, Nat.le_refl _⟩) (Or.inl rfl) h
          exact ⟨r.1, by omega, r.2.2⟩
        · split at h
          · next c =>
            have g := go (Or.inr (Or.inr (Or.inr (Or.inr c))))
            have r := pOnce_ok hp hT (Or.inr ⟨rfl, Nat.le_refl _⟩) (Or.inr rfl) h
            exact ⟨r.1, by omega, r.2.2⟩
          · cases h
theorem pPart_ok {T' : jT} {p' : Nat} (hp : p ≤ n) (hT : qOk B n T) (h : pPart B n T p = .inr (T', p')) : qOk B n T' ∧ p < p' ∧ p' ≤ n := by
  unfold pPart at h
  split at h
  · cases h
  · next T1 p1 e =>
    split at h
    · cases h
      have r := pBody_ok hp hT e
      have m := qE_m (B := B) r.2.2
      exact ⟨r.1, by omega, m.2⟩
    · cases h
theorem pAll_ok {T' : jT} : ∀ (k : Nat) (T : jT) (p : Nat), p ≤ n → qOk B n T → pAll B n k T p = .inr T' → qOk B n T'
  | 0, T, p, hp, hT, h => by
    rw [pAll] at h
    cases h
    exact hT
  | k + 1, T, p, hp, hT, h => by
    rw [pAll] at h
    split at h
    · cases h
      exact hT
    · split at h
      · cases h
      · next T1 p1 e =>
        have r := pPart_ok hp hT e
        exact pAll_ok k T1 p1 r.2.2 r.1 h
end JTC2
