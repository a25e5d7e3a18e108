/-! the town's numbers: steps and distances -/
section JTM0
variable {T : jT} {a b c m n p s : Nat}
theorem tLe_lt {k : Nat} (hK : jTok T) (hp : p < tP T) (hk : k < tD T p) : tLe T p k < tP T := by
  have h1 := hK.2.2.1 p k hp hk
  have h2 := hK.2.2.2 _ h1.1
  unfold tLe
  split
  · exact h2.2.2.1
  · exact h2.2.1
theorem tA_lt (hK : jTok T) (hp : p < tP T) : tA T p s < tP T := by
  unfold tA
  split
  · next h => exact tLe_lt hK hp h.2.1
  · exact hp
theorem tA_0 : tA T p 0 = p := by
  unfold tA
  rw [if_neg (by omega)]
theorem tA_rev (hK : jTok T) (hp : p < tP T) : ∃ s' : Nat, s' < 5 ∧ tA T (tA T p s) s' = p := by
  by_cases h : 0 < s ∧ s - 1 < tD T p ∧ tSh T (tL T p (s - 1)) = 0
  · have h1 := hK.2.2.1 p (s - 1) hp h.2.1
    obtain ⟨l1, l2, l3, l4, ⟨k1, k2, k3⟩, j1, j2, j3⟩ := hK.2.2.2 _ h1.1
    have e : tA T p s = tLe T p (s - 1) := by
      unfold tA
      rw [if_pos h]
    by_cases c1 : tO T (tL T p (s - 1)) = p
    · have e2 : tLe T p (s - 1) = tQ T (tL T p (s - 1)) := by
        unfold tLe
        rw [if_pos c1]
      have d4 := (hK.2.1 _ l3).2.2.2
      refine ⟨j1 + 1, by omega, ?_⟩
      rw [e, e2]
      unfold tA
      rw [if_pos ⟨by omega, by rw [Nat.add_sub_cancel]; exact j2, by rw [Nat.add_sub_cancel, j3]; exact h.2.2⟩, Nat.add_sub_cancel]
      unfold tLe
      rw [j3, if_neg l4]
      exact c1
    · have c2 : tQ T (tL T p (s - 1)) = p := h1.2.resolve_left c1
      have e2 : tLe T p (s - 1) = tO T (tL T p (s - 1)) := by
        unfold tLe
        rw [if_neg c1]
      have d4 := (hK.2.1 _ l2).2.2.2
      refine ⟨k1 + 1, by omega, ?_⟩
      rw [e, e2]
      unfold tA
      rw [if_pos ⟨by omega, by rw [Nat.add_sub_cancel]; exact k2, by rw [Nat.add_sub_cancel, k3]; exact h.2.2⟩, Nat.add_sub_cancel]
      unfold tLe
      rw [k3, if_pos rfl]
      exact c2
  · refine ⟨0, by omega, ?_⟩
    rw [tA_0]
    unfold tA
    rw [if_neg h]
theorem tR_0 : tR T 0 a b = true ↔ a = b := by simp [tR]
theorem tR_succ : tR T (n + 1) a b = true ↔ tR T n a b = true ∨ ∃ s, s < 5 ∧ tR T n (tA T a s) b = true := by
  rw [tR]
  simp only [Bool.or_eq_true, List.any_eq_true, List.mem_range]
theorem tR_mono (h : tR T n a b = true) (hm : n ≤ m) : tR T m a b = true := by
  obtain ⟨k, rfl⟩ : ∃ k, m = n + k := ⟨m - n, by omega⟩
  clear hm
  induction k with
  | zero => exact h
  | succ k ih => exact tR_succ.mpr (Or.inl ih)
theorem tR_trans : ∀ {m a : Nat}, tR T m a c = true → tR T n c b = true → tR T (m + n) a b = true
  | 0, a, h1, h2 => by
    rw [tR_0] at h1
    subst h1
    rw [Nat.zero_add]
    exact h2
  | m + 1, a, h1, h2 => by
    rcases tR_succ.mp h1 with h | ⟨s, hs, h⟩
    · exact tR_mono (tR_trans h h2) (by omega)
    · have := tR_trans h h2
      rw [show m + 1 + n = m + n + 1 by omega]
      exact tR_succ.mpr (Or.inr ⟨s, hs, this⟩)
theorem tR_step (hs : s < 5) : tR T 1 a (tA T a s) = true := tR_succ.mpr (Or.inr ⟨s, hs, tR_0.mpr rfl⟩)
theorem tR_lt (hK : jTok T) : ∀ {n a : Nat}, a < tP T → tR T n a b = true → b < tP T
  | 0, a, ha, h => by
    rw [tR_0] at h
    subst h
    exact ha
  | n + 1, a, ha, h => by
    rcases tR_succ.mp h with h | ⟨s, hs, h⟩
    · exact tR_lt hK ha h
    · exact tR_lt hK (tA_lt hK ha) h
theorem tR_symm (hK : jTok T) : ∀ {n a : Nat}, a < tP T → tR T n a b = true → tR T n b a = true
  | 0, a, ha, h => by
    rw [tR_0] at h
    subst h
    exact tR_0.mpr rfl
  | n + 1, a, ha, h => by
    rcases tR_succ.mp h with h | ⟨s, hs, h⟩
    · exact tR_succ.mpr (Or.inl (tR_symm hK ha h))
    · have h1 := tR_symm hK (tA_lt hK ha) h
      obtain ⟨s', hs', e⟩ := tA_rev (s := s) hK ha
      have h2 := tR_step (T := T) (a := tA T a s) hs'
      rw [e] at h2
      exact tR_trans h1 h2
theorem tR_snoc (hK : jTok T) (ha : a < tP T) (h : tR T (n + 1) a b = true) : tR T n a b = true ∨ ∃ c s, c < tP T ∧ s < 5 ∧ tR T n a c = true ∧ tA T c s = b := by
  have hb := tR_lt hK ha h
  rcases tR_succ.mp (tR_symm hK ha h) with h1 | ⟨s, hs, h1⟩
  · exact Or.inl (tR_symm hK hb h1)
  · obtain ⟨s', hs', e⟩ := tA_rev (s := s) hK hb
    exact Or.inr ⟨tA T b s, s', tA_lt hK hb, hs', tR_symm hK (tA_lt hK hb) h1, e⟩
theorem jpig : ∀ (n : Nat) (f : Nat → Nat), (∀ i, i ≤ n → f i < n) → ∃ i j, i < j ∧ j ≤ n ∧ f i = f j
  | 0, f, h => absurd (h 0 (Nat.le_refl 0)) (Nat.not_lt_zero _)
  | n + 1, f, h => by
    by_cases c : ∃ i, i ≤ n ∧ f i = f (n + 1)
    · obtain ⟨i, hi, e⟩ := c
      exact ⟨i, n + 1, by omega, Nat.le_refl _, e⟩
    · have c' : ∀ i, i ≤ n → f i ≠ f (n + 1) := fun i hi e => c ⟨i, hi, e⟩
      obtain ⟨i, j, hij, hj, e⟩ := jpig n (fun i => if f i = n then f (n + 1) else f i) (fun i hi => by
        have h1 := h i (by omega)
        have h2 := h (n + 1) (Nat.le_refl _)
        have h3 := c' i hi
        by_cases q : f i = n
        · show (if f i = n then f (n + 1) else f i) < n
          rw [if_pos q]
          omega
        · show (if f i = n then f (n + 1) else f i) < n
          rw [if_neg q]
          omega)
      have hi := c' i (by omega)
      have hj' := c' j hj
      have e' : (if f i = n then f (n + 1) else f i) = (if f j = n then f (n + 1) else f j) := e
      refine ⟨i, j, hij, by omega, ?_⟩
      by_cases q1 : f i = n <;> by_cases q2 : f j = n <;> simp only [q1, q2, if_true, if_false] at e' <;> omega
/-- in so many steps, and not in fewer -/
def tE (T : jT) (n a b : Nat) : Prop := tR T n a b = true ∧ ∀ m, m < n → tR T m a b = false
theorem tE_ex : ∀ {n : Nat}, tR T n a b = true → ∃ m, m ≤ n ∧ tE T m a b
  | 0, h => ⟨0, Nat.le_refl _, h, fun m hm => absurd hm (Nat.not_lt_zero _)⟩
  | n + 1, h => by
    cases c : tR T n a b with
    | true =>
      obtain ⟨m, hm, e⟩ := tE_ex c
      exact ⟨m, by omega, e⟩
    | false =>
      refine ⟨n + 1, Nat.le_refl _, h, fun m hm => ?_⟩
      cases c2 : tR T m a b with
      | true => rw [tR_mono c2 (show m ≤ n by omega)] at c; cases c
      | false => rfl
theorem tE_chain (hK : jTok T) : ∀ {n a : Nat}, a < tP T → tE T n a b → ∃ f : Nat → Nat, ∀ i, i ≤ n → tE T i (f i) b ∧ f i < tP T
  | 0, a, ha, h => ⟨fun _ => a, fun i hi => by
    obtain rfl : i = 0 := by omega
    exact ⟨h, ha⟩⟩
  | n + 1, a, ha, h => by
    rcases tR_succ.mp h.1 with h1 | ⟨s, hs, h1⟩
    · rw [h.2 n (by omega)] at h1
      cases h1
    · have e : tE T n (tA T a s) b := ⟨h1, fun m hm => by
        cases c : tR T m (tA T a s) b with
        | false => rfl
        | true =>
          have := h.2 (m + 1) (by omega)
          rw [tR_succ.mpr (Or.inr ⟨s, hs, c⟩)] at this
          cases this⟩
      obtain ⟨f, hf⟩ := tE_chain hK (tA_lt hK ha) e
      refine ⟨fun i => if i = n + 1 then a else f i, fun i hi => ?_⟩
      by_cases q : i = n + 1
      · subst q
        show tE T (n + 1) (if n + 1 = n + 1 then a else f (n + 1)) b ∧ (if n + 1 = n + 1 then a else f (n + 1)) < tP T
        rw [if_pos rfl]
        exact ⟨h, ha⟩
      · show tE T i (if i = n + 1 then a else f i) b ∧ (if i = n + 1 then a else f i) < tP T
        rw [if_neg q]
        exact hf i (by omega)
theorem tE_uniq (h1 : tE T m a b) (h2 : tE T n a b) : m = n := by
  rcases Nat.lt_trichotomy m n with h | h | h
  · have := h2.2 m h
    rw [h1.1] at this
    cases this
  · exact h
  · have := h1.2 n h
    rw [h2.1] at this
    cases this
theorem tE_lt (hK : jTok T) (ha : a < tP T) (h : tE T n a b) : n < tP T := by
  rcases Nat.lt_or_ge n (tP T) with q | q
  · exact q
  · obtain ⟨f, hf⟩ := tE_chain hK ha h
    obtain ⟨i, j, hij, hj, e⟩ := jpig (tP T) f (fun i hi => (hf i (by omega)).2)
    have h1 := (hf i (by omega)).1
    rw [e] at h1
    have := tE_uniq h1 (hf j (by omega)).1
    omega
theorem tDi_E (hm : m < 9) (h : tE T m a b) : tDi T a b = m := by
  have h9 : List.range 9 = [0, 1, 2, 3, 4, 5, 6, 7, 8] := rfl
  have g := h.1
  have f := h.2
  unfold tDi
  rw [h9]
  rcases (show m = 0 ∨ m = 1 ∨ m = 2 ∨ m = 3 ∨ m = 4 ∨ m = 5 ∨ m = 6 ∨ m = 7 ∨ m = 8 by omega) with rfl | rfl | rfl | rfl | rfl | rfl | rfl | rfl | rfl
  all_goals simp [List.find?, g, f]
theorem tDi_none (h : ∀ n, tR T n a b = false) : tDi T a b = 100 := by
  have h9 : List.range 9 = [0, 1, 2, 3, 4, 5, 6, 7, 8] := rfl
  unfold tDi
  rw [h9]
  simp [List.find?, h]
theorem tDi_sp (hK : jTok T) (ha : a < tP T) : (tDi T a b = 100 ∧ ∀ n, tR T n a b = false) ∨ (tDi T a b < tP T ∧ tE T (tDi T a b) a b) := by
  by_cases c : ∃ n, tR T n a b = true
  · obtain ⟨n, hn⟩ := c
    obtain ⟨m, -, e⟩ := tE_ex hn
    have hm := tE_lt hK ha e
    have h8 := hK.1.1
    rw [tDi_E (by omega) e]
    exact Or.inr ⟨hm, e⟩
  · have c' : ∀ n, tR T n a b = false := fun n => by
      cases q : tR T n a b with
      | false => rfl
      | true => exact absurd ⟨n, q⟩ c
    exact Or.inl ⟨tDi_none c', c'⟩
theorem tDi_le (hK : jTok T) (ha : a < tP T) : tDi T a b ≤ 100 := by
  have h8 := hK.1.1
  rcases tDi_sp (b := b) hK ha with h | h
  · omega
  · omega
theorem tDi_uniq (hK : jTok T) (ha : a < tP T) {r : Nat} (h1 : r = 100 ∨ (r < 100 ∧ tR T r a b = true)) (h2 : ∀ n, tR T n a b = true → r ≤ n) : tDi T a b = r := by
  have h8 := hK.1.1
  rcases tDi_sp (b := b) hK ha with ⟨e, h⟩ | ⟨e, h⟩
  · rcases h1 with h1 | ⟨-, h1⟩
    · omega
    · rw [h r] at h1
      cases h1
  · have q := h2 _ h.1
    rcases h1 with h1 | ⟨-, h1⟩
    · omega
    · have : ¬ r < tDi T a b := fun z => by
        rw [h.2 r z] at h1
        cases h1
      omega
theorem tDi_symm (hK : jTok T) (ha : a < tP T) (hb : b < tP T) : tDi T a b = tDi T b a := by
  refine tDi_uniq hK ha ?_ (fun n hn => ?_)
  · rcases tDi_sp (b := a) hK hb with ⟨e, -⟩ | ⟨e, h⟩
    · exact Or.inl e
    · have h8 := hK.1.1
      exact Or.inr ⟨by omega, tR_symm hK hb h.1⟩
  · have hn := tR_symm hK ha hn
    rcases tDi_sp (b := a) hK hb with ⟨e, h⟩ | ⟨e, h⟩
    · rw [h n] at hn
      cases hn
    · rcases Nat.lt_or_ge n (tDi T b a) with z | z
      · rw [h.2 n z] at hn
        cases hn
      · exact z
theorem tDi_self (hK : jTok T) (ha : a < tP T) : tDi T a a = 0 := tDi_uniq hK ha (Or.inr ⟨by omega, tR_0.mpr rfl⟩) (fun n _ => Nat.zero_le n)
theorem tDi_zero (hK : jTok T) (ha : a < tP T) (h : tDi T a b = 0) : a = b := by
  rcases tDi_sp (b := b) hK ha with ⟨e, -⟩ | ⟨-, e⟩
  · omega
  · rw [h] at e
    exact tR_0.mp e.1
/-- the first step that leads nearer to a goal -/
def tNeF (T : jT) (p g : Nat) : Nat → Nat → Nat
  | 0, _ => p
  | n + 1, s => if tDi T (tA T p s) g < tDi T p g then tA T p s else tNeF T p g n (s + 1)
def tNe (T : jT) (p g : Nat) : Nat := tNeF T p g 4 1
theorem tNeF_lt {g : Nat} (hK : jTok T) (hp : p < tP T) : ∀ (n s : Nat), tNeF T p g n s < tP T
  | 0, _ => hp
  | n + 1, s => by
    unfold tNeF
    split
    · exact tA_lt hK hp
    · exact tNeF_lt hK hp n (s + 1)
theorem tNe_lt {g : Nat} (hK : jTok T) (hp : p < tP T) : tNe T p g < tP T := tNeF_lt hK hp 4 1
theorem tNeF_out {g : Nat} : ∀ (n k : Nat), tD T p ≤ k → tNeF T p g n (k + 1) = p
  | 0, _, _ => rfl
  | n + 1, k, h => by
    have e : tA T p (k + 1) = p := by
      unfold tA
      rw [if_neg (by omega)]
    unfold tNeF
    rw [e, if_neg (by omega)]
    exact tNeF_out n (k + 1) (by omega)
end JTM0
