/-! town: the tape's tokens -/
section JTA1
variable {B : Nat → Nat} {n p q s k j : Nat} {f : Nat → Bool}
def bBl (c : Nat) : Bool := decide (c = 10) || decide (c = 32)
def bLe (c : Nat) : Bool := decide (97 ≤ c) && decide (c ≤ 122)
def bDi (c : Nat) : Bool := decide (48 ≤ c) && decide (c ≤ 57)
def bRun (f : Nat → Bool) (B : Nat → Nat) (n : Nat) : Nat → Nat → Nat
  | 0, p => p
  | k + 1, p => if p < n ∧ f (B p) = true then bRun f B n k (p + 1) else p
theorem bRun_ge : ∀ (k p : Nat), p ≤ bRun f B n k p
  | 0, p => Nat.le_refl p
  | k + 1, p => by
    rw [bRun]
    split
    · have := bRun_ge k (p + 1)
      omega
    · exact Nat.le_refl p
theorem bRun_le : ∀ (k p : Nat), p ≤ n → bRun f B n k p ≤ n
  | 0, p, h => h
  | k + 1, p, h => by
    rw [bRun]
    split
    · next c => exact bRun_le k (p + 1) (by omega)
    · exact h
theorem bRun_all : ∀ (k p i : Nat), p ≤ i → i < bRun f B n k p → i < n ∧ f (B i) = true
  | 0, p, i, h1, h2 => by
    rw [bRun] at h2
    omega
  | k + 1, p, i, h1, h2 => by
    rw [bRun] at h2
    split at h2
    · next c =>
      by_cases e : i = p
      · rw [e]
        exact c
      · exact bRun_all k (p + 1) i (by omega) h2
    · omega
theorem bRun_stop : ∀ (k p : Nat), n ≤ p + k → ¬ (bRun f B n k p < n ∧ f (B (bRun f B n k p)) = true)
  | 0, p, h => by
    rw [bRun]
    intro c
    omega
  | k + 1, p, h => by
    rw [bRun]
    split
    · exact bRun_stop k (p + 1) (by omega)
    · next c => exact c
/-- a token's start, kind, end, length from a place on -/
def qS (B : Nat → Nat) (n p : Nat) : Nat := bRun bBl B n 500 p
def qK (B : Nat → Nat) (n p : Nat) : Nat := if n ≤ qS B n p then 0 else if bLe (B (qS B n p)) = true then 1 else if bDi (B (qS B n p)) = true then (if 2 < bRun bDi B n 500 (qS B n p) - qS B n p then 4 else 2) else if B (qS B n p) = 59 then 3 else 4
def qE (B : Nat → Nat) (n p : Nat) : Nat := if n ≤ qS B n p then qS B n p else if bLe (B (qS B n p)) = true then bRun bLe B n 500 (qS B n p) else if bDi (B (qS B n p)) = true then bRun bDi B n 500 (qS B n p) else qS B n p + 1
def qL (B : Nat → Nat) (n p : Nat) : Nat := qE B n p - qS B n p
theorem qS_ge : p ≤ qS B n p := bRun_ge 500 p
theorem qS_le (h : p ≤ n) : qS B n p ≤ n := bRun_le 500 p h
theorem qE_ge : qS B n p ≤ qE B n p := by
  unfold qE
  split
  · exact Nat.le_refl _
  · split
    · exact bRun_ge 500 _
    · split
      · exact bRun_ge 500 _
      · omega
theorem qE_le (h : p ≤ n) : qE B n p ≤ n := by
  have h1 := qS_le (B := B) h
  unfold qE
  split
  · exact h1
  · split
    · exact bRun_le 500 _ h1
    · split
      · exact bRun_le 500 _ h1
      · omega
theorem bRun_one (hp : p < n) (hf : f (B p) = true) : p < bRun f B n 500 p := by
  show p < bRun f B n (499 + 1) p
  rw [bRun, if_pos ⟨hp, hf⟩]
  have := bRun_ge (f := f) (B := B) (n := n) 499 (p + 1)
  omega
theorem qE_gt (h : qK B n p ≠ 0) : p < qE B n p := by
  have h1 := qS_ge (B := B) (n := n) (p := p)
  unfold qK at h
  unfold qE
  split at h
  · exact absurd rfl h
  · next c =>
    rw [if_neg c]
    split
    · next c2 =>
      have := bRun_one (f := bLe) (show qS B n p < n by omega) c2
      omega
    · split
      · next c2 =>
        have := bRun_one (f := bDi) (show qS B n p < n by omega) c2
        omega
      · omega
theorem qK_end (h : n ≤ p) : qK B n p = 0 := by
  have h1 := qS_ge (B := B) (n := n) (p := p)
  unfold qK
  exact if_pos (by omega)
/-- words as numbers: 8 bits a letter, 5 bits a letter; numbers -/
def wX (g : Nat → Nat) : Nat → Nat
  | 0 => 0
  | j + 1 => wX g j * 256 + g j
def wM (g : Nat → Nat) : Nat → Nat
  | 0 => 0
  | j + 1 => wM g j * 32 + (g j - 96)
def nV (g : Nat → Nat) : Nat → Nat
  | 0 => 0
  | j + 1 => nV g j * 10 + (g j - 48)
def gOf (B : Nat → Nat) (s : Nat) : Nat → Nat := fun i => B (s + i)
def lOk (g : Nat → Nat) (j : Nat) : Prop := ∀ i, i < j → 97 ≤ g i ∧ g i ≤ 122
theorem wX_iff {g h : Nat → Nat} : ∀ i j, lOk g i → lOk h j → (wX g i = wX h j ↔ wM g i = wM h j)
  | 0, 0, _, _ => ⟨fun _ => rfl, fun _ => rfl⟩
  | 0, j + 1, _, h2 => by
    have := h2 j (by omega)
    rw [wX, wM, wX, wM]
    constructor <;> intro z <;> omega
  | i + 1, 0, h1, _ => by
    have := h1 i (by omega)
    rw [wX, wM, wX, wM]
    constructor <;> intro z <;> omega
  | i + 1, j + 1, h1, h2 => by
    have a := h1 i (by omega)
    have b := h2 j (by omega)
    have ih := wX_iff (g := g) (h := h) i j (fun k hk => h1 k (by omega)) (fun k hk => h2 k (by omega))
    rw [wX, wM, wX, wM]
    constructor
    · intro z
      have e1 : wX g i = wX h j := by omega
      have e2 := ih.mp e1
      have e3 : g i = h j := by omega
      rw [e2, e3]
    · intro z
      have e1 : wM g i = wM h j := by omega
      have e2 := ih.mpr e1
      have e3 : g i = h j := by omega
      rw [e2, e3]
theorem wX_lt {g : Nat → Nat} : ∀ j, lOk g j → wX g j < 256 ^ j
  | 0, _ => by
    rw [wX, Nat.pow_zero]
    omega
  | j + 1, h => by
    have a := h j (by omega)
    have ih := wX_lt j (fun k hk => h k (by omega))
    rw [wX, Nat.pow_succ]
    omega
theorem wM_lt {g : Nat → Nat} : ∀ j, lOk g j → wM g j < 32 ^ j
  | 0, _ => by
    rw [wM, Nat.pow_zero]
    omega
  | j + 1, h => by
    have a := h j (by omega)
    have ih := wM_lt j (fun k hk => h k (by omega))
    rw [wM, Nat.pow_succ]
    omega
theorem wX_63 {g : Nat → Nat} (hj : j ≤ 8) (h : lOk g j) : wX g j < 2 ^ 63 := by
  by_cases e : j = 8
  · subst e
    have a := h 7 (by omega)
    have b := wX_lt 7 (fun k hk => h k (by omega))
    have c := h 0 (by omega)
    have key : ∀ m, m ≤ 7 → wX g (m + 1) < 128 * 256 ^ m := by
      intro m
      induction m with
      | zero =>
        intro _
        rw [wX, wX, Nat.pow_zero]
        omega
      | succ m ih =>
        intro hm
        have i1 := ih (by omega)
        have i2 := h (m + 1) (by omega)
        rw [wX, Nat.pow_succ]
        omega
    have := key 7 (by omega)
    omega
  · have a := wX_lt j h
    have b : 256 ^ j ≤ 256 ^ 7 := Nat.pow_le_pow_right (by omega) (by omega)
    have d : (256 : Nat) ^ 7 < 2 ^ 63 := by decide
    omega
theorem wX_pos {g : Nat → Nat} (hj : 0 < j) (h : lOk g j) : 0 < wX g j := by
  obtain ⟨i, rfl⟩ : ∃ i, j = i + 1 := ⟨j - 1, by omega⟩
  have := h i (by omega)
  rw [wX]
  omega
theorem wM_40 {g : Nat → Nat} (hj : j ≤ 8) (h : lOk g j) : wM g j < 2 ^ 40 := by
  have a := wM_lt j h
  have b : 32 ^ j ≤ 32 ^ 8 := Nat.pow_le_pow_right (by omega) hj
  have d : (32 : Nat) ^ 8 = 2 ^ 40 := by decide
  omega
/-- of a word: its letters -/
theorem qK_word (h : qK B n p = 1) : lOk (gOf B (qS B n p)) (qL B n p) ∧ 0 < qL B n p ∧ qS B n p < n ∧ bLe (B (qS B n p)) = true ∧ qE B n p = bRun bLe B n 500 (qS B n p) := by
  unfold qK at h
  split at h
  · cases h
  · next c1 =>
    split at h
    · next c2 =>
      have e : qE B n p = bRun bLe B n 500 (qS B n p) := by
        unfold qE
        rw [if_neg c1, if_pos c2]
      refine ⟨fun i hi => ?_, ?_, by omega, c2, e⟩
      · unfold qL at hi
        rw [e] at hi
        have := (bRun_all (f := bLe) (B := B) (n := n) 500 (qS B n p) (qS B n p + i) (by omega) (by omega)).2
        unfold bLe at this
        simp only [Bool.and_eq_true, decide_eq_true_eq] at this
        exact this
      · have := bRun_one (f := bLe) (show qS B n p < n by omega) c2
        unfold qL
        rw [e]
        omega
    · split at h
      · split at h <;> cases h
      · split at h <;> cases h
/-- of a number: its digits -/
theorem qK_num (h : qK B n p = 2) : qL B n p ≤ 2 ∧ 0 < qL B n p ∧ (∀ i, i < qL B n p → 48 ≤ gOf B (qS B n p) i ∧ gOf B (qS B n p) i ≤ 57) ∧ qE B n p = bRun bDi B n 500 (qS B n p) := by
  unfold qK at h
  split at h
  · cases h
  · next c1 =>
    split at h
    · cases h
    · next c2 =>
      split at h
      · next c3 =>
        have e : qE B n p = bRun bDi B n 500 (qS B n p) := by
          unfold qE
          rw [if_neg c1, if_neg c2, if_pos c3]
        split at h
        · cases h
        · next c4 =>
          refine ⟨by unfold qL; rw [e]; omega, ?_, fun i hi => ?_, e⟩
          · have := bRun_one (f := bDi) (show qS B n p < n by omega) c3
            unfold qL
            rw [e]
            omega
          · unfold qL at hi
            rw [e] at hi
            have := (bRun_all (f := bDi) (B := B) (n := n) 500 (qS B n p) (qS B n p + i) (by omega) (by omega)).2
            unfold bDi at this
            simp only [Bool.and_eq_true, decide_eq_true_eq] at this
            exact this
      · split at h <;> cases h
theorem nV_lt {g : Nat → Nat} : ∀ j, (∀ i, i < j → 48 ≤ g i ∧ g i ≤ 57) → nV g j < 10 ^ j
  | 0, _ => by
    rw [nV, Nat.pow_zero]
    omega
  | j + 1, h => by
    have a := h j (by omega)
    have ih := nV_lt j (fun k hk => h k (by omega))
    rw [nV, Nat.pow_succ]
    omega
def qN (B : Nat → Nat) (n p : Nat) : Nat := nV (gOf B (qS B n p)) (qL B n p)
theorem qN_lt (h : qK B n p = 2) : qN B n p < 100 := by
  obtain ⟨h1, h2, h3, _⟩ := qK_num h
  have a := nV_lt _ h3
  have b : 10 ^ qL B n p ≤ 10 ^ 2 := Nat.pow_le_pow_right (by omega) h1
  have c : (10 : Nat) ^ 2 = 100 := by decide
  unfold qN
  omega
/-! the words of the text -/
def kw (w : Nat) : List Nat := match w with
  | 0 => [112, 108, 97, 99, 101]
  | 1 => [108, 97, 110, 101]
  | 2 => [116, 111]
  | 3 => [99, 114, 111, 115, 115]
  | 4 => [115, 108, 111, 119]
  | 5 => [104, 101, 97, 114, 115]
  | 6 => [115, 101, 101, 115]
  | 7 => [102, 105, 114, 115, 116]
  | _ => [115, 101, 99, 111, 110, 100]
def kg (w : Nat) : Nat → Nat := fun i => (kw w).getD i 0
def kX (w : Nat) : Nat := wX (kg w) (kw w).length
def kM (w : Nat) : Nat := wM (kg w) (kw w).length
theorem kg_ok : ∀ w, w < 9 → lOk (kg w) (kw w).length := by
  unfold lOk
  decide
def qX (B : Nat → Nat) (n p : Nat) : Nat := wX (gOf B (qS B n p)) (qL B n p)
def qM (B : Nat → Nat) (n p : Nat) : Nat := wM (gOf B (qS B n p)) (qL B n p)
/-- a token is this word; is a name -/
def qW (B : Nat → Nat) (n p w : Nat) : Prop := qK B n p = 1 ∧ qL B n p ≤ 8 ∧ qX B n p = kX w
def qNm (B : Nat → Nat) (n p : Nat) : Prop := qK B n p = 1 ∧ qL B n p ≤ 8 ∧ ∀ w, w < 9 → qX B n p ≠ kX w
theorem qW_M {w : Nat} (hw : w < 9) (h1 : qK B n p = 1) : qX B n p = kX w ↔ qM B n p = kM w := wX_iff _ _ (qK_word h1).1 (kg_ok w hw)
theorem qX_M (h1 : qK B n p = 1) (h2 : qK B n q = 1) : qX B n p = qX B n q ↔ qM B n p = qM B n q := wX_iff _ _ (qK_word h1).1 (qK_word h2).1
theorem qX_b (h1 : qK B n p = 1) (h8 : qL B n p ≤ 8) : qX B n p < 2 ^ 63 ∧ 0 < qX B n p := ⟨wX_63 h8 (qK_word h1).1, wX_pos (qK_word h1).2.1 (qK_word h1).1⟩
theorem qM_b (h1 : qK B n p = 1) (h8 : qL B n p ≤ 8) : qM B n p < 2 ^ 40 := wM_40 h8 (qK_word h1).1
theorem kX_v : kX 0 = 482854658917 ∧ kX 1 = 1818324581 ∧ kX 2 = 29807 ∧ kX 3 = 427121668979 ∧ kX 4 = 1936486263 ∧ kX 5 = 448377483891 ∧ kX 6 = 1936024947 ∧ kX 7 = 439855772532 ∧ kX 8 = 126879297138276 := by decide
theorem kM_v : kM 0 = 17171557 ∧ kM 1 = 394693 ∧ kM 2 = 655 ∧ kM 3 = 3751539 ∧ kM 4 = 635383 ∧ kM 5 = 8554067 ∧ kM 6 = 627891 ∧ kM 7 = 6605428 ∧ kM 8 = 642891204 := by decide
end JTA1
