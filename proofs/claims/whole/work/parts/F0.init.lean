/-! THE CONSTRUCTORS: a memory as they have left it so far -/
def lkI : List (Nat × Nat × Int32) → Nat → Nat → Int32
  | [], _, _ => 0
  | (x, j, v) :: t, a, k => if a = x ∧ k = j then v else lkI t a k
def lkL : List (Nat × Nat × Int64) → Nat → Nat → Int64
  | [], _, _ => 0
  | (x, j, v) :: t, a, k => if a = x ∧ k = j then v else lkL t a k
def lkR : List (Nat × Nat × Nat) → Nat → Nat → Option Nat
  | [], _, _ => none
  | (x, j, v) :: t, a, k => if a = x ∧ k = j then some v else lkR t a k
theorem lkI_0 {a k : Nat} : ∀ {w : List (Nat × Nat × Int32)}, (∀ e ∈ w, e.1 ≠ a) → lkI w a k = 0
  | [], _ => rfl
  | (x, j, v) :: t, h => by
    rw [lkI, if_neg (fun z => h (x, j, v) List.mem_cons_self z.1.symm)]
    exact lkI_0 (fun e he => h e (List.mem_cons_of_mem _ he))
theorem lkL_0 {a k : Nat} : ∀ {w : List (Nat × Nat × Int64)}, (∀ e ∈ w, e.1 ≠ a) → lkL w a k = 0
  | [], _ => rfl
  | (x, j, v) :: t, h => by
    rw [lkL, if_neg (fun z => h (x, j, v) List.mem_cons_self z.1.symm)]
    exact lkL_0 (fun e he => h e (List.mem_cons_of_mem _ he))
theorem lkR_0 {a k : Nat} : ∀ {w : List (Nat × Nat × Nat)}, (∀ e ∈ w, e.1 ≠ a) → lkR w a k = none
  | [], _ => rfl
  | (x, j, v) :: t, h => by
    rw [lkR, if_neg (fun z => h (x, j, v) List.mem_cons_self z.1.symm)]
    exact lkR_0 (fun e he => h e (List.mem_cons_of_mem _ he))
def jAg (L N : Nat) (wi : List (Nat × Nat × Int32)) (wl : List (Nat × Nat × Int64)) (wr : List (Nat × Nat × Nat)) (μ : jMem) : Prop := gN μ = N ∧ (∀ a, gS μ a = if a ≤ N then jS0 L a else (999, 0)) ∧ ∀ a k, 1 ≤ a → a ≤ N → gI μ a k = lkI wi a k ∧ gL μ a k = lkL wl a k ∧ gR μ a k = lkR wr a k
section JIN
variable {L N a k x y : Nat} {wi : List (Nat × Nat × Int32)} {wl : List (Nat × Nat × Int64)} {wr : List (Nat × Nat × Nat)} {μ : jMem}
theorem jAg.sI {v : Int32} (h : jAg L N wi wl wr μ) : jAg L N ((a, k, v) :: wi) wl wr (sI μ a k v) := ⟨h.1, h.2.1, fun x j h1 h2 => by
  obtain ⟨p, q, r⟩ := h.2.2 x j h1 h2
  refine ⟨?_, q, r⟩
  rw [gI_sI, lkI, p]⟩
theorem jAg.sL {v : Int64} (h : jAg L N wi wl wr μ) : jAg L N wi ((a, k, v) :: wl) wr (sL μ a k v) := ⟨h.1, h.2.1, fun x j h1 h2 => by
  obtain ⟨p, q, r⟩ := h.2.2 x j h1 h2
  refine ⟨p, ?_, r⟩
  rw [gL_sL, lkL, q]⟩
theorem jAg.sR {v : Nat} (h : jAg L N wi wl wr μ) : jAg L N wi wl ((a, k, v) :: wr) (sR μ a k (some v)) := ⟨h.1, h.2.1, fun x j h1 h2 => by
  obtain ⟨p, q, r⟩ := h.2.2 x j h1 h2
  refine ⟨p, q, ?_⟩
  rw [gR_sR, lkR, r]⟩
theorem jAg.sA (h : jAg L N wi wl wr μ) (hS : jS0 L (N + 1) = (x, y)) (hi : ∀ e ∈ wi, e.1 ≠ N + 1) (hl : ∀ e ∈ wl, e.1 ≠ N + 1) (hr : ∀ e ∈ wr, e.1 ≠ N + 1) : jAg L (N + 1) wi wl wr (sA μ x y) := by
  obtain ⟨hN, hs, hc⟩ := h
  refine ⟨by rw [gN_sA, hN], fun b => ?_, fun b j h1 h2 => ?_⟩
  · rw [gS_sA, hN]
    by_cases e : b = N + 1
    · rw [if_pos e, if_pos (by omega), e, hS]
    · rw [if_neg e, hs]
      by_cases e2 : b ≤ N
      · rw [if_pos e2, if_pos (by omega)]
      · rw [if_neg e2, if_neg (by omega)]
  · rw [gI_sA, gL_sA, gR_sA, hN]
    by_cases e : b = N + 1
    · rw [if_pos e, if_pos e, if_pos e, e, lkI_0 hi, lkL_0 hl, lkR_0 hr]
      exact ⟨rfl, rfl, rfl⟩
    · rw [if_neg e, if_neg e, if_neg e]
      exact hc b j h1 (by omega)
def mulR (N : Nat) : Nat → Nat → List (Nat × Nat × Nat) → List (Nat × Nat × Nat)
  | 0, _, w => w
  | i + 1, j, w => (N + 1, j, N + 2 + j) :: mulR N i (j + 1) w
theorem mulR_lk {w : List (Nat × Nat × Nat)} : ∀ (i j : Nat), lkR (mulR N i j w) x y = if x = N + 1 ∧ j ≤ y ∧ y < j + i then some (N + 2 + y) else lkR w x y
  | 0, j => by
    rw [mulR, if_neg (by omega)]
  | i + 1, j => by
    rw [mulR, lkR, mulR_lk i (j + 1)]
    by_cases e : x = N + 1 ∧ y = j
    · rw [if_pos e, if_pos (by omega), e.2]
    · rw [if_neg e]
      by_cases e2 : x = N + 1 ∧ j + 1 ≤ y ∧ y < j + 1 + i
      · rw [if_pos e2, if_pos (by omega)]
      · rw [if_neg e2, if_neg (by omega)]
theorem jAg.mul {b i k : Nat} (h : jAg L N wi wl wr μ) (hS : jS0 L (N + 1) = (b, i)) (hS2 : ∀ j, j < i → jS0l.getD (N + 1 + j) (999, 0) = (b - 4, k)) (hi : ∀ e ∈ wi, ¬ (N < e.1 ∧ e.1 ≤ N + 1 + i)) (hl : ∀ e ∈ wl, ¬ (N < e.1 ∧ e.1 ≤ N + 1 + i)) (hr : ∀ e ∈ wr, ¬ (N < e.1 ∧ e.1 ≤ N + 1 + i)) : jAg L (N + 1 + i) wi wl (mulR N i 0 wr) (jmul μ b (b - 4) i k) := by
  obtain ⟨hN, hs, hc⟩ := h
  refine ⟨by rw [jmul_N, hN], fun c => ?_, fun c j h1 h2 => ?_⟩
  · rw [jmul_S, hN]
    by_cases e1 : N + 1 < c ∧ c ≤ N + 1 + i
    · rw [if_pos e1, if_pos (by omega)]
      have := hS2 (c - (N + 2)) (by omega)
      obtain ⟨c', rfl⟩ : ∃ c', c = c' + 1 := ⟨c - 1, by omega⟩
      rw [show N + 1 + (c' + 1 - (N + 2)) = c' by omega] at this
      exact this.symm
    · rw [if_neg e1]
      by_cases e2 : c = N + 1
      · rw [if_pos e2, if_pos (by omega), e2, hS]
      · rw [if_neg e2, hs]
        by_cases e3 : c ≤ N
        · rw [if_pos e3, if_pos (by omega)]
        · rw [if_neg e3, if_neg (by omega)]
  · rw [jmul_I, jmul_L, jmul_R, hN, mulR_lk]
    by_cases e : N < c ∧ c ≤ N + 1 + i
    · rw [if_pos e, if_pos e, lkI_0 (fun z hz y => hi z hz (by rw [y]; exact e)), lkL_0 (fun z hz y => hl z hz (by rw [y]; exact e))]
      refine ⟨rfl, rfl, ?_⟩
      have r0 : lkR wr c j = none := lkR_0 (fun z hz y => hr z hz (by rw [y]; exact e))
      by_cases e2 : c = N + 1
      · rw [if_pos e2, r0]
        by_cases e3 : j < i
        · rw [if_pos e3, if_pos (by omega)]
        · rw [if_neg e3, if_neg (by omega)]
      · rw [if_neg e2, if_pos e, if_neg (by omega), r0]
    · rw [if_neg e, if_neg e, if_neg (by omega), if_neg e, if_neg (by omega)]
      exact hc c j h1 (by omega)
theorem jAg_0 (h : jStart L μ) : jAg L 0 [] [] [] μ := by
  refine ⟨h.1, fun a => ?_, fun a k h1 h2 => by omega⟩
  rw [h.2]
  by_cases e : a = 0
  · rw [if_pos e, if_pos (by omega), e, jS0_0]
  · rw [if_neg e, if_neg (by omega)]
end JIN
