/-! drawn: sums -/
section JDS
variable {T V : jT} {w v : Nat}
theorem jsum_congr {f g : Nat → Nat} : ∀ n, (∀ i, i < n → f i = g i) → jsum f n = jsum g n
  | 0, _ => rfl
  | n + 1, h => by rw [jsum, jsum, jsum_congr n (fun i hi => h i (by omega)), h n (by omega)]
theorem jsum_zero : ∀ n, jsum (fun _ => 0) n = 0
  | 0 => rfl
  | n + 1 => by rw [jsum, jsum_zero n]
theorem jsum_add (f g : Nat → Nat) : ∀ n, jsum (fun i => f i + g i) n = jsum f n + jsum g n
  | 0 => rfl
  | n + 1 => by
    rw [jsum, jsum, jsum, jsum_add f g n]
    omega
theorem jsum_mul (f : Nat → Nat) (c : Nat) : ∀ n, jsum (fun i => f i * c) n = jsum f n * c
  | 0 => by simp [jsum]
  | n + 1 => by rw [jsum, jsum, jsum_mul f c n, Nat.add_mul]
theorem jsum_swap (f : Nat → Nat → Nat) (m : Nat) : ∀ n, jsum (fun i => jsum (fun j => f i j) m) n = jsum (fun j => jsum (fun i => f i j) n) m
  | 0 => (jsum_zero m).symm
  | n + 1 => by
    rw [jsum, jsum_swap f m n, ← jsum_add]
    rfl
theorem jsum_app (f : Nat → Nat) (m : Nat) : ∀ n, jsum f (m + n) = jsum f m + jsum (fun i => f (m + i)) n
  | 0 => rfl
  | n + 1 => by
    rw [← Nat.add_assoc, jsum, jsum_app f m n, jsum]
    omega
/-- a table of rows as one row -/
theorem jsum_rows (f : Nat → Nat → Nat) (m : Nat) (hm : 0 < m) : ∀ n, jsum (fun i => f (i / m) (i % m)) (m * n) = jsum (fun a => jsum (fun b => f a b) m) n
  | 0 => rfl
  | n + 1 => by
    rw [Nat.mul_succ, jsum_app, jsum_rows f m hm n, jsum]
    congr 1
    refine jsum_congr m (fun i hi => ?_)
    rw [Nat.mul_add_div hm, Nat.div_eq_of_lt hi, Nat.add_zero, Nat.mul_add_mod, Nat.mod_eq_of_lt hi]
theorem jsum_le1 {f : Nat → Nat} {n i : Nat} (hi : i < n) : f i ≤ jsum f n := by
  induction n with
  | zero => exact absurd hi (Nat.not_lt_zero _)
  | succ n ih =>
    rw [jsum]
    by_cases e : i = n
    · subst e
      omega
    · have := ih (by omega)
      omega
theorem jsum_one (j0 s : Nat) : ∀ n, jsum (fun j => if j = j0 then s else 0) n = if j0 < n then s else 0
  | 0 => by rw [if_neg (Nat.not_lt_zero _)]; rfl
  | n + 1 => by
    rw [jsum, jsum_one j0 s n]
    by_cases e : n = j0
    · subst e
      rw [if_neg (Nat.lt_irrefl _), if_pos rfl, if_pos (by omega), Nat.zero_add]
    · rw [if_neg e, Nat.add_zero]
      by_cases c : j0 < n
      · rw [if_pos c, if_pos (by omega)]
      · rw [if_neg c, if_neg (by omega)]
/-! two who draw -/
abbrev gSt : Type := Nat × Nat × Nat × Nat
def gT (T V : jT) (w v : Nat) : gSt → gSt
  | (p, q, g, h) => (tA T p (wSt V w g (tSi T p)), tA T q (wSt V v h (tSi T q)), wGo V w g (tSi T p), wGo V v h (tSi T q))
def gF (T V : jT) (w v : Nat) : Nat → gSt → Option Nat
  | 0, S => some (8 * S.1 + S.2.1)
  | n + 1, S => if (gT T V w v S).1 = (gT T V w v S).2.1 ∨ (tCr T ≠ 0 ∧ (gT T V w v S).1 = S.2.1 ∧ (gT T V w v S).2.1 = S.1) then none else gF T V w v n (gT T V w v S)
def gOk (T V : jT) (w v : Nat) : gSt → Prop
  | (p, q, g, h) => p < tP T ∧ q < tP T ∧ wOk V w g ∧ wOk V v h
theorem gOk_T (hK : jTok T) (hV : jVok V) (hw : w < wC V) (hv : v < wC V) {S : gSt} (h : gOk T V w v S) : gOk T V w v (gT T V w v S) := by
  obtain ⟨p, q, g, hh⟩ := S
  obtain ⟨h1, h2, h3, h4⟩ := h
  exact ⟨tA_lt hK h1, tA_lt hK h2, wGo_ok hV hw h3 (hK.2.1 p h1).1, wGo_ok hV hv h4 (hK.2.1 q h2).1⟩
theorem gF_lt (hK : jTok T) (hV : jVok V) (hw : w < wC V) (hv : v < wC V) : ∀ (n : Nat) (S : gSt) (x : Nat), gOk T V w v S → gF T V w v n S = some x → x < 64
  | 0, S, x, h, e => by
    have h8 := hK.1.1
    obtain ⟨p, q, g, hh⟩ := S
    obtain ⟨h1, h2, h3, h4⟩ := h
    have e : some (8 * p + q) = some x := e
    cases e
    omega
  | n + 1, S, x, h, e => by
    rw [gF] at e
    split at e
    · cases e
    · exact gF_lt hK hV hw hv n _ x (gOk_T hK hV hw hv h) e
/-- where one draw c leads from a pair k in so many ticks -/
def gLd (T V : jT) (w v ticks c k : Nat) : Option Nat := if k / 8 < tP T ∧ k % 8 < tP T ∧ k / 8 ≠ k % 8 then gF T V (if c / 2 = 0 then w else v) (if c % 2 = 0 then w else v) ticks (k / 8, k % 8, 0, 0) else none
theorem gLd_lt (hK : jTok T) (hV : jVok V) (hw : w < wC V) (hv : v < wC V) {ticks c k x : Nat} (h : gLd T V w v ticks c k = some x) : x < 64 := by
  unfold gLd at h
  split at h
  · next e =>
    refine gF_lt hK hV ?_ ?_ ticks _ x ⟨e.1, e.2.1, wOk_0, wOk_0⟩ h
    · split
      · exact hw
      · exact hv
    · split
      · exact hw
      · exact hv
  · cases h
def dCh (n c : Nat) : Nat := (if c / 2 = 0 then n else 16 - n) * (if c % 2 = 0 then n else 16 - n)
theorem dCh_sum {n : Nat} (hn : n ≤ 16) : jsum (dCh n) 4 = 256 := by
  rcases (show n = 0 ∨ n = 1 ∨ n = 2 ∨ n = 3 ∨ n = 4 ∨ n = 5 ∨ n = 6 ∨ n = 7 ∨ n = 8 ∨ n = 9 ∨ n = 10 ∨ n = 11 ∨ n = 12 ∨ n = 13 ∨ n = 14 ∨ n = 15 ∨ n = 16 by omega) with rfl | rfl | rfl | rfl | rfl | rfl | rfl | rfl | rfl | rfl | rfl | rfl | rfl | rfl | rfl | rfl | rfl <;> rfl
theorem dCh_le {n c : Nat} (hn : n ≤ 16) : dCh n c ≤ 256 := by
  unfold dCh
  have h1 : (if c / 2 = 0 then n else 16 - n) ≤ 16 := by split <;> omega
  have h2 : (if c % 2 = 0 then n else 16 - n) ≤ 16 := by split <;> omega
  exact Nat.le_trans (Nat.mul_le_mul h1 h2) (by omega)
def dTh (ld : Nat → Nat → Option Nat) (nw : Nat → Nat) (n j : Nat) : Nat := jsum (fun c => jsum (fun k => if ld c k = some j then nw k * dCh n c else 0) 64) 4
def dMt (ld : Nat → Nat → Option Nat) (nw : Nat → Nat) (n : Nat) : Nat := jsum (fun c => jsum (fun k => if ld c k = none then nw k * dCh n c else 0) 64) 4
theorem d_keep {ld : Nat → Nat → Option Nat} {nw : Nat → Nat} {n : Nat} (hn : n ≤ 16) (hl : ∀ c k x, ld c k = some x → x < 64) : jsum (dTh ld nw n) 64 + dMt ld nw n = 256 * jsum nw 64 := by
  have e1 : jsum (dTh ld nw n) 64 = jsum (fun c => jsum (fun k => if ld c k = none then 0 else nw k * dCh n c) 64) 4 := by
    show jsum (fun j => jsum (fun c => jsum (fun k => if ld c k = some j then nw k * dCh n c else 0) 64) 4) 64 = _
    rw [jsum_swap (fun j c => jsum (fun k => if ld c k = some j then nw k * dCh n c else 0) 64) 4 64]
    refine jsum_congr 4 (fun c _ => ?_)
    rw [jsum_swap (fun j k => if ld c k = some j then nw k * dCh n c else 0) 64 64]
    refine jsum_congr 64 (fun k _ => ?_)
    cases h : ld c k with
    | none =>
      rw [if_pos rfl]
      refine Eq.trans (jsum_congr 64 (fun j _ => ?_)) (jsum_zero 64)
      rw [if_neg (by intro z; cases z)]
    | some x =>
      rw [if_neg (by intro z; cases z)]
      have hx := hl c k x h
      refine Eq.trans (jsum_congr 64 (g := fun j => if j = x then nw k * dCh n c else 0) (fun j _ => ?_)) ?_
      · by_cases e : j = x
        · rw [if_pos e, if_pos (by rw [e])]
        · rw [if_neg e, if_neg (fun z => e (Option.some.inj z).symm)]
      · rw [jsum_one, if_pos hx]
  rw [e1]
  unfold dMt
  rw [← jsum_add]
  have e2 : jsum (fun c => jsum (fun k => if ld c k = none then 0 else nw k * dCh n c) 64 + jsum (fun k => if ld c k = none then nw k * dCh n c else 0) 64) 4 = jsum (fun c => dCh n c * jsum nw 64) 4 := by
    refine jsum_congr 4 (fun c _ => ?_)
    show jsum (fun k => if ld c k = none then 0 else nw k * dCh n c) 64 + jsum (fun k => if ld c k = none then nw k * dCh n c else 0) 64 = _
    rw [← jsum_add, Nat.mul_comm (dCh n c), ← jsum_mul]
    refine jsum_congr 64 (fun k _ => ?_)
    by_cases z : ld c k = none
    · rw [if_pos z, if_pos z, Nat.zero_add]
    · rw [if_neg z, if_neg z, Nat.add_zero]
  rw [e2, jsum_mul, dCh_sum hn]
def dIt (ld : Nat → Nat → Option Nat) (n : Nat) : Nat → (Nat → Nat) → Nat → Nat
  | 0, _, m => m
  | t + 1, nw, m => dIt ld n t (dTh ld nw n) (256 * m + dMt ld nw n)
theorem dIt_le {ld : Nat → Nat → Option Nat} {n : Nat} (hn : n ≤ 16) (hl : ∀ c k x, ld c k = some x → x < 64) : ∀ (t : Nat) (nw : Nat → Nat) (m B : Nat), jsum nw 64 + m ≤ B → dIt ld n t nw m ≤ B * 256 ^ t
  | 0, nw, m, B, h => by
    rw [dIt, Nat.pow_zero, Nat.mul_one]
    omega
  | t + 1, nw, m, B, h => by
    have h1 := d_keep (nw := nw) hn hl
    have h2 := dIt_le hn hl t (dTh ld nw n) (256 * m + dMt ld nw n) (B * 256) (by omega)
    rw [dIt, Nat.pow_succ, Nat.mul_comm (256 ^ t), ← Nat.mul_assoc]
    exact h2
def dLk (T : jT) (k : Nat) : Nat := if k / 8 < tP T ∧ k % 8 < tP T then tLk T (k / 8) (k % 8) else 0
def dN0 (T : jT) (k : Nat) : Nat := if k / 8 = k % 8 then 0 else dLk T k
def dM0 (T : jT) (k : Nat) : Nat := if k / 8 = k % 8 then dLk T k else 0
theorem dLk_le (hK : jTok T) {k : Nat} : dLk T k ≤ 81 := by
  unfold dLk
  split
  · next h => exact tLk_le hK h.1 h.2
  · omega
theorem d0_le (hK : jTok T) : jsum (dN0 T) 64 + jsum (dM0 T) 64 ≤ 5184 := by
  rw [← jsum_add]
  refine Nat.le_trans (jsum_le (c := 81) 64 (fun i _ => ?_)) (by omega)
  show dN0 T i + dM0 T i ≤ 81
  have := dLk_le hK (k := i)
  unfold dN0 dM0
  split <;> omega
/-- how much has met -/
def dMet (T V : jT) (w v ticks n times : Nat) : Nat := dIt (gLd T V w v ticks) n times (dN0 T) (jsum (dM0 T) 64)
theorem dPow {t : Nat} (ht : t ≤ 5) : 5184 * 256 ^ t < 2 ^ 54 := by
  rcases (show t = 0 ∨ t = 1 ∨ t = 2 ∨ t = 3 ∨ t = 4 ∨ t = 5 by omega) with rfl | rfl | rfl | rfl | rfl | rfl <;> decide
theorem dMet_lt (hK : jTok T) (hV : jVok V) (hw : w < wC V) (hv : v < wC V) {ticks n times : Nat} (hn : n ≤ 16) (ht : times ≤ 5) : dMet T V w v ticks n times < 2 ^ 54 := by
  have h1 := dIt_le (ld := gLd T V w v ticks) hn (fun c k x h => gLd_lt hK hV hw hv h) times (dN0 T) (jsum (dM0 T) 64) 5184 (d0_le hK)
  have h2 := dPow ht
  unfold dMet
  omega
end JDS
