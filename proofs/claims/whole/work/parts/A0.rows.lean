/-! agreed, alike: rows and what they are worth -/
section JRA
variable {T : jT} {r r' : Nat → Nat} {n k s x : Nat}
/-- where a pair comes by two steps; none: they meet -/
def gd (T : jT) (c pr : Nat) : Option Nat := if tA T (pr / 8) (c / 5) = tA T (pr % 8) (c % 5) ∨ (tCr T ≠ 0 ∧ tA T (pr / 8) (c / 5) = pr % 8 ∧ tA T (pr % 8) (c % 5) = pr / 8) then none else some (8 * tA T (pr / 8) (c / 5) + tA T (pr % 8) (c % 5))
def rIn (T : jT) (pr : Nat) : Prop := pr / 8 < tP T ∧ pr % 8 < tP T
def rl (T : jT) (s : Nat) : Nat := if s / 8 < tP T ∧ s % 8 < tP T then tLk T (s / 8) (s % 8) else 0
def rw0 (T : jT) (s : Nat) : Nat := if s / 8 = s % 8 then 0 else rl T s
def rAp (T : jT) (r : Nat → Nat) : Nat → Nat → Nat
  | 0, x => rw0 T x
  | k + 1, x => jsum (fun pr => if gd T (r k) pr = some x then rAp T r k pr else 0) 64
def rAA (T : jT) (r : Nat → Nat) (k : Nat) : Nat := jsum (rAp T r k) 64
def rWt (T : jT) (r : Nat → Nat) : Nat → Nat → Option Nat
  | 0, s => if s / 8 = s % 8 then none else some s
  | k + 1, s => (rWt T r k s).bind (gd T (r k))
theorem gd_in (hK : jTok T) {c pr y : Nat} (h : rIn T pr) (e : gd T c pr = some y) : rIn T y ∧ y / 8 ≠ y % 8 ∧ y < 64 := by
  have h8 := hK.1.1
  have h1 := tA_lt (s := c / 5) hK h.1
  have h2 := tA_lt (s := c % 5) hK h.2
  unfold gd at e
  split at e
  · cases e
  · next hc =>
    cases e
    have f1 : (8 * tA T (pr / 8) (c / 5) + tA T (pr % 8) (c % 5)) / 8 = tA T (pr / 8) (c / 5) := by omega
    have f2 : (8 * tA T (pr / 8) (c / 5) + tA T (pr % 8) (c % 5)) % 8 = tA T (pr % 8) (c % 5) := by omega
    refine ⟨⟨by rw [f1]; exact h1, by rw [f2]; exact h2⟩, by rw [f1, f2]; exact fun z => hc (Or.inl z), by omega⟩
theorem rWt_in (hK : jTok T) (h : rIn T s) : ∀ (k : Nat) {y : Nat}, rWt T r k s = some y → rIn T y ∧ y / 8 ≠ y % 8 ∧ y < 64
  | 0, y, e => by
    have h8 := hK.1.1
    unfold rWt at e
    split at e
    · cases e
    · next c =>
      cases e
      exact ⟨h, c, by have := h.1; omega⟩
  | k + 1, y, e => by
    rw [rWt] at e
    cases e2 : rWt T r k s with
    | none =>
      rw [e2] at e
      cases e
    | some z =>
      rw [e2] at e
      exact gd_in hK (rWt_in hK h k e2).1 e
theorem rl_out (h : ¬ rIn T s) : rl T s = 0 := if_neg h
theorem rw0_out (h : ¬ rIn T s) : rw0 T s = 0 := by
  unfold rw0
  rw [rl_out h, ite_self]
theorem jsum_z {f : Nat → Nat} {n : Nat} (h : ∀ i, i < n → f i = 0) : jsum f n = 0 := (jsum_congr n h).trans (jsum_zero n)
theorem rAp_wt (hK : jTok T) : ∀ (k x : Nat), x < 64 → rAp T r k x = jsum (fun s => if rWt T r k s = some x then rl T s else 0) 64
  | 0, x, hx => by
    rw [rAp]
    have e : ∀ s, s < 64 → (if rWt T r 0 s = some x then rl T s else 0) = if s = x then rw0 T x else 0 := fun s _ => by
      rw [rWt]
      by_cases c : s / 8 = s % 8
      · rw [if_pos c, if_neg (fun z => by cases z)]
        by_cases e : s = x
        · rw [if_pos e, ← e]
          unfold rw0
          rw [if_pos c]
        · rw [if_neg e]
      · rw [if_neg c]
        by_cases e : s = x
        · rw [if_pos e, e, if_pos rfl]
          unfold rw0
          rw [e] at c
          rw [if_neg c]
        · rw [if_neg e, if_neg (fun z => e (Option.some.inj z))]
    rw [jsum_congr 64 e, jsum_one, if_pos hx]
  | k + 1, x, hx => by
    rw [rAp]
    have e1 : ∀ pr, pr < 64 → (if gd T (r k) pr = some x then rAp T r k pr else 0) = jsum (fun s => if gd T (r k) pr = some x ∧ rWt T r k s = some pr then rl T s else 0) 64 := fun pr hpr => by
      by_cases c : gd T (r k) pr = some x
      · rw [if_pos c, rAp_wt hK k pr hpr]
        refine jsum_congr 64 (fun s _ => ?_)
        by_cases c2 : rWt T r k s = some pr
        · rw [if_pos c2, if_pos ⟨c, c2⟩]
        · rw [if_neg c2, if_neg (fun z => c2 z.2)]
      · rw [if_neg c]
        exact (jsum_z (fun s _ => if_neg (fun z => c z.1))).symm
    rw [jsum_congr 64 e1, jsum_swap]
    refine jsum_congr 64 (fun s _ => ?_)
    rw [rWt]
    by_cases hs : rIn T s
    · cases e2 : rWt T r k s with
      | none =>
        rw [if_neg (fun z => by cases z)]
        exact jsum_z (fun pr _ => if_neg (fun z => by cases z.2))
      | some p0 =>
        have hp := (rWt_in hK hs k e2).2.2
        have e3 : ∀ pr, pr < 64 → (if gd T (r k) pr = some x ∧ some p0 = some pr then rl T s else 0) = if pr = p0 then (if gd T (r k) p0 = some x then rl T s else 0) else 0 := fun pr _ => by
          by_cases c : pr = p0
          · rw [if_pos c, c]
            by_cases c2 : gd T (r k) p0 = some x
            · rw [if_pos ⟨c2, rfl⟩, if_pos c2]
            · rw [if_neg (fun z => c2 z.1), if_neg c2]
          · rw [if_neg c, if_neg (fun z => c (Option.some.inj z.2).symm)]
        rw [jsum_congr 64 e3, jsum_one, if_pos hp]
        rfl
    · rw [rl_out hs]
      rw [ite_self]
      exact jsum_z (fun pr _ => ite_self 0)
theorem rAA_wt (hK : jTok T) : rAA T r k = jsum (fun s => if rWt T r k s = none then 0 else rl T s) 64 := by
  unfold rAA
  rw [jsum_congr 64 (fun x hx => rAp_wt hK k x hx), jsum_swap]
  refine jsum_congr 64 (fun s _ => ?_)
  by_cases hs : rIn T s
  · cases e2 : rWt T r k s with
    | none =>
      rw [if_pos rfl]
      exact jsum_z (fun pr _ => if_neg (fun z => by cases z))
    | some p0 =>
      have hp := (rWt_in hK hs k e2).2.2
      rw [if_neg (fun z => by cases z)]
      have e3 : ∀ pr, pr < 64 → (if some p0 = some pr then rl T s else 0) = if pr = p0 then rl T s else 0 := fun pr _ => by
        by_cases c : pr = p0
        · rw [if_pos c, c, if_pos rfl]
        · rw [if_neg c, if_neg (fun z => c (Option.some.inj z).symm)]
      rw [jsum_congr 64 e3, jsum_one, if_pos hp]
  · rw [rl_out hs, ite_self]
    exact jsum_z (fun pr _ => ite_self 0)
theorem rAp_out (hK : jTok T) (hx : x < 64) (h : ¬ rIn T x ∨ x / 8 = x % 8) : rAp T r k x = 0 := by
  rw [rAp_wt hK k x hx]
  refine jsum_z (fun s _ => ?_)
  by_cases hs : rIn T s
  · refine if_neg (fun z => ?_)
    have := rWt_in hK hs k z
    rcases h with h | h
    · exact h this.1
    · exact this.2.1 h
  · rw [rl_out hs, ite_self]
theorem jsum_mono {f g : Nat → Nat} : ∀ n, (∀ i, i < n → f i ≤ g i) → jsum f n ≤ jsum g n
  | 0, _ => Nat.le_refl _
  | n + 1, h => by
    rw [jsum, jsum]
    have h1 := jsum_mono n (fun i hi => h i (by omega))
    have h2 := h n (by omega)
    omega
theorem jsum_cut {f : Nat → Nat} {m N : Nat} (hm : m ≤ N) (hz : ∀ i, i < N → m ≤ i → f i = 0) : jsum f N = jsum f m := by
  obtain ⟨j, rfl⟩ : ∃ j, N = m + j := ⟨N - m, by omega⟩
  rw [jsum_app, jsum_z (f := fun i => f (m + i)) (fun i hi => hz _ (by omega) (by omega)), Nat.add_zero]
theorem rl_sq (hK : jTok T) {f : Nat → Nat} (hz : ∀ s, s < 64 → ¬ rIn T s → f s = 0) : jsum f 64 = jsum (fun a => jsum (fun b => f (8 * a + b)) (tP T)) (tP T) := by
  have h8 := hK.1.1
  have e : ∀ i, i < 64 → f i = (fun a b => f (8 * a + b)) (i / 8) (i % 8) := fun i _ => by
    show f i = f (8 * (i / 8) + i % 8)
    rw [Nat.div_add_mod]
  have z : ∀ a b, a < 8 → b < 8 → (tP T ≤ a ∨ tP T ≤ b) → f (8 * a + b) = 0 := fun a b ha hb hc => hz _ (by omega) (fun y => by
    have y1 := y.1
    have y2 := y.2
    omega)
  rw [jsum_congr 64 e, jsum_rows (fun a b => f (8 * a + b)) 8 (by omega) 8, jsum_cut h8 (fun a ha hc => jsum_z (fun b hb => z a b ha hb (Or.inl hc)))]
  exact jsum_congr _ (fun a ha => jsum_cut h8 (fun b hb hc => z a b (by omega) hb (Or.inr hc)))
theorem rl_n (hK : jTok T) {a b : Nat} (ha : a < tP T) (hb : b < tP T) : rl T (8 * a + b) = tLk T a b := by
  have h8 := hK.1.1
  have f1 : (8 * a + b) / 8 = a := by omega
  have f2 : (8 * a + b) % 8 = b := by omega
  unfold rl
  rw [f1, f2, if_pos ⟨ha, hb⟩]
theorem rl_sum (hK : jTok T) : jsum (rl T) 64 = tAll T := by
  rw [rl_sq hK (fun s _ h => rl_out h)]
  exact jsum_congr _ (fun a ha => jsum_congr _ (fun b hb => rl_n hK ha hb))
theorem rAA_le (hK : jTok T) : rAA T r k ≤ 5184 := by
  have h1 := tAll_le hK (Nat.le_refl (tP T))
  have h2 := rl_sum hK
  have h3 : tAll T ≤ 5184 := h1
  rw [rAA_wt hK]
  refine Nat.le_trans (jsum_mono 64 (fun s _ => ?_)) (by rw [h2]; exact h3)
  split
  · exact Nat.zero_le _
  · exact Nat.le_refl _
theorem rAp_le (hK : jTok T) (hx : x < 64) : rAp T r k x ≤ 5184 := Nat.le_trans (jsum_le1 (f := rAp T r k) hx) (rAA_le hK)
/-- rows of like moves are worth as much -/
theorem rWt_congr (hK : jTok T) (hs : rIn T s) : ∀ k, (∀ t pr, t < k → rIn T pr → gd T (r t) pr = gd T (r' t) pr) → rWt T r k s = rWt T r' k s
  | 0, _ => rfl
  | k + 1, h => by
    rw [rWt, rWt, rWt_congr hK hs k (fun t pr ht hp => h t pr (by omega) hp)]
    cases e : rWt T r' k s with
    | none => rfl
    | some y => exact h k y (by omega) (rWt_in hK hs k e).1
theorem rAA_congr (hK : jTok T) (h : ∀ t pr, t < k → rIn T pr → gd T (r t) pr = gd T (r' t) pr) : rAA T r k = rAA T r' k := by
  rw [rAA_wt hK, rAA_wt hK]
  refine jsum_congr 64 (fun s _ => ?_)
  by_cases hs : rIn T s
  · rw [rWt_congr hK hs k h]
  · rw [rl_out hs, ite_self, ite_self]
theorem rAp_congr (hK : jTok T) (hx : x < 64) (h : ∀ t pr, t < k → rIn T pr → gd T (r t) pr = gd T (r' t) pr) : rAp T r k x = rAp T r' k x := by
  rw [rAp_wt hK k x hx, rAp_wt hK k x hx]
  refine jsum_congr 64 (fun s _ => ?_)
  by_cases hs : rIn T s
  · rw [rWt_congr hK hs k h]
  · rw [rl_out hs, ite_self, ite_self]
/-- the worth of a row: missed and late -/
def rFm (T : jT) (r : Nat → Nat) (n : Nat) : Nat := rAA T r n
def rFl (T : jT) (r : Nat → Nat) (n : Nat) : Nat := jsum (rAA T r) (n + 1)
theorem rF_congr (hK : jTok T) (h : ∀ t pr, t < n → rIn T pr → gd T (r t) pr = gd T (r' t) pr) : rFm T r n = rFm T r' n ∧ rFl T r n = rFl T r' n :=
  ⟨rAA_congr hK h, jsum_congr (n + 1) (fun i hi => rAA_congr hK (fun t pr ht hp => h t pr (by omega) hp))⟩
theorem rFl_le (hK : jTok T) : rFl T r n ≤ (n + 1) * 5184 := jsum_le (n + 1) (fun _ _ => rAA_le hK)
/-- as many lanes as a place has at most -/
def rMx (T : jT) : Nat → Nat
  | 0 => 0
  | p + 1 => if rMx T p < tD T p then tD T p else rMx T p
theorem rMx_le {p : Nat} : ∀ n, p < n → tD T p ≤ rMx T n
  | 0, h => absurd h (Nat.not_lt_zero _)
  | n + 1, h => by
    rw [rMx]
    by_cases e : p = n
    · subst e
      split <;> omega
    · have := rMx_le n (show p < n by omega)
      split <;> omega
theorem rMx_4 (hK : jTok T) : ∀ n, n ≤ tP T → rMx T n ≤ 4
  | 0, _ => by rw [rMx]; omega
  | n + 1, h => by
    have h1 := rMx_4 hK n (by omega)
    have h2 := (hK.2.1 n (by omega)).2.2.2
    rw [rMx]
    split <;> omega
def nz (T : jT) (x : Nat) : Nat := if x ≤ rMx T (tP T) then x else 0
theorem nz_le {y : Nat} : nz T y ≤ y := by
  unfold nz
  split <;> omega
theorem nz_mx {y : Nat} : nz T y ≤ rMx T (tP T) := by
  unfold nz
  split <;> omega
theorem nz_A {p y : Nat} (hp : p < tP T) : tA T p (nz T y) = tA T p y := by
  unfold nz
  split
  · rfl
  · next c =>
    have := rMx_le (T := T) _ hp
    rw [tA_0]
    unfold tA
    rw [if_neg (fun z => by omega)]
theorem gd_c {a b pr : Nat} (hb : b < 5) : gd T (5 * a + b) pr = if tA T (pr / 8) a = tA T (pr % 8) b ∨ (tCr T ≠ 0 ∧ tA T (pr / 8) a = pr % 8 ∧ tA T (pr % 8) b = pr / 8) then none else some (8 * tA T (pr / 8) a + tA T (pr % 8) b) := by
  unfold gd
  rw [show (5 * a + b) / 5 = a by omega, show (5 * a + b) % 5 = b by omega]
theorem gd_nz {a b pr : Nat} (hb : b < 5) (hp : rIn T pr) : gd T (5 * nz T a + nz T b) pr = gd T (5 * a + b) pr := by
  rw [gd_c hb, gd_c (Nat.lt_of_le_of_lt nz_le hb), nz_A hp.1, nz_A hp.2]
/-! digits of rows; which codes are gone through -/
def rX (al : Bool) (e : Nat) : Nat := if al = true then e else e / 5
def rY (al : Bool) (e : Nat) : Nat := if al = true then e else e % 5
def rB (al : Bool) : Nat := if al = true then 5 else 25
def rSd (T : jT) (t x : Nat) : Nat := if t % tSl T = 0 then x else 0
def rC (al : Bool) (T : jT) (t e : Nat) : Nat := 5 * rX al e + rSd T t (rY al e)
def rN (al : Bool) (T : jT) (t e : Nat) : Nat := 5 * nz T (rX al e) + rSd T t (nz T (rY al e))
def rV (al : Bool) (T : jT) (t c : Nat) : Prop := (c / 5 ≤ rMx T (tP T) ∧ c % 5 ≤ rMx T (tP T)) ∧ (t % tSl T ≠ 0 → c % 5 = 0) ∧ (t % tSl T = 0 → al = true → c / 5 = c % 5)
def rLi (al : Bool) (c : Nat) : Nat := if al = true then c / 5 else c
variable {al : Bool} {t e c : Nat}
theorem rXY_lt (he : e < rB al) : rX al e < 5 ∧ rY al e < 5 := by
  unfold rX rY rB at *
  cases al <;> simp at he ⊢ <;> omega
theorem rSd_nz : rSd T t (nz T e) = nz T (rSd T t e) := by
  unfold rSd
  split
  · rfl
  · unfold nz
    split <;> rfl
theorem rN_gd {pr : Nat} (he : e < rB al) (hp : rIn T pr) : gd T (rN al T t e) pr = gd T (rC al T t e) pr := by
  have h := (rXY_lt he).2
  unfold rN rC
  rw [rSd_nz]
  refine gd_nz ?_ hp
  unfold rSd
  split <;> omega
theorem rN_V (hK : jTok T) (he : e < rB al) : rV al T t (rN al T t e) ∧ rN al T t e < 25 := by
  obtain ⟨h1, h2⟩ := rXY_lt he
  have k1 := nz_le (T := T) (y := rX al e)
  have k2 := nz_le (T := T) (y := rY al e)
  have m1 := nz_mx (T := T) (y := rX al e)
  have m2 := nz_mx (T := T) (y := rY al e)
  have s5 : rSd T t (nz T (rY al e)) < 5 := by
    unfold rSd
    split <;> omega
  have d1 : (5 * nz T (rX al e) + rSd T t (nz T (rY al e))) / 5 = nz T (rX al e) := by omega
  have d2 : (5 * nz T (rX al e) + rSd T t (nz T (rY al e))) % 5 = rSd T t (nz T (rY al e)) := by omega
  unfold rN rV
  rw [d1, d2]
  refine ⟨⟨⟨m1, ?_⟩, fun z => ?_, fun z za => ?_⟩, by omega⟩
  · unfold rSd
    split <;> omega
  · unfold rSd
    exact if_neg z
  · unfold rSd
    rw [if_pos z]
    unfold rX rY
    rw [if_pos za, if_pos za]
theorem rLi_lt (hc : c < 25) : rLi al c < rB al := by
  unfold rLi rB
  cases al <;> simp <;> omega
theorem rN_Li (hv : rV al T t c) : rN al T t (rLi al c) = c := by
  obtain ⟨⟨h1, h2⟩, h3, h4⟩ := hv
  have nzi : ∀ y, y ≤ rMx T (tP T) → nz T y = y := fun y hy => if_pos hy
  have h := Nat.div_add_mod c 5
  unfold rN rSd
  cases al with
  | true =>
    have e1 : rX true (rLi true c) = c / 5 := rfl
    have e2 : rY true (rLi true c) = c / 5 := rfl
    rw [e1, e2, nzi _ h1]
    by_cases z : t % tSl T = 0
    · rw [if_pos z]
      have := h4 z rfl
      omega
    · rw [if_neg z]
      have := h3 z
      omega
  | false =>
    have e1 : rX false (rLi false c) = c / 5 := rfl
    have e2 : rY false (rLi false c) = c % 5 := rfl
    rw [e1, e2, nzi _ h1, nzi _ h2]
    by_cases z : t % tSl T = 0
    · rw [if_pos z]
      omega
    · rw [if_neg z]
      have := h3 z
      omega
theorem rN_lt (hv : rV al T t c) (h : e < rLi al c) : rN al T t e < c := by
  obtain ⟨⟨h1, h2⟩, h3, h4⟩ := hv
  have k1 := nz_le (T := T) (y := rX al e)
  have k2 := nz_le (T := T) (y := rY al e)
  unfold rN rSd
  cases al with
  | true =>
    have k1 : nz T (rX true e) ≤ e := k1
    have k2 : nz T (rY true e) ≤ e := k2
    have h : e < c / 5 := h
    by_cases z : t % tSl T = 0
    · rw [if_pos z]
      have := h4 z rfl
      omega
    · rw [if_neg z]
      omega
  | false =>
    have k1 : nz T (rX false e) ≤ e / 5 := k1
    have k2 : nz T (rY false e) ≤ e % 5 := k2
    have h : e < c := h
    split <;> omega
/-! rows by order -/
def rLx (n : Nat) (e e' : Nat → Nat) : Prop := ∃ k, k < n ∧ (∀ j, j < k → e j = e' j) ∧ e k < e' k
theorem rLx_tot (e e' : Nat → Nat) : ∀ n, (∀ k, k < n → e k = e' k) ∨ rLx n e e' ∨ rLx n e' e
  | 0 => Or.inl (fun k hk => absurd hk (Nat.not_lt_zero _))
  | n + 1 => by
    rcases rLx_tot e e' n with h | ⟨k, h1, h2, h3⟩ | ⟨k, h1, h2, h3⟩
    · rcases Nat.lt_trichotomy (e n) (e' n) with c | c | c
      · exact Or.inr (Or.inl ⟨n, by omega, h, c⟩)
      · refine Or.inl (fun k hk => ?_)
        by_cases z : k = n
        · rw [z]
          exact c
        · exact h k (by omega)
      · exact Or.inr (Or.inr ⟨n, by omega, fun j hj => (h j hj).symm, c⟩)
    · exact Or.inr (Or.inl ⟨k, by omega, h2, h3⟩)
    · exact Or.inr (Or.inr ⟨k, by omega, h2, h3⟩)
theorem rLx_trans {e1 e2 e3 : Nat → Nat} (h1 : rLx n e1 e2) (h2 : rLx n e2 e3) : rLx n e1 e3 := by
  obtain ⟨k, a1, a2, a3⟩ := h1
  obtain ⟨m, b1, b2, b3⟩ := h2
  rcases Nat.lt_trichotomy k m with c | c | c
  · exact ⟨k, a1, fun j hj => (a2 j hj).trans (b2 j (by omega)), by rw [← b2 k c]; exact a3⟩
  · subst c
    exact ⟨k, a1, fun j hj => (a2 j hj).trans (b2 j hj), by omega⟩
  · exact ⟨m, b1, fun j hj => (a2 j (by omega)).trans (b2 j hj), by rw [a2 m c]; exact b3⟩
def rD (B n v : Nat) : Nat → Nat := fun k => v / B ^ (n - 1 - k) % B
theorem rD_s {B v k n : Nat} (hk : k < n) : rD B (n + 1) v k = rD B n (v / B) k := by
  unfold rD
  rw [Nat.div_div_eq_div_mul, show n + 1 - 1 - k = (n - 1 - k) + 1 by omega, Nat.pow_succ, Nat.mul_comm]
theorem rD_n {B v n : Nat} : rD B (n + 1) v n = v % B := by
  unfold rD
  rw [show n + 1 - 1 - n = 0 by omega, Nat.pow_zero, Nat.div_one]
theorem rD_lt {B v k n : Nat} (hB : 0 < B) : rD B n v k < B := Nat.mod_lt _ hB
theorem rD_lex {B : Nat} (hB : 0 < B) : ∀ (n v w : Nat), v < w → w < B ^ n → rLx n (rD B n v) (rD B n w)
  | 0, v, w, h1, h2 => by
    rw [Nat.pow_zero] at h2
    omega
  | n + 1, v, w, h1, h2 => by
    have d1 := Nat.div_add_mod v B
    have d2 := Nat.div_add_mod w B
    have hw : w / B < B ^ n := by
      rw [Nat.div_lt_iff_lt_mul hB]
      rw [Nat.pow_succ] at h2
      exact h2
    rcases Nat.lt_or_ge (v / B) (w / B) with c | c
    · obtain ⟨k, a1, a2, a3⟩ := rD_lex hB n _ _ c hw
      refine ⟨k, by omega, fun j hj => ?_, ?_⟩
      · rw [rD_s (by omega), rD_s (by omega)]
        exact a2 j hj
      · rw [rD_s a1, rD_s a1]
        exact a3
    · have e : v / B = w / B := Nat.le_antisymm (Nat.div_le_div_right (Nat.le_of_lt h1)) c
      refine ⟨n, by omega, fun j hj => by rw [rD_s hj, rD_s hj, e], ?_⟩
      rw [rD_n, rD_n]
      rw [e] at d1
      omega
theorem rD_ex {B : Nat} (hB : 0 < B) : ∀ (n : Nat) (e : Nat → Nat), (∀ k, k < n → e k < B) → ∃ v, v < B ^ n ∧ ∀ k, k < n → rD B n v k = e k
  | 0, e, _ => ⟨0, by rw [Nat.pow_zero]; omega, fun k hk => absurd hk (Nat.not_lt_zero _)⟩
  | n + 1, e, h => by
    obtain ⟨v, v1, v2⟩ := rD_ex hB n e (fun k hk => h k (by omega))
    have hn := h n (by omega)
    have e1 : (B * v + e n) / B = v := by
      rw [Nat.mul_add_div hB, Nat.div_eq_of_lt hn, Nat.add_zero]
    refine ⟨B * v + e n, ?_, fun k hk => ?_⟩
    · have : B * (v + 1) ≤ B * B ^ n := Nat.mul_le_mul_left B v1
      rw [Nat.mul_add, Nat.mul_one] at this
      rw [Nat.pow_succ, Nat.mul_comm (B ^ n)]
      omega
    · by_cases c : k = n
      · subst c
        rw [rD_n, Nat.mul_add_mod, Nat.mod_eq_of_lt hn]
      · rw [rD_s (by omega), e1]
        exact v2 k (by omega)
/-- better, or as good and not behind -/
def rBe (T : jT) (n : Nat) (b r : Nat → Nat) (lx : Prop) : Prop := rFm T b n < rFm T r n ∨ (rFm T b n = rFm T r n ∧ (rFl T b n < rFl T r n ∨ (rFl T b n = rFl T r n ∧ ¬ lx)))
theorem rBest (hK : jTok T) {b es : Nat → Nat} (hb : ∀ k, k < n → rV al T k (b k) ∧ b k < 25) (h1 : ∀ r, (∀ k, k < n → rV al T k (r k) ∧ r k < 25) → rBe T n b r (rLx n r b)) (he : ∀ k, k < n → es k < rB al) (h2 : ∀ e : Nat → Nat, (∀ k, k < n → e k < rB al) → rBe T n (fun k => rC al T k (es k)) (fun k => rC al T k (e k)) (rLx n e es)) : (∀ k, k < n → es k = rLi al (b k)) ∧ rFm T b n = rFm T (fun k => rC al T k (es k)) n ∧ rFl T b n = rFl T (fun k => rC al T k (es k)) n := by
  have g1 := rF_congr (T := T) (n := n) (r := fun k => rC al T k (rLi al (b k))) (r' := b) hK (fun t pr ht hp => by
    show gd T (rC al T t (rLi al (b t))) pr = gd T (b t) pr
    rw [← rN_gd (rLi_lt (hb t ht).2) hp, rN_Li (hb t ht).1])
  have g2 := rF_congr (T := T) (n := n) (r := fun k => rN al T k (es k)) (r' := fun k => rC al T k (es k)) hK (fun t pr ht hp => rN_gd (he t ht) hp)
  have q1 := h1 (fun k => rN al T k (es k)) (fun k hk => rN_V hK (he k hk))
  have q2 := h2 (fun k => rLi al (b k)) (fun k hk => rLi_lt (hb k hk).2)
  unfold rBe at q1 q2
  rw [g2.1, g2.2] at q1
  rw [g1.1, g1.2] at q2
  have E1 : rFm T b n = rFm T (fun k => rC al T k (es k)) n := by omega
  have E2 : rFl T b n = rFl T (fun k => rC al T k (es k)) n := by omega
  refine ⟨?_, E1, E2⟩
  have n1 : ¬ rLx n (fun k => rN al T k (es k)) b := by
    rcases q1 with z | ⟨_, z | z⟩
    · omega
    · omega
    · exact z.2
  have n2 : ¬ rLx n (fun k => rLi al (b k)) es := by
    rcases q2 with z | ⟨_, z | z⟩
    · omega
    · omega
    · exact z.2
  rcases rLx_tot es (fun k => rLi al (b k)) n with z | ⟨k, z1, z2, z3⟩ | z
  · exact z
  · exfalso
    refine n1 ⟨k, z1, fun j hj => ?_, rN_lt (hb k z1).1 z3⟩
    show rN al T j (es j) = b j
    rw [z2 j hj, rN_Li (hb j (by omega)).1]
  · exact absurd z n2
end JRA
