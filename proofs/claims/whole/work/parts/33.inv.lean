/-! THE INVARIANT between calls, in parts -/
/-- status and fraction -/
def jSt (μ : jMem) : Prop := gI μ 133 0 = gI μ 1 0 ∧ gL μ 133 2 = gL μ 1 1 ∧ gL μ 133 3 = gL μ 1 2
def jcut (s : Int32) (v : Int64) : Int64 := if s = 0 then v.toInt32.toInt8.toInt32.toInt64 else if s = 1 then v.toInt32.toInt16.toInt32.toInt64 else if s = 2 then v.toInt32.toInt64 else v
theorem jcut_0 (v : Int64) : jcut 0 v = v.toInt32.toInt8.toInt32.toInt64 := if_pos rfl
theorem jcut_1 (v : Int64) : jcut 1 v = v.toInt32.toInt16.toInt32.toInt64 := by unfold jcut; rw [if_neg (by decide), if_pos rfl]
theorem jcut_2 (v : Int64) : jcut 2 v = v.toInt32.toInt64 := by unfold jcut; rw [if_neg (by decide), if_neg (by decide), if_pos rfl]
theorem jcut_n {s : Int32} (h0 : ¬ s = 0) (h1 : ¬ s = 1) (h2 : ¬ s = 2) (v : Int64) : jcut s v = v := by unfold jcut; rw [if_neg h0, if_neg h1, if_neg h2]
theorem jcut_idem (s : Int32) (v : Int64) : jcut s (jcut s v) = jcut s v := by
  by_cases c0 : s = 0
  · subst c0
    rw [jcut_0, jcut_0]
    simp
  by_cases c1 : s = 1
  · subst c1
    rw [jcut_1, jcut_1]
    simp
  by_cases c2 : s = 2
  · subst c2
    rw [jcut_2, jcut_2]
    simp
  rw [jcut_n c0 c1 c2, jcut_n c0 c1 c2]
theorem jcut_zero (s : Int32) : jcut s 0 = 0 := by
  by_cases c0 : s = 0
  · subst c0; decide
  by_cases c1 : s = 1
  · subst c1; decide
  by_cases c2 : s = 2
  · subst c2; decide
  exact jcut_n c0 c1 c2 0
/-- trays: rows 4 to 7, sorts 8, lengths 9; sorts 134, lengths 135, numbers 136 -/
def jTr (μ : jMem) : Prop := ∀ i, i < 4 → gI μ 134 i = gI μ 8 i ∧ gI μ 135 i = gI μ 9 i ∧ (gI μ 9 i = -1 ∨ ∃ n, n ≤ 64 ∧ gI μ 9 i = nI n) ∧ ∀ k, k < (gI μ 9 i).toNatClampNeg → gL μ 136 (64 * i + k) = gL μ (4 + i) k ∧ jcut (gI μ 8 i) (gL μ (4 + i) k) = gL μ (4 + i) k
/-- cells of which the rest of the invariant does not speak -/
def jScrO (a : Nat) : Bool := [4, 5, 6, 7, 8, 9, 134, 135, 136, 38, 39, 40, 41, 42, 43, 44, 45, 46, 47, 48, 49, 50, 51, 52, 53, 54, 55, 56, 57, 58, 59, 60, 61, 62, 63, 64, 65, 66, 67, 68, 69, 70, 71, 72, 73, 74, 75, 76, 77, 78, 79, 80, 81, 82, 83, 84, 85, 86, 87, 88, 89, 90, 91, 92, 93, 94, 95, 96, 97, 98, 99, 100, 101, 104, 105, 106, 107, 108, 109, 110, 111, 114, 115, 116, 117, 118, 119, 120, 121, 122, 123, 124, 126, 127, 129, 131, 132, 139, 141, 143, 146, 147, 149, 153, 154, 155, 156, 157, 160, 162, 163, 164, 165, 166, 167, 168, 169, 170, 171].contains a
def jScr (t a k : Nat) : Bool := jScrO a || (a == 1 && decide (k ≤ 2)) || (a == 133 && [0, 1, 2, 3, 9, 12, 13, 14, 15, 16, 17, 18, 19, 22, 23, 26, 27, 29, 60, 61, 63, 64, 72, 73, 76, 77, 78].contains k) || (decide (35 - t ≤ a) && decide (a ≤ 45 - t))
/-! a town as numbers: T 0: places, lanes, slow, hears, cross, marks; T 1 .. T 4 of a place: sight, first, second, lanes; T 5 p k: a lane's number; T 6, 7, 8 of a lane: one end, the other, shut -/
abbrev jT : Type := Nat → Nat → Nat → Nat
def tP (T : jT) : Nat := T 0 0 0
def tLn (T : jT) : Nat := T 0 1 0
def tSl (T : jT) : Nat := T 0 2 0
def tHe (T : jT) : Nat := T 0 3 0
def tCr (T : jT) : Nat := T 0 4 0
def tMk (T : jT) : Nat := T 0 5 0
def tSi (T : jT) (p : Nat) : Nat := T 1 p 0
def tFi (T : jT) (p : Nat) : Nat := T 2 p 0
def tSe (T : jT) (p : Nat) : Nat := T 3 p 0
def tD (T : jT) (p : Nat) : Nat := T 4 p 0
def tL (T : jT) (p k : Nat) : Nat := T 5 p k
def tO (T : jT) (l : Nat) : Nat := T 6 l 0
def tQ (T : jT) (l : Nat) : Nat := T 7 l 0
def tSh (T : jT) (l : Nat) : Nat := T 8 l 0
/-- where lane k of a place leads -/
def tLe (T : jT) (p k : Nat) : Nat := if tO T (tL T p k) = p then tQ T (tL T p k) else tO T (tL T p k)
/-- where a step leads -/
def tA (T : jT) (p s : Nat) : Nat := if 0 < s ∧ s - 1 < tD T p ∧ tSh T (tL T p (s - 1)) = 0 then tLe T p (s - 1) else p
/-- in so many steps at most one comes from a to b -/
def tR (T : jT) : Nat → Nat → Nat → Bool
  | 0, a, b => decide (a = b)
  | n + 1, a, b => tR T n a b || (List.range 5).any (fun s => tR T n (tA T a s) b)
/-- how many steps at least; 100 if none lead there -/
def tDi (T : jT) (a b : Nat) : Nat := ((List.range 9).find? (fun n => tR T n a b)).getD 100
def jTok (T : jT) : Prop := (tP T ≤ 8 ∧ tLn T ≤ 12 ∧ (1 ≤ tSl T ∧ tSl T ≤ 4) ∧ tHe T ≤ 3 ∧ tCr T ≤ 1 ∧ tMk T ≤ 1) ∧ (∀ p, p < tP T → tSi T p ≤ 5 ∧ tFi T p ≤ 9 ∧ tSe T p ≤ 9 ∧ tD T p ≤ 4) ∧ (∀ p k, p < tP T → k < tD T p → tL T p k < tLn T ∧ (tO T (tL T p k) = p ∨ tQ T (tL T p k) = p)) ∧
  (∀ l, l < tLn T → tSh T l ≤ 1 ∧ tO T l < tP T ∧ tQ T l < tP T ∧ tO T l ≠ tQ T l ∧ (∃ k, k < tD T (tO T l) ∧ tL T (tO T l) k = l) ∧ (∃ k, k < tD T (tQ T l) ∧ tL T (tQ T l) k = l))
/-- a town of the class holds it -/
def jTX (T : jT) (t : Nat) (μ : jMem) : Prop := (gI μ t 0 = nI (tP T) ∧ gI μ t 1 = nI (tLn T) ∧ gI μ t 2 = nI (tCr T) ∧ gI μ t 3 = nI (tSl T) ∧ gI μ t 4 = nI (tHe T) ∧ gI μ t 5 = nI (tMk T)) ∧ (∀ p, p < tP T → gI μ (t + 2) p = nI (tSi T p) ∧ gI μ (t + 3) p = nI (tFi T p) ∧ gI μ (t + 4) p = nI (tSe T p) ∧ gI μ (t + 5) p = nI (tD T p)) ∧
  (∀ p k, p < tP T → k < tD T p → gI μ (t + 6) (4 * p + k) = nI (tL T p k) ∧ gI μ (t + 7) (4 * p + k) = nI (tLe T p k)) ∧ (∀ l, l < tLn T → gI μ (t + 8) l = nI (tSh T l)) ∧ (∀ p s, p < tP T → s < 5 → gI μ (t + 9) (5 * p + s) = nI (tA T p s)) ∧ (∀ a b, a < tP T → b < tP T → gI μ (t + 10) (8 * a + b) = nI (tDi T a b))
/-- the reference holds it -/
def jTM (T : jT) (μ : jMem) : Prop := (gI μ 133 20 = nI (tP T) ∧ gI μ 133 21 = nI (tLn T) ∧ gI μ 133 28 = nI (tCr T) ∧ gI μ 133 24 = nI (tSl T) ∧ gI μ 133 25 = nI (tHe T) ∧ gI μ 133 30 = nI (tMk T)) ∧ (∀ p, p < tP T → gI μ 138 (3 * p) = nI (tSi T p) ∧ gI μ 138 (3 * p + 1) = nI (tFi T p) ∧ gI μ 138 (3 * p + 2) = nI (tSe T p) ∧ gI μ 140 p = nI (tD T p)) ∧
  (∀ p k, p < tP T → k < tD T p → gI μ 142 (4 * p + k) = nI (tL T p k)) ∧ (∀ l, l < tLn T → gI μ 144 l = nI (tO T l) ∧ gI μ 145 l = nI (tQ T l) ∧ gI μ 148 l = nI (tSh T l))
/-- tape and fault -/
def jTp (μ : jMem) : Prop := (∃ n, n ≤ 500 ∧ gI μ 10 1 = nI n ∧ gI μ 133 8 = nI n ∧ ∀ k, k < n → gI μ 11 k = gI μ 137 k &&& 255 ∧ ∃ b, b < 256 ∧ gI μ 11 k = nI b) ∧ gI μ 133 10 = gI μ 10 2 ∧ gI μ 133 11 = gI μ 10 3
/-! ways as numbers: V 0 0 0 how many; V 1 w 0 length, V 2 w 0 again, V 3 w k numbers -/
def wC (V : jT) : Nat := V 0 0 0
def wLn (V : jT) (w : Nat) : Nat := V 1 w 0
def wAg (V : jT) (w : Nat) : Nat := V 2 w 0
def wNu (V : jT) (w k : Nat) : Nat := V 3 w k
def wMany (V : jT) (w : Nat) : Nat := if wLn V w = 0 then 18 else wLn V w
def jVok (V : jT) : Prop := wC V ≤ 12 ∧ ∀ w, w < wC V → wLn V w ≤ 24 ∧ wAg V w ≤ 1 ∧ ∀ k, k < wMany V w → wNu V w k ≤ 14 ∧ (wLn V w ≠ 0 → wNu V w k ≤ 4)
def jVX (V : jT) (μ : jMem) : Prop := gI μ 34 0 = nI (wC V) ∧ ∀ w, w < wC V → gI μ 35 w = nI (wLn V w) ∧ gI μ 36 w = nI (wAg V w) ∧ ∀ k, k < wMany V w → gI μ 37 (24 * w + k) = nI (wNu V w k)
def jVM (V : jT) (μ : jMem) : Prop := gI μ 133 43 = nI (wC V) ∧ ∀ w, w < wC V → gI μ 150 w = nI (wLn V w) ∧ gI μ 152 w = nI (wAg V w) ∧ ∀ k, k < wMany V w → gI μ 151 (24 * w + k) = nI (wNu V w k)
/-- the rows found -/
def jRw (μ : jMem) : Prop := (gI μ 102 1 = 0 ∧ ∃ n, n ≤ 3 ∧ gI μ 102 3 = nI n ∧ gI μ 133 52 = nI n ∧ ∀ k, k < n → ∃ x y, x < 5 ∧ y < 5 ∧ gI μ 103 k = nI (5 * x + y) ∧ gI μ 158 (2 * k) = nI x ∧ gI μ 158 (2 * k + 1) = nI y) ∧ (gI μ 112 1 = 1 ∧ ∃ n, n ≤ 5 ∧ gI μ 112 3 = nI n ∧ gI μ 133 53 = nI n ∧ ∀ k, k < n → ∃ x y, x < 5 ∧ y < 5 ∧ gI μ 113 k = nI (5 * x + y) ∧ gI μ 159 k = nI x)
/-- the chances found: equal fractions -/
def jCh (μ : jMem) : Prop := ∃ n, n ≤ 3 ∧ gI μ 128 0 = nI n ∧ gI μ 133 54 = nI n ∧ (∀ k, k < 64 → gL μ 125 k = 0) ∧ (0 < n → ∃ s b : Nat, ∃ x y : Nat → Nat, 0 < s ∧ s < 2 ^ 40 ∧ 0 < b ∧ b < 2 ^ 40 ∧ (∀ k, k < 3 → gL μ 130 k = Int64.ofNat (x k)) ∧ s = x 0 + x 1 + x 2 ∧ gL μ 133 59 = Int64.ofNat b ∧ ∀ k, k < n → gL μ 161 k = Int64.ofNat (y k) ∧ x k * b = y k * s)
def jOth (t : Nat) (μ : jMem) : Prop := (t = 12 ∨ t = 23) ∧ jTp μ ∧ (∃ T, jTok T ∧ jTX T t μ ∧ jTM T μ) ∧ (∃ V, jVok V ∧ jVX V μ ∧ jVM V μ) ∧ jRw μ ∧ jCh μ
theorem jTX_of {t : Nat} {T : jT} {μ ν : jMem} (ht : t = 12 ∨ t = 23) (hI : ∀ a k, jScr t a k = false → gI ν a k = gI μ a k) (h : jTX T t μ) : jTX T t ν := by
  obtain ⟨⟨a1, a2, a3, a4, a5, a6⟩, b, c, e, f, g⟩ := h
  have q : ∀ a k, t ≤ a → a ≤ t + 10 → gI ν a k = gI μ a k := fun a k h1 h2 => hI a k (by
    rcases ht with rfl | rfl
    · rcases (show a = 12 ∨ a = 13 ∨ a = 14 ∨ a = 15 ∨ a = 16 ∨ a = 17 ∨ a = 18 ∨ a = 19 ∨ a = 20 ∨ a = 21 ∨ a = 22 by omega) with rfl | rfl | rfl | rfl | rfl | rfl | rfl | rfl | rfl | rfl | rfl <;> rfl
    · rcases (show a = 23 ∨ a = 24 ∨ a = 25 ∨ a = 26 ∨ a = 27 ∨ a = 28 ∨ a = 29 ∨ a = 30 ∨ a = 31 ∨ a = 32 ∨ a = 33 by omega) with rfl | rfl | rfl | rfl | rfl | rfl | rfl | rfl | rfl | rfl | rfl <;> rfl)
  refine ⟨⟨?_, ?_, ?_, ?_, ?_, ?_⟩, fun p hp => ?_, fun p k hp hk => ?_, fun l hl => ?_, fun p s hp hs => ?_, fun a b ha hb => ?_⟩
  · rw [q _ _ (by omega) (by omega)]; exact a1
  · rw [q _ _ (by omega) (by omega)]; exact a2
  · rw [q _ _ (by omega) (by omega)]; exact a3
  · rw [q _ _ (by omega) (by omega)]; exact a4
  · rw [q _ _ (by omega) (by omega)]; exact a5
  · rw [q _ _ (by omega) (by omega)]; exact a6
  · rw [q _ _ (by omega) (by omega), q _ _ (by omega) (by omega), q _ _ (by omega) (by omega), q _ _ (by omega) (by omega)]; exact b p hp
  · rw [q _ _ (by omega) (by omega), q _ _ (by omega) (by omega)]; exact c p k hp hk
  · rw [q _ _ (by omega) (by omega)]; exact e l hl
  · rw [q _ _ (by omega) (by omega)]; exact f p s hp hs
  · rw [q _ _ (by omega) (by omega)]; exact g a b ha hb
theorem jTM_of {T : jT} {μ ν : jMem} (hI : ∀ a k, (a = 133 ∧ (k = 20 ∨ k = 21 ∨ k = 24 ∨ k = 25 ∨ k = 28 ∨ k = 30) ∨ a = 138 ∨ a = 140 ∨ a = 142 ∨ a = 144 ∨ a = 145 ∨ a = 148) → gI ν a k = gI μ a k) (h : jTM T μ) : jTM T ν := by
  obtain ⟨⟨m1, m2, m3, m4, m5, m6⟩, m7, m8, m9⟩ := h
  exact ⟨⟨by rw [hI _ _ (by simp)]; exact m1, by rw [hI _ _ (by simp)]; exact m2, by rw [hI _ _ (by simp)]; exact m3, by rw [hI _ _ (by simp)]; exact m4, by rw [hI _ _ (by simp)]; exact m5, by rw [hI _ _ (by simp)]; exact m6⟩, fun p hp => by rw [hI 138 _ (by simp), hI 138 _ (by simp), hI 138 _ (by simp), hI 140 _ (by simp)]; exact m7 p hp, fun p k hp hk => by rw [hI 142 _ (by simp)]; exact m8 p k hp hk, fun l hl => by rw [hI 144 _ (by simp), hI 145 _ (by simp), hI 148 _ (by simp)]; exact m9 l hl⟩
theorem jTp_of {μ ν : jMem} (hI : ∀ a k, (a = 10 ∧ (k = 1 ∨ k = 2 ∨ k = 3) ∨ a = 11 ∨ a = 137 ∨ a = 133 ∧ (k = 8 ∨ k = 10 ∨ k = 11)) → gI ν a k = gI μ a k) (h : jTp μ) : jTp ν := by
  obtain ⟨⟨n, n1, n2, n3, n4⟩, n5, n6⟩ := h
  exact ⟨⟨n, n1, by rw [hI _ _ (by simp)]; exact n2, by rw [hI _ _ (by simp)]; exact n3, fun k hk => by rw [hI 11 k (by simp), hI 137 k (by simp)]; exact n4 k hk⟩, by rw [hI _ _ (by simp), hI _ _ (by simp)]; exact n5, by rw [hI _ _ (by simp), hI _ _ (by simp)]; exact n6⟩
theorem jTX_of2 {t : Nat} {T : jT} {μ ν : jMem} (q : ∀ a k, t ≤ a → a ≤ t + 10 → gI ν a k = gI μ a k) (h : jTX T t μ) : jTX T t ν := by
  obtain ⟨⟨a1, a2, a3, a4, a5, a6⟩, b, c, e, f, g⟩ := h
  refine ⟨⟨?_, ?_, ?_, ?_, ?_, ?_⟩, fun p hp => ?_, fun p k hp hk => ?_, fun l hl => ?_, fun p s hp hs => ?_, fun a b ha hb => ?_⟩
  · rw [q _ _ (by omega) (by omega)]; exact a1
  · rw [q _ _ (by omega) (by omega)]; exact a2
  · rw [q _ _ (by omega) (by omega)]; exact a3
  · rw [q _ _ (by omega) (by omega)]; exact a4
  · rw [q _ _ (by omega) (by omega)]; exact a5
  · rw [q _ _ (by omega) (by omega)]; exact a6
  · rw [q _ _ (by omega) (by omega), q _ _ (by omega) (by omega), q _ _ (by omega) (by omega), q _ _ (by omega) (by omega)]; exact b p hp
  · rw [q _ _ (by omega) (by omega), q _ _ (by omega) (by omega)]; exact c p k hp hk
  · rw [q _ _ (by omega) (by omega)]; exact e l hl
  · rw [q _ _ (by omega) (by omega)]; exact f p s hp hs
  · rw [q _ _ (by omega) (by omega)]; exact g a b ha hb
theorem jVX_of {V : jT} {μ ν : jMem} (hI : ∀ a k, (a = 34 ∧ k = 0 ∨ a = 35 ∨ a = 36 ∨ a = 37) → gI ν a k = gI μ a k) (h : jVX V μ) : jVX V ν :=
  ⟨by rw [hI _ _ (by simp)]; exact h.1, fun w hw => by rw [hI 35 _ (by simp), hI 36 _ (by simp)]; exact ⟨(h.2 w hw).1, (h.2 w hw).2.1, fun k hk => by rw [hI 37 _ (by simp)]; exact (h.2 w hw).2.2 k hk⟩⟩
theorem jVM_of {V : jT} {μ ν : jMem} (hI : ∀ a k, (a = 133 ∧ k = 43 ∨ a = 150 ∨ a = 151 ∨ a = 152) → gI ν a k = gI μ a k) (h : jVM V μ) : jVM V ν :=
  ⟨by rw [hI _ _ (by simp)]; exact h.1, fun w hw => by rw [hI 150 _ (by simp), hI 152 _ (by simp)]; exact ⟨(h.2 w hw).1, (h.2 w hw).2.1, fun k hk => by rw [hI 151 _ (by simp)]; exact (h.2 w hw).2.2 k hk⟩⟩
theorem jRw_of {μ ν : jMem} (z : ∀ a k, ((a = 102 ∨ a = 112) ∧ (k = 1 ∨ k = 3) ∨ a = 103 ∨ a = 113 ∨ a = 158 ∨ a = 159 ∨ a = 133 ∧ (k = 52 ∨ k = 53)) → gI ν a k = gI μ a k) (h : jRw μ) : jRw ν := by
  obtain ⟨⟨r0, r1, r2, r3, r4, r5⟩, s0, s1, s2, s3, s4, s5⟩ := h
  exact ⟨⟨by rw [z _ _ (by simp)]; exact r0, r1, r2, by rw [z _ _ (by simp)]; exact r3, by rw [z _ _ (by simp)]; exact r4, fun k hk => by rw [z 103 _ (by simp), z 158 _ (by simp), z 158 _ (by simp)]; exact r5 k hk⟩, by rw [z _ _ (by simp)]; exact s0, s1, s2, by rw [z _ _ (by simp)]; exact s3, by rw [z _ _ (by simp)]; exact s4, fun k hk => by rw [z 113 _ (by simp), z 159 _ (by simp)]; exact s5 k hk⟩
theorem jCh_of {μ ν : jMem} (z : ∀ a k, (a = 128 ∧ k = 0 ∨ a = 133 ∧ k = 54) → gI ν a k = gI μ a k) (zL : ∀ a k, (a = 125 ∨ a = 130 ∨ a = 161 ∨ a = 133 ∧ k = 59) → gL ν a k = gL μ a k) (h : jCh μ) : jCh ν := by
  obtain ⟨c1, c2, c3, c4, c0, c5⟩ := h
  refine ⟨c1, c2, by rw [z _ _ (by simp)]; exact c3, by rw [z _ _ (by simp)]; exact c4, fun k hk => by rw [zL 125 _ (by simp)]; exact c0 k hk, fun hn => ?_⟩
  obtain ⟨s, b, x, y, k1, k2, k3, k4, k5, k6, k7, k8⟩ := c5 hn
  exact ⟨s, b, x, y, k1, k2, k3, k4, fun k hk => by rw [zL 130 _ (by simp)]; exact k5 k hk, k6, by rw [zL _ _ (by simp)]; exact k7, fun k hk => by rw [zL 161 _ (by simp)]; exact k8 k hk⟩
theorem jOth_of {t : Nat} {μ ν : jMem} (hI : ∀ a k, jScr t a k = false → gI ν a k = gI μ a k) (hL : ∀ a k, jScr t a k = false → gL ν a k = gL μ a k) (h : jOth t μ) : jOth t ν := by
  obtain ⟨ht, ⟨⟨n, n1, n2, n3, n4⟩, n5, n6⟩, ⟨T, hT, hX, ⟨m1, m2, m3, m4, m5, m6⟩, m7, m8, m9⟩, ⟨V, hV, ⟨v1, v2⟩, v3, v4⟩, ⟨⟨r0, r1, r2, r3, r4, r5⟩, s0, s1, s2, s3, s4, s5⟩, c1, c2, c3, c4, c0, c5⟩ := h
  have z : ∀ (a k : Nat), jScr 12 a k = false → jScr 23 a k = false → gI ν a k = gI μ a k := fun a k h1 h2 => hI a k (by rcases ht with rfl | rfl; exact h1; exact h2)
  have zL : ∀ (a k : Nat), jScr 12 a k = false → jScr 23 a k = false → gL ν a k = gL μ a k := fun a k h1 h2 => hL a k (by rcases ht with rfl | rfl; exact h1; exact h2)
  refine ⟨ht, ⟨⟨n, n1, by rw [z _ _ rfl rfl]; exact n2, by rw [z _ _ rfl rfl]; exact n3, fun k hk => by rw [z 11 k rfl rfl, z 137 k rfl rfl]; exact n4 k hk⟩, by rw [z _ _ rfl rfl, z _ _ rfl rfl]; exact n5, by rw [z _ _ rfl rfl, z _ _ rfl rfl]; exact n6⟩, ⟨T, hT, jTX_of ht hI hX, ⟨by rw [z _ _ rfl rfl]; exact m1, by rw [z _ _ rfl rfl]; exact m2, by rw [z _ _ rfl rfl]; exact m3, by rw [z _ _ rfl rfl]; exact m4, by rw [z _ _ rfl rfl]; exact m5, by rw [z _ _ rfl rfl]; exact m6⟩, fun p hp => by rw [z 138 _ rfl rfl, z 138 _ rfl rfl, z 138 _ rfl rfl, z 140 _ rfl rfl]; exact m7 p hp, fun p k hp hk => by rw [z 142 _ rfl rfl]; exact m8 p k hp hk, fun l hl => by rw [z 144 _ rfl rfl, z 145 _ rfl rfl, z 148 _ rfl rfl]; exact m9 l hl⟩,
    ⟨V, hV, ⟨by rw [z _ _ rfl rfl]; exact v1, fun w hw => by rw [z 35 _ rfl rfl, z 36 _ rfl rfl]; exact ⟨(v2 w hw).1, (v2 w hw).2.1, fun k hk => by rw [z 37 _ rfl rfl]; exact (v2 w hw).2.2 k hk⟩⟩, by rw [z _ _ rfl rfl]; exact v3, fun w hw => by rw [z 150 _ rfl rfl, z 152 _ rfl rfl]; exact ⟨(v4 w hw).1, (v4 w hw).2.1, fun k hk => by rw [z 151 _ rfl rfl]; exact (v4 w hw).2.2 k hk⟩⟩,
    ⟨⟨by rw [z _ _ rfl rfl]; exact r0, r1, r2, by rw [z _ _ rfl rfl]; exact r3, by rw [z _ _ rfl rfl]; exact r4, fun k hk => by rw [z 103 _ rfl rfl, z 158 _ rfl rfl, z 158 _ rfl rfl]; exact r5 k hk⟩, by rw [z _ _ rfl rfl]; exact s0, s1, s2, by rw [z _ _ rfl rfl]; exact s3, by rw [z _ _ rfl rfl]; exact s4, fun k hk => by rw [z 113 _ rfl rfl, z 159 _ rfl rfl]; exact s5 k hk⟩, c1, c2, by rw [z _ _ rfl rfl]; exact c3, by rw [z _ _ rfl rfl]; exact c4, fun k hk => by rw [zL 125 _ rfl rfl]; exact c0 k hk, fun hn => ?_⟩
  obtain ⟨s, b, x, y, k1, k2, k3, k4, k5, k6, k7, k8⟩ := c5 hn
  exact ⟨s, b, x, y, k1, k2, k3, k4, fun k hk => by rw [zL 130 _ rfl rfl]; exact k5 k hk, k6, by rw [zL _ _ rfl rfl]; exact k7, fun k hk => by rw [zL 161 _ rfl rfl]; exact k8 k hk⟩
theorem jOth_sI {t : Nat} {μ : jMem} {a k : Nat} {v : Int32} (ha : jScr t a k = true) (h : jOth t μ) : jOth t (sI μ a k v) := jOth_of (μ := μ) (ν := sI μ a k v) (fun x j hx => by
  have hq : ¬ (x = a ∧ j = k) := fun q => by rw [q.1, q.2, ha] at hx; cases hx
  rw [gI_sI, if_neg hq]) (fun _ _ _ => rfl) h
theorem jOth_sL {t : Nat} {μ : jMem} {a k : Nat} {v : Int64} (ha : jScr t a k = true) (h : jOth t μ) : jOth t (sL μ a k v) := jOth_of (μ := μ) (ν := sL μ a k v) (fun _ _ _ => rfl) (fun x j hx => by
  have hq : ¬ (x = a ∧ j = k) := fun q => by rw [q.1, q.2, ha] at hx; cases hx
  rw [gL_sL, if_neg hq]) h
theorem jOth_Fr {t : Nat} {A : List Nat} {μ ν : jMem} (hA : ∀ a ∈ A, jScrO a = true) (hF : jFr A μ ν) (h : jOth t μ) : jOth t ν := by
  have key : ∀ a k, jScr t a k = false → a ∉ A := fun a k hs hm => by
    have := hA a hm
    simp [jScr, this] at hs
  exact jOth_of (fun a k hs => (hF.1 a (key a k hs)).1 k) (fun a k hs => (hF.1 a (key a k hs)).2 k) h
def jInv (L : Nat) (μ : jMem) : Prop := ∃ t, jWd L t μ ∧ jSt μ ∧ jTr μ ∧ jOth t μ
theorem jTr_sI {μ : jMem} {a k : Nat} {v : Int32} (ha : ¬ (a = 8 ∨ a = 9 ∨ a = 134 ∨ a = 135)) (h : jTr μ) : jTr (sI μ a k v) := fun i hi => by
  obtain ⟨h1, h2, h3, h4⟩ := h i hi
  have e1 : ∀ x, (x = 8 ∨ x = 9 ∨ x = 134 ∨ x = 135) → gI (sI μ a k v) x i = gI μ x i := fun x hx => by
    have hq : ¬ (x = a ∧ i = k) := fun q => ha (q.1 ▸ hx)
    rw [gI_sI, if_neg hq]
  rw [e1 8 (by simp), e1 9 (by simp), e1 134 (by simp), e1 135 (by simp)]
  exact ⟨h1, h2, h3, h4⟩
theorem jTr_sL {μ : jMem} {a k : Nat} {v : Int64} (ha : ¬ (4 ≤ a ∧ a ≤ 7) ∧ a ≠ 136) (h : jTr μ) : jTr (sL μ a k v) := fun i hi => by
  obtain ⟨h1, h2, h3, h4⟩ := h i hi
  refine ⟨h1, h2, h3, fun j hj => ?_⟩
  have hq : ¬ (136 = a ∧ 64 * i + j = k) := fun q => ha.2 q.1.symm
  have hq2 : ¬ (4 + i = a ∧ j = k) := fun q => ha.1 (by omega)
  rw [gL_sL, gL_sL, if_neg hq, if_neg hq2]
  exact h4 j hj
theorem jref {L t : Nat} {μ : jMem} {w : Int32} (hW : jWd L t μ) (hS : jSt μ) (hT : jTr μ) (hO : jOth t μ) : jInv L (sI (sI (sI (sI μ 1 0 w) 133 1 0) 133 0 0) 133 0 w) :=
  ⟨t, hW, ⟨by simp [gI_sI], hS.2⟩, jTr_sI (by decide) (jTr_sI (by decide) (jTr_sI (by decide) (jTr_sI (by decide) hT))), jOth_sI rfl (jOth_sI rfl (jOth_sI rfl (jOth_sI rfl hO)))⟩
theorem jg0 {μ : jMem} {w : Int32} {a : Nat} (ha : ¬ 0 = a) (k j : Nat) : gI (sI μ a k w) 0 j = gI μ 0 j := by
  rw [gI_sI, if_neg (fun q => ha q.1)]
theorem jg1 {μ ν : jMem} {A : List Nat} (h : jFr A μ ν) (hA : 0 ∉ A) (j : Nat) : gI ν 0 j = gI μ 0 j := (h.1 0 hA).1 j
