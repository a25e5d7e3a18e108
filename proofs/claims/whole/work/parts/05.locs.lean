/-! locals as a list: what each place surely holds -/
def jat : List (Option Value) → Nat → Option Value
  | [], _ => none
  | x :: _, 0 => x
  | _ :: t, k + 1 => jat t k
def jkill : Option Value → Option Value
  | some (.long _) => none
  | some (.double _) => none
  | x => x
/-- a value of one slot is stored -/
def jst : List (Option Value) → Nat → Value → List (Option Value)
  | [], _, _ => []
  | _ :: t, 0, v => some v :: t
  | x :: t, 1, v => jkill x :: jst t 0 v
  | x :: t, k + 2, v => x :: jst t (k + 1) v
def jnone : List (Option Value) → List (Option Value)
  | [] => []
  | _ :: t => none :: t
/-- a long is stored -/
def jst2 : List (Option Value) → Nat → Value → List (Option Value)
  | [], _, _ => []
  | _ :: t, 0, v => some v :: jnone t
  | x :: t, 1, v => jkill x :: jst2 t 0 v
  | x :: t, k + 2, v => x :: jst2 t (k + 1) v
def jasc (G : jG) : Nat → List (Option Value) → List (Nat × Value)
  | _, [] => []
  | i, some v :: t => (i, jcv G v) :: jasc G (i + 1) t
  | i, none :: t => jasc G (i + 1) t
theorem jasc_mem {G : jG} {q : Nat × Value} : ∀ {ls : List (Option Value)} {i : Nat}, q ∈ jasc G i ls ↔ ∃ k v, q.1 = i + k ∧ ls[k]? = some (some v) ∧ q.2 = jcv G v := by
  intro ls
  induction ls with
  | nil => intro i; simp [jasc]
  | cons x t ih =>
    intro i
    cases x with
    | none =>
      rw [jasc, ih]
      constructor
      · rintro ⟨k, v, h1, h2, h3⟩
        exact ⟨k + 1, v, by omega, by simpa using h2, h3⟩
      · rintro ⟨k, v, h1, h2, h3⟩
        cases k with
        | zero => simp at h2
        | succ k => exact ⟨k, v, by omega, by simpa using h2, h3⟩
    | some w =>
      rw [jasc, List.mem_cons, ih]
      constructor
      · rintro (rfl | ⟨k, v, h1, h2, h3⟩)
        · exact ⟨0, w, rfl, rfl, rfl⟩
        · exact ⟨k + 1, v, by omega, by simpa using h2, h3⟩
      · rintro ⟨k, v, h1, h2, h3⟩
        cases k with
        | zero =>
          simp at h2
          subst h2
          exact Or.inl (Prod.ext h1 h3)
        | succ k => exact Or.inr ⟨k, v, by omega, by simpa using h2, h3⟩
theorem jat_some {ls : List (Option Value)} {k : Nat} {v : Value} (h : jat ls k = some v) : ls[k]? = some (some v) := by
  induction ls generalizing k with
  | nil => simp [jat] at h
  | cons x t ih =>
    cases k with
    | zero => simp [jat] at h; simp [h]
    | succ k => simpa using ih h
def jloc (G : jG) (LS : Array Slot) (n : Nat) (ls : List (Option Value)) : Prop := lv_has LS n (jasc G 0 ls) ∧ ls.length = n
theorem jloc_at {G : jG} {LS : Array Slot} {n k : Nat} {ls : List (Option Value)} {v : Value} (h : jloc G LS n ls) (hk : jat ls k = some v) : LS[k]? = some (.val (jcv G v)) :=
  h.1.2.2 (k, jcv G v) (jasc_mem.mpr ⟨k, v, by simp, jat_some hk, rfl⟩)
theorem lv_less {ls : Array Slot} {nL : Nat} {l l' : List (Nat × Value)} (h : lv_has ls nL l) (hl : ∀ q ∈ l', q ∈ l) : lv_has ls nL l' := ⟨h.1, h.2.1, fun q hq => h.2.2 q (hl q hq)⟩
theorem jcv_cat (G : jG) (v : Value) : (jcv G v).category = v.category := by cases v <;> rfl
theorem jkill_some {x : Option Value} {w : Value} (h : jkill x = some w) : x = some w ∧ ¬ w.category = 2 := by
  cases x with
  | none => cases h
  | some y => cases y <;> first | (cases h; exact ⟨rfl, by decide⟩) | (simp [jkill] at h; try (subst h; exact ⟨rfl, by simp [Value.category]⟩))
theorem jst_len : ∀ (ls : List (Option Value)) (i : Nat) (v : Value), (jst ls i v).length = ls.length
  | [], _, _ => rfl
  | _ :: _, 0, _ => rfl
  | _ :: t, 1, v => by rw [jst, List.length_cons, List.length_cons, jst_len t 0 v]
  | _ :: t, k + 2, v => by rw [jst, List.length_cons, List.length_cons, jst_len t (k + 1) v]
theorem jnone_len (t : List (Option Value)) : (jnone t).length = t.length := by cases t <;> rfl
theorem jst2_len : ∀ (ls : List (Option Value)) (i : Nat) (v : Value), (jst2 ls i v).length = ls.length
  | [], _, _ => rfl
  | _ :: t, 0, _ => by rw [jst2, List.length_cons, List.length_cons, jnone_len]
  | _ :: t, 1, v => by rw [jst2, List.length_cons, List.length_cons, jst2_len t 0 v]
  | _ :: t, k + 2, v => by rw [jst2, List.length_cons, List.length_cons, jst2_len t (k + 1) v]
theorem jst_get : ∀ (ls : List (Option Value)) (i : Nat) (v : Value) (j : Nat) (w : Value), (jst ls i v)[j]? = some (some w) → (j = i ∧ w = v) ∨ (j ≠ i ∧ ls[j]? = some (some w) ∧ ¬ (j + 1 = i ∧ w.category = 2)) := by
  intro ls
  induction ls with
  | nil => intro i v j w h; simp [jst] at h
  | cons x t ih =>
    intro i v j w h
    cases i with
    | zero =>
      rw [jst] at h
      cases j with
      | zero => simp at h; exact Or.inl ⟨rfl, h.symm⟩
      | succ j => exact Or.inr ⟨by omega, by simpa using h, by omega⟩
    | succ k =>
      have h : ((if k = 0 then jkill x else x) :: jst t k v)[j]? = some (some w) := by
        cases k with
        | zero => exact h
        | succ k => exact h
      cases j with
      | zero =>
        rw [List.getElem?_cons_zero] at h
        have h := Option.some.inj h
        by_cases hk : k = 0
        · rw [if_pos hk] at h
          obtain ⟨e1, e2⟩ := jkill_some h
          exact Or.inr ⟨by omega, by simp [e1], fun q => e2 q.2⟩
        · rw [if_neg hk] at h
          exact Or.inr ⟨by omega, by simpa using h, by omega⟩
      | succ j =>
        rw [List.getElem?_cons_succ] at h
        rcases ih k v j w h with ⟨e1, e2⟩ | ⟨e1, e2, e3⟩
        · exact Or.inl ⟨by omega, e2⟩
        · exact Or.inr ⟨by omega, by simpa using e2, fun q => e3 ⟨by omega, q.2⟩⟩
theorem jnone_get {t : List (Option Value)} {j : Nat} {w : Value} (h : (jnone t)[j]? = some (some w)) : j ≠ 0 ∧ t[j]? = some (some w) := by
  cases t with
  | nil => simp [jnone] at h
  | cons x t =>
    cases j with
    | zero => simp [jnone] at h
    | succ j => exact ⟨by omega, by simpa [jnone] using h⟩
theorem jst2_get : ∀ (ls : List (Option Value)) (i : Nat) (v : Value) (j : Nat) (w : Value), (jst2 ls i v)[j]? = some (some w) → (j = i ∧ w = v) ∨ (j ≠ i ∧ j ≠ i + 1 ∧ ls[j]? = some (some w) ∧ ¬ (j + 1 = i ∧ w.category = 2)) := by
  intro ls
  induction ls with
  | nil => intro i v j w h; simp [jst2] at h
  | cons x t ih =>
    intro i v j w h
    cases i with
    | zero =>
      rw [jst2] at h
      cases j with
      | zero => simp at h; exact Or.inl ⟨rfl, h.symm⟩
      | succ j =>
        rw [List.getElem?_cons_succ] at h
        obtain ⟨e1, e2⟩ := jnone_get h
        exact Or.inr ⟨by omega, by omega, by simpa using e2, by omega⟩
    | succ k =>
      have h : ((if k = 0 then jkill x else x) :: jst2 t k v)[j]? = some (some w) := by
        cases k with
        | zero => exact h
        | succ k => exact h
      cases j with
      | zero =>
        rw [List.getElem?_cons_zero] at h
        have h := Option.some.inj h
        by_cases hk : k = 0
        · rw [if_pos hk] at h
          obtain ⟨e1, e2⟩ := jkill_some h
          exact Or.inr ⟨by omega, by omega, by simp [e1], fun q => e2 q.2⟩
        · rw [if_neg hk] at h
          exact Or.inr ⟨by omega, by omega, by simpa using h, by omega⟩
      | succ j =>
        rw [List.getElem?_cons_succ] at h
        rcases ih k v j w h with ⟨e1, e2⟩ | ⟨e1, e0, e2, e3⟩
        · exact Or.inl ⟨by omega, e2⟩
        · exact Or.inr ⟨by omega, by omega, by simpa using e2, fun q => e3 ⟨by omega, q.2⟩⟩
theorem jloc_st {G : jG} {LS LS' : Array Slot} {n i : Nat} {ls : List (Option Value)} {v w : Value} (h : jloc G LS n ls) (hv : jcv G v = w) (h' : lv_has LS' n ((i, w) :: (jasc G 0 ls).filter (fun q => !(q.1 == i) && !(q.1 + 1 == i && q.2.category == 2)))) : jloc G LS' n (jst ls i v) := by
  refine ⟨lv_less h' (fun q hq => ?_), by rw [jst_len]; exact h.2⟩
  obtain ⟨k, u, h1, h2, h3⟩ := jasc_mem.mp hq
  have h1 : q.1 = k := by omega
  rcases jst_get _ _ _ _ _ h2 with ⟨e1, e2⟩ | ⟨e1, e2, e3⟩
  · subst e2; subst e1; subst hv
    exact List.mem_cons.mpr (Or.inl (Prod.ext h1 h3))
  · refine List.mem_cons.mpr (Or.inr (List.mem_filter.mpr ⟨jasc_mem.mpr ⟨k, u, by omega, e2, h3⟩, ?_⟩))
    have hc : q.2.category = u.category := by rw [h3, jcv_cat]
    simp only [h1, hc, Bool.and_eq_true, Bool.not_eq_true', beq_eq_false_iff_ne, ne_eq]
    refine ⟨e1, ?_⟩
    by_cases q1 : k + 1 = i
    · by_cases q2 : u.category = 2
      · exact absurd ⟨q1, q2⟩ e3
      · simp [q2]
    · simp [q1]
theorem jloc_st2 {G : jG} {LS LS' : Array Slot} {n i : Nat} {ls : List (Option Value)} {v w : Value} (h : jloc G LS n ls) (hv : jcv G v = w) (h' : lv_has LS' n ((i, w) :: (jasc G 0 ls).filter (fun q => !(q.1 == i) && (!(q.1 == i + 1) && !(q.1 + 1 == i && q.2.category == 2))))) : jloc G LS' n (jst2 ls i v) := by
  refine ⟨lv_less h' (fun q hq => ?_), by rw [jst2_len]; exact h.2⟩
  obtain ⟨k, u, h1, h2, h3⟩ := jasc_mem.mp hq
  have h1 : q.1 = k := by omega
  rcases jst2_get _ _ _ _ _ h2 with ⟨e1, e2⟩ | ⟨e1, e0, e2, e3⟩
  · subst e2; subst e1; subst hv
    exact List.mem_cons.mpr (Or.inl (Prod.ext h1 h3))
  · refine List.mem_cons.mpr (Or.inr (List.mem_filter.mpr ⟨jasc_mem.mpr ⟨k, u, by omega, e2, h3⟩, ?_⟩))
    have hc : q.2.category = u.category := by rw [h3, jcv_cat]
    simp only [h1, hc, Bool.and_eq_true, Bool.not_eq_true', beq_eq_false_iff_ne, ne_eq]
    refine ⟨e1, e0, ?_⟩
    by_cases q1 : k + 1 = i
    · by_cases q2 : u.category = 2
      · exact absurd ⟨q1, q2⟩ e3
      · simp [q2]
    · simp [q1]
/-! a method's start: its arguments as locals -/
def jent : List Value → List (Option Value)
  | [] => []
  | .long x :: t => some (.long x) :: none :: jent t
  | v :: t => some v :: jent t
def jpad (n : Nat) (ls : List (Option Value)) : List (Option Value) := ls ++ List.replicate (n - ls.length) none
