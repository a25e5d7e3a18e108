/-! the memory as functions: ints, longs, references by object and place; shapes; how many cells -/
abbrev jMem : Type := (Nat → Nat → Int32) × (Nat → Nat → Int64) × (Nat → Nat → Option Nat) × (Nat → Nat × Nat) × Nat
def gI (μ : jMem) (a k : Nat) : Int32 := μ.1 a k
def gL (μ : jMem) (a k : Nat) : Int64 := μ.2.1 a k
def gR (μ : jMem) (a k : Nat) : Option Nat := μ.2.2.1 a k
def gS (μ : jMem) (a : Nat) : Nat × Nat := μ.2.2.2.1 a
def gN (μ : jMem) : Nat := μ.2.2.2.2
def sI (μ : jMem) (a k : Nat) (v : Int32) : jMem := (fun x j => if x = a ∧ j = k then v else μ.1 x j, μ.2)
def sL (μ : jMem) (a k : Nat) (v : Int64) : jMem := (μ.1, fun x j => if x = a ∧ j = k then v else μ.2.1 x j, μ.2.2)
def sR (μ : jMem) (a k : Nat) (v : Option Nat) : jMem := (μ.1, μ.2.1, fun x j => if x = a ∧ j = k then v else μ.2.2.1 x j, μ.2.2.2)
/-- one cell more, all 0 or null -/
def sA (μ : jMem) (t n : Nat) : jMem := (fun x j => if x = gN μ + 1 then 0 else μ.1 x j, fun x j => if x = gN μ + 1 then 0 else μ.2.1 x j, fun x j => if x = gN μ + 1 then none else μ.2.2.1 x j, fun x => if x = gN μ + 1 then (t, n) else μ.2.2.2.1 x, gN μ + 1)
/-- the world: classes and their places, array classes, the script's cell, the first cell of ours -/
abbrev jG : Type := va_G × (Nat → ClassId) × Nat × Nat
def jad (G : jG) : Nat → Nat
  | 0 => G.2.2.1
  | k + 1 => G.2.2.2 + k
def jcv (G : jG) : Value → Value
  | .ref a => .ref (jad G a)
  | v => v
def jrv : Option Nat → Value
  | none => .null
  | some a => .ref a
theorem jcv_rv (G : jG) (r : Option Nat) : jcv G (jrv r) = va_rf (r.map (jad G)) := by cases r <;> rfl
def jty (t : Nat) : Nat → FieldType := match t with
  | 0 => tyX0 | 1 => tyX1 | 2 => tyX2 | 3 => tyX3 | 4 => tyX4 | 5 => tyX5 | 6 => tyX6 | 7 => tyX7 | 8 => tyX8 | 9 => tyX9 | 10 => tyX10 | 11 => tyX11 | _ => tyX12
def jnf (t : Nat) : Nat := match vwCl[t]? with
  | some q => q.2.2
  | none => 0
/-- 0 an int, 1 a long, 2 a reference, 3 a boolean -/
def jtk (ty : FieldType) : Nat := match ty with
  | .long => 1
  | .object _ => 2
  | .array _ => 2
  | .boolean => 3
  | _ => 0
def jfv (G : jG) (μ : jMem) (t k a : Nat) : Value := match jtk (jty t k) with
  | 1 => .long (gL μ a k)
  | 2 => va_rf ((gR μ a k).map (jad G))
  | _ => .int (gI μ a k)
def jarr (G : jG) (μ : jMem) (a t n : Nat) : vp_A := match t with
  | 101 => (n, .inr (.inl (gL μ a)))
  | 104 => (n, .inr (.inr (.inr (.inr (fun j => (gR μ a j).map (jad G))))))
  | 105 => (n, .inr (.inr (.inr (.inr (fun j => (gR μ a j).map (jad G))))))
  | _ => (n, .inl (gI μ a))
def jflds (G : jG) (μ : jMem) (a t : Nat) : List Value := (List.range (jnf t)).map (fun k => jfv G μ t k a)
def jcell (G : jG) (μ : jMem) (a : Nat) : va_E :=
  if (gS μ a).1 < 13 then .inr ((gS μ a).1, jflds G μ a (gS μ a).1) else .inl (G.2.1 ((gS μ a).1 - 100), jarr G μ a (gS μ a).1 (gS μ a).2)
def jW (G : jG) (μ : jMem) : va_W := (List.range (gN μ)).map (fun k => (G.2.2.2 + k, jcell G μ (k + 1)))
def jtys (G : jG) : List (ClassId × FieldType) := [(G.2.1 0, .int), (G.2.1 1, .long), (G.2.1 2, .byte), (G.2.1 3, .boolean), (G.2.1 4, .array .int), (G.2.1 5, .array .long)]
/-- what the tables say, at any state of the run -/
def jK (G : jG) (U : State) : Prop := va_K G.1 vwCl (jtys G) U ∧ ∀ w ∈ jnest, va_Nw w U
/-- shapes: 0 to 12 objects of vwCl, 100 int[], 101 long[], 102 byte[], 103 boolean[], 104 int[][], 105 long[][]; above: no cell -/
def jok (μ : jMem) : Prop := (gS μ 0).1 = 100 ∧ ∀ a, (gS μ a).1 < 200 → a ≤ gN μ ∧ ((gS μ a).1 < 13 ∨ (100 ≤ (gS μ a).1 ∧ (gS μ a).1 ≤ 105))
def jRep (G : jG) (μ : jMem) (U : State) (H : Heap) : Prop :=
  va_P G.1 vwCl (jW G μ) H ∧ H.size = G.2.2.2 + gN μ ∧ va_X G.2.2.1 (gS μ 0).2 (gI μ 0) U H ∧ jok μ ∧ G.2.2.1 < G.2.2.2
def jA (G : jG) : Nat → Prop := fun q => G.2.2.2 ≤ q
theorem jK.moved {G : jG} {u U : State} (hW : u.WarmedH U.vm) (h : jK G u) : jK G U := by
  refine ⟨h.1.moved hW.alike, fun w hw => ?_⟩
  have h1 := h.2 w hw
  have h2 := (List.mem_filter.mp hw).2
  cases w with
  | arrayOver t => cases t <;> first | exact over_moved hW.alike h1 | cases h2
  | _ => first | exact va_Nw.warmF hW h1 | exact va_Nw.warmM hW h1 | cases h2
theorem jRep.moved {G : jG} {μ : jMem} {u U : State} {H : Heap} (hvm : u.vm.Alike U.vm) (h : jRep G μ u H) : jRep G μ U H := ⟨h.1, h.2.1, h.2.2.1.moved hvm, h.2.2.2⟩
theorem jW_get {G : jG} {μ : jMem} {a : Nat} (h1 : 1 ≤ a) (h2 : a ≤ gN μ) : (jW G μ)[a - 1]? = some (jad G a, jcell G μ a) := by
  obtain ⟨k, rfl⟩ : ∃ k, a = k + 1 := ⟨a - 1, by omega⟩
  have hk : k < gN μ := by omega
  simp [jW, jad, hk]
theorem jW_at {G : jG} {μ : jMem} {k : Nat} {q : Nat × va_E} (h : (jW G μ)[k]? = some q) : k < gN μ ∧ q = (G.2.2.2 + k, jcell G μ (k + 1)) := by
  by_cases hk : k < gN μ
  · simp [jW, hk] at h
    exact ⟨hk, h.symm⟩
  · simp [jW, hk] at h
theorem jD (G : jG) (μ : jMem) : va_D (jA G) (jW G μ) := by
  refine ⟨fun i j x y hi hj hxy => ?_, fun k q hk => ?_⟩
  · obtain ⟨-, rfl⟩ := jW_at hi
    obtain ⟨-, rfl⟩ := jW_at hj
    have : G.2.2.2 + i = G.2.2.2 + j := hxy
    omega
  · obtain ⟨-, rfl⟩ := jW_at hk
    exact Nat.le_add_right _ _
theorem jcell_o {G : jG} {μ : jMem} {a t : Nat} (h : (gS μ a).1 = t) (ht : t < 13) : jcell G μ a = .inr (t, jflds G μ a t) := by
  unfold jcell
  rw [h, if_pos ht]
theorem jcell_a {G : jG} {μ : jMem} {a t : Nat} (h : (gS μ a).1 = t) (ht : 100 ≤ t) : jcell G μ a = .inl (G.2.1 (t - 100), jarr G μ a t (gS μ a).2) := by
  unfold jcell
  rw [h, if_neg (by omega)]
theorem jflds_get {G : jG} {μ : jMem} {a t k : Nat} (hk : k < jnf t) : (jflds G μ a t)[k]? = some (jfv G μ t k a) := by
  simp [jflds, hk]
theorem jflds_len (G : jG) (μ : jMem) (a t : Nat) : (jflds G μ a t).length = jnf t := by simp [jflds]
/-- a memory that differs in one cell alone: its world -/
theorem jW_set {G : jG} {μ ν : jMem} {a : Nat} {e : va_E} (hn : gN ν = gN μ) (h1 : 1 ≤ a) (h2 : a ≤ gN μ) (he : jcell G ν a = e) (ho : ∀ x, x ≠ a → jcell G ν x = jcell G μ x) : (jW G μ).set (a - 1) (jad G a, e) = jW G ν := by
  apply List.ext_getElem?
  intro k
  obtain ⟨j, rfl⟩ : ∃ j, a = j + 1 := ⟨a - 1, by omega⟩
  have hj : j < gN μ := by omega
  rw [show j + 1 - 1 = j from rfl]
  have hlen : (jW G μ).length = gN μ := by simp [jW]
  by_cases hk : k = j
  · subst hk
    rw [List.getElem?_set_self (by rw [hlen]; exact hj)]
    have := jW_get (G := G) (μ := ν) (a := k + 1) (by omega) (by omega)
    rw [show k + 1 - 1 = k from rfl] at this
    rw [this, he]
  · rw [List.getElem?_set_ne (Ne.symm hk)]
    by_cases hk2 : k < gN μ
    · have q1 := jW_get (G := G) (μ := μ) (a := k + 1) (by omega) (by omega)
      have q2 := jW_get (G := G) (μ := ν) (a := k + 1) (by omega) (by omega)
      rw [show k + 1 - 1 = k from rfl] at q1 q2
      rw [q1, q2, ho (k + 1) (by omega)]
    · have q1 : (jW G μ)[k]? = none := List.getElem?_eq_none (by rw [hlen]; omega)
      have q2 : (jW G ν)[k]? = none := List.getElem?_eq_none (by simp [jW]; omega)
      rw [q1, q2]
theorem jcell_eq {G : jG} {μ ν : jMem} {x : Nat} (hI : ∀ k, gI ν x k = gI μ x k) (hL : ∀ k, gL ν x k = gL μ x k) (hR : ∀ k, gR ν x k = gR μ x k) (hS : gS ν x = gS μ x) : jcell G ν x = jcell G μ x := by
  have e1 : gI ν x = gI μ x := funext hI
  have e2 : gL ν x = gL μ x := funext hL
  have e3 : (fun j => (gR ν x j).map (jad G)) = (fun j => (gR μ x j).map (jad G)) := funext fun j => by rw [hR]
  have e4 : ∀ t, jflds G ν x t = jflds G μ x t := fun t => by
    unfold jflds
    refine List.map_congr_left fun k _ => ?_
    unfold jfv
    rw [hI, hL, hR]
  have e5 : ∀ t n, jarr G ν x t n = jarr G μ x t n := fun t n => by
    unfold jarr
    rw [e1, e2, e3]
  unfold jcell
  rw [hS, e4, e5]
/-! reading what was written -/
theorem gI_sI (μ : jMem) (a k : Nat) (v : Int32) (x j : Nat) : gI (sI μ a k v) x j = if x = a ∧ j = k then v else gI μ x j := rfl
theorem gI_sL (μ : jMem) (a k : Nat) (v : Int64) (x j : Nat) : gI (sL μ a k v) x j = gI μ x j := rfl
theorem gI_sR (μ : jMem) (a k : Nat) (v : Option Nat) (x j : Nat) : gI (sR μ a k v) x j = gI μ x j := rfl
theorem gL_sI (μ : jMem) (a k : Nat) (v : Int32) (x j : Nat) : gL (sI μ a k v) x j = gL μ x j := rfl
theorem gL_sL (μ : jMem) (a k : Nat) (v : Int64) (x j : Nat) : gL (sL μ a k v) x j = if x = a ∧ j = k then v else gL μ x j := rfl
theorem gL_sR (μ : jMem) (a k : Nat) (v : Option Nat) (x j : Nat) : gL (sR μ a k v) x j = gL μ x j := rfl
theorem gR_sI (μ : jMem) (a k : Nat) (v : Int32) (x j : Nat) : gR (sI μ a k v) x j = gR μ x j := rfl
theorem gR_sL (μ : jMem) (a k : Nat) (v : Int64) (x j : Nat) : gR (sL μ a k v) x j = gR μ x j := rfl
theorem gR_sR (μ : jMem) (a k : Nat) (v : Option Nat) (x j : Nat) : gR (sR μ a k v) x j = if x = a ∧ j = k then v else gR μ x j := rfl
theorem gS_sI (μ : jMem) (a k : Nat) (v : Int32) (x : Nat) : gS (sI μ a k v) x = gS μ x := rfl
theorem gS_sL (μ : jMem) (a k : Nat) (v : Int64) (x : Nat) : gS (sL μ a k v) x = gS μ x := rfl
theorem gS_sR (μ : jMem) (a k : Nat) (v : Option Nat) (x : Nat) : gS (sR μ a k v) x = gS μ x := rfl
theorem gN_sI (μ : jMem) (a k : Nat) (v : Int32) : gN (sI μ a k v) = gN μ := rfl
theorem gN_sL (μ : jMem) (a k : Nat) (v : Int64) : gN (sL μ a k v) = gN μ := rfl
theorem gN_sR (μ : jMem) (a k : Nat) (v : Option Nat) : gN (sR μ a k v) = gN μ := rfl
theorem gI_sA (μ : jMem) (t n x j : Nat) : gI (sA μ t n) x j = if x = gN μ + 1 then 0 else gI μ x j := rfl
theorem gL_sA (μ : jMem) (t n x j : Nat) : gL (sA μ t n) x j = if x = gN μ + 1 then 0 else gL μ x j := rfl
theorem gR_sA (μ : jMem) (t n x j : Nat) : gR (sA μ t n) x j = if x = gN μ + 1 then none else gR μ x j := rfl
theorem gS_sA (μ : jMem) (t n x : Nat) : gS (sA μ t n) x = if x = gN μ + 1 then (t, n) else gS μ x := rfl
theorem gN_sA (μ : jMem) (t n : Nat) : gN (sA μ t n) = gN μ + 1 := rfl
/-! the world behind a write -/
theorem jW_sI {G : jG} {μ : jMem} {a k : Nat} {v : Int32} {e : va_E} (h1 : 1 ≤ a) (h2 : a ≤ gN μ) (he : jcell G (sI μ a k v) a = e) : (jW G μ).set (a - 1) (jad G a, e) = jW G (sI μ a k v) :=
  jW_set rfl h1 h2 he (fun x hx => jcell_eq (fun j => by rw [gI_sI, if_neg (fun q => hx q.1)]) (fun _ => rfl) (fun _ => rfl) rfl)
theorem jW_sL {G : jG} {μ : jMem} {a k : Nat} {v : Int64} {e : va_E} (h1 : 1 ≤ a) (h2 : a ≤ gN μ) (he : jcell G (sL μ a k v) a = e) : (jW G μ).set (a - 1) (jad G a, e) = jW G (sL μ a k v) :=
  jW_set rfl h1 h2 he (fun x hx => jcell_eq (fun _ => rfl) (fun j => by rw [gL_sL, if_neg (fun q => hx q.1)]) (fun _ => rfl) rfl)
theorem jW_sR {G : jG} {μ : jMem} {a k : Nat} {v : Option Nat} {e : va_E} (h1 : 1 ≤ a) (h2 : a ≤ gN μ) (he : jcell G (sR μ a k v) a = e) : (jW G μ).set (a - 1) (jad G a, e) = jW G (sR μ a k v) :=
  jW_set rfl h1 h2 he (fun x hx => jcell_eq (fun _ => rfl) (fun _ => rfl) (fun j => by rw [gR_sR, if_neg (fun q => hx q.1)]) rfl)
theorem jflds_set {G : jG} {μ ν : jMem} {a t k : Nat} (ho : ∀ j, j ≠ k → jfv G ν t j a = jfv G μ t j a) : jflds G ν a t = (jflds G μ a t).set k (jfv G ν t k a) := by
  apply List.ext_getElem?
  intro j
  by_cases hj : j < jnf t
  · rw [jflds_get hj]
    by_cases hjk : j = k
    · subst hjk
      rw [List.getElem?_set_self (by rw [jflds_len]; exact hj)]
    · rw [List.getElem?_set_ne (Ne.symm hjk), jflds_get hj, ho j hjk]
  · rw [List.getElem?_eq_none (by rw [jflds_len]; omega), List.getElem?_eq_none (by rw [List.length_set, jflds_len]; omega)]
theorem jok_sI {μ : jMem} {a k : Nat} {v : Int32} (h : jok μ) : jok (sI μ a k v) := h
theorem jok_sL {μ : jMem} {a k : Nat} {v : Int64} (h : jok μ) : jok (sL μ a k v) := h
theorem jok_sR {μ : jMem} {a k : Nat} {v : Option Nat} (h : jok μ) : jok (sR μ a k v) := h
theorem jok_sA {μ : jMem} {t n : Nat} (h : jok μ) (ht : t < 13 ∨ (100 ≤ t ∧ t ≤ 105)) : jok (sA μ t n) := by
  refine ⟨?_, fun a ha => ?_⟩
  · rw [gS_sA, if_neg (by omega)]
    exact h.1
  · rw [gN_sA]
    rw [gS_sA] at ha ⊢
    by_cases e : a = gN μ + 1
    · rw [if_pos e]
      exact ⟨by omega, ht⟩
    · rw [if_neg e] at ha ⊢
      exact ⟨by have := (h.2 a ha).1; omega, (h.2 a ha).2⟩
/-- a cell of ours -/
theorem jok_lt {μ : jMem} {a t : Nat} (h : jok μ) (hs : (gS μ a).1 = t) (ht : t < 200) (h0 : a ≠ 0) : 1 ≤ a ∧ a ≤ gN μ := ⟨by omega, (h.2 a (by rw [hs]; exact ht)).1⟩
theorem jok_obj {μ : jMem} {a t : Nat} (h : jok μ) (hs : (gS μ a).1 = t) (ht : t < 13) : 1 ≤ a ∧ a ≤ gN μ := by
  refine jok_lt h hs (by omega) (fun e => ?_)
  subst e
  have := h.1
  omega
/-- a write to one cell: the picture behind it -/
theorem jRep_put {G : jG} {μ ν : jMem} {U : State} {H H1 : Heap} {a : Nat} {e : va_E} (hR : jRep G μ U H) (h1 : 1 ≤ a) (h2 : a ≤ gN μ) (hW : (jW G μ).set (a - 1) (jad G a, e) = jW G ν) (hn : gN ν = gN μ) (hok : jok ν) (h0 : (gS ν 0).2 = (gS μ 0).2) (hI : gI ν 0 = gI μ 0) (he : va_at G.1 vwCl (jad G a, e) H1) (oq : ∀ q : Nat, q ≠ jad G a → H1[q]? = H[q]?) (hz : H1.size = H.size) : jRep G ν U H1 := by
  obtain ⟨hP, hs, hX, -, hb⟩ := hR
  refine ⟨?_, by rw [hz, hn]; exact hs, ?_, hok, hb⟩
  · rw [← hW]
    exact hP.set (jD G μ) (jW_get h1 h2) he oq
  · rw [h0, hI]
    refine hX.kept (oq _ ?_)
    obtain ⟨k, rfl⟩ : ∃ k, a = k + 1 := ⟨a - 1, by omega⟩
    show G.2.2.1 ≠ G.2.2.2 + k
    omega
/-- a cell more: the picture behind it -/
theorem jRep_new {G : jG} {μ : jMem} {t n : Nat} {U : State} {H H1 : Heap} (hR : jRep G μ U H) (ht : t < 13 ∨ (100 ≤ t ∧ t ≤ 105)) (he : va_at G.1 vwCl (G.2.2.2 + gN μ, jcell G (sA μ t n) (gN μ + 1)) H1) (oq : ∀ q : Nat, q < H.size → H1[q]? = H[q]?) (hz : H1.size = H.size + 1) : jRep G (sA μ t n) U H1 := by
  obtain ⟨hP, hs, hX, hok, hb⟩ := hR
  have hw : jW G (sA μ t n) = jW G μ ++ [(G.2.2.2 + gN μ, jcell G (sA μ t n) (gN μ + 1))] := by
    unfold jW
    rw [gN_sA, List.range_succ, List.map_append]
    congr 1
    refine List.map_congr_left fun k hk => ?_
    have hk' := List.mem_range.mp hk
    have hne : k + 1 ≠ gN μ + 1 := by omega
    exact congrArg (fun z => (G.2.2.2 + k, z)) (jcell_eq (fun j => by rw [gI_sA, if_neg hne]) (fun j => by rw [gL_sA, if_neg hne]) (fun j => by rw [gR_sA, if_neg hne]) (by rw [gS_sA, if_neg hne])).symm
  refine ⟨?_, by rw [hz, hs, gN_sA, Nat.add_assoc], ?_, jok_sA hok ht, hb⟩
  · rw [hw]
    refine (hP.kept (fun k q hk => oq _ ((hP k q hk).lt))).app (fun k q hk => ?_)
    have h0 : k < 1 := (List.getElem?_eq_some_iff.mp hk).1
    rw [show k = 0 by omega] at hk
    cases hk
    exact he
  · rw [gS_sA, if_neg (by omega)]
    have : gI (sA μ t n) 0 = gI μ 0 := funext fun j => by rw [gI_sA, if_neg (by omega)]
    rw [this]
    refine hX.kept (oq _ ?_)
    rw [hs]
    exact Nat.lt_of_lt_of_le hb (Nat.le_add_right _ _)
