/-! THE JUDGEMENTS. jC d n as μ Q: method n with arguments as over memory μ returns, in d frames below its own, with Q of answer and memory; jR d n pc ..: so from the middle of it -/
abbrev jQ : Type := Option Value → jMem → Prop
def jctx (d n : Nat) (G : jG) (p : Program) (R : Room) (s : State) (m : MethodId) (args : Array Value) (meth : Method) (c : Code) : Prop :=
  p.tables.exec = Jvm.exec ∧ c.code = jmB n ∧ c.maxLocals = jmX n ∧ s.vm.findClass (jmO n) = some m.cls ∧ (∀ w ∈ jtbl, w.before args s = true) ∧ jK G s ∧ G.2.2.2 ≤ s.heap.size ∧ ((jmY n).name = "<init>" → meth.name = "<init>") ∧ d ≤ R.frames ∧ 64 * d ≤ R.locals ∧ jmC n ≤ R.cells ∧ jmS n ≤ R.slots
def jret (n pc : Nat) (r : Option Value) : Prop := match r with
  | some (.int x) => decode (jmB n) pc = .ok (.ireturn, 1) ∧ ∃ ty, jmR n = some ty ∧ narrow ty (.int x) = .int x
  | some (.long _) => decode (jmB n) pc = .ok (.lreturn, 1) ∧ jmR n = some .long
  | none => decode (jmB n) pc = .ok (.return_, 1) ∧ jmR n = none
  | _ => False
def jend (n : Nat) (G : jG) (p : Program) (l : Launch) (e : Env) (R : Room) (s : State) (m : MethodId) (args : Array Value) (below : List Frame) (meth : Method) (c : Code) (Q : jQ) (Z : State → Prop) : Prop :=
  ∀ (H : Heap) (locs : List Loc) (LS : Array Slot) (pc : Nat) (r : Option Value) (μ : jMem), Q r μ → jRep G μ s H → va_S (jA G) s.heap H locs → jret n pc r → W p l e R s m args below meth c H locs (jmC n) (jmS n) Z (F0 m pc LS (r.toList.map (jcv G)))
def jR (d n pc : Nat) (ls : List (Option Value)) (stk : List Value) (al : Nat × Nat) (μ : jMem) (Q : jQ) : Prop :=
  ∀ (G : jG) (p : Program) (l : Launch) (e : Env) (R : Room) (s : State) (m : MethodId) (args : Array Value) (below : List Frame) (meth : Method) (c : Code) (Z : State → Prop), jctx d n G p R s m args meth c → jend n G p l e R s m args below meth c Q Z →
    ∀ (H : Heap) (locs : List Loc) (LS : Array Slot), jloc G LS (jmX n) ls → jRep G μ s H → va_S (jA G) s.heap H locs → W p l e R s m args below meth c H locs al.1 al.2 Z (F0 m pc LS (stk.map (jcv G)))
def jroom (d n : Nat) : Room := { frames := d, cells := jmC n, slots := jmS n, locals := 64 * d }
def jws (n : Nat) : List Cond := .code (jmY n) (jmB n) (jmX n) (jmR n) :: jtbl
def jPc (as : List Value) (μ : jMem) (G : jG) : Array Value → State → Prop := va_Pc (as.map (jcv G)) (fun U => jK G U ∧ jRep G μ U U.heap)
def jQc (Q : jQ) (G : jG) : Array Value → State → Outcome → State → Prop := fun _ st o t => (∃ (r : Option Value) (ν : jMem), o = .returned (r.map (jcv G)) ∧ Q r ν ∧ jRep G ν t t.heap) ∧ va_F (jA G) st t
def jC (d n : Nat) (as : List Value) (μ : jMem) (Q : jQ) : Prop := ∀ (l : Launch) (G : jG), Met l (jmY n) (jws n) (jroom d n) (jPc as μ G) (jQc Q G) (jmC n) (jmS n) (jA G)
theorem jR_post {d n pc : Nat} {ls : List (Option Value)} {stk : List Value} {al : Nat × Nat} {μ : jMem} {Q Q' : jQ} (h : jR d n pc ls stk al μ Q) (hq : ∀ r ν, Q r ν → Q' r ν) : jR d n pc ls stk al μ Q' :=
  fun G p l e R s m args below meth c Z hc he H locs LS hl hR hS => h G p l e R s m args below meth c Z hc (fun H locs LS pc r ν hQ => he H locs LS pc r ν (hq r ν hQ)) H locs LS hl hR hS
theorem jC_post {d n : Nat} {as : List Value} {μ : jMem} {Q Q' : jQ} (h : jC d n as μ Q) (hq : ∀ r ν, Q r ν → Q' r ν) : jC d n as μ Q' := by
  intro l G p e ha hc hk s m args below hf hs hP hZ
  obtain ⟨k, o, h1, h2, h3, ⟨⟨r, ν, hv, hQ, hR⟩, hF⟩, h4⟩ := h l G p e ha hc hk s m args below hf hs hP hZ
  exact ⟨k, o, h1, h2, h3, ⟨⟨r, ν, hv, hq r ν hQ, hR⟩, hF⟩, h4⟩
/-! a method from its start -/
theorem jent_sl : ∀ (as : List Value), (∀ v ∈ as, ∀ x, v ≠ .double x) → (lg_sl as).length = (jent as).length
  | [], _ => rfl
  | v :: t, h => by
    have ih := jent_sl t (fun w hw => h w (List.mem_cons_of_mem _ hw))
    have e : lg_sl (v :: t) = (if v.category = 2 then [.val v, .second] else [.val v]) ++ lg_sl t := by simp [lg_sl]
    rw [e]
    cases v with
    | double x => exact absurd rfl (h (.double x) List.mem_cons_self x)
    | long x => simp [Value.category, jent, ih]
    | _ => simp [Value.category, jent, ih]
theorem jent_args (G : jG) : ∀ (as : List Value) (i : Nat), (∀ v ∈ as, ∀ x, v ≠ .double x) → ∀ q, q ∈ jasc G i (jent as) → q ∈ lv_args i (as.map (jcv G))
  | [], _, _, q, hq => by simp [jent, jasc] at hq
  | v :: t, i, h, q, hq => by
    have ih := fun j => jent_args G t j (fun w hw => h w (List.mem_cons_of_mem _ hw))
    rw [List.map_cons, lv_args]
    cases v with
    | double x => exact absurd rfl (h (.double x) List.mem_cons_self x)
    | long x =>
      rw [jent, jasc, jasc, List.mem_cons] at hq
      rcases hq with rfl | hq
      · exact List.mem_cons_self
      · exact List.mem_cons_of_mem _ (ih (i + 2) q hq)
    | _ =>
      rw [jent, jasc, List.mem_cons] at hq
      · rcases hq with rfl | hq
        · exact List.mem_cons_self
        · exact List.mem_cons_of_mem _ (ih (i + 1) q hq)
      · intro y hy; cases hy
theorem jasc_pad {G : jG} {n i : Nat} {ls : List (Option Value)} {q : Nat × Value} (h : q ∈ jasc G i (jpad n ls)) : q ∈ jasc G i ls := by
  obtain ⟨k, v, h1, h2, h3⟩ := jasc_mem.mp h
  refine jasc_mem.mpr ⟨k, v, h1, ?_, h3⟩
  unfold jpad at h2
  by_cases hk : k < ls.length
  · rwa [List.getElem?_append_left hk] at h2
  · rw [List.getElem?_append_right (by omega), List.getElem?_replicate] at h2
    split at h2 <;> simp at h2
theorem jC_in {d n k : Nat} {as : List Value} {μ : jMem} {Q : jQ} (hc : jcal n k) (hd : (∀ v ∈ as, ∀ x, v ≠ .double x) ∧ (jent as).length ≤ jmX n ∧ plainName (jmY n).cls = true) (ho : jmO n = (jmY n).cls) (h : jR d n 0 (jpad (jmX n) (jent as)) [] (0, 0) μ Q) : jC d n as μ Q := by
  intro l G
  refine Met.ofW (cc := jmB n) (maxL := jmX n) (ret := jmR n) hd.2.2 rfl ?_
  intro p e s m args below meth c s₁ B hml hv
  obtain ⟨rfl, hK, hR⟩ := hv
  have hts0 := atoms_spec (ws := jws n) B.pre
  have hts : ∀ w ∈ jtbl, w.before (as.map (jcv G)).toArray s = true := fun w hw => hts0 w (List.mem_cons_of_mem _ hw)
  have hown : s.vm.findClass (jmO n) = some m.cls := by rw [ho]; exact findClass_of_methodNamed B.named
  have hln : (lg_sl (as.map (jcv G))).length = (jent as).length := by
    have e : (lg_sl (as.map (jcv G))).length = (lg_sl as).length := by
      unfold lg_sl
      rw [List.length_flatMap, List.length_flatMap, List.map_map]
      congr 1
      refine List.map_congr_left fun v _ => ?_
      show (if (jcv G v).category = 2 then _ else _ : List Slot).length = _
      rw [jcv_cat]
      split <;> rfl
    rw [e, jent_sl as hd.1]
  have hl := lv_entry (as.map (jcv G)) (n := jmX n) (by rw [hln]; exact hd.2.1)
  rw [lg_entry_eq]
  refine h G p l e _ s m _ below meth c _ ⟨B.exec, B.bytes, hml, hown, hts, hK, by rw [hR.2.1]; exact Nat.le_add_right _ _, (fun hq => (name_of_methodNamed B.named B.method).1.trans hq), Nat.le_refl _, Nat.le_refl _, Nat.le_refl _, Nat.le_refl _⟩ ?_ s.heap [] _ ⟨lv_less hl (fun q hq => jent_args G as 0 hd.1 q (jasc_pad hq)), by unfold jpad; rw [List.length_append, List.length_replicate]; omega⟩ hR va_S.rf
  intro H locs LS pc r ν hQ hRe hS hret
  have hq : ∀ t : State, t.heap = H → s.WarmedH t.vm → jQc Q G (as.map (jcv G)).toArray s (.returned (r.map (jcv G))) t := fun t ht hW => ⟨⟨r, ν, rfl, hQ, by rw [ht]; exact hRe.moved hW.alike⟩, hS.F ht⟩
  match r, hret, hq with
  | some (.int x), ⟨hd1, ty, h1, h2⟩, hq => exact W.zret (v := x) B.exec B.bytes (B.returns.trans h1) h2 hq hS.2.2 hd1 B.notSynchronized
  | some (.long x), ⟨hd1, h1⟩, hq => exact W.lret (v := x) B.exec B.bytes (B.returns.trans h1) hq hS.2.2 hd1 B.notSynchronized
  | none, ⟨hd1, h1⟩, hq => exact W.vret B.exec B.bytes (B.returns.trans h1) hq hS.2.2 hd1 B.notSynchronized

