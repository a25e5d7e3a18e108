/-! ALLOCATION -/
theorem jdef_ok : ∀ ci, ci < 13 → ∀ k, k < jnf ci → defaultValue (jty ci k) = (match jtk (jty ci k) with | 1 => .long 0 | 2 => .null | _ => .int 0) := by decide +kernel
theorem jtys_arr {G : jG} {s : State} (hK : jK G s) {k : Nat} {ty : FieldType} (h : (jtys G)[k]? = some (G.2.1 k, ty)) : va_RA s (G.2.1 k) ty := (hK.1.2 _ _ h).2
section JAL
variable {G : jG} {μ : jMem} {p : Program} {l : Launch} {e : Env} {R : Room} {s : State} {m : MethodId} {args : Array Value} {below : List Frame} {meth : Method} {c : Code} {H : Heap} {locs : List Loc} {cells slots : Nat} {Q : State → Prop} {cc : ByteArray} {pc : Nat} {LS : Array Slot} {rest : List Value}
theorem jw_new (hx : p.tables.exec = Jvm.exec) (hb : c.code = cc) {own : String} {index ci : Nat} {q : vw_C} (hown : s.vm.findClass own = some m.cls) (hts : ∀ w ∈ jtbl, w.before args s = true) (hK : jK G s) (hR : jRep G μ s H) (hq : vwCl[ci]? = some q) (h1 : Cond.classLink own index q.1 ∈ jtbl) (h2 : Cond.instantiable q.1 q.2.2 ∈ jtbl) (h3 : Cond.initialized q.1 ∈ jtbl) (hcells : cells + 1 ≤ R.cells) (hslots : slots + q.2.2 ≤ R.slots) (hdg : decode cc pc = .ok (.new index, 3))
    (kk : ∀ H1 : Heap, jRep G (sA μ ci q.2.2) s H1 → (∀ x : Nat, x < H.size → H1[x]? = H[x]?) → H.size ≤ H1.size → W p l e R s m args below meth c H1 locs (cells + 1) (slots + q.2.2) Q (F0 m (pc + 3) LS (.ref (jad G (gN μ + 1)) :: rest))) : W p l e R s m args below meth c H locs cells slots Q (F0 m pc LS rest) := by
  obtain ⟨C, T, N⟩ := q
  obtain ⟨hin, hty, -, hN, hci⟩ := jcls ci _ hq
  have hKn := hK.1.1 ci _ hq
  refine W.newcK hx hb hown (hts _ h1) (hts _ h2) (hts _ h3) rfl hdg hcells hslots hKn.2.1 rfl fun H1 kC hkC e1 z1 o1 => ?_
  have had : H.size = jad G (gN μ + 1) := hR.2.1
  have hne : ∀ (t n : Nat), gS (sA μ t n) (gN μ + 1) = (t, n) := fun t n => by rw [gS_sA, if_pos rfl]
  have hRe : jRep G (sA μ ci N) s H1 := by
    refine jRep_new hR (Or.inl hci) ?_ o1 z1
    rw [jcell_o (t := ci) (by rw [hne]) hci]
    refine ⟨_, hq, (u_born (ty := jty ci) hts hin hKn hkC (by rw [← hR.2.1]; exact e1) hty).to (fun k hk => ?_)⟩
    have hk' : k < jnf ci := by rw [← hN]; exact hk
    show _ = (jflds G (sA μ ci N) (gN μ + 1) ci).getD k .null
    rw [List.getD_eq_getElem?_getD, jflds_get hk', Option.getD_some, jdef_ok ci hci k hk']
    unfold jfv
    rw [gI_sA, gL_sA, gR_sA, if_pos rfl, if_pos rfl, if_pos rfl]
    rfl
  have := kk H1 hRe o1 (by omega)
  rw [← had] at this
  exact this
theorem jw_newa (hx : p.tables.exec = Jvm.exec) (hb : c.code = cc) {atype : ArrayType} {t k : Nat} (hts : ∀ w ∈ jtbl, w.before args s = true) (hK : jK G s) (hR : jRep G μ s H) (ht : 100 ≤ t ∧ t ≤ 103) (hty : (jtys G)[t - 100]? = some (G.2.1 (t - 100), newarray.typeOf atype)) (hnm : va_RA s (G.2.1 (t - 100)) (newarray.typeOf atype) → s.vm.findClass ("[" ++ (newarray.typeOf atype).toString) = some (G.2.1 (t - 100))) (hdv : defaultValue (newarray.typeOf atype) = if t = 101 then .long 0 else .int 0) (hcb : componentBytes (newarray.typeOf atype) ≤ 8) (ha : Cond.arrayClass (newarray.typeOf atype) ∈ jtbl) (hk : k < 100000) (hcells : cells + 1 ≤ R.cells) (hslots : slots + k ≤ R.slots) (hdg : decode cc pc = .ok (.newarray atype, 2))
    (kk : ∀ H1 : Heap, jRep G (sA μ t k) s H1 → (∀ x : Nat, x < H.size → H1[x]? = H[x]?) → H.size ≤ H1.size → W p l e R s m args below meth c H1 locs (cells + 1) (slots + k) Q (F0 m (pc + 2) LS (.ref (jad G (gN μ + 1)) :: rest))) : W p l e R s m args below meth c H locs cells slots Q (F0 m pc LS (.int (Int32.ofNat k) :: rest)) := by
  refine va_newaK hx hb (hts _ ha) rfl hdg (n := Int32.ofNat k) (N := k) rfl (fun q => ?_) ?_ ?_ hcells hslots rfl fun H1 cA e1 z1 o1 hAr hNm => ?_
  · exact nI_pos (n := k) (by omega) q
  · exact nI_clamp (n := k) (by omega)
  · have := Nat.mul_le_mul_left k hcb
    omega
  have hcA : cA = G.2.1 (t - 100) := Option.some.inj (hNm.symm.trans (hnm (jtys_arr hK hty)))
  subst hcA
  have had : H.size = jad G (gN μ + 1) := hR.2.1
  have hne : gS (sA μ t k) (gN μ + 1) = (t, k) := by rw [gS_sA, if_pos rfl]
  have hRe : jRep G (sA μ t k) s H1 := by
    refine jRep_new hR (Or.inr ⟨ht.1, by omega⟩) ?_ o1 z1
    rw [jcell_a (t := t) (by rw [hne]) ht.1, hne]
    show H1[G.2.2.2 + gN μ]? = some (vp_cell _ _)
    rw [← hR.2.1, e1, hdv]
    have gi : ∀ j, gI (sA μ t k) (gN μ + 1) j = 0 := fun j => by rw [gI_sA, if_pos rfl]
    have gl : ∀ j, gL (sA μ t k) (gN μ + 1) j = 0 := fun j => by rw [gL_sA, if_pos rfl]
    have hj : t = 100 ∨ t = 101 ∨ t = 102 ∨ t = 103 := by omega
    rcases hj with rfl | rfl | rfl | rfl
    · show _ = some (arrV _ k (fun j => .int (gI _ _ j))); simp [gi]
    · show _ = some (arrV _ k (fun j => .long (gL _ _ j))); simp [gl]
    · show _ = some (arrV _ k (fun j => .int (gI _ _ j))); simp [gi]
    · show _ = some (arrV _ k (fun j => .int (gI _ _ j))); simp [gi]
  have := kk H1 hRe o1 (by omega)
  rw [← had] at this
  exact this
end JAL
/-! the rows of an array of arrays -/
theorem jmulf_N (μ : jMem) (b k : Nat) : ∀ i, gN (jmulf μ b k i) = gN μ + i
  | 0 => rfl
  | i + 1 => by rw [jmulf, gN_sA, jmulf_N μ b k i]; omega
theorem jmulf_S (μ : jMem) (b k x : Nat) : ∀ i, gS (jmulf μ b k i) x = if gN μ < x ∧ x ≤ gN μ + i then (b, k) else gS μ x
  | 0 => by rw [jmulf, if_neg (by omega)]
  | i + 1 => by
    rw [jmulf, gS_sA, jmulf_S μ b k x i, jmulf_N]
    by_cases h : x = gN μ + i + 1
    · rw [if_pos h, if_pos (by omega)]
    · rw [if_neg h]
      by_cases h2 : gN μ < x ∧ x ≤ gN μ + i
      · rw [if_pos h2, if_pos (by omega)]
      · rw [if_neg h2, if_neg (by omega)]
theorem jmulf_I (μ : jMem) (b k x j : Nat) : ∀ i, gI (jmulf μ b k i) x j = if gN μ < x ∧ x ≤ gN μ + i then 0 else gI μ x j
  | 0 => by rw [jmulf, if_neg (by omega)]
  | i + 1 => by
    rw [jmulf, gI_sA, jmulf_I μ b k x j i, jmulf_N]
    by_cases h : x = gN μ + i + 1
    · rw [if_pos h, if_pos (by omega)]
    · rw [if_neg h]
      by_cases h2 : gN μ < x ∧ x ≤ gN μ + i
      · rw [if_pos h2, if_pos (by omega)]
      · rw [if_neg h2, if_neg (by omega)]
theorem jmulf_L (μ : jMem) (b k x j : Nat) : ∀ i, gL (jmulf μ b k i) x j = if gN μ < x ∧ x ≤ gN μ + i then 0 else gL μ x j
  | 0 => by rw [jmulf, if_neg (by omega)]
  | i + 1 => by
    rw [jmulf, gL_sA, jmulf_L μ b k x j i, jmulf_N]
    by_cases h : x = gN μ + i + 1
    · rw [if_pos h, if_pos (by omega)]
    · rw [if_neg h]
      by_cases h2 : gN μ < x ∧ x ≤ gN μ + i
      · rw [if_pos h2, if_pos (by omega)]
      · rw [if_neg h2, if_neg (by omega)]
theorem jmulf_R (μ : jMem) (b k x j : Nat) : ∀ i, gR (jmulf μ b k i) x j = if gN μ < x ∧ x ≤ gN μ + i then none else gR μ x j
  | 0 => by rw [jmulf, if_neg (by omega)]
  | i + 1 => by
    rw [jmulf, gR_sA, jmulf_R μ b k x j i, jmulf_N]
    by_cases h : x = gN μ + i + 1
    · rw [if_pos h, if_pos (by omega)]
    · rw [if_neg h]
      by_cases h2 : gN μ < x ∧ x ≤ gN μ + i
      · rw [if_pos h2, if_pos (by omega)]
      · rw [if_neg h2, if_neg (by omega)]
theorem jmul_N (μ : jMem) (a b i k : Nat) : gN (jmul μ a b i k) = gN μ + 1 + i := by
  show gN (jmulf (sA μ a i) b k i) = _
  rw [jmulf_N, gN_sA]
theorem jmul_S (μ : jMem) (a b i k x : Nat) : gS (jmul μ a b i k) x = if gN μ + 1 < x ∧ x ≤ gN μ + 1 + i then (b, k) else if x = gN μ + 1 then (a, i) else gS μ x := by
  show gS (jmulf (sA μ a i) b k i) x = _
  rw [jmulf_S, gN_sA, gS_sA]
theorem jmul_I (μ : jMem) (a b i k x j : Nat) : gI (jmul μ a b i k) x j = if gN μ < x ∧ x ≤ gN μ + 1 + i then 0 else gI μ x j := by
  show gI (jmulf (sA μ a i) b k i) x j = _
  rw [jmulf_I, gN_sA, gI_sA]
  by_cases h : x = gN μ + 1
  · rw [if_neg (by omega), if_pos h, if_pos (by omega)]
  · rw [if_neg h]
    by_cases h2 : gN μ + 1 < x ∧ x ≤ gN μ + 1 + i
    · rw [if_pos h2, if_pos (by omega)]
    · rw [if_neg h2, if_neg (by omega)]
theorem jmul_L (μ : jMem) (a b i k x j : Nat) : gL (jmul μ a b i k) x j = if gN μ < x ∧ x ≤ gN μ + 1 + i then 0 else gL μ x j := by
  show gL (jmulf (sA μ a i) b k i) x j = _
  rw [jmulf_L, gN_sA, gL_sA]
  by_cases h : x = gN μ + 1
  · rw [if_neg (by omega), if_pos h, if_pos (by omega)]
  · rw [if_neg h]
    by_cases h2 : gN μ + 1 < x ∧ x ≤ gN μ + 1 + i
    · rw [if_pos h2, if_pos (by omega)]
    · rw [if_neg h2, if_neg (by omega)]
theorem jmul_R (μ : jMem) (a b i k x j : Nat) : gR (jmul μ a b i k) x j = if x = gN μ + 1 then (if j < i then some (gN μ + 2 + j) else none) else if gN μ < x ∧ x ≤ gN μ + 1 + i then none else gR μ x j := by
  show (if x = gN μ + 1 then (if j < i then some (gN μ + 1 + 1 + j) else none) else gR (jmulf (sA μ a i) b k i) x j) = _
  by_cases h : x = gN μ + 1
  · rw [if_pos h, if_pos h]
  · rw [if_neg h, if_neg h, jmulf_R, gN_sA, gR_sA, if_neg h]
    by_cases h2 : gN μ + 1 < x ∧ x ≤ gN μ + 1 + i
    · rw [if_pos h2, if_pos (by omega)]
    · rw [if_neg h2, if_neg (by omega)]
theorem jouter (c : ClassId) (N h0 : Nat) : ∀ i : Nat, Jvm.Free.Multi.outerC c N h0 i = arrV c N (fun j => va_rf (if j < i then some (h0 + 1 + j) else none))
  | 0 => by
    show ({ cls := c, slots := Array.replicate N .null, vm := .none } : Cell) = _
    rw [arrV_new]
    refine congrArg (arrV c N) (funext fun j => ?_)
    simp [va_rf]
  | i + 1 => by
    show (Jvm.Free.Multi.outerC c N h0 i).setSlot i (.ref (h0 + 1 + i)) = _
    rw [jouter c N h0 i, arrV_store]
    refine congrArg (arrV c N) (funext fun j => ?_)
    by_cases e : j = i
    · subst e
      simp [updV, va_rf]
    · by_cases h : j < i
      · simp [updV, e, h, Nat.lt_succ_of_lt h]
      · simp [updV, e, h, show ¬ j < i + 1 by omega]
section JMU
variable {G : jG} {μ : jMem} {p : Program} {l : Launch} {e : Env} {R : Room} {s : State} {m : MethodId} {args : Array Value} {below : List Frame} {meth : Method} {c : Code} {H : Heap} {locs : List Loc} {cells slots : Nat} {Q : State → Prop} {cc : ByteArray} {pc : Nat} {LS : Array Slot} {rest : List Value}
theorem jw_mul (hx : p.tables.exec = Jvm.exec) (hb : c.code = cc) {own : String} {index a b i k : Nat} {ty : FieldType} (hown : s.vm.findClass own = some m.cls) (hts : ∀ w ∈ jtbl, w.before args s = true) (hK : jK G s) (hR : jRep G μ s H) (hab : (a = 104 ∧ b = 100 ∧ ty = .int) ∨ (a = 105 ∧ b = 101 ∧ ty = .long)) (hcl : Cond.classLink own index ("[" ++ (FieldType.array ty).toString) ∈ jtbl) (hov : (Cond.arrayOver (.array ty)).before args s = true) (har : Cond.arrayClass ty ∈ jtbl) (hi : i < 1000) (hk : k < 1000) (hcells : cells + 1 + i ≤ R.cells) (hslots : slots + i + i * k ≤ R.slots) (hdg : decode cc pc = .ok (.multianewarray index 2, 4))
    (kk : ∀ H1 : Heap, jRep G (jmul μ a b i k) s H1 → (∀ x : Nat, x < H.size → H1[x]? = H[x]?) → H.size ≤ H1.size → W p l e R s m args below meth c H1 locs (cells + 1 + i) (slots + i + i * k) Q (F0 m (pc + 4) LS (.ref (jad G (gN μ + 1)) :: rest))) : W p l e R s m args below meth c H locs cells slots Q (F0 m pc LS (.int (Int32.ofNat k) :: .int (Int32.ofNat i) :: rest)) := by
  intro T hT Xs
  have ci : (Int32.ofNat i).toNatClampNeg = i := nI_clamp (n := i) (by omega)
  have ck : (Int32.ofNat k).toNatClampNeg = k := nI_clamp (n := k) (by omega)
  have hty : ty = .int ∨ ty = .long := by rcases hab with ⟨-, -, h⟩ | ⟨-, -, h⟩ <;> simp [h]
  have hcb : componentBytes ty ≤ 8 := by rcases hty with rfl | rfl <;> decide
  obtain ⟨vm₁, cA, comp, -, fA, fC, hO, -, X', step⟩ := Xs.multianewarray2F hx hown (hts _ hcl) hov (hts _ har) (g := F0 m pc LS (.int (Int32.ofNat k) :: .int (Int32.ofNat i) :: rest)) rfl (by rw [hb]; exact hdg) rfl (nI_pos (n := i) (by omega)) (nI_pos (n := k) (by omega)) (by rw [ci]; omega) (by rw [ck]; have := Nat.mul_le_mul_left k hcb; omega) (by rw [ck]; omega) (by rcases hty with rfl | rfl <;> rfl) (by rcases hty with rfl | rfl <;> rfl) (by rw [ci]; omega) (by rw [ci, ck]; omega)
  rw [ci, ck] at X' step
  generalize hF : Jvm.Free.Multi.fill (T.setVm vm₁) cA comp i k (defaultValue ty) i = F at X' step
  have hTh : (T.setVm vm₁).heap = H := hT
  obtain ⟨f1, f2, -, -⟩ := Jvm.Free.Multi.fill_facts (T.setVm vm₁) cA comp i k (defaultValue ty) i
  rw [hF, hTh] at f1 f2
  have hold : ∀ x : Nat, x < H.size → F.heap[x]? = H[x]? := fun x hx => by
    have := Jvm.Free.Multi.fill_old (T.setVm vm₁) cA comp i k (defaultValue ty) (a := x) (by rw [hTh]; exact hx) i
    rw [hF, hTh] at this
    exact this
  have hrow : ∀ j : Nat, j < i → F.heap[H.size + 1 + j]? = some (Jvm.Free.Multi.innerC comp k (defaultValue ty)) := fun j hj => by
    have := Jvm.Free.Multi.fill_inner (T.setVm vm₁) cA comp i k (defaultValue ty) i j hj
    rw [hF, hTh] at this
    exact this
  rw [jouter] at f2
  have hH : H.size = G.2.2.2 + gN μ := hR.2.1
  have hz : ∀ x, x ≤ gN μ → jcell G (jmul μ a b i k) x = jcell G μ x := fun x hx => jcell_eq (fun j => by rw [jmul_I, if_neg (by omega)]) (fun j => by rw [jmul_L, if_neg (by omega)]) (fun j => by rw [jmul_R, if_neg (by omega), if_neg (by omega)]) (by rw [jmul_S, if_neg (by omega), if_neg (by omega)])
  have eA : cA = G.2.1 (a - 100) := by
    rcases hab with ⟨rfl, rfl, rfl⟩ | ⟨rfl, rfl, rfl⟩
    · exact Option.some.inj (fA.symm.trans (jtys_arr (k := 4) hK rfl))
    · exact Option.some.inj (fA.symm.trans (jtys_arr (k := 5) hK rfl))
  have eC : comp = G.2.1 (b - 100) := by
    rcases hab with ⟨rfl, rfl, rfl⟩ | ⟨rfl, rfl, rfl⟩
    · exact Option.some.inj (fC.symm.trans (jtys_arr (k := 0) hK rfl))
    · exact Option.some.inj (fC.symm.trans (jtys_arr (k := 1) hK rfl))
  subst eA
  subst eC
  have hRe : jRep G (jmul μ a b i k) s F.heap := by
    refine ⟨fun j q hj => ?_, by rw [f1, jmul_N, hH]; omega, ?_, ⟨?_, fun x hx => ?_⟩, hR.2.2.2.2⟩
    · obtain ⟨hj1, rfl⟩ := jW_at hj
      rw [jmul_N] at hj1
      by_cases h1 : j < gN μ
      · rw [hz (j + 1) (by omega)]
        have := hR.1 (j + 1 - 1) _ (jW_get (G := G) (μ := μ) (a := j + 1) (by omega) (by omega))
        exact this.kept (hold _ (by rw [hH]; exact Nat.add_lt_add_left h1 _))
      · by_cases h2 : j = gN μ
        · subst h2
          rw [jcell_a (t := a) (by rw [jmul_S, if_neg (by omega), if_pos rfl]) (by omega), jmul_S, if_neg (by omega), if_pos rfl]
          show F.heap[G.2.2.2 + gN μ]? = some (vp_cell _ _)
          rw [← hH, f2]
          have hf : (fun j => (gR (jmul μ a b i k) (gN μ + 1) j).map (jad G)) = (fun j => if j < i then some (H.size + 1 + j) else none) := funext fun j => by
            rw [jmul_R, if_pos rfl, hH]
            by_cases h : j < i
            · rw [if_pos h, if_pos h, Option.map_some]
              exact congrArg some (by rw [show gN μ + 2 + j = (gN μ + 1 + j) + 1 by omega]; show G.2.2.2 + (gN μ + 1 + j) = _; omega)
            · rw [if_neg h, if_neg h]; rfl
          rcases hab with ⟨rfl, rfl, rfl⟩ | ⟨rfl, rfl, rfl⟩
          · show _ = some (arrV _ i (fun j => va_rf ((fun j => (gR _ _ j).map (jad G)) j))); rw [hf]
          · show _ = some (arrV _ i (fun j => va_rf ((fun j => (gR _ _ j).map (jad G)) j))); rw [hf]
        · have hS : gS (jmul μ a b i k) (j + 1) = (b, k) := by rw [jmul_S, if_pos (by omega)]
          rw [jcell_a (t := b) (by rw [hS]) (by omega), hS]
          obtain ⟨x, rfl⟩ : ∃ x, j = gN μ + 1 + x := ⟨j - gN μ - 1, by omega⟩
          show F.heap[G.2.2.2 + (gN μ + 1 + x)]? = some (vp_cell _ _)
          rw [show G.2.2.2 + (gN μ + 1 + x) = H.size + 1 + x by omega, hrow x (by omega)]
          have gi : ∀ j, gI (jmul μ a b i k) (gN μ + 1 + x + 1) j = 0 := fun j => by rw [jmul_I, if_pos (by omega)]
          have gl : ∀ j, gL (jmul μ a b i k) (gN μ + 1 + x + 1) j = 0 := fun j => by rw [jmul_L, if_pos (by omega)]
          rcases hab with ⟨rfl, rfl, rfl⟩ | ⟨rfl, rfl, rfl⟩
          · show some ({ cls := _, slots := Array.replicate k (.int 0), vm := .none } : Cell) = some (arrV _ k (fun j => .int (gI _ _ j)))
            simp only [gi]
            rw [arrV_new]
          · show some ({ cls := _, slots := Array.replicate k (.long 0), vm := .none } : Cell) = some (arrV _ k (fun j => .long (gL _ _ j)))
            simp only [gl]
            rw [arrV_new]
    · have g0 : gI (jmul μ a b i k) 0 = gI μ 0 := funext fun j => by rw [jmul_I, if_neg (by omega)]
      rw [jmul_S, if_neg (by omega), if_neg (by omega), g0]
      refine hR.2.2.1.kept (hold _ ?_)
      have := hR.2.2.2.2
      omega
    · rw [jmul_S, if_neg (by omega), if_neg (by omega)]
      exact hR.2.2.2.1.1
    · rw [jmul_N]
      rw [jmul_S] at hx ⊢
      split at hx
      · rename_i h; rw [if_pos h]; exact ⟨h.2, by omega⟩
      · rename_i h; rw [if_neg h]
        split at hx
        · rename_i h; rw [if_pos h]; exact ⟨by omega, by omega⟩
        · rename_i h; rw [if_neg h]
          have := hR.2.2.2.1.2 x hx
          exact ⟨by omega, this.2⟩
  obtain ⟨t, a1, b1⟩ := kk F.heap hRe hold (by rw [f1]; omega) F rfl X'
  refine ⟨t, step t ?_, b1⟩
  have e1 : T.heap.size = jad G (gN μ + 1) := by rw [hT]; exact hH
  rw [e1]
  exact a1
end JMU
