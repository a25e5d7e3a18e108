/-! ROWS over jRep: fields and arrays -/
theorem jfv_gv (G : jG) (μ : jMem) (t k r : Nat) : jfv G μ t k r = jcv G (jgv (jtk (jty t k)) μ r k) := by
  unfold jfv
  generalize jtk (jty t k) = z
  match z with
  | 0 => rfl
  | 1 => rfl
  | 2 => exact (jcv_rv G _).symm
  | z + 3 => rfl
theorem jnw_fits {ty : FieldType} (v : Option Nat) (h : jtk ty = 2) : narrow ty (va_rf v) = va_rf v ∧ fits ty (va_rf v) = true := by
  cases ty <;> first | (cases v <;> exact ⟨rfl, rfl⟩) | cases h
theorem jnw_int {ty : FieldType} (x : Int32) (h : ty = .int) : narrow ty (.int x) = .int x ∧ fits ty (.int x) = true := by subst h; exact ⟨rfl, rfl⟩
section JRW
variable {G : jG} {μ : jMem} {p : Program} {l : Launch} {e : Env} {R : Room} {s : State} {m : MethodId} {args : Array Value} {below : List Frame} {meth : Method} {c : Code} {H : Heap} {locs : List Loc} {cells slots : Nat} {Q : State → Prop} {cc : ByteArray} {pc : Nat} {LS : Array Slot} {rest : List Value}
theorem jw_get (hx : p.tables.exec = Jvm.exec) (hb : c.code = cc) {own : String} {index ci k r : Nat} (hown : s.vm.findClass own = some m.cls) (hts : ∀ w ∈ jtbl, w.before args s = true) (hK : jK G s) (hR : jRep G μ s H) (hl : jfl own index ci k) (hsh : (gS μ r).1 = ci) (hdg : decode cc pc = .ok (.getfield index, 3))
    (kk : W p l e R s m args below meth c H locs cells slots Q (F0 m (pc + 3) LS (jfv G μ ci k r :: rest))) : W p l e R s m args below meth c H locs cells slots Q (F0 m pc LS (.ref (jad G r) :: rest)) := by
  obtain ⟨⟨C, T, N⟩, hq, hk, hTC, hl⟩ := hl
  have hok := jcls ci _ hq
  obtain ⟨h1, h2⟩ := jok_obj hR.2.2.2.1 hsh hok.2.2.2.2
  have he := jW_get (G := G) h1 h2
  rw [jcell_o hsh hok.2.2.2.2] at he
  have hv := jflds_get (G := G) (μ := μ) (a := r) (t := ci) (k := k) (by rw [← hok.2.2.2.1]; exact hk)
  rcases hl with hl | ⟨host, hl⟩
  · exact va_get (D := G.1) (ref := C) (C := C) (T := T) (N := N) hx hb hts hok.1 hown hK.1 hR.1 (r - 1) he hq k hk (hts _ hl) (fun x hx => by rw [show (T k).1 = C from hTC] at hx; exact hx) hv hdg kk
  · exact va_getN (D := G.1) (ref := C) (C := C) (T := T) (N := N) hx hb hts hok.1 hown hK.1 hR.1 (r - 1) he hq k hk (va_Nw.use rfl (hK.2 _ hl)) (fun x hx => by rw [show (T k).1 = C from hTC] at hx; exact hx) hv hdg kk
def jflp (own : String) (index ci k : Nat) (mn : String) : Prop := ∃ q : vw_C, vwCl[ci]? = some q ∧ k < q.2.2 ∧ (q.2.1 k).1 = q.1 ∧ (((Cond.fieldLink own index q.1 (q.2.1 k).2.1 (q.2.1 k).2.2.1) ∈ jtbl ∧ ((q.2.1 k).2.2.2 = false ∨ ((q.2.1 k).2.2.2 = true ∧ mn = "<init>" ∧ q.1 = own))) ∨ ∃ host, Cond.fieldLinkNest own index q.1 (q.2.1 k).2.1 (q.2.1 k).2.2.1 host ∈ jnest ∧ (q.2.1 k).2.2.2 = false)
theorem jflp_nm {own : String} {i a b : Nat} {x y : String} (h : jflp own i a b x) (hxy : x = "<init>" → y = "<init>") : jflp own i a b y := by
  obtain ⟨q, h1, h2, h3, h4⟩ := h
  refine ⟨q, h1, h2, h3, ?_⟩
  rcases h4 with ⟨h4, h5 | ⟨h5, h6, h7⟩⟩ | h4
  · exact Or.inl ⟨h4, Or.inl h5⟩
  · exact Or.inl ⟨h4, Or.inr ⟨h5, hxy h6, h7⟩⟩
  · exact Or.inr h4
theorem jw_put (hx : p.tables.exec = Jvm.exec) (hb : c.code = cc) {own : String} {index ci k r : Nat} (hown : s.vm.findClass own = some m.cls) (hts : ∀ w ∈ jtbl, w.before args s = true) (hK : jK G s) (hR : jRep G μ s H) (hl : jflp own index ci k meth.name) (hsh : (gS μ r).1 = ci) {v : Value} (hn : narrow (jty ci k) v = v) (hfit : fits (jty ci k) v = true) (hdg : decode cc pc = .ok (.putfield index, 3))
    (kk : ∀ (H1 : Heap) (z : Nat), va_at G.1 vwCl (jad G r, .inr (ci, (jflds G μ r ci).set k v)) H1 → H1.size = H.size → (∀ q : Nat, q ≠ jad G r → H1[q]? = H[q]?) → 1 ≤ r ∧ r ≤ gN μ → W p l e R s m args below meth c H1 (locs ++ [⟨jad G r, z⟩]) cells slots Q (F0 m (pc + 3) LS rest)) : W p l e R s m args below meth c H locs cells slots Q (F0 m pc LS (v :: .ref (jad G r) :: rest)) := by
  obtain ⟨⟨C, T, N⟩, hq, hk, hTC, hl⟩ := hl
  obtain ⟨hin, hty, hnm, hN, hci⟩ := jcls ci _ hq
  obtain ⟨b1, b2⟩ := jok_obj hR.2.2.2.1 hsh hci
  have he := jW_get (G := G) b1 b2
  rw [jcell_o hsh hci] at he
  have hlen : k < (jflds G μ r ci).length := by rw [jflds_len, ← hN]; exact hk
  have hap := va_apart (own := own) hts hin (jty ci) hty hnm hK.1 hq
  obtain ⟨w, h1, cell, q1, q2, q3, q4⟩ := hR.1 (r - 1) _ he
  have hw : w = (C, T, N) := Option.some.inj (h1.symm.trans hq)
  subst hw
  obtain ⟨hS, hfc, kC, hkC, hkind⟩ := hK.1.1 ci _ hq
  obtain ⟨cf, kf, fi, f, hi, hsl⟩ := hS k hk
  have hlay := hts _ (hin _ (u_in_lay hk))
  unfold u_lay at hlay
  have hst := (u_facts hfc hkC (u_lays hts hin hk) hi).1
  have hi' : s.fieldFound? C (T k).2.1 (T k).2.2.1 = some (cf, kf, fi, f) := by rw [show (T k).1 = C from hTC] at hi; exact hi
  have fin : ∀ (H1 : Heap), H1[jad G r]? = some (cell.setSlot (G.1.2 ci k) v) → va_at G.1 vwCl (jad G r, .inr (ci, (jflds G μ r ci).set k v)) H1 := fun H1 e1 =>
    ⟨_, hq, t_OB.to (V := updV (vp_V (jflds G μ r ci)) k v) ⟨_, e1, q2, q3, t_set q4 hap hk v⟩ (fun j _ => vp_updV_set hlen v j)⟩
  have hhas : f.slot < cell.slots.size := by rw [hsl]; exact k2_hasslot (q4 k hk)
  rcases hl with ⟨hl, hf | ⟨hf, hin2, hdecl⟩⟩ | ⟨host, hl, hf⟩
  · rw [if_neg (by rw [show (T k).2.2.2 = false from hf]; decide)] at hlay
    have h6 := u_store hfc hkC hkind hlay hi (hty k hk) hn hfit
    refine W.putK hx hb (f := f) ⟨hown, hts _ hl, ⟨_, _, _, hi'⟩, hst⟩ (by rw [q2]; exact h6) q1 q3 hhas rfl rfl hdg fun H' e1 e2 e3 => ?_
    rw [hsl] at e1
    exact kk H' _ (fin H' e1) e2 e3 ⟨b1, b2⟩
  · rw [if_pos hf] at hlay
    have hcf : m.cls = cf := by
      obtain ⟨_, _, c', _, _, _, -, -, hf', -, -, -, hown2, -⟩ := Cond.laysFinal_spec hlay
      have e1 : c' = cf := by have := hi.symm.trans hf'; simp at this; exact this.1.symm
      rw [show (T k).1 = C from hTC, show C = own from hdecl] at hown2
      rw [← e1]; exact Option.some.inj (hown.symm.trans hown2)
    have h6 := u_fits hfc hkC hkind (Or.inr hlay) hi (hty k hk) hn hfit
    refine W.putFinK hx hb hown (hts _ hl) hi' hst hcf hin2 (by rw [q2]; exact h6) q1 q3 hhas rfl rfl hdg fun H' e1 e2 e3 => ?_
    rw [hsl] at e1
    exact kk H' _ (fin H' e1) e2 e3 ⟨b1, b2⟩
  · rw [if_neg (by rw [show (T k).2.2.2 = false from hf]; decide)] at hlay
    have h6 := u_store hfc hkC hkind hlay hi (hty k hk) hn hfit
    refine va_WputK hx hb (f := f) hown (va_Nw.use rfl (hK.2 _ hl)) hi' hst (by rw [q2]; exact h6) q1 q3 hhas rfl rfl hdg fun H' e1 e2 e3 => ?_
    rw [hsl] at e1
    exact kk H' _ (fin H' e1) e2 e3 ⟨b1, b2⟩
/-- an array's cell in the world -/
theorem jw_arr {r t n : Nat} {ty : FieldType} (hR : jRep G μ s H) (hK : jK G s) (hsh : gS μ r = (t, n)) (h0 : r ≠ 0) (ht : 100 ≤ t ∧ t ≤ 105) (hty : (jtys G)[t - 100]? = some (G.2.1 (t - 100), ty)) : (1 ≤ r ∧ r ≤ gN μ) ∧ (jW G μ)[r - 1]? = some (jad G r, .inl (G.2.1 (t - 100), jarr G μ r t n)) ∧ H[jad G r]? = some (vp_cell (G.2.1 (t - 100)) (jarr G μ r t n)) ∧ ArrOfT s (G.2.1 (t - 100)) ty := by
  have h12 := jok_lt hR.2.2.2.1 (show (gS μ r).1 = t by rw [hsh]) (by omega) h0
  have he := jW_get (G := G) h12.1 h12.2
  rw [jcell_a (show (gS μ r).1 = t by rw [hsh]) ht.1, hsh] at he
  exact ⟨h12, he, hR.1 _ _ he, (hK.1.2 _ _ hty).1⟩

theorem jw_iald0 (hx : p.tables.exec = Jvm.exec) (hb : c.code = cc) {r n : Nat} (hK : jK G s) (hR : jRep G μ s H) (hsh : gS μ r = (100, n)) (h0 : r ≠ 0) {i : Int32} (hin : vp_in i n) (hdg : decode cc pc = .ok (.iaload, 1))
    (kk : W p l e R s m args below meth c H locs cells slots Q (F0 m (pc + 1) LS (.int (gI μ r i.toNatClampNeg) :: rest))) : W p l e R s m args below meth c H locs cells slots Q (F0 m pc LS (.int i :: .ref (jad G r) :: rest)) := by
  obtain ⟨-, he, -, -⟩ := jw_arr (ty := .int) hR hK hsh h0 (by decide) rfl
  exact va_iald (D := G.1) hx hb hK.1 hR.1 (r - 1) 0 he (show (jtys G)[0]? = some (G.2.1 0, .int) from rfl) hin hdg kk
theorem jw_lald (hx : p.tables.exec = Jvm.exec) (hb : c.code = cc) {r n : Nat} (hK : jK G s) (hR : jRep G μ s H) (hsh : gS μ r = (101, n)) (h0 : r ≠ 0) {i : Int32} (hin : vp_in i n) (hdg : decode cc pc = .ok (.laload, 1))
    (kk : W p l e R s m args below meth c H locs cells slots Q (F0 m (pc + 1) LS (.long (gL μ r i.toNatClampNeg) :: rest))) : W p l e R s m args below meth c H locs cells slots Q (F0 m pc LS (.int i :: .ref (jad G r) :: rest)) := by
  obtain ⟨-, he, -, -⟩ := jw_arr (ty := .long) hR hK hsh h0 (by decide) rfl
  exact va_lald (D := G.1) hx hb hK.1 hR.1 (r - 1) 1 he (show (jtys G)[1]? = some (G.2.1 1, .long) from rfl) hin hdg kk
theorem jw_bald (hx : p.tables.exec = Jvm.exec) (hb : c.code = cc) {r n : Nat} (hK : jK G s) (hR : jRep G μ s H) (hsh : gS μ r = (102, n)) (h0 : r ≠ 0) {i : Int32} (hin : vp_in i n) (hdg : decode cc pc = .ok (.baload, 1))
    (kk : W p l e R s m args below meth c H locs cells slots Q (F0 m (pc + 1) LS (.int (gI μ r i.toNatClampNeg) :: rest))) : W p l e R s m args below meth c H locs cells slots Q (F0 m pc LS (.int i :: .ref (jad G r) :: rest)) := by
  obtain ⟨-, he, -, -⟩ := jw_arr (ty := .byte) hR hK hsh h0 (by decide) rfl
  exact va_bald (D := G.1) hx hb hK.1 hR.1 (r - 1) 2 he (show (jtys G)[2]? = some (G.2.1 2, .byte) from rfl) hin hdg kk
theorem jw_zald (hx : p.tables.exec = Jvm.exec) (hb : c.code = cc) {r n : Nat} (hK : jK G s) (hR : jRep G μ s H) (hsh : gS μ r = (103, n)) (h0 : r ≠ 0) {i : Int32} (hin : vp_in i n) (hdg : decode cc pc = .ok (.baload, 1))
    (kk : W p l e R s m args below meth c H locs cells slots Q (F0 m (pc + 1) LS (.int (gI μ r i.toNatClampNeg) :: rest))) : W p l e R s m args below meth c H locs cells slots Q (F0 m pc LS (.int i :: .ref (jad G r) :: rest)) := by
  obtain ⟨-, he, -, -⟩ := jw_arr (ty := .boolean) hR hK hsh h0 (by decide) rfl
  exact va_zald (D := G.1) hx hb hK.1 hR.1 (r - 1) 3 he (show (jtys G)[3]? = some (G.2.1 3, .boolean) from rfl) hin hdg kk
theorem jw_iald (hx : p.tables.exec = Jvm.exec) (hb : c.code = cc) {r n : Nat} (hK : jK G s) (hR : jRep G μ s H) (hS : va_S (jA G) s.heap H locs) (hsz : G.2.2.2 ≤ s.heap.size) (hsh : gS μ r = (100, n)) {i : Int32} (hin : vp_in i n) (hdg : decode cc pc = .ok (.iaload, 1))
    (kk : W p l e R s m args below meth c H locs cells slots Q (F0 m (pc + 1) LS (.int (gI μ r i.toNatClampNeg) :: rest))) : W p l e R s m args below meth c H locs cells slots Q (F0 m pc LS (.int i :: .ref (jad G r) :: rest)) := by
  by_cases h0 : r = 0
  · subst h0
    have hX := hR.2.2.1
    rw [hsh] at hX
    have hXH : va_X G.2.2.1 n (gI μ 0) s H := hX
    obtain ⟨scr, h1, h2, h3, h4, h5⟩ := hXH
    have hlt : i.toNatClampNeg < n := Nat.not_le.mp fun q => hin (Or.inr q)
    exact W.iald hx hb h1 h2 h3 (by rw [h4]; exact hin) (h5 _ hlt) rfl rfl hdg kk
  · exact jw_iald0 hx hb hK hR hsh h0 hin hdg kk
theorem jw_alen (hx : p.tables.exec = Jvm.exec) (hb : c.code = cc) {r : Nat} (hK : jK G s) (hR : jRep G μ s H) (ht : 100 ≤ (gS μ r).1 ∧ (gS μ r).1 ≤ 105) (hdg : decode cc pc = .ok (.arraylength, 1))
    (kk : W p l e R s m args below meth c H locs cells slots Q (F0 m (pc + 1) LS (.int (Int32.ofNat (gS μ r).2) :: rest))) : W p l e R s m args below meth c H locs cells slots Q (F0 m pc LS (.ref (jad G r) :: rest)) := by
  by_cases h0 : r = 0
  · subst h0
    obtain ⟨scr, h1, h2, h3, h4, h5⟩ := hR.2.2.1
    exact W.alen hx hb h1 h2 (by rw [h4]) rfl rfl hdg kk
  · obtain ⟨t, n, hsh⟩ : ∃ t n, gS μ r = (t, n) := ⟨_, _, rfl⟩
    rw [hsh] at ht kk
    have ht : 100 ≤ t ∧ t ≤ 105 := ht
    obtain ⟨ty, hty⟩ : ∃ ty, (jtys G)[t - 100]? = some (G.2.1 (t - 100), ty) := by
      obtain ⟨j, rfl⟩ : ∃ j, t = 100 + j := ⟨t - 100, by omega⟩
      have hj : j = 0 ∨ j = 1 ∨ j = 2 ∨ j = 3 ∨ j = 4 ∨ j = 5 := by omega
      rcases hj with rfl | rfl | rfl | rfl | rfl | rfl <;> exact ⟨_, rfl⟩
    obtain ⟨-, he, -, -⟩ := jw_arr hR hK hsh h0 ht hty
    refine va_alen (D := G.1) hx hb hK.1 hR.1 (r - 1) (t - 100) he hty ?_ hdg kk
    unfold jarr
    split <;> rfl
theorem jw_aald4 (hx : p.tables.exec = Jvm.exec) (hb : c.code = cc) {r n : Nat} (hK : jK G s) (hR : jRep G μ s H) (hsh : gS μ r = (104, n)) (h0 : r ≠ 0) {i : Int32} (hin : vp_in i n) (hdg : decode cc pc = .ok (.aaload, 1))
    (kk : W p l e R s m args below meth c H locs cells slots Q (F0 m (pc + 1) LS (va_rf ((gR μ r i.toNatClampNeg).map (jad G)) :: rest))) : W p l e R s m args below meth c H locs cells slots Q (F0 m pc LS (.int i :: .ref (jad G r) :: rest)) := by
  obtain ⟨-, -, hH, hA⟩ := jw_arr (ty := .array .int) hR hK hsh h0 (by decide) rfl
  have hH : H[jad G r]? = some (arrV (G.2.1 4) n (fun j => va_rf ((gR μ r j).map (jad G)))) := hH
  have hlt : i.toNatClampNeg < n := Nat.not_le.mp fun q => hin (Or.inr q)
  exact W.aald (v := va_rf ((gR μ r i.toNatClampNeg).map (jad G))) (ty := .array .int) hx hb hH (hA n (fun j => va_rf ((gR μ r j).map (jad G)))) rfl (fun q => by cases q) (by show ¬ (i < 0 ∨ (arrV _ _ _).slots.size ≤ _); rw [arrV_size]; exact hin) (by show (arrV _ _ _).slots[_]? = _; rw [arrV_read _ _ hlt]) rfl rfl hdg kk
theorem jw_aald5 (hx : p.tables.exec = Jvm.exec) (hb : c.code = cc) {r n : Nat} (hK : jK G s) (hR : jRep G μ s H) (hsh : gS μ r = (105, n)) (h0 : r ≠ 0) {i : Int32} (hin : vp_in i n) (hdg : decode cc pc = .ok (.aaload, 1))
    (kk : W p l e R s m args below meth c H locs cells slots Q (F0 m (pc + 1) LS (va_rf ((gR μ r i.toNatClampNeg).map (jad G)) :: rest))) : W p l e R s m args below meth c H locs cells slots Q (F0 m pc LS (.int i :: .ref (jad G r) :: rest)) := by
  obtain ⟨-, -, hH, hA⟩ := jw_arr (ty := .array .long) hR hK hsh h0 (by decide) rfl
  have hH : H[jad G r]? = some (arrV (G.2.1 5) n (fun j => va_rf ((gR μ r j).map (jad G)))) := hH
  have hlt : i.toNatClampNeg < n := Nat.not_le.mp fun q => hin (Or.inr q)
  exact W.aald (v := va_rf ((gR μ r i.toNatClampNeg).map (jad G))) (ty := .array .long) hx hb hH (hA n (fun j => va_rf ((gR μ r j).map (jad G)))) rfl (fun q => by cases q) (by show ¬ (i < 0 ∨ (arrV _ _ _).slots.size ≤ _); rw [arrV_size]; exact hin) (by show (arrV _ _ _).slots[_]? = _; rw [arrV_read _ _ hlt]) rfl rfl hdg kk
theorem jw_iast (hx : p.tables.exec = Jvm.exec) (hb : c.code = cc) {r n : Nat} (hK : jK G s) (hR : jRep G μ s H) (hsh : gS μ r = (100, n)) (h0 : r ≠ 0) {i : Int32} {x : Int32} (hin : vp_in i n) (hdg : decode cc pc = .ok (.iastore, 1))
    (kk : ∀ (H1 : Heap) (z : Nat), va_at G.1 vwCl (jad G r, .inl (G.2.1 0, (n, .inl (upd (gI μ r) i.toNatClampNeg x)))) H1 → H1.size = H.size → (∀ q : Nat, q ≠ jad G r → H1[q]? = H[q]?) → 1 ≤ r ∧ r ≤ gN μ → W p l e R s m args below meth c H1 (locs ++ [⟨jad G r, z⟩]) cells slots Q (F0 m (pc + 1) LS rest)) : W p l e R s m args below meth c H locs cells slots Q (F0 m pc LS (.int x :: .int i :: .ref (jad G r) :: rest)) := by
  obtain ⟨h12, he, hH, hA⟩ := jw_arr (ty := .int) hR hK hsh h0 (by decide) rfl
  have hH : H[jad G r]? = some (arrV (G.2.1 0) n (fun j => .int (gI μ r j))) := hH
  refine W.iast hx hb hH (hA n (fun j => .int (gI μ r j))) (fun q => by cases q) (by show ¬ (i < 0 ∨ (arrV _ _ _).slots.size ≤ _); rw [arrV_size]; exact hin) rfl rfl hdg fun H1 e z oq => kk H1 _ ?_ z oq h12
  show H1[jad G r]? = some (vp_cell _ _)
  rw [e]
  show some ((arrV (G.2.1 0) n fun j => .int (gI μ r j)).setSlot i.toNatClampNeg (.int x)) = some (vp_cell (G.2.1 0) (n, .inl (upd (gI μ r) i.toNatClampNeg x)))
  rw [vp_cell_i, arrV_store]
  congr 2
  funext q
  by_cases hq : q = i.toNatClampNeg
  · subst hq
    simp [updV, upd]
  · simp [updV, upd, hq]
theorem jw_last (hx : p.tables.exec = Jvm.exec) (hb : c.code = cc) {r n : Nat} (hK : jK G s) (hR : jRep G μ s H) (hsh : gS μ r = (101, n)) (h0 : r ≠ 0) {i : Int32} {x : Int64} (hin : vp_in i n) (hdg : decode cc pc = .ok (.lastore, 1))
    (kk : ∀ (H1 : Heap) (z : Nat), va_at G.1 vwCl (jad G r, .inl (G.2.1 1, (n, .inr (.inl (vp_updL (gL μ r) i.toNatClampNeg x))))) H1 → H1.size = H.size → (∀ q : Nat, q ≠ jad G r → H1[q]? = H[q]?) → 1 ≤ r ∧ r ≤ gN μ → W p l e R s m args below meth c H1 (locs ++ [⟨jad G r, z⟩]) cells slots Q (F0 m (pc + 1) LS rest)) : W p l e R s m args below meth c H locs cells slots Q (F0 m pc LS (.long x :: .int i :: .ref (jad G r) :: rest)) := by
  obtain ⟨h12, he, hH, hA⟩ := jw_arr (ty := .long) hR hK hsh h0 (by decide) rfl
  have hH : H[jad G r]? = some (arrV (G.2.1 1) n (fun j => .long (gL μ r j))) := hH
  refine W.last hx hb hH (hA n (fun j => .long (gL μ r j))) (fun q => by cases q) (by show ¬ (i < 0 ∨ (arrV _ _ _).slots.size ≤ _); rw [arrV_size]; exact hin) rfl rfl hdg fun H1 e z oq => kk H1 _ ?_ z oq h12
  show H1[jad G r]? = some (vp_cell _ _)
  rw [e]
  show some ((arrV (G.2.1 1) n fun j => .long (gL μ r j)).setSlot i.toNatClampNeg (.long x)) = some (vp_cell (G.2.1 1) (n, .inr (.inl (vp_updL (gL μ r) i.toNatClampNeg x))))
  rw [vp_cell_l, arrV_store]
  congr 2
  funext q
  by_cases hq : q = i.toNatClampNeg
  · subst hq
    simp [updV, vp_updL]
  · simp [updV, vp_updL, hq]
theorem jw_bast (hx : p.tables.exec = Jvm.exec) (hb : c.code = cc) {r n : Nat} (hK : jK G s) (hR : jRep G μ s H) (hsh : gS μ r = (102, n)) (h0 : r ≠ 0) {i : Int32} {x : Int32} (hin : vp_in i n) (hnar : x.toInt8.toInt32 = x) (hdg : decode cc pc = .ok (.bastore, 1))
    (kk : ∀ (H1 : Heap) (z : Nat), va_at G.1 vwCl (jad G r, .inl (G.2.1 2, (n, .inl (upd (gI μ r) i.toNatClampNeg x)))) H1 → H1.size = H.size → (∀ q : Nat, q ≠ jad G r → H1[q]? = H[q]?) → 1 ≤ r ∧ r ≤ gN μ → W p l e R s m args below meth c H1 (locs ++ [⟨jad G r, z⟩]) cells slots Q (F0 m (pc + 1) LS rest)) : W p l e R s m args below meth c H locs cells slots Q (F0 m pc LS (.int x :: .int i :: .ref (jad G r) :: rest)) := by
  obtain ⟨h12, he, hH, hA⟩ := jw_arr (ty := .byte) hR hK hsh h0 (by decide) rfl
  have hH : H[jad G r]? = some (arrV (G.2.1 2) n (fun j => .int (gI μ r j))) := hH
  refine W.bast hx hb hH (hA n (fun j => .int (gI μ r j))) (fun q => by cases q) (by show ¬ (i < 0 ∨ (arrV _ _ _).slots.size ≤ _); rw [arrV_size]; exact hin) rfl rfl hdg fun H1 e z oq => kk H1 _ ?_ z oq h12
  show H1[jad G r]? = some (vp_cell _ _)
  rw [e]
  have hz : narrow .byte (.int x) = .int x := by show Value.int x.toInt8.toInt32 = _; rw [hnar]
  rw [hz]
  show some ((arrV (G.2.1 2) n fun j => .int (gI μ r j)).setSlot i.toNatClampNeg (.int x)) = some (vp_cell (G.2.1 2) (n, .inl (upd (gI μ r) i.toNatClampNeg x)))
  rw [vp_cell_i, arrV_store]
  congr 2
  funext q
  by_cases hq : q = i.toNatClampNeg
  · subst hq
    simp [updV, upd]
  · simp [updV, upd, hq]
theorem jw_zast (hx : p.tables.exec = Jvm.exec) (hb : c.code = cc) {r n : Nat} (hK : jK G s) (hR : jRep G μ s H) (hsh : gS μ r = (103, n)) (h0 : r ≠ 0) {i : Int32} {x : Int32} (hin : vp_in i n) (hnar : narrow .boolean (.int x) = .int x) (hdg : decode cc pc = .ok (.bastore, 1))
    (kk : ∀ (H1 : Heap) (z : Nat), va_at G.1 vwCl (jad G r, .inl (G.2.1 3, (n, .inl (upd (gI μ r) i.toNatClampNeg x)))) H1 → H1.size = H.size → (∀ q : Nat, q ≠ jad G r → H1[q]? = H[q]?) → 1 ≤ r ∧ r ≤ gN μ → W p l e R s m args below meth c H1 (locs ++ [⟨jad G r, z⟩]) cells slots Q (F0 m (pc + 1) LS rest)) : W p l e R s m args below meth c H locs cells slots Q (F0 m pc LS (.int x :: .int i :: .ref (jad G r) :: rest)) := by
  obtain ⟨h12, he, hH, hA⟩ := jw_arr (ty := .boolean) hR hK hsh h0 (by decide) rfl
  have hH : H[jad G r]? = some (arrV (G.2.1 3) n (fun j => .int (gI μ r j))) := hH
  refine W.zast hx hb hH (hA n (fun j => .int (gI μ r j))) (fun q => by cases q) (by show ¬ (i < 0 ∨ (arrV _ _ _).slots.size ≤ _); rw [arrV_size]; exact hin) rfl rfl hdg fun H1 e z oq => kk H1 _ ?_ z oq h12
  show H1[jad G r]? = some (vp_cell _ _)
  rw [e]
  rw [hnar]
  show some ((arrV (G.2.1 3) n fun j => .int (gI μ r j)).setSlot i.toNatClampNeg (.int x)) = some (vp_cell (G.2.1 3) (n, .inl (upd (gI μ r) i.toNatClampNeg x)))
  rw [vp_cell_i, arrV_store]
  congr 2
  funext q
  by_cases hq : q = i.toNatClampNeg
  · subst hq
    simp [updV, upd]
  · simp [updV, upd, hq]
end JRW
