section JSQ
variable {d n pc a b c : Nat} {v : Value} {ls : List (Option Value)} {stk : List Value} {al : Nat × Nat} {μ : jMem} {Q : jQ}
theorem jcat (G : jG) (s : List Value) : ((s.map (jcv G)).map fun v => v.category).sum = (s.map Value.category).sum := by
  rw [List.map_map]
  congr 1
  exact List.map_congr_left fun v _ => jcv_cat G v
/-- behind a call: the rest of the walk -/
theorem jback {G : jG} {p : Program} {l : Launch} {e : Env} {R : Room} {s0 : State} {m : MethodId} {args : Array Value} {below : List Frame} {meth : Method} {c0 : Code} {Z : State → Prop} (hc : jctx d n G p R s0 m args meth c0) (he : jend n G p l e R s0 m args below meth c0 Q Z) {H : Heap} {locs : List Loc} {LS : Array Slot} (hl : jloc G LS (jmX n) ls) (hS : va_S (jA G) s0.heap H locs) {mc ms : Nat} {st0 s : List Value} {ar : Array Value} {al' : Nat × Nat} (hal : al' = (al.1 + mc, al.2 + ms))
    (hr : va_Run p l e R s0 m args below meth c0 H locs al.1 al.2 mc ms (F0 m pc LS (st0.map (jcv G))) (s.map (jcv G)) (jQc (fun w ν => jR d n (pc + 3) ls (w.toList ++ s) al' ν Q) G ar) (jA G)) : W p l e R s0 m args below meth c0 H locs al.1 al.2 Z (F0 m pc LS (st0.map (jcv G))) := by
  intro T hT X
  obtain ⟨w, st₀, t, T', L, h0, X', hL, e1, e2, ⟨⟨r, ν, hv, hQ, hRe⟩, hz, hk⟩, st⟩ := hr T hT X
  cases hv
  rw [h0] at hz hk
  have hRe' : jRep G ν s0 T'.heap := by
    have h1 : jRep G ν t T'.heap := by rw [e1]; exact hRe
    exact h1.moved (by rw [← e2]; exact X'.warmed.alike.symm)
  have hS' : va_S (jA G) s0.heap T'.heap (locs ++ L) := ⟨Nat.le_trans hS.1 (by rw [e1]; exact hz), fun q h1 h2 => by rw [e1, hk q (Nat.lt_of_lt_of_le h1 hS.1) h2]; exact hS.2.1 q h1 h2, fun q hq => by
      rcases List.mem_append.mp hq with h | h
      · exact hS.2.2 q h
      · exact hL q h⟩
  subst hal
  obtain ⟨t2, a1, b1⟩ := hQ G p l e R s0 m args below meth c0 Z hc he T'.heap (locs ++ L) LS hl hRe' hS' T' rfl X'
  refine ⟨t2, st t2 ?_, b1⟩
  have e3 : (r.toList ++ s).map (jcv G) = (r.map (jcv G)).toList ++ s.map (jcv G) := by cases r <;> simp
  rw [← e3]
  exact a1
theorem jpre {G : jG} {s0 : State} {H : Heap} {as : List Value} (hK : jK G s0) (hR : jRep G μ s0 H) : ∀ U : State, U.heap = H → s0.WarmedH U.vm → jPc as μ G (as.map (jcv G)).toArray U := fun U hU hW => ⟨rfl, jK.moved hW hK, by rw [hU]; exact hR.moved hW.alike⟩
theorem jcb {k : Nat} {R : Room} {s : State} {args : Array Value} {i d' : Nat} (hts : ∀ w ∈ jtbl, w.before args s = true) (hcal : jcal a k) (hlink : (Cond.methodLink (jmO n) i (jmY a)).before args s = true) (hf : d' + 1 ≤ R.frames) (hlo : 64 * (d' + 1) ≤ R.locals) : CallB R s args (jmO n) i (jmY a) (jmB a) (jmX a) (jmR a) (jws a) (jroom d' a) (jmC a) (jmS a) k :=
  callB_of k hts (jgood a k hcal) rfl rfl rfl (hts _ hcal.2.2.2.1) hlink hcal.2.1 ⟨hf, by have := hcal.2.2.2.2; show 8 + (jmX a + 11) + 64 * d' ≤ _; omega⟩
theorem jo_virtual {i : Nat} (hd : decode (jmB n) pc = .ok (.invokevirtual i, 3)) (hk : jx_lk n pc (.invokevirtual i) a b c v) (h : jpop b [] stk (fun as s => j1r s (fun r s => ((gS μ r).1 = c ∧ (s.map Value.category).sum ≤ 8 ∧ al.1 ≤ jmC n ∧ al.2 ≤ jmS n) ∧ jcl d a (.ref r :: as) μ (fun v ν => jR d n (pc + 3) ls (v.toList ++ s) al ν Q)))) : jR d n pc ls stk al μ Q := by
  obtain ⟨hcal, hlink, ⟨q, hq, hqc⟩, hC, hM⟩ := (show jcalV a b ∧ jml (jmO n) i a ∧ (∃ q : vw_C, vwCl[c]? = some q ∧ q.1 = (jmY a).cls) ∧ jmC a = 0 ∧ jmS a = 0 from hk)
  obtain ⟨as, s', hlen, rfl, h8⟩ := jpop_inv h
  obtain ⟨r, s, rfl, ⟨hsh, hcat, ha1, ha2⟩, h7⟩ := j1r_inv h8
  rw [List.append_nil] at h7
  cases d with
  | zero => exact h7.elim
  | succ d =>
    intro G p l e R s0 m args below meth c0 Z hc he H locs LS hl hR hS
    have hh := hc
    obtain ⟨hx, hb, hml, hown, hts, hK, hsz, hnm, hfr, hlo, hce, hsl⟩ := hh
    have hM1 := (show jC d a (.ref r :: as) μ _ from h7) l G
    have hb12 := jok_obj hR.2.2.2.1 hsh (jcls c q hq).2.2.2.2
    have hcell := jW_get (G := G) hb12.1 hb12.2
    rw [jcell_o hsh (jcls c q hq).2.2.2.2] at hcell
    have hrec := va_recv hK.1 hR.1 hq hcell
    rw [hqc] at hrec
    have hrun := va_runV (e := e) (below := below) (meth := meth) (As := as.map (jcv G)) (rest := s.map (jcv G)) (b := jad G r) (n := b) (C := (jmY a).cls) (g := F0 m pc LS ((as.reverse ++ .ref r :: s).map (jcv G))) (H := H) (locs := locs) (cells := al.1) (slots := al.2) ⟨hx, hb, hml, hown, hts⟩ hM1
      ⟨jcb hts hcal.1 (hts _ hlink) hfr hlo, hts _ hcal.2.1, hts _ hcal.2.2⟩ ⟨jblind, hrec, jpre hK hR⟩ rfl (by rw [List.length_map]; exact hlen) (by show LS.size = _; exact hl.1.1) (by show List.map _ _ = _; simp [jcv]) (lv_room (by rw [jcat]; exact hcat)) hd (by rw [hC, hM]; exact ⟨Nat.le_trans ha1 hce, Nat.le_trans ha2 hsl⟩)
    exact jback (al := al) (al' := al) hc he hl hS (by rw [hC, hM]; rfl) hrun
theorem jo_static {i : Nat} (hd : decode (jmB n) pc = .ok (.invokestatic i, 3)) (hk : jcalS a b ∧ jml (jmO n) i a ∧ jmC a = 0 ∧ jmS a = 0) (h : jpop b [] stk (fun as s => ((s.map Value.category).sum ≤ 8 ∧ al.1 ≤ jmC n ∧ al.2 ≤ jmS n) ∧ jcl d a as μ (fun v ν => jR d n (pc + 3) ls (v.toList ++ s) al ν Q))) : jR d n pc ls stk al μ Q := by
  obtain ⟨hcal, hlink, hC, hM⟩ := hk
  obtain ⟨as, s, hlen, rfl, ⟨hcat, ha1, ha2⟩, h7⟩ := jpop_inv h
  rw [List.append_nil] at h7
  cases d with
  | zero => exact h7.elim
  | succ d =>
    intro G p l e R s0 m args below meth c0 Z hc he H locs LS hl hR hS
    have hh := hc
    obtain ⟨hx, hb, hml, hown, hts, hK, hsz, hnm, hfr, hlo, hce, hsl⟩ := hh
    have hM1 := (show jC d a as μ _ from h7) l G
    have hrun := va_runS (e := e) (below := below) (meth := meth) (As := as.map (jcv G)) (rest := s.map (jcv G)) (n := b) (g := F0 m pc LS ((as.reverse ++ s).map (jcv G))) (H := H) (locs := locs) (cells := al.1) (slots := al.2) ⟨hx, hb, hml, hown, hts⟩ hM1
      ⟨jcb hts hcal.1 (hts _ hlink) hfr hlo, hts _ hcal.2⟩ ⟨jblind, jpre hK hR⟩ rfl (by rw [List.length_map]; exact hlen) (by show LS.size = _; exact hl.1.1) (by show List.map _ _ = _; simp) (lv_room (by rw [jcat]; exact hcat)) hd (by rw [hC, hM]; exact ⟨Nat.le_trans ha1 hce, Nat.le_trans ha2 hsl⟩)
    exact jback (al := al) (al' := al) hc he hl hS (by rw [hC, hM]; rfl) hrun
theorem jo_special {i : Nat} (hd : decode (jmB n) pc = .ok (.invokespecial i, 3)) (hk : jcalI a b ∧ (jml (jmO n) i a ∨ jmlN (jmO n) i a) ∧ jmR a = none) (h : jpop b [] stk (fun as s => j1r s (fun r s => ((s.map Value.category).sum ≤ 8 ∧ al.1 + jmC a ≤ jmC n ∧ al.2 + jmS a ≤ jmS n) ∧ jcl d a (.ref r :: as) μ (fun v ν => jR d n (pc + 3) ls (v.toList ++ s) (al.1 + jmC a, al.2 + jmS a) ν Q)))) : jR d n pc ls stk al μ Q := by
  obtain ⟨hcal, hlink, hret⟩ := hk
  obtain ⟨as, s', hlen, rfl, h8⟩ := jpop_inv h
  obtain ⟨r, s, rfl, ⟨hcat, ha1, ha2⟩, h7⟩ := j1r_inv h8
  rw [List.append_nil] at h7
  cases d with
  | zero => exact h7.elim
  | succ d =>
    intro G p l e R s0 m args below meth c0 Z hc he H locs LS hl hR hS
    have hh := hc
    obtain ⟨hx, hb, hml, hown, hts, hK, hsz, hnm, hfr, hlo, hce, hsl⟩ := hh
    have hM1 := (show jC d a (.ref r :: as) μ _ from h7) l G
    have hp : PreS s0 H (jPc (.ref r :: as) μ G) (.ref (jad G r) :: as.map (jcv G)) := ⟨jblind, jpre (as := .ref r :: as) hK hR⟩
    rcases hlink with hlink | ⟨host, hlink⟩
    · have hcb := jcb (R := R) hts hcal.1 (hts _ hlink) hfr hlo
      rw [hret] at hcb
      have hrun := va_runI (e := e) (below := below) (meth := meth) (As := as.map (jcv G)) (rest := s.map (jcv G)) (b := jad G r) (n := b) (g := F0 m pc LS ((as.reverse ++ .ref r :: s).map (jcv G))) (H := H) (locs := locs) (cells := al.1) (slots := al.2) ⟨hx, hb, hml, hown, hts⟩ hM1
        ⟨hcb, hcal.2.2, hts _ hcal.2.1⟩ hp rfl (by rw [List.length_map]; exact hlen) (by show LS.size = _; exact hl.1.1) (by show List.map _ _ = _; simp [jcv]) (lv_room (by rw [jcat]; exact hcat)) hd ⟨Nat.le_trans ha1 hce, Nat.le_trans ha2 hsl⟩
      exact jback (al := al) hc he hl hS rfl hrun
    · have hcb := va_cnB (R := R) (bytes := jmB a) (maxL := jmX a) (ret := jmR a) (ws := jws a) (ws' := jtbl) (rm := jroom d a) (mc := jmC a) (ms := jmS a) b hts (jgood a b hcal.1) rfl rfl rfl (hK.2 _ hlink) (hts _ hcal.1.2.2.2.1) hcal.1.2.1 ⟨hfr, by have := hcal.1.2.2.2.2; show 8 + (jmX a + 11) + 64 * d ≤ _; omega⟩
      rw [hret] at hcb
      have hrun := va_runIN (e := e) (below := below) (meth := meth) (As := as.map (jcv G)) (rest := s.map (jcv G)) (b := jad G r) (n := b) (g := F0 m pc LS ((as.reverse ++ .ref r :: s).map (jcv G))) (H := H) (locs := locs) (cells := al.1) (slots := al.2) ⟨hx, hb, hml, hown, hts⟩ hM1
        ⟨hcb, hcal.2.2, hts _ hcal.2.1⟩ hp rfl (by rw [List.length_map]; exact hlen) (by show LS.size = _; exact hl.1.1) (by show List.map _ _ = _; simp [jcv]) (lv_room (by rw [jcat]; exact hcat)) hd ⟨Nat.le_trans ha1 hce, Nat.le_trans ha2 hsl⟩
      exact jback (al := al) hc he hl hS rfl hrun
theorem jo_objinit {i : Nat} (hd : decode (jmB n) pc = .ok (.invokespecial i, 3)) (hk : Cond.methodLink (jmO n) i objectInit ∈ jtbl) (h : j1r stk (fun _ s => (s.map Value.category).sum ≤ 8 ∧ 1 ≤ d ∧ jR d n (pc + 3) ls s al μ Q)) : jR d n pc ls stk al μ Q := by
  obtain ⟨r, s, rfl, hcat, h1, h⟩ := j1r_inv h
  intro G p l e R s0 m args below meth c0 Z hc he H locs LS hl hR hS
  have hh := hc
  obtain ⟨hx, hb, hml, hown, hts, hK, hsz, hnm, hfr, hlo, hce, hsl⟩ := hh
  refine W.objInit hx hb hown (hts _ hk) (hts _ jwoi.1) (hts _ jwoi.2) rfl (by rw [hml]; exact hl.1.1) rfl hd (Nat.le_trans h1 hfr) ?_ ?_
  · have := lv_room (m := m) (pc := pc) (ls := LS) (rest := (.ref r :: s).map (jcv G)) (st := s.map (jcv G)) (by rw [jcat]; exact hcat)
    omega
  · exact h G p l e R s0 m args below meth c0 Z hc he H locs LS hl hR hS

theorem jo_mmax {i : Nat} (hd : decode (jmB n) pc = .ok (.invokestatic i, 3)) (hk : Cond.methodLink (jmO n) i Lib.Math.max.name ∈ jtbl ∧ Cond.static Lib.Math.max.name ∈ jtbl ∧ Cond.code Lib.Math.max.name Lib.Math.max.code 2 (some .int) ∈ jtbl) (h : j2i stk (fun x y s => (s.map Value.category).sum ≤ 8 ∧ 1 ≤ d ∧ (al.1 ≤ jmC n ∧ al.2 ≤ jmS n) ∧ jR d n (pc + 3) ls (.int (if x < y then y else x) :: s) al μ Q)) : jR d n pc ls stk al μ Q := by
  obtain ⟨x, y, s, rfl, hcat, h1, ⟨a1, a2⟩, h⟩ := j2i_inv h
  intro G p l e R s0 m args below meth c0 Z hc he H locs LS hl hR hS
  have hh := hc
  obtain ⟨hx, hb, hml, hown, hts, hK, hsz, hnm, hfr, hlo, hce, hsl⟩ := hh
  exact va_mmax hx hb (by rw [hml]; exact hl.1.1.symm) hown (hts _ hk.1) (hts _ hk.2.1) (hts _ jwm) (hts _ hk.2.2) (by omega) (by rw [jcat]; omega) (by omega) (by omega) hd (h G p l e R s0 m args below meth c0 Z hc he H locs LS hl hR hS)
theorem jo_mmin {i : Nat} (hd : decode (jmB n) pc = .ok (.invokestatic i, 3)) (hk : Cond.methodLink (jmO n) i Lib.Math.min.name ∈ jtbl ∧ Cond.static Lib.Math.min.name ∈ jtbl ∧ Cond.code Lib.Math.min.name Lib.Math.min.code 2 (some .int) ∈ jtbl) (h : j2i stk (fun x y s => (s.map Value.category).sum ≤ 8 ∧ 1 ≤ d ∧ (al.1 ≤ jmC n ∧ al.2 ≤ jmS n) ∧ jR d n (pc + 3) ls (.int (if y < x then y else x) :: s) al μ Q)) : jR d n pc ls stk al μ Q := by
  obtain ⟨x, y, s, rfl, hcat, h1, ⟨a1, a2⟩, h⟩ := j2i_inv h
  intro G p l e R s0 m args below meth c0 Z hc he H locs LS hl hR hS
  have hh := hc
  obtain ⟨hx, hb, hml, hown, hts, hK, hsz, hnm, hfr, hlo, hce, hsl⟩ := hh
  exact va_mmin hx hb (by rw [hml]; exact hl.1.1.symm) hown (hts _ hk.1) (hts _ hk.2.1) (hts _ jwm) (hts _ hk.2.2) (by omega) (by rw [jcat]; omega) (by omega) (by omega) hd (h G p l e R s0 m args below meth c0 Z hc he H locs LS hl hR hS)
theorem jo_mabs {i : Nat} (hd : decode (jmB n) pc = .ok (.invokestatic i, 3)) (hk : Cond.methodLink (jmO n) i Lib.MathLoose.abs_long.x ∈ jtbl ∧ Cond.static Lib.MathLoose.abs_long.x ∈ jtbl ∧ Cond.code Lib.MathLoose.abs_long.x Lib.MathLoose.abs_long.code 2 (some .long) ∈ jtbl) (h : j1l stk (fun x s => (s.map Value.category).sum ≤ 8 ∧ 1 ≤ d ∧ (al.1 ≤ jmC n ∧ al.2 ≤ jmS n) ∧ jR d n (pc + 3) ls (.long (if 0 < x then x else -x) :: s) al μ Q)) : jR d n pc ls stk al μ Q := by
  obtain ⟨x, s, rfl, hcat, h1, ⟨a1, a2⟩, h⟩ := j1l_inv h
  intro G p l e R s0 m args below meth c0 Z hc he H locs LS hl hR hS
  have hh := hc
  obtain ⟨hx, hb, hml, hown, hts, hK, hsz, hnm, hfr, hlo, hce, hsl⟩ := hh
  exact va_mabs_long hx hb (by rw [hml]; exact hl.1.1.symm) hown (hts _ hk.1) (hts _ hk.2.1) (hts _ jwm) (hts _ hk.2.2) (by omega) (by rw [jcat]; omega) (by omega) (by omega) hd (h G p l e R s0 m args below meth c0 Z hc he H locs LS hl hR hS)
theorem jo_mmaxl {i : Nat} (hd : decode (jmB n) pc = .ok (.invokestatic i, 3)) (hk : Cond.methodLink (jmO n) i Lib.MathLoose.max_long.x ∈ jtbl ∧ Cond.static Lib.MathLoose.max_long.x ∈ jtbl ∧ Cond.code Lib.MathLoose.max_long.x Lib.MathLoose.max_long.code 4 (some .long) ∈ jtbl) (h : j2l stk (fun x y s => (s.map Value.category).sum ≤ 8 ∧ 1 ≤ d ∧ (al.1 ≤ jmC n ∧ al.2 ≤ jmS n) ∧ jR d n (pc + 3) ls (.long (if y < x then x else y) :: s) al μ Q)) : jR d n pc ls stk al μ Q := by
  obtain ⟨x, y, s, rfl, hcat, h1, ⟨a1, a2⟩, h⟩ := j2l_inv h
  intro G p l e R s0 m args below meth c0 Z hc he H locs LS hl hR hS
  have hh := hc
  obtain ⟨hx, hb, hml, hown, hts, hK, hsz, hnm, hfr, hlo, hce, hsl⟩ := hh
  exact va_mmax_long hx hb (by rw [hml]; exact hl.1.1.symm) hown (hts _ hk.1) (hts _ hk.2.1) (hts _ jwm) (hts _ hk.2.2) (by omega) (by rw [jcat]; omega) (by omega) (by omega) hd (h G p l e R s0 m args below meth c0 Z hc he H locs LS hl hR hS)
theorem jo_new {i : Nat} (hd : decode (jmB n) pc = .ok (.new i, 3)) (hk : ∃ q : vw_C, vwCl[a]? = some q ∧ q.2.2 = b ∧ Cond.classLink (jmO n) i q.1 ∈ jtbl ∧ Cond.instantiable q.1 q.2.2 ∈ jtbl ∧ Cond.initialized q.1 ∈ jtbl) (h : (al.1 + 1 ≤ jmC n ∧ al.2 + b ≤ jmS n) ∧ jR d n (pc + 3) ls (.ref (gN μ + 1) :: stk) (al.1 + 1, al.2 + b) (sA μ a b) Q) : jR d n pc ls stk al μ Q := by
  obtain ⟨q, hq, rfl, k1, k2, k3⟩ := hk
  obtain ⟨⟨a1, a2⟩, h⟩ := h
  intro G p l e R s0 m args below meth c0 Z hc he H locs LS hl hR hS
  have hh := hc
  obtain ⟨hx, hb, hml, hown, hts, hK, hsz, hnm, hfr, hlo, hce, hsl⟩ := hh
  exact jw_new hx hb hown hts hK hR hq k1 k2 k3 (Nat.le_trans a1 hce) (Nat.le_trans a2 hsl) hd (fun H1 hR1 ho hz => h G p l e R s0 m args below meth c0 Z hc he H1 locs LS hl hR1 ⟨Nat.le_trans hS.1 hz, fun x h1 h2 => (ho x (Nat.lt_of_lt_of_le h1 hS.1)).trans (hS.2.1 x h1 h2), hS.2.2⟩)
theorem jo_newarray {t : ArrayType} (hd : decode (jmB n) pc = .ok (.newarray t, 2)) (hk : (a = 100 ∧ t = .int) ∨ (a = 101 ∧ t = .long) ∨ (a = 102 ∧ t = .byte) ∨ (a = 103 ∧ t = .boolean)) (h : j1i stk (fun x s => ∃ k : Nat, x = Int32.ofNat k ∧ k < 100000 ∧ (al.1 + 1 ≤ jmC n ∧ al.2 + k ≤ jmS n) ∧ jR d n (pc + 2) ls (.ref (gN μ + 1) :: s) (al.1 + 1, al.2 + k) (sA μ a k) Q)) : jR d n pc ls stk al μ Q := by
  obtain ⟨x, s, rfl, k, rfl, hk9, ⟨a1, a2⟩, h⟩ := j1i_inv h
  intro G p l e R s0 m args below meth c0 Z hc he H locs LS hl hR hS
  have hh := hc
  obtain ⟨hx, hb, hml, hown, hts, hK, hsz, hnm, hfr, hlo, hce, hsl⟩ := hh
  have go : ∀ H1 : Heap, jRep G (sA μ a k) s0 H1 → (∀ x : Nat, x < H.size → H1[x]? = H[x]?) → H.size ≤ H1.size → W p l e R s0 m args below meth c0 H1 locs (al.1 + 1) (al.2 + k) Z (F0 m (pc + 2) LS (.ref (jad G (gN μ + 1)) :: s.map (jcv G))) := fun H1 hR1 ho hz => h G p l e R s0 m args below meth c0 Z hc he H1 locs LS hl hR1 ⟨Nat.le_trans hS.1 hz, fun x h1 h2 => (ho x (Nat.lt_of_lt_of_le h1 hS.1)).trans (hS.2.1 x h1 h2), hS.2.2⟩
  rcases hk with ⟨rfl, rfl⟩ | ⟨rfl, rfl⟩ | ⟨rfl, rfl⟩ | ⟨rfl, rfl⟩
  · exact jw_newa (atype := .int) (t := 100) hx hb hts hK hR (by decide) rfl (fun z => z) rfl (by decide) ja_int hk9 (Nat.le_trans a1 hce) (Nat.le_trans a2 hsl) hd go
  · exact jw_newa (atype := .long) (t := 101) hx hb hts hK hR (by decide) rfl (fun z => z) rfl (by decide) ja_long hk9 (Nat.le_trans a1 hce) (Nat.le_trans a2 hsl) hd go
  · exact jw_newa (atype := .byte) (t := 102) hx hb hts hK hR (by decide) rfl (fun z => z) rfl (by decide) ja_byte hk9 (Nat.le_trans a1 hce) (Nat.le_trans a2 hsl) hd go
  · exact jw_newa (atype := .boolean) (t := 103) hx hb hts hK hR (by decide) rfl (fun z => z) rfl (by decide) ja_boolean hk9 (Nat.le_trans a1 hce) (Nat.le_trans a2 hsl) hd go
theorem jnov {G : jG} {s0 : State} {args : Array Value} (hK : jK G s0) {t : FieldType} (h : Cond.arrayOver (.array t) ∈ jnest) : (Cond.arrayOver (.array t)).before args s0 = true := over_moved (Vm.Alike.refl s0.vm) (hK.2 _ h)
theorem jo_multi {i k9 : Nat} (hd : decode (jmB n) pc = .ok (.multianewarray i k9, 4)) (hk : k9 = 2 ∧ ((a = 104 ∧ b = 100 ∧ Cond.classLink (jmO n) i ("[" ++ (FieldType.array .int).toString) ∈ jtbl) ∨ (a = 105 ∧ b = 101 ∧ Cond.classLink (jmO n) i ("[" ++ (FieldType.array .long).toString) ∈ jtbl))) (h : j2i stk (fun x y s => ∃ i k : Nat, x = Int32.ofNat i ∧ y = Int32.ofNat k ∧ i < 1000 ∧ k < 1000 ∧ (al.1 + 1 + i ≤ jmC n ∧ al.2 + i + i * k ≤ jmS n) ∧ jR d n (pc + 4) ls (.ref (gN μ + 1) :: s) (al.1 + 1 + i, al.2 + i + i * k) (jmul μ a b i k) Q)) : jR d n pc ls stk al μ Q := by
  obtain ⟨x, y, s, rfl, i0, k0, rfl, rfl, hi9, hk9, ⟨a1, a2⟩, h⟩ := j2i_inv h
  obtain ⟨rfl, hk⟩ := hk
  intro G p l e R s0 m args below meth c0 Z hc he H locs LS hl hR hS
  have hh := hc
  obtain ⟨hx, hb, hml, hown, hts, hK, hsz, hnm, hfr, hlo, hce, hsl⟩ := hh
  have go : ∀ H1 : Heap, jRep G (jmul μ a b i0 k0) s0 H1 → (∀ x : Nat, x < H.size → H1[x]? = H[x]?) → H.size ≤ H1.size → W p l e R s0 m args below meth c0 H1 locs (al.1 + 1 + i0) (al.2 + i0 + i0 * k0) Z (F0 m (pc + 4) LS (.ref (jad G (gN μ + 1)) :: s.map (jcv G))) := fun H1 hR1 ho hz => h G p l e R s0 m args below meth c0 Z hc he H1 locs LS hl hR1 ⟨Nat.le_trans hS.1 hz, fun x h1 h2 => (ho x (Nat.lt_of_lt_of_le h1 hS.1)).trans (hS.2.1 x h1 h2), hS.2.2⟩
  rcases hk with ⟨rfl, rfl, hk⟩ | ⟨rfl, rfl, hk⟩
  · exact jw_mul hx hb hown hts hK hR (Or.inl ⟨rfl, rfl, rfl⟩) hk (jnov hK jwov.1) ja_int hi9 hk9 (Nat.le_trans a1 hce) (Nat.le_trans a2 hsl) hd go
  · exact jw_mul hx hb hown hts hK hR (Or.inr ⟨rfl, rfl, rfl⟩) hk (jnov hK jwov.2) ja_long hi9 hk9 (Nat.le_trans a1 hce) (Nat.le_trans a2 hsl) hd go
end JSQ
