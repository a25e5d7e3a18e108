/-! what is asked of an instruction by the tables alone -/
def jx_lk (n pc : Nat) (o : Instr) (a b c : Nat) (v : Value) : Prop := match o with
  | .iconst i => v = .int (Int32.ofInt i)
  | .bipush i => v = .int (Int8.ofInt i).toInt32
  | .sipush i => v = .int (Int16.ofInt i).toInt32
  | .lconst i => v = .long (Int64.ofNat (i : Nat))
  | .ldc i => ∃ x, v = .int x ∧ Cond.constant (jmO n) i x ∈ jtbl
  | .ldc_w i => ∃ x, v = .int x ∧ Cond.constant (jmO n) i x ∈ jtbl
  | .ldc2_w i => ∃ x, v = .long x ∧ Cond.constantLong (jmO n) i x ∈ jtbl
  | .iload_n i => (i : Nat) = a
  | .lload_n i => (i : Nat) = a
  | .aload_n i => (i : Nat) = a
  | .iload i => i = a
  | .lload i => i = a
  | .aload i => i = a
  | .istore_n i => (i : Nat) = a ∧ a < jmX n
  | .astore_n i => (i : Nat) = a ∧ a < jmX n
  | .lstore_n i => (i : Nat) = a ∧ a + 1 < jmX n
  | .istore i => i = a ∧ a < jmX n
  | .astore i => i = a ∧ a < jmX n
  | .lstore i => i = a ∧ a + 1 < jmX n
  | .iinc i k => i = a ∧ a < jmX n ∧ v = .int (Int32.ofInt k)
  | .getfield i => jfl (jmO n) i a b ∧ jtk (jty a b) = c
  | .putfield i => jflp (jmO n) i a b (jmY n).name ∧ jtk (jty a b) = c ∧ (c = 0 → jty a b = .int) ∧ (c = 1 → jty a b = .long) ∧ (c = 2 ∨ c < 2 ∨ jty a b = .boolean)
  | .ifCond _ off => (pc : Int) + off = (a : Int)
  | .if_icmp _ off => (pc : Int) + off = (a : Int)
  | .goto off => (pc : Int) + off = (a : Int)
  | .ireturn => (b = 0 → jmR n = some .int) ∧ (b = 0 ∨ jmR n = some .boolean)
  | .lreturn => jmR n = some .long
  | .return_ => jmR n = none
  | .invokevirtual i => jcalV a b ∧ jml (jmO n) i a ∧ (∃ q : vw_C, vwCl[c]? = some q ∧ q.1 = (jmY a).cls) ∧ jmC a = 0 ∧ jmS a = 0
  | .invokestatic i => match a with
    | 1001 => Cond.methodLink (jmO n) i Lib.Math.max.name ∈ jtbl ∧ Cond.static Lib.Math.max.name ∈ jtbl ∧ Cond.code Lib.Math.max.name Lib.Math.max.code 2 (some .int) ∈ jtbl
    | 1002 => Cond.methodLink (jmO n) i Lib.Math.min.name ∈ jtbl ∧ Cond.static Lib.Math.min.name ∈ jtbl ∧ Cond.code Lib.Math.min.name Lib.Math.min.code 2 (some .int) ∈ jtbl
    | 1003 => Cond.methodLink (jmO n) i Lib.MathLoose.abs_long.x ∈ jtbl ∧ Cond.static Lib.MathLoose.abs_long.x ∈ jtbl ∧ Cond.code Lib.MathLoose.abs_long.x Lib.MathLoose.abs_long.code 2 (some .long) ∈ jtbl
    | 1004 => Cond.methodLink (jmO n) i Lib.MathLoose.max_long.x ∈ jtbl ∧ Cond.static Lib.MathLoose.max_long.x ∈ jtbl ∧ Cond.code Lib.MathLoose.max_long.x Lib.MathLoose.max_long.code 4 (some .long) ∈ jtbl
    | _ => jcalS a b ∧ jml (jmO n) i a ∧ jmC a = 0 ∧ jmS a = 0
  | .invokespecial i => match a with
    | 1000 => Cond.methodLink (jmO n) i objectInit ∈ jtbl
    | _ => jcalI a b ∧ (jml (jmO n) i a ∨ jmlN (jmO n) i a) ∧ jmR a = none
  | .new i => ∃ q : vw_C, vwCl[a]? = some q ∧ q.2.2 = b ∧ Cond.classLink (jmO n) i q.1 ∈ jtbl ∧ Cond.instantiable q.1 q.2.2 ∈ jtbl ∧ Cond.initialized q.1 ∈ jtbl
  | .newarray t => (a = 100 ∧ t = .int) ∨ (a = 101 ∧ t = .long) ∨ (a = 102 ∧ t = .byte) ∨ (a = 103 ∧ t = .boolean)
  | .multianewarray i k => k = 2 ∧ ((a = 104 ∧ b = 100 ∧ Cond.classLink (jmO n) i ("[" ++ (FieldType.array .int).toString) ∈ jtbl) ∨ (a = 105 ∧ b = 101 ∧ Cond.classLink (jmO n) i ("[" ++ (FieldType.array .long).toString) ∈ jtbl))
  | _ => True
theorem jwm : Cond.initialized "java/lang/Math" ∈ jtbl := jtb1 14 rfl rfl
theorem jwov : Cond.arrayOver (.array .int) ∈ jnest ∧ Cond.arrayOver (.array .long) ∈ jnest := ⟨jtn2 14 rfl rfl, jtn1 32 rfl rfl⟩
theorem jwoi : Cond.instanceMethod objectInit ∈ jtbl ∧ Cond.code objectInit ⟨#[0xb1]⟩ 1 none ∈ jtbl := ⟨jtb1 23 rfl rfl, jtb1 24 rfl rfl⟩
theorem jgood (n k : Nat) (h : jcal n k) : GoodIn jtbl (jws n) := by
  intro w hw
  rcases List.mem_cons.mp hw with rfl | hw
  · exact ⟨h.2.2.1, good_of_word (List.mem_filter.mp h.2.2.1).2⟩
  · exact ⟨hw, good_of_word (List.mem_filter.mp hw).2⟩
theorem jblind {as : List Value} {μ : jMem} {G : jG} : FrameBlind (jPc as μ G) := fun a U g mk h => ⟨h.1, jK.moved (u := U) (State.WarmedH.refl U) h.2.1, h.2.2.moved (U := U.calling g mk a) (Vm.Alike.refl U.vm)⟩
section JSO
variable {d n pc a b c : Nat} {v : Value} {ls : List (Option Value)} {stk : List Value} {al : Nat × Nat} {μ : jMem} {Q : jQ}

theorem j1i_inv {K : Int32 → List Value → Prop} (h : j1i stk K) : ∃ x s, stk = .int x :: s ∧ K x s := by
  unfold j1i at h
  split at h
  · exact ⟨_, _, rfl, h⟩
  · exact h.elim
theorem j2i_inv {K : Int32 → Int32 → List Value → Prop} (h : j2i stk K) : ∃ x y s, stk = .int y :: .int x :: s ∧ K x y s := by
  unfold j2i at h
  split at h
  · exact ⟨_, _, _, rfl, h⟩
  · exact h.elim
theorem j1l_inv {K : Int64 → List Value → Prop} (h : j1l stk K) : ∃ x s, stk = .long x :: s ∧ K x s := by
  unfold j1l at h
  split at h
  · exact ⟨_, _, rfl, h⟩
  · exact h.elim
theorem j2l_inv {K : Int64 → Int64 → List Value → Prop} (h : j2l stk K) : ∃ x y s, stk = .long y :: .long x :: s ∧ K x y s := by
  unfold j2l at h
  split at h
  · exact ⟨_, _, _, rfl, h⟩
  · exact h.elim
theorem jil_inv {K : Int64 → Int32 → List Value → Prop} (h : jil stk K) : ∃ x y s, stk = .int y :: .long x :: s ∧ K x y s := by
  unfold jil at h
  split at h
  · exact ⟨_, _, _, rfl, h⟩
  · exact h.elim
theorem j1r_inv {K : Nat → List Value → Prop} (h : j1r stk K) : ∃ x s, stk = .ref x :: s ∧ K x s := by
  unfold j1r at h
  split at h
  · exact ⟨_, _, rfl, h⟩
  · exact h.elim
theorem jri_inv {K : Nat → Int32 → List Value → Prop} (h : jri stk K) : ∃ x i s, stk = .int i :: .ref x :: s ∧ K x i s := by
  unfold jri at h
  split at h
  · exact ⟨_, _, _, rfl, h⟩
  · exact h.elim
theorem jrii_inv {K : Nat → Int32 → Int32 → List Value → Prop} (h : jrii stk K) : ∃ x i y s, stk = .int y :: .int i :: .ref x :: s ∧ K x i y s := by
  unfold jrii at h
  split at h
  · exact ⟨_, _, _, _, rfl, h⟩
  · exact h.elim
theorem jril_inv {K : Nat → Int32 → Int64 → List Value → Prop} (h : jril stk K) : ∃ x i y s, stk = .long y :: .int i :: .ref x :: s ∧ K x i y s := by
  unfold jril at h
  split at h
  · exact ⟨_, _, _, _, rfl, h⟩
  · exact h.elim
theorem jrl_inv {K : Nat → Int64 → List Value → Prop} (h : jrl stk K) : ∃ x y s, stk = .long y :: .ref x :: s ∧ K x y s := by
  unfold jrl at h
  split at h
  · exact ⟨_, _, _, rfl, h⟩
  · exact h.elim
theorem j2i'_inv {K : Nat → Int32 → List Value → Prop} (h : j2i' stk K) : ∃ x y s, stk = .int y :: .ref x :: s ∧ K x y s := by
  unfold j2i' at h
  split at h
  · exact ⟨_, _, _, rfl, h⟩
  · exact h.elim
theorem jrr_inv {K : Nat → Option Nat → List Value → Prop} (h : jrr stk K) : ∃ x y s, stk = jrv y :: .ref x :: s ∧ K x y s := by
  unfold jrr at h
  split at h
  · exact ⟨_, some _, _, rfl, h⟩
  · exact ⟨_, none, _, rfl, h⟩
  · exact h.elim
theorem jli_inv {K : Int32 → Prop} (h : jli ls a K) : ∃ x, jat ls a = some (.int x) ∧ K x := by
  unfold jli at h
  split at h
  · exact ⟨_, by assumption, h⟩
  · exact h.elim
theorem jll_inv {K : Int64 → Prop} (h : jll ls a K) : ∃ x, jat ls a = some (.long x) ∧ K x := by
  unfold jll at h
  split at h
  · exact ⟨_, by assumption, h⟩
  · exact h.elim
theorem jlr_inv {K : Nat → Prop} (h : jlr ls a K) : ∃ x, jat ls a = some (.ref x) ∧ K x := by
  unfold jlr at h
  split at h
  · exact ⟨_, by assumption, h⟩
  · exact h.elim
theorem jpop_inv {K : List Value → List Value → Prop} : ∀ {k : Nat} {acc stk : List Value}, jpop k acc stk K → ∃ as s, as.length = k ∧ stk = as.reverse ++ s ∧ K (as ++ acc) s
  | 0, acc, s, h => ⟨[], s, rfl, rfl, h⟩
  | k + 1, acc, x :: s, h => by
    obtain ⟨as, t, h1, h2, h3⟩ := jpop_inv (k := k) (acc := x :: acc) (stk := s) h
    exact ⟨as ++ [x], t, by simp [h1], by simp [h2], by simpa using h3⟩
  | k + 1, acc, [], h => h.elim
theorem jo_const {k : Nat} (hr : ∀ (G : jG) (p : Program) (l : Launch) (e : Env) (R : Room) (s : State) (m : MethodId) (args : Array Value) (below : List Frame) (meth : Method) (c0 : Code) (Z : State → Prop) (H : Heap) (locs : List Loc) (LS : Array Slot) (rest : List Value), p.tables.exec = Jvm.exec → c0.code = jmB n → s.vm.findClass (jmO n) = some m.cls → (∀ w ∈ jtbl, w.before args s = true) → W p l e R s m args below meth c0 H locs al.1 al.2 Z (F0 m (pc + k) LS (jcv G v :: rest)) → W p l e R s m args below meth c0 H locs al.1 al.2 Z (F0 m pc LS rest)) (h : jR d n (pc + k) ls (v :: stk) al μ Q) : jR d n pc ls stk al μ Q := by
  intro G p l e R s m args below meth c0 Z hc he H locs LS hl hR hS
  have hh := hc
  obtain ⟨hx, hb, hml, hown, hts, hK, hsz, hnm, hfr, hlo, hce, hsl⟩ := hh
  exact hr G p l e R s m args below meth c0 Z H locs LS _ hx hb hown hts (h G p l e R s m args below meth c0 Z hc he H locs LS hl hR hS)
theorem jo_iconst {i : Int} (hd : decode (jmB n) pc = .ok (.iconst i, 1)) (hk : jx_lk n pc (.iconst i) a b c v) (h : jR d n (pc + 1) ls (v :: stk) al μ Q) : jR d n pc ls stk al μ Q := by
  have hk := (show v = _ from hk)
  subst hk
  refine jo_const (fun G p l e R s m args below meth c0 Z H locs LS rest hx hb hown hts kk => ?_) h
  exact lv_iconst hx hb hd rfl kk
theorem jo_bipush {i : Int} (hd : decode (jmB n) pc = .ok (.bipush i, 2)) (hk : jx_lk n pc (.bipush i) a b c v) (h : jR d n (pc + 2) ls (v :: stk) al μ Q) : jR d n pc ls stk al μ Q := by
  have hk := (show v = _ from hk)
  subst hk
  refine jo_const (fun G p l e R s m args below meth c0 Z H locs LS rest hx hb hown hts kk => ?_) h
  exact lv_bipush hx hb hd rfl kk
theorem jo_sipush {i : Int} (hd : decode (jmB n) pc = .ok (.sipush i, 3)) (hk : jx_lk n pc (.sipush i) a b c v) (h : jR d n (pc + 3) ls (v :: stk) al μ Q) : jR d n pc ls stk al μ Q := by
  have hk := (show v = _ from hk)
  subst hk
  refine jo_const (fun G p l e R s m args below meth c0 Z H locs LS rest hx hb hown hts kk => ?_) h
  exact lv_sipush hx hb hd rfl kk
theorem jo_lconst {i : Fin 2} (hd : decode (jmB n) pc = .ok (.lconst i, 1)) (hk : jx_lk n pc (.lconst i) a b c v) (h : jR d n (pc + 1) ls (v :: stk) al μ Q) : jR d n pc ls stk al μ Q := by
  have hk := (show v = _ from hk)
  subst hk
  refine jo_const (fun G p l e R s m args below meth c0 Z H locs LS rest hx hb hown hts kk => ?_) h
  exact lv_lconst hx hb hd rfl kk
theorem jo_ldc {i : Nat} (hd : decode (jmB n) pc = .ok (.ldc i, 2)) (hk : jx_lk n pc (.ldc i) a b c v) (h : jR d n (pc + 2) ls (v :: stk) al μ Q) : jR d n pc ls stk al μ Q := by
  obtain ⟨x, rfl, hw⟩ := hk
  refine jo_const (fun G p l e R s m args below meth c0 Z H locs LS rest hx hb hown hts kk => ?_) h
  exact lv_ldc hx hb hown (hts _ hw) hd kk
theorem jo_ldc_w {i : Nat} (hd : decode (jmB n) pc = .ok (.ldc_w i, 3)) (hk : jx_lk n pc (.ldc_w i) a b c v) (h : jR d n (pc + 3) ls (v :: stk) al μ Q) : jR d n pc ls stk al μ Q := by
  obtain ⟨x, rfl, hw⟩ := hk
  refine jo_const (fun G p l e R s m args below meth c0 Z H locs LS rest hx hb hown hts kk => ?_) h
  exact lv_ldcw hx hb hown (hts _ hw) hd kk
theorem jo_ldc2_w {i : Nat} (hd : decode (jmB n) pc = .ok (.ldc2_w i, 3)) (hk : jx_lk n pc (.ldc2_w i) a b c v) (h : jR d n (pc + 3) ls (v :: stk) al μ Q) : jR d n pc ls stk al μ Q := by
  obtain ⟨x, rfl, hw⟩ := hk
  refine jo_const (fun G p l e R s m args below meth c0 Z H locs LS rest hx hb hown hts kk => ?_) h
  exact lv_ldc2 hx hb hown (hts _ hw) hd kk
theorem jo_iload_n {i : Fin 4} (hd : decode (jmB n) pc = .ok (.iload_n i, 1)) (hk : jx_lk n pc (.iload_n i) a b c v) (h : jli ls a (fun x => jR d n (pc + 1) ls (.int x :: stk) al μ Q)) : jR d n pc ls stk al μ Q := by
  have hk := (show (i : Nat) = a from hk)
  subst hk
  obtain ⟨x, hx0, h⟩ := jli_inv h
  intro G p l e R s m args below meth c0 Z hc he H locs LS hl hR hS
  have hh := hc
  obtain ⟨hx, hb, hml, hown, hts, hK, hsz, hnm, hfr, hlo, hce, hsl⟩ := hh
  exact lv_iload_n hx hb hd rfl (jloc_at hl hx0) (h G p l e R s m args below meth c0 Z hc he H locs LS hl hR hS)
theorem jo_iload {i : Nat} (hd : decode (jmB n) pc = .ok (.iload i, 2)) (hk : jx_lk n pc (.iload i) a b c v) (h : jli ls a (fun x => jR d n (pc + 2) ls (.int x :: stk) al μ Q)) : jR d n pc ls stk al μ Q := by
  have hk := (show i = a from hk)
  subst hk
  obtain ⟨x, hx0, h⟩ := jli_inv h
  intro G p l e R s m args below meth c0 Z hc he H locs LS hl hR hS
  have hh := hc
  obtain ⟨hx, hb, hml, hown, hts, hK, hsz, hnm, hfr, hlo, hce, hsl⟩ := hh
  exact lv_iload hx hb hd (jloc_at hl hx0) (h G p l e R s m args below meth c0 Z hc he H locs LS hl hR hS)
theorem jo_lload_n {i : Fin 4} (hd : decode (jmB n) pc = .ok (.lload_n i, 1)) (hk : jx_lk n pc (.lload_n i) a b c v) (h : jll ls a (fun x => jR d n (pc + 1) ls (.long x :: stk) al μ Q)) : jR d n pc ls stk al μ Q := by
  have hk := (show (i : Nat) = a from hk)
  subst hk
  obtain ⟨x, hx0, h⟩ := jll_inv h
  intro G p l e R s m args below meth c0 Z hc he H locs LS hl hR hS
  have hh := hc
  obtain ⟨hx, hb, hml, hown, hts, hK, hsz, hnm, hfr, hlo, hce, hsl⟩ := hh
  exact lv_lload_n hx hb hd rfl (jloc_at hl hx0) (h G p l e R s m args below meth c0 Z hc he H locs LS hl hR hS)
theorem jo_lload {i : Nat} (hd : decode (jmB n) pc = .ok (.lload i, 2)) (hk : jx_lk n pc (.lload i) a b c v) (h : jll ls a (fun x => jR d n (pc + 2) ls (.long x :: stk) al μ Q)) : jR d n pc ls stk al μ Q := by
  have hk := (show i = a from hk)
  subst hk
  obtain ⟨x, hx0, h⟩ := jll_inv h
  intro G p l e R s m args below meth c0 Z hc he H locs LS hl hR hS
  have hh := hc
  obtain ⟨hx, hb, hml, hown, hts, hK, hsz, hnm, hfr, hlo, hce, hsl⟩ := hh
  exact lv_lload hx hb hd (jloc_at hl hx0) (h G p l e R s m args below meth c0 Z hc he H locs LS hl hR hS)
theorem jo_aload_n {i : Fin 4} (hd : decode (jmB n) pc = .ok (.aload_n i, 1)) (hk : jx_lk n pc (.aload_n i) a b c v) (h : jlr ls a (fun x => jR d n (pc + 1) ls (.ref x :: stk) al μ Q)) : jR d n pc ls stk al μ Q := by
  have hk := (show (i : Nat) = a from hk)
  subst hk
  obtain ⟨x, hx0, h⟩ := jlr_inv h
  intro G p l e R s m args below meth c0 Z hc he H locs LS hl hR hS
  have hh := hc
  obtain ⟨hx, hb, hml, hown, hts, hK, hsz, hnm, hfr, hlo, hce, hsl⟩ := hh
  exact lv_aload_n hx hb hd rfl (jloc_at hl hx0) (h G p l e R s m args below meth c0 Z hc he H locs LS hl hR hS)
theorem jo_aload {i : Nat} (hd : decode (jmB n) pc = .ok (.aload i, 2)) (hk : jx_lk n pc (.aload i) a b c v) (h : jlr ls a (fun x => jR d n (pc + 2) ls (.ref x :: stk) al μ Q)) : jR d n pc ls stk al μ Q := by
  have hk := (show i = a from hk)
  subst hk
  obtain ⟨x, hx0, h⟩ := jlr_inv h
  intro G p l e R s m args below meth c0 Z hc he H locs LS hl hR hS
  have hh := hc
  obtain ⟨hx, hb, hml, hown, hts, hK, hsz, hnm, hfr, hlo, hce, hsl⟩ := hh
  exact lv_aload hx hb hd (jloc_at hl hx0) (h G p l e R s m args below meth c0 Z hc he H locs LS hl hR hS)
theorem jo_istore_n {i : Fin 4} (hd : decode (jmB n) pc = .ok (.istore_n i, 1)) (hk : jx_lk n pc (.istore_n i) a b c v) (h : j1i stk (fun x s => jR d n (pc + 1) (jst ls a (.int x)) s al μ Q)) : jR d n pc ls stk al μ Q := by
  obtain ⟨hk, hk2⟩ := (show (i : Nat) = a ∧ a < jmX n from hk)
  subst hk
  obtain ⟨x, s, rfl, h⟩ := j1i_inv h
  intro G p l e R s0 m args below meth c0 Z hc he H locs LS hl hR hS
  have hh := hc
  obtain ⟨hx, hb, hml, hown, hts, hK, hsz, hnm, hfr, hlo, hce, hsl⟩ := hh
  exact lv_istore_n hx hb hd rfl hl.1 hk2 rfl (fun LS' hl' => h G p l e R s0 m args below meth c0 Z hc he H locs LS' (jloc_st hl rfl hl') hR hS)
theorem jo_istore {i : Nat} (hd : decode (jmB n) pc = .ok (.istore i, 2)) (hk : jx_lk n pc (.istore i) a b c v) (h : j1i stk (fun x s => jR d n (pc + 2) (jst ls a (.int x)) s al μ Q)) : jR d n pc ls stk al μ Q := by
  obtain ⟨hk, hk2⟩ := (show i = a ∧ a < jmX n from hk)
  subst hk
  obtain ⟨x, s, rfl, h⟩ := j1i_inv h
  intro G p l e R s0 m args below meth c0 Z hc he H locs LS hl hR hS
  have hh := hc
  obtain ⟨hx, hb, hml, hown, hts, hK, hsz, hnm, hfr, hlo, hce, hsl⟩ := hh
  exact lv_istore hx hb hd hl.1 hk2 rfl (fun LS' hl' => h G p l e R s0 m args below meth c0 Z hc he H locs LS' (jloc_st hl rfl hl') hR hS)
theorem jo_lstore_n {i : Fin 4} (hd : decode (jmB n) pc = .ok (.lstore_n i, 1)) (hk : jx_lk n pc (.lstore_n i) a b c v) (h : j1l stk (fun x s => jR d n (pc + 1) (jst2 ls a (.long x)) s al μ Q)) : jR d n pc ls stk al μ Q := by
  obtain ⟨hk, hk2⟩ := (show (i : Nat) = a ∧ a + 1 < jmX n from hk)
  subst hk
  obtain ⟨x, s, rfl, h⟩ := j1l_inv h
  intro G p l e R s0 m args below meth c0 Z hc he H locs LS hl hR hS
  have hh := hc
  obtain ⟨hx, hb, hml, hown, hts, hK, hsz, hnm, hfr, hlo, hce, hsl⟩ := hh
  exact lv_lstore_n hx hb hd rfl hl.1 hk2 rfl (fun LS' hl' => h G p l e R s0 m args below meth c0 Z hc he H locs LS' (jloc_st2 hl rfl hl') hR hS)
theorem jo_lstore {i : Nat} (hd : decode (jmB n) pc = .ok (.lstore i, 2)) (hk : jx_lk n pc (.lstore i) a b c v) (h : j1l stk (fun x s => jR d n (pc + 2) (jst2 ls a (.long x)) s al μ Q)) : jR d n pc ls stk al μ Q := by
  obtain ⟨hk, hk2⟩ := (show i = a ∧ a + 1 < jmX n from hk)
  subst hk
  obtain ⟨x, s, rfl, h⟩ := j1l_inv h
  intro G p l e R s0 m args below meth c0 Z hc he H locs LS hl hR hS
  have hh := hc
  obtain ⟨hx, hb, hml, hown, hts, hK, hsz, hnm, hfr, hlo, hce, hsl⟩ := hh
  exact lv_lstore hx hb hd hl.1 hk2 rfl (fun LS' hl' => h G p l e R s0 m args below meth c0 Z hc he H locs LS' (jloc_st2 hl rfl hl') hR hS)
theorem jo_astore_n {i : Fin 4} (hd : decode (jmB n) pc = .ok (.astore_n i, 1)) (hk : jx_lk n pc (.astore_n i) a b c v) (h : j1r stk (fun x s => jR d n (pc + 1) (jst ls a (.ref x)) s al μ Q)) : jR d n pc ls stk al μ Q := by
  obtain ⟨hk, hk2⟩ := (show (i : Nat) = a ∧ a < jmX n from hk)
  subst hk
  obtain ⟨x, s, rfl, h⟩ := j1r_inv h
  intro G p l e R s0 m args below meth c0 Z hc he H locs LS hl hR hS
  have hh := hc
  obtain ⟨hx, hb, hml, hown, hts, hK, hsz, hnm, hfr, hlo, hce, hsl⟩ := hh
  exact lv_astore_n hx hb hd rfl hl.1 hk2 rfl (fun LS' hl' => h G p l e R s0 m args below meth c0 Z hc he H locs LS' (jloc_st hl rfl hl') hR hS)
theorem jo_astore {i : Nat} (hd : decode (jmB n) pc = .ok (.astore i, 2)) (hk : jx_lk n pc (.astore i) a b c v) (h : j1r stk (fun x s => jR d n (pc + 2) (jst ls a (.ref x)) s al μ Q)) : jR d n pc ls stk al μ Q := by
  obtain ⟨hk, hk2⟩ := (show i = a ∧ a < jmX n from hk)
  subst hk
  obtain ⟨x, s, rfl, h⟩ := j1r_inv h
  intro G p l e R s0 m args below meth c0 Z hc he H locs LS hl hR hS
  have hh := hc
  obtain ⟨hx, hb, hml, hown, hts, hK, hsz, hnm, hfr, hlo, hce, hsl⟩ := hh
  exact lv_astore hx hb hd hl.1 hk2 rfl (fun LS' hl' => h G p l e R s0 m args below meth c0 Z hc he H locs LS' (jloc_st hl rfl hl') hR hS)
theorem jo_iinc {i : Nat} {k : Int} (hd : decode (jmB n) pc = .ok (.iinc i k, 3)) (hk : jx_lk n pc (.iinc i k) a b c v) (h : jli ls a (fun x => jR d n (pc + 3) (jst ls a (.int (x + jvi v))) stk al μ Q)) : jR d n pc ls stk al μ Q := by
  obtain ⟨hk1, hk2, hk3⟩ := (show i = a ∧ a < jmX n ∧ v = .int (Int32.ofInt k) from hk)
  subst hk1
  subst hk3
  obtain ⟨x, hx0, h⟩ := jli_inv h
  intro G p l e R s0 m args below meth c0 Z hc he H locs LS hl hR hS
  have hh := hc
  obtain ⟨hx, hb, hml, hown, hts, hK, hsz, hnm, hfr, hlo, hce, hsl⟩ := hh
  have hmem : (i, jcv G (.int x)) ∈ jasc G 0 ls := jasc_mem.mpr ⟨i, _, by simp, jat_some hx0, rfl⟩
  obtain ⟨j, hj⟩ := List.getElem?_of_mem hmem
  exact lv_iinc hx hb hd hl.1 (k := j) hj rfl hk2 rfl (fun LS' hl' => h G p l e R s0 m args below meth c0 Z hc he H locs LS' (jloc_st hl rfl hl') hR hS)
theorem jo_iadd (hd : decode (jmB n) pc = .ok (.iadd, 1)) (h : j2i stk (fun x y s => jR d n (pc + 1) ls (.int (x + y) :: s) al μ Q)) : jR d n pc ls stk al μ Q := by
  obtain ⟨x, y, s, rfl, h⟩ := j2i_inv h
  intro G p l e R s0 m args below meth c0 Z hc he H locs LS hl hR hS
  have hh := hc
  obtain ⟨hx, hb, hml, hown, hts, hK, hsz, hnm, hfr, hlo, hce, hsl⟩ := hh
  exact lv_iadd hx hb hd (h G p l e R s0 m args below meth c0 Z hc he H locs LS hl hR hS)
theorem jo_isub (hd : decode (jmB n) pc = .ok (.isub, 1)) (h : j2i stk (fun x y s => jR d n (pc + 1) ls (.int (x - y) :: s) al μ Q)) : jR d n pc ls stk al μ Q := by
  obtain ⟨x, y, s, rfl, h⟩ := j2i_inv h
  intro G p l e R s0 m args below meth c0 Z hc he H locs LS hl hR hS
  have hh := hc
  obtain ⟨hx, hb, hml, hown, hts, hK, hsz, hnm, hfr, hlo, hce, hsl⟩ := hh
  exact lv_isub hx hb hd (h G p l e R s0 m args below meth c0 Z hc he H locs LS hl hR hS)
theorem jo_imul (hd : decode (jmB n) pc = .ok (.imul, 1)) (h : j2i stk (fun x y s => jR d n (pc + 1) ls (.int (x * y) :: s) al μ Q)) : jR d n pc ls stk al μ Q := by
  obtain ⟨x, y, s, rfl, h⟩ := j2i_inv h
  intro G p l e R s0 m args below meth c0 Z hc he H locs LS hl hR hS
  have hh := hc
  obtain ⟨hx, hb, hml, hown, hts, hK, hsz, hnm, hfr, hlo, hce, hsl⟩ := hh
  exact lv_imul hx hb hd (h G p l e R s0 m args below meth c0 Z hc he H locs LS hl hR hS)
theorem jo_iand (hd : decode (jmB n) pc = .ok (.iand, 1)) (h : j2i stk (fun x y s => jR d n (pc + 1) ls (.int (x &&& y) :: s) al μ Q)) : jR d n pc ls stk al μ Q := by
  obtain ⟨x, y, s, rfl, h⟩ := j2i_inv h
  intro G p l e R s0 m args below meth c0 Z hc he H locs LS hl hR hS
  have hh := hc
  obtain ⟨hx, hb, hml, hown, hts, hK, hsz, hnm, hfr, hlo, hce, hsl⟩ := hh
  exact lv_iand hx hb hd (h G p l e R s0 m args below meth c0 Z hc he H locs LS hl hR hS)
theorem jo_ior (hd : decode (jmB n) pc = .ok (.ior, 1)) (h : j2i stk (fun x y s => jR d n (pc + 1) ls (.int (x ||| y) :: s) al μ Q)) : jR d n pc ls stk al μ Q := by
  obtain ⟨x, y, s, rfl, h⟩ := j2i_inv h
  intro G p l e R s0 m args below meth c0 Z hc he H locs LS hl hR hS
  have hh := hc
  obtain ⟨hx, hb, hml, hown, hts, hK, hsz, hnm, hfr, hlo, hce, hsl⟩ := hh
  exact lv_ior hx hb hd (h G p l e R s0 m args below meth c0 Z hc he H locs LS hl hR hS)
theorem jo_ishl (hd : decode (jmB n) pc = .ok (.ishl, 1)) (h : j2i stk (fun x y s => jR d n (pc + 1) ls (.int (x <<< (y &&& 31)) :: s) al μ Q)) : jR d n pc ls stk al μ Q := by
  obtain ⟨x, y, s, rfl, h⟩ := j2i_inv h
  intro G p l e R s0 m args below meth c0 Z hc he H locs LS hl hR hS
  have hh := hc
  obtain ⟨hx, hb, hml, hown, hts, hK, hsz, hnm, hfr, hlo, hce, hsl⟩ := hh
  exact lv_ishl hx hb hd (h G p l e R s0 m args below meth c0 Z hc he H locs LS hl hR hS)
theorem jo_ishr (hd : decode (jmB n) pc = .ok (.ishr, 1)) (h : j2i stk (fun x y s => jR d n (pc + 1) ls (.int (x >>> (y &&& 31)) :: s) al μ Q)) : jR d n pc ls stk al μ Q := by
  obtain ⟨x, y, s, rfl, h⟩ := j2i_inv h
  intro G p l e R s0 m args below meth c0 Z hc he H locs LS hl hR hS
  have hh := hc
  obtain ⟨hx, hb, hml, hown, hts, hK, hsz, hnm, hfr, hlo, hce, hsl⟩ := hh
  exact lv_ishr hx hb hd (h G p l e R s0 m args below meth c0 Z hc he H locs LS hl hR hS)
theorem jo_ladd (hd : decode (jmB n) pc = .ok (.ladd, 1)) (h : j2l stk (fun x y s => jR d n (pc + 1) ls (.long (x + y) :: s) al μ Q)) : jR d n pc ls stk al μ Q := by
  obtain ⟨x, y, s, rfl, h⟩ := j2l_inv h
  intro G p l e R s0 m args below meth c0 Z hc he H locs LS hl hR hS
  have hh := hc
  obtain ⟨hx, hb, hml, hown, hts, hK, hsz, hnm, hfr, hlo, hce, hsl⟩ := hh
  exact lv_ladd hx hb hd (h G p l e R s0 m args below meth c0 Z hc he H locs LS hl hR hS)
theorem jo_lsub (hd : decode (jmB n) pc = .ok (.lsub, 1)) (h : j2l stk (fun x y s => jR d n (pc + 1) ls (.long (x - y) :: s) al μ Q)) : jR d n pc ls stk al μ Q := by
  obtain ⟨x, y, s, rfl, h⟩ := j2l_inv h
  intro G p l e R s0 m args below meth c0 Z hc he H locs LS hl hR hS
  have hh := hc
  obtain ⟨hx, hb, hml, hown, hts, hK, hsz, hnm, hfr, hlo, hce, hsl⟩ := hh
  exact lv_lsub hx hb hd (h G p l e R s0 m args below meth c0 Z hc he H locs LS hl hR hS)
theorem jo_lmul (hd : decode (jmB n) pc = .ok (.lmul, 1)) (h : j2l stk (fun x y s => jR d n (pc + 1) ls (.long (x * y) :: s) al μ Q)) : jR d n pc ls stk al μ Q := by
  obtain ⟨x, y, s, rfl, h⟩ := j2l_inv h
  intro G p l e R s0 m args below meth c0 Z hc he H locs LS hl hR hS
  have hh := hc
  obtain ⟨hx, hb, hml, hown, hts, hK, hsz, hnm, hfr, hlo, hce, hsl⟩ := hh
  exact lv_lmul hx hb hd (h G p l e R s0 m args below meth c0 Z hc he H locs LS hl hR hS)
theorem jo_land (hd : decode (jmB n) pc = .ok (.land, 1)) (h : j2l stk (fun x y s => jR d n (pc + 1) ls (.long (x &&& y) :: s) al μ Q)) : jR d n pc ls stk al μ Q := by
  obtain ⟨x, y, s, rfl, h⟩ := j2l_inv h
  intro G p l e R s0 m args below meth c0 Z hc he H locs LS hl hR hS
  have hh := hc
  obtain ⟨hx, hb, hml, hown, hts, hK, hsz, hnm, hfr, hlo, hce, hsl⟩ := hh
  exact lv_land hx hb hd (h G p l e R s0 m args below meth c0 Z hc he H locs LS hl hR hS)
theorem jo_lor (hd : decode (jmB n) pc = .ok (.lor, 1)) (h : j2l stk (fun x y s => jR d n (pc + 1) ls (.long (x ||| y) :: s) al μ Q)) : jR d n pc ls stk al μ Q := by
  obtain ⟨x, y, s, rfl, h⟩ := j2l_inv h
  intro G p l e R s0 m args below meth c0 Z hc he H locs LS hl hR hS
  have hh := hc
  obtain ⟨hx, hb, hml, hown, hts, hK, hsz, hnm, hfr, hlo, hce, hsl⟩ := hh
  exact lv_lor hx hb hd (h G p l e R s0 m args below meth c0 Z hc he H locs LS hl hR hS)
theorem jo_lshl (hd : decode (jmB n) pc = .ok (.lshl, 1)) (h : jil stk (fun x y s => jR d n (pc + 1) ls (.long (x <<< (y.toInt64 &&& 63)) :: s) al μ Q)) : jR d n pc ls stk al μ Q := by
  obtain ⟨x, y, s, rfl, h⟩ := jil_inv h
  intro G p l e R s0 m args below meth c0 Z hc he H locs LS hl hR hS
  have hh := hc
  obtain ⟨hx, hb, hml, hown, hts, hK, hsz, hnm, hfr, hlo, hce, hsl⟩ := hh
  exact lv_lshl hx hb hd rfl (h G p l e R s0 m args below meth c0 Z hc he H locs LS hl hR hS)
theorem jo_lcmp (hd : decode (jmB n) pc = .ok (.lcmp, 1)) (h : j2l stk (fun x y s => jR d n (pc + 1) ls (.int (lg_cmp x y) :: s) al μ Q)) : jR d n pc ls stk al μ Q := by
  obtain ⟨x, y, s, rfl, h⟩ := j2l_inv h
  intro G p l e R s0 m args below meth c0 Z hc he H locs LS hl hR hS
  have hh := hc
  obtain ⟨hx, hb, hml, hown, hts, hK, hsz, hnm, hfr, hlo, hce, hsl⟩ := hh
  exact W.lcmp hx hb hd (h G p l e R s0 m args below meth c0 Z hc he H locs LS hl hR hS)
theorem jo_idiv (hd : decode (jmB n) pc = .ok (.idiv, 1)) (h : j2i stk (fun x y s => ¬ y = 0 ∧ jR d n (pc + 1) ls (.int (x / y) :: s) al μ Q)) : jR d n pc ls stk al μ Q := by
  obtain ⟨x, y, s, rfl, h0, h⟩ := j2i_inv h
  intro G p l e R s0 m args below meth c0 Z hc he H locs LS hl hR hS
  have hh := hc
  obtain ⟨hx, hb, hml, hown, hts, hK, hsz, hnm, hfr, hlo, hce, hsl⟩ := hh
  exact lv_idiv hx hb hd h0 (h G p l e R s0 m args below meth c0 Z hc he H locs LS hl hR hS)
theorem jo_irem (hd : decode (jmB n) pc = .ok (.irem, 1)) (h : j2i stk (fun x y s => ¬ y = 0 ∧ jR d n (pc + 1) ls (.int (x - x / y * y) :: s) al μ Q)) : jR d n pc ls stk al μ Q := by
  obtain ⟨x, y, s, rfl, h0, h⟩ := j2i_inv h
  intro G p l e R s0 m args below meth c0 Z hc he H locs LS hl hR hS
  have hh := hc
  obtain ⟨hx, hb, hml, hown, hts, hK, hsz, hnm, hfr, hlo, hce, hsl⟩ := hh
  exact lv_irem hx hb hd h0 (h G p l e R s0 m args below meth c0 Z hc he H locs LS hl hR hS)
theorem jo_ldiv (hd : decode (jmB n) pc = .ok (.ldiv, 1)) (h : j2l stk (fun x y s => ¬ y = 0 ∧ jR d n (pc + 1) ls (.long (x / y) :: s) al μ Q)) : jR d n pc ls stk al μ Q := by
  obtain ⟨x, y, s, rfl, h0, h⟩ := j2l_inv h
  intro G p l e R s0 m args below meth c0 Z hc he H locs LS hl hR hS
  have hh := hc
  obtain ⟨hx, hb, hml, hown, hts, hK, hsz, hnm, hfr, hlo, hce, hsl⟩ := hh
  exact lv_ldiv hx hb hd h0 (h G p l e R s0 m args below meth c0 Z hc he H locs LS hl hR hS)
theorem jo_lrem (hd : decode (jmB n) pc = .ok (.lrem, 1)) (h : j2l stk (fun x y s => ¬ y = 0 ∧ jR d n (pc + 1) ls (.long (x - x / y * y) :: s) al μ Q)) : jR d n pc ls stk al μ Q := by
  obtain ⟨x, y, s, rfl, h0, h⟩ := j2l_inv h
  intro G p l e R s0 m args below meth c0 Z hc he H locs LS hl hR hS
  have hh := hc
  obtain ⟨hx, hb, hml, hown, hts, hK, hsz, hnm, hfr, hlo, hce, hsl⟩ := hh
  exact lv_lrem hx hb hd h0 (h G p l e R s0 m args below meth c0 Z hc he H locs LS hl hR hS)
theorem jo_lneg (hd : decode (jmB n) pc = .ok (.lneg, 1)) (h : j1l stk (fun x s => jR d n (pc + 1) ls (.long (-x) :: s) al μ Q)) : jR d n pc ls stk al μ Q := by
  obtain ⟨x, s, rfl, h⟩ := j1l_inv h
  intro G p l e R s0 m args below meth c0 Z hc he H locs LS hl hR hS
  have hh := hc
  obtain ⟨hx, hb, hml, hown, hts, hK, hsz, hnm, hfr, hlo, hce, hsl⟩ := hh
  exact lv_lneg hx hb hd (h G p l e R s0 m args below meth c0 Z hc he H locs LS hl hR hS)
theorem jo_i2l (hd : decode (jmB n) pc = .ok (.i2l, 1)) (h : j1i stk (fun x s => jR d n (pc + 1) ls (.long (x.toInt64) :: s) al μ Q)) : jR d n pc ls stk al μ Q := by
  obtain ⟨x, s, rfl, h⟩ := j1i_inv h
  intro G p l e R s0 m args below meth c0 Z hc he H locs LS hl hR hS
  have hh := hc
  obtain ⟨hx, hb, hml, hown, hts, hK, hsz, hnm, hfr, hlo, hce, hsl⟩ := hh
  exact lv_i2l hx hb hd rfl (h G p l e R s0 m args below meth c0 Z hc he H locs LS hl hR hS)
theorem jo_l2i (hd : decode (jmB n) pc = .ok (.l2i, 1)) (h : j1l stk (fun x s => jR d n (pc + 1) ls (.int (x.toInt32) :: s) al μ Q)) : jR d n pc ls stk al μ Q := by
  obtain ⟨x, s, rfl, h⟩ := j1l_inv h
  intro G p l e R s0 m args below meth c0 Z hc he H locs LS hl hR hS
  have hh := hc
  obtain ⟨hx, hb, hml, hown, hts, hK, hsz, hnm, hfr, hlo, hce, hsl⟩ := hh
  exact lv_l2i hx hb hd rfl (h G p l e R s0 m args below meth c0 Z hc he H locs LS hl hR hS)
theorem jo_i2b (hd : decode (jmB n) pc = .ok (.i2b, 1)) (h : j1i stk (fun x s => jR d n (pc + 1) ls (.int (x.toInt8.toInt32) :: s) al μ Q)) : jR d n pc ls stk al μ Q := by
  obtain ⟨x, s, rfl, h⟩ := j1i_inv h
  intro G p l e R s0 m args below meth c0 Z hc he H locs LS hl hR hS
  have hh := hc
  obtain ⟨hx, hb, hml, hown, hts, hK, hsz, hnm, hfr, hlo, hce, hsl⟩ := hh
  exact lv_i2b hx hb hd rfl (h G p l e R s0 m args below meth c0 Z hc he H locs LS hl hR hS)
theorem jo_i2s (hd : decode (jmB n) pc = .ok (.i2s, 1)) (h : j1i stk (fun x s => jR d n (pc + 1) ls (.int (x.toInt16.toInt32) :: s) al μ Q)) : jR d n pc ls stk al μ Q := by
  obtain ⟨x, s, rfl, h⟩ := j1i_inv h
  intro G p l e R s0 m args below meth c0 Z hc he H locs LS hl hR hS
  have hh := hc
  obtain ⟨hx, hb, hml, hown, hts, hK, hsz, hnm, hfr, hlo, hce, hsl⟩ := hh
  exact lv_i2s hx hb hd rfl (h G p l e R s0 m args below meth c0 Z hc he H locs LS hl hR hS)
theorem jo_dup (hd : decode (jmB n) pc = .ok (.dup, 1)) (h : jdup stk (fun s => jR d n (pc + 1) ls s al μ Q)) : jR d n pc ls stk al μ Q := by
  unfold jdup at h
  split at h
  · intro G p l e R s0 m args below meth c0 Z hc he H locs LS hl hR hS
    have hh := hc
    obtain ⟨hx, hb, hml, hown, hts, hK, hsz, hnm, hfr, hlo, hce, hsl⟩ := hh
    exact lv_dup hx hb hd rfl (h G p l e R s0 m args below meth c0 Z hc he H locs LS hl hR hS)
  · intro G p l e R s0 m args below meth c0 Z hc he H locs LS hl hR hS
    have hh := hc
    obtain ⟨hx, hb, hml, hown, hts, hK, hsz, hnm, hfr, hlo, hce, hsl⟩ := hh
    exact lv_dup hx hb hd rfl (h G p l e R s0 m args below meth c0 Z hc he H locs LS hl hR hS)
  · exact h.elim
theorem jo_dup2 (hd : decode (jmB n) pc = .ok (.dup2, 1)) (h : jdup2 stk (fun s => jR d n (pc + 1) ls s al μ Q)) : jR d n pc ls stk al μ Q := by
  unfold jdup2 at h
  split at h
  · intro G p l e R s0 m args below meth c0 Z hc he H locs LS hl hR hS
    have hh := hc
    obtain ⟨hx, hb, hml, hown, hts, hK, hsz, hnm, hfr, hlo, hce, hsl⟩ := hh
    exact lv_dup2_11 hx hb hd rfl rfl (h G p l e R s0 m args below meth c0 Z hc he H locs LS hl hR hS)
  · intro G p l e R s0 m args below meth c0 Z hc he H locs LS hl hR hS
    have hh := hc
    obtain ⟨hx, hb, hml, hown, hts, hK, hsz, hnm, hfr, hlo, hce, hsl⟩ := hh
    exact lv_dup2_2 hx hb hd rfl (h G p l e R s0 m args below meth c0 Z hc he H locs LS hl hR hS)
  · exact h.elim
theorem jo_pop (hd : decode (jmB n) pc = .ok (.pop, 1)) (h : jpo stk (fun s => jR d n (pc + 1) ls s al μ Q)) : jR d n pc ls stk al μ Q := by
  unfold jpo at h
  split at h
  · intro G p l e R s0 m args below meth c0 Z hc he H locs LS hl hR hS
    have hh := hc
    obtain ⟨hx, hb, hml, hown, hts, hK, hsz, hnm, hfr, hlo, hce, hsl⟩ := hh
    exact lv_pop hx hb hd rfl (h G p l e R s0 m args below meth c0 Z hc he H locs LS hl hR hS)
  · exact h.elim
theorem jo_getfield {i : Nat} (hd : decode (jmB n) pc = .ok (.getfield i, 3)) (hk : jx_lk n pc (.getfield i) a b c v) (h : j1r stk (fun r s => (gS μ r).1 = a ∧ jR d n (pc + 3) ls (jgv c μ r b :: s) al μ Q)) : jR d n pc ls stk al μ Q := by
  obtain ⟨hk, hk2⟩ := (show jfl (jmO n) i a b ∧ jtk (jty a b) = c from hk)
  obtain ⟨x, s, rfl, h0, h⟩ := j1r_inv h
  intro G p l e R s0 m args below meth c0 Z hc he H locs LS hl hR hS
  have hh := hc
  obtain ⟨hx, hb, hml, hown, hts, hK, hsz, hnm, hfr, hlo, hce, hsl⟩ := hh
  refine jw_get hx hb hown hts hK hR hk h0 hd ?_
  rw [jfv_gv, hk2]
  exact h G p l e R s0 m args below meth c0 Z hc he H locs LS hl hR hS
theorem jrep_fld {G : jG} {ν : jMem} {U : State} {H H1 : Heap} {r : Nat} {w : Value} (hR : jRep G μ U H) (h12 : 1 ≤ r ∧ r ≤ gN μ) (hsh : (gS μ r).1 = a) (ha : a < 13) (hw : (jW G μ).set (r - 1) (jad G r, .inr (a, (jflds G μ r a).set b w)) = jW G ν) (hn : gN ν = gN μ) (hok : jok ν) (hS : gS ν = gS μ) (hI : ∀ j, gI ν 0 j = gI μ 0 j) (e1 : va_at G.1 vwCl (jad G r, .inr (a, (jflds G μ r a).set b w)) H1) (e2 : H1.size = H.size) (e3 : ∀ q : Nat, q ≠ jad G r → H1[q]? = H[q]?) : jRep G ν U H1 :=
  jRep_put hR h12.1 h12.2 hw hn hok (by rw [hS]) (funext hI) e1 e3 e2
theorem jva_put {G : jG} {U : State} {H H1 : Heap} {locs : List Loc} {r z : Nat} (hS : va_S (jA G) U.heap H locs) (h12 : 1 ≤ r) (e2 : H1.size = H.size) (e3 : ∀ q : Nat, q ≠ jad G r → H1[q]? = H[q]?) : va_S (jA G) U.heap H1 (locs ++ [⟨jad G r, z⟩]) := by
  refine hS.put e2 e3 ?_
  obtain ⟨k, rfl⟩ : ∃ k, r = k + 1 := ⟨r - 1, by omega⟩
  exact Nat.le_add_right _ _
theorem jci_lt {own : String} {i a b : Nat} {s : String} (h : jflp own i a b s) : a < 13 ∧ b < jnf a := by
  obtain ⟨q, hq, hk, -⟩ := h
  have := jcls a q hq
  exact ⟨this.2.2.2.2, by rw [← this.2.2.2.1]; exact hk⟩
theorem jo_puti {i : Nat} (hd : decode (jmB n) pc = .ok (.putfield i, 3)) (hk : jflp (jmO n) i a b (jmY n).name) (hty : jty a b = .int) (h : j2i' stk (fun r x s => (gS μ r).1 = a ∧ jR d n (pc + 3) ls s al (sI μ r b x) Q)) : jR d n pc ls stk al μ Q := by
  obtain ⟨r, x, s, rfl, h0, h⟩ := j2i'_inv h
  intro G p l e R s0 m args below meth c0 Z hc he H locs LS hl hR hS
  have hh := hc
  obtain ⟨hx, hb, hml, hown, hts, hK, hsz, hnm, hfr, hlo, hce, hsl⟩ := hh
  obtain ⟨ha, hbn⟩ := jci_lt hk
  have hfv : ∀ j, jfv G (sI μ r b x) a j r = if j = b then .int x else jfv G μ a j r := fun j => by
    unfold jfv
    by_cases hj : j = b
    · subst hj
      rw [if_pos rfl, hty]
      simp [gI_sI, jtk]
    · rw [if_neg hj]
      simp [gI_sI, gL_sI, gR_sI, gI_sL, gL_sL, gR_sL, gI_sR, gL_sR, gR_sR, hj]
  have hn2 : narrow (jty a b) (.int x) = .int x ∧ fits (jty a b) (.int x) = true := by rw [hty]; exact ⟨rfl, rfl⟩
  skip
  skip
  refine jw_put hx hb hown hts hK hR (jflp_nm hk hnm) h0 hn2.1 hn2.2 hd (fun H1 z e1 e2 e3 h12 => ?_)
  have hset : (jflds G μ r a).set b (.int x) = jflds G (sI μ r b x) r a := by
    have hs := jflds_set (G := G) (μ := μ) (ν := sI μ r b x) (a := r) (t := a) (k := b) (fun j hj => by rw [hfv, if_neg hj])
    rw [hs, hfv, if_pos rfl]
  have hsh' : (gS (sI μ r b x) r).1 = a := h0
  refine h G p l e R s0 m args below meth c0 Z hc he H1 _ LS hl (jrep_fld (b := b) hR h12 h0 ha (jW_sI h12.1 h12.2 ((jcell_o hsh' ha).trans (congrArg (fun z => (.inr (a, z) : va_E)) hset.symm))) rfl (jok_sI hR.2.2.2.1) rfl (fun j => by rw [gI_sI, if_neg (by omega)]) e1 e2 e3) (jva_put hS h12.1 e2 e3)
theorem jo_putz {i : Nat} (hd : decode (jmB n) pc = .ok (.putfield i, 3)) (hk : jflp (jmO n) i a b (jmY n).name) (hty : jty a b = .boolean) (h : j2i' stk (fun r x s => (x = 0 ∨ x = 1) ∧ (gS μ r).1 = a ∧ jR d n (pc + 3) ls s al (sI μ r b x) Q)) : jR d n pc ls stk al μ Q := by
  obtain ⟨r, x, s, rfl, hz, h0, h⟩ := j2i'_inv h
  intro G p l e R s0 m args below meth c0 Z hc he H locs LS hl hR hS
  have hh := hc
  obtain ⟨hx, hb, hml, hown, hts, hK, hsz, hnm, hfr, hlo, hce, hsl⟩ := hh
  obtain ⟨ha, hbn⟩ := jci_lt hk
  have hfv : ∀ j, jfv G (sI μ r b x) a j r = if j = b then .int x else jfv G μ a j r := fun j => by
    unfold jfv
    by_cases hj : j = b
    · subst hj
      rw [if_pos rfl, hty]
      simp [gI_sI, jtk]
    · rw [if_neg hj]
      simp [gI_sI, gL_sI, gR_sI, gI_sL, gL_sL, gR_sL, gI_sR, gL_sR, gR_sR, hj]
  have hn2 : narrow (jty a b) (.int x) = .int x ∧ fits (jty a b) (.int x) = true := by
    rw [hty]
    rcases hz with rfl | rfl <;> exact ⟨rfl, rfl⟩
  skip
  skip
  refine jw_put hx hb hown hts hK hR (jflp_nm hk hnm) h0 hn2.1 hn2.2 hd (fun H1 z e1 e2 e3 h12 => ?_)
  have hset : (jflds G μ r a).set b (.int x) = jflds G (sI μ r b x) r a := by
    have hs := jflds_set (G := G) (μ := μ) (ν := sI μ r b x) (a := r) (t := a) (k := b) (fun j hj => by rw [hfv, if_neg hj])
    rw [hs, hfv, if_pos rfl]
  have hsh' : (gS (sI μ r b x) r).1 = a := h0
  refine h G p l e R s0 m args below meth c0 Z hc he H1 _ LS hl (jrep_fld (b := b) hR h12 h0 ha (jW_sI h12.1 h12.2 ((jcell_o hsh' ha).trans (congrArg (fun z => (.inr (a, z) : va_E)) hset.symm))) rfl (jok_sI hR.2.2.2.1) rfl (fun j => by rw [gI_sI, if_neg (by omega)]) e1 e2 e3) (jva_put hS h12.1 e2 e3)
theorem jo_putl {i : Nat} (hd : decode (jmB n) pc = .ok (.putfield i, 3)) (hk : jflp (jmO n) i a b (jmY n).name) (hty : jty a b = .long) (h : jrl stk (fun r x s => (gS μ r).1 = a ∧ jR d n (pc + 3) ls s al (sL μ r b x) Q)) : jR d n pc ls stk al μ Q := by
  obtain ⟨r, x, s, rfl, h0, h⟩ := jrl_inv h
  intro G p l e R s0 m args below meth c0 Z hc he H locs LS hl hR hS
  have hh := hc
  obtain ⟨hx, hb, hml, hown, hts, hK, hsz, hnm, hfr, hlo, hce, hsl⟩ := hh
  obtain ⟨ha, hbn⟩ := jci_lt hk
  have hfv : ∀ j, jfv G (sL μ r b x) a j r = if j = b then .long x else jfv G μ a j r := fun j => by
    unfold jfv
    by_cases hj : j = b
    · subst hj
      rw [if_pos rfl, hty]
      simp [gL_sL, jtk]
    · rw [if_neg hj]
      simp [gI_sI, gL_sI, gR_sI, gI_sL, gL_sL, gR_sL, gI_sR, gL_sR, gR_sR, hj]
  have hn2 : narrow (jty a b) (.long x) = .long x ∧ fits (jty a b) (.long x) = true := by rw [hty]; exact ⟨rfl, rfl⟩
  skip
  skip
  refine jw_put hx hb hown hts hK hR (jflp_nm hk hnm) h0 hn2.1 hn2.2 hd (fun H1 z e1 e2 e3 h12 => ?_)
  have hset : (jflds G μ r a).set b (.long x) = jflds G (sL μ r b x) r a := by
    have hs := jflds_set (G := G) (μ := μ) (ν := sL μ r b x) (a := r) (t := a) (k := b) (fun j hj => by rw [hfv, if_neg hj])
    rw [hs, hfv, if_pos rfl]
  have hsh' : (gS (sL μ r b x) r).1 = a := h0
  refine h G p l e R s0 m args below meth c0 Z hc he H1 _ LS hl (jrep_fld (b := b) hR h12 h0 ha (jW_sL h12.1 h12.2 ((jcell_o hsh' ha).trans (congrArg (fun z => (.inr (a, z) : va_E)) hset.symm))) rfl (jok_sL hR.2.2.2.1) rfl (fun j => rfl) e1 e2 e3) (jva_put hS h12.1 e2 e3)
theorem jo_putr {i : Nat} (hd : decode (jmB n) pc = .ok (.putfield i, 3)) (hk : jflp (jmO n) i a b (jmY n).name) (hty : jtk (jty a b) = 2) (h : jrr stk (fun r x s => (gS μ r).1 = a ∧ jR d n (pc + 3) ls s al (sR μ r b x) Q)) : jR d n pc ls stk al μ Q := by
  obtain ⟨r, x, s, rfl, h0, h⟩ := jrr_inv h
  intro G p l e R s0 m args below meth c0 Z hc he H locs LS hl hR hS
  have hh := hc
  obtain ⟨hx, hb, hml, hown, hts, hK, hsz, hnm, hfr, hlo, hce, hsl⟩ := hh
  obtain ⟨ha, hbn⟩ := jci_lt hk
  have hfv : ∀ j, jfv G (sR μ r b x) a j r = if j = b then va_rf (x.map (jad G)) else jfv G μ a j r := fun j => by
    unfold jfv
    by_cases hj : j = b
    · subst hj
      rw [if_pos rfl, hty]
      simp [gR_sR, jtk]
    · rw [if_neg hj]
      simp [gI_sI, gL_sI, gR_sI, gI_sL, gL_sL, gR_sL, gI_sR, gL_sR, gR_sR, hj]
  have hn2 : narrow (jty a b) (va_rf (x.map (jad G))) = va_rf (x.map (jad G)) ∧ fits (jty a b) (va_rf (x.map (jad G))) = true := jnw_fits _ hty
  show W _ _ _ _ _ _ _ _ _ _ _ _ _ _ _ (F0 m pc LS (jcv G (jrv x) :: .ref (jad G r) :: s.map (jcv G)))
  rw [jcv_rv]
  refine jw_put hx hb hown hts hK hR (jflp_nm hk hnm) h0 hn2.1 hn2.2 hd (fun H1 z e1 e2 e3 h12 => ?_)
  have hset : (jflds G μ r a).set b (va_rf (x.map (jad G))) = jflds G (sR μ r b x) r a := by
    have hs := jflds_set (G := G) (μ := μ) (ν := sR μ r b x) (a := r) (t := a) (k := b) (fun j hj => by rw [hfv, if_neg hj])
    rw [hs, hfv, if_pos rfl]
  have hsh' : (gS (sR μ r b x) r).1 = a := h0
  refine h G p l e R s0 m args below meth c0 Z hc he H1 _ LS hl (jrep_fld (b := b) hR h12 h0 ha (jW_sR h12.1 h12.2 ((jcell_o hsh' ha).trans (congrArg (fun z => (.inr (a, z) : va_E)) hset.symm))) rfl (jok_sR hR.2.2.2.1) rfl (fun j => rfl) e1 e2 e3) (jva_put hS h12.1 e2 e3)
theorem jo_putfield {i : Nat} (hd : decode (jmB n) pc = .ok (.putfield i, 3)) (hk : jx_lk n pc (.putfield i) a b c v) (h : jput c b stk μ (fun r s ν => (gS μ r).1 = a ∧ jR d n (pc + 3) ls s al ν Q)) : jR d n pc ls stk al μ Q := by
  obtain ⟨hj, hk1, hk2, hk3, hk4⟩ := (show jflp (jmO n) i a b (jmY n).name ∧ jtk (jty a b) = c ∧ (c = 0 → jty a b = .int) ∧ (c = 1 → jty a b = .long) ∧ (c = 2 ∨ c < 2 ∨ jty a b = .boolean) from hk)
  match c, h with
  | 0, h => exact jo_puti hd hj (hk2 rfl) h
  | 1, h => exact jo_putl hd hj (hk3 rfl) h
  | 2, h => exact jo_putr hd hj hk1 h
  | c + 3, h => exact jo_putz hd hj (by rcases hk4 with h | h | h <;> first | exact h | omega) h
end JSO
