/-! OPERATIONS: what an instruction asks and does, over locals, stack and memory -/
def j1i (stk : List Value) (K : Int32 → List Value → Prop) : Prop := match stk with | .int x :: s => K x s | _ => False
def j2i (stk : List Value) (K : Int32 → Int32 → List Value → Prop) : Prop := match stk with | .int y :: .int x :: s => K x y s | _ => False
def j1l (stk : List Value) (K : Int64 → List Value → Prop) : Prop := match stk with | .long x :: s => K x s | _ => False
def j2l (stk : List Value) (K : Int64 → Int64 → List Value → Prop) : Prop := match stk with | .long y :: .long x :: s => K x y s | _ => False
def jil (stk : List Value) (K : Int64 → Int32 → List Value → Prop) : Prop := match stk with | .int y :: .long x :: s => K x y s | _ => False
def j1r (stk : List Value) (K : Nat → List Value → Prop) : Prop := match stk with | .ref a :: s => K a s | _ => False
def jri (stk : List Value) (K : Nat → Int32 → List Value → Prop) : Prop := match stk with | .int i :: .ref a :: s => K a i s | _ => False
def jrii (stk : List Value) (K : Nat → Int32 → Int32 → List Value → Prop) : Prop := match stk with | .int x :: .int i :: .ref a :: s => K a i x s | _ => False
def jril (stk : List Value) (K : Nat → Int32 → Int64 → List Value → Prop) : Prop := match stk with | .long x :: .int i :: .ref a :: s => K a i x s | _ => False
def jrl (stk : List Value) (K : Nat → Int64 → List Value → Prop) : Prop := match stk with | .long x :: .ref a :: s => K a x s | _ => False
def jrr (stk : List Value) (K : Nat → Option Nat → List Value → Prop) : Prop := match stk with | .ref b :: .ref a :: s => K a (some b) s | .null :: .ref a :: s => K a none s | _ => False
def jdup (stk : List Value) (K : List Value → Prop) : Prop := match stk with | .int x :: s => K (.int x :: .int x :: s) | .ref a :: s => K (.ref a :: .ref a :: s) | _ => False
def jdup2 (stk : List Value) (K : List Value → Prop) : Prop := match stk with | .int x :: .ref a :: s => K (.int x :: .ref a :: .int x :: .ref a :: s) | .long x :: s => K (.long x :: .long x :: s) | _ => False
def jpo (stk : List Value) (K : List Value → Prop) : Prop := match stk with | .int _ :: s => K s | _ => False
def jli (ls : List (Option Value)) (a : Nat) (K : Int32 → Prop) : Prop := match jat ls a with | some (.int x) => K x | _ => False
def jll (ls : List (Option Value)) (a : Nat) (K : Int64 → Prop) : Prop := match jat ls a with | some (.long x) => K x | _ => False
def jlr (ls : List (Option Value)) (a : Nat) (K : Nat → Prop) : Prop := match jat ls a with | some (.ref x) => K x | _ => False
def jpop : Nat → List Value → List Value → (List Value → List Value → Prop) → Prop
  | 0, acc, s, K => K acc s
  | k + 1, acc, x :: s, K => jpop k (x :: acc) s K
  | _ + 1, _, [], _ => False
def jc1 (o : Jvm.ClassFile.Cond) (x : Int32) : Prop := match o with | .eq => x = 0 | .ne => ¬ x = 0 | .lt => x < 0 | .ge => 0 ≤ x | .gt => 0 < x | .le => x ≤ 0
def jc2 (o : Jvm.ClassFile.Cond) (x y : Int32) : Prop := match o with | .eq => x = y | .ne => ¬ x = y | .lt => x < y | .ge => y ≤ x | .gt => y < x | .le => x ≤ y
def jvi (v : Value) : Int32 := match v with | .int x => x | _ => 0
def jcl (d a : Nat) (as : List Value) (μ : jMem) (P : jQ) : Prop := match d with | 0 => False | d + 1 => jC d a as μ P
def jsw (pc : Nat) (dflt lo hi : Int) (offs : Array Int) (x : Int32) (t : Nat) : Prop := ((x.toInt < lo ∨ hi < x.toInt) ∧ (pc : Int) + dflt = t) ∨ (¬ x.toInt < lo ∧ ¬ hi < x.toInt ∧ ∃ off, offs[(x.toInt - lo).toNat]? = some off ∧ (pc : Int) + off = t)
/-- what getfield finds: 1 a long, 2 a reference, else an int -/
def jgv (c : Nat) (μ : jMem) (r b : Nat) : Value := match c with | 1 => .long (gL μ r b) | 2 => jrv (gR μ r b) | _ => .int (gI μ r b)
def j2i' (stk : List Value) (K : Nat → Int32 → List Value → Prop) : Prop := match stk with | .int x :: .ref a :: s => K a x s | _ => False
def jput (c b : Nat) (stk : List Value) (μ : jMem) (K : Nat → List Value → jMem → Prop) : Prop := match c with
  | 0 => j2i' stk (fun r x s => K r s (sI μ r b x))
  | 1 => jrl stk (fun r x s => K r s (sL μ r b x))
  | 2 => jrr stk (fun r x s => K r s (sR μ r b x))
  | _ => j2i' stk (fun r x s => (x = 0 ∨ x = 1) ∧ K r s (sI μ r b x))

/-- an array of i arrays of k, each new: the outer one first -/
def jmulf (μ : jMem) (b k : Nat) : Nat → jMem
  | 0 => μ
  | i + 1 => sA (jmulf μ b k i) b k
def jrows (μ : jMem) (a i : Nat) : jMem := (μ.1, μ.2.1, fun x j => if x = a then (if j < i then some (a + 1 + j) else none) else gR μ x j, μ.2.2.2)
def jmul (μ : jMem) (a b i k : Nat) : jMem := jrows (jmulf (sA μ a i) b k i) (gN μ + 1) i
def jx_op (d n pc : Nat) (o : Instr) (a b c : Nat) (v : Value) (ls : List (Option Value)) (stk : List Value) (al : Nat × Nat) (μ : jMem) (Q : jQ) (K : List (Option Value) → List Value → Nat × Nat → jMem → Prop) : Prop := match o with
  | .iconst _ => K ls (v :: stk) al μ
  | .bipush _ => K ls (v :: stk) al μ
  | .sipush _ => K ls (v :: stk) al μ
  | .lconst _ => K ls (v :: stk) al μ
  | .ldc _ => K ls (v :: stk) al μ
  | .ldc_w _ => K ls (v :: stk) al μ
  | .ldc2_w _ => K ls (v :: stk) al μ
  | .iload_n _ => jli ls a (fun x => K ls (.int x :: stk) al μ)
  | .iload _ => jli ls a (fun x => K ls (.int x :: stk) al μ)
  | .lload_n _ => jll ls a (fun x => K ls (.long x :: stk) al μ)
  | .lload _ => jll ls a (fun x => K ls (.long x :: stk) al μ)
  | .aload_n _ => jlr ls a (fun x => K ls (.ref x :: stk) al μ)
  | .aload _ => jlr ls a (fun x => K ls (.ref x :: stk) al μ)
  | .istore_n _ => j1i stk (fun x s => K (jst ls a (.int x)) s al μ)
  | .istore _ => j1i stk (fun x s => K (jst ls a (.int x)) s al μ)
  | .lstore_n _ => j1l stk (fun x s => K (jst2 ls a (.long x)) s al μ)
  | .lstore _ => j1l stk (fun x s => K (jst2 ls a (.long x)) s al μ)
  | .astore_n _ => j1r stk (fun x s => K (jst ls a (.ref x)) s al μ)
  | .astore _ => j1r stk (fun x s => K (jst ls a (.ref x)) s al μ)
  | .iinc _ _ => jli ls a (fun x => K (jst ls a (.int (x + jvi v))) stk al μ)
  | .iadd => j2i stk (fun x y s => K ls (.int (x + y) :: s) al μ)
  | .isub => j2i stk (fun x y s => K ls (.int (x - y) :: s) al μ)
  | .imul => j2i stk (fun x y s => K ls (.int (x * y) :: s) al μ)
  | .iand => j2i stk (fun x y s => K ls (.int (x &&& y) :: s) al μ)
  | .ior => j2i stk (fun x y s => K ls (.int (x ||| y) :: s) al μ)
  | .ishl => j2i stk (fun x y s => K ls (.int (x <<< (y &&& 31)) :: s) al μ)
  | .ishr => j2i stk (fun x y s => K ls (.int (x >>> (y &&& 31)) :: s) al μ)
  | .idiv => j2i stk (fun x y s => ¬ y = 0 ∧ K ls (.int (x / y) :: s) al μ)
  | .irem => j2i stk (fun x y s => ¬ y = 0 ∧ K ls (.int (x - x / y * y) :: s) al μ)
  | .ladd => j2l stk (fun x y s => K ls (.long (x + y) :: s) al μ)
  | .lsub => j2l stk (fun x y s => K ls (.long (x - y) :: s) al μ)
  | .lmul => j2l stk (fun x y s => K ls (.long (x * y) :: s) al μ)
  | .land => j2l stk (fun x y s => K ls (.long (x &&& y) :: s) al μ)
  | .lor => j2l stk (fun x y s => K ls (.long (x ||| y) :: s) al μ)
  | .ldiv => j2l stk (fun x y s => ¬ y = 0 ∧ K ls (.long (x / y) :: s) al μ)
  | .lrem => j2l stk (fun x y s => ¬ y = 0 ∧ K ls (.long (x - x / y * y) :: s) al μ)
  | .lneg => j1l stk (fun x s => K ls (.long (-x) :: s) al μ)
  | .lshl => jil stk (fun x y s => K ls (.long (x <<< (y.toInt64 &&& 63)) :: s) al μ)
  | .lcmp => j2l stk (fun x y s => K ls (.int (lg_cmp x y) :: s) al μ)
  | .i2l => j1i stk (fun x s => K ls (.long x.toInt64 :: s) al μ)
  | .l2i => j1l stk (fun x s => K ls (.int x.toInt32 :: s) al μ)
  | .i2b => j1i stk (fun x s => K ls (.int x.toInt8.toInt32 :: s) al μ)
  | .i2s => j1i stk (fun x s => K ls (.int x.toInt16.toInt32 :: s) al μ)
  | .dup => jdup stk (fun s => K ls s al μ)
  | .dup2 => jdup2 stk (fun s => K ls s al μ)
  | .pop => jpo stk (fun s => K ls s al μ)
  | .getfield _ => j1r stk (fun r s => (gS μ r).1 = a ∧ K ls (jgv c μ r b :: s) al μ)
  | .putfield _ => jput c b stk μ (fun r s ν => (gS μ r).1 = a ∧ K ls s al ν)
  | .iaload => jri stk (fun r i s => ((gS μ r).1 = 100 ∧ vp_in i (gS μ r).2) ∧ K ls (.int (gI μ r i.toNatClampNeg) :: s) al μ)
  | .laload => jri stk (fun r i s => ((gS μ r).1 = 101 ∧ vp_in i (gS μ r).2) ∧ K ls (.long (gL μ r i.toNatClampNeg) :: s) al μ)
  | .baload => jri stk (fun r i s => (((gS μ r).1 = 102 ∨ (gS μ r).1 = 103) ∧ vp_in i (gS μ r).2) ∧ K ls (.int (gI μ r i.toNatClampNeg) :: s) al μ)
  | .aaload => jri stk (fun r i s => (((gS μ r).1 = 104 ∨ (gS μ r).1 = 105) ∧ vp_in i (gS μ r).2) ∧ K ls (jrv (gR μ r i.toNatClampNeg) :: s) al μ)
  | .iastore => jrii stk (fun r i x s => (¬ r = 0 ∧ (gS μ r).1 = 100 ∧ vp_in i (gS μ r).2) ∧ K ls s al (sI μ r i.toNatClampNeg x))
  | .lastore => jril stk (fun r i x s => ((gS μ r).1 = 101 ∧ vp_in i (gS μ r).2) ∧ K ls s al (sL μ r i.toNatClampNeg x))
  | .bastore => jrii stk (fun r i x s => (((gS μ r).1 = 102 ∧ x.toInt8.toInt32 = x ∨ (gS μ r).1 = 103 ∧ (x = 0 ∨ x = 1)) ∧ vp_in i (gS μ r).2) ∧ K ls s al (sI μ r i.toNatClampNeg x))
  | .arraylength => j1r stk (fun r s => 100 ≤ (gS μ r).1 ∧ (gS μ r).1 ≤ 105 ∧ K ls (.int (Int32.ofNat (gS μ r).2) :: s) al μ)
  | .ifCond o _ => j1i stk (fun x s => (jc1 o x → jR d n a ls s al μ Q) ∧ (¬ jc1 o x → K ls s al μ))
  | .if_icmp o _ => j2i stk (fun x y s => (jc2 o x y → jR d n a ls s al μ Q) ∧ (¬ jc2 o x y → K ls s al μ))
  | .goto _ => jR d n a ls stk al μ Q
  | .ireturn => j1i stk (fun x s => (b = 0 ∨ x = 0 ∨ x = 1) ∧ (s = [] ∧ al.1 ≤ jmC n ∧ al.2 ≤ jmS n) ∧ Q (some (.int x)) μ)
  | .lreturn => j1l stk (fun x s => (s = [] ∧ al.1 ≤ jmC n ∧ al.2 ≤ jmS n) ∧ Q (some (.long x)) μ)
  | .return_ => (stk = [] ∧ al.1 ≤ jmC n ∧ al.2 ≤ jmS n) ∧ Q none μ
  | .tableswitch dflt lo hi offs => j1i stk (fun x s => ∀ t : Nat, jsw pc dflt lo hi offs x t → jR d n t ls s al μ Q)
  | .invokevirtual _ => jpop b [] stk (fun as s => j1r s (fun r s => ((gS μ r).1 = c ∧ (s.map Value.category).sum ≤ 8 ∧ al.1 ≤ jmC n ∧ al.2 ≤ jmS n) ∧ jcl d a (.ref r :: as) μ (fun v ν => K ls (v.toList ++ s) al ν)))
  | .invokestatic _ => match a with
    | 1001 => j2i stk (fun x y s => (s.map Value.category).sum ≤ 8 ∧ 1 ≤ d ∧ (al.1 ≤ jmC n ∧ al.2 ≤ jmS n) ∧ K ls (.int (if x < y then y else x) :: s) al μ)
    | 1002 => j2i stk (fun x y s => (s.map Value.category).sum ≤ 8 ∧ 1 ≤ d ∧ (al.1 ≤ jmC n ∧ al.2 ≤ jmS n) ∧ K ls (.int (if y < x then y else x) :: s) al μ)
    | 1003 => j1l stk (fun x s => (s.map Value.category).sum ≤ 8 ∧ 1 ≤ d ∧ (al.1 ≤ jmC n ∧ al.2 ≤ jmS n) ∧ K ls (.long (if 0 < x then x else -x) :: s) al μ)
    | 1004 => j2l stk (fun x y s => (s.map Value.category).sum ≤ 8 ∧ 1 ≤ d ∧ (al.1 ≤ jmC n ∧ al.2 ≤ jmS n) ∧ K ls (.long (if y < x then x else y) :: s) al μ)
    | _ => jpop b [] stk (fun as s => ((s.map Value.category).sum ≤ 8 ∧ al.1 ≤ jmC n ∧ al.2 ≤ jmS n) ∧ jcl d a as μ (fun v ν => K ls (v.toList ++ s) al ν))
  | .invokespecial _ => match a with
    | 1000 => j1r stk (fun _ s => (s.map Value.category).sum ≤ 8 ∧ 1 ≤ d ∧ K ls s al μ)
    | _ => jpop b [] stk (fun as s => j1r s (fun r s => ((s.map Value.category).sum ≤ 8 ∧ al.1 + jmC a ≤ jmC n ∧ al.2 + jmS a ≤ jmS n) ∧ jcl d a (.ref r :: as) μ (fun v ν => K ls (v.toList ++ s) (al.1 + jmC a, al.2 + jmS a) ν)))
  | .new _ => (al.1 + 1 ≤ jmC n ∧ al.2 + b ≤ jmS n) ∧ K ls (.ref (gN μ + 1) :: stk) (al.1 + 1, al.2 + b) (sA μ a b)
  | .newarray _ => j1i stk (fun x s => ∃ k : Nat, x = Int32.ofNat k ∧ k < 100000 ∧ (al.1 + 1 ≤ jmC n ∧ al.2 + k ≤ jmS n) ∧ K ls (.ref (gN μ + 1) :: s) (al.1 + 1, al.2 + k) (sA μ a k))
  | .multianewarray _ _ => j2i stk (fun x y s => ∃ i k : Nat, x = Int32.ofNat i ∧ y = Int32.ofNat k ∧ i < 1000 ∧ k < 1000 ∧ (al.1 + 1 + i ≤ jmC n ∧ al.2 + i + i * k ≤ jmS n) ∧ K ls (.ref (gN μ + 1) :: s) (al.1 + 1 + i, al.2 + i + i * k) (jmul μ a b i k))
  | _ => False
