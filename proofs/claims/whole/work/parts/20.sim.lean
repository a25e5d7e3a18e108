/-! evaluation: one rule a shape of the stack -/
theorem j1i_c (x : Int32) (s : List Value) (K : Int32 → List Value → Prop) : j1i (.int x :: s) K = K x s := rfl
theorem j2i_c (x y : Int32) (s : List Value) (K : Int32 → Int32 → List Value → Prop) : j2i (.int y :: .int x :: s) K = K x y s := rfl
theorem j1l_c (x : Int64) (s : List Value) (K : Int64 → List Value → Prop) : j1l (.long x :: s) K = K x s := rfl
theorem j2l_c (x y : Int64) (s : List Value) (K : Int64 → Int64 → List Value → Prop) : j2l (.long y :: .long x :: s) K = K x y s := rfl
theorem jil_c (x : Int64) (y : Int32) (s : List Value) (K : Int64 → Int32 → List Value → Prop) : jil (.int y :: .long x :: s) K = K x y s := rfl
theorem j1r_c (x : Nat) (s : List Value) (K : Nat → List Value → Prop) : j1r (.ref x :: s) K = K x s := rfl
theorem jri_c (x : Nat) (i : Int32) (s : List Value) (K : Nat → Int32 → List Value → Prop) : jri (.int i :: .ref x :: s) K = K x i s := rfl
theorem jrii_c (x : Nat) (i y : Int32) (s : List Value) (K : Nat → Int32 → Int32 → List Value → Prop) : jrii (.int y :: .int i :: .ref x :: s) K = K x i y s := rfl
theorem jril_c (x : Nat) (i : Int32) (y : Int64) (s : List Value) (K : Nat → Int32 → Int64 → List Value → Prop) : jril (.long y :: .int i :: .ref x :: s) K = K x i y s := rfl
theorem jrl_c (x : Nat) (y : Int64) (s : List Value) (K : Nat → Int64 → List Value → Prop) : jrl (.long y :: .ref x :: s) K = K x y s := rfl
theorem jrr_c (x y : Nat) (s : List Value) (K : Nat → Option Nat → List Value → Prop) : jrr (.ref y :: .ref x :: s) K = K x (some y) s := rfl
theorem j2i'_c (x : Nat) (y : Int32) (s : List Value) (K : Nat → Int32 → List Value → Prop) : j2i' (.int y :: .ref x :: s) K = K x y s := rfl
theorem jdup_i (x : Int32) (s : List Value) (K : List Value → Prop) : jdup (.int x :: s) K = K (.int x :: .int x :: s) := rfl
theorem jdup_r (x : Nat) (s : List Value) (K : List Value → Prop) : jdup (.ref x :: s) K = K (.ref x :: .ref x :: s) := rfl
theorem jdup2_c (x : Int32) (a : Nat) (s : List Value) (K : List Value → Prop) : jdup2 (.int x :: .ref a :: s) K = K (.int x :: .ref a :: .int x :: .ref a :: s) := rfl
theorem jdup2_l (x : Int64) (s : List Value) (K : List Value → Prop) : jdup2 (.long x :: s) K = K (.long x :: .long x :: s) := rfl
theorem jpo_c (x : Int32) (s : List Value) (K : List Value → Prop) : jpo (.int x :: s) K = K s := rfl
theorem jpop_0 (acc s : List Value) (K : List Value → List Value → Prop) : jpop 0 acc s K = K acc s := rfl
theorem jpop_1 (k : Nat) (x : Value) (acc s : List Value) (K : List Value → List Value → Prop) : jpop (k + 1) acc (x :: s) K = jpop k (x :: acc) s K := rfl
theorem jcl_s (d a : Nat) (as : List Value) (μ : jMem) (P : jQ) : jcl (d + 1) a as μ P = jC d a as μ P := rfl
theorem jrv_s (a : Nat) : jrv (some a) = .ref a := rfl
theorem jgv_1 (μ : jMem) (r b : Nat) : jgv 1 μ r b = .long (gL μ r b) := rfl
theorem jgv_2 (μ : jMem) (r b : Nat) : jgv 2 μ r b = jrv (gR μ r b) := rfl
theorem jgv_0 (μ : jMem) (r b : Nat) : jgv 0 μ r b = .int (gI μ r b) := rfl
theorem jgv_3 (μ : jMem) (r b : Nat) : jgv 3 μ r b = .int (gI μ r b) := rfl
theorem jput_0 (b : Nat) (stk : List Value) (μ : jMem) (K : Nat → List Value → jMem → Prop) : jput 0 b stk μ K = j2i' stk (fun r x s => K r s (sI μ r b x)) := rfl
theorem jput_1 (b : Nat) (stk : List Value) (μ : jMem) (K : Nat → List Value → jMem → Prop) : jput 1 b stk μ K = jrl stk (fun r x s => K r s (sL μ r b x)) := rfl
theorem jput_2 (b : Nat) (stk : List Value) (μ : jMem) (K : Nat → List Value → jMem → Prop) : jput 2 b stk μ K = jrr stk (fun r x s => K r s (sR μ r b x)) := rfl
theorem jput_3 (b : Nat) (stk : List Value) (μ : jMem) (K : Nat → List Value → jMem → Prop) : jput 3 b stk μ K = j2i' stk (fun r x s => (x = 0 ∨ x = 1) ∧ K r s (sI μ r b x)) := rfl
theorem jol_i (x : Int32) (s : List Value) : (some (Value.int x)).toList ++ s = .int x :: s := rfl
theorem jol_l (x : Int64) (s : List Value) : (some (Value.long x)).toList ++ s = .long x :: s := rfl
theorem jol_n (s : List Value) : (none : Option Value).toList ++ s = s := rfl
theorem jat_0 (x : Option Value) (t : List (Option Value)) : jat (x :: t) 0 = x := rfl
theorem jat_s (x : Option Value) (t : List (Option Value)) (k : Nat) : jat (x :: t) (k + 1) = jat t k := rfl
theorem jkill_i (x : Int32) : jkill (some (.int x)) = some (.int x) := rfl
theorem jkill_r (x : Nat) : jkill (some (.ref x)) = some (.ref x) := rfl
theorem jkill_l (x : Int64) : jkill (some (.long x)) = none := rfl
theorem jkill_n : jkill none = none := rfl
theorem jcI (x : Int32) : (Value.int x).category = 1 := rfl
theorem jcL (x : Int64) : (Value.long x).category = 2 := rfl
theorem jcR (x : Nat) : (Value.ref x).category = 1 := rfl

/-! int literals as numbers -/
theorem li_0 : (0 : Int32) = nI 0 := rfl
theorem li_1 : (1 : Int32) = nI 1 := rfl
theorem li_2 : (2 : Int32) = nI 2 := rfl
theorem li_3 : (3 : Int32) = nI 3 := rfl
theorem li_4 : (4 : Int32) = nI 4 := rfl
theorem li_5 : (5 : Int32) = nI 5 := rfl
theorem li_6 : (6 : Int32) = nI 6 := rfl
theorem li_7 : (7 : Int32) = nI 7 := rfl
theorem li_8 : (8 : Int32) = nI 8 := rfl
theorem li_9 : (9 : Int32) = nI 9 := rfl
theorem li_10 : (10 : Int32) = nI 10 := rfl
theorem li_11 : (11 : Int32) = nI 11 := rfl
theorem li_12 : (12 : Int32) = nI 12 := rfl
theorem li_13 : (13 : Int32) = nI 13 := rfl
theorem li_14 : (14 : Int32) = nI 14 := rfl
theorem li_15 : (15 : Int32) = nI 15 := rfl
theorem li_16 : (16 : Int32) = nI 16 := rfl
theorem li_17 : (17 : Int32) = nI 17 := rfl
theorem li_18 : (18 : Int32) = nI 18 := rfl
theorem li_19 : (19 : Int32) = nI 19 := rfl
theorem li_20 : (20 : Int32) = nI 20 := rfl
theorem li_21 : (21 : Int32) = nI 21 := rfl
theorem li_22 : (22 : Int32) = nI 22 := rfl
theorem li_23 : (23 : Int32) = nI 23 := rfl
theorem li_24 : (24 : Int32) = nI 24 := rfl
theorem li_25 : (25 : Int32) = nI 25 := rfl
theorem li_26 : (26 : Int32) = nI 26 := rfl
theorem li_27 : (27 : Int32) = nI 27 := rfl
theorem li_28 : (28 : Int32) = nI 28 := rfl
theorem li_29 : (29 : Int32) = nI 29 := rfl
theorem li_30 : (30 : Int32) = nI 30 := rfl
theorem li_31 : (31 : Int32) = nI 31 := rfl
theorem li_32 : (32 : Int32) = nI 32 := rfl
theorem li_33 : (33 : Int32) = nI 33 := rfl
theorem li_34 : (34 : Int32) = nI 34 := rfl
theorem li_35 : (35 : Int32) = nI 35 := rfl
theorem li_36 : (36 : Int32) = nI 36 := rfl
theorem li_37 : (37 : Int32) = nI 37 := rfl
theorem li_38 : (38 : Int32) = nI 38 := rfl
theorem li_39 : (39 : Int32) = nI 39 := rfl
theorem li_40 : (40 : Int32) = nI 40 := rfl
theorem li_48 : (48 : Int32) = nI 48 := rfl
theorem li_50 : (50 : Int32) = nI 50 := rfl
theorem li_57 : (57 : Int32) = nI 57 := rfl
theorem li_59 : (59 : Int32) = nI 59 := rfl
theorem li_60 : (60 : Int32) = nI 60 := rfl
theorem li_63 : (63 : Int32) = nI 63 := rfl
theorem li_64 : (64 : Int32) = nI 64 := rfl
theorem li_65 : (65 : Int32) = nI 65 := rfl
theorem li_90 : (90 : Int32) = nI 90 := rfl
theorem li_96 : (96 : Int32) = nI 96 := rfl
theorem li_97 : (97 : Int32) = nI 97 := rfl
theorem li_99 : (99 : Int32) = nI 99 := rfl
theorem li_100 : (100 : Int32) = nI 100 := rfl
theorem li_101 : (101 : Int32) = nI 101 := rfl
theorem li_105 : (105 : Int32) = nI 105 := rfl
theorem li_112 : (112 : Int32) = nI 112 := rfl
theorem li_114 : (114 : Int32) = nI 114 := rfl
theorem li_116 : (116 : Int32) = nI 116 := rfl
theorem li_119 : (119 : Int32) = nI 119 := rfl
theorem li_122 : (122 : Int32) = nI 122 := rfl
theorem li_128 : (128 : Int32) = nI 128 := rfl
theorem li_200 : (200 : Int32) = nI 200 := rfl
theorem li_255 : (255 : Int32) = nI 255 := rfl
theorem li_256 : (256 : Int32) = nI 256 := rfl
theorem li_500 : (500 : Int32) = nI 500 := rfl
theorem li_777 : (777 : Int32) = nI 777 := rfl
theorem li_1000 : (1000 : Int32) = nI 1000 := rfl
