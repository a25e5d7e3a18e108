/-! numbers below 2^31 as ints: equations with side conditions -/
section JA0
variable {a b k N : Nat}
theorem an_lt (ha : a < 2147483648) (hb : b < 2147483648) : (nI a < nI b) = (a < b) := propext (nI_ltI ha hb)
theorem an_le (ha : a < 2147483648) (hb : b < 2147483648) : (nI a ≤ nI b) = (a ≤ b) := propext (nI_leI ha hb)
theorem an_eq (ha : a < 2147483648) (hb : b < 2147483648) : (nI a = nI b) = (a = b) := propext (nI_eq ha hb)
theorem an_lt0 (ha : a < 2147483648) : (nI a < 0) = False := eq_false (nI_pos ha)
theorem an_0le (ha : a < 2147483648) : (0 ≤ nI a) = True := eq_true (nI_pos' ha)
theorem an_0lt (ha : a < 2147483648) : (0 < nI a) = (0 < a) := an_lt (a := 0) (by omega) ha
theorem an_le0 (ha : a < 2147483648) : (nI a ≤ 0) = (a = 0) := (an_le (b := 0) ha (by omega)).trans (propext (by omega))
theorem an_eq0 (ha : a < 2147483648) : (nI a = 0) = (a = 0) := an_eq (b := 0) ha (by omega)
theorem an_eq1 (ha : a < 2147483648) : (nI a = 1) = (a = 1) := an_eq (b := 1) ha (by omega)
theorem an_1lt (ha : a < 2147483648) : (1 < nI a) = (1 < a) := an_lt (a := 1) (by omega) ha
theorem an_le1 (ha : a < 2147483648) : (nI a ≤ 1) = (a ≤ 1) := an_le (b := 1) ha (by omega)
theorem an_1le (ha : a < 2147483648) : (1 ≤ nI a) = (1 ≤ a) := an_le (a := 1) (by omega) ha
theorem an_lt1 (ha : a < 2147483648) : (nI a < 1) = (a < 1) := an_lt (b := 1) ha (by omega)
theorem an_eqm (ha : a < 2147483648) : (nI a = -1) = False := eq_false (fun q => by
  have := nI_pos' ha
  rw [q] at this
  exact absurd this (by decide))
theorem an_sub (h : b ≤ a) : nI a - nI b = nI (a - b) := pk_sub h
theorem an_sub1 (h : 1 ≤ a) : nI a - 1 = nI (a - 1) := pk_sub (b := 1) h
theorem an_1a (a : Nat) : 1 + nI a = nI (1 + a) := nI_add 1 a
theorem an_div (ha : a < 2147483648) (h0 : 0 < b) (hb : b < 2147483648) : nI a / nI b = nI (a / b) := pk_div ha h0 hb
theorem an_rem (a b : Nat) : nI a - nI (a / b * b) = nI (a % b) := by
  rw [pk_sub (Nat.div_mul_le_self a b)]
  have := Nat.div_add_mod' a b
  congr 1
  omega
theorem an_nm (a b : Nat) : a - a / b * b = a % b := by
  have := Nat.div_add_mod' a b
  omega
theorem an_in (hN : N < 2147483648) (hk : k < N) : vp_in (nI k) N = True := eq_true (vp_in_nI hk hN)
theorem an_in0 (hN : N < 2147483648) (hk : 0 < N) : vp_in 0 N = True := eq_true (vp_in_nI (n := 0) hk hN)
theorem an_in1 (hN : N < 2147483648) (hk : 1 < N) : vp_in 1 N = True := eq_true (vp_in_nI (n := 1) hk hN)
theorem an_cl (ha : a < 2147483648) : (nI a).toNatClampNeg = a := nI_clamp ha
theorem an_cl0 : (0 : Int32).toNatClampNeg = 0 := by decide
theorem an_cl1 : (1 : Int32).toNatClampNeg = 1 := by decide
theorem jz01 : ((0 : Int32) = 1) = False := by decide
theorem j00 : ((0 : Int32) = 0) = True := by decide
theorem j11 : ((1 : Int32) = 1) = True := by decide
theorem an_ite (c : Prop) [Decidable c] (a b : Nat) : (if c then nI a else nI b) = nI (if c then a else b) := by split <;> rfl
theorem al_lt (ha : a < 9223372036854775808) (hb : b < 9223372036854775808) : (lN a < lN b) = (a < b) := propext (pk_lLT ha hb)
theorem al_le (ha : a < 9223372036854775808) (hb : b < 9223372036854775808) : (lN a ≤ lN b) = (a ≤ b) := propext (pk_lLE ha hb)
theorem al_eq (ha : a < 9223372036854775808) (hb : b < 9223372036854775808) : (lN a = lN b) = (a = b) := propext (pk_lEQ ha hb)
theorem al_div (ha : a < 9223372036854775808) (h0 : 0 < b) (hb : b < 9223372036854775808) : lN a / lN b = lN (a / b) := pk_lDiv ha h0 hb
theorem al_rem (a b : Nat) : lN a - lN (a / b * b) = lN (a % b) := by
  rw [lN_sub (Nat.div_mul_le_self a b)]
  have := Nat.div_add_mod' a b
  congr 1
  omega
theorem an_of (k : Nat) : Int32.ofNat k = nI k := by unfold nI; rfl
theorem ll_0 : (0 : Int64) = lN 0 := rfl
theorem br_d {c A B : Prop} (a : ¬ c → A) (b : c → B) : (¬ c → A) ∧ (c → B) := ⟨a, b⟩
theorem lj_2 : (2 : Int32) = nI 2 := by decide
theorem lj_3 : (3 : Int32) = nI 3 := by decide
theorem lj_4 : (4 : Int32) = nI 4 := by decide
theorem lj_5 : (5 : Int32) = nI 5 := by decide
theorem lj_6 : (6 : Int32) = nI 6 := by decide
theorem lj_7 : (7 : Int32) = nI 7 := by decide
theorem lj_8 : (8 : Int32) = nI 8 := by decide
theorem lj_9 : (9 : Int32) = nI 9 := by decide
theorem lj_10 : (10 : Int32) = nI 10 := by decide
theorem lj_11 : (11 : Int32) = nI 11 := by decide
theorem lj_12 : (12 : Int32) = nI 12 := by decide
theorem lj_13 : (13 : Int32) = nI 13 := by decide
theorem lj_14 : (14 : Int32) = nI 14 := by decide
theorem lj_15 : (15 : Int32) = nI 15 := by decide
theorem lj_16 : (16 : Int32) = nI 16 := by decide
theorem lj_17 : (17 : Int32) = nI 17 := by decide
theorem lj_18 : (18 : Int32) = nI 18 := by decide
theorem lj_19 : (19 : Int32) = nI 19 := by decide
theorem lj_20 : (20 : Int32) = nI 20 := by decide
theorem lj_21 : (21 : Int32) = nI 21 := by decide
theorem lj_22 : (22 : Int32) = nI 22 := by decide
theorem lj_23 : (23 : Int32) = nI 23 := by decide
theorem lj_24 : (24 : Int32) = nI 24 := by decide
theorem lj_25 : (25 : Int32) = nI 25 := by decide
theorem lj_26 : (26 : Int32) = nI 26 := by decide
theorem lj_27 : (27 : Int32) = nI 27 := by decide
theorem lj_28 : (28 : Int32) = nI 28 := by decide
theorem lj_29 : (29 : Int32) = nI 29 := by decide
theorem lj_30 : (30 : Int32) = nI 30 := by decide
theorem lj_31 : (31 : Int32) = nI 31 := by decide
theorem lj_32 : (32 : Int32) = nI 32 := by decide
theorem lj_33 : (33 : Int32) = nI 33 := by decide
theorem lj_34 : (34 : Int32) = nI 34 := by decide
theorem lj_35 : (35 : Int32) = nI 35 := by decide
theorem lj_36 : (36 : Int32) = nI 36 := by decide
theorem lj_37 : (37 : Int32) = nI 37 := by decide
theorem lj_38 : (38 : Int32) = nI 38 := by decide
theorem lj_39 : (39 : Int32) = nI 39 := by decide
theorem lj_40 : (40 : Int32) = nI 40 := by decide
theorem lj_48 : (48 : Int32) = nI 48 := by decide
theorem lj_50 : (50 : Int32) = nI 50 := by decide
theorem lj_57 : (57 : Int32) = nI 57 := by decide
theorem lj_59 : (59 : Int32) = nI 59 := by decide
theorem lj_60 : (60 : Int32) = nI 60 := by decide
theorem lj_63 : (63 : Int32) = nI 63 := by decide
theorem lj_64 : (64 : Int32) = nI 64 := by decide
theorem lj_65 : (65 : Int32) = nI 65 := by decide
theorem lj_90 : (90 : Int32) = nI 90 := by decide
theorem lj_96 : (96 : Int32) = nI 96 := by decide
theorem lj_97 : (97 : Int32) = nI 97 := by decide
theorem lj_99 : (99 : Int32) = nI 99 := by decide
theorem lj_100 : (100 : Int32) = nI 100 := by decide
theorem lj_101 : (101 : Int32) = nI 101 := by decide
theorem lj_105 : (105 : Int32) = nI 105 := by decide
theorem lj_112 : (112 : Int32) = nI 112 := by decide
theorem lj_114 : (114 : Int32) = nI 114 := by decide
theorem lj_116 : (116 : Int32) = nI 116 := by decide
theorem lj_119 : (119 : Int32) = nI 119 := by decide
theorem lj_122 : (122 : Int32) = nI 122 := by decide
theorem lj_128 : (128 : Int32) = nI 128 := by decide
theorem lj_200 : (200 : Int32) = nI 200 := by decide
theorem lj_255 : (255 : Int32) = nI 255 := by decide
theorem lj_256 : (256 : Int32) = nI 256 := by decide
theorem lj_500 : (500 : Int32) = nI 500 := by decide
theorem lj_777 : (777 : Int32) = nI 777 := by decide
theorem lj_1000 : (1000 : Int32) = nI 1000 := by decide
theorem jap_n (s : List Value) : List.append [] s = s := rfl
theorem jap_c (x : Value) (a s : List Value) : List.append (x :: a) s = x :: List.append a s := rfl
/-- a goal that is held -/
def jhold (p : Prop) : Prop := True → p
theorem jh_i {p : Prop} (h : jhold p) : p := h trivial
theorem jh_o {p : Prop} (h : p) : jhold p := fun _ => h
/-! a block is walked only where its stack is known -/
theorem jb_e0 {d n pc : Nat} {ls : List (Option Value)} {al : Nat × Nat} {μ : jMem} {Q : jQ} : jx_blk d n [] pc ls [] al μ Q = jR d n pc ls [] al μ Q := rfl
theorem jb_ec {d n pc : Nat} {ls : List (Option Value)} {x : Value} {s : List Value} {al : Nat × Nat} {μ : jMem} {Q : jQ} : jx_blk d n [] pc ls (x :: s) al μ Q = jR d n pc ls (x :: s) al μ Q := rfl
theorem jb_n {d n pc k a b c : Nat} {o : Instr} {v : Value} {r : List _} {ls : List (Option Value)} {al : Nat × Nat} {μ : jMem} {Q : jQ} : jx_blk d n ((o, k, a, b, c, v) :: r) pc ls [] al μ Q = jx_op d n pc o a b c v ls [] al μ Q (fun ls stk al μ => jx_blk d n r (pc + k) ls stk al μ Q) := rfl
theorem jb_c {d n pc k a b c : Nat} {o : Instr} {v x : Value} {r : List _} {ls : List (Option Value)} {s : List Value} {al : Nat × Nat} {μ : jMem} {Q : jQ} : jx_blk d n ((o, k, a, b, c, v) :: r) pc ls (x :: s) al μ Q = jx_op d n pc o a b c v ls (x :: s) al μ Q (fun ls stk al μ => jx_blk d n r (pc + k) ls stk al μ Q) := rfl
end JA0
/-! calls that write scratch cells alone -/
/-- scratch objects -/
def jso (a : Nat) : Bool := (decide (38 ≤ a) && decide (a ≤ 101)) || [104, 105, 106, 107, 108, 109, 110, 111, 114, 115, 116, 117, 118, 119, 120, 121, 122, 123, 124, 126, 127, 129, 131, 132, 139, 141, 143, 146, 147, 149, 153, 154, 155, 156, 157, 160, 162, 163, 164, 165, 166, 167, 168, 169, 170, 171].contains a
def jsc (f : Bool) (a k : Nat) : Bool := jso a || (a == 1 && (k == 0 || f && decide (k ≤ 2))) || (a == 133 && (decide (k ≤ 1) || f && decide (k ≤ 3) || [12, 13, 14, 15, 16, 17, 18, 19, 22, 23, 26, 27, 29, 60, 61, 63, 64, 72, 73, 76, 77, 78].contains k))
def jEv (f : Bool) (μ ν : jMem) : Prop := (∀ a k, jsc f a k = false → gI ν a k = gI μ a k ∧ gL ν a k = gL μ a k) ∧ (∀ a k, gR ν a k = gR μ a k) ∧ (∀ a, gS ν a = gS μ a) ∧ gN ν = gN μ
theorem jEv.rf {f : Bool} {μ : jMem} : jEv f μ μ := ⟨fun _ _ _ => ⟨rfl, rfl⟩, fun _ _ => rfl, fun _ => rfl, rfl⟩
theorem jEv.trans {f : Bool} {μ ν ξ : jMem} (h1 : jEv f μ ν) (h2 : jEv f ν ξ) : jEv f μ ξ := ⟨fun a k h => ⟨((h2.1 a k h).1).trans (h1.1 a k h).1, ((h2.1 a k h).2).trans (h1.1 a k h).2⟩, fun a k => (h2.2.1 a k).trans (h1.2.1 a k), fun a => (h2.2.2.1 a).trans (h1.2.2.1 a), h2.2.2.2.trans h1.2.2.2⟩
theorem jEv.sI {f : Bool} {μ ν : jMem} {a k : Nat} {v : Int32} (ha : jsc f a k = true) (h : jEv f μ ν) : jEv f μ (sI ν a k v) := h.trans ⟨fun x j hx => ⟨by
  have hq : ¬ (x = a ∧ j = k) := fun q => by rw [q.1, q.2, ha] at hx; cases hx
  rw [gI_sI, if_neg hq], rfl⟩, fun _ _ => rfl, fun _ => rfl, rfl⟩
theorem jEv.sL {f : Bool} {μ ν : jMem} {a k : Nat} {v : Int64} (ha : jsc f a k = true) (h : jEv f μ ν) : jEv f μ (sL ν a k v) := h.trans ⟨fun x j hx => ⟨rfl, by
  have hq : ¬ (x = a ∧ j = k) := fun q => by rw [q.1, q.2, ha] at hx; cases hx
  rw [gL_sL, if_neg hq]⟩, fun _ _ => rfl, fun _ => rfl, rfl⟩
theorem jEv.fr {f : Bool} {A : List Nat} {μ ν ξ : jMem} (hA : ∀ a ∈ A, jso a = true) (hF : jFr A ν ξ) (h : jEv f μ ν) : jEv f μ ξ := h.trans ⟨fun a k hx => by
  have hq : a ∉ A := fun q => by
    have := hA a q
    simp [jsc, this] at hx
  exact ⟨(hF.1 a hq).1 k, (hF.1 a hq).2 k⟩, hF.2⟩
theorem jEv.wd {f : Bool} {L t : Nat} {μ ν : jMem} (h : jEv f μ ν) (hw : jWd L t μ) : jWd L t ν := jWd_of h.2.2.1 h.2.1 hw
theorem jso_scr {a : Nat} (h : jso a = true) : jScrO a = true := by
  unfold jso at h
  simp only [Bool.or_eq_true, Bool.and_eq_true, decide_eq_true_eq] at h
  rcases h with h | h
  · have : a < 200 := by omega
    revert h
    revert a
    decide +kernel
  · have h2 : a ∈ [104, 105, 106, 107, 108, 109, 110, 111, 114, 115, 116, 117, 118, 119, 120, 121, 122, 123, 124, 126, 127, 129, 131, 132, 139, 141, 143, 146, 147, 149, 153, 154, 155, 156, 157, 160, 162, 163, 164, 165, 166, 167, 168, 169, 170, 171] := by simpa using h
    clear h
    revert h2
    revert a
    decide +kernel
theorem jsc_scr {f : Bool} {t a k : Nat} (h : jScr t a k = false) : jsc f a k = false := by
  cases hc : jsc f a k with
  | false => rfl
  | true =>
    exfalso
    unfold jsc at hc
    simp only [Bool.or_eq_true, Bool.and_eq_true, beq_iff_eq, decide_eq_true_eq] at hc
    rcases hc with (hc | hc) | hc
    · have := jso_scr hc
      simp [jScr, this] at h
    · obtain ⟨rfl, hk⟩ := hc
      have : k ≤ 2 := by omega
      simp [jScr, this] at h
    · obtain ⟨rfl, hk⟩ := hc
      have h2 : [0, 1, 2, 3, 9, 12, 13, 14, 15, 16, 17, 18, 19, 22, 23, 26, 27, 29, 60, 61, 63, 64, 72, 73, 76, 77, 78].contains k = true := by
        rcases hk with (hk | hk) | hk
        · rcases (show k = 0 ∨ k = 1 by omega) with rfl | rfl <;> decide
        · have := hk.2
          rcases (show k = 0 ∨ k = 1 ∨ k = 2 ∨ k = 3 by omega) with rfl | rfl | rfl | rfl <;> decide
        · have h3 : k ∈ [12, 13, 14, 15, 16, 17, 18, 19, 22, 23, 26, 27, 29, 60, 61, 63, 64, 72, 73, 76, 77, 78] := by simpa using hk
          clear hk h
          revert h3
          revert k
          decide
      unfold jScr at h
      rw [h2] at h
      simp at h
theorem jEv.oth {f : Bool} {t : Nat} {μ ν : jMem} (h : jEv f μ ν) (hO : jOth t μ) : jOth t ν := jOth_of (fun a k hs => (h.1 a k (jsc_scr hs)).1) (fun a k hs => (h.1 a k (jsc_scr hs)).2) hO
theorem jEv.tr {f : Bool} {μ ν : jMem} (h : jEv f μ ν) (hT : jTr μ) : jTr ν := fun i hi => by
  obtain ⟨h1, h2, h3, h4⟩ := hT i hi
  have q : ∀ a k, (a = 8 ∨ a = 9 ∨ a = 134 ∨ a = 135) → gI ν a k = gI μ a k := fun a k ha => (h.1 a k (by rcases ha with rfl | rfl | rfl | rfl <;> cases f <;> rfl)).1
  rw [q 8 i (by simp), q 9 i (by simp), q 134 i (by simp), q 135 i (by simp)]
  refine ⟨h1, h2, h3, fun k hk => ?_⟩
  have e1 : gL ν 136 (64 * i + k) = gL μ 136 (64 * i + k) := (h.1 136 _ (by cases f <;> rfl)).2
  have e2 : gL ν (4 + i) k = gL μ (4 + i) k := (h.1 (4 + i) k (by rcases (show i = 0 ∨ i = 1 ∨ i = 2 ∨ i = 3 by omega) with rfl | rfl | rfl | rfl <;> cases f <;> rfl)).2
  rw [e1, e2]
  exact h4 k hk
/-- the fraction stays -/
theorem jEv.inv {L t : Nat} {μ ν : jMem} (h : jEv false μ ν) (hW : jWd L t μ) (hS : jSt μ) (hT : jTr μ) (hO : jOth t μ) (hs : gI ν 133 0 = gI ν 1 0) : jInv L ν :=
  ⟨t, h.wd hW, ⟨hs, by rw [(h.1 133 2 rfl).2, (h.1 1 1 rfl).2]; exact hS.2.1, by rw [(h.1 133 3 rfl).2, (h.1 1 2 rfl).2]; exact hS.2.2⟩, h.tr hT, h.oth hO⟩
theorem jEv.invF {L t : Nat} {μ ν : jMem} (h : jEv true μ ν) (hW : jWd L t μ) (hT : jTr μ) (hO : jOth t μ) (hS : jSt ν) : jInv L ν := ⟨t, h.wd hW, hS, h.tr hT, h.oth hO⟩
theorem jEv.g0 {f : Bool} {μ ν : jMem} (h : jEv f μ ν) (j : Nat) : gI ν 0 j = gI μ 0 j := (h.1 0 j (by cases f <;> rfl)).1
theorem jEv.tx {f : Bool} {t : Nat} {T : jT} {μ ν : jMem} (ht : t = 12 ∨ t = 23) (h : jEv f μ ν) (hX : jTX T t μ) : jTX T t ν := jTX_of ht (fun a k hs => (h.1 a k (jsc_scr hs)).1) hX
theorem jEv.tm {f : Bool} {T : jT} {μ ν : jMem} (h : jEv f μ ν) (hM : jTM T μ) : jTM T ν := jTM_of (fun a k hx => (h.1 a k (by
  rcases hx with ⟨rfl, hk⟩ | rfl | rfl | rfl | rfl | rfl | rfl
  · rcases hk with rfl | rfl | rfl | rfl | rfl | rfl <;> cases f <;> rfl
  all_goals (cases f <;> rfl))).1) hM
theorem jEv.vx {f : Bool} {V : jT} {μ ν : jMem} (h : jEv f μ ν) (hX : jVX V μ) : jVX V ν := jVX_of (fun a k hx => (h.1 a k (by
  rcases hx with ⟨rfl, rfl⟩ | rfl | rfl | rfl <;> cases f <;> rfl)).1) hX
theorem jEv.vm {f : Bool} {V : jT} {μ ν : jMem} (h : jEv f μ ν) (hM : jVM V μ) : jVM V ν := jVM_of (fun a k hx => (h.1 a k (by
  rcases hx with ⟨rfl, rfl⟩ | rfl | rfl | rfl <;> cases f <;> rfl)).1) hM
