/-! value: the relation -/
section JVJ
variable {d L t : Nat} {μ : jMem} {Q : jQ} {T V : jT} {i o n k ni no a b cap m p q : Nat} {A B : Nat → Nat} {W : Nat → Nat → Nat}
def jvc (a k : Nat) : Bool := a == 128 || a == 130 || jvm a k
theorem jEx.othC {ν : jMem} (h : jEx jvc μ ν) (hO : jOth t μ) (hC : jCh ν) : jOth t ν := by
  obtain ⟨ht, hp, ⟨T, hK, hXT, hMT⟩, ⟨V, hV, hVX, hVM⟩, hR, -⟩ := hO
  refine ⟨ht, ?_, ⟨T, hK, ?_, ?_⟩, ⟨V, hV, ?_, ?_⟩, ?_, hC⟩
  · exact jTp_of (fun a k hx => (h a k (by rcases hx with ⟨rfl, rfl | rfl | rfl⟩ | rfl | rfl | ⟨rfl, rfl | rfl | rfl⟩ <;> rfl) (by rcases hx with ⟨rfl, rfl | rfl | rfl⟩ | rfl | rfl | ⟨rfl, rfl | rfl | rfl⟩ <;> rfl)).1) hp
  · refine jTX_of2 (fun a k h1 h2 => ?_) hXT
    have ha : 12 ≤ a ∧ a ≤ 33 := by omega
    refine (h a k ?_ ?_).1
    · rcases (show a = 12 ∨ a = 13 ∨ a = 14 ∨ a = 15 ∨ a = 16 ∨ a = 17 ∨ a = 18 ∨ a = 19 ∨ a = 20 ∨ a = 21 ∨ a = 22 ∨ a = 23 ∨ a = 24 ∨ a = 25 ∨ a = 26 ∨ a = 27 ∨ a = 28 ∨ a = 29 ∨ a = 30 ∨ a = 31 ∨ a = 32 ∨ a = 33 by omega) with rfl | rfl | rfl | rfl | rfl | rfl | rfl | rfl | rfl | rfl | rfl | rfl | rfl | rfl | rfl | rfl | rfl | rfl | rfl | rfl | rfl | rfl <;> rfl
    · rcases (show a = 12 ∨ a = 13 ∨ a = 14 ∨ a = 15 ∨ a = 16 ∨ a = 17 ∨ a = 18 ∨ a = 19 ∨ a = 20 ∨ a = 21 ∨ a = 22 ∨ a = 23 ∨ a = 24 ∨ a = 25 ∨ a = 26 ∨ a = 27 ∨ a = 28 ∨ a = 29 ∨ a = 30 ∨ a = 31 ∨ a = 32 ∨ a = 33 by omega) with rfl | rfl | rfl | rfl | rfl | rfl | rfl | rfl | rfl | rfl | rfl | rfl | rfl | rfl | rfl | rfl | rfl | rfl | rfl | rfl | rfl | rfl <;> rfl
  · exact jTM_of (fun a k hx => (h a k (by rcases hx with ⟨rfl, rfl | rfl | rfl | rfl | rfl | rfl⟩ | rfl | rfl | rfl | rfl | rfl | rfl <;> rfl) (by rcases hx with ⟨rfl, rfl | rfl | rfl | rfl | rfl | rfl⟩ | rfl | rfl | rfl | rfl | rfl | rfl <;> rfl)).1) hMT
  · exact jVX_of (fun a k hx => (h a k (by rcases hx with ⟨rfl, rfl⟩ | rfl | rfl | rfl <;> rfl) (by rcases hx with ⟨rfl, rfl⟩ | rfl | rfl | rfl <;> rfl)).1) hVX
  · exact jVM_of (fun a k hx => (h a k (by rcases hx with ⟨rfl, rfl⟩ | rfl | rfl | rfl <;> rfl) (by rcases hx with ⟨rfl, rfl⟩ | rfl | rfl | rfl <;> rfl)).1) hVM
  · exact jRw_of (fun a k hx => (h a k (by rcases hx with ⟨rfl | rfl, rfl | rfl⟩ | rfl | rfl | rfl | rfl | ⟨rfl, rfl | rfl⟩ <;> rfl) (by rcases hx with ⟨rfl | rfl, rfl | rfl⟩ | rfl | rfl | rfl | rfl | ⟨rfl, rfl | rfl⟩ <;> rfl)).1) hR
theorem xgF.jex {ν : jMem} (h : xgF μ ν) : jEx jvc μ ν := fun a k hs hc => by
  have h1 : a ∉ [39, 40, 41, 129, 130, 131, 132] := fun z => by
    simp only [List.mem_cons, List.not_mem_nil, or_false] at z
    rcases z with rfl | rfl | rfl | rfl | rfl | rfl | rfl
    · cases hs
    · cases hs
    · cases hs
    · cases hs
    · cases hc
    · cases hs
    · cases hs
  exact ⟨(h.1 a k h1).1 (fun z => by
    rw [z.1] at hc
    cases hc), (h.1 a k h1).2⟩
theorem nat_of {x y z w : Int} (hx : 0 ≤ x) (hy : 0 ≤ y) (hz : 0 ≤ z) (hw : 0 ≤ w) (h : x * y = z * w) : x.toNat * y.toNat = z.toNat * w.toNat := by
  have := congrArg Int.toNat h
  rw [Int.toNat_mul hx hy, Int.toNat_mul hz hw] at this
  exact this
theorem waysOf (h12 : wC V ≤ 12) {f : Nat → Int64} (h : ∀ p, p < n → wIn (wd V) (f p)) : ∃ A : Nat → Nat, ∀ p, p < n → f p = lN (A p) ∧ A p < wC V :=
  ⟨fun p => if hp : p < n then Classical.choose (wd_in h12 (h p hp)) else 0, fun p hp => by
    have := Classical.choose_spec (wd_in h12 (h p hp))
    simp only [dif_pos hp]
    exact ⟨this.2, this.1⟩⟩
theorem R_value (x1 x2 x3 x4 x5 x6 x7 : Int32) (h : jInv L μ) : jRel 999 169 287 [.int x1, .int x2, .int x3, .int x4, .int x5, .int x6, .int x7] jInv L false μ := by
  obtain ⟨t, hW, hS, hT, hO⟩ := h
  obtain ⟨T, hK, hX, hM⟩ := hO.2.2.1
  obtain ⟨V, hV, hVX, hVM⟩ := hO.2.2.2.1
  have E : ∀ s : Int32, jEv false μ (sI (sI μ 1 0 s) 133 1 0) := fun s => (jEv.rf.sI rfl).sI rfl
  have hWs : ∀ s : Int32, jWd L t (sI μ 1 0 s) := fun s => hW
  have hWt : ∀ s : Int32, jWd L t (sI (sI μ 1 0 s) 133 1 0) := fun s => hW
  by_cases c1 : (0 ≤ x1 ∧ x1 < 4) ∧ 0 ≤ x3 ∧ x3 < 4
  case neg => exact sX_value1 (d := 991) hW c1 ⟨⟨_, rfl⟩, jg0 (by decide) 0, fun _ => rfl, sM_valueR (d := 993) (s := 1) (hWs _) (by omega) (by omega) (fun d Q' a => sM_ask1 (hWt _) c1 a) ⟨rfl, jref1 hW hS hT hO⟩⟩
  obtain ⟨⟨i, hi, rfl⟩, o, ho, rfl⟩ := And.intro (jfour c1.1) (jfour c1.2)
  by_cases c2 : (0 ≤ x5 ∧ x5 < nI (tP T)) ∧ 0 ≤ x6 ∧ x6 < nI (tP T)
  case neg => exact sX_value2 (d := 991) hW hK hX hi ho c2 ⟨⟨_, rfl⟩, jg0 (by decide) 0, fun _ => rfl, sM_valueR (d := 993) (s := 2) (hWs _) (by omega) (by omega) (fun d Q' a => sM_ask2 (hWt _) hK ((E _).tm hM) hi ho c2 a) ⟨rfl, jref1 hW hS hT hO⟩⟩
  have h8 := hK.1.1
  obtain ⟨a, ha, rfl⟩ : ∃ a, a < tP T ∧ x5 = nI a := by
    rcases pk_ix x5 (n := tP T) (by omega) with z | z | ⟨n, hn, e⟩
    · exact absurd c2.1.1 (by clear c1 c2; grind)
    · exact absurd c2.1.2 (by clear c1 c2; grind)
    · exact ⟨n, hn, e⟩
  obtain ⟨b, hb, rfl⟩ : ∃ a, a < tP T ∧ x6 = nI a := by
    rcases pk_ix x6 (n := tP T) (by omega) with z | z | ⟨n, hn, e⟩
    · exact absurd c2.2.1 (by clear c1 c2; grind)
    · exact absurd c2.2.2 (by clear c1 c2; grind)
    · exact ⟨n, hn, e⟩
  obtain ⟨u1, u2, u3, u4⟩ := hT i hi
  obtain ⟨v1, v2, v3, v4⟩ := hT o ho
  have qi : ∀ s, gI (sI (sI μ 1 0 s) 133 1 0) 135 i = gI μ 9 i := fun s => by
    rw [gI_sI, if_neg (by omega), gI_sI, if_neg (by omega)]
    exact u2
  have qo : ∀ s, gI (sI (sI μ 1 0 s) 133 1 0) 135 o = gI μ 9 o := fun s => by
    rw [gI_sI, if_neg (by omega), gI_sI, if_neg (by omega)]
    exact v2
  have three : (gI μ 9 i = -1 ∨ gI μ 9 o = -1) → jRel 999 169 287 [.int (nI i), .int x2, .int (nI o), .int x4, .int (nI a), .int (nI b), .int x7] jInv L false μ := fun c => sX_value3 (d := 991) hW hK hX hi ho ha hb (by
    rcases c with c | c
    · exact Or.inl (by rw [c]; decide)
    · exact Or.inr (by rw [c]; decide)) ⟨⟨_, rfl⟩, jg0 (by decide) 0, fun _ => rfl, sM_valueR (d := 993) (s := 3) (hWs _) (by omega) (by omega) (fun d Q' k => sM_ask3 (hWt _) hK ((E _).tm hM) hi ho ha hb (by
      rcases c with c | c
      · exact Or.inl (by rw [qi, c]; decide)
      · exact Or.inr (by rw [qo, c]; decide)) k) ⟨rfl, jref1 hW hS hT hO⟩⟩
  rcases u3 with u3 | ⟨ni, ni6, ei⟩
  · exact three (Or.inl u3)
  rcases v3 with v3 | ⟨no, no6, eo⟩
  · exact three (Or.inr v3)
  clear three
  have ci : ¬ gI μ 9 i < 0 := by
    rw [ei]
    exact nI_pos (by omega)
  have co : ¬ gI μ 9 o < 0 := by
    rw [eo]
    exact nI_pos (by omega)
  have mi : ∀ s, gI (sI (sI μ 1 0 s) 133 1 0) 135 i = nI ni := fun s => (qi s).trans ei
  have mo : ∀ s, gI (sI (sI μ 1 0 s) 133 1 0) 135 o = nI no := fun s => (qo s).trans eo
  have di : ∀ s, 0 ≤ gI (sI (sI μ 1 0 s) 133 1 0) 135 i := fun s => by
    rw [mi]
    exact nI_pos' (by omega)
  have dO : ∀ s, 0 ≤ gI (sI (sI μ 1 0 s) 133 1 0) 135 o := fun s => by
    rw [mo]
    exact nI_pos' (by omega)
  by_cases c5 : (1 ≤ x2 ∧ x2 ≤ nI 3) ∧ (1 ≤ x4 ∧ x4 ≤ nI 3) ∧ 1 ≤ x7 ∧ x7 ≤ nI 100
  case neg => exact sX_value5 (d := 991) hW hK hX hi ho ha hb ci co c5 ⟨⟨_, rfl⟩, jg0 (by decide) 0, fun _ => rfl, sM_valueR (d := 993) (s := 5) (hWs _) (by omega) (by omega) (fun d Q' k => sM_ask5 (hWt _) hK ((E _).tm hM) hi ho ha hb (di _) (dO _) c5 k) ⟨rfl, jref1 hW hS hT hO⟩⟩
  obtain ⟨n, n1, n3, rfl⟩ := d_nat (a := 1) (b := 3) (by omega) (by omega) c5.1
  obtain ⟨k, k1, k3, rfl⟩ := d_nat (a := 1) (b := 3) (by omega) (by omega) c5.2.1
  obtain ⟨cap, p2, rfl⟩ := d_nat2 (b := 100) (by omega) ⟨by
    have := c5.2.2.1
    clear c5 c2 c1
    grind, c5.2.2.2⟩
  have p1 : 1 ≤ cap := (nI_leI (a := 1) (by omega) (by omega)).mp c5.2.2.1
  by_cases c4 : n ≤ ni ∧ k ≤ no
  case neg => exact sX_value4 (d := 991) hW hK hX hi ho ha hb ei eo ni6 no6 n1 n3 k1 k3 p1 p2 c4 ⟨⟨_, rfl⟩, jg0 (by decide) 0, fun _ => rfl, sM_valueR (d := 993) (s := 4) (hWs _) (by omega) (by omega) (fun d Q' kk => sM_ask4 (hWt _) hK ((E _).tm hM) hi ho ha hb (mi _) (mo _) ni6 no6 n1 n3 k1 k3 p1 p2 c4 kk) ⟨rfl, jref1 hW hS hT hO⟩⟩
  obtain ⟨cn, ck⟩ := c4
  have ti : ∀ p, p < ni → gL μ 136 (64 * i + p) = gL μ (4 + i) p := fun p hp => (u4 p (by rw [ei, nI_clamp (by omega)]; exact hp)).1
  have to : ∀ p, p < no → gL μ 136 (64 * o + p) = gL μ (4 + o) p := fun p hp => (v4 p (by rw [eo, nI_clamp (by omega)]; exact hp)).1
  by_cases cw : wOkT V μ i n ∧ wOkT V μ o k
  case neg =>
    have cm : ∀ s, ¬ (mOkT V (sI (sI μ 1 0 s) 133 1 0) i n ∧ mOkT V (sI (sI μ 1 0 s) 133 1 0) o k) := fun s z => cw ⟨fun p hp => by
      rw [← ti p (by omega)]
      exact z.1 p hp, fun p hp => by
      rw [← to p (by omega)]
      exact z.2 p hp⟩
    exact sX_value2w (d := 991) hW hK hX hVX hi ho ha hb ei eo ni6 no6 n1 n3 k1 k3 p1 p2 cn ck cw ⟨⟨_, rfl⟩, jg0 (by decide) 0, fun _ => rfl, sM_valueR (d := 993) (s := 2) (hWs _) (by omega) (by omega) (fun d Q' kk => sM_askW (hWt _) hK ((E _).tm hM) ((E _).vm hVM) hi ho ha hb (mi _) (mo _) ni6 no6 n1 n3 k1 k3 p1 p2 cn ck (fun y1 y2 => absurd ⟨y1, y2⟩ (cm _)) (fun _ => kk)) ⟨rfl, jref1 hW hS hT hO⟩⟩
  obtain ⟨w1, w2⟩ := cw
  obtain ⟨A, hA⟩ := waysOf hV.1 w1
  obtain ⟨B, hB⟩ := waysOf hV.1 w2
  refine sX_v163 (d := 991) hW hK hX hVX hi ho ha hb ei eo ni6 no6 n1 n3 k1 k3 p1 p2 cn ck w1 w2 (sX_value_go (d := 991) hW hK hX hV hVX hi ho ha hb ei eo ni6 no6 n1 n3 k1 k3 p2 cn ck hA hB (fun ν β F g128 g130 hβ => ?_))
  have w100 : ∀ p q, wT T V A B a b cap n k p q ≤ 100 := wT_le p2
  obtain ⟨-, hF, -⟩ := vBest_res (W := wT T V A B a b cap n k) n1 n3 k1 k3 (fun p q _ _ => w100 p q) hβ
  have bb := vBest_b (W := wT T V A B a b cap n k) (fun p q _ _ => w100 p q) (Nat.le_refl _) hβ
  have sS := hF.2.2
  have al := vF_Al hF
  have be0 := al.1 0 (by omega)
  have be1 := al.1 1 (by omega)
  have be2 := al.1 2 (by omega)
  have b3 : 0 ≤ β 3 := by
    have c := col_100 (W := wT T V A B a b cap n k) (c := β) (j := 0) w100 al.1
    have u := al.2 0 (by omega)
    unfold vCol at c
    omega
  have bq0 := bb 0 (by omega)
  have bq1 := bb 1 (by omega)
  have bq2 := bb 2 (by omega)
  have eS : vS β = β 0 + β 1 + β 2 := rfl
  have Fw : jWd L t ν := F.wd hW
  generalize hp : lN ((β 3).toNat / Nat.gcd (β 3).toNat (vS β).toNat) = P
  generalize hq : lN ((vS β).toNat / Nat.gcd (β 3).toNat (vS β).toNat) = R
  have Fw2 : jWd L t (sI (sL (sL ν 1 1 P) 1 2 R) 1 0 0) := Fw
  have X1 : jEx jvc μ (sI (sL (sL ν 1 1 P) 1 2 R) 1 0 0) := F.jex.ev (f := true) (((jEv.rf.sL rfl).sL rfl).sI rfl)
  have X2 : jEx jvc μ (sI (sI (sI (sL (sL ν 1 1 P) 1 2 R) 1 0 0) 133 1 0) 133 0 0) := X1.ev (f := true) ((jEv.rf.sI rfl).sI rfl)
  have hM1 : jTM T (sI (sI (sL (sL ν 1 1 P) 1 2 R) 1 0 0) 133 1 0) := jTM_of (fun x j hx => by
    rw [gI_sI, if_neg (by omega), gI_sI, if_neg (by omega), gI_sL, gI_sL]
    exact (F.1 x j (by simp; omega)).1 (by omega)) hM
  have hM2 : jTM T (sI (sI (sI (sL (sL ν 1 1 P) 1 2 R) 1 0 0) 133 1 0) 133 0 0) := jTM_of (fun x j hx => by
    rw [gI_sI, if_neg (by omega)]) hM1
  have hVM1 : jVM V (sI (sI (sL (sL ν 1 1 P) 1 2 R) 1 0 0) 133 1 0) := jVM_of (fun x j hx => by
    rw [gI_sI, if_neg (by omega), gI_sI, if_neg (by omega), gI_sL, gI_sL]
    exact (F.1 x j (by simp; omega)).1 (by omega)) hVM
  have hVM2 : jVM V (sI (sI (sI (sL (sL ν 1 1 P) 1 2 R) 1 0 0) 133 1 0) 133 0 0) := jVM_of (fun x j hx => by
    rw [gI_sI, if_neg (by omega)]) hVM1
  have g135 : ∀ x, gI (sI (sI (sL (sL ν 1 1 P) 1 2 R) 1 0 0) 133 1 0) 135 x = gI μ 135 x := fun x => by
    rw [gI_sI, if_neg (by omega), gI_sI, if_neg (by omega), gI_sL, gI_sL]
    exact (F.1 135 x (by simp)).1 (by omega)
  have g136 : ∀ x, gL ν 136 x = gL μ 136 x := fun x => (F.1 136 x (by simp)).2
  have okA : mOkT V (sI (sI (sL (sL ν 1 1 P) 1 2 R) 1 0 0) 133 1 0) i n := fun p hp => by
    show wIn (wd V) (gL ν 136 (64 * i + p))
    rw [g136, ti p (by omega)]
    exact w1 p hp
  have okB : mOkT V (sI (sI (sL (sL ν 1 1 P) 1 2 R) 1 0 0) 133 1 0) o k := fun p hp => by
    show wIn (wd V) (gL ν 136 (64 * o + p))
    rw [g136, to p (by omega)]
    exact w2 p hp
  refine ⟨⟨_, rfl⟩, fun j => ?_, F.2.2.1, sM_v33 (d := 993) (t := t) Fw2 (fun d Q' kk => sM_askW (t := t) (L := L) (by exact Fw2) hK hM1 hVM1 hi ho ha hb ((g135 i).trans (u2.trans ei)) ((g135 o).trans (v2.trans eo)) ni6 no6 n1 n3 k1 k3 p1 p2 cn ck (fun _ _ => kk) (fun y => absurd ⟨okA, okB⟩ y)) ?_⟩
  · rw [gI_sI, if_neg (by omega), gI_sL, gI_sL]
    exact (F.1 0 j (by simp)).1 (by omega)
  refine sM_value_go (d := 993) (t := t) (L := L) (β := β) (by exact Fw2) hK hM2 hV hVM2 hi ho ha hb ni6 no6 n1 n3 k1 k3 p2 cn ck (fun p hp => ?_) (fun p hp => ?_) hβ (fun ξ C vt vb cb G hWξ x0 x1 x54 x59 x161 cb1 cb2 Cge Csum Cpr vbp vb8 vt0 vt1 hv xl => ?_)
  · show gL ν 136 (64 * i + p) = _ ∧ _
    rw [g136, ti p (by omega)]
    exact hA p hp
  · show gL ν 136 (64 * o + p) = _ ∧ _
    rw [g136, to p (by omega)]
    exact hB p hp
  have fe := jfr_eq (x := (β 3).toNat) (s := (vS β).toNat) (y := vt.toNat) (b := vb.toNat) (by omega) (by omega) (by
    have := nat_of (by omega) b3 vt0 (by omega) hv
    rw [Nat.mul_comm]
    exact this)
  rw [← fe.1, ← fe.2, hp, hq]
  refine ⟨rfl, ?_⟩
  have G2 : jEx jvc (sI (sI (sI (sL (sL ν 1 1 P) 1 2 R) 1 0 0) 133 1 0) 133 0 0) ξ := fun x j hs hc => G x j hs (by
    unfold jvc at hc
    simp only [Bool.or_eq_false_iff] at hc
    exact hc.2)
  have X3 : jEx jvc μ (sL (sL ξ 133 2 P) 133 3 R) := (X2.comp G2).ev (f := true) ((jEv.rf.sL rfl).sL rfl)
  have x130 : ∀ l, gL ξ 130 l = gL ν 130 l := fun l => (G 130 l rfl rfl).2
  have x128 : gI ξ 128 0 = nI n := (G 128 0 rfl rfl).1.trans g128
  obtain ⟨cc1, cc2, cc3, cc4, cc0, cc5⟩ := hO.2.2.2.2.2
  have b0 : ∀ l, l < 3 → 0 ≤ β l := al.1
  refine ⟨t, hWξ, ⟨?_, ?_, ?_⟩, X3.tr (fun x j hx => ?_) hT, X3.othC hO ⟨n, n3, x128, x54, fun l hl => ?_, fun _ => ⟨(vS β).toNat, cb.toNat, fun l => (β l).toNat, fun l => (C l).toNat, by omega, by omega, by omega, by omega, fun l hl => ?_, by
    show (vS β).toNat = (β 0).toNat + (β 1).toNat + (β 2).toNat
    omega, ?_, fun l hl => ⟨?_, ?_⟩⟩⟩⟩
  · exact x0.trans x1.symm
  · show P = gL ξ 1 1
    exact xl.1.symm
  · show R = gL ξ 1 2
    exact xl.2.symm
  · rcases (show x = 4 ∨ x = 5 ∨ x = 6 ∨ x = 7 ∨ x = 8 ∨ x = 9 ∨ x = 134 ∨ x = 135 ∨ x = 136 by omega) with rfl | rfl | rfl | rfl | rfl | rfl | rfl | rfl | rfl <;> rfl
  · exact ((X3 125 l rfl rfl).2).trans (cc0 l hl)
  · show gL ξ 130 l = lN (β l).toNat
    rw [x130, g130 l (by omega), iL_N]
    congr 1
    have := b0 l hl
    omega
  · show gL ξ 133 59 = lN cb.toNat
    rw [x59, iL_N]
    congr 1
    omega
  · show gL ξ 161 l = lN (C l).toNat
    rw [x161 l (by omega), iL_N]
    congr 1
    have := Cge l (by omega)
    omega
  · exact nat_of (b0 l (by omega)) (by omega) (Cge l (by omega)) (by omega) (Cpr l (by omega))
end JVJ
