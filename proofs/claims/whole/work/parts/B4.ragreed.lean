/-! agreed, alike: between calls -/
section JRU
variable {d L t : Nat} {μ : jMem} {Q : jQ} {T : jT} {n : Nat} {al : Bool}
def jrc (al : Bool) (a k : Nat) : Bool := if al = true then (a == 112 || a == 113 || a == 159 || (a == 133 && k == 53)) else (a == 102 || a == 103 || a == 158 || (a == 133 && k == 52))
theorem jEx.othR {ν : jMem} (h : jEx (jrc al) μ ν) (hO : jOth t μ) (hR : jRw ν) : jOth t ν := by
  obtain ⟨ht, hp, ⟨T, hK, hXT, hMT⟩, ⟨V, hV, hVX, hVM⟩, -, hC⟩ := hO
  cases al with
  | true =>
    refine ⟨ht, ?_, ⟨T, hK, ?_, ?_⟩, ⟨V, hV, ?_, ?_⟩, hR, ?_⟩
    · exact jTp_of (fun a k hx => (h a k (by rcases hx with ⟨rfl, rfl | rfl | rfl⟩ | rfl | rfl | ⟨rfl, rfl | rfl | rfl⟩ <;> rfl) (by rcases hx with ⟨rfl, rfl | rfl | rfl⟩ | rfl | rfl | ⟨rfl, rfl | rfl | rfl⟩ <;> rfl)).1) hp
    · refine jTX_of2 (fun a k h1 h2 => ?_) hXT
      have ha : 12 ≤ a ∧ a ≤ 33 := by omega
      refine (h a k ?_ ?_).1
      · rcases (show a = 12 ∨ a = 13 ∨ a = 14 ∨ a = 15 ∨ a = 16 ∨ a = 17 ∨ a = 18 ∨ a = 19 ∨ a = 20 ∨ a = 21 ∨ a = 22 ∨ a = 23 ∨ a = 24 ∨ a = 25 ∨ a = 26 ∨ a = 27 ∨ a = 28 ∨ a = 29 ∨ a = 30 ∨ a = 31 ∨ a = 32 ∨ a = 33 by omega) with rfl | rfl | rfl | rfl | rfl | rfl | rfl | rfl | rfl | rfl | rfl | rfl | rfl | rfl | rfl | rfl | rfl | rfl | rfl | rfl | rfl | rfl <;> rfl
      · rcases (show a = 12 ∨ a = 13 ∨ a = 14 ∨ a = 15 ∨ a = 16 ∨ a = 17 ∨ a = 18 ∨ a = 19 ∨ a = 20 ∨ a = 21 ∨ a = 22 ∨ a = 23 ∨ a = 24 ∨ a = 25 ∨ a = 26 ∨ a = 27 ∨ a = 28 ∨ a = 29 ∨ a = 30 ∨ a = 31 ∨ a = 32 ∨ a = 33 by omega) with rfl | rfl | rfl | rfl | rfl | rfl | rfl | rfl | rfl | rfl | rfl | rfl | rfl | rfl | rfl | rfl | rfl | rfl | rfl | rfl | rfl | rfl <;> rfl
    · exact jTM_of (fun a k hx => (h a k (by rcases hx with ⟨rfl, rfl | rfl | rfl | rfl | rfl | rfl⟩ | rfl | rfl | rfl | rfl | rfl | rfl <;> rfl) (by rcases hx with ⟨rfl, rfl | rfl | rfl | rfl | rfl | rfl⟩ | rfl | rfl | rfl | rfl | rfl | rfl <;> rfl)).1) hMT
    · exact jVX_of (fun a k hx => (h a k (by rcases hx with ⟨rfl, rfl⟩ | rfl | rfl | rfl <;> rfl) (by rcases hx with ⟨rfl, rfl⟩ | rfl | rfl | rfl <;> rfl)).1) hVX
    · exact jVM_of (fun a k hx => (h a k (by rcases hx with ⟨rfl, rfl⟩ | rfl | rfl | rfl <;> rfl) (by rcases hx with ⟨rfl, rfl⟩ | rfl | rfl | rfl <;> rfl)).1) hVM
    · exact jCh_of (fun a k hx => (h a k (by rcases hx with ⟨rfl, rfl⟩ | ⟨rfl, rfl⟩ <;> rfl) (by rcases hx with ⟨rfl, rfl⟩ | ⟨rfl, rfl⟩ <;> rfl)).1) (fun a k hx => (h a k (by rcases hx with rfl | rfl | rfl | ⟨rfl, rfl⟩ <;> rfl) (by rcases hx with rfl | rfl | rfl | ⟨rfl, rfl⟩ <;> rfl)).2) hC
  | false =>
    refine ⟨ht, ?_, ⟨T, hK, ?_, ?_⟩, ⟨V, hV, ?_, ?_⟩, hR, ?_⟩
    · exact jTp_of (fun a k hx => (h a k (by rcases hx with ⟨rfl, rfl | rfl | rfl⟩ | rfl | rfl | ⟨rfl, rfl | rfl | rfl⟩ <;> rfl) (by rcases hx with ⟨rfl, rfl | rfl | rfl⟩ | rfl | rfl | ⟨rfl, rfl | rfl | rfl⟩ <;> rfl)).1) hp
    · refine jTX_of2 (fun a k h1 h2 => ?_) hXT
      have ha : 12 ≤ a ∧ a ≤ 33 := by omega
      refine (h a k ?_ ?_).1
      · rcases (show a = 12 ∨ a = 13 ∨ a = 14 ∨ a = 15 ∨ a = 16 ∨ a = 17 ∨ a = 18 ∨ a = 19 ∨ a = 20 ∨ a = 21 ∨ a = 22 ∨ a = 23 ∨ a = 24 ∨ a = 25 ∨ a = 26 ∨ a = 27 ∨ a = 28 ∨ a = 29 ∨ a = 30 ∨ a = 31 ∨ a = 32 ∨ a = 33 by omega) with rfl | rfl | rfl | rfl | rfl | rfl | rfl | rfl | rfl | rfl | rfl | rfl | rfl | rfl | rfl | rfl | rfl | rfl | rfl | rfl | rfl | rfl <;> rfl
      · rcases (show a = 12 ∨ a = 13 ∨ a = 14 ∨ a = 15 ∨ a = 16 ∨ a = 17 ∨ a = 18 ∨ a = 19 ∨ a = 20 ∨ a = 21 ∨ a = 22 ∨ a = 23 ∨ a = 24 ∨ a = 25 ∨ a = 26 ∨ a = 27 ∨ a = 28 ∨ a = 29 ∨ a = 30 ∨ a = 31 ∨ a = 32 ∨ a = 33 by omega) with rfl | rfl | rfl | rfl | rfl | rfl | rfl | rfl | rfl | rfl | rfl | rfl | rfl | rfl | rfl | rfl | rfl | rfl | rfl | rfl | rfl | rfl <;> rfl
    · exact jTM_of (fun a k hx => (h a k (by rcases hx with ⟨rfl, rfl | rfl | rfl | rfl | rfl | rfl⟩ | rfl | rfl | rfl | rfl | rfl | rfl <;> rfl) (by rcases hx with ⟨rfl, rfl | rfl | rfl | rfl | rfl | rfl⟩ | rfl | rfl | rfl | rfl | rfl | rfl <;> rfl)).1) hMT
    · exact jVX_of (fun a k hx => (h a k (by rcases hx with ⟨rfl, rfl⟩ | rfl | rfl | rfl <;> rfl) (by rcases hx with ⟨rfl, rfl⟩ | rfl | rfl | rfl <;> rfl)).1) hVX
    · exact jVM_of (fun a k hx => (h a k (by rcases hx with ⟨rfl, rfl⟩ | rfl | rfl | rfl <;> rfl) (by rcases hx with ⟨rfl, rfl⟩ | rfl | rfl | rfl <;> rfl)).1) hVM
    · exact jCh_of (fun a k hx => (h a k (by rcases hx with ⟨rfl, rfl⟩ | ⟨rfl, rfl⟩ <;> rfl) (by rcases hx with ⟨rfl, rfl⟩ | ⟨rfl, rfl⟩ <;> rfl)).1) (fun a k hx => (h a k (by rcases hx with rfl | rfl | rfl | ⟨rfl, rfl⟩ <;> rfl) (by rcases hx with rfl | rfl | rfl | ⟨rfl, rfl⟩ <;> rfl)).2) hC
theorem jEx.rFr {ν ξ : jMem} (h : jEx (jrc al) μ ν) (F : rFr al ν ξ) : jEx (jrc al) μ ξ := fun a k ha hc => by
  have h1 : a ≠ rO2 al := fun z => by
    rw [z] at hc
    unfold jrc rO2 at hc
    cases al <;> simp at hc
  have h2 : a ≠ 160 := fun z => by
    rw [z] at ha
    revert ha
    simp [jsc, jso]
  have h3 : ¬ (a = 133 ∧ (k = 63 ∨ k = 64)) := fun ⟨z1, z2⟩ => by
    rw [z1] at ha
    rcases z2 with z2 | z2 <;> rw [z2] at ha <;> revert ha <;> simp [jsc]
  exact ⟨(F.1 a h1 h2 k).trans (h a k ha hc).1, (F.2.1 a k h3).trans (h a k ha hc).2⟩
theorem rw_jso : ∀ a ∈ mvO ++ rwO 102, a = 102 ∨ a = 103 ∨ jso a = true := by decide
theorem rw_jso2 : ∀ a ∈ mvO ++ rwO 112, a = 112 ∨ a = 113 ∨ jso a = true := by decide
theorem rw_out : ∀ a ∈ mvO ++ rwO 102, 38 ≤ a ∧ a ≤ 111 := by decide
theorem rw_out2 : ∀ a ∈ mvO ++ rwO 112, 38 ≤ a ∧ a ≤ 121 := by decide
theorem rw_keep : ∀ a ∈ mvO ++ rwO 102, a ≠ 112 ∧ a ≠ 113 := by decide
theorem rw_keep2 : ∀ a ∈ mvO ++ rwO 112, a ≠ 102 ∧ a ≠ 103 := by decide
theorem R_agreed (x1 : Int32) (h : jInv L μ) : jRel 999 161 260 [.int x1] jInv L false μ := by
  obtain ⟨t, hW, hS, hT, hO⟩ := h
  obtain ⟨T, hK, hX, hM⟩ := hO.2.2.1
  have E : ∀ s : Int32, jEv false μ (sI μ 1 0 s) := fun s => jEv.rf.sI rfl
  have hWs : ∀ s : Int32, jWd L t (sI μ 1 0 s) := fun s => hW
  by_cases c : 1 ≤ x1 ∧ x1 ≤ nI 3
  case neg => exact sX_agreed5 (d := 994) hW c ⟨⟨_, rfl⟩, jg0 (by decide) 0, fun _ => rfl, sM_agreed5 (d := 994) (hWs _) (by rw [lj_3]; exact c) ⟨rfl, jref hW hS hT hO⟩⟩
  obtain ⟨n, hn1, hn3, rfl⟩ := d_nat (a := 1) (b := 3) (by omega) (by omega) c
  have hR := hO.2.2.2.2.1
  refine sX_agreed (d := 992) hW (fun d Q' kQ => sX_rows (d := d) (al := false) (o := 102) hW hK hX (Or.inl ⟨rfl, rfl⟩) hR.1.1 hn1 hn3 (by omega) (fun z => kQ _ _ ⟨⟨_, rfl⟩, jg0 (by decide) 0, fun _ => rfl, sM_agreed (d := 994) (hWs _) hK ((E _).tm hM) hn1 hn3 (fun _ => ⟨rfl, jref hW hS hT hO⟩) (fun y => absurd z y)⟩) (fun z ν b F g1 g3 hb g6 g7 => kQ _ _ ?_)) (fun r ν hr => hr.1)
  generalize hp : lN (rFl T b n / Nat.gcd (rFl T b n) (tAll T)) = p
  generalize hq : lN (tAll T / Nat.gcd (rFl T b n) (tAll T)) = q
  have Fw : jWd L t (sI (sL (sL ν 1 1 p) 1 2 q) 1 0 0) := F.wd hW
  have cellM : ∀ a j, (a < 38 ∨ 111 < a) → a ≠ 1 → gI (sI (sL (sL ν 1 1 p) 1 2 q) 1 0 0) a j = gI μ a j := fun a j n1 n2 => by
    rw [gI_sI, if_neg (by omega), gI_sL, gI_sL, (F.1 a (fun y => by have := rw_out a y; omega)).1]
  have hM2 : jTM T (sI (sL (sL ν 1 1 p) 1 2 q) 1 0 0) := jTM_of (fun a k hx => cellM a k (by omega) (by omega)) hM
  refine ⟨⟨_, rfl⟩, fun j => cellM 0 j (by omega) (by omega), F.2.2.1, sM_agreed (d := 994) (t := t) Fw hK hM2 hn1 hn3 (fun y => absurd y z) (fun _ ξ w G e1 e2 => ?_)⟩
  obtain ⟨m1, m2, m3⟩ := rRef_best hK hb g7 e2
  rw [← m2, ← m3, hp, hq]
  refine ⟨rfl, ?_⟩
  have E1 : jEx (jrc false) μ ν := jEx.rf.fr (fun a ha => by
    rcases rw_jso a ha with rfl | rfl | z
    · exact Or.inr (fun _ => rfl)
    · exact Or.inr (fun _ => rfl)
    · exact Or.inl z) F
  have E2 : jEx (jrc false) μ (sI (sI (sI (sL (sL ν 1 1 p) 1 2 q) 1 0 0) 133 1 0) 133 0 0) := E1.ev (f := true) (((((jEv.rf.sL rfl).sL rfl).sI rfl).sI rfl).sI rfl)
  have E3 : jEx (jrc false) μ (sL (sL (sI ξ 133 52 (nI n)) 133 2 p) 133 3 q) := ((E2.rFr G).sI rfl).ev (f := true) ((jEv.rf.sL rfl).sL rfl)
  have W2 : jWd L t (sL (sL (sI ξ 133 52 (nI n)) 133 2 p) 133 3 q) := G.wd Fw
  refine ⟨t, W2, jStF ?_ ?_ ?_, E3.tr (fun a k ha => ?_) hT, E3.othR hO ⟨⟨?_, n, hn3, ?_, ?_, fun k hk => ?_⟩, ?_, ?_⟩⟩
  · rw [gI_sI, if_neg (by omega), gI_sI, if_neg (by omega), G.1 133 (by decide) (by decide), G.1 1 (by decide) (by decide)]
    rfl
  · show gL ξ 1 1 = p
    rw [G.2.1 1 1 (by omega)]
    rfl
  · show gL ξ 1 2 = q
    rw [G.2.1 1 2 (by omega)]
    rfl
  · rcases (show a = 4 ∨ a = 5 ∨ a = 6 ∨ a = 7 ∨ a = 8 ∨ a = 9 ∨ a = 134 ∨ a = 135 ∨ a = 136 by omega) with rfl | rfl | rfl | rfl | rfl | rfl | rfl | rfl | rfl <;> rfl
  · show gI ξ 102 1 = 0
    rw [G.1 102 (by decide) (by decide)]
    show gI ν 102 1 = 0
    rw [g1]
    exact hR.1.1
  · show gI ξ 102 3 = nI n
    rw [G.1 102 (by decide) (by decide)]
    exact g3
  · rfl
  · have hbk := hb k hk
    refine ⟨b k / 5, b k % 5, by omega, by omega, ?_, ?_, ?_⟩
    · show gI ξ 103 k = _
      rw [G.1 103 (by decide) (by decide)]
      show gI ν 103 k = _
      rw [g6 k hk, Nat.div_add_mod]
    · show gI ξ 158 (2 * k) = _
      rw [e1 (2 * k) (show 2 * k < 2 * n by omega)]
      have := (rD_dig (al := false) (v := w) hk).1
      rw [show rD 5 (rNm false n) w (2 * k) = rX false (rEv false n w k) from this, m1 k hk]
      rfl
    · show gI ξ 158 (2 * k + 1) = _
      rw [e1 (2 * k + 1) (show 2 * k + 1 < 2 * n by omega)]
      have := (rD_dig (al := false) (v := w) hk).2
      rw [show rD 5 (rNm false n) w (2 * k + 1) = rY false (rEv false n w k) from this, m1 k hk]
      rfl
  · show gI ξ 112 1 = 1
    rw [G.1 112 (by decide) (by decide)]
    show gI ν 112 1 = 1
    rw [(F.1 112 (fun y => (rw_keep 112 y).1 rfl)).1]
    exact hR.2.1
  · obtain ⟨m, a1, a2, a3, a4⟩ := hR.2.2
    refine ⟨m, a1, ?_, ?_, fun k hk => ?_⟩
    · show gI ξ 112 3 = _
      rw [G.1 112 (by decide) (by decide)]
      show gI ν 112 3 = _
      rw [(F.1 112 (fun y => (rw_keep 112 y).1 rfl)).1]
      exact a2
    · show gI ξ 133 53 = _
      rw [G.1 133 (by decide) (by decide)]
      show gI ν 133 53 = _
      rw [(F.1 133 (fun y => by have := rw_out 133 y; omega)).1]
      exact a3
    · obtain ⟨x, y, x5, y5, q1, q2⟩ := a4 k hk
      refine ⟨x, y, x5, y5, ?_, ?_⟩
      · show gI ξ 113 k = _
        rw [G.1 113 (by decide) (by decide)]
        show gI ν 113 k = _
        rw [(F.1 113 (fun y => (rw_keep 113 y).2 rfl)).1]
        exact q1
      · show gI ξ 159 k = _
        rw [G.1 159 (by decide) (by decide)]
        show gI ν 159 k = _
        rw [(F.1 159 (fun y => by have := rw_out 159 y; omega)).1]
        exact q2
theorem R_alike (x1 : Int32) (h : jInv L μ) : jRel 999 163 262 [.int x1] jInv L false μ := by
  obtain ⟨t, hW, hS, hT, hO⟩ := h
  obtain ⟨T, hK, hX, hM⟩ := hO.2.2.1
  have E : ∀ s : Int32, jEv false μ (sI μ 1 0 s) := fun s => jEv.rf.sI rfl
  have hWs : ∀ s : Int32, jWd L t (sI μ 1 0 s) := fun s => hW
  by_cases c : 1 ≤ x1 ∧ x1 ≤ nI 5
  case neg => exact sX_alike5 (d := 994) hW c ⟨⟨_, rfl⟩, jg0 (by decide) 0, fun _ => rfl, sM_alike5 (d := 994) (hWs _) (by rw [lj_5]; exact c) ⟨rfl, jref hW hS hT hO⟩⟩
  obtain ⟨n, hn1, hn5, rfl⟩ := d_nat (a := 1) (b := 5) (by omega) (by omega) c
  have hR := hO.2.2.2.2.1
  refine sX_alike (d := 992) hW (fun d Q' kQ => sX_rows (d := d) (al := true) (o := 112) hW hK hX (Or.inr ⟨rfl, rfl⟩) hR.2.1 hn1 hn5 (by omega) (fun z => kQ _ _ ⟨⟨_, rfl⟩, jg0 (by decide) 0, fun _ => rfl, sM_alike (d := 994) (hWs _) hK ((E _).tm hM) hn1 hn5 (fun _ => ⟨rfl, jref hW hS hT hO⟩) (fun y => absurd z y)⟩) (fun z ν b F g1 g3 hb g6 g7 => kQ _ _ ?_)) (fun r ν hr => hr.1)
  generalize hp : lN (rFl T b n / Nat.gcd (rFl T b n) (tAll T)) = p
  generalize hq : lN (tAll T / Nat.gcd (rFl T b n) (tAll T)) = q
  have Fw : jWd L t (sI (sL (sL ν 1 1 p) 1 2 q) 1 0 0) := F.wd hW
  have cellM : ∀ a j, (a < 38 ∨ 121 < a) → a ≠ 1 → gI (sI (sL (sL ν 1 1 p) 1 2 q) 1 0 0) a j = gI μ a j := fun a j n1 n2 => by
    rw [gI_sI, if_neg (by omega), gI_sL, gI_sL, (F.1 a (fun y => by have := rw_out2 a y; omega)).1]
  have hM2 : jTM T (sI (sL (sL ν 1 1 p) 1 2 q) 1 0 0) := jTM_of (fun a k hx => cellM a k (by omega) (by omega)) hM
  refine ⟨⟨_, rfl⟩, fun j => cellM 0 j (by omega) (by omega), F.2.2.1, sM_alike (d := 994) (t := t) Fw hK hM2 hn1 hn5 (fun y => absurd y z) (fun _ ξ w G e1 e2 => ?_)⟩
  obtain ⟨m1, m2, m3⟩ := rRef_best hK hb g7 e2
  rw [← m2, ← m3, hp, hq]
  refine ⟨rfl, ?_⟩
  have E1 : jEx (jrc true) μ ν := jEx.rf.fr (fun a ha => by
    rcases rw_jso2 a ha with rfl | rfl | z
    · exact Or.inr (fun _ => rfl)
    · exact Or.inr (fun _ => rfl)
    · exact Or.inl z) F
  have E2 : jEx (jrc true) μ (sI (sI (sI (sL (sL ν 1 1 p) 1 2 q) 1 0 0) 133 1 0) 133 0 0) := E1.ev (f := true) (((((jEv.rf.sL rfl).sL rfl).sI rfl).sI rfl).sI rfl)
  have E3 : jEx (jrc true) μ (sL (sL (sI ξ 133 53 (nI n)) 133 2 p) 133 3 q) := ((E2.rFr G).sI rfl).ev (f := true) ((jEv.rf.sL rfl).sL rfl)
  have W2 : jWd L t (sL (sL (sI ξ 133 53 (nI n)) 133 2 p) 133 3 q) := G.wd Fw
  refine ⟨t, W2, jStF ?_ ?_ ?_, E3.tr (fun a k ha => ?_) hT, E3.othR hO ⟨⟨?_, ?_⟩, ?_, n, hn5, ?_, ?_, fun k hk => ?_⟩⟩
  · rw [gI_sI, if_neg (by omega), gI_sI, if_neg (by omega), G.1 133 (by decide) (by decide), G.1 1 (by decide) (by decide)]
    rfl
  · show gL ξ 1 1 = p
    rw [G.2.1 1 1 (by omega)]
    rfl
  · show gL ξ 1 2 = q
    rw [G.2.1 1 2 (by omega)]
    rfl
  · rcases (show a = 4 ∨ a = 5 ∨ a = 6 ∨ a = 7 ∨ a = 8 ∨ a = 9 ∨ a = 134 ∨ a = 135 ∨ a = 136 by omega) with rfl | rfl | rfl | rfl | rfl | rfl | rfl | rfl | rfl <;> rfl
  · show gI ξ 102 1 = 0
    rw [G.1 102 (by decide) (by decide)]
    show gI ν 102 1 = 0
    rw [(F.1 102 (fun y => (rw_keep2 102 y).1 rfl)).1]
    exact hR.1.1
  · obtain ⟨m, a1, a2, a3, a4⟩ := hR.1.2
    refine ⟨m, a1, ?_, ?_, fun k hk => ?_⟩
    · show gI ξ 102 3 = _
      rw [G.1 102 (by decide) (by decide)]
      show gI ν 102 3 = _
      rw [(F.1 102 (fun y => (rw_keep2 102 y).1 rfl)).1]
      exact a2
    · show gI ξ 133 52 = _
      rw [G.1 133 (by decide) (by decide)]
      show gI ν 133 52 = _
      rw [(F.1 133 (fun y => by have := rw_out2 133 y; omega)).1]
      exact a3
    · obtain ⟨x, y, x5, y5, q1, q2, q3⟩ := a4 k hk
      refine ⟨x, y, x5, y5, ?_, ?_, ?_⟩
      · show gI ξ 103 k = _
        rw [G.1 103 (by decide) (by decide)]
        show gI ν 103 k = _
        rw [(F.1 103 (fun y => (rw_keep2 103 y).2 rfl)).1]
        exact q1
      · show gI ξ 158 (2 * k) = _
        rw [G.1 158 (by decide) (by decide)]
        show gI ν 158 (2 * k) = _
        rw [(F.1 158 (fun y => by have := rw_out2 158 y; omega)).1]
        exact q2
      · show gI ξ 158 (2 * k + 1) = _
        rw [G.1 158 (by decide) (by decide)]
        show gI ν 158 (2 * k + 1) = _
        rw [(F.1 158 (fun y => by have := rw_out2 158 y; omega)).1]
        exact q3
  · show gI ξ 112 1 = 1
    rw [G.1 112 (by decide) (by decide)]
    show gI ν 112 1 = 1
    rw [g1]
    exact hR.2.1
  · show gI ξ 112 3 = nI n
    rw [G.1 112 (by decide) (by decide)]
    exact g3
  · rfl
  · have hbk := hb k hk
    refine ⟨b k / 5, b k % 5, by omega, by omega, ?_, ?_⟩
    · show gI ξ 113 k = _
      rw [G.1 113 (by decide) (by decide)]
      show gI ν 113 k = _
      rw [g6 k hk, Nat.div_add_mod]
    · show gI ξ 159 k = _
      rw [e1 k hk]
      have := (rD_dig (al := true) (v := w) hk).1
      rw [show rD 5 (rNm true n) w k = rX true (rEv true n w k) from this, m1 k hk]
      rfl
end JRU
