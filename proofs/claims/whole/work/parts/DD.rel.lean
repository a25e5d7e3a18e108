/-! town: the relation -/
section JTE0
variable {d L t : Nat} {μ : jMem} {Q : jQ} {B : Nat → Nat} {n p q s k j w x y o N : Nat} {T : jT}
/-- the cells of the town, the tape, the fault -/
def jtw (a k : Nat) : Bool := a == 10 || (decide (12 ≤ a) && decide (a ≤ 33)) || (a == 133 && [8, 9, 10, 11, 20, 21, 24, 25, 28, 30].contains k) || [138, 140, 142, 144, 145, 148].contains a
theorem jEx.othT {t' : Nat} {ν : jMem} (h : jEx jtw μ ν) (hO : jOth t μ) (ht' : t' = 12 ∨ t' = 23) (hp : jTp ν) (hT : ∃ T, jTok T ∧ jTX T t' ν ∧ jTM T ν) : jOth t' ν := by
  obtain ⟨ht, -, -, ⟨V, hV, hVX, hVM⟩, hR, hC⟩ := hO
  refine ⟨ht', hp, hT, ⟨V, hV, ?_, ?_⟩, ?_, ?_⟩
  · exact jVX_of (fun a k hx => (h a k (by rcases hx with ⟨rfl, rfl⟩ | rfl | rfl | rfl <;> rfl) (by rcases hx with ⟨rfl, rfl⟩ | rfl | rfl | rfl <;> rfl)).1) hVX
  · exact jVM_of (fun a k hx => (h a k (by rcases hx with ⟨rfl, rfl⟩ | rfl | rfl | rfl <;> rfl) (by rcases hx with ⟨rfl, rfl⟩ | rfl | rfl | rfl <;> rfl)).1) hVM
  · exact jRw_of (fun a k hx => (h a k (by rcases hx with ⟨rfl | rfl, rfl | rfl⟩ | rfl | rfl | rfl | rfl | ⟨rfl, rfl | rfl⟩ <;> rfl) (by rcases hx with ⟨rfl | rfl, rfl | rfl⟩ | rfl | rfl | rfl | rfl | ⟨rfl, rfl | rfl⟩ <;> rfl)).1) hR
  · exact jCh_of (fun a k hx => (h a k (by rcases hx with ⟨rfl, rfl⟩ | ⟨rfl, rfl⟩ <;> rfl) (by rcases hx with ⟨rfl, rfl⟩ | ⟨rfl, rfl⟩ <;> rfl)).1) (fun a k hx => (h a k (by rcases hx with rfl | rfl | rfl | ⟨rfl, rfl⟩ <;> rfl) (by rcases hx with rfl | rfl | rfl | ⟨rfl, rfl⟩ <;> rfl)).2) hC
theorem jtw_no {a k : Nat} (h : jtw a k = false) : a ≠ 10 ∧ ¬ (12 ≤ a ∧ a ≤ 33) ∧ ¬ (a = 133 ∧ (k = 8 ∨ k = 9 ∨ k = 10 ∨ k = 11 ∨ k = 20 ∨ k = 21 ∨ k = 24 ∨ k = 25 ∨ k = 28 ∨ k = 30)) ∧ ¬ (a = 138 ∨ a = 140 ∨ a = 142 ∨ a = 144 ∨ a = 145 ∨ a = 148) := by
  unfold jtw at h
  simp only [Bool.or_eq_false_iff, Bool.and_eq_false_iff, beq_eq_false_iff_ne, decide_eq_false_iff_not, ne_eq, List.contains_eq_mem, List.mem_cons, List.not_mem_nil, or_false, decide_eq_false_iff_not] at h
  omega
theorem jsc_no {a k : Nat} (h : jsc true a k = false) : ¬ (a = 1 ∧ k ≤ 2) ∧ ¬ (a = 133 ∧ (k ≤ 3 ∨ k = 12 ∨ k = 16 ∨ k = 22 ∨ k = 23 ∨ k = 26 ∨ k = 27 ∨ k = 29 ∨ k = 60 ∨ k = 61)) := by
  unfold jsc at h
  simp only [Bool.or_eq_false_iff, Bool.and_eq_false_iff, beq_eq_false_iff_ne, decide_eq_false_iff_not, ne_eq, List.contains_eq_mem, List.mem_cons, List.not_mem_nil, or_false, Bool.true_and] at h
  omega
theorem mtk_no {a k : Nat} (h : jtw a k = false) : mtk a k = false := by
  obtain ⟨h1, h2, h3, h4⟩ := jtw_no h
  unfold mtk
  simp only [Bool.or_eq_false_iff, Bool.and_eq_false_iff, beq_eq_false_iff_ne, ne_eq]
  omega
theorem jem_no {a k : Nat} (h : jsc true a k = false) : jem a k = false := by
  unfold jem
  rw [jsc_tf h]
  rfl
/-- of the class: only its own cells -/
theorem xtown_ex {ν : jMem} (hto : jTO o) (F : jFr (xO o ++ [o + 9, o + 10]) (xM0 o n μ) ν) : (∀ a k, a ≠ 10 → ¬ (o ≤ a ∧ a ≤ o + 10) → gI ν a k = gI μ a k ∧ gL ν a k = gL μ a k) ∧ ∀ a, gS ν a = gS μ a := by
  refine ⟨fun a k h1 h2 => ?_, fun a => F.2.2.1 a⟩
  have hx : a ∉ xO o ++ [o + 9, o + 10] := by
    unfold xO
    simp only [List.mem_append, List.mem_cons, List.not_mem_nil, or_false, not_or]
    omega
  exact ⟨((F.1 a hx).1 k).trans (xM0_g (by omega)), ((F.1 a hx).2 k).trans rfl⟩
theorem d_nat2 {x : Int32} {b : Nat} (hb : b < 1000) (h : 0 ≤ x ∧ x ≤ nI b) : ∃ n, n ≤ b ∧ x = nI n := by
  rcases pk_ix x (n := b + 1) (by omega) with z | z | ⟨n, hn, e⟩
  · have h0 := h.1
    exact absurd z (by clear h; grind)
  · have hh := h.2
    have z2 : nI b < nI (b + 1) := nI_lt (by omega) (by omega)
    exact absurd hh (by clear h hh; grind)
  · exact ⟨n, by omega, e⟩
theorem R_town (x1 : Int32) (h : jInv L μ) : jRel 999 147 226 [.int x1] jInv L false μ := by
  obtain ⟨t, hW, hS, hT, hO⟩ := h
  obtain ⟨⟨N, hN, t1, t2, t3⟩, f1, f2⟩ := hO.2.1
  have hWs : ∀ s : Int32, jWd L t (sI μ 1 0 s) := fun s => hW
  by_cases c : 0 ≤ x1 ∧ x1 ≤ nI N
  case neg => exact sX_town5 (d := 991) hW t1 c ⟨⟨_, rfl⟩, jg0 (by decide) 0, fun _ => rfl, sM_town5 (d := 991) (hWs _) t2 c ⟨rfl, jref hW hS hT hO⟩⟩
  obtain ⟨n, hn, rfl⟩ := d_nat2 (by omega) c
  have ht : t = 12 ∨ t = 23 := hO.1
  have hto : jTO (35 - t) := by
    unfold jTO
    omega
  have ob := jTO_b hto
  have hcl : ∀ i, i < n → nI ((gI μ 11 i).toNatClampNeg) = gI μ 11 i ∧ (gI μ 11 i).toNatClampNeg < 256 := fun i hi => by
    obtain ⟨e, b, hb, eb⟩ := t3 i (by omega)
    rw [eb, nI_clamp (by omega)]
    exact ⟨rfl, hb⟩
  have hBx : xT0 (fun i => (gI μ 11 i).toNatClampNeg) n μ := ⟨by omega, fun i hi => ⟨(hcl i hi).1.symm, (hcl i hi).2⟩⟩
  have hBm : ∀ ν : jMem, (∀ k, gI ν 137 k = gI μ 137 k) → mT0 (fun i => (gI μ 11 i).toNatClampNeg) n ν := fun ν g => ⟨by omega, fun i hi => by
    rw [g, (hcl i hi).1, (t3 i (by omega)).1]
    exact ⟨rfl, (hcl i hi).2⟩⟩
  have hW0 : jWd L t (xM0 (35 - t) n μ) := jWd_104 hW
  generalize (fun i => (gI μ 11 i).toNatClampNeg) = B at *
  have exr : ∀ {ν ξ : jMem}, (∀ a k, a ≠ 10 → ¬ (35 - t ≤ a ∧ a ≤ 35 - t + 10) → gI ν a k = gI μ a k ∧ gL ν a k = gL μ a k) → jEm (mM0 n ν) ξ → ∀ a k, a ≠ 10 → ¬ (35 - t ≤ a ∧ a ≤ 35 - t + 10) → jem a k = false → ¬ (a = 133 ∧ (k = 0 ∨ k = 1 ∨ k = 8 ∨ k = 9 ∨ k = 12 ∨ k = 16 ∨ k = 22 ∨ k = 23 ∨ k = 26 ∨ k = 27 ∨ k = 29 ∨ k = 60 ∨ k = 61)) → gI ξ a k = gI μ a k ∧ gL ξ a k = gL μ a k := fun {ν ξ} g G a k h1 h2 h3 h4 => ⟨((G.1 a k h3).1.trans (mM0_g h4)).trans (g a k h1 h2).1, ((G.1 a k h3).2.trans rfl).trans (g a k h1 h2).2⟩
  refine sX_town (d := 991) rfl hW t1 hn hN hBx (fun e ν hp hE => ?_) (fun T' ν hp hq F g1 g2 g3 hX => ?_)
  · obtain ⟨g, gs⟩ := xtown_ex hto (hE.1.mono (fun a ha => List.mem_append_left _ ha))
    have hWν : jWd L t (sI ν 1 0 10) := hE.1.wd hW0
    refine ⟨⟨_, rfl⟩, fun k => ?_, fun a => gs a, sM_town (d := 991) hWν (((g 133 8 (by omega) (by omega)).1).trans t2) hn hN (hBm _ (fun k => (g 137 k (by omega) (by omega)).1)) (fun e' ξ hp' G => ?_) (fun T' ξ ζ hp' => ?_)⟩
    · rw [gI_sI, if_neg (by omega)]
      exact (g 0 k (by omega) (by omega)).1
    · rw [hp] at hp'
      cases hp'
      refine ⟨rfl, ?_⟩
      have g' : ∀ a k, a ≠ 10 → ¬ (35 - t ≤ a ∧ a ≤ 35 - t + 10) → a ≠ 1 → gI (sI ν 1 0 10) a k = gI μ a k ∧ gL (sI ν 1 0 10) a k = gL μ a k := fun a k h1 h2 h3 => ⟨by
        rw [gI_sI, if_neg (by omega)]
        exact (g a k h1 h2).1, (g a k h1 h2).2⟩
      have gz : ∀ a k, a ≠ 10 → ¬ (35 - t ≤ a ∧ a ≤ 35 - t + 10) → a ≠ 1 → jem a k = false → ¬ (a = 133 ∧ (k = 0 ∨ k = 1 ∨ k = 8 ∨ k = 9 ∨ k = 10 ∨ k = 11 ∨ k = 12 ∨ k = 16 ∨ k = 22 ∨ k = 23 ∨ k = 26 ∨ k = 27 ∨ k = 29 ∨ k = 60 ∨ k = 61)) → gI (sI (sI (sI ξ 133 10 (nI e.1)) 133 11 (nI e.2)) 133 0 10) a k = gI μ a k ∧ gL (sI (sI (sI ξ 133 10 (nI e.1)) 133 11 (nI e.2)) 133 0 10) a k = gL μ a k := fun a k h1 h2 h3 h4 h5 => ⟨by
        rw [gI_sI, if_neg (by omega), gI_sI, if_neg (by omega), gI_sI, if_neg (by omega)]
        exact (G.1 a k h4).1.trans ((mM0_g (by omega)).trans (g' a k h1 h2 h3).1), (G.1 a k h4).2.trans (g' a k h1 h2 h3).2⟩
      have hWξ : jWd L t (sI (sI (sI ξ 133 10 (nI e.1)) 133 11 (nI e.2)) 133 0 10) := G.wd hWν
      have E : jEx jtw μ (sI (sI (sI ξ 133 10 (nI e.1)) 133 11 (nI e.2)) 133 0 10) := fun a k h1 h2 => by
        obtain ⟨n1, n2, n3, n4⟩ := jtw_no h2
        obtain ⟨m1, m2⟩ := jsc_no h1
        by_cases z : a = 1
        · subst z
          refine ⟨?_, ?_⟩
          · rw [gI_sI, if_neg (by omega), gI_sI, if_neg (by omega), gI_sI, if_neg (by omega)]
            refine (G.1 1 k (jem_no h1)).1.trans ((mM0_g (by omega)).trans ?_)
            rw [gI_sI, if_neg (by omega)]
            exact (g 1 k (by omega) (by omega)).1
          · exact (G.1 1 k (jem_no h1)).2.trans (g 1 k (by omega) (by omega)).2
        · exact gz a k n1 (by omega) z (jem_no h1) (by omega)
      have v10 : ∀ k, gI (sI (sI (sI ξ 133 10 (nI e.1)) 133 11 (nI e.2)) 133 0 10) 10 k = gI ν 10 k := fun k => by
        rw [gI_sI, if_neg (by omega), gI_sI, if_neg (by omega), gI_sI, if_neg (by omega)]
        refine (G.1 10 k rfl).1.trans ((mM0_g (by omega)).trans ?_)
        rw [gI_sI, if_neg (by omega)]
      refine ⟨t, hWξ, ⟨?_, ?_, ?_⟩, E.tr (fun a k ha => ?_) hT, E.othT hO ht ?_ ?_⟩
      · rw [gI_sI, if_pos ⟨rfl, rfl⟩, gI_sI, if_neg (by omega), gI_sI, if_neg (by omega), gI_sI, if_neg (by omega)]
        rw [(G.1 1 0 rfl).1, mM0_g (by omega), gI_sI, if_pos ⟨rfl, rfl⟩]
      · rw [(gz 133 2 (by omega) (by omega) (by omega) rfl (by omega)).2]
        refine hS.2.1.trans ?_
        refine ((G.1 1 1 rfl).2.trans (g 1 1 (by omega) (by omega)).2).symm
      · rw [(gz 133 3 (by omega) (by omega) (by omega) rfl (by omega)).2]
        refine hS.2.2.trans ?_
        refine ((G.1 1 2 rfl).2.trans (g 1 2 (by omega) (by omega)).2).symm
      · rcases (show a = 4 ∨ a = 5 ∨ a = 6 ∨ a = 7 ∨ a = 8 ∨ a = 9 ∨ a = 134 ∨ a = 135 ∨ a = 136 by omega) with rfl | rfl | rfl | rfl | rfl | rfl | rfl | rfl | rfl <;> rfl
      · refine ⟨⟨0, by omega, ?_, ?_, fun k hk => absurd hk (Nat.not_lt_zero _)⟩, ?_, ?_⟩
        · rw [v10, hE.2.1, xM0_b hto rfl]
          rfl
        · rw [gI_sI, if_neg (by omega), gI_sI, if_neg (by omega), gI_sI, if_neg (by omega), (G.1 133 8 rfl).1, mM0_v]
          rfl
        · rw [v10, hE.2.2.1, gI_sI, if_neg (by omega), gI_sI, if_neg (by omega), gI_sI, if_pos ⟨rfl, rfl⟩]
        · rw [v10, hE.2.2.2, gI_sI, if_neg (by omega), gI_sI, if_pos ⟨rfl, rfl⟩]
      · obtain ⟨T, hK, hX, hM⟩ := hO.2.2.1
        refine ⟨T, hK, jTX_of2 (fun a k h1 h2 => (gz a k (by omega) (by omega) (by omega) ?_ (by omega)).1) hX, jTM_of (fun a k hx => (gz a k (by omega) (by omega) (by omega) ?_ (by omega)).1) hM⟩
        · rcases (show a = 12 ∨ a = 13 ∨ a = 14 ∨ a = 15 ∨ a = 16 ∨ a = 17 ∨ a = 18 ∨ a = 19 ∨ a = 20 ∨ a = 21 ∨ a = 22 ∨ a = 23 ∨ a = 24 ∨ a = 25 ∨ a = 26 ∨ a = 27 ∨ a = 28 ∨ a = 29 ∨ a = 30 ∨ a = 31 ∨ a = 32 ∨ a = 33 by omega) with rfl | rfl | rfl | rfl | rfl | rfl | rfl | rfl | rfl | rfl | rfl | rfl | rfl | rfl | rfl | rfl | rfl | rfl | rfl | rfl | rfl | rfl <;> rfl
        · rcases hx with ⟨rfl, rfl | rfl | rfl | rfl | rfl | rfl⟩ | rfl | rfl | rfl | rfl | rfl | rfl <;> rfl
    · rw [hp] at hp'
      cases hp'
  · obtain ⟨g, gs⟩ := xtown_ex hto F
    have hWν : jWd L t ν := F.wd hW0
    have hWs2 : jWd L (35 - t) (sI (sR (sR ν 1 6 (some t)) 1 5 (some (35 - t))) 1 0 0) := jWd_swap hWν
    have g' : ∀ a k, a ≠ 10 → ¬ (35 - t ≤ a ∧ a ≤ 35 - t + 10) → a ≠ 1 → gI (sI (sR (sR ν 1 6 (some t)) 1 5 (some (35 - t))) 1 0 0) a k = gI μ a k ∧ gL (sI (sR (sR ν 1 6 (some t)) 1 5 (some (35 - t))) 1 0 0) a k = gL μ a k := fun a k h1 h2 h3 => ⟨by
      rw [gI_sI, if_neg (by omega)]
      exact (g a k h1 h2).1, (g a k h1 h2).2⟩
    have l1 : ∀ a k, gL (sI (sR (sR ν 1 6 (some t)) 1 5 (some (35 - t))) 1 0 0) a k = gL ν a k := fun a k => rfl
    have i1 : ∀ a k, ¬ (a = 1 ∧ k = 0) → gI (sI (sR (sR ν 1 6 (some t)) 1 5 (some (35 - t))) 1 0 0) a k = gI ν a k := fun a k z => by
      rw [gI_sI, if_neg z]
      rfl
    have i0 : gI (sI (sR (sR ν 1 6 (some t)) 1 5 (some (35 - t))) 1 0 0) 1 0 = 0 := by
      rw [gI_sI, if_pos ⟨rfl, rfl⟩]
    have gs2 : ∀ a, gS (sI (sR (sR ν 1 6 (some t)) 1 5 (some (35 - t))) 1 0 0) a = gS μ a := gs
    generalize sI (sR (sR ν 1 6 (some t)) 1 5 (some (35 - t))) 1 0 0 = ν2 at *
    refine ⟨⟨_, rfl⟩, fun k => (g' 0 k (by omega) (by omega) (by omega)).1, gs2, sM_town (d := 991) hWs2 (((g' 133 8 (by omega) (by omega) (by omega)).1).trans t2) hn hN (hBm _ (fun k => (g' 137 k (by omega) (by omega) (by omega)).1)) (fun e' ξ hp' => ?_) (fun T2 ξ ζ hp' hq2 G K hM => ?_)⟩
    · rw [hp] at hp'
      cases hp'
    · rw [hp] at hp'
      cases hp'
      refine ⟨rfl, ?_⟩
      have gz : ∀ a k, mtk a k = false → jem a k = false → ¬ (a = 133 ∧ (k = 10 ∨ k = 11)) → gI ζ a k = gI (mM0 n ν2) a k ∧ gL ζ a k = gL ν2 a k := fun a k h1 h2 h3 => ⟨by
        rw [K.1 a k h1, gI_sI, if_neg (by omega), gI_sI, if_neg (by omega)]
        exact (G.1 a k h2).1, (K.2.1 a k).trans (G.1 a k h2).2⟩
      have E : jEx jtw μ ζ := fun a k h1 h2 => by
        obtain ⟨n1, n2, n3, n4⟩ := jtw_no h2
        obtain ⟨m1, m2⟩ := jsc_no h1
        have gg := gz a k (mtk_no h2) (jem_no h1) (by omega)
        have g3 := g a k n1 (by omega)
        refine ⟨gg.1.trans ((mM0_g (by omega)).trans ((i1 a k (by omega)).trans g3.1)), gg.2.trans ((l1 a k).trans g3.2)⟩
      have hWζ : jWd L (35 - t) ζ := K.wd (G.wd hWs2)
      have z133 : gI ζ 133 0 = 0 := by
        rw [(gz 133 0 rfl rfl (by omega)).1, mM0_v]
        rfl
      have z10 : ∀ a k, a ≠ 133 → a ≠ 1 → mtk a k = false → jem a k = false → gI ζ a k = gI ν a k := fun a k h1 h2 h3 h4 => (gz a k h3 h4 (by omega)).1.trans ((mM0_g (by omega)).trans (i1 a k (by omega)))
      refine ⟨35 - t, hWζ, ⟨?_, ?_, ?_⟩, E.tr (fun a k ha => ?_) hT, E.othT hO (by omega) ?_ ⟨T', hq.1, jTX_of2 (fun a k h1 h2 => z10 a k (by omega) (by omega) ?_ ?_) hX, hM⟩⟩
      · rw [z133, (gz 1 0 rfl rfl (by omega)).1, mM0_g (by omega), i0]
      · rw [(gz 133 2 rfl rfl (by omega)).2, (gz 1 1 rfl rfl (by omega)).2, l1, l1, (g 133 2 (by omega) (by omega)).2, (g 1 1 (by omega) (by omega)).2]
        exact hS.2.1
      · rw [(gz 133 3 rfl rfl (by omega)).2, (gz 1 2 rfl rfl (by omega)).2, l1, l1, (g 133 3 (by omega) (by omega)).2, (g 1 2 (by omega) (by omega)).2]
        exact hS.2.2
      · rcases (show a = 4 ∨ a = 5 ∨ a = 6 ∨ a = 7 ∨ a = 8 ∨ a = 9 ∨ a = 134 ∨ a = 135 ∨ a = 136 by omega) with rfl | rfl | rfl | rfl | rfl | rfl | rfl | rfl | rfl <;> rfl
      · refine ⟨⟨0, by omega, ?_, ?_, fun k hk => absurd hk (Nat.not_lt_zero _)⟩, ?_, ?_⟩
        · rw [z10 10 1 (by omega) (by omega) rfl rfl, g1]
          rfl
        · rw [(gz 133 8 rfl rfl (by omega)).1, mM0_v]
          rfl
        · rw [z10 10 2 (by omega) (by omega) rfl rfl, g2, K.1 133 10 rfl, gI_sI, if_neg (by omega), gI_sI, if_pos ⟨rfl, rfl⟩]
        · rw [z10 10 3 (by omega) (by omega) rfl rfl, g3, K.1 133 11 rfl, gI_sI, if_pos ⟨rfl, rfl⟩]
      · rcases (show a = 12 ∨ a = 13 ∨ a = 14 ∨ a = 15 ∨ a = 16 ∨ a = 17 ∨ a = 18 ∨ a = 19 ∨ a = 20 ∨ a = 21 ∨ a = 22 ∨ a = 23 ∨ a = 24 ∨ a = 25 ∨ a = 26 ∨ a = 27 ∨ a = 28 ∨ a = 29 ∨ a = 30 ∨ a = 31 ∨ a = 32 ∨ a = 33 by omega) with rfl | rfl | rfl | rfl | rfl | rfl | rfl | rfl | rfl | rfl | rfl | rfl | rfl | rfl | rfl | rfl | rfl | rfl | rfl | rfl | rfl | rfl <;> rfl
      · rcases (show a = 12 ∨ a = 13 ∨ a = 14 ∨ a = 15 ∨ a = 16 ∨ a = 17 ∨ a = 18 ∨ a = 19 ∨ a = 20 ∨ a = 21 ∨ a = 22 ∨ a = 23 ∨ a = 24 ∨ a = 25 ∨ a = 26 ∨ a = 27 ∨ a = 28 ∨ a = 29 ∨ a = 30 ∨ a = 31 ∨ a = 32 ∨ a = 33 by omega) with rfl | rfl | rfl | rfl | rfl | rfl | rfl | rfl | rfl | rfl | rfl | rfl | rfl | rfl | rfl | rfl | rfl | rfl | rfl | rfl | rfl | rfl <;> rfl
end JTE0
