/-! pour: the relation -/
section JTG
variable {d L t : Nat} {μ : jMem} {Q : jQ}
theorem R_pour (x1 x2 x3 x4 x5 : Int32) (h : jInv L μ) : jRel 999 145 199 [.int x1, .int x2, .int x3, .int x4, .int x5] jInv L false μ := by
  obtain ⟨t, hW, hS, hT, hO⟩ := h
  have hWw : ∀ w, jWd L t (sI μ 1 0 w) := fun w => hW
  by_cases c : (0 ≤ x1 ∧ x1 < 4) ∧ (0 ≤ x3 ∧ x3 < 4)
  case neg => exact sX_pour1 (d := 993) hW c ⟨⟨_, rfl⟩, jg0 (by decide) 0, fun _ => rfl, sM_pour1 (d := 993) (hWw _) c ⟨rfl, jref hW hS hT hO⟩⟩
  obtain ⟨i1, h1, rfl⟩ := jfour c.1
  obtain ⟨i2, h2, rfl⟩ := jfour c.2
  have E : ∀ w i, i < 4 → gI (sI μ 1 0 w) 135 i = gI μ 9 i := fun w i hi => by rw [gI_sI, if_neg (by omega)]; exact (hT i hi).2.1
  have E4 : ∀ w i, i < 4 → gI (sI μ 1 0 w) 134 i = gI μ 8 i := fun w i hi => by rw [gI_sI, if_neg (by omega)]; exact (hT i hi).1
  by_cases c3 : gI μ 9 i1 < 0 ∨ gI μ 9 i2 < 0
  · have c3' : ∀ w, gI (sI μ 1 0 w) 135 i1 < 0 ∨ gI (sI μ 1 0 w) 135 i2 < 0 := fun w => by rw [E _ _ h1, E _ _ h2]; exact c3
    exact sX_pour3 (d := 993) hW h1 h2 c3 ⟨⟨_, rfl⟩, jg0 (by decide) 0, fun _ => rfl, sM_pour_ok (d := 993) (hWw _) h1 h2 (fun _ => ⟨rfl, jref hW hS hT hO⟩) (fun q => absurd (c3' _) q) (fun q => absurd (c3' _) q) (fun q => absurd (c3' _) q)⟩
  have c3' : ∀ w, ¬ (gI (sI μ 1 0 w) 135 i1 < 0 ∨ gI (sI μ 1 0 w) 135 i2 < 0) := fun w => by rw [E _ _ h1, E _ _ h2]; exact c3
  have c1 : ¬ gI μ 9 i1 < 0 := fun q => c3 (Or.inl q)
  have c2 : ¬ gI μ 9 i2 < 0 := fun q => c3 (Or.inr q)
  refine sX_pour_ok (d := 993) hW h1 h2 c1 c2 (fun s => ?_) (fun s c6 => ?_) (fun s c6 => ?_)
  · have s' : ∀ w, ¬ gI (sI μ 1 0 w) 134 i1 = gI (sI μ 1 0 w) 134 i2 := fun w => by rw [E4 _ _ h1, E4 _ _ h2]; exact s
    exact ⟨⟨_, rfl⟩, jg0 (by decide) 0, fun _ => rfl, sM_pour_ok (d := 993) (hWw _) h1 h2 (fun q => absurd q (c3' _)) (fun _ _ => ⟨rfl, jref hW hS hT hO⟩) (fun _ q => absurd q (s' _)) (fun _ q => absurd q (s' _))⟩
  · have s' : ∀ w, gI (sI μ 1 0 w) 134 i1 = gI (sI μ 1 0 w) 134 i2 := fun w => by rw [E4 _ _ h1, E4 _ _ h2]; exact s
    exact ⟨⟨_, rfl⟩, jg0 (by decide) 0, fun _ => rfl, sM_pour_ok (d := 993) (hWw _) h1 h2 (fun q => absurd q (c3' _)) (fun _ q => absurd (s' _) q) (fun _ _ _ => ⟨rfl, jref hW hS hT hO⟩) (fun _ _ q => absurd c6 q)⟩
  have s' : ∀ w, gI (sI μ 1 0 w) 134 i1 = gI (sI μ 1 0 w) 134 i2 := fun w => by rw [E4 _ _ h1, E4 _ _ h2]; exact s
  refine sX_pour94 (d := 993) hW h1 h2 c1 c2 c6 (fun r => ?_) (fun r1 r2 => ?_)
  · have r' : ∀ w, ¬ (jrg (gI (sI (sI (sI μ 1 0 w) 133 1 0) 133 0 0) 135 i1) x2 x5 ∧ jrg (gI (sI (sI (sI μ 1 0 w) 133 1 0) 133 0 0) 135 i2) x4 x5) := fun w => by
      rw [gI_sI, gI_sI, if_neg (by omega), if_neg (by omega), E _ _ h1, gI_sI, gI_sI, if_neg (by omega), if_neg (by omega), E _ _ h2]; exact r
    exact ⟨⟨_, rfl⟩, jg0 (by decide) 0, fun _ => rfl, sM_pour_ok (d := 993) (hWw _) h1 h2 (fun q => absurd q (c3' _)) (fun _ q => absurd (s' _) q) (fun _ _ q => absurd q c6) (fun _ _ _ => sM_pour92 (d := 993) (t := t) hW h1 h2 (fun _ => ⟨rfl, jref hW hS hT hO⟩) (fun q1 q2 => absurd ⟨q1, q2⟩ (r' _)))⟩
  obtain ⟨n1, hn1, e1⟩ := (hT i1 h1).2.2.1.resolve_left (fun q => c1 (by rw [q]; decide))
  obtain ⟨n2, hn2, e2⟩ := (hT i2 h2).2.2.1.resolve_left (fun q => c2 (by rw [q]; decide))
  have R1 := r1
  have R2 := r2
  rw [e1] at R1
  rw [e2] at R2
  obtain ⟨a, n, rfl, rfl, ha⟩ := jrg_n hn1 c6 R1
  obtain ⟨b, n', rfl, en, hb⟩ := jrg_n hn2 c6 R2
  obtain rfl : n = n' := (nI_eq (by omega) (by omega)).mp en
  refine sX_pour129 (d := 993) hW hT h1 h2 e1 e2 hn1 hn2 ha hb s (fun ν F x => ?_)
  have Wν := F.wd hW
  have nn : ∀ y, (y = 8 ∨ y = 9 ∨ y ≥ 100 ∨ y ≤ 3) → y ∉ [4 + i2] := fun y hy => by simp; omega
  have E' : ∀ i, i < 4 → gI (sI ν 1 0 0) 135 i = gI μ 9 i := fun i hi => by rw [gI_sI, if_neg (by omega), (F.1 135 (nn _ (by omega))).1]; exact (hT i hi).2.1
  have E4' : ∀ i, i < 4 → gI (sI ν 1 0 0) 134 i = gI μ 8 i := fun i hi => by rw [gI_sI, if_neg (by omega), (F.1 134 (nn _ (by omega))).1]; exact (hT i hi).1
  have E'' : ∀ i, i < 4 → gI (sI (sI (sI ν 1 0 0) 133 1 0) 133 0 0) 135 i = gI μ 9 i := fun i hi => by rw [gI_sI, gI_sI, if_neg (by omega), if_neg (by omega)]; exact E' i hi
  have hWκ : jWd L t (sI (sI (sI ν 1 0 0) 133 1 0) 133 0 0) := Wν
  refine ⟨⟨_, rfl⟩, fun j => by rw [jg0 (by decide)]; exact jg1 F (nn 0 (by omega)) j, F.2.2.1, sM_pour_ok (d := 993) (t := t) Wν h1 h2 (fun q => absurd q (by rw [E' _ h1, E' _ h2]; exact c3)) (fun _ q => absurd (by rw [E4' _ h1, E4' _ h2]; exact s) q) (fun _ _ q => absurd q c6) (fun _ _ _ => sM_pour92 (d := 993) hWκ h1 h2 (fun q => absurd (by rw [E'' _ h1, E'' _ h2]; exact ⟨r1, r2⟩) q) (fun _ _ => sM_pour142 hWκ h1 h2 (by omega) (by omega) (fun ρ G y => ⟨rfl, t, G.wd hWκ, ⟨?_, ?_, ?_⟩, fun i hi => ?_, ?_⟩)))⟩
  · rw [(G.1 133 (by simp)).1, (G.1 1 (by simp)).1]; simp [gI_sI]
  · rw [(G.1 133 (by simp)).2, (G.1 1 (by simp)).2, gL_sI, gL_sI, gL_sI, gL_sI, gL_sI, gL_sI, (F.1 133 (nn _ (by omega))).2, (F.1 1 (nn _ (by omega))).2]; exact hS.2.1
  · rw [(G.1 133 (by simp)).2, (G.1 1 (by simp)).2, gL_sI, gL_sI, gL_sI, gL_sI, gL_sI, gL_sI, (F.1 133 (nn _ (by omega))).2, (F.1 1 (nn _ (by omega))).2]; exact hS.2.2
  · obtain ⟨u1, u2, u3, u4⟩ := hT i hi
    have q : ∀ y k, (y = 8 ∨ y = 9 ∨ y = 134 ∨ y = 135) → gI ρ y k = gI μ y k := fun y k hy => by
      rw [(G.1 y (by simp; omega)).1, gI_sI, gI_sI, gI_sI, if_neg (by omega), if_neg (by omega), if_neg (by omega), (F.1 y (nn _ (by omega))).1]
    rw [q 8 _ (by simp), q 9 _ (by simp), q 134 _ (by simp), q 135 _ (by simp)]
    refine ⟨u1, u2, u3, fun k hk => ?_⟩
    have hk64 : k < 64 := by
      rcases u3 with z | ⟨m, hm, z⟩
      · rw [z] at hk; exact absurd hk (by simp)
      · rw [z, nI_clamp (by omega)] at hk; omega
    have v4 : gL ρ (4 + i) k = gL ν (4 + i) k := by rw [(G.1 (4 + i) (by simp; omega)).2, gL_sI, gL_sI, gL_sI]
    have v6 : ∀ z, gL (sI (sI (sI ν 1 0 0) 133 1 0) 133 0 0) 136 z = gL μ 136 z := fun z => by rw [gL_sI, gL_sI, gL_sI, (F.1 136 (nn _ (by omega))).2]
    rw [v4, y, v6, v6]
    by_cases hi2 : i = i2
    · subst hi2
      rw [x]
      by_cases hr : b ≤ k ∧ k < b + n
      · obtain ⟨w1, w2, w3, w4⟩ := hT i1 h1
        have := w4 (a + (k - b)) (by rw [e1, nI_clamp (by omega)]; omega)
        rw [if_pos hr, if_pos (by omega), show 64 * i1 + a + (64 * i + k - (64 * i + b)) = 64 * i1 + (a + (k - b)) by omega, ← s]
        exact this
      · rw [if_neg hr, if_neg (by omega)]
        exact u4 k hk
    · rw [if_neg (by omega), (F.1 (4 + i) (by simp; omega)).2]
      exact u4 k hk
  · refine jOth_Fr ?_ G (jOth_sI rfl (jOth_sI rfl (jOth_sI rfl (jOth_Fr ?_ F hO))))
    · intro z hz; simp at hz; subst hz; rfl
    · intro z hz; simp at hz; subst hz
      rcases (show i2 = 0 ∨ i2 = 1 ∨ i2 = 2 ∨ i2 = 3 by omega) with rfl | rfl | rfl | rfl <;> rfl
end JTG
