section JT6
variable {L : Nat} {μ : jMem}
theorem R_tray (x1 x2 x3 : Int32) (h : jInv L μ) : jRel 999 142 194 [.int x1, .int x2, .int x3] jInv L false μ := by
  obtain ⟨t, hW, hS, hT, hO⟩ := h
  refine sX_tray hW (fun c => ?_) (fun c c5 => ?_) (fun c c6 => ?_) (fun i n ν hi e1 c2 hn e3 hF hz => ?_)
  · refine ⟨⟨_, rfl⟩, jg0 (by decide) 0, fun _ => rfl, sM_tray (t := t) hW (fun _ => ⟨rfl, jref hW hS hT hO⟩) (fun q => absurd q c) (fun q => absurd q c) (fun i n ν hi e1 e2 _ _ _ _ => absurd ⟨by rw [e1]; exact jtr_n hi, e2⟩ c)⟩
  · refine ⟨⟨_, rfl⟩, jg0 (by decide) 0, fun _ => rfl, sM_tray (t := t) hW (fun q => absurd c q) (fun _ _ => ⟨rfl, jref hW hS hT hO⟩) (fun _ q => absurd c5 q) (fun i n ν hi e1 e2 hn e3 _ _ => absurd c5 (by rw [e3]; exact nI_nlt (b := n) (a := 64) hn (by omega)))⟩
  · refine ⟨⟨_, rfl⟩, jg0 (by decide) 0, fun _ => rfl, sM_tray (t := t) hW (fun q => absurd c q) (fun _ q => absurd q (by grind)) (fun _ _ _ => ⟨rfl, jref hW hS hT hO⟩) (fun i n ν hi e1 e2 hn e3 _ _ => absurd c6 (by rw [e3]; exact nI_pos (by omega)))⟩
  · have h0 : 0 ∉ [4 + i] := by simp; omega
    have hWν : jWd L t (sI ν 1 0 0) := hF.wd hW
    refine ⟨⟨_, rfl⟩, fun k => by rw [jg0 (by decide), jg1 hF h0, jg0 (by decide), jg0 (by decide)], fun a => hF.2.2.1 a, ?_⟩
    have c1 : 0 ≤ x1 ∧ x1 < 4 := by rw [e1]; exact jtr_n hi
    refine sM_tray (t := t) hWν (fun q => absurd ⟨c1, c2⟩ q) (fun _ q => absurd q (by rw [e3]; exact nI_nlt (b := n) (a := 64) hn (by omega))) (fun _ _ q => absurd q (by rw [e3]; exact nI_pos (by omega))) (fun i2 n2 ν2 hi2 e12 _ hn2 e32 hF2 hz2 => ⟨rfl, t, hF2.wd hWν, ?_, ?_, ?_⟩)
    · have q1 : gI ν2 133 0 = 0 := by rw [(hF2.1 133 (by simp)).1]; simp [gI_sI]
      have q2 : gI ν2 1 0 = 0 := by rw [(hF2.1 1 (by simp)).1]; simp [gI_sI]
      have l1 : ∀ k, gL ν2 133 k = gL μ 133 k := fun k => by
        rw [(hF2.1 133 (by simp)).2]
        exact (hF.1 133 (by simp; omega)).2 k
      have l2 : ∀ k, gL ν2 1 k = gL μ 1 k := fun k => by
        rw [(hF2.1 1 (by simp)).2]
        exact (hF.1 1 (by simp; omega)).2 k
      exact ⟨by rw [q1, q2], by rw [l1, l2]; exact hS.2.1, by rw [l1, l2]; exact hS.2.2⟩
    · have ei : i2 = i := (nI_eq (by omega) (by omega)).mp (e12.symm.trans e1)
      have en : n2 = n := (nI_eq (by omega) (by omega)).mp (e32.symm.trans e3)
      subst ei
      subst en
      have g : ∀ a j, a ≠ 1 → a ≠ 133 → a ≠ 136 → a ≠ 4 + i2 → gI ν2 a j = if a = 135 ∧ j = i2 then x3 else if a = 134 ∧ j = i2 then x2 else if a = 9 ∧ j = i2 then x3 else if a = 8 ∧ j = i2 then x2 else gI μ a j := fun a j n1 n2 n3 n4 => by
        rw [(hF2.1 a (by simp; omega)).1, gI_sI, gI_sI, gI_sI, gI_sI, gI_sI]
        by_cases e1 : a = 135 ∧ j = i2
        · rw [if_pos e1, if_pos e1]
        rw [if_neg e1, if_neg e1]
        by_cases e2 : a = 134 ∧ j = i2
        · rw [if_pos e2, if_pos e2]
        rw [if_neg e2, if_neg e2, if_neg (by omega), if_neg (by omega), if_neg (by omega), (hF.1 a (by simp; omega)).1, gI_sI, gI_sI]
      intro j hj
      obtain ⟨t1, t2, t3, t4⟩ := hT j hj
      rw [g 134 j (by omega) (by omega) (by omega) (by omega), g 8 j (by omega) (by omega) (by omega) (by omega), g 135 j (by omega) (by omega) (by omega) (by omega), g 9 j (by omega) (by omega) (by omega) (by omega)]
      by_cases hji : j = i2
      · subst hji
        simp only [true_and, and_true, if_true, if_false, Nat.reduceEqDiff, if_pos, e3]
        refine ⟨Or.inr ⟨n2, hn, rfl⟩, fun k hk => ?_⟩
        rw [nI_clamp (by omega)] at hk
        have z0 : gL ν2 (4 + j) k = 0 := by
          rw [(hF2.1 (4 + j) (by simp; omega)).2]
          exact hz k (by omega)
        rw [hz2, if_pos (by omega), z0]
        exact ⟨rfl, jcut_zero _⟩
      · simp only [hji, and_false, if_false]
        refine ⟨t1, t2, t3, fun k hk => ?_⟩
        have hlen : k < 64 := by
          rcases t3 with e | ⟨m, hm, e⟩
          · rw [e] at hk; exact absurd hk (Nat.not_lt_zero k)
          · rw [e, nI_clamp (by omega)] at hk; omega
        have q1 : gL ν2 136 (64 * j + k) = gL μ 136 (64 * j + k) := by
          rw [hz2, if_neg (by omega)]
          exact (hF.1 136 (by simp; omega)).2 _
        have q2 : gL ν2 (4 + j) k = gL μ (4 + j) k := by
          rw [(hF2.1 (4 + j) (by simp; omega)).2]
          exact (hF.1 (4 + j) (by simp; omega)).2 k
        rw [q1, q2]
        exact t4 k hk
    · refine jOth_Fr (A := [136]) (by decide) hF2 (jOth_sI rfl (jOth_sI rfl (jOth_sI rfl (jOth_sI rfl (jOth_sI rfl ?_)))))
      refine jOth_Fr (A := [4 + i]) (fun a ha => ?_) hF (jOth_sI rfl (jOth_sI rfl hO))
      have : a = 4 + i := by simpa using ha
      subst this
      rcases (show i = 0 ∨ i = 1 ∨ i = 2 ∨ i = 3 by omega) with rfl | rfl | rfl | rfl <;> rfl
end JT6
