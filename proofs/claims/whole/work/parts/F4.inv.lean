/-! the invariant at the start, and all put together -/
section JFI
variable {L : Nat} {μ : jMem}
theorem jrl_ok : ∀ e ∈ jRl, 1 ≤ e.1 ∧ e.1 ≤ 171 ∧ lkR wr_19 e.1 e.2.1 = some e.2.2 := by decide +kernel
theorem init_inv (h : jAg L 171 wi_19b wl_19 wr_19 μ) : jInv L μ := by
  obtain ⟨hN, hs, hc⟩ := h
  have gi : ∀ a k, 1 ≤ a → a ≤ 171 → gI μ a k = lkI wi_19b a k := fun a k p q => (hc a k p q).1
  have gl : ∀ a k, 1 ≤ a → a ≤ 171 → gL μ a k = lkL wl_19 a k := fun a k p q => (hc a k p q).2.1
  have gr : ∀ a k, 1 ≤ a → a ≤ 171 → gR μ a k = lkR wr_19 a k := fun a k p q => (hc a k p q).2.2
  have hW : jWd L 12 μ := by
    refine ⟨fun a => ?_, fun e he => ?_, fun j hj => ?_, fun j hj => ?_, fun j hj => ?_, fun j hj => ?_, fun j hj => ?_, Or.inl rfl, ?_, ?_⟩
    · rw [hs]
      by_cases c : a ≤ 171
      · rw [if_pos c]
      · rw [if_neg c]
        obtain ⟨k, rfl⟩ : ∃ k, a = k + 1 := ⟨a - 1, by omega⟩
        show (999, 0) = jS0l.getD k (999, 0)
        have hl : jS0l.length = 171 := by decide +kernel
        rw [List.getD_eq_getElem?_getD, List.getElem?_eq_none (by omega)]
        rfl
    · obtain ⟨p, q, r⟩ := jrl_ok e he
      exact (gr _ _ p q).trans r
    · exact (gr _ _ (by omega) (by omega)).trans ((by decide +kernel : ∀ j, j < 4 → lkR wr_19 3 j = some (4 + j)) j hj)
    · exact (gr _ _ (by omega) (by omega)).trans ((by decide +kernel : ∀ j, j < 25 → lkR wr_19 49 j = some (50 + j)) j hj)
    · exact (gr _ _ (by omega) (by omega)).trans ((by decide +kernel : ∀ j, j < 25 → lkR wr_19 75 j = some (76 + j)) j hj)
    · exact (gr _ _ (by omega) (by omega)).trans ((by decide +kernel : ∀ j, j < 5 → lkR wr_19 105 j = some (106 + j)) j hj)
    · exact (gr _ _ (by omega) (by omega)).trans ((by decide +kernel : ∀ j, j < 5 → lkR wr_19 115 j = some (116 + j)) j hj)
    · exact (gr _ _ (by omega) (by omega)).trans (by decide +kernel)
    · exact (gr _ _ (by omega) (by omega)).trans (by decide +kernel)
  have zi : ∀ a k v, 1 ≤ a → a ≤ 171 → lkI wi_19b a k = v → gI μ a k = v := fun a k v p q e => (gi a k p q).trans e
  refine ⟨12, hW, ⟨?_, ?_, ?_⟩, fun i hi => ?_, Or.inl rfl, ⟨⟨0, by omega, ?_, ?_, fun k hk => absurd hk (Nat.not_lt_zero _)⟩, ?_, ?_⟩, ⟨tT0, (qOk_0 (B := fun _ => 0) (n := 0)).1, ⟨⟨?_, ?_, ?_, ?_, ?_, ?_⟩, fun p hp => absurd hp (Nat.not_lt_zero _), fun p k hp => absurd hp (Nat.not_lt_zero _), fun l hl => absurd hl (Nat.not_lt_zero _), fun p s hp => absurd hp (Nat.not_lt_zero _), fun p s hp => absurd hp (Nat.not_lt_zero _)⟩, ⟨?_, ?_, ?_, ?_, ?_, ?_⟩, fun p hp => absurd hp (Nat.not_lt_zero _), fun p k hp => absurd hp (Nat.not_lt_zero _), fun l hl => absurd hl (Nat.not_lt_zero _)⟩, ⟨fun _ _ _ => 0, ⟨Nat.zero_le _, fun w hw => absurd hw (Nat.not_lt_zero _)⟩, ⟨?_, fun w hw => absurd hw (Nat.not_lt_zero _)⟩, ?_, fun w hw => absurd hw (Nat.not_lt_zero _)⟩, ⟨⟨?_, 0, by omega, ?_, ?_, fun k hk => absurd hk (Nat.not_lt_zero _)⟩, ?_, 0, by omega, ?_, ?_, fun k hk => absurd hk (Nat.not_lt_zero _)⟩, 0, by omega, ?_, ?_, fun k hk => ?_, fun hn => absurd hn (Nat.not_lt_zero _)⟩
  · rw [gi 133 0 (by omega) (by omega), gi 1 0 (by omega) (by omega)]
    decide +kernel
  · rw [gl 133 2 (by omega) (by omega), gl 1 1 (by omega) (by omega)]
    decide +kernel
  · rw [gl 133 3 (by omega) (by omega), gl 1 2 (by omega) (by omega)]
    decide +kernel
  · have e9 : gI μ 9 i = -1 := zi 9 i _ (by omega) (by omega) ((by decide +kernel : ∀ i, i < 4 → lkI wi_19b 9 i = -1) i hi)
    refine ⟨?_, ?_, Or.inl e9, fun k hk => ?_⟩
    · rw [gi 134 i (by omega) (by omega), gi 8 i (by omega) (by omega), lkI_0 (by decide +kernel), lkI_0 (by decide +kernel)]
    · rw [e9]
      exact zi 135 i _ (by omega) (by omega) ((by decide +kernel : ∀ i, i < 4 → lkI wi_19b 135 i = -1) i hi)
    · rw [e9] at hk
      have : (-1 : Int32).toNatClampNeg = 0 := by decide
      omega
  · exact zi _ _ _ (by omega) (by omega) (by decide +kernel)
  · exact zi _ _ _ (by omega) (by omega) (by decide +kernel)
  · rw [gi 133 10 (by omega) (by omega), gi 10 2 (by omega) (by omega)]
    decide +kernel
  · rw [gi 133 11 (by omega) (by omega), gi 10 3 (by omega) (by omega)]
    decide +kernel
  · exact zi _ _ _ (by omega) (by omega) (by decide +kernel)
  · exact zi _ _ _ (by omega) (by omega) (by decide +kernel)
  · exact zi _ _ _ (by omega) (by omega) (by decide +kernel)
  · exact zi _ _ _ (by omega) (by omega) (by decide +kernel)
  · exact zi _ _ _ (by omega) (by omega) (by decide +kernel)
  · exact zi _ _ _ (by omega) (by omega) (by decide +kernel)
  · exact zi _ _ _ (by omega) (by omega) (by decide +kernel)
  · exact zi _ _ _ (by omega) (by omega) (by decide +kernel)
  · exact zi _ _ _ (by omega) (by omega) (by decide +kernel)
  · exact zi _ _ _ (by omega) (by omega) (by decide +kernel)
  · exact zi _ _ _ (by omega) (by omega) (by decide +kernel)
  · exact zi _ _ _ (by omega) (by omega) (by decide +kernel)
  · exact zi _ _ _ (by omega) (by omega) (by decide +kernel)
  · exact zi _ _ _ (by omega) (by omega) (by decide +kernel)
  · exact zi _ _ _ (by omega) (by omega) (by decide +kernel)
  · exact zi _ _ _ (by omega) (by omega) (by decide +kernel)
  · exact zi _ _ _ (by omega) (by omega) (by decide +kernel)
  · exact zi _ _ _ (by omega) (by omega) (by decide +kernel)
  · exact zi _ _ _ (by omega) (by omega) (by decide +kernel)
  · exact zi _ _ _ (by omega) (by omega) (by decide +kernel)
  · exact zi _ _ _ (by omega) (by omega) (by decide +kernel)
  · exact zi _ _ _ (by omega) (by omega) (by decide +kernel)
  · rw [gl 125 k (by omega) (by omega)]
    exact lkL_0 (by decide +kernel)
theorem init_all : jInit jInv := fun L μ hL hs => ci_18 (d := 996) ((jAg_0 hs).sA rfl (by decide +kernel) (by decide +kernel) (by decide +kernel)) (fun ν h => ⟨rfl, h.1, ci_19 (d := 998) (h.sA rfl (by decide +kernel) (by decide +kernel) (by decide +kernel)) (fun ξ h2 => ⟨rfl, init_inv h2⟩)⟩)
theorem shp_all : jShp jInv := fun L μ ⟨t, hW, _⟩ => ⟨hW.1 0, by rw [hW.1]; rfl, by rw [hW.1]; rfl⟩
end JFI
