/-! THE LAW from its entry, over the constructors' and the calls' contracts -/
def R_law0 : String := "TwoSeekLaw"
def jStart (L : Nat) (μ : jMem) : Prop := gN μ = 0 ∧ ∀ a, gS μ a = if a = 0 then (100, L) else (999, 0)
def jInit (I : Nat → jMem → Prop) : Prop := ∀ L μ, L ≤ 4096 → jStart L μ → jC 999 138 [.ref 1] (sA μ 11 14) (fun r ν => r = none ∧ gN ν = 132 ∧ jC 999 184 [.ref 133] (sA ν 12 79) (fun r2 ν2 => r2 = none ∧ I L ν2))
theorem j297C : jmC 297 = 600000 := rfl
theorem j297S : jmS 297 = 7302250 := rfl
theorem jini_ok : jmC 138 = 131 ∧ jmS 138 = 6212 ∧ jmC 184 = 38 ∧ jmS 184 = 1605 := ⟨rfl, rfl, rfl, rfl⟩
set_option maxRecDepth 100000 in
theorem jK_of {s : State} {args : Array Value} (hts : ∀ w ∈ lw_tbl, w.before args s = true) : ∃ (D : va_G) (cy : Nat → ClassId), ∀ b base : Nat, jK (D, cy, b, base) s := by
  have hts' : ∀ w ∈ jtbl, w.before args s = true := fun w h => hts w (List.mem_filter.mp h).1
  have hc : ∀ (k : Nat) (q : vw_C), vwCl[k]? = some q → ∃ (x : ClassId) (y : Nat → Nat), u_Kn s q.1 q.2.1 q.2.2 x y := by
    intro k q hq
    have hok := jcls k q hq
    have hi : Cond.instantiable q.1 q.2.2 ∈ jtbl := by
      match k, hq with
      | 0, hq => cases hq; exact jtb2 91 rfl rfl
      | 1, hq => cases hq; exact jtb1 226 rfl rfl
      | 2, hq => cases hq; exact jtb2 67 rfl rfl
      | 3, hq => cases hq; exact jtb2 8 rfl rfl
      | 4, hq => cases hq; exact jtb1 46 rfl rfl
      | 5, hq => cases hq; exact jtb2 26 rfl rfl
      | 6, hq => cases hq; exact jtb1 92 rfl rfl
      | 7, hq => cases hq; exact jtb1 26 rfl rfl
      | 8, hq => cases hq; exact jtb1 178 rfl rfl
      | 9, hq => cases hq; exact jtb1 184 rfl rfl
      | 10, hq => cases hq; exact jtb1 158 rfl rfl
      | 11, hq => cases hq; exact jtb1 18 rfl rfl
      | 12, hq => cases hq; exact jtb5 190 rfl rfl
      | k + 13, hq => simp [vwCl] at hq
    exact u_known (C := q.1) (T := q.2.1) (N := q.2.2) hts' hok.1 (hts' _ hi)
  have ha : ∀ ty : FieldType, (ty = .int ∨ ty = .long ∨ ty = .byte ∨ ty = .boolean) → ∃ cA, ArrOfT s cA ty ∧ va_RA s cA ty := by
    intro ty hty
    have hw : Cond.arrayClass ty ∈ jtbl := by
      rcases hty with rfl | rfl | rfl | rfl
      · exact ja_int
      · exact ja_long
      · exact ja_byte
      · exact ja_boolean
    obtain ⟨cA, kA, comp, h1, h2, h3⟩ := Cond.arrayClass_spec (hts' _ hw)
    exact ⟨cA, fun n z => ⟨fun k h => (by cases h), kA, h2, comp, h3⟩, by rcases hty with rfl | rfl | rfl | rfl <;> exact h1⟩
  have ho : ∀ ty : FieldType, Cond.arrayOver (.array ty) ∈ jnest → ∃ cA, ArrOfT s cA (.array ty) ∧ va_RA s cA (.array ty) := by
    intro ty hw
    have hb : (Cond.arrayOver (.array ty)).before args s = true := hts _ (List.mem_append_right _ (List.mem_filter.mp hw).1)
    obtain ⟨comp, cA, kA, h1, h2, h3, h4, h5⟩ := arrayOverA_spec hb
    exact ⟨cA, fun n z => ⟨fun k h => (by cases h), kA, h3, comp, h4⟩, h5⟩
  obtain ⟨c0, g0⟩ := ha .int (Or.inl rfl)
  obtain ⟨c1, g1⟩ := ha .long (Or.inr (Or.inl rfl))
  obtain ⟨c2, g2⟩ := ha .byte (Or.inr (Or.inr (Or.inl rfl)))
  obtain ⟨c3, g3⟩ := ha .boolean (Or.inr (Or.inr (Or.inr rfl)))
  obtain ⟨c4, g4⟩ := ho .int jwov.1
  obtain ⟨c5, g5⟩ := ho .long jwov.2
  have hc2 : ∀ k : Nat, ∃ (x : ClassId) (y : Nat → Nat), ∀ q : vw_C, vwCl[k]? = some q → u_Kn s q.1 q.2.1 q.2.2 x y := by
    intro k
    cases h : vwCl[k]? with
    | none => exact ⟨0, fun _ => 0, fun q hq => by cases hq⟩
    | some q =>
      obtain ⟨x, y, hxy⟩ := hc k q h
      exact ⟨x, y, fun q' hq => by cases hq; exact hxy⟩
  refine ⟨(fun k => Classical.choose (hc2 k), fun k => Classical.choose (Classical.choose_spec (hc2 k))), fun k => match k with | 0 => c0 | 1 => c1 | 2 => c2 | 3 => c3 | 4 => c4 | _ => c5, fun b base => ⟨⟨fun k q hq => Classical.choose_spec (Classical.choose_spec (hc2 k)) q hq, fun k q hq => ?_⟩, fun w hw => ?_⟩⟩
  · match k, hq with
    | 0, hq => cases hq; exact g0
    | 1, hq => cases hq; exact g1
    | 2, hq => cases hq; exact g2
    | 3, hq => cases hq; exact g3
    | 4, hq => cases hq; exact g4
    | 5, hq => cases hq; exact g5
    | k + 6, hq => simp [jtys] at hq
  · have hb : w.before args s = true := hts _ (List.mem_append_right _ (List.mem_filter.mp hw).1)
    have h2 := (List.mem_filter.mp hw).2
    cases w with
    | arrayOver t => cases t <;> first | exact over_moved (Vm.Alike.refl s.vm) hb | cases h2
    | _ => first | exact va_Nw.of rfl hb | cases h2

theorem jentry {I : Nat → jMem → Prop} (hSh : jShp I) (hIn : jInit I) (R0 : ∀ L μ, I L μ → jRel 999 139 185 [] I L false μ) (R1 : ∀ L μ, I L μ → jRel 999 140 186 [] I L true μ) (R2 : ∀ L μ, I L μ → jRel 999 141 187 [] I L true μ) (R3 : ∀ L μ (x0 : Int32) (x1 : Int32) (x2 : Int32), I L μ → jRel 999 142 194 [.int x0, .int x1, .int x2] I L false μ) (R4 : ∀ L μ (x0 : Int32) (x1 : Int32) (x2 : Int64), I L μ → jRel 999 143 197 [.int x0, .int x1, .long x2] I L false μ) (R5 : ∀ L μ (x0 : Int32) (x1 : Int32), I L μ → jRel 999 144 198 [.int x0, .int x1] I L true μ) (R6 : ∀ L μ (x0 : Int32) (x1 : Int32) (x2 : Int32) (x3 : Int32) (x4 : Int32), I L μ → jRel 999 145 199 [.int x0, .int x1, .int x2, .int x3, .int x4] I L false μ) (R7 : ∀ L μ (x0 : Int32) (x1 : Int32) (x2 : Int32) (x3 : Int32) (x4 : Int32), I L μ → jRel 999 146 224 [.int x0, .int x1, .int x2, .int x3, .int x4] I L false μ) (R8 : ∀ L μ (x0 : Int32), I L μ → jRel 999 147 226 [.int x0] I L false μ) (R9 : ∀ L μ (x0 : Int32), I L μ → jRel 999 148 228 [.int x0] I L false μ) (R10 : ∀ L μ (x0 : Int32), I L μ → jRel 999 149 236 [.int x0] I L false μ) (R11 : ∀ L μ (x0 : Int32) (x1 : Int32), I L μ → jRel 999 150 237 [.int x0, .int x1] I L false μ) (R12 : ∀ L μ (x0 : Int32) (x1 : Int32), I L μ → (x1 = 0 ∨ x1 = 1) → jRel 999 151 238 [.int x0, .int x1] I L false μ) (R13 : ∀ L μ (x0 : Int32), I L μ → (x0 = 0 ∨ x0 = 1) → jRel 999 152 239 [.int x0] I L false μ) (R14 : ∀ L μ (x0 : Int32) (x1 : Int32), I L μ → jRel 999 153 241 [.int x0, .int x1] I L false μ) (R15 : ∀ L μ (x0 : Int32) (x1 : Int32) (x2 : Int32), I L μ → (x2 = 0 ∨ x2 = 1) → jRel 999 154 242 [.int x0, .int x1, .int x2] I L false μ) (R16 : ∀ L μ (x0 : Int32), I L μ → jRel 999 155 244 [.int x0] I L false μ) (R17 : ∀ L μ (x0 : Int32) (x1 : Int32) (x2 : Int32) (x3 : Int32), I L μ → jRel 999 156 251 [.int x0, .int x1, .int x2, .int x3] I L false μ) (R18 : ∀ L μ (x0 : Int32) (x1 : Int32) (x2 : Int32), I L μ → jRel 999 157 252 [.int x0, .int x1, .int x2] I L false μ) (R19 : ∀ L μ (x0 : Int32) (x1 : Int32), I L μ → jRel 999 158 255 [.int x0, .int x1] I L false μ) (R20 : ∀ L μ (x0 : Int32) (x1 : Int32), I L μ → jRel 999 159 256 [.int x0, .int x1] I L false μ) (R21 : ∀ L μ (x0 : Int32) (x1 : Int32), I L μ → jRel 999 160 257 [.int x0, .int x1] I L false μ) (R22 : ∀ L μ (x0 : Int32), I L μ → jRel 999 161 260 [.int x0] I L false μ) (R23 : ∀ L μ (x0 : Int32) (x1 : Int32), I L μ → jRel 999 162 261 [.int x0, .int x1] I L false μ) (R24 : ∀ L μ (x0 : Int32), I L μ → jRel 999 163 262 [.int x0] I L false μ) (R25 : ∀ L μ (x0 : Int32), I L μ → jRel 999 164 263 [.int x0] I L false μ) (R26 : ∀ L μ (x0 : Int32) (x1 : Int32) (x2 : Int32), I L μ → jRel 999 165 267 [.int x0, .int x1, .int x2] I L false μ) (R27 : ∀ L μ (x0 : Int32) (x1 : Int32) (x2 : Int32) (x3 : Int32) (x4 : Int32), I L μ → jRel 999 166 272 [.int x0, .int x1, .int x2, .int x3, .int x4] I L false μ) (R28 : ∀ L μ (x0 : Int32) (x1 : Int32) (x2 : Int32) (x3 : Int32), I L μ → jRel 999 167 273 [.int x0, .int x1, .int x2, .int x3] I L false μ) (R29 : ∀ L μ (x0 : Int32) (x1 : Int32) (x2 : Int32) (x3 : Int32), I L μ → jRel 999 168 275 [.int x0, .int x1, .int x2, .int x3] I L false μ) (R30 : ∀ L μ (x0 : Int32) (x1 : Int32) (x2 : Int32) (x3 : Int32) (x4 : Int32) (x5 : Int32) (x6 : Int32), I L μ → jRel 999 169 287 [.int x0, .int x1, .int x2, .int x3, .int x4, .int x5, .int x6] I L false μ) (R31 : ∀ L μ (x0 : Int32), I L μ → jRel 999 170 288 [.int x0] I L false μ) (R32 : ∀ L μ (x0 : Int32) (x1 : Int32), I L μ → jRel 999 171 289 [.int x0, .int x1] I L false μ) (R33 : ∀ L μ (x0 : Int32) (x1 : Int32) (x2 : Int32), I L μ → jRel 999 172 290 [.int x0, .int x1, .int x2] I L false μ) {L : Nat} (hL : L ≤ 4096) {μ : jMem} (h0 : jStart L μ) : jR 1000 297 0 [some (.ref 0), none, none, none] [] (0, 0) μ (fun r _ => r = some (.int 1)) := by
  obtain ⟨k1, k2, k3, k4⟩ := jini_ok
  refine b297_0 ?_
  simp only [jx_blk, jx_op, j1i_c, j2i_c, j1l_c, j2l_c, jil_c, j1r_c, jri_c, jrii_c, jril_c, jrl_c, jrr_c, j2i'_c, jdup_i, jdup_r, jdup2_c, jdup2_l, jpo_c, jli, jll, jlr, jat_0, jat_s, jst, jst2, jkill_i, jkill_r, jkill_l, jkill_n, jnone, jgv_0, jgv_1, jgv_2, jgv_3, jrv_s, jput_0, jput_1, jput_2, jput_3, jpop_0, jpop_1, jcl_s, jc1, jc2, jvi, Nat.reduceAdd, jol_i, jol_l, jol_n, List.map_cons, List.map_nil, List.sum_cons, List.sum_nil, jcI, jcL, jcR, Nat.zero_le, true_and, and_true, and_self, Nat.reduceLeDiff, gI_sI, gI_sL, gI_sR, gL_sI, gL_sL, gL_sR, gR_sI, gR_sL, gR_sR, gS_sI, gS_sL, gS_sR, gN_sI, gN_sL, gN_sR, true_or, or_true, false_or, or_false, Nat.reduceEqDiff, false_and, and_false, if_false, if_true, reduceIte, not_true_eq_false, not_false_eq_true, j297C, j297S, h0.1, k1, k2, k3, k4]
  refine jC_post (hIn L μ hL h0) ?_
  rintro r ν ⟨rfl, hN, h2⟩
  simp only [jx_blk, jx_op, j1i_c, j2i_c, j1l_c, j2l_c, jil_c, j1r_c, jri_c, jrii_c, jril_c, jrl_c, jrr_c, j2i'_c, jdup_i, jdup_r, jdup2_c, jdup2_l, jpo_c, jli, jll, jlr, jat_0, jat_s, jst, jst2, jkill_i, jkill_r, jkill_l, jkill_n, jnone, jgv_0, jgv_1, jgv_2, jgv_3, jrv_s, jput_0, jput_1, jput_2, jput_3, jpop_0, jpop_1, jcl_s, jc1, jc2, jvi, Nat.reduceAdd, jol_i, jol_l, jol_n, List.map_cons, List.map_nil, List.sum_cons, List.sum_nil, jcI, jcL, jcR, Nat.zero_le, true_and, and_true, and_self, Nat.reduceLeDiff, gI_sI, gI_sL, gI_sR, gL_sI, gL_sL, gL_sR, gR_sI, gR_sL, gR_sR, gS_sI, gS_sL, gS_sR, gN_sI, gN_sL, gN_sR, true_or, or_true, false_or, or_false, Nat.reduceEqDiff, false_and, and_false, if_false, if_true, reduceIte, not_true_eq_false, not_false_eq_true, j297C, j297S, hN, k1, k2, k3, k4]
  refine jC_post h2 ?_
  rintro r2 ν2 ⟨rfl, hI⟩
  simp only [jx_blk, jx_op, j1i_c, j2i_c, j1l_c, j2l_c, jil_c, j1r_c, jri_c, jrii_c, jril_c, jrl_c, jrr_c, j2i'_c, jdup_i, jdup_r, jdup2_c, jdup2_l, jpo_c, jli, jll, jlr, jat_0, jat_s, jst, jst2, jkill_i, jkill_r, jkill_l, jkill_n, jnone, jgv_0, jgv_1, jgv_2, jgv_3, jrv_s, jput_0, jput_1, jput_2, jput_3, jpop_0, jpop_1, jcl_s, jc1, jc2, jvi, Nat.reduceAdd, jol_i, jol_l, jol_n, List.map_cons, List.map_nil, List.sum_cons, List.sum_nil, jcI, jcL, jcR, Nat.zero_le, true_and, and_true, and_self, Nat.reduceLeDiff, gI_sI, gI_sL, gI_sR, gL_sI, gL_sL, gL_sR, gR_sI, gR_sL, gR_sR, gS_sI, gS_sL, gS_sR, gN_sI, gN_sL, gN_sR, true_or, or_true, false_or, or_false, Nat.reduceEqDiff, false_and, and_false, if_false, if_true, reduceIte, not_true_eq_false, not_false_eq_true, j297C, j297S, hN, k1, k2, k3, k4]
  exact law_loop (d := 999) hSh R0 R1 R2 R3 R4 R5 R6 R7 R8 R9 R10 R11 R12 R13 R14 R15 R16 R17 R18 R19 R20 R21 R22 R23 R24 R25 R26 R27 R28 R29 R30 R31 R32 R33 hL (by rw [j297C]; decide) (by rw [j297S]; decide) (L + 1) 0 ν2 (by omega) (by omega) hI

/-- the start of the run, as a memory -/
def jmu0 (L : Nat) (xs : Nat → Int32) : jMem := (fun a j => if a = 0 then xs j else 0, fun _ _ => 0, fun _ _ => none, fun a => if a = 0 then (100, L) else (999, 0), 0)
theorem whole_open {I : Nat → jMem → Prop} (hSh : jShp I) (hIn : jInit I) (R0 : ∀ L μ, I L μ → jRel 999 139 185 [] I L false μ) (R1 : ∀ L μ, I L μ → jRel 999 140 186 [] I L true μ) (R2 : ∀ L μ, I L μ → jRel 999 141 187 [] I L true μ) (R3 : ∀ L μ (x0 : Int32) (x1 : Int32) (x2 : Int32), I L μ → jRel 999 142 194 [.int x0, .int x1, .int x2] I L false μ) (R4 : ∀ L μ (x0 : Int32) (x1 : Int32) (x2 : Int64), I L μ → jRel 999 143 197 [.int x0, .int x1, .long x2] I L false μ) (R5 : ∀ L μ (x0 : Int32) (x1 : Int32), I L μ → jRel 999 144 198 [.int x0, .int x1] I L true μ) (R6 : ∀ L μ (x0 : Int32) (x1 : Int32) (x2 : Int32) (x3 : Int32) (x4 : Int32), I L μ → jRel 999 145 199 [.int x0, .int x1, .int x2, .int x3, .int x4] I L false μ) (R7 : ∀ L μ (x0 : Int32) (x1 : Int32) (x2 : Int32) (x3 : Int32) (x4 : Int32), I L μ → jRel 999 146 224 [.int x0, .int x1, .int x2, .int x3, .int x4] I L false μ) (R8 : ∀ L μ (x0 : Int32), I L μ → jRel 999 147 226 [.int x0] I L false μ) (R9 : ∀ L μ (x0 : Int32), I L μ → jRel 999 148 228 [.int x0] I L false μ) (R10 : ∀ L μ (x0 : Int32), I L μ → jRel 999 149 236 [.int x0] I L false μ) (R11 : ∀ L μ (x0 : Int32) (x1 : Int32), I L μ → jRel 999 150 237 [.int x0, .int x1] I L false μ) (R12 : ∀ L μ (x0 : Int32) (x1 : Int32), I L μ → (x1 = 0 ∨ x1 = 1) → jRel 999 151 238 [.int x0, .int x1] I L false μ) (R13 : ∀ L μ (x0 : Int32), I L μ → (x0 = 0 ∨ x0 = 1) → jRel 999 152 239 [.int x0] I L false μ) (R14 : ∀ L μ (x0 : Int32) (x1 : Int32), I L μ → jRel 999 153 241 [.int x0, .int x1] I L false μ) (R15 : ∀ L μ (x0 : Int32) (x1 : Int32) (x2 : Int32), I L μ → (x2 = 0 ∨ x2 = 1) → jRel 999 154 242 [.int x0, .int x1, .int x2] I L false μ) (R16 : ∀ L μ (x0 : Int32), I L μ → jRel 999 155 244 [.int x0] I L false μ) (R17 : ∀ L μ (x0 : Int32) (x1 : Int32) (x2 : Int32) (x3 : Int32), I L μ → jRel 999 156 251 [.int x0, .int x1, .int x2, .int x3] I L false μ) (R18 : ∀ L μ (x0 : Int32) (x1 : Int32) (x2 : Int32), I L μ → jRel 999 157 252 [.int x0, .int x1, .int x2] I L false μ) (R19 : ∀ L μ (x0 : Int32) (x1 : Int32), I L μ → jRel 999 158 255 [.int x0, .int x1] I L false μ) (R20 : ∀ L μ (x0 : Int32) (x1 : Int32), I L μ → jRel 999 159 256 [.int x0, .int x1] I L false μ) (R21 : ∀ L μ (x0 : Int32) (x1 : Int32), I L μ → jRel 999 160 257 [.int x0, .int x1] I L false μ) (R22 : ∀ L μ (x0 : Int32), I L μ → jRel 999 161 260 [.int x0] I L false μ) (R23 : ∀ L μ (x0 : Int32) (x1 : Int32), I L μ → jRel 999 162 261 [.int x0, .int x1] I L false μ) (R24 : ∀ L μ (x0 : Int32), I L μ → jRel 999 163 262 [.int x0] I L false μ) (R25 : ∀ L μ (x0 : Int32), I L μ → jRel 999 164 263 [.int x0] I L false μ) (R26 : ∀ L μ (x0 : Int32) (x1 : Int32) (x2 : Int32), I L μ → jRel 999 165 267 [.int x0, .int x1, .int x2] I L false μ) (R27 : ∀ L μ (x0 : Int32) (x1 : Int32) (x2 : Int32) (x3 : Int32) (x4 : Int32), I L μ → jRel 999 166 272 [.int x0, .int x1, .int x2, .int x3, .int x4] I L false μ) (R28 : ∀ L μ (x0 : Int32) (x1 : Int32) (x2 : Int32) (x3 : Int32), I L μ → jRel 999 167 273 [.int x0, .int x1, .int x2, .int x3] I L false μ) (R29 : ∀ L μ (x0 : Int32) (x1 : Int32) (x2 : Int32) (x3 : Int32), I L μ → jRel 999 168 275 [.int x0, .int x1, .int x2, .int x3] I L false μ) (R30 : ∀ L μ (x0 : Int32) (x1 : Int32) (x2 : Int32) (x3 : Int32) (x4 : Int32) (x5 : Int32) (x6 : Int32), I L μ → jRel 999 169 287 [.int x0, .int x1, .int x2, .int x3, .int x4, .int x5, .int x6] I L false μ) (R31 : ∀ L μ (x0 : Int32), I L μ → jRel 999 170 288 [.int x0] I L false μ) (R32 : ∀ L μ (x0 : Int32) (x1 : Int32), I L μ → jRel 999 171 289 [.int x0, .int x1] I L false μ) (R33 : ∀ L μ (x0 : Int32) (x1 : Int32) (x2 : Int32), I L μ → jRel 999 172 290 [.int x0, .int x1, .int x2] I L false μ) {p : Program} {e : Env} {s : State} {m : MethodId} {below : List Frame} {meth : Method} {c : Code} (l : Launch) {b L : Nat} {xs : Nat → Int32} (hL : L ≤ 4096) (C0 : lw_At p s m meth c b L xs) : W p l e room_1 s m #[Value.ref b] below meth c s.heap [] 0 0 (lw_Z below #[Value.ref b] s) (entryFrame m ([Value.ref b] : List Value).toArray 4) := by
  obtain ⟨hx, hb, hr, hml, hown, hts, hX, hbl, hlocks, hgv⟩ := C0
  obtain ⟨D, cy, hKG⟩ := jK_of hts
  have hK := hKG b s.heap.size
  have hts' : ∀ w ∈ jtbl, w.before #[Value.ref b] s = true := fun w h => hts w (List.mem_filter.mp h).1
  have hgo := jentry hSh hIn R0 R1 R2 R3 R4 R5 R6 R7 R8 R9 R10 R11 R12 R13 R14 R15 R16 R17 R18 R19 R20 R21 R22 R23 R24 R25 R26 R27 R28 R29 R30 R31 R32 R33 hL (μ := jmu0 L xs) ⟨rfl, fun a => rfl⟩
  have hl := lv_entry ([.ref b]) (n := 4) (Nat.le_of_ble_eq_true rfl)
  rw [lg_entry_eq]
  refine hgo (D, cy, b, s.heap.size) p l e room_1 s m _ below meth c _ ⟨hx, hb, hml, hown, hts', hK, Nat.le_refl _, fun h => absurd h (by decide +kernel), by decide, by decide, by decide +kernel, by decide +kernel⟩ ?_ s.heap [] _ ⟨lv_less hl (fun q hq => ?_), rfl⟩ ⟨fun k q h => ?_, rfl, hX, ⟨rfl, fun a ha => ?_⟩, hbl⟩ va_S.rf
  · intro H locs LS pc r μ hQ hRe hS hret
    subst hQ
    obtain ⟨hd, -⟩ := hret
    refine va_forget (fun q hq => hS.2.2 q hq) ?_
    exact lw_ret hx hb hr hlocks hd
  · simpa [jasc, jcv, jad, lv_args] using hq
  · exact absurd (jW_at h).1 (by show ¬ k < 0; omega)
  · have ha : (if a = 0 then ((100, L) : Nat × Nat) else (999, 0)).1 < 200 := ha
    by_cases h0 : a = 0
    · subst h0
      exact ⟨Nat.le_refl _, Or.inr ⟨Nat.le_refl _, by show (100 : Nat) ≤ 105; decide⟩⟩
    · rw [if_neg h0] at ha
      exact absurd ha (by decide)
