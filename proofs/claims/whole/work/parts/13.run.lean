/-! WALKING LISTS OF INSTRUCTIONS -/
abbrev jE : Type := Instr × Nat × Nat × Nat × Nat × Value
def jx_ln (o : Instr) : Nat := match o with
  | .bipush _ | .iload _ | .lload _ | .aload _ | .istore _ | .lstore _ | .astore _ | .ldc _ | .newarray _ => 2
  | .sipush _ | .ldc_w _ | .ldc2_w _ | .getfield _ | .putfield _ | .invokevirtual _ | .invokestatic _ | .invokespecial _ | .new _ | .goto _ | .ifCond _ _ | .if_icmp _ _ | .iinc _ _ => 3
  | .multianewarray _ _ => 4
  | .tableswitch _ _ _ _ => 0
  | _ => 1
def jx_blk (d n : Nat) : List jE → Nat → List (Option Value) → List Value → Nat × Nat → jMem → jQ → Prop
  | [], pc, ls, stk, al, μ, Q => jR d n pc ls stk al μ Q
  | (o, k, a, b, c, v) :: t, pc, ls, stk, al, μ, Q => jx_op d n pc o a b c v ls stk al μ Q (fun ls stk al μ => jx_blk d n t (pc + k) ls stk al μ Q)
def jx_dec (B : ByteArray) : List jE → Nat → Bool
  | [], _ => true
  | (o, k, _) :: t, pc => (match decode B pc with
    | .ok (o', k') => decide (o' = o) && decide (k' = k) && (decide (k = jx_ln o) || decide (jx_ln o = 0))
    | _ => false) && jx_dec B t (pc + k)
def jx_lks (n : Nat) : List jE → Nat → Prop
  | [], _ => True
  | (o, k, a, b, c, v) :: t, pc => jx_lk n pc o a b c v ∧ jx_lks n t (pc + k)
section JMO
variable {stk : List Value} {ls : List (Option Value)} {a : Nat}
theorem j1i_mono {K K' : Int32 → List Value → Prop} (hK : ∀ x0 x1, K x0 x1 → K' x0 x1) (h : j1i stk K) : j1i stk K' := by
  unfold j1i at h ⊢
  split at h <;> first | exact h.elim | exact hK _ _ h
theorem j2i_mono {K K' : Int32 → Int32 → List Value → Prop} (hK : ∀ x0 x1 x2, K x0 x1 x2 → K' x0 x1 x2) (h : j2i stk K) : j2i stk K' := by
  unfold j2i at h ⊢
  split at h <;> first | exact h.elim | exact hK _ _ _ h
theorem j1l_mono {K K' : Int64 → List Value → Prop} (hK : ∀ x0 x1, K x0 x1 → K' x0 x1) (h : j1l stk K) : j1l stk K' := by
  unfold j1l at h ⊢
  split at h <;> first | exact h.elim | exact hK _ _ h
theorem j2l_mono {K K' : Int64 → Int64 → List Value → Prop} (hK : ∀ x0 x1 x2, K x0 x1 x2 → K' x0 x1 x2) (h : j2l stk K) : j2l stk K' := by
  unfold j2l at h ⊢
  split at h <;> first | exact h.elim | exact hK _ _ _ h
theorem jil_mono {K K' : Int64 → Int32 → List Value → Prop} (hK : ∀ x0 x1 x2, K x0 x1 x2 → K' x0 x1 x2) (h : jil stk K) : jil stk K' := by
  unfold jil at h ⊢
  split at h <;> first | exact h.elim | exact hK _ _ _ h
theorem j1r_mono {K K' : Nat → List Value → Prop} (hK : ∀ x0 x1, K x0 x1 → K' x0 x1) (h : j1r stk K) : j1r stk K' := by
  unfold j1r at h ⊢
  split at h <;> first | exact h.elim | exact hK _ _ h
theorem jri_mono {K K' : Nat → Int32 → List Value → Prop} (hK : ∀ x0 x1 x2, K x0 x1 x2 → K' x0 x1 x2) (h : jri stk K) : jri stk K' := by
  unfold jri at h ⊢
  split at h <;> first | exact h.elim | exact hK _ _ _ h
theorem jrii_mono {K K' : Nat → Int32 → Int32 → List Value → Prop} (hK : ∀ x0 x1 x2 x3, K x0 x1 x2 x3 → K' x0 x1 x2 x3) (h : jrii stk K) : jrii stk K' := by
  unfold jrii at h ⊢
  split at h <;> first | exact h.elim | exact hK _ _ _ _ h
theorem jril_mono {K K' : Nat → Int32 → Int64 → List Value → Prop} (hK : ∀ x0 x1 x2 x3, K x0 x1 x2 x3 → K' x0 x1 x2 x3) (h : jril stk K) : jril stk K' := by
  unfold jril at h ⊢
  split at h <;> first | exact h.elim | exact hK _ _ _ _ h
theorem jrl_mono {K K' : Nat → Int64 → List Value → Prop} (hK : ∀ x0 x1 x2, K x0 x1 x2 → K' x0 x1 x2) (h : jrl stk K) : jrl stk K' := by
  unfold jrl at h ⊢
  split at h <;> first | exact h.elim | exact hK _ _ _ h
theorem j2i'_mono {K K' : Nat → Int32 → List Value → Prop} (hK : ∀ x0 x1 x2, K x0 x1 x2 → K' x0 x1 x2) (h : j2i' stk K) : j2i' stk K' := by
  unfold j2i' at h ⊢
  split at h <;> first | exact h.elim | exact hK _ _ _ h
theorem jrr_mono {K K' : Nat → Option Nat → List Value → Prop} (hK : ∀ x0 x1 x2, K x0 x1 x2 → K' x0 x1 x2) (h : jrr stk K) : jrr stk K' := by
  unfold jrr at h ⊢
  split at h <;> first | exact h.elim | exact hK _ _ _ h
theorem jdup_mono {K K' : List Value → Prop} (hK : ∀ x0, K x0 → K' x0) (h : jdup stk K) : jdup stk K' := by
  unfold jdup at h ⊢
  split at h <;> first | exact h.elim | exact hK _ h
theorem jdup2_mono {K K' : List Value → Prop} (hK : ∀ x0, K x0 → K' x0) (h : jdup2 stk K) : jdup2 stk K' := by
  unfold jdup2 at h ⊢
  split at h <;> first | exact h.elim | exact hK _ h
theorem jpo_mono {K K' : List Value → Prop} (hK : ∀ x0, K x0 → K' x0) (h : jpo stk K) : jpo stk K' := by
  unfold jpo at h ⊢
  split at h <;> first | exact h.elim | exact hK _ h
theorem jli_mono {K K' : Int32 → Prop} (hK : ∀ x, K x → K' x) (h : jli ls a K) : jli ls a K' := by
  obtain ⟨x, h1, h2⟩ := jli_inv h
  unfold jli
  rw [h1]
  exact hK x h2
theorem jll_mono {K K' : Int64 → Prop} (hK : ∀ x, K x → K' x) (h : jll ls a K) : jll ls a K' := by
  obtain ⟨x, h1, h2⟩ := jll_inv h
  unfold jll
  rw [h1]
  exact hK x h2
theorem jlr_mono {K K' : Nat → Prop} (hK : ∀ x, K x → K' x) (h : jlr ls a K) : jlr ls a K' := by
  obtain ⟨x, h1, h2⟩ := jlr_inv h
  unfold jlr
  rw [h1]
  exact hK x h2
theorem jput_mono {c b : Nat} {μ : jMem} {K K' : Nat → List Value → jMem → Prop} (hK : ∀ r s ν, K r s ν → K' r s ν) (h : jput c b stk μ K) : jput c b stk μ K' := by
  match c, h with
  | 0, h => exact j2i'_mono (fun _ _ _ h => hK _ _ _ h) h
  | 1, h => exact jrl_mono (fun _ _ _ h => hK _ _ _ h) h
  | 2, h => exact jrr_mono (K := fun r x s => K r s (sR μ r b x)) (fun _ _ _ h => hK _ _ _ h) h
  | c + 3, h => exact j2i'_mono (fun _ _ _ h => ⟨h.1, hK _ _ _ h.2⟩) h
theorem jpop_mono {K K' : List Value → List Value → Prop} (hK : ∀ x y, K x y → K' x y) : ∀ {k : Nat} {acc stk : List Value}, jpop k acc stk K → jpop k acc stk K'
  | 0, _, _, h => hK _ _ h
  | k + 1, acc, x :: s, h => jpop_mono hK (k := k) (acc := x :: acc) (stk := s) h
  | _ + 1, _, [], h => h
theorem jcl_mono {d n : Nat} {as : List Value} {μ : jMem} {P P' : jQ} (hP : ∀ r ν, P r ν → P' r ν) (h : jcl d n as μ P) : jcl d n as μ P' := by
  cases d with
  | zero => exact h
  | succ d => exact jC_post h hP
theorem jx_mono {d n pc : Nat} {o : Instr} {a b c : Nat} {v : Value} {al : Nat × Nat} {μ : jMem} {Q : jQ} {K K' : List (Option Value) → List Value → Nat × Nat → jMem → Prop} (hK : ∀ ls stk al μ, K ls stk al μ → K' ls stk al μ) (h : jx_op d n pc o a b c v ls stk al μ Q K) : jx_op d n pc o a b c v ls stk al μ Q K' := by
  cases o with
  | iload_n _ | iload _ => exact jli_mono (fun _ h => hK _ _ _ _ h) h
  | lload_n _ | lload _ => exact jll_mono (fun _ h => hK _ _ _ _ h) h
  | aload_n _ | aload _ => exact jlr_mono (fun _ h => hK _ _ _ _ h) h
  | istore_n _ | istore _ | i2l | i2b | i2s => exact j1i_mono (fun _ _ h => hK _ _ _ _ h) h
  | lstore_n _ | lstore _ | l2i | lneg => exact j1l_mono (fun _ _ h => hK _ _ _ _ h) h
  | astore_n _ | astore _ => exact j1r_mono (fun _ _ h => hK _ _ _ _ h) h
  | iinc _ _ => exact jli_mono (fun _ h => hK _ _ _ _ h) h
  | iadd | isub | imul | iand | ior | ishl | ishr => exact j2i_mono (fun _ _ _ h => hK _ _ _ _ h) h
  | idiv | irem => exact j2i_mono (fun _ _ _ h => ⟨h.1, hK _ _ _ _ h.2⟩) h
  | ladd | lsub | lmul | land | lor | lcmp => exact j2l_mono (fun _ _ _ h => hK _ _ _ _ h) h
  | ldiv | lrem => exact j2l_mono (fun _ _ _ h => ⟨h.1, hK _ _ _ _ h.2⟩) h
  | lshl => exact jil_mono (fun _ _ _ h => hK _ _ _ _ h) h
  | dup => exact jdup_mono (K := fun s => K ls s al μ) (fun _ h => hK _ _ _ _ h) h
  | dup2 => exact jdup2_mono (K := fun s => K ls s al μ) (fun _ h => hK _ _ _ _ h) h
  | pop => exact jpo_mono (fun _ h => hK _ _ _ _ h) h
  | getfield _ => exact j1r_mono (fun _ _ h => ⟨h.1, hK _ _ _ _ h.2⟩) h
  | putfield _ => exact jput_mono (K := fun r s ν => (gS μ r).1 = a ∧ K ls s al ν) (K' := fun r s ν => (gS μ r).1 = a ∧ K' ls s al ν) (fun _ _ _ h => ⟨h.1, hK _ _ _ _ h.2⟩) h
  | iaload | laload | baload | aaload => exact jri_mono (fun _ _ _ h => ⟨h.1, hK _ _ _ _ h.2⟩) h
  | iastore | bastore => exact jrii_mono (fun _ _ _ _ h => ⟨h.1, hK _ _ _ _ h.2⟩) h
  | lastore => exact jril_mono (fun _ _ _ _ h => ⟨h.1, hK _ _ _ _ h.2⟩) h
  | arraylength => exact j1r_mono (fun _ _ h => ⟨h.1, h.2.1, hK _ _ _ _ h.2.2⟩) h
  | ifCond _ _ => exact j1i_mono (fun _ _ h => ⟨h.1, fun q => hK _ _ _ _ (h.2 q)⟩) h
  | if_icmp _ _ => exact j2i_mono (fun _ _ _ h => ⟨h.1, fun q => hK _ _ _ _ (h.2 q)⟩) h
  | goto _ | ireturn | lreturn | return_ | tableswitch _ _ _ _ => exact h
  | invokevirtual _ => exact jpop_mono (fun _ _ h => j1r_mono (fun _ _ h => ⟨h.1, jcl_mono (fun _ _ h => hK _ _ _ _ h) h.2⟩) h) h
  | invokestatic i =>
    have h : jx_op d n pc (.invokestatic i) a b c v ls stk al μ Q K := h
    show jx_op d n pc (.invokestatic i) a b c v ls stk al μ Q K'
    unfold jx_op at h ⊢
    dsimp only at h ⊢
    split at h
    · exact j2i_mono (fun _ _ _ h => ⟨h.1, h.2.1, h.2.2.1, hK _ _ _ _ h.2.2.2⟩) h
    · exact j2i_mono (fun _ _ _ h => ⟨h.1, h.2.1, h.2.2.1, hK _ _ _ _ h.2.2.2⟩) h
    · exact j1l_mono (fun _ _ h => ⟨h.1, h.2.1, h.2.2.1, hK _ _ _ _ h.2.2.2⟩) h
    · exact j2l_mono (fun _ _ _ h => ⟨h.1, h.2.1, h.2.2.1, hK _ _ _ _ h.2.2.2⟩) h
    · exact jpop_mono (fun _ _ h => ⟨h.1, jcl_mono (fun _ _ h => hK _ _ _ _ h) h.2⟩) h
  | invokespecial i =>
    have h : jx_op d n pc (.invokespecial i) a b c v ls stk al μ Q K := h
    show jx_op d n pc (.invokespecial i) a b c v ls stk al μ Q K'
    unfold jx_op at h ⊢
    dsimp only at h ⊢
    split at h
    · exact j1r_mono (fun _ _ h => ⟨h.1, h.2.1, hK _ _ _ _ h.2.2⟩) h
    · exact jpop_mono (fun _ _ h => j1r_mono (fun _ _ h => ⟨h.1, jcl_mono (fun _ _ h => hK _ _ _ _ h) h.2⟩) h) h
  | new _ => exact ⟨h.1, hK _ _ _ _ h.2⟩
  | newarray _ => exact j1i_mono (fun _ _ h => h.elim fun k h => ⟨k, h.1, h.2.1, h.2.2.1, hK _ _ _ _ h.2.2.2⟩) h
  | multianewarray _ _ => exact j2i_mono (fun _ _ _ h => h.elim fun i h => h.elim fun k h => ⟨i, k, h.1, h.2.1, h.2.2.1, h.2.2.2.1, h.2.2.2.2.1, hK _ _ _ _ h.2.2.2.2.2⟩) h
  | _ => first | exact hK _ _ _ _ h | exact h.elim
end JMO
theorem jx_sound {d n pc k : Nat} {o : Instr} {a b c : Nat} {v : Value} {ls : List (Option Value)} {stk : List Value} {al : Nat × Nat} {μ : jMem} {Q : jQ} (hd : decode (jmB n) pc = .ok (o, k)) (hl : k = jx_ln o ∨ jx_ln o = 0) (hk : jx_lk n pc o a b c v) (ht : ∀ (dflt lo hi : Int) (offs : Array Int), o = .tableswitch dflt lo hi offs → ∀ x : Int32, ∃ t : Nat, jsw pc dflt lo hi offs x t) (h : jx_op d n pc o a b c v ls stk al μ Q (fun ls stk al μ => jR d n (pc + k) ls stk al μ Q)) : jR d n pc ls stk al μ Q := by
  cases o with
  | tableswitch dflt lo hi offs => exact jo_tsw hd (ht _ _ _ _ rfl) h
  | iconst i => rcases hl with rfl | hl <;> first | exact jo_iconst hd hk h | (cases hl)
  | bipush i => rcases hl with rfl | hl <;> first | exact jo_bipush hd hk h | (cases hl)
  | sipush i => rcases hl with rfl | hl <;> first | exact jo_sipush hd hk h | (cases hl)
  | lconst i => rcases hl with rfl | hl <;> first | exact jo_lconst hd hk h | (cases hl)
  | ldc i => rcases hl with rfl | hl <;> first | exact jo_ldc hd hk h | (cases hl)
  | ldc_w i => rcases hl with rfl | hl <;> first | exact jo_ldc_w hd hk h | (cases hl)
  | ldc2_w i => rcases hl with rfl | hl <;> first | exact jo_ldc2_w hd hk h | (cases hl)
  | iload_n i => rcases hl with rfl | hl <;> first | exact jo_iload_n hd hk h | (cases hl)
  | iload i => rcases hl with rfl | hl <;> first | exact jo_iload hd hk h | (cases hl)
  | lload_n i => rcases hl with rfl | hl <;> first | exact jo_lload_n hd hk h | (cases hl)
  | lload i => rcases hl with rfl | hl <;> first | exact jo_lload hd hk h | (cases hl)
  | aload_n i => rcases hl with rfl | hl <;> first | exact jo_aload_n hd hk h | (cases hl)
  | aload i => rcases hl with rfl | hl <;> first | exact jo_aload hd hk h | (cases hl)
  | istore_n i => rcases hl with rfl | hl <;> first | exact jo_istore_n hd hk h | (cases hl)
  | istore i => rcases hl with rfl | hl <;> first | exact jo_istore hd hk h | (cases hl)
  | lstore_n i => rcases hl with rfl | hl <;> first | exact jo_lstore_n hd hk h | (cases hl)
  | lstore i => rcases hl with rfl | hl <;> first | exact jo_lstore hd hk h | (cases hl)
  | astore_n i => rcases hl with rfl | hl <;> first | exact jo_astore_n hd hk h | (cases hl)
  | astore i => rcases hl with rfl | hl <;> first | exact jo_astore hd hk h | (cases hl)
  | iinc i j => rcases hl with rfl | hl <;> first | exact jo_iinc hd hk h | (cases hl)
  | getfield i => rcases hl with rfl | hl <;> first | exact jo_getfield hd hk h | (cases hl)
  | putfield i => rcases hl with rfl | hl <;> first | exact jo_putfield hd hk h | (cases hl)
  | iadd => rcases hl with rfl | hl <;> first | exact jo_iadd hd h | (cases hl)
  | isub => rcases hl with rfl | hl <;> first | exact jo_isub hd h | (cases hl)
  | imul => rcases hl with rfl | hl <;> first | exact jo_imul hd h | (cases hl)
  | iand => rcases hl with rfl | hl <;> first | exact jo_iand hd h | (cases hl)
  | ior => rcases hl with rfl | hl <;> first | exact jo_ior hd h | (cases hl)
  | ishl => rcases hl with rfl | hl <;> first | exact jo_ishl hd h | (cases hl)
  | ishr => rcases hl with rfl | hl <;> first | exact jo_ishr hd h | (cases hl)
  | idiv => rcases hl with rfl | hl <;> first | exact jo_idiv hd h | (cases hl)
  | irem => rcases hl with rfl | hl <;> first | exact jo_irem hd h | (cases hl)
  | ladd => rcases hl with rfl | hl <;> first | exact jo_ladd hd h | (cases hl)
  | lsub => rcases hl with rfl | hl <;> first | exact jo_lsub hd h | (cases hl)
  | lmul => rcases hl with rfl | hl <;> first | exact jo_lmul hd h | (cases hl)
  | land => rcases hl with rfl | hl <;> first | exact jo_land hd h | (cases hl)
  | lor => rcases hl with rfl | hl <;> first | exact jo_lor hd h | (cases hl)
  | ldiv => rcases hl with rfl | hl <;> first | exact jo_ldiv hd h | (cases hl)
  | lrem => rcases hl with rfl | hl <;> first | exact jo_lrem hd h | (cases hl)
  | lneg => rcases hl with rfl | hl <;> first | exact jo_lneg hd h | (cases hl)
  | lshl => rcases hl with rfl | hl <;> first | exact jo_lshl hd h | (cases hl)
  | lcmp => rcases hl with rfl | hl <;> first | exact jo_lcmp hd h | (cases hl)
  | i2l => rcases hl with rfl | hl <;> first | exact jo_i2l hd h | (cases hl)
  | l2i => rcases hl with rfl | hl <;> first | exact jo_l2i hd h | (cases hl)
  | i2b => rcases hl with rfl | hl <;> first | exact jo_i2b hd h | (cases hl)
  | i2s => rcases hl with rfl | hl <;> first | exact jo_i2s hd h | (cases hl)
  | dup => rcases hl with rfl | hl <;> first | exact jo_dup hd h | (cases hl)
  | dup2 => rcases hl with rfl | hl <;> first | exact jo_dup2 hd h | (cases hl)
  | pop => rcases hl with rfl | hl <;> first | exact jo_pop hd h | (cases hl)
  | iaload => rcases hl with rfl | hl <;> first | exact jo_iaload hd h | (cases hl)
  | laload => rcases hl with rfl | hl <;> first | exact jo_laload hd h | (cases hl)
  | baload => rcases hl with rfl | hl <;> first | exact jo_baload hd h | (cases hl)
  | aaload => rcases hl with rfl | hl <;> first | exact jo_aaload hd h | (cases hl)
  | iastore => rcases hl with rfl | hl <;> first | exact jo_iastore hd h | (cases hl)
  | lastore => rcases hl with rfl | hl <;> first | exact jo_lastore hd h | (cases hl)
  | bastore => rcases hl with rfl | hl <;> first | exact jo_bastore hd h | (cases hl)
  | arraylength => rcases hl with rfl | hl <;> first | exact jo_arraylength hd h | (cases hl)
  | ifCond o off => rcases hl with rfl | hl <;> first | exact jo_ifCond hd hk h | (cases hl)
  | if_icmp o off => rcases hl with rfl | hl <;> first | exact jo_icmp hd hk h | (cases hl)
  | goto off => rcases hl with rfl | hl <;> first | exact jo_goto hd hk h | (cases hl)
  | ireturn => rcases hl with rfl | hl <;> first | exact jo_ireturn hd hk h | (cases hl)
  | lreturn => rcases hl with rfl | hl <;> first | exact jo_lreturn hd hk h | (cases hl)
  | return_ => rcases hl with rfl | hl <;> first | exact jo_return hd hk h | (cases hl)
  | invokevirtual i => rcases hl with rfl | hl <;> first | exact jo_virtual hd hk h | (cases hl)
  | new i => rcases hl with rfl | hl <;> first | exact jo_new hd hk h | (cases hl)
  | newarray t => rcases hl with rfl | hl <;> first | exact jo_newarray hd hk h | (cases hl)
  | multianewarray i j => rcases hl with rfl | hl <;> first | exact jo_multi hd hk h | (cases hl)
  | invokestatic i =>
    rcases hl with rfl | hl
    · unfold jx_lk at hk
      unfold jx_op at h
      dsimp only at hk h
      split at h
      · exact jo_mmax hd hk h
      · exact jo_mmin hd hk h
      · exact jo_mabs hd hk h
      · exact jo_mmaxl hd hk h
      · rename_i g1 g2 g3 g4
        split at hk
        · exact absurd rfl g1
        · exact absurd rfl g2
        · exact absurd rfl g3
        · exact absurd rfl g4
        · exact jo_static hd hk h
    · cases hl
  | invokespecial i =>
    rcases hl with rfl | hl
    · unfold jx_lk at hk
      unfold jx_op at h
      dsimp only at hk h
      split at h
      · exact jo_objinit hd hk h
      · rename_i g1
        split at hk
        · exact absurd rfl g1
        · exact jo_special hd hk h
    · cases hl
  | _ => exact h.elim
/-- the switches of a list end somewhere -/
def jx_sws : List jE → Nat → Prop
  | [], _ => True
  | (o, k, _) :: t, pc => (∀ (dflt lo hi : Int) (offs : Array Int), o = .tableswitch dflt lo hi offs → ∀ x : Int32, ∃ t : Nat, jsw pc dflt lo hi offs x t) ∧ jx_sws t (pc + k)
def jx_nosw : List jE → Bool
  | [] => true
  | (.tableswitch .., _) :: _ => false
  | _ :: t => jx_nosw t
theorem jx_sws_of : ∀ {t : List jE} {pc : Nat}, jx_nosw t = true → jx_sws t pc
  | [], _, _ => trivial
  | (o, k, q) :: t, pc, h => by
    cases o with
    | tableswitch => cases h
    | _ => exact ⟨fun _ _ _ _ e => (nomatch e), jx_sws_of h⟩
theorem jx_run {d n : Nat} {Q : jQ} : ∀ {t : List jE} {pc : Nat} {ls : List (Option Value)} {stk : List Value} {al : Nat × Nat} {μ : jMem}, jx_dec (jmB n) t pc = true → jx_lks n t pc → jx_sws t pc → jx_blk d n t pc ls stk al μ Q → jR d n pc ls stk al μ Q
  | [], _, _, _, _, _, _, _, _, h => h
  | (o, k, a, b, c, v) :: t, pc, ls, stk, al, μ, h1, h2, h3, h => by
    rw [jx_dec, Bool.and_eq_true] at h1
    obtain ⟨h0, h1⟩ := h1
    split at h0
    · rename_i o' k' hd
      simp only [Bool.and_eq_true, Bool.or_eq_true, decide_eq_true_eq] at h0
      obtain ⟨⟨rfl, rfl⟩, h0⟩ := h0
      exact jx_sound hd h0 h2.1 h3.1 (jx_mono (fun ls stk al μ h => jx_run h1 h2.2 h3.2 h) h)
    · cases h0
theorem jx_go {d n : Nat} {Q : jQ} {t : List jE} {pc : Nat} {ls : List (Option Value)} {stk : List Value} {al : Nat × Nat} {μ : jMem} (h : jx_blk d n t pc ls stk al μ Q) (h1 : jx_dec (jmB n) t pc = true) (h2 : jx_lks n t pc) (h3 : jx_sws t pc) : jR d n pc ls stk al μ Q := jx_run h1 h2 h3 h
