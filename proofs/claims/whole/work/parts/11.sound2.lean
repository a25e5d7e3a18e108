section JSP
variable {d n pc a b c : Nat} {v : Value} {ls : List (Option Value)} {stk : List Value} {al : Nat × Nat} {μ : jMem} {Q : jQ}
theorem jsh {r t : Nat} (h : (gS μ r).1 = t) : gS μ r = (t, (gS μ r).2) := by rw [← h]
theorem jsh0 {r t : Nat} {G : jG} {U : State} {H : Heap} (hR : jRep G μ U H) (h : (gS μ r).1 = t) (ht : t ≠ 100) : r ≠ 0 := fun e => by subst e; exact ht (h.symm.trans hR.2.2.2.1.1)
theorem jo_iaload (hd : decode (jmB n) pc = .ok (.iaload, 1)) (h : jri stk (fun r i s => ((gS μ r).1 = 100 ∧ vp_in i (gS μ r).2) ∧ jR d n (pc + 1) ls (.int (gI μ r i.toNatClampNeg) :: s) al μ Q)) : jR d n pc ls stk al μ Q := by
  obtain ⟨r, i, s, rfl, ⟨h1, h2⟩, h⟩ := jri_inv h
  intro G p l e R s0 m args below meth c0 Z hc he H locs LS hl hR hS
  have hh := hc
  obtain ⟨hx, hb, hml, hown, hts, hK, hsz, hnm, hfr, hlo, hce, hsl⟩ := hh
  exact jw_iald hx hb hK hR hS hsz (jsh h1) h2 hd (h G p l e R s0 m args below meth c0 Z hc he H locs LS hl hR hS)
theorem jo_laload (hd : decode (jmB n) pc = .ok (.laload, 1)) (h : jri stk (fun r i s => ((gS μ r).1 = 101 ∧ vp_in i (gS μ r).2) ∧ jR d n (pc + 1) ls (.long (gL μ r i.toNatClampNeg) :: s) al μ Q)) : jR d n pc ls stk al μ Q := by
  obtain ⟨r, i, s, rfl, ⟨h1, h2⟩, h⟩ := jri_inv h
  intro G p l e R s0 m args below meth c0 Z hc he H locs LS hl hR hS
  have hh := hc
  obtain ⟨hx, hb, hml, hown, hts, hK, hsz, hnm, hfr, hlo, hce, hsl⟩ := hh
  exact jw_lald hx hb hK hR (jsh h1) (jsh0 hR h1 (by decide)) h2 hd (h G p l e R s0 m args below meth c0 Z hc he H locs LS hl hR hS)
theorem jo_baload (hd : decode (jmB n) pc = .ok (.baload, 1)) (h : jri stk (fun r i s => (((gS μ r).1 = 102 ∨ (gS μ r).1 = 103) ∧ vp_in i (gS μ r).2) ∧ jR d n (pc + 1) ls (.int (gI μ r i.toNatClampNeg) :: s) al μ Q)) : jR d n pc ls stk al μ Q := by
  obtain ⟨r, i, s, rfl, ⟨h1, h2⟩, h⟩ := jri_inv h
  intro G p l e R s0 m args below meth c0 Z hc he H locs LS hl hR hS
  have hh := hc
  obtain ⟨hx, hb, hml, hown, hts, hK, hsz, hnm, hfr, hlo, hce, hsl⟩ := hh
  rcases h1 with h1 | h1
  · exact jw_bald hx hb hK hR (jsh h1) (jsh0 hR h1 (by decide)) h2 hd (h G p l e R s0 m args below meth c0 Z hc he H locs LS hl hR hS)
  · exact jw_zald hx hb hK hR (jsh h1) (jsh0 hR h1 (by decide)) h2 hd (h G p l e R s0 m args below meth c0 Z hc he H locs LS hl hR hS)
theorem jo_aaload (hd : decode (jmB n) pc = .ok (.aaload, 1)) (h : jri stk (fun r i s => (((gS μ r).1 = 104 ∨ (gS μ r).1 = 105) ∧ vp_in i (gS μ r).2) ∧ jR d n (pc + 1) ls (jrv (gR μ r i.toNatClampNeg) :: s) al μ Q)) : jR d n pc ls stk al μ Q := by
  obtain ⟨r, i, s, rfl, ⟨h1, h2⟩, h⟩ := jri_inv h
  intro G p l e R s0 m args below meth c0 Z hc he H locs LS hl hR hS
  have hh := hc
  obtain ⟨hx, hb, hml, hown, hts, hK, hsz, hnm, hfr, hlo, hce, hsl⟩ := hh
  have hk := h G p l e R s0 m args below meth c0 Z hc he H locs LS hl hR hS
  rw [List.map_cons, jcv_rv] at hk
  rcases h1 with h1 | h1
  · exact jw_aald4 hx hb hK hR (jsh h1) (jsh0 hR h1 (by decide)) h2 hd hk
  · exact jw_aald5 hx hb hK hR (jsh h1) (jsh0 hR h1 (by decide)) h2 hd hk
theorem jo_arraylength (hd : decode (jmB n) pc = .ok (.arraylength, 1)) (h : j1r stk (fun r s => 100 ≤ (gS μ r).1 ∧ (gS μ r).1 ≤ 105 ∧ jR d n (pc + 1) ls (.int (Int32.ofNat (gS μ r).2) :: s) al μ Q)) : jR d n pc ls stk al μ Q := by
  obtain ⟨r, s, rfl, h1, h2, h⟩ := j1r_inv h
  intro G p l e R s0 m args below meth c0 Z hc he H locs LS hl hR hS
  have hh := hc
  obtain ⟨hx, hb, hml, hown, hts, hK, hsz, hnm, hfr, hlo, hce, hsl⟩ := hh
  exact jw_alen hx hb hK hR ⟨h1, h2⟩ hd (h G p l e R s0 m args below meth c0 Z hc he H locs LS hl hR hS)
theorem jo_iastore (hd : decode (jmB n) pc = .ok (.iastore, 1)) (h : jrii stk (fun r i x s => (¬ r = 0 ∧ (gS μ r).1 = 100 ∧ vp_in i (gS μ r).2) ∧ jR d n (pc + 1) ls s al (sI μ r i.toNatClampNeg x) Q)) : jR d n pc ls stk al μ Q := by
  obtain ⟨r, i, x, s, rfl, ⟨h0, h1, h2⟩, h⟩ := jrii_inv h
  intro G p l e R s0 m args below meth c0 Z hc he H locs LS hl hR hS
  have hh := hc
  obtain ⟨hx, hb, hml, hown, hts, hK, hsz, hnm, hfr, hlo, hce, hsl⟩ := hh
  refine jw_iast hx hb hK hR (jsh h1) h0 h2 hd (fun H1 z e1 e2 e3 h12 => h G p l e R s0 m args below meth c0 Z hc he H1 _ LS hl ?_ (jva_put hS h12.1 e2 e3))
  refine jRep_put hR h12.1 h12.2 (jW_sI h12.1 h12.2 ?_) rfl (jok_sI hR.2.2.2.1) rfl (funext fun j => by rw [gI_sI, if_neg (by omega)]) e1 e3 e2
  refine (jcell_a (μ := sI μ r i.toNatClampNeg x) (t := 100) h1 (by decide)).trans ?_
  refine congrArg (fun z => (.inl (_, z) : va_E)) ?_
  show (_, Sum.inl _) = (_, Sum.inl _)
  refine congrArg (fun z => ((gS μ r).2, Sum.inl z)) (funext fun j => ?_)
  rw [gI_sI]
  simp [upd]
theorem jo_lastore (hd : decode (jmB n) pc = .ok (.lastore, 1)) (h : jril stk (fun r i x s => ((gS μ r).1 = 101 ∧ vp_in i (gS μ r).2) ∧ jR d n (pc + 1) ls s al (sL μ r i.toNatClampNeg x) Q)) : jR d n pc ls stk al μ Q := by
  obtain ⟨r, i, x, s, rfl, ⟨h1, h2⟩, h⟩ := jril_inv h
  intro G p l e R s0 m args below meth c0 Z hc he H locs LS hl hR hS
  have hh := hc
  obtain ⟨hx, hb, hml, hown, hts, hK, hsz, hnm, hfr, hlo, hce, hsl⟩ := hh
  refine jw_last hx hb hK hR (jsh h1) (jsh0 hR h1 (by decide)) h2 hd (fun H1 z e1 e2 e3 h12 => h G p l e R s0 m args below meth c0 Z hc he H1 _ LS hl ?_ (jva_put hS h12.1 e2 e3))
  refine jRep_put hR h12.1 h12.2 (jW_sL h12.1 h12.2 ?_) rfl (jok_sL hR.2.2.2.1) rfl rfl e1 e3 e2
  refine (jcell_a (μ := sL μ r i.toNatClampNeg x) (t := 101) h1 (by decide)).trans ?_
  refine congrArg (fun z => (.inl (_, z) : va_E)) ?_
  show (_, Sum.inr (Sum.inl _)) = (_, Sum.inr (Sum.inl _))
  refine congrArg (fun z => ((gS μ r).2, Sum.inr (Sum.inl z))) (funext fun j => ?_)
  rw [gL_sL]
  simp [vp_updL]
theorem jo_bastore (hd : decode (jmB n) pc = .ok (.bastore, 1)) (h : jrii stk (fun r i x s => (((gS μ r).1 = 102 ∧ x.toInt8.toInt32 = x ∨ (gS μ r).1 = 103 ∧ (x = 0 ∨ x = 1)) ∧ vp_in i (gS μ r).2) ∧ jR d n (pc + 1) ls s al (sI μ r i.toNatClampNeg x) Q)) : jR d n pc ls stk al μ Q := by
  obtain ⟨r, i, x, s, rfl, ⟨h1, h2⟩, h⟩ := jrii_inv h
  intro G p l e R s0 m args below meth c0 Z hc he H locs LS hl hR hS
  have hh := hc
  obtain ⟨hx, hb, hml, hown, hts, hK, hsz, hnm, hfr, hlo, hce, hsl⟩ := hh
  rcases h1 with ⟨h1, h3⟩ | ⟨h1, h3⟩
  · refine jw_bast hx hb hK hR (jsh h1) (jsh0 hR h1 (by decide)) h2 h3 hd (fun H1 z e1 e2 e3 h12 => h G p l e R s0 m args below meth c0 Z hc he H1 _ LS hl ?_ (jva_put hS h12.1 e2 e3))
    refine jRep_put hR h12.1 h12.2 (jW_sI h12.1 h12.2 ?_) rfl (jok_sI hR.2.2.2.1) rfl (funext fun j => by rw [gI_sI, if_neg (by omega)]) e1 e3 e2
    refine (jcell_a (μ := sI μ r i.toNatClampNeg x) (t := 102) h1 (by decide)).trans ?_
    refine congrArg (fun z => (.inl (_, z) : va_E)) ?_
    show (_, Sum.inl _) = (_, Sum.inl _)
    refine congrArg (fun z => ((gS μ r).2, Sum.inl z)) (funext fun j => ?_)
    rw [gI_sI]
    simp [upd]
  · refine jw_zast hx hb hK hR (jsh h1) (jsh0 hR h1 (by decide)) h2 (by rcases h3 with rfl | rfl <;> rfl) hd (fun H1 z e1 e2 e3 h12 => h G p l e R s0 m args below meth c0 Z hc he H1 _ LS hl ?_ (jva_put hS h12.1 e2 e3))
    refine jRep_put hR h12.1 h12.2 (jW_sI h12.1 h12.2 ?_) rfl (jok_sI hR.2.2.2.1) rfl (funext fun j => by rw [gI_sI, if_neg (by omega)]) e1 e3 e2
    refine (jcell_a (μ := sI μ r i.toNatClampNeg x) (t := 103) h1 (by decide)).trans ?_
    refine congrArg (fun z => (.inl (_, z) : va_E)) ?_
    show (_, Sum.inl _) = (_, Sum.inl _)
    refine congrArg (fun z => ((gS μ r).2, Sum.inl z)) (funext fun j => ?_)
    rw [gI_sI]
    simp [upd]
theorem jo_ifCond {o : Jvm.ClassFile.Cond} {off : Int} (hd : decode (jmB n) pc = .ok (.ifCond o off, 3)) (hk : (pc : Int) + off = (a : Int)) (h : j1i stk (fun x s => (jc1 o x → jR d n a ls s al μ Q) ∧ (¬ jc1 o x → jR d n (pc + 3) ls s al μ Q))) : jR d n pc ls stk al μ Q := by
  obtain ⟨x, s, rfl, h1, h2⟩ := j1i_inv h
  intro G p l e R s0 m args below meth c0 Z hc he H locs LS hl hR hS
  have hh := hc
  obtain ⟨hx, hb, hml, hown, hts, hK, hsz, hnm, hfr, hlo, hce, hsl⟩ := hh
  cases o with
  | eq => exact lv_if_eq hx hb hd hk (fun q => h1 q G p l e R s0 m args below meth c0 Z hc he H locs LS hl hR hS) (fun q => h2 q G p l e R s0 m args below meth c0 Z hc he H locs LS hl hR hS)
  | ne => exact lv_if_ne hx hb hd hk (fun q => h1 q G p l e R s0 m args below meth c0 Z hc he H locs LS hl hR hS) (fun q => h2 (fun z => z q) G p l e R s0 m args below meth c0 Z hc he H locs LS hl hR hS)
  | lt => exact lv_if_lt hx hb hd hk (fun q => h1 q G p l e R s0 m args below meth c0 Z hc he H locs LS hl hR hS) (fun q => h2 q G p l e R s0 m args below meth c0 Z hc he H locs LS hl hR hS)
  | ge => exact lv_if_ge hx hb hd hk (fun q => h1 q G p l e R s0 m args below meth c0 Z hc he H locs LS hl hR hS) (fun q => h2 q G p l e R s0 m args below meth c0 Z hc he H locs LS hl hR hS)
  | gt => exact lv_if_gt hx hb hd hk (fun q => h1 q G p l e R s0 m args below meth c0 Z hc he H locs LS hl hR hS) (fun q => h2 q G p l e R s0 m args below meth c0 Z hc he H locs LS hl hR hS)
  | le => exact lv_if_le hx hb hd hk (fun q => h1 q G p l e R s0 m args below meth c0 Z hc he H locs LS hl hR hS) (fun q => h2 q G p l e R s0 m args below meth c0 Z hc he H locs LS hl hR hS)
theorem jo_icmp {o : Jvm.ClassFile.Cond} {off : Int} (hd : decode (jmB n) pc = .ok (.if_icmp o off, 3)) (hk : (pc : Int) + off = (a : Int)) (h : j2i stk (fun x y s => (jc2 o x y → jR d n a ls s al μ Q) ∧ (¬ jc2 o x y → jR d n (pc + 3) ls s al μ Q))) : jR d n pc ls stk al μ Q := by
  obtain ⟨x, y, s, rfl, h1, h2⟩ := j2i_inv h
  intro G p l e R s0 m args below meth c0 Z hc he H locs LS hl hR hS
  have hh := hc
  obtain ⟨hx, hb, hml, hown, hts, hK, hsz, hnm, hfr, hlo, hce, hsl⟩ := hh
  cases o with
  | eq => exact lv_icmp_eq hx hb hd hk (fun q => h1 q G p l e R s0 m args below meth c0 Z hc he H locs LS hl hR hS) (fun q => h2 q G p l e R s0 m args below meth c0 Z hc he H locs LS hl hR hS)
  | ne => exact lv_icmp_ne hx hb hd hk (fun q => h1 q G p l e R s0 m args below meth c0 Z hc he H locs LS hl hR hS) (fun q => h2 (fun z => z q) G p l e R s0 m args below meth c0 Z hc he H locs LS hl hR hS)
  | lt => exact lv_icmp_lt hx hb hd hk (fun q => h1 q G p l e R s0 m args below meth c0 Z hc he H locs LS hl hR hS) (fun q => h2 q G p l e R s0 m args below meth c0 Z hc he H locs LS hl hR hS)
  | ge => exact lv_icmp_ge hx hb hd hk (fun q => h1 q G p l e R s0 m args below meth c0 Z hc he H locs LS hl hR hS) (fun q => h2 q G p l e R s0 m args below meth c0 Z hc he H locs LS hl hR hS)
  | gt => exact lv_icmp_gt hx hb hd hk (fun q => h1 q G p l e R s0 m args below meth c0 Z hc he H locs LS hl hR hS) (fun q => h2 q G p l e R s0 m args below meth c0 Z hc he H locs LS hl hR hS)
  | le => exact lv_icmp_le hx hb hd hk (fun q => h1 q G p l e R s0 m args below meth c0 Z hc he H locs LS hl hR hS) (fun q => h2 q G p l e R s0 m args below meth c0 Z hc he H locs LS hl hR hS)
theorem jo_goto {off : Int} (hd : decode (jmB n) pc = .ok (.goto off, 3)) (hk : (pc : Int) + off = (a : Int)) (h : jR d n a ls stk al μ Q) : jR d n pc ls stk al μ Q := by
  intro G p l e R s0 m args below meth c0 Z hc he H locs LS hl hR hS
  have hh := hc
  obtain ⟨hx, hb, hml, hown, hts, hK, hsz, hnm, hfr, hlo, hce, hsl⟩ := hh
  exact lv_goto hx hb hd hk (h G p l e R s0 m args below meth c0 Z hc he H locs LS hl hR hS)
theorem jo_tsw {k : Nat} {dflt lo hi : Int} {offs : Array Int} (hd : decode (jmB n) pc = .ok (.tableswitch dflt lo hi offs, k)) (ht : ∀ x : Int32, ∃ t : Nat, jsw pc dflt lo hi offs x t) (h : j1i stk (fun x s => ∀ t : Nat, jsw pc dflt lo hi offs x t → jR d n t ls s al μ Q)) : jR d n pc ls stk al μ Q := by
  obtain ⟨x, s, rfl, h⟩ := j1i_inv h
  obtain ⟨t, ht⟩ := ht x
  have h := h t ht
  intro G p l e R s0 m args below meth c0 Z hc he H locs LS hl hR hS
  have hh := hc
  obtain ⟨hx, hb, hml, hown, hts, hK, hsz, hnm, hfr, hlo, hce, hsl⟩ := hh
  rcases ht with ⟨h1, h2⟩ | ⟨h1, h2, off, h3, h4⟩
  · exact lv_tableOut hx hb hd h1 h2 (h G p l e R s0 m args below meth c0 Z hc he H locs LS hl hR hS)
  · exact lv_tableIn hx hb hd h1 h2 h3 h4 (h G p l e R s0 m args below meth c0 Z hc he H locs LS hl hR hS)
theorem jo_ireturn (hd : decode (jmB n) pc = .ok (.ireturn, 1)) (hk : (b = 0 → jmR n = some .int) ∧ (b = 0 ∨ jmR n = some .boolean)) (h : j1i stk (fun x s => (b = 0 ∨ x = 0 ∨ x = 1) ∧ (s = [] ∧ al.1 ≤ jmC n ∧ al.2 ≤ jmS n) ∧ Q (some (.int x)) μ)) : jR d n pc ls stk al μ Q := by
  obtain ⟨x, s, rfl, h0, ⟨rfl, a1, a2⟩, h9⟩ := j1i_inv h
  intro G p l e R s0 m args below meth c0 Z hc he H locs LS hl hR hS
  have hh := hc
  obtain ⟨hx, hb, hml, hown, hts, hK, hsz, hnm, hfr, hlo, hce, hsl⟩ := hh
  have hd2 : jret n pc (some (.int x)) := by
    by_cases hb0 : b = 0
    · exact ⟨hd, _, hk.1 hb0, rfl⟩
    · refine ⟨hd, .boolean, hk.2.resolve_left hb0, ?_⟩
      rcases h0.resolve_left hb0 with rfl | rfl <;> rfl
  refine W.widen a1 a2 ?_
  have := he H locs LS pc (some (.int x)) μ h9 hR hS hd2
  exact this
theorem jo_lreturn (hd : decode (jmB n) pc = .ok (.lreturn, 1)) (hk : jmR n = some .long) (h : j1l stk (fun x s => (s = [] ∧ al.1 ≤ jmC n ∧ al.2 ≤ jmS n) ∧ Q (some (.long x)) μ)) : jR d n pc ls stk al μ Q := by
  obtain ⟨x, s, rfl, ⟨rfl, a1, a2⟩, h9⟩ := j1l_inv h
  intro G p l e R s0 m args below meth c0 Z hc he H locs LS hl hR hS
  have hh := hc
  obtain ⟨hx, hb, hml, hown, hts, hK, hsz, hnm, hfr, hlo, hce, hsl⟩ := hh
  refine W.widen a1 a2 ?_
  exact (he H locs LS pc (some (.long x)) μ h9 hR hS ⟨hd, hk⟩)
theorem jo_return (hd : decode (jmB n) pc = .ok (.return_, 1)) (hk : jmR n = none) (h : (stk = [] ∧ al.1 ≤ jmC n ∧ al.2 ≤ jmS n) ∧ Q none μ) : jR d n pc ls stk al μ Q := by
  obtain ⟨⟨rfl, a1, a2⟩, h⟩ := h
  intro G p l e R s0 m args below meth c0 Z hc he H locs LS hl hR hS
  have hh := hc
  obtain ⟨hx, hb, hml, hown, hts, hK, hsz, hnm, hfr, hlo, hce, hsl⟩ := hh
  refine W.widen a1 a2 ?_
  exact (he H locs LS pc none μ h hR hS ⟨hd, hk⟩)
end JSP
