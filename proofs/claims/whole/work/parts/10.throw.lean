/-! exceptions: thrown by a statement, caught by the law's helpers -/
abbrev exs : List String := ["java/lang/IllegalArgumentException", "java/lang/IllegalStateException", "java/lang/IndexOutOfBoundsException"]
theorem exs_fcs : ∀ X ∈ exs, Cond.castable X X ∈ fcs := by decide
abbrev nms : List String := ["java/lang/RuntimeException", "java/lang/Exception"]
theorem HR.kept {b : Nat} {D : va_G} {cA : Nat → ClassId} {h : PH} {H H1 : Heap} (hH : HR b D cA h H) (hk : ∀ q : Nat, q < H.size → H1[q]? = H[q]?) : HR b D cA h H1 := by
  obtain ⟨L, g1, g2, g3⟩ := hH
  exact ⟨L, g1, g2.kept (fun k x hx => hk x.1 ((g2 k x hx).lt)), g3⟩
/-- what a throw statement needs of the tables -/
def TW (ik ic : Nat) (cls : String) : Prop := cls ∈ exs ∧ Bundle.fit cls = true ∧ Cond.classLink RX6 ik cls ∈ gtb ∧ Cond.initialized cls ∈ gtb ∧ (∀ w ∈ (vx_atS RX6 ic cls nms).filter goodWord, w ∈ lw_tbl) ∧ (∀ w ∈ (vx_atS RX6 ic cls nms).filter (fun w => !goodWord w), w ∈ fcs) ∧ (∀ w ∈ Cond.classLink RX6 ik cls :: Cond.initialized cls :: vx_atS RX6 ic cls nms, vx_ot w = true)
section Rows
variable {E : Ev} {M : MX} {pc : Nat} {lo : List (Option Value)} {st : List Value} {r : Nat × Nat} {h : PH} {Q : Rt → PH → Prop}
theorem wp_throw {cls text : String} {ik is ic : Nat} (tw : TW ik ic cls) (ho : (mN M).cls = RX6) (hstr : (is, text) ∈ [(272, "an argument is out of its range"), (275, "not possible now"), (267, "no such tenant, order or slot"), (260, "the slot is empty")]) (hR1 : 5 < (mG M).1) (hR2 : 82 ≤ (mG M).2.1) (r1 : 1 ≤ r.1) (r2 : 6 ≤ r.2) (hh : mH M = [])
    (d0 : decode (mC M) pc = .ok (.new ik, 3)) (d3 : decode (mC M) (pc + 3) = .ok (.dup, 1)) (d4 : decode (mC M) (pc + 4) = .ok (.ldc_w is, 3)) (d7 : decode (mC M) (pc + 7) = .ok (.invokespecial ic, 3)) (d10 : decode (mC M) (pc + 10) = .ok (.athrow, 1)) (k : Q (.inr cls) h) : WPx E M pc lo [] r h Q := by
  intro b D cA p l e s m args below meth c H locs cells slots ls C hL hH hS hc hs
  have hts := C.2.2.2.2.2.1
  have hE := C.2.2.2.2.2.2.2.2.2.2.1
  obtain ⟨t1, t2, t3, t4, t5, t6, t7⟩ := tw
  obtain ⟨sa, hsa⟩ := hE.2.2.2.2.1 _ hstr
  have hcast : ∀ w ∈ fcs, w.before args s = true := fun w hw => va_Nw.use (fcs_ok w hw).1 (hE.2.2.2.2.2.2.2.1 w hw)
  refine vx_throwSW (names := nms) (text := text) C.1 C.2.1 C.2.2.2.2.2.2.2.2.1 (ho ▸ C.2.2.2.2.1) t2 (by decide) (hts _ t3) (hts _ t4) hsa (vx_hat (fun w hw => hts w (gtb_in (t5 w hw) (List.mem_filter.mp hw).2)) t6 hcast) t7 hE.2.2.2.1.1 hE.2.2.2.1.2 hS (hL.1.trans C.2.2.2.1.symm) d0 d3 d4 d7 d10 ?_ hR1 (by show 0 + 82 ≤ (mG M).2.1; omega) (by show cells + 1 ≤ (mG M).2.2.1; omega) (by show slots + 6 ≤ (mG M).2.2.2; omega) C.2.2.2.2.2.2.1 ?_ hS.2.2 (by omega) (by omega)
  · rw [C.2.2.2.2.2.2.2.2.2.2.2, hh]
    intro x hx
    cases hx
  · intro t ha hz hk
    refine ⟨h, k, hH.kept hk, Nat.le_trans hS.1 hz, fun q h1 h2 => ?_⟩
    rw [hk q (Nat.lt_of_lt_of_le h1 hS.1)]
    exact hS.2.1 q h1 h2
/-- behind a call in a method with handlers -/
abbrev konX (E : Ev) (M : MX) (pc : Nat) (lo : List (Option Value)) (st : List Value) (r : Nat × Nat) (Q : Rt → PH → Prop) : Rt → PH → Prop := fun x h' => match x with
  | .inl v => WPx E M (pc + 3) lo (v.toList ++ st) r h' Q
  | .inr X => ∃ (pre : List ExceptionTableEntry) (z : ExceptionTableEntry) (suf : List ExceptionTableEntry), tableOf (mH M) = pre ++ z :: suf ∧ covers z pc = true ∧ z.catchType ≠ 0 ∧ Cond.classLink (mN M).cls z.catchType X ∈ gtb ∧ X ∈ exs ∧ (∀ y ∈ pre, covers y pc = false ∨ (y.catchType ≠ 0 ∧ ∃ nm, nm ∈ exs ∧ X ≠ nm ∧ Cond.classLink (mN M).cls y.catchType nm ∈ gtb)) ∧ ∀ q : Nat, WPx E M z.handlerPc lo [.ref q] r h' Q
theorem wp_invVX {Y : MX} {idx n o ci : Nat} {vs rest : List Value} (r' : Nat × Nat) (cv : CV M idx Y n ci) (hn : vs.length = n) (hst : st = vs.reverse ++ .ref o :: rest) (hw : (rest.map fun v => v.category).sum ≤ 8) (hlen : (lg_sl (.ref o :: vs)).length ≤ mL Y) (hr1 : (mG Y).2.2.1 + r'.1 ≤ r.1) (hr2 : (mG Y).2.2.2 + r'.2 ≤ r.2)
    (d : decode (mC M) pc = .ok (.invokevirtual idx, 3)) (hk : kd h o = some (.inl ci)) (k : WPx E Y 0 (ent (mL Y) (.ref o :: vs)) [] (mG Y).2.2 h (konX E M pc lo rest r' Q)) : WPx E M pc lo st r h Q := by
  intro b D cA p l e s m args below meth c H locs cells slots ls C hL hH hS hc hs
  obtain ⟨cb, hi1, hi2, T9, N9, hcl⟩ := cv
  have hts := C.2.2.2.2.2.1
  have hE := C.2.2.2.2.2.2.2.2.2.2.1
  have hb := C.2.2.2.2.2.2.2.2.2.1
  obtain ⟨ws, j, hP, hD, hj⟩ := hH.at (kd_some hk)
  rw [cel_obj hk] at hj
  have hrun := vx_runV (p := p) (e := e) (m := m) (below := below) (meth := meth) (H := H) (locs := locs) (cells := cells) (slots := slots) (g := F0 m pc ls st) (rest := rest) (As := vs) ⟨C.1, C.2.1, C.2.2.2.1, C.2.2.2.2.1, hts⟩ (met_of (b := b) (D := D) (cA := cA) cb.1 cb.2.1 hlen k C.2.2.2.2.2.2.2.2.1) ⟨cb.callB hts, hts _ hi1, hts _ hi2⟩ ⟨bPc_blind, va_recv hE.1 hP hcl hj, bPc_at hb hE hH hS⟩ rfl hn hL.1 hst (lv_room hw) d ⟨by show cells + _ ≤ (mG M).2.2.1; omega, by show slots + _ ≤ (mG M).2.2.2; omega⟩
  intro T hT X
  rcases hrun T hT X with ⟨v, st₀, t, T', L, h0, X', hL', e1, e2, ⟨⟨v', h', hv, hk9, hH'⟩, hF⟩, stp⟩ | ⟨q, st₀, t, T', L, X9, ce, h0, X', hL', e1, e2, ⟨h', hk9, hH', hF⟩, hce, hcv, hcl9, stp⟩
  · cases hv
    obtain ⟨k1, k2, k3⟩ := vx_keep h0 e1 hS (fun _ _ h => h) (fun _ h => h) hL' hF
    obtain ⟨t2, a1, b1⟩ := hk9 C hL (by rw [← e1] at hH'; exact hH') k3 (by omega) (by omega) T' rfl X'
    exact ⟨t2, stp t2 a1, b1⟩
  · obtain ⟨k1, k2, k3⟩ := vx_keep h0 e1 hS (fun _ _ h => h) (fun _ h => h) hL' hF
    obtain ⟨pre, z, suf, f1, f2, f3, f4, f5, f6, f7⟩ := hk9
    have hcat := vx_catch (p := p) (l := l) (e := e) (R := room M) (m := m) (below := below) (meth := meth) (H := T'.heap) (locs := locs ++ L) (cells := cells + (mG Y).2.2.1) (slots := slots + (mG Y).2.2.2) (Q := vx_MQ below (bQc b D cA Q) (bXC b D cA Q) args s (mG M).2.2.1 (mG M).2.2.2 (fun q => b ≤ q)) (ls := ls) (rest := rest) (pc := pc) C.2.2.2.2.1 pre z suf (C.2.2.2.2.2.2.2.2.2.2.2.trans f1)
      (fun y hy => by
        rcases f6 y hy with h9 | ⟨h9, nm, n1, n2, n3⟩
        · exact Or.inl h9
        · exact Or.inr ⟨h9, nm, hts _ n3, hE.2.2.2.2.2.2.2.2 X9 f5 nm n1 n2⟩) f2 f3 (hts _ f4) (va_Nw.use rfl (hE.2.2.2.2.2.2.2.1 _ (exs_fcs X9 f5))) (by rw [e1]; exact hce) hcv hcl9 (f7 q C hL (by rw [← e1] at hH'; exact hH') k3 (by omega) (by omega))
    obtain ⟨t2, a1, b1⟩ := hcat T' rfl X'
    exact ⟨t2, stp.trans a1, b1⟩
end Rows
