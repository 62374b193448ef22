/-! calls: the callee's judgement at its entry, with the caller's own as its end -/
def ev1 : List Value → List (Option Value)
  | [] => []
  | v :: t => if v.category = 2 then some v :: none :: ev1 t else some v :: ev1 t
def ent (n : Nat) (vs : List Value) : List (Option Value) := ev1 vs ++ List.replicate (n - (ev1 vs).length) none
theorem ev1_args {v : Value} : ∀ (vs : List Value) (k i : Nat), (ev1 vs)[i]? = some (some v) → (k + i, v) ∈ lv_args k vs
  | [], k, i, h => by simp [ev1] at h
  | w :: t, k, i, h => by
    unfold ev1 at h
    unfold lv_args
    by_cases hw : w.category = 2
    · rw [if_pos hw] at h ⊢
      match i, h with
      | 0, h => simp at h; subst h; exact List.mem_cons_self
      | 1, h => simp at h
      | i + 2, h =>
        have := ev1_args t (k + 2) i (by simpa using h)
        rw [show k + 2 + i = k + (i + 2) by omega] at this
        exact List.mem_cons_of_mem _ this
    · rw [if_neg hw] at h ⊢
      match i, h with
      | 0, h => simp at h; subst h; exact List.mem_cons_self
      | i + 1, h =>
        have := ev1_args t (k + 1) i (by simpa using h)
        rw [show k + 1 + i = k + (i + 1) by omega] at this
        exact List.mem_cons_of_mem _ this
theorem LR.entry (vs : List Value) {n : Nat} (hlen : (lg_sl vs).length ≤ n) : LR ((lg_sl vs ++ List.replicate (n - (lg_sl vs).length) Slot.unset).toArray) n (ent n vs) := by
  have h := lv_entry vs hlen
  refine ⟨h.1, h.2.1, fun i v hv => ?_⟩
  unfold ent at hv
  by_cases hi : i < (ev1 vs).length
  · rw [List.getElem?_append_left hi] at hv
    have := ev1_args vs 0 i hv
    rw [Nat.zero_add] at this
    exact h.2.2 (i, v) this
  · rw [List.getElem?_append_right (by omega), List.getElem?_replicate] at hv
    split at hv <;> cases hv
/-- the start of a call -/
abbrev bPc (E : Ev) (b : Nat) (D : va_G) (cA : Nat → ClassId) (av : List Value) (h : PH) : Array Value → State → Prop := va_Pc av (fun U => b ≤ U.heap.size ∧ EN E b D cA U U.heap ∧ HR b D cA h U.heap)
theorem bPc_blind {E : Ev} {b : Nat} {D : va_G} {cA : Nat → ClassId} {av : List Value} {h : PH} : FrameBlind (bPc E b D cA av h) := by
  intro a U g mk q
  obtain ⟨q0, q1, q2, q3⟩ := q
  exact ⟨q0, q1, q2.same rfl, q3⟩
theorem bPc_at {E : Ev} {b : Nat} {D : va_G} {cA : Nat → ClassId} {av : List Value} {h : PH} {s : State} {H : Heap} {locs : List Loc} (hb : b ≤ s.heap.size) (hE : EN E b D cA s s.heap) (hH : HR b D cA h H) (hS : va_S (fun q => b ≤ q) s.heap H locs) (U : State) (hU : U.heap = H) (hW : s.WarmedH U.vm) : bPc E b D cA av h av.toArray U :=
  ⟨rfl, by rw [hU]; exact Nat.le_trans hb hS.1, by rw [hU]; exact hE.warm hW hS.2.1 hb, by rw [hU]; exact hH⟩
theorem vx_ofWF {l : Launch} {y : MethodName} {ws ws' : List Cond} {rm : Room} {Pc : Array Value → State → Prop} {Qc : Array Value → State → Outcome → State → Prop} {XC : String → State → State → Prop} {mc ms : Nat} {free : Addr → Prop} {cc : ByteArray} {maxL : Nat} {ret : Option FieldType}
    (hy : plainFor y = true) (hw : ws = Cond.code y cc maxL ret :: ws')
    (body : ∀ p e s m args below meth c s₁, BodyLoose p l y (headSpec ws rm) cc maxL ret e s m args below meth c s₁ → c.maxLocals = maxL → (∀ x ∈ c.exceptionTable.toList, False) → Pc args s →
      W p l e (headSpec ws rm).room s m args below meth c s.heap [] 0 0 (vx_MQ below Qc XC args s mc ms free) (entryFrame m args maxL)) : vx_Met l y ws rm Pc Qc XC mc ms free := by
  refine MetFree.of_bodySF (code := cc) (maxLocals := maxL) (ret := ret) hy ?_ ?_
  · intro args s m h hn
    obtain ⟨meth, c, h1, h2, h3, h4, h5, h6, -, -⟩ := Cond.code_spec hn (atoms_spec (ws := ws) h _ (by rw [hw]; exact List.mem_cons_self))
    exact ⟨meth, c, h1, h2, h3, h4, h5, h6⟩
  · intro p e s m args below meth c s₁ B hml hP _
    have hh0 : s₁.heap = s.heap := by rw [B.state]; rfl
    have ht : ∀ x ∈ c.exceptionTable.toList, False := by
      obtain ⟨meth9, c9, h1, h2, -, -, -, -, h7, -⟩ := Cond.code_spec B.named (atoms_spec (ws := ws) B.pre _ (by rw [hw]; exact List.mem_cons_self))
      cases Option.some.inj (h1.symm.trans B.method)
      cases Option.some.inj (h2.symm.trans (Stand.of_body B).code)
      intro x hx
      rw [Array.isEmpty_iff.mp h7] at hx
      cases hx
    obtain ⟨t, a1, o, b1, b2, b3⟩ := body p e s m args below meth c s₁ B hml ht hP s₁ hh0 (Stand.of_body B)
    exact ⟨t, o, a1, b1, b2, b3⟩
theorem met_of {E : Ev} {Y : MX} {av : List Value} {h : PH} {Q : Rt → PH → Prop} (hy : plainFor (mN Y) = true) (hh : mH Y = []) (hlen : (lg_sl av).length ≤ mL Y) (hw : WPx E Y 0 (ent (mL Y) av) [] (mG Y).2.2 h Q) {l : Launch} {b : Nat} {D : va_G} {cA : Nat → ClassId} (hl : l.stackTraces = false) :
    vx_Met l (mN Y) (Cond.code (mN Y) (mC Y) (mL Y) (mT Y) :: gtb) (room Y) (bPc E b D cA av h) (bQc b D cA Q) (bXC b D cA Q) (mG Y).2.2.1 (mG Y).2.2.2 (fun q => b ≤ q) := by
  refine vx_ofWF hy rfl ?_
  intro p e s m args below meth c s₁ B hml ht hv
  obtain ⟨rfl, hb, hE, hH⟩ := hv
  have hts := atoms_spec (ws := Cond.code (mN Y) (mC Y) (mL Y) (mT Y) :: gtb) B.pre
  rw [lg_entry_eq]
  have hC : Cx E Y b D cA p l s m av.toArray meth c := ⟨B.exec, B.bytes, B.returns, hml, findClass_of_methodNamed B.named, fun w hw => hts w (List.mem_cons_of_mem _ hw), B.notSynchronized, (name_of_methodNamed B.named B.method).1, hl, hb, hE, by
    rw [hh]
    cases hx : c.exceptionTable.toList with
    | nil => rfl
    | cons x t => exact (ht x (by rw [hx]; exact List.mem_cons_self)).elim⟩
  exact hw hC (LR.entry av hlen) hH va_S.rf (by omega) (by omega)
theorem met_ofH {E : Ev} {Y : MX} {av : List Value} {h : PH} {Q : Rt → PH → Prop} (hy : plainName (mN Y).cls = true) (hlen : (lg_sl av).length ≤ mL Y) (hw : WPx E Y 0 (ent (mL Y) av) [] (mG Y).2.2 h Q) {l : Launch} {b : Nat} {D : va_G} {cA : Nat → ClassId} (hl : l.stackTraces = false) :
    vx_Met l (mN Y) (Cond.codeWith (mN Y) (mC Y) (mL Y) (mT Y) (mH Y) :: gtb) (room Y) (bPc E b D cA av h) (bQc b D cA Q) (bXC b D cA Q) (mG Y).2.2.1 (mG Y).2.2.2 (fun q => b ≤ q) := by
  refine vx_ofWH hy rfl ?_
  intro p e s m args below meth c s₁ B hml hv
  obtain ⟨rfl, hb, hE, hH⟩ := hv
  have hts := atoms_spec (ws := Cond.codeWith (mN Y) (mC Y) (mL Y) (mT Y) (mH Y) :: gtb) B.pre
  have htab := vx_table (x := mN Y) B (hts _ List.mem_cons_self)
  rw [lg_entry_eq]
  have hC : Cx E Y b D cA p l s m av.toArray meth c := ⟨B.exec, B.bytes, B.returns, hml, findClass_of_methodNamed B.named, fun w hw => hts w (List.mem_cons_of_mem _ hw), B.notSynchronized, (name_of_methodNamed B.named B.method).1, hl, hb, hE, htab⟩
  exact hw hC (LR.entry av hlen) hH va_S.rf (by omega) (by omega)
/-- a contract that never throws -/
theorem met_no {l : Launch} {y : MethodName} {ws : List Cond} {rm : Room} {Pc : Array Value → State → Prop} {Qc : Array Value → State → Outcome → State → Prop} {XC : String → State → State → Prop} {mc ms : Nat} {free : Addr → Prop} (hM : vx_Met l y ws rm Pc Qc XC mc ms free) (hX : ∀ X st t, ¬ XC X st t) : Met l y ws rm Pc Qc mc ms free := by
  intro p e a1 a2 a3 s m args below a4 a5 a6 a7
  obtain ⟨n, o, b1, b2, b3, b4⟩ := hM p e a1 a2 a3 s m args below a4 a5 a6 a7
  rcases b4 with b4 | ⟨q, -, X, ce, L, hx, -⟩
  · exact ⟨n, o, b1, b2, b3, b4⟩
  · exact (hX X _ _ hx).elim
/-- what a caller asks of a callee's end -/
abbrev kont (E : Ev) (M : MX) (pc : Nat) (lo : List (Option Value)) (st : List Value) (r : Nat × Nat) (Q : Rt → PH → Prop) : Rt → PH → Prop := fun x h' => match x with
  | .inl v => WPx E M pc lo (v.toList ++ st) r h' Q
  | .inr X => Q (.inr X) h'
/-- the same where nothing may be thrown -/
abbrev kon1 (E : Ev) (M : MX) (pc : Nat) (lo : List (Option Value)) (st : List Value) (r : Nat × Nat) (Q : Rt → PH → Prop) : Rt → PH → Prop := fun x h' => match x with
  | .inl v => WPx E M pc lo (v.toList ++ st) r h' Q
  | .inr _ => False
def CB (M : MX) (idx : Nat) (Y : MX) (n : Nat) : Prop := plainFor (mN Y) = true ∧ mH Y = [] ∧ Cond.code (mN Y) (mC Y) (mL Y) (mT Y) ∈ gtb ∧ Cond.initialized (mN Y).cls ∈ gtb ∧ Cond.methodLink (mN M).cls idx (mN Y) ∈ gtb ∧
  ((mN Y).cls ≠ "java/lang/invoke/MethodHandle" ∧ (mN Y).cls ≠ "java/lang/invoke/VarHandle" ∧ (parseMethodDescriptor (mN Y).desc).map (fun d => d.parameters.length) = some n) ∧ ((mG Y).1 + 1 ≤ (mG M).1 ∧ 8 + (mL Y + 11) + (mG Y).2.1 ≤ (mG M).2.1)
def CV (M : MX) (idx : Nat) (Y : MX) (n ci : Nat) : Prop := CB M idx Y n ∧ Cond.instanceMethod (mN Y) ∈ gtb ∧ Cond.selects (mN Y).cls (mN Y) (mN Y) ∈ gtb ∧ ∃ T N, classes[ci]? = some ((mN Y).cls, T, N)
def CS (M : MX) (idx : Nat) (Y : MX) (n : Nat) : Prop := CB M idx Y n ∧ Cond.static (mN Y) ∈ gtb
def CI (M : MX) (idx : Nat) (Y : MX) (n : Nat) : Prop := CB M idx Y n ∧ (mN Y).name = "<init>" ∧ mT Y = none ∧ Cond.instanceMethod (mN Y) ∈ gtb
/-- the same with a nest mate's link -/
def CNb (M : MX) (idx : Nat) (Y : MX) (n : Nat) : Prop := plainFor (mN Y) = true ∧ mH Y = [] ∧ Cond.code (mN Y) (mC Y) (mL Y) (mT Y) ∈ gtb ∧ Cond.initialized (mN Y).cls ∈ gtb ∧ ((mN M).cls, idx, mN Y) ∈ [(RX4, 23, yX5_init), (RX4, 24, yX3_init), (RX6, 21, yX0_init), (RX6, 28, yX2_init), (RX6, 43, yX1_init), (RX4, 143, yX6_isTwoDigits)] ∧
  ((mN Y).cls ≠ "java/lang/invoke/MethodHandle" ∧ (mN Y).cls ≠ "java/lang/invoke/VarHandle" ∧ (parseMethodDescriptor (mN Y).desc).map (fun d => d.parameters.length) = some n) ∧ ((mG Y).1 + 1 ≤ (mG M).1 ∧ 8 + (mL Y + 11) + (mG Y).2.1 ≤ (mG M).2.1)
def CSN (M : MX) (idx : Nat) (Y : MX) (n : Nat) : Prop := CNb M idx Y n ∧ Cond.static (mN Y) ∈ gtb
def CIN (M : MX) (idx : Nat) (Y : MX) (n : Nat) : Prop := CNb M idx Y n ∧ (mN Y).name = "<init>" ∧ mT Y = none ∧ Cond.instanceMethod (mN Y) ∈ gtb
/-- a static call of a method with a table -/
def CSW (M : MX) (idx : Nat) (Y : MX) (n : Nat) : Prop := plainName (mN Y).cls = true ∧ Cond.codeWith (mN Y) (mC Y) (mL Y) (mT Y) (mH Y) ∈ gtb ∧ Cond.initialized (mN Y).cls ∈ gtb ∧ Cond.methodLink (mN M).cls idx (mN Y) ∈ gtb ∧
  ((mN Y).cls ≠ "java/lang/invoke/MethodHandle" ∧ (mN Y).cls ≠ "java/lang/invoke/VarHandle" ∧ (parseMethodDescriptor (mN Y).desc).map (fun d => d.parameters.length) = some n) ∧ ((mG Y).1 + 1 ≤ (mG M).1 ∧ 8 + (mL Y + 11) + (mG Y).2.1 ≤ (mG M).2.1) ∧ Cond.static (mN Y) ∈ gtb
theorem gtb_self {w : Cond} (hw : w ∈ gtb) : GoodIn gtb (w :: gtb) := fun x hx => by
  rcases List.mem_cons.mp hx with rfl | h
  · exact ⟨hw, gtb_good hw⟩
  · exact ⟨h, gtb_good h⟩
theorem CB.callB {M Y : MX} {idx n : Nat} {s : State} {args : Array Value} (cb : CB M idx Y n) (hts : ∀ w ∈ gtb, w.before args s = true) : CallB (room M) s args (mN M).cls idx (mN Y) (mC Y) (mL Y) (mT Y) (Cond.code (mN Y) (mC Y) (mL Y) (mT Y) :: gtb) (room Y) (mG Y).2.2.1 (mG Y).2.2.2 n := by
  obtain ⟨h1, h2, h3, h4, h5, h6, h7⟩ := cb
  exact callB_of n hts (gtb_self h3) rfl rfl rfl (hts _ h4) (hts _ h5) h6 h7
theorem CNb.cn {M Y : MX} {idx n : Nat} {s : State} {args : Array Value} (cb : CNb M idx Y n) (hts : ∀ w ∈ gtb, w.before args s = true) (hN : ∀ q ∈ [(RX4, 23, yX5_init), (RX4, 24, yX3_init), (RX6, 21, yX0_init), (RX6, 28, yX2_init), (RX6, 43, yX1_init), (RX4, 143, yX6_isTwoDigits)], va_Nw (.methodLinkNest q.1 q.2.1 q.2.2 RX6) s) : va_CN (room M) s args (mN M).cls idx (mN Y) RX6 (mC Y) (mL Y) (mT Y) (Cond.code (mN Y) (mC Y) (mL Y) (mT Y) :: gtb) (room Y) (mG Y).2.2.1 (mG Y).2.2.2 n := by
  obtain ⟨h1, h2, h3, h4, h5, h6, h7⟩ := cb
  exact va_cnB n hts (gtb_self h3) rfl rfl rfl (hN _ h5) (hts _ h4) h6 h7
section Rows
variable {E : Ev} {M : MX} {pc : Nat} {lo : List (Option Value)} {st : List Value} {r : Nat × Nat} {h : PH} {Q : Rt → PH → Prop}
/-- behind a call that returned or threw (nothing here catches) -/
theorem wp_after {b : Nat} {D : va_G} {cA : Nat → ClassId} {p : Program} {l : Launch} {e : Env} {s : State} {m : MethodId} {args : Array Value} {below : List Frame} {meth : Method} {c : Code} {H : Heap} {locs : List Loc} {cells slots mc ms : Nat} {ls : Array Slot} {st0 rest : List Value} {a : Array Value} {r' : Nat × Nat}
    (hh : mH M = []) (C : Cx E M b D cA p l s m args meth c) (hL : LR ls (mL M) lo) (hS : va_S (fun q => b ≤ q) s.heap H locs) (hc : cells + mc + r'.1 ≤ (mG M).2.2.1) (hs : slots + ms + r'.2 ≤ (mG M).2.2.2)
    (hr : vx_Run p l e (room M) s m args below meth c H locs cells slots mc ms (F0 m pc ls st0) rest (bQc b D cA (kont E M (pc + 3) lo rest r' Q) a) (bXC b D cA (kont E M (pc + 3) lo rest r' Q)) (fun q => b ≤ q)) :
    W p l e (room M) s m args below meth c H locs cells slots (vx_MQ below (bQc b D cA Q) (bXC b D cA Q) args s (mG M).2.2.1 (mG M).2.2.2 (fun q => b ≤ q)) (F0 m pc ls st0) := by
  intro T hT X
  rcases hr T hT X with ⟨v, st₀, t, T', L, h0, X', hL', e1, e2, ⟨⟨v', h', hv, hk, hH'⟩, hF⟩, stp⟩ | ⟨q, st₀, t, T', L, X9, ce, h0, X', hL', e1, e2, ⟨h', hk, hH', hF⟩, hce, hcv, hcl, stp⟩
  · cases hv
    obtain ⟨k1, k2, k3⟩ := vx_keep h0 e1 hS (fun _ _ h => h) (fun _ h => h) hL' hF
    obtain ⟨t2, a1, b1⟩ := hk C hL (by rw [← e1] at hH'; exact hH') k3 hc hs T' rfl X'
    exact ⟨t2, stp t2 a1, b1⟩
  · obtain ⟨k1, k2, k3⟩ := vx_keep h0 e1 hS (fun _ _ h => h) (fun _ h => h) hL' hF
    have hout : ∀ x ∈ c.exceptionTable.toList, covers x pc = false := by
      rw [C.2.2.2.2.2.2.2.2.2.2.2, hh]
      intro x hx
      cases hx
    obtain ⟨t2, a1, b1⟩ := vx_out (Qc := bQc b D cA Q) (XC := bXC b D cA Q) (mc := (mG M).2.2.1) (ms := (mG M).2.2.2) (free := fun q => b ≤ q) (ls := ls) (rest := rest) hout C.2.2.2.2.2.2.1 (by rw [e1]; exact hce) hcv hcl (fun t5 hT5 _ => ⟨h', hk, by rw [hT5, e1]; exact hH', k3.F hT5⟩) k3.2.2 (by omega) (by omega) T' rfl X'
    exact ⟨t2, stp.trans a1, b1⟩
theorem wp_after1 {b : Nat} {D : va_G} {cA : Nat → ClassId} {p : Program} {l : Launch} {e : Env} {s : State} {m : MethodId} {args : Array Value} {below : List Frame} {meth : Method} {c : Code} {H : Heap} {locs : List Loc} {cells slots mc ms : Nat} {ls : Array Slot} {st0 rest : List Value} {a : Array Value} {r' : Nat × Nat}
    (C : Cx E M b D cA p l s m args meth c) (hL : LR ls (mL M) lo) (hS : va_S (fun q => b ≤ q) s.heap H locs) (hc : cells + mc + r'.1 ≤ (mG M).2.2.1) (hs : slots + ms + r'.2 ≤ (mG M).2.2.2)
    (hr : va_Run p l e (room M) s m args below meth c H locs cells slots mc ms (F0 m pc ls st0) rest (bQc b D cA (kon1 E M (pc + 3) lo rest r' Q) a) (fun q => b ≤ q)) :
    W p l e (room M) s m args below meth c H locs cells slots (vx_MQ below (bQc b D cA Q) (bXC b D cA Q) args s (mG M).2.2.1 (mG M).2.2.2 (fun q => b ≤ q)) (F0 m pc ls st0) := by
  intro T hT X
  obtain ⟨v, st₀, t, T', L, h0, X', hL', e1, e2, ⟨⟨v', h', hv, hk, hH'⟩, hF⟩, stp⟩ := hr T hT X
  cases hv
  obtain ⟨k1, k2, k3⟩ := vx_keep h0 e1 hS (fun _ _ h => h) (fun _ h => h) hL' hF
  obtain ⟨t2, a1, b1⟩ := hk C hL (by rw [← e1] at hH'; exact hH') k3 hc hs T' rfl X'
  exact ⟨t2, stp t2 a1, b1⟩
theorem wp_invV {Y : MX} {idx n o ci : Nat} {vs rest : List Value} (r' : Nat × Nat) (cv : CV M idx Y n ci) (hh : mH M = []) (hn : vs.length = n) (hst : st = vs.reverse ++ .ref o :: rest) (hw : (rest.map fun v => v.category).sum ≤ 8) (hlen : (lg_sl (.ref o :: vs)).length ≤ mL Y) (hr1 : (mG Y).2.2.1 + r'.1 ≤ r.1) (hr2 : (mG Y).2.2.2 + r'.2 ≤ r.2)
    (d : decode (mC M) pc = .ok (.invokevirtual idx, 3)) (hk : kd h o = some (.inl ci)) (k : WPx E Y 0 (ent (mL Y) (.ref o :: vs)) [] (mG Y).2.2 h (kont E M (pc + 3) lo rest r' Q)) : WPx E M pc lo st r h Q := by
  intro b D cA p l e s m args below meth c H locs cells slots ls C hL hH hS hc hs
  obtain ⟨cb, hi1, hi2, T, N, hcl⟩ := cv
  have hts := C.2.2.2.2.2.1
  have hE := C.2.2.2.2.2.2.2.2.2.2.1
  have hb := C.2.2.2.2.2.2.2.2.2.1
  obtain ⟨ws, j, hP, hD, hj⟩ := hH.at (kd_some hk)
  rw [cel_obj hk] at hj
  refine wp_after hh C hL hS (r' := r') (by omega) (by omega) (vx_runV (As := vs) ⟨C.1, C.2.1, C.2.2.2.1, C.2.2.2.2.1, hts⟩ (met_of cb.1 cb.2.1 hlen k C.2.2.2.2.2.2.2.2.1) ⟨cb.callB hts, hts _ hi1, hts _ hi2⟩ ⟨bPc_blind, va_recv hE.1 hP hcl hj, bPc_at hb hE hH hS⟩ rfl hn hL.1 hst (lv_room hw) d ⟨by show cells + _ ≤ (mG M).2.2.1; omega, by show slots + _ ≤ (mG M).2.2.2; omega⟩)
theorem wp_invS {Y : MX} {idx n : Nat} {vs rest : List Value} (r' : Nat × Nat) (cv : CS M idx Y n) (hh : mH M = []) (hn : vs.length = n) (hst : st = vs.reverse ++ rest) (hw : (rest.map fun v => v.category).sum ≤ 8) (hlen : (lg_sl vs).length ≤ mL Y) (hr1 : (mG Y).2.2.1 + r'.1 ≤ r.1) (hr2 : (mG Y).2.2.2 + r'.2 ≤ r.2)
    (d : decode (mC M) pc = .ok (.invokestatic idx, 3)) (k : WPx E Y 0 (ent (mL Y) vs) [] (mG Y).2.2 h (kont E M (pc + 3) lo rest r' Q)) : WPx E M pc lo st r h Q := by
  intro b D cA p l e s m args below meth c H locs cells slots ls C hL hH hS hc hs
  obtain ⟨cb, hi1⟩ := cv
  have hts := C.2.2.2.2.2.1
  have hE := C.2.2.2.2.2.2.2.2.2.2.1
  have hb := C.2.2.2.2.2.2.2.2.2.1
  refine wp_after hh C hL hS (r' := r') (by omega) (by omega) (vx_runS (As := vs) ⟨C.1, C.2.1, C.2.2.2.1, C.2.2.2.2.1, hts⟩ (met_of cb.1 cb.2.1 hlen k C.2.2.2.2.2.2.2.2.1) ⟨cb.callB hts, hts _ hi1⟩ ⟨bPc_blind, bPc_at hb hE hH hS⟩ rfl hn hL.1 hst (lv_room hw) d ⟨by show cells + _ ≤ (mG M).2.2.1; omega, by show slots + _ ≤ (mG M).2.2.2; omega⟩)
theorem wp_invSW {Y : MX} {idx n : Nat} {vs rest : List Value} (r' : Nat × Nat) (cv : CSW M idx Y n) (hh : mH M = []) (hn : vs.length = n) (hst : st = vs.reverse ++ rest) (hw : (rest.map fun v => v.category).sum ≤ 8) (hlen : (lg_sl vs).length ≤ mL Y) (hr1 : (mG Y).2.2.1 + r'.1 ≤ r.1) (hr2 : (mG Y).2.2.2 + r'.2 ≤ r.2)
    (d : decode (mC M) pc = .ok (.invokestatic idx, 3)) (k : WPx E Y 0 (ent (mL Y) vs) [] (mG Y).2.2 h (kont E M (pc + 3) lo rest r' Q)) : WPx E M pc lo st r h Q := by
  intro b D cA p l e s m args below meth c H locs cells slots ls C hL hH hS hc hs
  obtain ⟨c1, c2, c3, c4, c5, c6, c7⟩ := cv
  have hts := C.2.2.2.2.2.1
  have hE := C.2.2.2.2.2.2.2.2.2.2.1
  have hb := C.2.2.2.2.2.2.2.2.2.1
  have hcw : vx_CSW (room M) s args (mN M).cls idx (mN Y) (mC Y) (mL Y) (mT Y) (mH Y) (Cond.codeWith (mN Y) (mC Y) (mL Y) (mT Y) (mH Y) :: gtb) (room Y) (mG Y).2.2.1 (mG Y).2.2.2 n := by
    refine ⟨⟨rfl, rfl, c6.1, c6.2, pay_in hts (gtb_self c2), List.mem_cons_self⟩, hts _ c2, hts _ c3, ⟨c5.1, c5.2.1⟩, fun sig h9 => ?_, hts _ c4, hts _ c7⟩
    have h2 := c5.2.2
    rw [h9] at h2
    exact (Option.some.inj h2).symm
  refine wp_after hh C hL hS (r' := r') (by omega) (by omega) (vx_runSX (As := vs) ⟨C.1, C.2.1, C.2.2.2.1, C.2.2.2.2.1, hts⟩ (met_ofH c1 hlen k C.2.2.2.2.2.2.2.2.1) hcw ⟨bPc_blind, bPc_at hb hE hH hS⟩ rfl hn hL.1 hst (lv_room hw) d ⟨by show cells + _ ≤ (mG M).2.2.1; omega, by show slots + _ ≤ (mG M).2.2.2; omega⟩)
theorem wp_invI {Y : MX} {idx n o : Nat} {vs rest : List Value} (r' : Nat × Nat) (cv : CI M idx Y n) (hn : vs.length = n) (hst : st = vs.reverse ++ .ref o :: rest) (hw : (rest.map fun v => v.category).sum ≤ 8) (hlen : (lg_sl (.ref o :: vs)).length ≤ mL Y) (hr1 : (mG Y).2.2.1 + r'.1 ≤ r.1) (hr2 : (mG Y).2.2.2 + r'.2 ≤ r.2)
    (d : decode (mC M) pc = .ok (.invokespecial idx, 3)) (k : WPx E Y 0 (ent (mL Y) (.ref o :: vs)) [] (mG Y).2.2 h (kon1 E M (pc + 3) lo rest r' Q)) : WPx E M pc lo st r h Q := by
  intro b D cA p l e s m args below meth c H locs cells slots ls C hL hH hS hc hs
  obtain ⟨cb, hi1, hi2, hi3⟩ := cv
  have hts := C.2.2.2.2.2.1
  have hE := C.2.2.2.2.2.2.2.2.2.2.1
  have hb := C.2.2.2.2.2.2.2.2.2.1
  have hcb := cb.callB hts
  rw [hi2] at hcb
  refine wp_after1 C hL hS (r' := r') (by omega) (by omega) (va_runI (As := vs) ⟨C.1, C.2.1, C.2.2.2.1, C.2.2.2.2.1, hts⟩ (met_no (met_of cb.1 cb.2.1 hlen k C.2.2.2.2.2.2.2.2.1) (fun X st t hx => by obtain ⟨h', hf, -⟩ := hx; exact hf)) ⟨by rw [hi2]; exact hcb, hi1, hts _ hi3⟩ ⟨bPc_blind, bPc_at hb hE hH hS⟩ rfl hn hL.1 hst (lv_room hw) d ⟨by show cells + _ ≤ (mG M).2.2.1; omega, by show slots + _ ≤ (mG M).2.2.2; omega⟩)
theorem wp_invSN {Y : MX} {idx n : Nat} {vs rest : List Value} (r' : Nat × Nat) (cv : CSN M idx Y n) (hn : vs.length = n) (hst : st = vs.reverse ++ rest) (hw : (rest.map fun v => v.category).sum ≤ 8) (hlen : (lg_sl vs).length ≤ mL Y) (hr1 : (mG Y).2.2.1 + r'.1 ≤ r.1) (hr2 : (mG Y).2.2.2 + r'.2 ≤ r.2)
    (d : decode (mC M) pc = .ok (.invokestatic idx, 3)) (k : WPx E Y 0 (ent (mL Y) vs) [] (mG Y).2.2 h (kon1 E M (pc + 3) lo rest r' Q)) : WPx E M pc lo st r h Q := by
  intro b D cA p l e s m args below meth c H locs cells slots ls C hL hH hS hc hs
  obtain ⟨cb, hi1⟩ := cv
  have hts := C.2.2.2.2.2.1
  have hE := C.2.2.2.2.2.2.2.2.2.2.1
  have hb := C.2.2.2.2.2.2.2.2.2.1
  refine wp_after1 C hL hS (r' := r') (by omega) (by omega) (va_runSN (As := vs) ⟨C.1, C.2.1, C.2.2.2.1, C.2.2.2.2.1, hts⟩ (met_no (met_of cb.1 cb.2.1 hlen k C.2.2.2.2.2.2.2.2.1) (fun X st t hx => by obtain ⟨h', hf, -⟩ := hx; exact hf)) ⟨cb.cn hts hE.2.2.2.2.2.2.1, hts _ hi1, trivial⟩ ⟨bPc_blind, bPc_at hb hE hH hS⟩ rfl hn hL.1 hst (lv_room hw) d ⟨by show cells + _ ≤ (mG M).2.2.1; omega, by show slots + _ ≤ (mG M).2.2.2; omega⟩)
theorem wp_invIN {Y : MX} {idx n o : Nat} {vs rest : List Value} (r' : Nat × Nat) (cv : CIN M idx Y n) (hn : vs.length = n) (hst : st = vs.reverse ++ .ref o :: rest) (hw : (rest.map fun v => v.category).sum ≤ 8) (hlen : (lg_sl (.ref o :: vs)).length ≤ mL Y) (hr1 : (mG Y).2.2.1 + r'.1 ≤ r.1) (hr2 : (mG Y).2.2.2 + r'.2 ≤ r.2)
    (d : decode (mC M) pc = .ok (.invokespecial idx, 3)) (k : WPx E Y 0 (ent (mL Y) (.ref o :: vs)) [] (mG Y).2.2 h (kon1 E M (pc + 3) lo rest r' Q)) : WPx E M pc lo st r h Q := by
  intro b D cA p l e s m args below meth c H locs cells slots ls C hL hH hS hc hs
  obtain ⟨cb, hi1, hi2, hi3⟩ := cv
  have hts := C.2.2.2.2.2.1
  have hE := C.2.2.2.2.2.2.2.2.2.2.1
  have hb := C.2.2.2.2.2.2.2.2.2.1
  have hcn := cb.cn hts hE.2.2.2.2.2.2.1
  rw [hi2] at hcn
  refine wp_after1 C hL hS (r' := r') (by omega) (by omega) (va_runIN (As := vs) ⟨C.1, C.2.1, C.2.2.2.1, C.2.2.2.2.1, hts⟩ (met_no (met_of cb.1 cb.2.1 hlen k C.2.2.2.2.2.2.2.2.1) (fun X st t hx => by obtain ⟨h', hf, -⟩ := hx; exact hf)) ⟨by rw [hi2]; exact hcn, hi1, hts _ hi3⟩ ⟨bPc_blind, bPc_at hb hE hH hS⟩ rfl hn hL.1 hst (lv_room hw) d ⟨by show cells + _ ≤ (mG M).2.2.1; omega, by show slots + _ ≤ (mG M).2.2.2; omega⟩)
/-- Object's constructor -/
theorem wp_objInit {idx o : Nat} (w1 : Cond.methodLink (mN M).cls idx objectInit ∈ gtb) (w2 : Cond.instanceMethod objectInit ∈ gtb) (w3 : Cond.code objectInit ⟨#[0xb1]⟩ 1 none ∈ gtb) (hf : 1 ≤ (mG M).1) (hl : (st.map fun v => v.category).sum + 12 ≤ (mG M).2.1) (d : decode (mC M) pc = .ok (.invokespecial idx, 3)) (k : WPx E M (pc + 3) lo st r h Q) : WPx E M pc lo (.ref o :: st) r h Q := by
  intro b D cA p l e s m args below meth c H locs cells slots ls C hL hH hS hc hs
  have hts := C.2.2.2.2.2.1
  refine W.objInit C.1 C.2.1 C.2.2.2.2.1 (hts _ w1) (hts _ w2) (hts _ w3) rfl (hL.1.trans C.2.2.2.1.symm) rfl d hf (by show 2 * 0 + (st.map fun v => v.category).sum + 12 ≤ (mG M).2.1; omega) ?_
  exact k C hL hH hS hc hs
end Rows

