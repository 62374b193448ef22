
/-! the judgement WPx: from pc, with these locals, this stack and this pure heap, the method ends with Q -/
abbrev Rt : Type := Option Value ⊕ String
abbrev Ev : Type := Nat × Nat × (Nat → Int32) × Nat
abbrev MX : Type := MethodName × ByteArray × Nat × Option FieldType × (Nat × Nat × Nat × Nat) × List (Nat × Nat × Nat × Nat)
abbrev mN (M : MX) : MethodName := M.1
abbrev mC (M : MX) : ByteArray := M.2.1
abbrev mL (M : MX) : Nat := M.2.2.1
abbrev mT (M : MX) : Option FieldType := M.2.2.2.1
abbrev mG (M : MX) : Nat × Nat × Nat × Nat := M.2.2.2.2.1
abbrev mH (M : MX) : List (Nat × Nat × Nat × Nat) := M.2.2.2.2.2
/-- frames, locals, cells, slots -/
abbrev room (M : MX) : Room := { frames := (mG M).1, cells := (mG M).2.2.1, slots := (mG M).2.2.2, locals := (mG M).2.1 }
def gtb : List Cond := lw_tbl.filter goodWord
theorem gtb_in {w : Cond} (h : w ∈ lw_tbl) (hg : goodWord w = true) : w ∈ gtb := List.mem_filter.mpr ⟨h, hg⟩
theorem gtb_good {w : Cond} (h : w ∈ gtb) : (w.onTables && w.keeps) = true ∨ ∃ ty, w = .arrayClass ty := good_of_word (List.mem_filter.mp h).2
def facv (j : Nat) : Int32 := ([1, 1, 2, 6, 24, 120, 720] : List Int32).getD j 0
/-- words that are no 'good' ones and stay true -/
abbrev fcs : List Cond := [.castable "java/lang/IllegalArgumentException" "java/lang/IllegalArgumentException", .castable "java/lang/IllegalStateException" "java/lang/IllegalStateException", .castable "java/lang/IndexOutOfBoundsException" "java/lang/IndexOutOfBoundsException", .declares ⟨"java/lang/RuntimeException", "<init>", "(Ljava/lang/String;)V"⟩, .declares ⟨"java/lang/Exception", "<init>", "(Ljava/lang/String;)V"⟩, .declares ⟨"java/lang/Throwable", "<init>", "(Ljava/lang/String;)V"⟩]
theorem fcs_ok : ∀ w ∈ fcs, w.onTables = true ∧ w.keepsFace = true := by decide
/-- what the start gives, of a state and its heap, below b -/
def EN (E : Ev) (b : Nat) (D : va_G) (cA : Nat → ClassId) (U : State) (H : Heap) : Prop :=
  va_K D classes (tys cA) U ∧ (va_X E.1 E.2.1 E.2.2.1 U H ∧ ¬ b ≤ E.1) ∧
  (va_Z RX6 "FACTORIALS" "[I" (.ref E.2.2.2) (fun q => b ≤ q) U H ∧ va_T .int E.2.2.2 7 (fun j => .int (facv j)) (fun q => b ≤ q) U H) ∧
  (vx_Zq Bundle.tN "UNASSIGNED_STACK" Bundle.steD (fun q => b ≤ q) U H ∧ vx_Zq Bundle.tN "SUPPRESSED_SENTINEL" Bundle.listD (fun q => b ≤ q) U H) ∧
  (∀ q ∈ [(272, "an argument is out of its range"), (275, "not possible now"), (267, "no such tenant, order or slot"), (260, "the slot is empty")], ∃ a, vk_R RX6 q.1 q.2 a U) ∧
  (∀ C ∈ [RX3, RX4, RX5], va_AO C U) ∧
  (∀ q ∈ [(RX4, 23, yX5_init), (RX4, 24, yX3_init), (RX6, 21, yX0_init), (RX6, 28, yX2_init), (RX6, 43, yX1_init), (RX4, 143, yX6_isTwoDigits)], va_Nw (.methodLinkNest q.1 q.2.1 q.2.2 RX6) U) ∧
  (∀ w ∈ fcs, va_Nw w U) ∧
  (∀ C ∈ ["java/lang/IllegalArgumentException", "java/lang/IllegalStateException", "java/lang/IndexOutOfBoundsException"], ∀ C' ∈ ["java/lang/IllegalArgumentException", "java/lang/IllegalStateException", "java/lang/IndexOutOfBoundsException"], C ≠ C' → va_Nc C C' U)
theorem EN.warm {E : Ev} {b : Nat} {D : va_G} {cA : Nat → ClassId} {s U : State} {H H1 : Heap} (h : EN E b D cA s H) (hW : s.WarmedH U.vm) (hq : ∀ q : Nat, q < H.size → ¬ b ≤ q → H1[q]? = H[q]?) (hb : b ≤ H.size) : EN E b D cA U H1 := by
  obtain ⟨h1, ⟨h2, h3⟩, ⟨h4, h5⟩, ⟨h6, h7⟩, h8, h9, h10, h11, h12⟩ := h
  have ha := hW.alike
  exact ⟨h1.moved ha, ⟨(h2.kept (hq _ (by omega) h3)).moved ha, h3⟩, ⟨(h4.kept hq).moved ha, (h5.kept hq).moved ha⟩, ⟨(h6.kept hq).moved ha, (h7.kept hq).moved ha⟩,
    fun q m => (h8 q m).elim fun a r => ⟨a, vk_R.warm hW r⟩, fun C m => (h9 C m).moved ha, fun q m => va_Nw.warmM hW (h10 q m),
    fun w m => va_tabs (fcs_ok w m).1 (rfl : (s.setVm U.vm).vm = U.vm) (Cond.before_shiftedFace (State.Shifted.of_warmed hW) _ (fcs_ok w m).2 (h11 w m)), fun C m C' m' n => (h12 C m C' m' n).moved ha⟩
theorem EN.same {E : Ev} {b : Nat} {D : va_G} {cA : Nat → ClassId} {s U : State} {H : Heap} (h : EN E b D cA s H) (hv : U.vm = s.vm) : EN E b D cA U H := by
  obtain ⟨h1, ⟨h2, h3⟩, ⟨h4, h5⟩, ⟨h6, h7⟩, h8, h9, h10, h11, h12⟩ := h
  have ha : s.vm.Alike U.vm := by rw [hv]; exact Vm.Alike.refl _
  exact ⟨h1.moved ha, ⟨h2.moved ha, h3⟩, ⟨h4.moved ha, h5.moved ha⟩, ⟨h6.moved ha, h7.moved ha⟩,
    fun q m => (h8 q m).elim fun a r => ⟨a, vk_R.same hv r⟩, fun C m => (h9 C m).moved ha, fun q m => va_Nw.same rfl hv.symm (h10 q m),
    fun w m => va_Nw.same (fcs_ok w m).1 hv.symm (h11 w m), fun C m C' m' n => (h12 C m C' m' n).moved ha⟩
def Cx (E : Ev) (M : MX) (b : Nat) (D : va_G) (cA : Nat → ClassId) (p : Program) (l : Launch) (s : State) (m : MethodId) (args : Array Value) (meth : Method) (c : Code) : Prop :=
  p.tables.exec = Jvm.exec ∧ c.code = mC M ∧ meth.sig.returnType = mT M ∧ c.maxLocals = mL M ∧ s.vm.findClass (mN M).cls = some m.cls ∧ (∀ w ∈ gtb, w.before args s = true) ∧
  meth.locks = false ∧ meth.name = (mN M).name ∧ l.stackTraces = false ∧ b ≤ s.heap.size ∧ EN E b D cA s s.heap ∧ c.exceptionTable.toList = tableOf (mH M)
def LR (ls : Array Slot) (n : Nat) (lo : List (Option Value)) : Prop := ls.size = n ∧ lv_wf ls ∧ ∀ (i : Nat) (v : Value), lo[i]? = some (some v) → ls[i]? = some (.val v)
abbrev bQc (b : Nat) (D : va_G) (cA : Nat → ClassId) (Q : Rt → PH → Prop) : Array Value → State → Outcome → State → Prop := fun _ st o t =>
  (∃ (v : Option Value) (h' : PH), o = .returned v ∧ Q (.inl v) h' ∧ HR b D cA h' t.heap) ∧ va_F (fun q => b ≤ q) st t
abbrev bXC (b : Nat) (D : va_G) (cA : Nat → ClassId) (Q : Rt → PH → Prop) : String → State → State → Prop := fun X st t =>
  ∃ h' : PH, Q (.inr X) h' ∧ HR b D cA h' t.heap ∧ va_F (fun q => b ≤ q) st t
def WPx (E : Ev) (M : MX) (pc : Nat) (lo : List (Option Value)) (st : List Value) (r : Nat × Nat) (h : PH) (Q : Rt → PH → Prop) : Prop :=
  ∀ ⦃b : Nat⦄ ⦃D : va_G⦄ ⦃cA : Nat → ClassId⦄ ⦃p : Program⦄ ⦃l : Launch⦄ ⦃e : Env⦄ ⦃s : State⦄ ⦃m : MethodId⦄ ⦃args : Array Value⦄ ⦃below : List Frame⦄ ⦃meth : Method⦄ ⦃c : Code⦄ ⦃H : Heap⦄ ⦃locs : List Loc⦄ ⦃cells slots : Nat⦄ ⦃ls : Array Slot⦄,
    Cx E M b D cA p l s m args meth c → LR ls (mL M) lo → HR b D cA h H → va_S (fun q => b ≤ q) s.heap H locs → cells + r.1 ≤ (mG M).2.2.1 → slots + r.2 ≤ (mG M).2.2.2 →
    W p l e (room M) s m args below meth c H locs cells slots (vx_MQ below (bQc b D cA Q) (bXC b D cA Q) args s (mG M).2.2.1 (mG M).2.2.2 (fun q => b ≤ q)) (F0 m pc ls st)
/-- the locals as an association list -/
def la : Nat → List (Option Value) → List (Nat × Value)
  | _, [] => []
  | k, none :: t => la (k + 1) t
  | k, some v :: t => (k, v) :: la (k + 1) t
theorem la_mem {v : Value} : ∀ (lo : List (Option Value)) (k i : Nat), lo[i]? = some (some v) → (k + i, v) ∈ la k lo
  | [], k, i, h => by simp at h
  | x :: t, k, 0, h => by
    simp at h; subst h
    exact List.mem_cons_self
  | x :: t, k, i + 1, h => by
    have h2 := la_mem t (k + 1) i (by simpa using h)
    have e : k + 1 + i = k + (i + 1) := by omega
    rw [e] at h2
    cases x with
    | none => exact h2
    | some y => exact List.mem_cons_of_mem _ h2
theorem la_inv {v : Value} : ∀ (lo : List (Option Value)) (k i : Nat), (i, v) ∈ la k lo → ∃ j, i = k + j ∧ lo[j]? = some (some v)
  | [], k, i, h => by simp [la] at h
  | none :: t, k, i, h => by
    obtain ⟨j, e, h2⟩ := la_inv t (k + 1) i h
    exact ⟨j + 1, by omega, by simpa using h2⟩
  | some y :: t, k, i, h => by
    rcases List.mem_cons.mp h with h | h
    · cases h; exact ⟨0, rfl, rfl⟩
    · obtain ⟨j, e, h2⟩ := la_inv t (k + 1) i h
      exact ⟨j + 1, by omega, by simpa using h2⟩
theorem LR.has {ls : Array Slot} {n : Nat} {lo : List (Option Value)} (h : LR ls n lo) : lv_has ls n (la 0 lo) := ⟨h.1, h.2.1, fun q hq => by
  obtain ⟨j, e, h2⟩ := la_inv lo 0 q.1 hq
  rw [show q.1 = j by omega]
  exact h.2.2 j _ h2⟩
/-- the entry ahead is no first half of a long -/
def c1 (x : Option Value) : Bool := match x with
  | some v => v.category == 1
  | none => true
theorem LR.st {ls : Array Slot} {n : Nat} {lo : List (Option Value)} {i : Nat} {v : Value} (hi : i < lo.length) (hc : ∀ x, 1 ≤ i → lo[i - 1]? = some x → c1 x = true)
    (h : lv_has ls n ((i, v) :: (la 0 lo).filter (fun q => !(q.1 == i) && !(q.1 + 1 == i && q.2.category == 2)))) : LR ls n (lo.set i (some v)) := by
  refine ⟨h.1, h.2.1, fun j w hj => ?_⟩
  rw [List.getElem?_set] at hj
  by_cases hji : i = j
  · subst hji
    rw [if_pos rfl, if_pos hi] at hj
    have : v = w := by simpa using hj
    subst this
    exact h.2.2 (i, v) List.mem_cons_self
  · rw [if_neg hji] at hj
    refine h.2.2 (j, w) (List.mem_cons_of_mem _ (List.mem_filter.mpr ⟨by have := la_mem lo 0 j hj; rwa [Nat.zero_add] at this, ?_⟩))
    have e1 : (j == i) = false := by simp; omega
    by_cases h1 : j + 1 = i
    · have := hc (some w) (by omega) (by rw [show i - 1 = j by omega]; exact hj)
      have e2 : (w.category == 2) = false := by
        have : w.category = 1 := by simpa [c1] using this
        rw [this]; rfl
      simp [e1, e2]
    · have e3 : (j + 1 == i) = false := by simp; omega
      simp [e1, e3]
theorem LR.st2 {ls : Array Slot} {n : Nat} {lo : List (Option Value)} {i : Nat} {v : Value} (hi : i + 1 < lo.length) (hc : ∀ x, 1 ≤ i → lo[i - 1]? = some x → c1 x = true)
    (h : lv_has ls n ((i, v) :: (la 0 lo).filter (fun q => !(q.1 == i) && (!(q.1 == i + 1) && !(q.1 + 1 == i && q.2.category == 2))))) : LR ls n ((lo.set i (some v)).set (i + 1) none) := by
  refine ⟨h.1, h.2.1, fun j w hj => ?_⟩
  rw [List.getElem?_set] at hj
  by_cases hji1 : i + 1 = j
  · subst hji1
    rw [if_pos rfl, if_pos (by simpa using hi)] at hj
    cases hj
  · rw [if_neg hji1, List.getElem?_set] at hj
    by_cases hji : i = j
    · subst hji
      rw [if_pos rfl, if_pos (by omega)] at hj
      have : v = w := by simpa using hj
      subst this
      exact h.2.2 (i, v) List.mem_cons_self
    · rw [if_neg hji] at hj
      refine h.2.2 (j, w) (List.mem_cons_of_mem _ (List.mem_filter.mpr ⟨by have := la_mem lo 0 j hj; rwa [Nat.zero_add] at this, ?_⟩))
      have e1 : (j == i) = false := by simp; omega
      have e4 : (j == i + 1) = false := by simp; omega
      by_cases h1 : j + 1 = i
      · have := hc (some w) (by omega) (by rw [show i - 1 = j by omega]; exact hj)
        have e2 : (w.category == 2) = false := by
          have : w.category = 1 := by simpa [c1] using this
          rw [this]; rfl
        simp [e1, e2, e4]
      · have e3 : (j + 1 == i) = false := by simp; omega
        simp [e1, e3, e4]
theorem LR.sub {ls : Array Slot} {n : Nat} {lo lo' : List (Option Value)} (h : LR ls n lo) (hs : ∀ (i : Nat) (v : Value), lo'[i]? = some (some v) → lo[i]? = some (some v)) : LR ls n lo' := ⟨h.1, h.2.1, fun i v hv => h.2.2 i v (hs i v hv)⟩
section Rows
variable {E : Ev} {M : MX} {pc : Nat} {lo : List (Option Value)} {st : List Value} {r : Nat × Nat} {h : PH} {Q : Rt → PH → Prop}

theorem wp_iconst {n : Int} {v : Int32} (d : decode (mC M) pc = .ok (.iconst n, 1)) (hv : Int32.ofInt n = v) (k : WPx E M (pc + 1) lo (.int v :: st) r h Q) : WPx E M pc lo (st) r h Q := by
  intro b D cA p l e s m args below meth c H locs cells slots ls C hL hH hS hc hs
  exact lv_iconst C.1 C.2.1 d hv (k C hL hH hS hc hs)
theorem wp_bipush {n : Int} {v : Int32} (d : decode (mC M) pc = .ok (.bipush n, 2)) (hv : (Int8.ofInt n).toInt32 = v) (k : WPx E M (pc + 2) lo (.int v :: st) r h Q) : WPx E M pc lo (st) r h Q := by
  intro b D cA p l e s m args below meth c H locs cells slots ls C hL hH hS hc hs
  exact lv_bipush C.1 C.2.1 d hv (k C hL hH hS hc hs)
theorem wp_sipush {n : Int} {v : Int32} (d : decode (mC M) pc = .ok (.sipush n, 3)) (hv : (Int16.ofInt n).toInt32 = v) (k : WPx E M (pc + 3) lo (.int v :: st) r h Q) : WPx E M pc lo (st) r h Q := by
  intro b D cA p l e s m args below meth c H locs cells slots ls C hL hH hS hc hs
  exact lv_sipush C.1 C.2.1 d hv (k C hL hH hS hc hs)
theorem wp_lconst {n : Fin 2} {v : Int64} (d : decode (mC M) pc = .ok (.lconst n, 1)) (hv : Int64.ofNat (n : Nat) = v) (k : WPx E M (pc + 1) lo (.long v :: st) r h Q) : WPx E M pc lo (st) r h Q := by
  intro b D cA p l e s m args below meth c H locs cells slots ls C hL hH hS hc hs
  exact lv_lconst C.1 C.2.1 d hv (k C hL hH hS hc hs)
theorem wp_aconst_null (d : decode (mC M) pc = .ok (.aconst_null, 1)) (k : WPx E M (pc + 1) lo (.null :: st) r h Q) : WPx E M pc lo st r h Q := by
  intro b D cA p l e s m args below meth c H locs cells slots ls C hL hH hS hc hs
  exact lv_null C.1 C.2.1 d (k C hL hH hS hc hs)
theorem wp_ldc {idx : Nat} {v : Int32} (w : Cond.constant (mN M).cls idx v ∈ gtb) (d : decode (mC M) pc = .ok (.ldc idx, 2)) (k : WPx E M (pc + 2) lo (.int v :: st) r h Q) : WPx E M pc lo st r h Q := by
  intro b D cA p l e s m args below meth c H locs cells slots ls C hL hH hS hc hs
  exact lv_ldc C.1 C.2.1 C.2.2.2.2.1 (C.2.2.2.2.2.1 _ w) d (k C hL hH hS hc hs)
theorem wp_ldc_w {idx : Nat} {v : Int32} (w : Cond.constant (mN M).cls idx v ∈ gtb) (d : decode (mC M) pc = .ok (.ldc_w idx, 3)) (k : WPx E M (pc + 3) lo (.int v :: st) r h Q) : WPx E M pc lo st r h Q := by
  intro b D cA p l e s m args below meth c H locs cells slots ls C hL hH hS hc hs
  exact lv_ldcw C.1 C.2.1 C.2.2.2.2.1 (C.2.2.2.2.2.1 _ w) d (k C hL hH hS hc hs)
theorem wp_ldc2_w {idx : Nat} {v : Int64} (w : Cond.constantLong (mN M).cls idx v ∈ gtb) (d : decode (mC M) pc = .ok (.ldc2_w idx, 3)) (k : WPx E M (pc + 3) lo (.long v :: st) r h Q) : WPx E M pc lo st r h Q := by
  intro b D cA p l e s m args below meth c H locs cells slots ls C hL hH hS hc hs
  exact lv_ldc2 C.1 C.2.1 C.2.2.2.2.1 (C.2.2.2.2.2.1 _ w) d (k C hL hH hS hc hs)
theorem wp_iload {i : Nat} {x : Int32} (d : decode (mC M) pc = .ok (.iload i, 2)) (hl : lo[i]? = some (some (.int x))) (k : WPx E M (pc + 2) lo (.int x :: st) r h Q) : WPx E M pc lo st r h Q := by
  intro b D cA p l e s m args below meth c H locs cells slots ls C hL hH hS hc hs
  exact lv_iload C.1 C.2.1 d (hL.2.2 i _ hl) (k C hL hH hS hc hs)
theorem wp_iload_n {j : Fin 4} {x : Int32} (d : decode (mC M) pc = .ok (.iload_n j, 1)) (hl : lo[(j : Nat)]? = some (some (.int x))) (k : WPx E M (pc + 1) lo (.int x :: st) r h Q) : WPx E M pc lo st r h Q := by
  intro b D cA p l e s m args below meth c H locs cells slots ls C hL hH hS hc hs
  exact lv_iload_n C.1 C.2.1 d rfl (hL.2.2 _ _ hl) (k C hL hH hS hc hs)
theorem wp_lload {i : Nat} {x : Int64} (d : decode (mC M) pc = .ok (.lload i, 2)) (hl : lo[i]? = some (some (.long x))) (k : WPx E M (pc + 2) lo (.long x :: st) r h Q) : WPx E M pc lo st r h Q := by
  intro b D cA p l e s m args below meth c H locs cells slots ls C hL hH hS hc hs
  exact lv_lload C.1 C.2.1 d (hL.2.2 i _ hl) (k C hL hH hS hc hs)
theorem wp_lload_n {j : Fin 4} {x : Int64} (d : decode (mC M) pc = .ok (.lload_n j, 1)) (hl : lo[(j : Nat)]? = some (some (.long x))) (k : WPx E M (pc + 1) lo (.long x :: st) r h Q) : WPx E M pc lo st r h Q := by
  intro b D cA p l e s m args below meth c H locs cells slots ls C hL hH hS hc hs
  exact lv_lload_n C.1 C.2.1 d rfl (hL.2.2 _ _ hl) (k C hL hH hS hc hs)
theorem wp_aload {i : Nat} {x : Nat} (d : decode (mC M) pc = .ok (.aload i, 2)) (hl : lo[i]? = some (some (.ref x))) (k : WPx E M (pc + 2) lo (.ref x :: st) r h Q) : WPx E M pc lo st r h Q := by
  intro b D cA p l e s m args below meth c H locs cells slots ls C hL hH hS hc hs
  exact lv_aload C.1 C.2.1 d (hL.2.2 i _ hl) (k C hL hH hS hc hs)
theorem wp_aload_n {j : Fin 4} {x : Nat} (d : decode (mC M) pc = .ok (.aload_n j, 1)) (hl : lo[(j : Nat)]? = some (some (.ref x))) (k : WPx E M (pc + 1) lo (.ref x :: st) r h Q) : WPx E M pc lo st r h Q := by
  intro b D cA p l e s m args below meth c H locs cells slots ls C hL hH hS hc hs
  exact lv_aload_n C.1 C.2.1 d rfl (hL.2.2 _ _ hl) (k C hL hH hS hc hs)
theorem wp_aloadN {i : Nat} (d : decode (mC M) pc = .ok (.aload i, 2)) (hl : lo[i]? = some (some .null)) (k : WPx E M (pc + 2) lo (.null :: st) r h Q) : WPx E M pc lo st r h Q := by
  intro b D cA p l e s m args below meth c H locs cells slots ls C hL hH hS hc hs
  exact lv_aloadN C.1 C.2.1 d (hL.2.2 i _ hl) (k C hL hH hS hc hs)
theorem wp_aload_nN {j : Fin 4} (d : decode (mC M) pc = .ok (.aload_n j, 1)) (hl : lo[(j : Nat)]? = some (some .null)) (k : WPx E M (pc + 1) lo (.null :: st) r h Q) : WPx E M pc lo st r h Q := by
  intro b D cA p l e s m args below meth c H locs cells slots ls C hL hH hS hc hs
  exact lv_aload_nN C.1 C.2.1 d rfl (hL.2.2 _ _ hl) (k C hL hH hS hc hs)
theorem wp_istore {i : Nat} {x : Int32} (d : decode (mC M) pc = .ok (.istore i, 2)) (hi : i < lo.length) (hn : i < mL M) (hc1 : ∀ x, 1 ≤ i → lo[i - 1]? = some x → c1 x = true) (k : WPx E M (pc + 2) (lo.set i (some (.int x))) st r h Q) : WPx E M pc lo (.int x :: st) r h Q := by
  intro b D cA p l e s m args below meth c H locs cells slots ls C hL hH hS hc hs
  exact lv_istore C.1 C.2.1 d hL.has hn rfl (fun ls1 h1 => k C (LR.st hi hc1 h1) hH hS hc hs)
theorem wp_istore_n {j : Fin 4} {x : Int32} (d : decode (mC M) pc = .ok (.istore_n j, 1)) (hi : (j : Nat) < lo.length) (hn : (j : Nat) < mL M) (hc1 : ∀ x, 1 ≤ (j : Nat) → lo[(j : Nat) - 1]? = some x → c1 x = true) (k : WPx E M (pc + 1) (lo.set (j : Nat) (some (.int x))) st r h Q) : WPx E M pc lo (.int x :: st) r h Q := by
  intro b D cA p l e s m args below meth c H locs cells slots ls C hL hH hS hc hs
  exact lv_istore_n C.1 C.2.1 d rfl hL.has hn rfl (fun ls1 h1 => k C (LR.st hi hc1 h1) hH hS hc hs)
theorem wp_astore {i : Nat} {x : Nat} (d : decode (mC M) pc = .ok (.astore i, 2)) (hi : i < lo.length) (hn : i < mL M) (hc1 : ∀ x, 1 ≤ i → lo[i - 1]? = some x → c1 x = true) (k : WPx E M (pc + 2) (lo.set i (some (.ref x))) st r h Q) : WPx E M pc lo (.ref x :: st) r h Q := by
  intro b D cA p l e s m args below meth c H locs cells slots ls C hL hH hS hc hs
  exact lv_astore C.1 C.2.1 d hL.has hn rfl (fun ls1 h1 => k C (LR.st hi hc1 h1) hH hS hc hs)
theorem wp_astore_n {j : Fin 4} {x : Nat} (d : decode (mC M) pc = .ok (.astore_n j, 1)) (hi : (j : Nat) < lo.length) (hn : (j : Nat) < mL M) (hc1 : ∀ x, 1 ≤ (j : Nat) → lo[(j : Nat) - 1]? = some x → c1 x = true) (k : WPx E M (pc + 1) (lo.set (j : Nat) (some (.ref x))) st r h Q) : WPx E M pc lo (.ref x :: st) r h Q := by
  intro b D cA p l e s m args below meth c H locs cells slots ls C hL hH hS hc hs
  exact lv_astore_n C.1 C.2.1 d rfl hL.has hn rfl (fun ls1 h1 => k C (LR.st hi hc1 h1) hH hS hc hs)
theorem wp_astoreN {i : Nat} (d : decode (mC M) pc = .ok (.astore i, 2)) (hi : i < lo.length) (hn : i < mL M) (hc1 : ∀ x, 1 ≤ i → lo[i - 1]? = some x → c1 x = true) (k : WPx E M (pc + 2) (lo.set i (some .null)) st r h Q) : WPx E M pc lo (.null :: st) r h Q := by
  intro b D cA p l e s m args below meth c H locs cells slots ls C hL hH hS hc hs
  exact lv_astoreN C.1 C.2.1 d hL.has hn rfl (fun ls1 h1 => k C (LR.st hi hc1 h1) hH hS hc hs)
theorem wp_astore_nN {j : Fin 4} (d : decode (mC M) pc = .ok (.astore_n j, 1)) (hi : (j : Nat) < lo.length) (hn : (j : Nat) < mL M) (hc1 : ∀ x, 1 ≤ (j : Nat) → lo[(j : Nat) - 1]? = some x → c1 x = true) (k : WPx E M (pc + 1) (lo.set (j : Nat) (some .null)) st r h Q) : WPx E M pc lo (.null :: st) r h Q := by
  intro b D cA p l e s m args below meth c H locs cells slots ls C hL hH hS hc hs
  exact lv_astore_nN C.1 C.2.1 d rfl hL.has hn rfl (fun ls1 h1 => k C (LR.st hi hc1 h1) hH hS hc hs)
theorem wp_lstore {i : Nat} {x : Int64} (d : decode (mC M) pc = .ok (.lstore i, 2)) (hi : i + 1 < lo.length) (hn : i + 1 < mL M) (hc1 : ∀ x, 1 ≤ i → lo[i - 1]? = some x → c1 x = true) (k : WPx E M (pc + 2) ((lo.set i (some (.long x))).set (i + 1) none) st r h Q) : WPx E M pc lo (.long x :: st) r h Q := by
  intro b D cA p l e s m args below meth c H locs cells slots ls C hL hH hS hc hs
  exact lv_lstore C.1 C.2.1 d hL.has hn rfl (fun ls1 h1 => k C (LR.st2 hi hc1 h1) hH hS hc hs)
theorem wp_lstore_n {j : Fin 4} {x : Int64} (d : decode (mC M) pc = .ok (.lstore_n j, 1)) (hi : (j : Nat) + 1 < lo.length) (hn : (j : Nat) + 1 < mL M) (hc1 : ∀ x, 1 ≤ (j : Nat) → lo[(j : Nat) - 1]? = some x → c1 x = true) (k : WPx E M (pc + 1) ((lo.set (j : Nat) (some (.long x))).set ((j : Nat) + 1) none) st r h Q) : WPx E M pc lo (.long x :: st) r h Q := by
  intro b D cA p l e s m args below meth c H locs cells slots ls C hL hH hS hc hs
  exact lv_lstore_n C.1 C.2.1 d rfl hL.has hn rfl (fun ls1 h1 => k C (LR.st2 hi hc1 h1) hH hS hc hs)
theorem wp_iinc {i : Nat} {n : Int} {x v : Int32} (d : decode (mC M) pc = .ok (.iinc i n, 3)) (hl : lo[i]? = some (some (.int x))) (hv : x + Int32.ofInt n = v) (hn : i < mL M) (k : WPx E M (pc + 3) (lo.set i (some (.int v))) st r h Q) : WPx E M pc lo st r h Q := by
  intro b D cA p l e s m args below meth c H locs cells slots ls C hL hH hS hc hs
  have hi : i < lo.length := (List.getElem?_eq_some_iff.mp hl).1
  obtain ⟨k0, hk0⟩ := List.getElem?_of_mem (show (i, Value.int x) ∈ la 0 lo by have := la_mem lo 0 i hl; rwa [Nat.zero_add] at this)
  refine lv_iinc C.1 C.2.1 d hL.has hk0 hv hn rfl (fun ls1 h1 => k C (LR.st hi (fun x1 h2 h3 => ?_) h1) hH hS hc hs)
  cases x1 with
  | none => rfl
  | some w =>
    rcases lv_cat w with hw | hw
    · simp [c1, hw]
    · have h4 := hL.2.1.1 (i - 1) w (hL.2.2 _ _ h3) hw
      rw [show i - 1 + 1 = i by omega, hL.2.2 i _ hl] at h4
      cases h4
theorem wp_iadd {x y : Int32} (d : decode (mC M) pc = .ok (.iadd, 1))  (k : WPx E M (pc + 1) lo (.int (x + y) :: st) r h Q) : WPx E M pc lo (.int y :: .int x :: st) r h Q := by
  intro b D cA p l e s m args below meth c H locs cells slots ls C hL hH hS hc hs
  exact lv_iadd C.1 C.2.1 d  (k C hL hH hS hc hs)
theorem wp_isub {x y : Int32} (d : decode (mC M) pc = .ok (.isub, 1))  (k : WPx E M (pc + 1) lo (.int (x - y) :: st) r h Q) : WPx E M pc lo (.int y :: .int x :: st) r h Q := by
  intro b D cA p l e s m args below meth c H locs cells slots ls C hL hH hS hc hs
  exact lv_isub C.1 C.2.1 d  (k C hL hH hS hc hs)
theorem wp_imul {x y : Int32} (d : decode (mC M) pc = .ok (.imul, 1))  (k : WPx E M (pc + 1) lo (.int (x * y) :: st) r h Q) : WPx E M pc lo (.int y :: .int x :: st) r h Q := by
  intro b D cA p l e s m args below meth c H locs cells slots ls C hL hH hS hc hs
  exact lv_imul C.1 C.2.1 d  (k C hL hH hS hc hs)
theorem wp_iand {x y : Int32} (d : decode (mC M) pc = .ok (.iand, 1))  (k : WPx E M (pc + 1) lo (.int (x &&& y) :: st) r h Q) : WPx E M pc lo (.int y :: .int x :: st) r h Q := by
  intro b D cA p l e s m args below meth c H locs cells slots ls C hL hH hS hc hs
  exact lv_iand C.1 C.2.1 d  (k C hL hH hS hc hs)
theorem wp_ior {x y : Int32} (d : decode (mC M) pc = .ok (.ior, 1))  (k : WPx E M (pc + 1) lo (.int (x ||| y) :: st) r h Q) : WPx E M pc lo (.int y :: .int x :: st) r h Q := by
  intro b D cA p l e s m args below meth c H locs cells slots ls C hL hH hS hc hs
  exact lv_ior C.1 C.2.1 d  (k C hL hH hS hc hs)
theorem wp_ixor {x y : Int32} (d : decode (mC M) pc = .ok (.ixor, 1))  (k : WPx E M (pc + 1) lo (.int (x ^^^ y) :: st) r h Q) : WPx E M pc lo (.int y :: .int x :: st) r h Q := by
  intro b D cA p l e s m args below meth c H locs cells slots ls C hL hH hS hc hs
  exact lv_ixor C.1 C.2.1 d  (k C hL hH hS hc hs)
theorem wp_ishl {x y : Int32} (d : decode (mC M) pc = .ok (.ishl, 1))  (k : WPx E M (pc + 1) lo (.int (x <<< (y &&& 31)) :: st) r h Q) : WPx E M pc lo (.int y :: .int x :: st) r h Q := by
  intro b D cA p l e s m args below meth c H locs cells slots ls C hL hH hS hc hs
  exact lv_ishl C.1 C.2.1 d  (k C hL hH hS hc hs)
theorem wp_ishr {x y : Int32} (d : decode (mC M) pc = .ok (.ishr, 1))  (k : WPx E M (pc + 1) lo (.int (x >>> (y &&& 31)) :: st) r h Q) : WPx E M pc lo (.int y :: .int x :: st) r h Q := by
  intro b D cA p l e s m args below meth c H locs cells slots ls C hL hH hS hc hs
  exact lv_ishr C.1 C.2.1 d  (k C hL hH hS hc hs)
theorem wp_idiv {x y : Int32} (d : decode (mC M) pc = .ok (.idiv, 1)) (hne : ¬ y = 0) (k : WPx E M (pc + 1) lo (.int (x / y) :: st) r h Q) : WPx E M pc lo (.int y :: .int x :: st) r h Q := by
  intro b D cA p l e s m args below meth c H locs cells slots ls C hL hH hS hc hs
  exact lv_idiv C.1 C.2.1 d hne (k C hL hH hS hc hs)
theorem wp_irem {x y : Int32} (d : decode (mC M) pc = .ok (.irem, 1)) (hne : ¬ y = 0) (k : WPx E M (pc + 1) lo (.int (x - x / y * y) :: st) r h Q) : WPx E M pc lo (.int y :: .int x :: st) r h Q := by
  intro b D cA p l e s m args below meth c H locs cells slots ls C hL hH hS hc hs
  exact lv_irem C.1 C.2.1 d hne (k C hL hH hS hc hs)
theorem wp_ineg {x : Int32} (d : decode (mC M) pc = .ok (.ineg, 1))  (k : WPx E M (pc + 1) lo (.int (-x) :: st) r h Q) : WPx E M pc lo (.int x :: st) r h Q := by
  intro b D cA p l e s m args below meth c H locs cells slots ls C hL hH hS hc hs
  exact lv_ineg C.1 C.2.1 d  (k C hL hH hS hc hs)
theorem wp_iushr {x y v : Int32} (d : decode (mC M) pc = .ok (.iushr, 1)) (hv : (x.toUInt32 >>> (y.toUInt32 &&& Int32.toUInt32 31)).toInt32 = v) (k : WPx E M (pc + 1) lo (.int v :: st) r h Q) : WPx E M pc lo (.int y :: .int x :: st) r h Q := by
  intro b D cA p l e s m args below meth c H locs cells slots ls C hL hH hS hc hs
  exact lv_iushr C.1 C.2.1 d hv (k C hL hH hS hc hs)
theorem wp_ladd {x y : Int64} (d : decode (mC M) pc = .ok (.ladd, 1))  (k : WPx E M (pc + 1) lo (.long (x + y) :: st) r h Q) : WPx E M pc lo (.long y :: .long x :: st) r h Q := by
  intro b D cA p l e s m args below meth c H locs cells slots ls C hL hH hS hc hs
  exact lv_ladd C.1 C.2.1 d  (k C hL hH hS hc hs)
theorem wp_lsub {x y : Int64} (d : decode (mC M) pc = .ok (.lsub, 1))  (k : WPx E M (pc + 1) lo (.long (x - y) :: st) r h Q) : WPx E M pc lo (.long y :: .long x :: st) r h Q := by
  intro b D cA p l e s m args below meth c H locs cells slots ls C hL hH hS hc hs
  exact lv_lsub C.1 C.2.1 d  (k C hL hH hS hc hs)
theorem wp_lmul {x y : Int64} (d : decode (mC M) pc = .ok (.lmul, 1))  (k : WPx E M (pc + 1) lo (.long (x * y) :: st) r h Q) : WPx E M pc lo (.long y :: .long x :: st) r h Q := by
  intro b D cA p l e s m args below meth c H locs cells slots ls C hL hH hS hc hs
  exact lv_lmul C.1 C.2.1 d  (k C hL hH hS hc hs)
theorem wp_land {x y : Int64} (d : decode (mC M) pc = .ok (.land, 1))  (k : WPx E M (pc + 1) lo (.long (x &&& y) :: st) r h Q) : WPx E M pc lo (.long y :: .long x :: st) r h Q := by
  intro b D cA p l e s m args below meth c H locs cells slots ls C hL hH hS hc hs
  exact lv_land C.1 C.2.1 d  (k C hL hH hS hc hs)
theorem wp_lor {x y : Int64} (d : decode (mC M) pc = .ok (.lor, 1))  (k : WPx E M (pc + 1) lo (.long (x ||| y) :: st) r h Q) : WPx E M pc lo (.long y :: .long x :: st) r h Q := by
  intro b D cA p l e s m args below meth c H locs cells slots ls C hL hH hS hc hs
  exact lv_lor C.1 C.2.1 d  (k C hL hH hS hc hs)
theorem wp_ldiv {x y : Int64} (d : decode (mC M) pc = .ok (.ldiv, 1)) (hne : ¬ y = 0) (k : WPx E M (pc + 1) lo (.long (x / y) :: st) r h Q) : WPx E M pc lo (.long y :: .long x :: st) r h Q := by
  intro b D cA p l e s m args below meth c H locs cells slots ls C hL hH hS hc hs
  exact lv_ldiv C.1 C.2.1 d hne (k C hL hH hS hc hs)
theorem wp_lrem {x y : Int64} (d : decode (mC M) pc = .ok (.lrem, 1)) (hne : ¬ y = 0) (k : WPx E M (pc + 1) lo (.long (x - x / y * y) :: st) r h Q) : WPx E M pc lo (.long y :: .long x :: st) r h Q := by
  intro b D cA p l e s m args below meth c H locs cells slots ls C hL hH hS hc hs
  exact lv_lrem C.1 C.2.1 d hne (k C hL hH hS hc hs)
theorem wp_lneg {x : Int64} (d : decode (mC M) pc = .ok (.lneg, 1))  (k : WPx E M (pc + 1) lo (.long (-x) :: st) r h Q) : WPx E M pc lo (.long x :: st) r h Q := by
  intro b D cA p l e s m args below meth c H locs cells slots ls C hL hH hS hc hs
  exact lv_lneg C.1 C.2.1 d  (k C hL hH hS hc hs)
theorem wp_lshl {x : Int64} {y : Int32} (d : decode (mC M) pc = .ok (.lshl, 1))  (k : WPx E M (pc + 1) lo (.long (x <<< (y.toInt64 &&& 63)) :: st) r h Q) : WPx E M pc lo (.int y :: .long x :: st) r h Q := by
  intro b D cA p l e s m args below meth c H locs cells slots ls C hL hH hS hc hs
  exact lv_lshl C.1 C.2.1 d rfl (k C hL hH hS hc hs)
theorem wp_lushr {x : Int64} {y : Int32} (d : decode (mC M) pc = .ok (.lushr, 1))  (k : WPx E M (pc + 1) lo (.long ((x.toUInt64 >>> (y.toInt64.toUInt64 &&& Int64.toUInt64 63)).toInt64) :: st) r h Q) : WPx E M pc lo (.int y :: .long x :: st) r h Q := by
  intro b D cA p l e s m args below meth c H locs cells slots ls C hL hH hS hc hs
  exact lv_lushr C.1 C.2.1 d rfl (k C hL hH hS hc hs)
theorem wp_i2l {x : Int32} (d : decode (mC M) pc = .ok (.i2l, 1))  (k : WPx E M (pc + 1) lo (.long x.toInt64 :: st) r h Q) : WPx E M pc lo (.int x :: st) r h Q := by
  intro b D cA p l e s m args below meth c H locs cells slots ls C hL hH hS hc hs
  exact lv_i2l C.1 C.2.1 d rfl (k C hL hH hS hc hs)
theorem wp_l2i {x : Int64} (d : decode (mC M) pc = .ok (.l2i, 1))  (k : WPx E M (pc + 1) lo (.int x.toInt32 :: st) r h Q) : WPx E M pc lo (.long x :: st) r h Q := by
  intro b D cA p l e s m args below meth c H locs cells slots ls C hL hH hS hc hs
  exact lv_l2i C.1 C.2.1 d rfl (k C hL hH hS hc hs)
theorem wp_lcmp {x y : Int64} (d : decode (mC M) pc = .ok (.lcmp, 1))  (k : WPx E M (pc + 1) lo (.int (lg_cmp x y) :: st) r h Q) : WPx E M pc lo (.long y :: .long x :: st) r h Q := by
  intro b D cA p l e s m args below meth c H locs cells slots ls C hL hH hS hc hs
  exact W.lcmp C.1 C.2.1 d  (k C hL hH hS hc hs)
theorem wp_dup {v : Value} (d : decode (mC M) pc = .ok (.dup, 1)) (hv : v.category = 1) (k : WPx E M (pc + 1) lo (v :: v :: st) r h Q) : WPx E M pc lo (v :: st) r h Q := by
  intro b D cA p l e s m args below meth c H locs cells slots ls C hL hH hS hc hs
  exact lv_dup C.1 C.2.1 d hv (k C hL hH hS hc hs)
theorem wp_dup2 {v w : Value} (d : decode (mC M) pc = .ok (.dup2, 1)) (hv : v.category = 1) (hw : w.category = 1) (k : WPx E M (pc + 1) lo (v :: w :: v :: w :: st) r h Q) : WPx E M pc lo (v :: w :: st) r h Q := by
  intro b D cA p l e s m args below meth c H locs cells slots ls C hL hH hS hc hs
  exact lv_dup2_11 C.1 C.2.1 d hv hw (k C hL hH hS hc hs)
theorem wp_dup_x1 {v w : Value} (d : decode (mC M) pc = .ok (.dup_x1, 1)) (hv : v.category = 1) (hw : w.category = 1) (k : WPx E M (pc + 1) lo (v :: w :: v :: st) r h Q) : WPx E M pc lo (v :: w :: st) r h Q := by
  intro b D cA p l e s m args below meth c H locs cells slots ls C hL hH hS hc hs
  exact lv_dup_x1 C.1 C.2.1 d hv hw (k C hL hH hS hc hs)
theorem wp_dup_x2 {v w z : Value} (d : decode (mC M) pc = .ok (.dup_x2, 1)) (hv : v.category = 1) (hw : w.category = 1) (hz : z.category = 1) (k : WPx E M (pc + 1) lo (v :: w :: z :: v :: st) r h Q) : WPx E M pc lo (v :: w :: z :: st) r h Q := by
  intro b D cA p l e s m args below meth c H locs cells slots ls C hL hH hS hc hs
  exact lv_dup_x2 C.1 C.2.1 d hv hw hz (k C hL hH hS hc hs)
theorem wp_pop {v : Value} (d : decode (mC M) pc = .ok (.pop, 1)) (hv : v.category = 1) (k : WPx E M (pc + 1) lo (st) r h Q) : WPx E M pc lo (v :: st) r h Q := by
  intro b D cA p l e s m args below meth c H locs cells slots ls C hL hH hS hc hs
  exact lv_pop C.1 C.2.1 d hv (k C hL hH hS hc hs)
theorem wp_goto {off : Int} {tgt : Nat} (d : decode (mC M) pc = .ok (.goto off, 3)) (ht : (pc : Int) + off = (tgt : Int)) (k : WPx E M tgt lo st r h Q) : WPx E M pc lo st r h Q := by
  intro b D cA p l e s m args below meth c H locs cells slots ls C hL hH hS hc hs
  exact lv_goto C.1 C.2.1 d ht (k C hL hH hS hc hs)
theorem wp_if_eq {x : Int32} {off : Int} {tgt : Nat} (d : decode (mC M) pc = .ok (.ifCond .eq off, 3)) (ht : (pc : Int) + off = (tgt : Int)) (kt : x = 0 → WPx E M tgt lo st r h Q) (kf : ¬ (x = 0) → WPx E M (pc + 3) lo st r h Q) : WPx E M pc lo (.int x :: st) r h Q := by
  intro b D cA p l e s m args below meth c H locs cells slots ls C hL hH hS hc hs
  exact lv_if_eq C.1 C.2.1 d ht (fun q => kt q C hL hH hS hc hs) (fun q => kf q C hL hH hS hc hs)
theorem wp_if_ne {x : Int32} {off : Int} {tgt : Nat} (d : decode (mC M) pc = .ok (.ifCond .ne off, 3)) (ht : (pc : Int) + off = (tgt : Int)) (kt : ¬ x = 0 → WPx E M tgt lo st r h Q) (kf : x = 0 → WPx E M (pc + 3) lo st r h Q) : WPx E M pc lo (.int x :: st) r h Q := by
  intro b D cA p l e s m args below meth c H locs cells slots ls C hL hH hS hc hs
  exact lv_if_ne C.1 C.2.1 d ht (fun q => kt q C hL hH hS hc hs) (fun q => kf q C hL hH hS hc hs)
theorem wp_if_lt {x : Int32} {off : Int} {tgt : Nat} (d : decode (mC M) pc = .ok (.ifCond .lt off, 3)) (ht : (pc : Int) + off = (tgt : Int)) (kt : x < 0 → WPx E M tgt lo st r h Q) (kf : ¬ (x < 0) → WPx E M (pc + 3) lo st r h Q) : WPx E M pc lo (.int x :: st) r h Q := by
  intro b D cA p l e s m args below meth c H locs cells slots ls C hL hH hS hc hs
  exact lv_if_lt C.1 C.2.1 d ht (fun q => kt q C hL hH hS hc hs) (fun q => kf q C hL hH hS hc hs)
theorem wp_if_ge {x : Int32} {off : Int} {tgt : Nat} (d : decode (mC M) pc = .ok (.ifCond .ge off, 3)) (ht : (pc : Int) + off = (tgt : Int)) (kt : 0 ≤ x → WPx E M tgt lo st r h Q) (kf : ¬ (0 ≤ x) → WPx E M (pc + 3) lo st r h Q) : WPx E M pc lo (.int x :: st) r h Q := by
  intro b D cA p l e s m args below meth c H locs cells slots ls C hL hH hS hc hs
  exact lv_if_ge C.1 C.2.1 d ht (fun q => kt q C hL hH hS hc hs) (fun q => kf q C hL hH hS hc hs)
theorem wp_if_gt {x : Int32} {off : Int} {tgt : Nat} (d : decode (mC M) pc = .ok (.ifCond .gt off, 3)) (ht : (pc : Int) + off = (tgt : Int)) (kt : 0 < x → WPx E M tgt lo st r h Q) (kf : ¬ (0 < x) → WPx E M (pc + 3) lo st r h Q) : WPx E M pc lo (.int x :: st) r h Q := by
  intro b D cA p l e s m args below meth c H locs cells slots ls C hL hH hS hc hs
  exact lv_if_gt C.1 C.2.1 d ht (fun q => kt q C hL hH hS hc hs) (fun q => kf q C hL hH hS hc hs)
theorem wp_if_le {x : Int32} {off : Int} {tgt : Nat} (d : decode (mC M) pc = .ok (.ifCond .le off, 3)) (ht : (pc : Int) + off = (tgt : Int)) (kt : x ≤ 0 → WPx E M tgt lo st r h Q) (kf : ¬ (x ≤ 0) → WPx E M (pc + 3) lo st r h Q) : WPx E M pc lo (.int x :: st) r h Q := by
  intro b D cA p l e s m args below meth c H locs cells slots ls C hL hH hS hc hs
  exact lv_if_le C.1 C.2.1 d ht (fun q => kt q C hL hH hS hc hs) (fun q => kf q C hL hH hS hc hs)
theorem wp_icmp_eq {x y : Int32} {off : Int} {tgt : Nat} (d : decode (mC M) pc = .ok (.if_icmp .eq off, 3)) (ht : (pc : Int) + off = (tgt : Int)) (kt : x = y → WPx E M tgt lo st r h Q) (kf : ¬ (x = y) → WPx E M (pc + 3) lo st r h Q) : WPx E M pc lo (.int y :: .int x :: st) r h Q := by
  intro b D cA p l e s m args below meth c H locs cells slots ls C hL hH hS hc hs
  exact lv_icmp_eq C.1 C.2.1 d ht (fun q => kt q C hL hH hS hc hs) (fun q => kf q C hL hH hS hc hs)
theorem wp_icmp_ne {x y : Int32} {off : Int} {tgt : Nat} (d : decode (mC M) pc = .ok (.if_icmp .ne off, 3)) (ht : (pc : Int) + off = (tgt : Int)) (kt : ¬ x = y → WPx E M tgt lo st r h Q) (kf : x = y → WPx E M (pc + 3) lo st r h Q) : WPx E M pc lo (.int y :: .int x :: st) r h Q := by
  intro b D cA p l e s m args below meth c H locs cells slots ls C hL hH hS hc hs
  exact lv_icmp_ne C.1 C.2.1 d ht (fun q => kt q C hL hH hS hc hs) (fun q => kf q C hL hH hS hc hs)
theorem wp_icmp_lt {x y : Int32} {off : Int} {tgt : Nat} (d : decode (mC M) pc = .ok (.if_icmp .lt off, 3)) (ht : (pc : Int) + off = (tgt : Int)) (kt : x < y → WPx E M tgt lo st r h Q) (kf : ¬ (x < y) → WPx E M (pc + 3) lo st r h Q) : WPx E M pc lo (.int y :: .int x :: st) r h Q := by
  intro b D cA p l e s m args below meth c H locs cells slots ls C hL hH hS hc hs
  exact lv_icmp_lt C.1 C.2.1 d ht (fun q => kt q C hL hH hS hc hs) (fun q => kf q C hL hH hS hc hs)
theorem wp_icmp_ge {x y : Int32} {off : Int} {tgt : Nat} (d : decode (mC M) pc = .ok (.if_icmp .ge off, 3)) (ht : (pc : Int) + off = (tgt : Int)) (kt : y ≤ x → WPx E M tgt lo st r h Q) (kf : ¬ (y ≤ x) → WPx E M (pc + 3) lo st r h Q) : WPx E M pc lo (.int y :: .int x :: st) r h Q := by
  intro b D cA p l e s m args below meth c H locs cells slots ls C hL hH hS hc hs
  exact lv_icmp_ge C.1 C.2.1 d ht (fun q => kt q C hL hH hS hc hs) (fun q => kf q C hL hH hS hc hs)
theorem wp_icmp_gt {x y : Int32} {off : Int} {tgt : Nat} (d : decode (mC M) pc = .ok (.if_icmp .gt off, 3)) (ht : (pc : Int) + off = (tgt : Int)) (kt : y < x → WPx E M tgt lo st r h Q) (kf : ¬ (y < x) → WPx E M (pc + 3) lo st r h Q) : WPx E M pc lo (.int y :: .int x :: st) r h Q := by
  intro b D cA p l e s m args below meth c H locs cells slots ls C hL hH hS hc hs
  exact lv_icmp_gt C.1 C.2.1 d ht (fun q => kt q C hL hH hS hc hs) (fun q => kf q C hL hH hS hc hs)
theorem wp_icmp_le {x y : Int32} {off : Int} {tgt : Nat} (d : decode (mC M) pc = .ok (.if_icmp .le off, 3)) (ht : (pc : Int) + off = (tgt : Int)) (kt : x ≤ y → WPx E M tgt lo st r h Q) (kf : ¬ (x ≤ y) → WPx E M (pc + 3) lo st r h Q) : WPx E M pc lo (.int y :: .int x :: st) r h Q := by
  intro b D cA p l e s m args below meth c H locs cells slots ls C hL hH hS hc hs
  exact lv_icmp_le C.1 C.2.1 d ht (fun q => kt q C hL hH hS hc hs) (fun q => kf q C hL hH hS hc hs)
theorem wp_ifnonnull {x : Nat} {off : Int} {tgt : Nat} (d : decode (mC M) pc = .ok (.ifnonnull off, 3)) (ht : (pc : Int) + off = (tgt : Int)) (k : WPx E M tgt lo st r h Q) : WPx E M pc lo (.ref x :: st) r h Q := by
  intro b D cA p l e s m args below meth c H locs cells slots ls C hL hH hS hc hs
  exact lv_ifnonnull C.1 C.2.1 d ht (k C hL hH hS hc hs)
theorem wp_ifnonnullN {off : Int} (d : decode (mC M) pc = .ok (.ifnonnull off, 3)) (k : WPx E M (pc + 3) lo st r h Q) : WPx E M pc lo (.null :: st) r h Q := by
  intro b D cA p l e s m args below meth c H locs cells slots ls C hL hH hS hc hs
  exact lv_ifnonnullN C.1 C.2.1 d (k C hL hH hS hc hs)
theorem wp_ifnull {x : Nat} {off : Int} (d : decode (mC M) pc = .ok (.ifnull off, 3)) (k : WPx E M (pc + 3) lo st r h Q) : WPx E M pc lo (.ref x :: st) r h Q := by
  intro b D cA p l e s m args below meth c H locs cells slots ls C hL hH hS hc hs
  exact lv_ifnull C.1 C.2.1 d (k C hL hH hS hc hs)
theorem wp_ifnullN {off : Int} {tgt : Nat} (d : decode (mC M) pc = .ok (.ifnull off, 3)) (ht : (pc : Int) + off = (tgt : Int)) (k : WPx E M tgt lo st r h Q) : WPx E M pc lo (.null :: st) r h Q := by
  intro b D cA p l e s m args below meth c H locs cells slots ls C hL hH hS hc hs
  exact lv_ifnullN C.1 C.2.1 d ht (k C hL hH hS hc hs)
theorem wp_tableIn {dflt lo1 hi1 : Int} {offs : Array Int} {len : Nat} {x : Int32} {off : Int} {tgt : Nat} (d : decode (mC M) pc = .ok (.tableswitch dflt lo1 hi1 offs, len)) (h1 : ¬ x.toInt < lo1) (h2 : ¬ hi1 < x.toInt) (ho : offs[(x.toInt - lo1).toNat]? = some off) (ht : (pc : Int) + off = (tgt : Int)) (k : WPx E M tgt lo st r h Q) : WPx E M pc lo (.int x :: st) r h Q := by
  intro b D cA p l e s m args below meth c H locs cells slots ls C hL hH hS hc hs
  exact lv_tableIn C.1 C.2.1 d h1 h2 ho ht (k C hL hH hS hc hs)
theorem wp_tableOut {dflt lo1 hi1 : Int} {offs : Array Int} {len : Nat} {x : Int32} {tgt : Nat} (d : decode (mC M) pc = .ok (.tableswitch dflt lo1 hi1 offs, len)) (h1 : x.toInt < lo1 ∨ hi1 < x.toInt) (ht : (pc : Int) + dflt = (tgt : Int)) (k : WPx E M tgt lo st r h Q) : WPx E M pc lo (.int x :: st) r h Q := by
  intro b D cA p l e s m args below meth c H locs cells slots ls C hL hH hS hc hs
  exact lv_tableOut C.1 C.2.1 d h1 ht (k C hL hH hS hc hs)
theorem wp_topi {x : Int32} (k : ∀ y : Int32, y = x → WPx E M pc lo (.int y :: st) r h Q) : WPx E M pc lo (.int x :: st) r h Q := k x rfl
theorem wp_ireturn {x : Int32} (ht : mT M = some .int) (d : decode (mC M) pc = .ok (.ireturn, 1)) (k : Q (.inl (some (.int x))) h) : WPx E M pc lo [.int x] r h Q := by
  intro b D cA p l e s m args below meth c H locs cells slots ls C hL hH hS hc hs
  refine vx_ret (W.widen (k := (mG M).2.2.1) (n := (mG M).2.2.2) (by omega) (by omega) ?_)
  exact W.iret C.1 C.2.1 (C.2.2.1.trans ht) (fun t hT hW => ⟨⟨_, h, rfl, k, by rw [hT]; exact hH⟩, hS.F hT⟩) hS.2.2 d C.2.2.2.2.2.2.1
theorem wp_zreturn {x : Int32} (ht : mT M = some .boolean) (hx : x = 0 ∨ x = 1) (d : decode (mC M) pc = .ok (.ireturn, 1)) (k : Q (.inl (some (.int x))) h) : WPx E M pc lo [.int x] r h Q := by
  intro b D cA p l e s m args below meth c H locs cells slots ls C hL hH hS hc hs
  refine vx_ret (W.widen (k := (mG M).2.2.1) (n := (mG M).2.2.2) (by omega) (by omega) ?_)
  exact W.zret C.1 C.2.1 (C.2.2.1.trans ht) (by rcases hx with rfl | rfl <;> rfl) (fun t hT hW => ⟨⟨_, h, rfl, k, by rw [hT]; exact hH⟩, hS.F hT⟩) hS.2.2 d C.2.2.2.2.2.2.1
theorem wp_lreturn {x : Int64} (ht : mT M = some .long) (d : decode (mC M) pc = .ok (.lreturn, 1)) (k : Q (.inl (some (.long x))) h) : WPx E M pc lo [.long x] r h Q := by
  intro b D cA p l e s m args below meth c H locs cells slots ls C hL hH hS hc hs
  refine vx_ret (W.widen (k := (mG M).2.2.1) (n := (mG M).2.2.2) (by omega) (by omega) ?_)
  exact W.lret C.1 C.2.1 (C.2.2.1.trans ht) (fun t hT hW => ⟨⟨_, h, rfl, k, by rw [hT]; exact hH⟩, hS.F hT⟩) hS.2.2 d C.2.2.2.2.2.2.1
theorem wp_return (ht : mT M = none) (d : decode (mC M) pc = .ok (.return_, 1)) (k : Q (.inl none) h) : WPx E M pc lo [] r h Q := by
  intro b D cA p l e s m args below meth c H locs cells slots ls C hL hH hS hc hs
  refine vx_ret (W.widen (k := (mG M).2.2.1) (n := (mG M).2.2.2) (by omega) (by omega) ?_)
  exact W.vret C.1 C.2.1 (C.2.2.1.trans ht) (fun t hT hW => ⟨⟨_, h, rfl, k, by rw [hT]; exact hH⟩, hS.F hT⟩) hS.2.2 d C.2.2.2.2.2.2.1
end Rows
