/-! the pure heap: kinds, ints, references, longs, tags of ownership, all by address and place -/
abbrev Kd : Type := Nat ⊕ (Nat × Nat)
abbrev Tg : Type := Nat × Nat × Nat
abbrev PH : Type := (Nat → Option Kd) × (Nat → Nat → Int32) × (Nat → Nat → Option Nat) × (Nat → Nat → Int64) × (Nat → Tg)
def kd (h : PH) : Nat → Option Kd := h.1
def gi (h : PH) : Nat → Nat → Int32 := h.2.1
def gr (h : PH) : Nat → Nat → Option Nat := h.2.2.1
def gl (h : PH) : Nat → Nat → Int64 := h.2.2.2.1
def tg (h : PH) : Nat → Tg := h.2.2.2.2
def u2 {α : Type} (f : Nat → Nat → α) (a k : Nat) (v : α) : Nat → Nat → α := fun b j => if b = a ∧ j = k then v else f b j
def u1 {α : Type} (f : Nat → α) (a : Nat) (v : α) : Nat → α := fun b => if b = a then v else f b
def si (h : PH) (a k : Nat) (v : Int32) : PH := (h.1, u2 h.2.1 a k v, h.2.2)
def sr (h : PH) (a k : Nat) (v : Option Nat) : PH := (h.1, h.2.1, u2 h.2.2.1 a k v, h.2.2.2)
def sl (h : PH) (a k : Nat) (v : Int64) : PH := (h.1, h.2.1, h.2.2.1, u2 h.2.2.2.1 a k v, h.2.2.2.2)
/-- a new object or array: kind, zeros, nulls, tag -/
def nw (h : PH) (a : Nat) (κ : Kd) (t : Tg) : PH := (u1 h.1 a (some κ), u1 h.2.1 a (fun _ => 0), u1 h.2.2.1 a (fun _ => none), u1 h.2.2.2.1 a (fun _ => 0), u1 h.2.2.2.2 a t)
/-- a whole row of ints at once -/
def sw (h : PH) (a : Nat) (f : Nat → Int32) : PH := (h.1, u1 h.2.1 a f, h.2.2)
theorem u2_at {α : Type} (f : Nat → Nat → α) (a k : Nat) (v : α) : u2 f a k v a k = v := by simp [u2]
theorem u2_ne {α : Type} (f : Nat → Nat → α) {a k b j : Nat} (v : α) (h : b ≠ a ∨ j ≠ k) : u2 f a k v b j = f b j := by
  unfold u2
  rw [if_neg]
  rintro ⟨h1, h2⟩
  rcases h with h | h
  · exact h h1
  · exact h h2
theorem u2_row {α : Type} (f : Nat → Nat → α) {a k b : Nat} (v : α) (h : b ≠ a) : u2 f a k v b = f b := funext fun j => u2_ne f v (Or.inl h)
theorem u1_at {α : Type} (f : Nat → α) (a : Nat) (v : α) : u1 f a v a = v := by simp [u1]
theorem u1_ne {α : Type} (f : Nat → α) {a b : Nat} (v : α) (h : b ≠ a) : u1 f a v b = f b := by simp [u1, h]
theorem kd_si (h : PH) (a k : Nat) (v : Int32) : kd (si h a k v) = kd h := rfl
theorem kd_sr (h : PH) (a k : Nat) (v : Option Nat) : kd (sr h a k v) = kd h := rfl
theorem kd_sl (h : PH) (a k : Nat) (v : Int64) : kd (sl h a k v) = kd h := rfl
theorem kd_sw (h : PH) (a : Nat) (f : Nat → Int32) : kd (sw h a f) = kd h := rfl
theorem gr_si (h : PH) (a k : Nat) (v : Int32) : gr (si h a k v) = gr h := rfl
theorem gr_sl (h : PH) (a k : Nat) (v : Int64) : gr (sl h a k v) = gr h := rfl
theorem gr_sw (h : PH) (a : Nat) (f : Nat → Int32) : gr (sw h a f) = gr h := rfl
theorem gi_sr (h : PH) (a k : Nat) (v : Option Nat) : gi (sr h a k v) = gi h := rfl
theorem gi_sl (h : PH) (a k : Nat) (v : Int64) : gi (sl h a k v) = gi h := rfl
theorem gl_si (h : PH) (a k : Nat) (v : Int32) : gl (si h a k v) = gl h := rfl
theorem gl_sr (h : PH) (a k : Nat) (v : Option Nat) : gl (sr h a k v) = gl h := rfl
theorem gl_sw (h : PH) (a : Nat) (f : Nat → Int32) : gl (sw h a f) = gl h := rfl
theorem tg_si (h : PH) (a k : Nat) (v : Int32) : tg (si h a k v) = tg h := rfl
theorem tg_sr (h : PH) (a k : Nat) (v : Option Nat) : tg (sr h a k v) = tg h := rfl
theorem tg_sl (h : PH) (a k : Nat) (v : Int64) : tg (sl h a k v) = tg h := rfl
theorem tg_sw (h : PH) (a : Nat) (f : Nat → Int32) : tg (sw h a f) = tg h := rfl
theorem gi_si (h : PH) (a k : Nat) (v : Int32) : gi (si h a k v) = u2 (gi h) a k v := rfl
theorem gr_sr (h : PH) (a k : Nat) (v : Option Nat) : gr (sr h a k v) = u2 (gr h) a k v := rfl
theorem gl_sl (h : PH) (a k : Nat) (v : Int64) : gl (sl h a k v) = u2 (gl h) a k v := rfl
theorem gi_sw (h : PH) (a : Nat) (f : Nat → Int32) : gi (sw h a f) = u1 (gi h) a f := rfl
theorem kd_nw (h : PH) (a : Nat) (κ : Kd) (t : Tg) : kd (nw h a κ t) = u1 (kd h) a (some κ) := rfl
theorem gi_nw (h : PH) (a : Nat) (κ : Kd) (t : Tg) : gi (nw h a κ t) = u1 (gi h) a (fun _ => 0) := rfl
theorem gr_nw (h : PH) (a : Nat) (κ : Kd) (t : Tg) : gr (nw h a κ t) = u1 (gr h) a (fun _ => none) := rfl
theorem gl_nw (h : PH) (a : Nat) (κ : Kd) (t : Tg) : gl (nw h a κ t) = u1 (gl h) a (fun _ => 0) := rfl
theorem tg_nw (h : PH) (a : Nat) (κ : Kd) (t : Tg) : tg (nw h a κ t) = u1 (tg h) a t := rfl
/-! the classes and their fields -/
abbrev classes : List vw_C := [(RX0, TX0, 8), (RX1, TX1, 4), (RX2, TX2, 3), (RX3, TX3, 4), (RX4, TX4, 12), (RX5, TX5, 10), (RX6, TX6, 7), (RX7, TX7, 21)]
def fty (ci k : Nat) : FieldType := match ci with
  | 0 => tyX0 k
  | 1 => tyX1 k
  | 2 => tyX2 k
  | 3 => tyX3 k
  | 4 => tyX4 k
  | 5 => tyX5 k
  | 6 => tyX6 k
  | _ => tyX7 k
def fN (ci : Nat) : Nat := match ci with
  | 0 => 8
  | 1 => 4
  | 2 => 3
  | 3 => 4
  | 4 => 12
  | 5 => 10
  | 6 => 7
  | _ => 21
def isR (ty : FieldType) : Bool := match ty with
  | .object _ => true
  | .array _ => true
  | _ => false
def fv (h : PH) (a ci k : Nat) : Value := if isR (fty ci k) then va_rf (gr h a k) else .int (gi h a k)
def fl (h : PH) (a ci : Nat) : List Value := (List.range (fN ci)).map (fv h a ci)
def ar (h : PH) (a tc : Nat) : (Nat → Int32) ⊕ (Nat → Int64) ⊕ (Nat → UInt32) ⊕ (Nat → UInt64) ⊕ (Nat → Option Nat) :=
  if tc ≤ 1 then .inl (gi h a) else if tc = 2 then .inr (.inl (gl h a)) else .inr (.inr (.inr (.inr (gr h a))))
def cel (cA : Nat → ClassId) (h : PH) (a : Nat) : va_E := match kd h a with
  | some (.inl ci) => .inr (ci, fl h a ci)
  | some (.inr t) => .inl (cA t.1, t.2, ar h a t.1)
  | none => .inr (0, [])
def tys (cA : Nat → ClassId) : List (ClassId × FieldType) := [(cA 0, .int), (cA 1, .boolean), (cA 2, .long), (cA 3, .object RX5), (cA 4, .object RX3), (cA 5, .object RX4)]
def HR (b : Nat) (D : va_G) (cA : Nat → ClassId) (h : PH) (H : Heap) : Prop :=
  ∃ L : List Nat, (∀ a, a ∈ L ↔ kd h a ≠ none) ∧ va_P D classes ([] ++ va_pl L (cel cA h)) H ∧ va_D (fun q => b ≤ q) ([] ++ va_pl L (cel cA h))
theorem cel_obj {cA : Nat → ClassId} {h : PH} {a ci : Nat} (hk : kd h a = some (.inl ci)) : cel cA h a = .inr (ci, fl h a ci) := by
  unfold cel; rw [hk]
theorem cel_arr {cA : Nat → ClassId} {h : PH} {a tc n : Nat} (hk : kd h a = some (.inr (tc, n))) : cel cA h a = .inl (cA tc, n, ar h a tc) := by
  unfold cel; rw [hk]
theorem fl_get {h : PH} {a ci k : Nat} (hk : k < fN ci) : (fl h a ci)[k]? = some (fv h a ci k) := by
  simp [fl, hk]
theorem fl_congr {h h' : PH} {a ci : Nat} (h1 : gi h' a = gi h a) (h2 : gr h' a = gr h a) : fl h' a ci = fl h a ci := by
  have : fv h' a ci = fv h a ci := funext fun k => by simp only [fv, h1, h2]
  simp only [fl, this]
theorem ar_congr {h h' : PH} {a tc : Nat} (h1 : gi h' a = gi h a) (h2 : gr h' a = gr h a) (h3 : gl h' a = gl h a) : ar h' a tc = ar h a tc := by
  simp only [ar, h1, h2, h3]
theorem cel_congr {cA : Nat → ClassId} {h h' : PH} {a : Nat} (h0 : kd h' a = kd h a) (h1 : gi h' a = gi h a) (h2 : gr h' a = gr h a) (h3 : gl h' a = gl h a) : cel cA h' a = cel cA h a := by
  unfold cel
  rw [h0]
  cases kd h a with
  | none => rfl
  | some κ => cases κ with
    | inl ci => simp only [fl_congr h1 h2]
    | inr t => simp only [ar_congr h1 h2 h3]
theorem HR.at {b : Nat} {D : va_G} {cA : Nat → ClassId} {h : PH} {H : Heap} (hH : HR b D cA h H) {a : Nat} (ha : kd h a ≠ none) :
    ∃ (ws : va_W) (k : Nat), va_P D classes ws H ∧ va_D (fun q => b ≤ q) ws ∧ ws[k]? = some (a, cel cA h a) := by
  obtain ⟨L, h1, h2, h3⟩ := hH
  obtain ⟨k, hk⟩ := va_pl_get (X := []) (f := cel cA h) ((h1 a).mpr ha)
  exact ⟨_, k, h2, h3, hk⟩
/-- a store at a: the new heap holds the new picture -/
theorem HR.put {b : Nat} {D : va_G} {cA : Nat → ClassId} {h h' : PH} {H : Heap} (hH : HR b D cA h H) {a : Nat} (ha : kd h a ≠ none) (hkd : kd h' = kd h)
    (hne : ∀ x, x ≠ a → cel cA h' x = cel cA h x) :
    ∃ (ws : va_W) (k : Nat), va_P D classes ws H ∧ va_D (fun q => b ≤ q) ws ∧ ws[k]? = some (a, cel cA h a) ∧ ∀ (H1 : Heap) (e : va_E), e = cel cA h' a → va_P D classes (ws.set k (a, e)) H1 → va_D (fun q => b ≤ q) (ws.set k (a, e)) → HR b D cA h' H1 := by
  obtain ⟨L, h1, h2, h3⟩ := hH
  obtain ⟨k, hk⟩ := va_pl_get (X := []) (f := cel cA h) ((h1 a).mpr ha)
  refine ⟨_, k, h2, h3, hk, fun H1 e he p1 d1 => ?_⟩
  have hs := va_pl_set (e := e) h3 ((h1 a).mpr ha) hk
  have hc : va_pl L (va_up (cel cA h) a e) = va_pl L (cel cA h') := va_pl_congr fun x => by
    by_cases hx : x = a
    · subst hx; rw [va_up_self, he]
    · rw [va_up_ne _ _ hx, hne x hx]
  rw [hs, hc] at p1 d1
  exact ⟨L, fun x => by rw [hkd]; exact h1 x, p1, d1⟩
theorem HR.lt {b : Nat} {D : va_G} {cA : Nat → ClassId} {h : PH} {H : Heap} (hH : HR b D cA h H) {a : Nat} (ha : kd h a ≠ none) : a < H.size := by
  obtain ⟨ws, k, h1, h2, h3⟩ := hH.at ha
  exact (h1 k _ h3).lt
theorem HR.fresh {b : Nat} {D : va_G} {cA : Nat → ClassId} {h : PH} {H : Heap} (hH : HR b D cA h H) {a : Nat} (ha : H.size ≤ a) : kd h a = none := by
  cases hk : kd h a with
  | none => rfl
  | some κ =>
    have := hH.lt (a := a) (by rw [hk]; exact fun q => by cases q)
    omega
/-- a new cell -/
theorem HR.new {b : Nat} {D : va_G} {cA : Nat → ClassId} {h h' : PH} {H : Heap} (hH : HR b D cA h H) {a : Nat} (κ : Kd) (hkd : kd h' = u1 (kd h) a (some κ))
    (hne : ∀ x, x ≠ a → cel cA h' x = cel cA h x) :
    ∃ (ws : va_W), va_P D classes ws H ∧ va_D (fun q => b ≤ q) ws ∧ ∀ (H1 : Heap) (e : va_E), e = cel cA h' a → kd h a = none → va_P D classes (ws ++ [(a, e)]) H1 → va_D (fun q => b ≤ q) (ws ++ [(a, e)]) → HR b D cA h' H1 := by
  obtain ⟨L, h1, h2, h3⟩ := hH
  refine ⟨_, h2, h3, fun H1 e he hn p1 d1 => ?_⟩
  have hL : a ∉ L := fun q => (h1 a).mp q hn
  have hs := va_pl_push (f := cel cA h) (e := e) hL
  have hc : va_pl (L ++ [a]) (va_up (cel cA h) a e) = va_pl (L ++ [a]) (cel cA h') := va_pl_congr fun x => by
    by_cases hx : x = a
    · subst hx; rw [va_up_self, he]
    · rw [va_up_ne _ _ hx, hne x hx]
  rw [List.nil_append, hs, hc] at p1 d1
  refine ⟨L ++ [a], fun x => ?_, p1, d1⟩
  rw [List.mem_append, List.mem_singleton, hkd]
  by_cases hx : x = a
  · subst hx; rw [u1_at]; exact ⟨fun _ q => (by cases q), fun _ => Or.inr rfl⟩
  · rw [u1_ne _ _ hx, ← h1 x]; exact ⟨fun q => q.elim id (fun e => absurd e hx), Or.inl⟩
theorem si_ne {cA : Nat → ClassId} {h : PH} {a k : Nat} {v : Int32} (x : Nat) (hx : x ≠ a) : cel cA (si h a k v) x = cel cA h x := cel_congr rfl (u2_row _ _ hx) rfl rfl
theorem sr_ne {cA : Nat → ClassId} {h : PH} {a k : Nat} {v : Option Nat} (x : Nat) (hx : x ≠ a) : cel cA (sr h a k v) x = cel cA h x := cel_congr rfl rfl (u2_row _ _ hx) rfl
theorem sl_ne {cA : Nat → ClassId} {h : PH} {a k : Nat} {v : Int64} (x : Nat) (hx : x ≠ a) : cel cA (sl h a k v) x = cel cA h x := cel_congr rfl rfl rfl (u2_row _ _ hx)
theorem sw_ne {cA : Nat → ClassId} {h : PH} {a : Nat} {f : Nat → Int32} (x : Nat) (hx : x ≠ a) : cel cA (sw h a f) x = cel cA h x := cel_congr rfl (u1_ne _ _ hx) rfl rfl
theorem nw_ne {cA : Nat → ClassId} {h : PH} {a : Nat} {κ : Kd} {t : Tg} (x : Nat) (hx : x ≠ a) : cel cA (nw h a κ t) x = cel cA h x := cel_congr (u1_ne _ _ hx) (u1_ne _ _ hx) (u1_ne _ _ hx) (u1_ne _ _ hx)
theorem fl_si {h : PH} {a ci k : Nat} {v : Int32} (hr : isR (fty ci k) = false) : fl (si h a k v) a ci = (fl h a ci).set k (.int v) := by
  apply List.ext_getElem?
  intro j
  by_cases hj : j < fN ci
  · rw [fl_get hj, List.getElem?_set]
    by_cases hjk : k = j
    · subst hjk
      rw [if_pos rfl, if_pos (by simp [fl, hj])]
      simp [fv, hr, gi_si, u2_at]
    · rw [if_neg hjk, fl_get hj]
      simp [fv, gi_si, gr_si, u2_ne _ _ (Or.inr (Ne.symm hjk))]
  · rw [List.getElem?_eq_none (by simp [fl]; omega), List.getElem?_eq_none (by simp [fl]; omega)]
theorem fl_sr {h : PH} {a ci k : Nat} {v : Option Nat} (hr : isR (fty ci k) = true) : fl (sr h a k v) a ci = (fl h a ci).set k (va_rf v) := by
  apply List.ext_getElem?
  intro j
  by_cases hj : j < fN ci
  · rw [fl_get hj, List.getElem?_set]
    by_cases hjk : k = j
    · subst hjk
      rw [if_pos rfl, if_pos (by simp [fl, hj])]
      simp [fv, hr, gr_sr, u2_at]
    · rw [if_neg hjk, fl_get hj]
      simp [fv, gi_sr, gr_sr, u2_ne _ _ (Or.inr (Ne.symm hjk))]
  · rw [List.getElem?_eq_none (by simp [fl]; omega), List.getElem?_eq_none (by simp [fl]; omega)]
