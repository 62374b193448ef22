section SP
variable {E : Ev} {h : PH} {Q : Rt → PH → Prop}
theorem sI {a b : Int32} (h1 : -2147483648 ≤ a.toInt - b.toInt) (h2 : a.toInt - b.toInt < 2147483648) : (a - b).toInt = a.toInt - b.toInt := by rw [Int32.toInt_sub, Int.bmod_eq_of_le (by omega) (by omega)]
theorem aI {a b : Int32} (h1 : -2147483648 ≤ a.toInt + b.toInt) (h2 : a.toInt + b.toInt < 2147483648) : (a + b).toInt = a.toInt + b.toInt := by rw [Int32.toInt_add, Int.bmod_eq_of_le (by omega) (by omega)]
theorem mI {a b : Int32} (h1 : -2147483648 ≤ a.toInt * b.toInt) (h2 : a.toInt * b.toInt < 2147483648) : (a * b).toInt = a.toInt * b.toInt := by rw [Int32.toInt_mul, Int.bmod_eq_of_le (by omega) (by omega)]
theorem tI0 : (0 : Int32).toInt = 0 := rfl
theorem tI1 : (1 : Int32).toInt = 1 := rfl
theorem ltI {a b : Int32} : a < b ↔ a.toInt < b.toInt := Int32.lt_iff_toInt_lt
theorem leI {a b : Int32} : a ≤ b ↔ a.toInt ≤ b.toInt := Int32.le_iff_toInt_le
theorem eqI {a b : Int32} : a = b ↔ a.toInt = b.toInt := Int32.toInt_inj.symm
theorem nIi {n : Nat} (h : n < 2 ^ 31) : (nI n).toInt = n := by
  rw [show nI n = Int32.ofNat n from rfl]
  exact Int32.toInt_ofNat_of_lt h
/-! the order of a side, as keys -/
def KB (B : List Ord) (x : Nat) : Int := if kB B x = 0 then -(pB B x).toInt else 4 * (pB B x).toInt + (kB B x).toInt
abbrev ordK (B : List Ord) (x y : Nat) : Prop := KB B x < KB B y ∨ (KB B x = KB B y ∧ x < y)
def okK (B : List Ord) : Prop := ∀ j, (B.getD j (0, 0, 0, 0)).2.1 < 3
theorem okK.b {B : List Ord} (h : okK B) (j : Nat) : 0 ≤ (kB B j).toInt ∧ (kB B j).toInt < 3 := by
  have := h j
  rw [kB, nIi (by omega)]
  omega
theorem befK {B : List Ord} (h : okK B) {i x : Nat} (hs : isB B i = isB B x) : befP B i x ↔ KB B i < KB B x := by
  have h1 := h.b i
  have h2 := h.b x
  unfold isB at hs
  unfold befP KB
  by_cases e1 : kB B i = 0 <;> by_cases e2 : kB B x = 0 <;> simp only [e1, e2, if_true, if_false] at hs ⊢
  · rw [ltI]; omega
  · exact absurd hs (by decide)
  · exact absurd hs (by decide)
  · rw [ltI, ltI, eqI]; omega
theorem posF_0 {B : List Ord} {i : Nat} {f : Nat → Nat} : posF B i f 0 = 0 := rfl
theorem posF_sp {B : List Ord} {i : Nat} {f : Nat → Nat} : ∀ n, posF B i f n ≤ n ∧ (∀ x, posF B i f n ≤ x → x < n → befP B i (f x)) ∧ (∀ p, posF B i f n = p + 1 → ¬ befP B i (f p))
  | 0 => ⟨Nat.le_refl _, fun x _ h => absurd h (by omega), fun p h => by rw [posF_0] at h; omega⟩
  | n + 1 => by
    obtain ⟨h1, h2, h3⟩ := posF_sp (B := B) (i := i) (f := f) n
    by_cases h : befP B i (f n)
    · rw [posF_y h]
      refine ⟨by omega, fun x a b => ?_, h3⟩
      by_cases e : x = n
      · rw [e]; exact h
      · exact h2 x a (by omega)
    · rw [posF_n h]
      refine ⟨Nat.le_refl _, fun x a b => absurd b (by omega), fun p e => ?_⟩
      have : p = n := by omega
      rw [this]; exact h
/-- a side, sorted -/
def SdP (B : List Ord) (v : Int32) (n : Nat) (f : Nat → Nat) (m : Nat) : Prop := (∀ x, x < m → f x < n ∧ isB B (f x) = v) ∧ (∀ y, y < n → isB B y = v → ∃ x, x < m ∧ f x = y) ∧ (∀ x y, x < y → y < m → ordK B (f x) (f y))
theorem insF_l {f : Nat → Nat} {p i j : Nat} (h : j < p) : insF f p i j = f j := by unfold insF; rw [if_pos h]
theorem insF_e {f : Nat → Nat} {p i : Nat} : insF f p i p = i := by unfold insF; rw [if_neg (by omega), if_pos rfl]
theorem insF_g {f : Nat → Nat} {p i j : Nat} (h : p < j) : insF f p i j = f (j - 1) := by unfold insF; rw [if_neg (by omega), if_neg (by omega)]
theorem insF_c {f : Nat → Nat} {p i : Nat} (j : Nat) : (j < p ∧ insF f p i j = f j) ∨ (j = p ∧ insF f p i j = i) ∨ (p < j ∧ insF f p i j = f (j - 1)) := by
  rcases Nat.lt_trichotomy j p with h | h | h
  · exact Or.inl ⟨h, insF_l h⟩
  · exact Or.inr (Or.inl ⟨h, by rw [h]; exact insF_e⟩)
  · exact Or.inr (Or.inr ⟨h, insF_g h⟩)
theorem sd_ok {B : List Ord} (hK : okK B) (v : Int32) : ∀ n, SdP B v n (sdF B v n).1 (sdF B v n).2
  | 0 => ⟨fun x h => absurd h (by show ¬ x < 0; omega), fun y h => absurd h (by omega), fun x y _ h => absurd h (by show ¬ y < 0; omega)⟩
  | n + 1 => by
    obtain ⟨h1, h2, h3⟩ := sd_ok hK v n
    by_cases h : isB B n = v
    · rw [sdF_y h]
      generalize hf : (sdF B v n).1 = f at *
      generalize hm : (sdF B v n).2 = m at *
      obtain ⟨p1, p2, p3⟩ := posF_sp (B := B) (i := n) (f := f) m
      generalize hp : posF B n f m = p at *
      have lo : ∀ x, x < p → ordK B (f x) n := fun x hx => by
        have e : p = p - 1 + 1 := by omega
        have q := p3 (p - 1) e
        rw [befK hK (by rw [h, (h1 (p - 1) (by omega)).2])] at q
        have q2 := (h1 (p - 1) (by omega)).1
        by_cases ex : x = p - 1
        · rw [ex]; unfold ordK; omega
        · have := h3 x (p - 1) (by omega) (by omega)
          unfold ordK at this ⊢
          omega
      have hi : ∀ x, p ≤ x → x < m → ordK B n (f x) := fun x a b => by
        have q := p2 x a b
        rw [befK hK (by rw [h, (h1 x b).2])] at q
        exact Or.inl q
      refine ⟨fun x hx => ?_, fun y hy hv => ?_, fun x y hxy hy => ?_⟩
      · show insF f p n x < n + 1 ∧ isB B (insF f p n x) = v
        have hx : x < m + 1 := hx
        rcases insF_c (f := f) (p := p) (i := n) x with ⟨a, b⟩ | ⟨a, b⟩ | ⟨a, b⟩ <;> rw [b]
        · have := h1 x (by omega); exact ⟨by omega, this.2⟩
        · exact ⟨by omega, h⟩
        · have := h1 (x - 1) (by omega); exact ⟨by omega, this.2⟩
      · show ∃ x, x < m + 1 ∧ insF f p n x = y
        by_cases e : y = n
        · exact ⟨p, by omega, by rw [insF_e, e]⟩
        · obtain ⟨x, a, b⟩ := h2 y (by omega) hv
          by_cases q : x < p
          · exact ⟨x, by omega, by rw [insF_l q, b]⟩
          · exact ⟨x + 1, by omega, by rw [insF_g (by omega), show x + 1 - 1 = x from rfl, b]⟩
      · show ordK B (insF f p n x) (insF f p n y)
        have hy : y < m + 1 := hy
        rcases insF_c (f := f) (p := p) (i := n) x with ⟨a, b⟩ | ⟨a, b⟩ | ⟨a, b⟩ <;> rcases insF_c (f := f) (p := p) (i := n) y with ⟨c, d⟩ | ⟨c, d⟩ | ⟨c, d⟩ <;> rw [b, d] <;> first
          | (exfalso; omega)
          | exact h3 x y hxy (by omega)
          | exact lo x a
          | exact hi (y - 1) (by omega) (by omega)
          | exact h3 x (y - 1) (by omega) (by omega)
          | exact h3 (x - 1) (y - 1) (by omega) (by omega)
          | fail "leaf"
    · rw [sdF_n h]
      refine ⟨fun x hx => ⟨by have := (h1 x hx).1; omega, (h1 x hx).2⟩, fun y hy hv => h2 y ?_ hv, h3⟩
      by_cases e : y = n
      · rw [e] at hv; exact absurd hv h
      · omega
theorem isB_c (B : List Ord) (i : Nat) : isB B i = 1 ∨ isB B i = 0 := by
  unfold isB
  by_cases h : kB B i = 0
  · exact Or.inl (if_pos h)
  · exact Or.inr (if_neg h)
theorem sd_sum (B : List Ord) : ∀ n, (sdF B 1 n).2 + (sdF B 0 n).2 = n
  | 0 => rfl
  | n + 1 => by
    have := sd_sum B n
    rcases isB_c B n with h | h
    · rw [sdF_y h, sdF_n (by rw [h]; decide)]; show (sdF B 1 n).2 + 1 + _ = _; omega
    · rw [sdF_n (by rw [h]; decide), sdF_y h]; show _ + ((sdF B 0 n).2 + 1) = _; omega
/-! the best ones -/
def bst (B : List Ord) (v : Int32) (ls : Nat → Int32) (n : Nat) (x : Option Nat) : Prop := match x with
  | none => ∀ y, y < n → isB B y = v → ¬ 0 < ls y
  | some b => (b < n ∧ isB B b = v ∧ 0 < ls b) ∧ ∀ y, y < n → isB B y = v → 0 < ls y → y = b ∨ ordK B b y
theorem isB1 {B : List Ord} {i : Nat} : kB B i = 0 ↔ isB B i = 1 := by
  unfold isB
  by_cases h : kB B i = 0
  · simp [h]
  · simp [h]
theorem isB0 {B : List Ord} {i : Nat} : ¬ kB B i = 0 ↔ isB B i = 0 := by
  unfold isB
  by_cases h : kB B i = 0
  · simp [h]
  · simp [h]
theorem bst_step {B : List Ord} {v : Int32} {ls : Nat → Int32} {n : Nat} {x : Option Nat} (h : bst B v ls n x) : ((isB B n = v ∧ 0 < ls n ∧ ∀ f, x = some f → KB B n < KB B f) → bst B v ls (n + 1) (some n)) ∧ (¬ (isB B n = v ∧ 0 < ls n ∧ ∀ f, x = some f → KB B n < KB B f) → bst B v ls (n + 1) x) := by
  cases x with
  | none =>
    refine ⟨fun c => ⟨⟨by omega, c.1, c.2.1⟩, fun y hy hv hl => ?_⟩, fun c y hy hv hl => ?_⟩
    · by_cases e : y = n
      · exact Or.inl e
      · exact absurd hl (h y (by omega) hv)
    · by_cases e : y = n
      · rw [e] at hv hl; exact c ⟨hv, hl, fun f q => by simp at q⟩
      · exact h y (by omega) hv hl
  | some b =>
    obtain ⟨⟨h1, h2, h3⟩, h4⟩ := h
    refine ⟨fun c => ⟨⟨by omega, c.1, c.2.1⟩, fun y hy hv hl => ?_⟩, fun c => ⟨⟨by omega, h2, h3⟩, fun y hy hv hl => ?_⟩⟩
    · by_cases e : y = n
      · exact Or.inl e
      · have q := c.2.2 b rfl
        rcases h4 y (by omega) hv hl with r | r
        · rw [r]; exact Or.inr (Or.inl q)
        · refine Or.inr ?_; unfold ordK at r ⊢; omega
    · by_cases e : y = n
      · rw [e] at hv hl ⊢
        have q : ¬ KB B n < KB B b := fun q => c ⟨hv, hl, fun f z => by rw [← Option.some.inj z]; exact q⟩
        refine Or.inr ?_; unfold ordK; omega
      · exact h4 y (by omega) hv hl
theorem fb_ok {B : List Ord} (hK : okK B) (ls : Nat → Int32) : ∀ n, bst B 1 ls n (fb (kB B) (pB B) ls n)
  | 0 => fun y h => absurd h (by omega)
  | n + 1 => by
    have ih := fb_ok hK ls n
    have st := bst_step ih
    have key : (kB B n = 0 ∧ 0 < ls n ∧ ∀ f, fb (kB B) (pB B) ls n = some f → pB B f < pB B n) ↔ (isB B n = 1 ∧ 0 < ls n ∧ ∀ f, fb (kB B) (pB B) ls n = some f → KB B n < KB B f) := by
      have e : ∀ f, kB B n = 0 → fb (kB B) (pB B) ls n = some f → (pB B f < pB B n ↔ KB B n < KB B f) := fun f h0 h => by
        have q := ih
        rw [h] at q
        rw [← befK hK (by rw [isB1.mp h0, q.1.2.1])]
        unfold befP; rw [if_pos h0]
      constructor
      · exact fun c => ⟨isB1.mp c.1, c.2.1, fun f h => (e f c.1 h).mp (c.2.2 f h)⟩
      · exact fun c => ⟨isB1.mpr c.1, c.2.1, fun f h => (e f (isB1.mpr c.1) h).mpr (c.2.2 f h)⟩
    rw [fb]
    by_cases c : (kB B n = 0 ∧ 0 < ls n ∧ ∀ f, fb (kB B) (pB B) ls n = some f → pB B f < pB B n)
    · rw [if_pos c]; exact st.1 (key.mp c)
    · rw [if_neg c]; exact st.2 (fun q => c (key.mpr q))
theorem fk_ok {B : List Ord} (hK : okK B) (ls : Nat → Int32) : ∀ n, bst B 0 ls n (fk (kB B) (pB B) ls n)
  | 0 => fun y h => absurd h (by omega)
  | n + 1 => by
    have ih := fk_ok hK ls n
    have st := bst_step ih
    have key : (¬ kB B n = 0 ∧ 0 < ls n ∧ ∀ f, fk (kB B) (pB B) ls n = some f → askB (kB B) (pB B) n f) ↔ (isB B n = 0 ∧ 0 < ls n ∧ ∀ f, fk (kB B) (pB B) ls n = some f → KB B n < KB B f) := by
      have e : ∀ f, ¬ kB B n = 0 → fk (kB B) (pB B) ls n = some f → (askB (kB B) (pB B) n f ↔ KB B n < KB B f) := fun f h0 h => by
        have q := ih
        rw [h] at q
        rw [← befK hK (by rw [isB0.mp h0, q.1.2.1])]
        unfold befP; rw [if_neg h0]
      constructor
      · exact fun c => ⟨isB0.mp c.1, c.2.1, fun f h => (e f c.1 h).mp (c.2.2 f h)⟩
      · exact fun c => ⟨isB0.mpr c.1, c.2.1, fun f h => (e f (isB0.mpr c.1) h).mpr (c.2.2 f h)⟩
    rw [fk]
    by_cases c : (¬ kB B n = 0 ∧ 0 < ls n ∧ ∀ f, fk (kB B) (pB B) ls n = some f → askB (kB B) (pB B) n f)
    · rw [if_pos c]; exact st.1 (key.mp c)
    · rw [if_neg c]; exact st.2 (fun q => c (key.mpr q))
/-- the best one stands at the head of its side -/
theorem bst_hd {B : List Ord} {v : Int32} {ls : Nat → Int32} {n m i : Nat} {f : Nat → Nat} {x : Option Nat} (hS : SdP B v n f m) (hb : bst B v ls n x) (hlo : ∀ y, y < i → ¬ 0 < ls (f y)) (hhi : ∀ y, i ≤ y → y < m → 0 < ls (f y)) : x = if i < m then some (f i) else none := by
  obtain ⟨h1, h2, h3⟩ := hS
  by_cases hi : i < m
  · rw [if_pos hi]
    cases x with
    | none => exact absurd (hhi i (Nat.le_refl _) hi) (hb (f i) (h1 i hi).1 (h1 i hi).2)
    | some b =>
      obtain ⟨⟨q1, q2, q3⟩, q4⟩ := hb
      obtain ⟨x, a, e⟩ := h2 b q1 q2
      rcases q4 (f i) (h1 i hi).1 (h1 i hi).2 (hhi i (Nat.le_refl _) hi) with r | r
      · rw [r]
      · exfalso
        by_cases lt : x < i
        · exact hlo x lt (by rw [e]; exact q3)
        · by_cases eq : x = i
          · rw [← e, eq] at r; unfold ordK at r; omega
          · have := h3 i x (by omega) a
            rw [e] at this; unfold ordK at r this; omega
  · rw [if_neg hi]
    cases x with
    | none => rfl
    | some b =>
      obtain ⟨⟨q1, q2, q3⟩, q4⟩ := hb
      obtain ⟨x, a, e⟩ := h2 b q1 q2
      exact absurd (by rw [e]; exact q3) (hlo x (by omega))
/-! the two matchings are one -/
abbrev lfR (B : List Ord) (s : RS) (y : Nat) : Int32 := qB B y - s.1 y
def toM (B : List Ord) (s : RS) : MS := (s.1, lfR B s, s.2.1, s.2.2.1, s.2.2.2)
theorem imin_c (a b : Int32) : imin a b = imin b a := by
  unfold imin
  by_cases h : b < a
  · rw [if_pos h, if_neg (fun q => by rw [ltI] at h q; omega)]
  · rw [if_neg h]
    by_cases q : a < b
    · rw [if_pos q]
    · rw [if_neg q]; rw [ltI] at h q; exact eqI.mpr (by omega)
theorem imin_i (a b : Int32) : ((imin a b).toInt = a.toInt ∧ a.toInt ≤ b.toInt) ∨ ((imin a b).toInt = b.toInt ∧ b.toInt ≤ a.toInt) := by
  unfold imin
  by_cases h : b < a
  · rw [if_pos h]; rw [ltI] at h; exact Or.inr ⟨rfl, by omega⟩
  · rw [if_neg h]; rw [ltI] at h; exact Or.inl ⟨rfl, by omega⟩
theorem up_s {f : Nat → Int32} {k : Nat} {v : Int32} : upd f k v k = v := by simp [upd]
theorem up_o {f : Nat → Int32} {k j : Nat} {v : Int32} (h : j ≠ k) : upd f k v j = f j := by simp [upd, h]
theorem lf_b {B : List Ord} {s : RS} {b a : Nat} (h : b ≠ a) : lfR B (rStep B s b a) b = lfR B s b - rN B s b a := by
  show qB B b - upd (upd s.1 b (s.1 b + rN B s b a)) a _ b = qB B b - s.1 b - rN B s b a
  rw [up_o h, up_s]; grind
theorem lf_a {B : List Ord} {s : RS} {b a : Nat} (h : b ≠ a) : lfR B (rStep B s b a) a = lfR B s a - rN B s b a := by
  show qB B a - upd (upd s.1 b (s.1 b + rN B s b a)) a (upd s.1 b (s.1 b + rN B s b a) a + rN B s b a) a = qB B a - s.1 a - rN B s b a
  rw [up_s, up_o (Ne.symm h)]; grind
theorem lf_o {B : List Ord} {s : RS} {b a y : Nat} (h1 : y ≠ b) (h2 : y ≠ a) : lfR B (rStep B s b a) y = lfR B s y := by
  show qB B y - upd (upd s.1 b (s.1 b + rN B s b a)) a _ y = qB B y - s.1 y
  rw [up_o h2, up_o h1]
theorem mnext_eq {B : List Ord} {s : RS} {b a : Nat} (h : b ≠ a) : mnext (pB B) (toM B s) b a = toM B (rStep B s b a) := by
  have e : imin (lfR B s b) (lfR B s a) = rN B s b a := imin_c _ _
  unfold mnext
  show (upd (upd s.1 b (s.1 b + imin (lfR B s b) (lfR B s a))) a (upd s.1 b (s.1 b + imin (lfR B s b) (lfR B s a)) a + imin (lfR B s b) (lfR B s a)),
   upd (upd (lfR B s) b (lfR B s b - imin (lfR B s b) (lfR B s a))) a (upd (lfR B s) b (lfR B s b - imin (lfR B s b) (lfR B s a)) a - imin (lfR B s b) (lfR B s a)),
   s.2.1 + imin (lfR B s b) (lfR B s a), (pB B b + pB B a) / 2, s.2.2.2 + (pB B b - pB B a) * imin (lfR B s b) (lfR B s a)) = toM B (rStep B s b a)
  rw [e]
  refine Prod.ext rfl (Prod.ext ?_ (Prod.ext rfl (Prod.ext rfl ?_)))
  · show upd (upd (lfR B s) b (lfR B s b - rN B s b a)) a (upd (lfR B s) b (lfR B s b - rN B s b a) a - rN B s b a) = lfR B (rStep B s b a)
    funext y
    by_cases e1 : y = a
    · rw [e1, up_s, up_o (Ne.symm h), lf_a h]
    · rw [up_o e1]
      by_cases e2 : y = b
      · rw [e2, up_s, lf_b h]
      · rw [up_o e2, lf_o e2 e1]
  · show s.2.2.2 + (pB B b - pB B a) * rN B s b a = s.2.2.2 + rN B s b a * (pB B b - pB B a)
    grind
theorem sd_inj {B : List Ord} {v : Int32} {n m x y : Nat} {f : Nat → Nat} (hS : SdP B v n f m) (hx : x < m) (hy : y < m) (h : x ≠ y) : f x ≠ f y := by
  intro e
  rcases Nat.lt_or_ge x y with q | q
  · have := hS.2.2 x y q hy; unfold ordK at this; rw [e] at this; omega
  · have := hS.2.2 y x (by omega) hx; unfold ordK at this; rw [e] at this; omega
/-- what is left on a side: nothing below i, something from i on -/
def SdL (B : List Ord) (s : RS) (f : Nat → Nat) (m i : Nat) : Prop := i ≤ m ∧ (∀ y, y < i → (lfR B s (f y)).toInt = 0) ∧ (∀ y, i ≤ y → y < m → 0 < (lfR B s (f y)).toInt ∧ (lfR B s (f y)).toInt ≤ 99)
theorem mrun_n {n : Nat} {ks ps : Nat → Int32} {S : MS} (h : mstep n ks ps S = none) (k : Nat) : mrun n ks ps k S = S := by
  cases k with
  | zero => rfl
  | succ k => rw [mrun, h]
theorem mrun_y {n k : Nat} {ks ps : Nat → Int32} {S S' : MS} (h : mstep n ks ps S = some S') : mrun n ks ps (k + 1) S = mrun n ks ps k S' := by rw [mrun, h]
theorem mR_y {B : List Ord} {f g : Nat → Nat} {nb na k i j : Nat} {s : RS} (h : i < nb ∧ j < na ∧ pB B (g j) ≤ pB B (f i)) : mR B f g nb na (k + 1) i j s = mR B f g nb na k (if rN B s (f i) (g j) = qB B (f i) - s.1 (f i) then i + 1 else i) (if rN B s (f i) (g j) = qB B (g j) - s.1 (g j) then j + 1 else j) (rStep B s (f i) (g j)) := by rw [mR, if_pos h]
theorem mR_n {B : List Ord} {f g : Nat → Nat} {nb na k i j : Nat} {s : RS} (h : ¬ (i < nb ∧ j < na ∧ pB B (g j) ≤ pB B (f i))) : mR B f g nb na k i j s = s := by
  cases k with
  | zero => rfl
  | succ k => rw [mR, if_neg h]
theorem sd_nba {B : List Ord} {n : Nat} {f g : Nat → Nat} {nb na : Nat} (hf : SdP B 1 n f nb) (hg : SdP B 0 n g na) : ∀ x y, x < nb → y < na → f x ≠ g y := fun x y q1 q2 e => by
  have r1 := (hf.1 x q1).2
  have r2 := (hg.1 y q2).2
  rw [e, r2] at r1; exact absurd r1 (by decide)
theorem sd_step {B : List Ord} {n : Nat} {f g : Nat → Nat} {nb na i j : Nat} {s : RS} (hf : SdP B 1 n f nb) (hg : SdP B 0 n g na) (hi : SdL B s f nb i) (hj : SdL B s g na j) (c1 : i < nb) (c2 : j < na) :
    SdL B (rStep B s (f i) (g j)) f nb (if rN B s (f i) (g j) = qB B (f i) - s.1 (f i) then i + 1 else i) ∧ SdL B (rStep B s (f i) (g j)) g na (if rN B s (f i) (g j) = qB B (g j) - s.1 (g j) then j + 1 else j) ∧
    (nb - (if rN B s (f i) (g j) = qB B (f i) - s.1 (f i) then i + 1 else i)) + (na - (if rN B s (f i) (g j) = qB B (g j) - s.1 (g j) then j + 1 else j)) + 1 ≤ (nb - i) + (na - j) ∧
    (1 ≤ (rN B s (f i) (g j)).toInt ∧ (rN B s (f i) (g j)).toInt ≤ (lfR B s (f i)).toInt ∧ (rN B s (f i) (g j)).toInt ≤ (lfR B s (g j)).toInt ∧ (lfR B s (f i)).toInt ≤ 99 ∧ (lfR B s (g j)).toInt ≤ 99) := by
  have a1 := hi.1
  have a2 := hj.1
  have nba := sd_nba hf hg
  have hb := hi.2.2 i (Nat.le_refl _) c1
  have ha := hj.2.2 j (Nat.le_refl _) c2
  have hm := imin_i (lfR B s (g j)) (lfR B s (f i))
  have hm' : (rN B s (f i) (g j)) = imin (lfR B s (g j)) (lfR B s (f i)) := rfl
  rw [← hm'] at hm
  have lb := lf_b (B := B) (s := s) (nba i j c1 c2)
  have la := lf_a (B := B) (s := s) (nba i j c1 c2)
  have lbI : (lfR B (rStep B s (f i) (g j)) (f i)).toInt = (lfR B s (f i)).toInt - (rN B s (f i) (g j)).toInt := (congrArg Int32.toInt lb).trans (sI (a := lfR B s (f i)) (by omega) (by omega))
  have laI : (lfR B (rStep B s (f i) (g j)) (g j)).toInt = (lfR B s (g j)).toInt - (rN B s (f i) (g j)).toInt := (congrArg Int32.toInt la).trans (sI (a := lfR B s (g j)) (by omega) (by omega))
  have eb : (rN B s (f i) (g j) = qB B (f i) - s.1 (f i)) ↔ (rN B s (f i) (g j)).toInt = (lfR B s (f i)).toInt := eqI
  have ea : (rN B s (f i) (g j) = qB B (g j) - s.1 (g j)) ↔ (rN B s (f i) (g j)).toInt = (lfR B s (g j)).toInt := eqI
  have nf : ∀ y, y < nb → y ≠ i → lfR B (rStep B s (f i) (g j)) (f y) = lfR B s (f y) := fun y q1 q2 => lf_o (sd_inj hf q1 c1 q2) (nba y j q1 c2)
  have ng : ∀ y, y < na → y ≠ j → lfR B (rStep B s (f i) (g j)) (g y) = lfR B s (g y) := fun y q1 q2 => lf_o (fun e => nba i y c1 q1 e.symm) (sd_inj hg q1 c2 q2)
  have HI : SdL B (rStep B s (f i) (g j)) f nb (if rN B s (f i) (g j) = qB B (f i) - s.1 (f i) then i + 1 else i) := by
    by_cases q : rN B s (f i) (g j) = qB B (f i) - s.1 (f i)
    · rw [if_pos q]
      have q' := eb.mp q
      refine ⟨by omega, fun y hy => ?_, fun y q1 q2 => ?_⟩
      · by_cases e : y = i
        · rw [e]; omega
        · rw [nf y (by omega) e]; exact hi.2.1 y (by omega)
      · rw [nf y q2 (by omega)]; exact hi.2.2 y (by omega) q2
    · rw [if_neg q]
      have q' : ¬ _ := fun z => q (eb.mpr z)
      refine ⟨by omega, fun y hy => ?_, fun y q1 q2 => ?_⟩
      · rw [nf y (by omega) (by omega)]; exact hi.2.1 y hy
      · by_cases e : y = i
        · rw [e]; omega
        · rw [nf y q2 e]; exact hi.2.2 y q1 q2
  have HJ : SdL B (rStep B s (f i) (g j)) g na (if rN B s (f i) (g j) = qB B (g j) - s.1 (g j) then j + 1 else j) := by
    by_cases q : rN B s (f i) (g j) = qB B (g j) - s.1 (g j)
    · rw [if_pos q]
      have q' := ea.mp q
      refine ⟨by omega, fun y hy => ?_, fun y q1 q2 => ?_⟩
      · by_cases e : y = j
        · rw [e]; omega
        · rw [ng y (by omega) e]; exact hj.2.1 y (by omega)
      · rw [ng y q2 (by omega)]; exact hj.2.2 y (by omega) q2
    · rw [if_neg q]
      have q' : ¬ _ := fun z => q (ea.mpr z)
      refine ⟨by omega, fun y hy => ?_, fun y q1 q2 => ?_⟩
      · rw [ng y (by omega) (by omega)]; exact hj.2.1 y hy
      · by_cases e : y = j
        · rw [e]; omega
        · rw [ng y q2 e]; exact hj.2.2 y q1 q2
  have hmeas : (nb - (if rN B s (f i) (g j) = qB B (f i) - s.1 (f i) then i + 1 else i)) + (na - (if rN B s (f i) (g j) = qB B (g j) - s.1 (g j) then j + 1 else j)) + 1 ≤ (nb - i) + (na - j) := by
    rcases hm with q | q
    · rw [if_pos (ea.mpr q.1)]
      by_cases z : rN B s (f i) (g j) = qB B (f i) - s.1 (f i)
      · rw [if_pos z]; omega
      · rw [if_neg z]; omega
    · rw [if_pos (eb.mpr q.1)]
      by_cases z : rN B s (f i) (g j) = qB B (g j) - s.1 (g j)
      · rw [if_pos z]; omega
      · rw [if_neg z]; omega
  exact ⟨HI, HJ, hmeas, by omega, by omega, by omega, hb.2, ha.2⟩
theorem mR_eq {B : List Ord} (hK : okK B) {n : Nat} {f g : Nat → Nat} {nb na : Nat} (hf : SdP B 1 n f nb) (hg : SdP B 0 n g na) : ∀ (k k' i j : Nat) (s : RS), (nb - i) + (na - j) ≤ k → (nb - i) + (na - j) ≤ k' → SdL B s f nb i → SdL B s g na j → mrun n (kB B) (pB B) k' (toM B s) = toM B (mR B f g nb na k i j s) := by
  intro k
  induction k with
  | zero =>
    intro k' i j s h1 h2 hi hj
    have a1 := hi.1
    have a2 := hj.1
    rw [mR_n (by omega)]
    refine mrun_n ?_ k'
    have e1 := bst_hd hf (fb_ok hK (lfR B s) n) (i := i) (fun y hy => by rw [ltI, tI0, hi.2.1 y hy]; omega) (fun y q1 q2 => by rw [ltI, tI0]; exact (hi.2.2 y q1 q2).1)
    unfold mstep
    show (match fb (kB B) (pB B) (lfR B s) n, fk (kB B) (pB B) (lfR B s) n with
      | some b, some a => if pB B a ≤ pB B b then some (mnext (pB B) (toM B s) b a) else none
      | _, _ => none) = none
    rw [e1, if_neg (by omega)]
  | succ k ih =>
    intro k' i j s h1 h2 hi hj
    have a1 := hi.1
    have a2 := hj.1
    have e1 := bst_hd hf (fb_ok hK (lfR B s) n) (i := i) (fun y hy => by rw [ltI, tI0, hi.2.1 y hy]; omega) (fun y q1 q2 => by rw [ltI, tI0]; exact (hi.2.2 y q1 q2).1)
    have e2 := bst_hd hg (fk_ok hK (lfR B s) n) (i := j) (fun y hy => by rw [ltI, tI0, hj.2.1 y hy]; omega) (fun y q1 q2 => by rw [ltI, tI0]; exact (hj.2.2 y q1 q2).1)
    have em : mstep n (kB B) (pB B) (toM B s) = (match fb (kB B) (pB B) (lfR B s) n, fk (kB B) (pB B) (lfR B s) n with
      | some b, some a => if pB B a ≤ pB B b then some (mnext (pB B) (toM B s) b a) else none
      | _, _ => none) := rfl
    by_cases c : i < nb ∧ j < na ∧ pB B (g j) ≤ pB B (f i)
    · obtain ⟨c1, c2, c3⟩ := c
      rw [e1, e2, if_pos c1, if_pos c2] at em
      have em : mstep n (kB B) (pB B) (toM B s) = (if pB B (g j) ≤ pB B (f i) then some (mnext (pB B) (toM B s) (f i) (g j)) else none) := em
      rw [if_pos c3] at em
      have nba := sd_nba hf hg
      rw [mnext_eq (nba i j c1 c2)] at em
      rw [mR_y ⟨c1, c2, c3⟩]
      obtain ⟨HI, HJ, hmeas, _⟩ := sd_step hf hg hi hj c1 c2
      obtain ⟨k0, rfl⟩ : ∃ k0, k' = k0 + 1 := ⟨k' - 1, by omega⟩
      rw [mrun_y em]
      exact ih k0 _ _ _ (by omega) (by omega) HI HJ
    · rw [mR_n c]
      refine mrun_n ?_ k'
      rw [em, e1, e2]
      by_cases c1 : i < nb
      · rw [if_pos c1]
        by_cases c2 : j < na
        · rw [if_pos c2]
          show (if pB B (g j) ≤ pB B (f i) then some (mnext (pB B) (toM B s) (f i) (g j)) else none) = none
          rw [if_neg (fun q => c ⟨c1, c2, q⟩)]
        · rw [if_neg c2]
      · rw [if_neg c1]
/-- a good bench -/
def okB (B : List Ord) : Prop := B.length ≤ 13 ∧ okK B ∧ ∀ j, j < B.length → (1 ≤ (qB B j).toInt ∧ (qB B j).toInt ≤ 99) ∧ (1 ≤ (pB B j).toInt ∧ (pB B j).toInt ≤ 99)
theorem mt_eq {B : List Ord} (h : okB B) : matchB B = toM B (mtB B) := by
  have e : matchB B = mrun B.length (kB B) (pB B) 13 (toM B (fun _ => 0, 0, -9, 0)) := by
    unfold matchB toM
    congr 3
    funext y
    show qB B y = qB B y - 0
    grind
  have q : ∀ y, lfR B (fun _ => 0, 0, -9, 0) y = qB B y := fun y => by show qB B y - 0 = qB B y; grind
  have s1 := sd_sum B B.length
  rw [e]
  refine mR_eq h.2.1 (sd_ok h.2.1 1 B.length) (sd_ok h.2.1 0 B.length) _ _ 0 0 _ (by omega) (by have := h.1; omega) ⟨by omega, fun y hy => absurd hy (by omega), fun y _ hy => ?_⟩ ⟨by omega, fun y hy => absurd hy (by omega), fun y _ hy => ?_⟩
  · rw [q]; have := (h.2.2 _ ((sd_ok h.2.1 1 B.length).1 y hy).1).1; omega
  · rw [q]; have := (h.2.2 _ ((sd_ok h.2.1 0 B.length).1 y hy).1).1; omega
end SP
