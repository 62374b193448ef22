section SP
variable {E : Ev} {h : PH} {Q : Rt → PH → Prop}
/-! sums over orders, messages, debts -/
def osum (c : Ord → Int) : List Ord → Int
  | [] => 0
  | x :: r => c x + osum c r
theorem osum_app (c : Ord → Int) (x : Ord) : ∀ l, osum c (l ++ [x]) = osum c l + c x
  | [] => by simp [osum]
  | y :: r => by rw [List.cons_append, osum, osum, osum_app c x r]; omega
theorem osum_set (c : Ord → Int) (x : Ord) : ∀ (l : List Ord) (i : Nat), i < l.length → osum c (l.set i x) = osum c l - c (l.getD i (0, 0, 0, 0)) + c x
  | [], i, h => absurd h (by simp)
  | y :: r, 0, _ => by rw [List.set_cons_zero, osum, osum, List.getD_cons_zero]; omega
  | y :: r, i + 1, h => by rw [List.set_cons_succ, osum, osum, List.getD_cons_succ, osum_set c x r i (by simpa using h)]; omega
theorem osum_era (c : Ord → Int) : ∀ (l : List Ord) (i : Nat), i < l.length → osum c (l.eraseIdx i) = osum c l - c (l.getD i (0, 0, 0, 0))
  | [], i, h => absurd h (by simp)
  | y :: r, 0, _ => by rw [List.eraseIdx_cons_zero, osum, List.getD_cons_zero]; omega
  | y :: r, i + 1, h => by rw [List.eraseIdx_cons_succ, osum, osum, List.getD_cons_succ, osum_era c r i (by simpa using h)]; omega
theorem osum_fil (c : Ord → Int) (p : Ord → Bool) : ∀ l : List Ord, (∀ x ∈ l, p x = false → c x = 0) → osum c (l.filter p) = osum c l
  | [], _ => rfl
  | y :: r, h => by
    have ih := osum_fil c p r (fun x q => h x (List.mem_cons_of_mem _ q))
    by_cases e : p y = true
    · rw [List.filter_cons_of_pos e, osum, osum, ih]
    · rw [List.filter_cons_of_neg e, osum, ih, h y List.mem_cons_self (by simpa using e)]; omega
theorem osum_nn {c : Ord → Int} : ∀ {l : List Ord}, (∀ x ∈ l, 0 ≤ c x) → 0 ≤ osum c l
  | [], _ => Int.le_refl _
  | y :: r, h => by
    have := osum_nn (c := c) (l := r) (fun x q => h x (List.mem_cons_of_mem _ q))
    have := h y List.mem_cons_self
    rw [osum]; omega
theorem osum_ge {c : Ord → Int} : ∀ {l : List Ord}, (∀ x ∈ l, 0 ≤ c x) → ∀ {i : Nat}, i < l.length → c (l.getD i (0, 0, 0, 0)) ≤ osum c l
  | [], _, i, h => absurd h (by simp)
  | y :: r, h, 0, _ => by
    have := osum_nn (c := c) (l := r) (fun x q => h x (List.mem_cons_of_mem _ q))
    rw [osum, List.getD_cons_zero]; omega
  | y :: r, h, i + 1, hi => by
    have := osum_ge (c := c) (l := r) (fun x q => h x (List.mem_cons_of_mem _ q)) (i := i) (by simpa using hi)
    have := h y List.mem_cons_self
    rw [osum, List.getD_cons_succ]; omega
def oc (t : Nat) (x : Ord) : Int := if x.1 = t then x.2.2.2.toInt else 0
def oc2 (t : Nat) (x : Ord) : Int := if x.1 = t ∧ x.2.1 = 2 then x.2.2.2.toInt else 0
def msI : List Int32 → Int
  | [] => 0
  | x :: r => x.toInt + msI r
def dsI : List (Int32 × Nat) → Int
  | [] => 0
  | x :: r => x.1.toInt + dsI r
theorem msI_app (x : Int32) : ∀ l, msI (l ++ [x]) = msI l + x.toInt
  | [] => by simp [msI]
  | y :: r => by rw [List.cons_append, msI, msI, msI_app x r]; omega
theorem dsI_app (x : Int32 × Nat) : ∀ l, dsI (l ++ [x]) = dsI l + x.1.toInt
  | [] => by simp [dsI]
  | y :: r => by rw [List.cons_append, dsI, dsI, dsI_app x r]; omega
theorem msI_nn : ∀ {l : List Int32}, (∀ x ∈ l, 1 ≤ x.toInt ∧ x.toInt ≤ 99) → 0 ≤ msI l
  | [], _ => Int.le_refl _
  | y :: r, h => by
    have := msI_nn (l := r) (fun x q => h x (List.mem_cons_of_mem _ q))
    have := h y List.mem_cons_self
    rw [msI]; omega
theorem dsI_nn : ∀ {l : List (Int32 × Nat)}, (∀ x ∈ l, 1 ≤ x.1.toInt) → (l.length : Int) ≤ dsI l
  | [], _ => Int.le_refl _
  | y :: r, h => by
    have := dsI_nn (l := r) (fun x q => h x (List.mem_cons_of_mem _ q))
    have := h y List.mem_cons_self
    rw [dsI, List.length_cons]; omega
/-- a good order: the least quantity is w -/
def okW (w : Int) (n : Nat) (x : Ord) : Prop := x.1 < n ∧ x.2.1 < 3 ∧ (1 ≤ x.2.2.1.toInt ∧ x.2.2.1.toInt ≤ 99) ∧ (w ≤ x.2.2.2.toInt ∧ x.2.2.2.toInt ≤ 99)
/-- a good tenant: K is the budget, debts are due in lo .. hi, q and s are in its orders, in its short ones -/
def IT (K lo hi : Nat) (q s : Int) (T : Ten) : Prop :=
  (1 ≤ (T.1 0).toInt ∧ (T.1 0).toInt ≤ 999) ∧
  (0 ≤ (T.1 1).toInt ∧ (T.1 1).toInt ≤ 99) ∧
  (0 ≤ (T.1 2).toInt ∧ (T.1 2).toInt ≤ 999) ∧
  (0 ≤ (T.1 3).toInt ∧ (T.1 3).toInt + q ≤ 99 * K) ∧
  (0 ≤ (T.1 4).toInt ∧ (T.1 4).toInt + 99 * q ≤ 9999 * (K + 1)) ∧
  (0 ≤ (T.1 5).toInt ∧ (T.1 5).toInt + msI T.2.1 ≤ 99 * (K + 8)) ∧
  (T.2.1.length ≤ 8) ∧
  (∀ m ∈ T.2.1, 1 ≤ m.toInt ∧ m.toInt ≤ 99) ∧
  (∀ d ∈ T.2.2, 1 ≤ d.1.toInt ∧ lo ≤ d.2 ∧ d.2 ≤ hi) ∧
  (T.2.2.Pairwise (fun a b => a.2 ≤ b.2)) ∧
  (dsI T.2.2 + s ≤ 99)
theorem IT.cap {K lo hi : Nat} {q s : Int} {T : Ten} (H : IT K lo hi q s T) : 1 ≤ (T.1 0).toInt ∧ (T.1 0).toInt ≤ 999 := H.1
theorem IT.rate {K lo hi : Nat} {q s : Int} {T : Ten} (H : IT K lo hi q s T) : 0 ≤ (T.1 1).toInt ∧ (T.1 1).toInt ≤ 99 := H.2.1
theorem IT.lev {K lo hi : Nat} {q s : Int} {T : Ten} (H : IT K lo hi q s T) : 0 ≤ (T.1 2).toInt ∧ (T.1 2).toInt ≤ 999 := H.2.2.1
theorem IT.stk {K lo hi : Nat} {q s : Int} {T : Ten} (H : IT K lo hi q s T) : 0 ≤ (T.1 3).toInt ∧ (T.1 3).toInt + q ≤ 99 * K := H.2.2.2.1
theorem IT.csh {K lo hi : Nat} {q s : Int} {T : Ten} (H : IT K lo hi q s T) : 0 ≤ (T.1 4).toInt ∧ (T.1 4).toInt + 99 * q ≤ 9999 * (K + 1) := H.2.2.2.2.1
theorem IT.snt {K lo hi : Nat} {q s : Int} {T : Ten} (H : IT K lo hi q s T) : 0 ≤ (T.1 5).toInt ∧ (T.1 5).toInt + msI T.2.1 ≤ 99 * (K + 8) := H.2.2.2.2.2.1
theorem IT.msl {K lo hi : Nat} {q s : Int} {T : Ten} (H : IT K lo hi q s T) : T.2.1.length ≤ 8 := H.2.2.2.2.2.2.1
theorem IT.msg {K lo hi : Nat} {q s : Int} {T : Ten} (H : IT K lo hi q s T) : ∀ m ∈ T.2.1, 1 ≤ m.toInt ∧ m.toInt ≤ 99 := H.2.2.2.2.2.2.2.1
theorem IT.deb {K lo hi : Nat} {q s : Int} {T : Ten} (H : IT K lo hi q s T) : ∀ d ∈ T.2.2, 1 ≤ d.1.toInt ∧ lo ≤ d.2 ∧ d.2 ≤ hi := H.2.2.2.2.2.2.2.2.1
theorem IT.srt {K lo hi : Nat} {q s : Int} {T : Ten} (H : IT K lo hi q s T) : T.2.2.Pairwise (fun a b => a.2 ≤ b.2) := H.2.2.2.2.2.2.2.2.2.1
theorem IT.dsm {K lo hi : Nat} {q s : Int} {T : Ten} (H : IT K lo hi q s T) : dsI T.2.2 + s ≤ 99 := H.2.2.2.2.2.2.2.2.2.2

/-- a good state -/
def IW (K lo : Nat) (w : Int) (A : Sta) : Prop :=
  (1 ≤ sN A ∧ sN A ≤ 6) ∧
  (1 ≤ sTm A ∧ sTm A ≤ 50) ∧
  (sTi A ≤ K) ∧
  (1 ≤ (sG A 1).toInt ∧ (sG A 1).toInt ≤ 999) ∧
  (1 ≤ (sG A 2).toInt ∧ (sG A 2).toInt ≤ 20) ∧
  (0 ≤ (sG A 4).toInt ∧ (sG A 4).toInt ≤ 99) ∧
  (sG A 7 = -9 ∨ (1 ≤ (sG A 7).toInt ∧ (sG A 7).toInt ≤ 99)) ∧
  ((sO A).length ≤ 12) ∧
  (∀ x ∈ sO A, okW w (sN A) x) ∧
  (∀ t, t < sN A → IT K lo (sTi A + sTm A) (osum (oc t) (sO A)) (osum (oc2 t) (sO A)) (sT A t))
theorem IW.n6 {K lo : Nat} {w : Int} {A : Sta} (H : IW K lo w A) : 1 ≤ sN A ∧ sN A ≤ 6 := H.1
theorem IW.tm {K lo : Nat} {w : Int} {A : Sta} (H : IW K lo w A) : 1 ≤ sTm A ∧ sTm A ≤ 50 := H.2.1
theorem IW.ti {K lo : Nat} {w : Int} {A : Sta} (H : IW K lo w A) : sTi A ≤ K := H.2.2.1
theorem IW.wid {K lo : Nat} {w : Int} {A : Sta} (H : IW K lo w A) : 1 ≤ (sG A 1).toInt ∧ (sG A 1).toInt ≤ 999 := H.2.2.2.1
theorem IW.itv {K lo : Nat} {w : Int} {A : Sta} (H : IW K lo w A) : 1 ≤ (sG A 2).toInt ∧ (sG A 2).toInt ≤ 20 := H.2.2.2.2.1
theorem IW.pen {K lo : Nat} {w : Int} {A : Sta} (H : IW K lo w A) : 0 ≤ (sG A 4).toInt ∧ (sG A 4).toInt ≤ 99 := H.2.2.2.2.2.1
theorem IW.pri {K lo : Nat} {w : Int} {A : Sta} (H : IW K lo w A) : sG A 7 = -9 ∨ (1 ≤ (sG A 7).toInt ∧ (sG A 7).toInt ≤ 99) := H.2.2.2.2.2.2.1
theorem IW.len {K lo : Nat} {w : Int} {A : Sta} (H : IW K lo w A) : (sO A).length ≤ 12 := H.2.2.2.2.2.2.2.1
theorem IW.ord {K lo : Nat} {w : Int} {A : Sta} (H : IW K lo w A) : ∀ x ∈ sO A, okW w (sN A) x := H.2.2.2.2.2.2.2.2.1
theorem IW.ten {K lo : Nat} {w : Int} {A : Sta} (H : IW K lo w A) : ∀ t, t < sN A → IT K lo (sTi A + sTm A) (osum (oc t) (sO A)) (osum (oc2 t) (sO A)) (sT A t) := H.2.2.2.2.2.2.2.2.2

/-- good between calls -/
def IV (K : Nat) (A : Sta) : Prop := IW K (sTi A + 1) 1 A
theorem IV.ok {K : Nat} {A : Sta} (H : IV K A) : OkL (sN A) (sO A) := ⟨IW.len H, fun x h => IW.ord H x h⟩
theorem IT.mono {K lo hi : Nat} {q s q' s' : Int} {T : Ten} (H : IT K lo hi q s T) (h1 : q' ≤ q) (h2 : s' ≤ s) : IT K lo hi q' s' T :=
  ⟨H.cap, H.rate, H.lev, ⟨H.stk.1, by have := H.stk.2; omega⟩, ⟨H.csh.1, by have := H.csh.2; omega⟩, H.snt, H.msl, H.msg, H.deb, H.srt, by have := H.dsm; omega⟩
theorem IT.more {K K' lo hi : Nat} {q s : Int} {T : Ten} (H : IT K lo hi q s T) (h : K ≤ K') : IT K' lo hi q s T :=
  ⟨H.cap, H.rate, H.lev, ⟨H.stk.1, by have := H.stk.2; omega⟩, ⟨H.csh.1, by have := H.csh.2; omega⟩, ⟨H.snt.1, by have := H.snt.2; omega⟩, H.msl, H.msg, H.deb, H.srt, H.dsm⟩
theorem IW.more {K K' lo : Nat} {w : Int} {A : Sta} (H : IW K lo w A) (h : K ≤ K') : IW K' lo w A :=
  ⟨H.n6, H.tm, Nat.le_trans H.ti h, H.wid, H.itv, H.pen, H.pri, H.len, H.ord, fun t ht => (H.ten t ht).more h⟩
theorem IW.nn {K lo : Nat} {w : Int} {A : Sta} (H : IW K lo w A) (hw : 0 ≤ w) (t : Nat) : (∀ x ∈ sO A, 0 ≤ oc t x) ∧ (∀ x ∈ sO A, 0 ≤ oc2 t x) := by
  constructor <;> intro x hx <;> have := (H.ord x hx).2.2.2.1
  · unfold oc; split <;> omega
  · unfold oc2; split <;> omega
theorem u1_s {α : Type} {f : Nat → α} {t : Nat} {x : α} : u1 f t x t = x := by simp [u1]
theorem u1_o {α : Type} {f : Nat → α} {t y : Nat} {x : α} (h : y ≠ t) : u1 f t x y = f y := by simp [u1, h]
/-- one tenant and the orders change -/
theorem IW.chg {K K' lo : Nat} {w w' : Int} {A : Sta} {t : Nat} {T : Ten} {l : List Ord} (H : IW K lo w A) (hK : K ≤ K') (hl : l.length ≤ 12) (ho : ∀ x ∈ l, okW w' (sN A) x) (hT : IT K' lo (sTi A + sTm A) (osum (oc t) l) (osum (oc2 t) l) T) (hr : ∀ u, u < sN A → u ≠ t → osum (oc u) l ≤ osum (oc u) (sO A) ∧ osum (oc2 u) l ≤ osum (oc2 u) (sO A)) : IW K' lo w' (wO (wT A t T) l) :=
  ⟨H.n6, H.tm, Nat.le_trans H.ti hK, H.wid, H.itv, H.pen, H.pri, hl, ho, fun u hu => by
    show IT K' lo (sTi A + sTm A) (osum (oc u) l) (osum (oc2 u) l) (u1 (sT A) t T u)
    by_cases e : u = t
    · rw [e, u1_s]; exact hT
    · rw [u1_o e]; exact ((H.ten u hu).more hK).mono (hr u hu e).1 (hr u hu e).2⟩
theorem IW.one {K K' lo : Nat} {w : Int} {A : Sta} {t : Nat} {T : Ten} (H : IW K lo w A) (hK : K ≤ K') (hT : IT K' lo (sTi A + sTm A) (osum (oc t) (sO A)) (osum (oc2 t) (sO A)) T) : IW K' lo w (wT A t T) :=
  H.chg (l := sO A) hK H.len H.ord hT (fun u _ _ => ⟨Int.le_refl _, Int.le_refl _⟩)
theorem oc_e {t : Nat} {x : Ord} (h : x.1 = t) : oc t x = x.2.2.2.toInt := if_pos h
theorem oc_n {t : Nat} {x : Ord} (h : ¬ x.1 = t) : oc t x = 0 := if_neg h
theorem oc2_le {t : Nat} {x : Ord} (h : 0 ≤ x.2.2.2.toInt) : 0 ≤ oc2 t x ∧ oc2 t x ≤ oc t x := by
  unfold oc2 oc
  by_cases e : x.1 = t
  · by_cases e2 : x.2.1 = 2
    · rw [if_pos ⟨e, e2⟩, if_pos e]; omega
    · rw [if_neg (fun q => e2 q.2), if_pos e]; omega
  · rw [if_neg (fun q => e q.1), if_neg e]; omega
end SP
