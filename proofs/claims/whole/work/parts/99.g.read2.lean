section SP
variable {E : Ev} {h : PH} {Q : Rt → PH → Prop}
theorem lk_ok {s : Nat → Nat} {n : Nat} {x : Nat × Bool} (h : (lkE s n x).2.2 = false) : IRd (lkE s n x).1 := by
  have h1 := rdX_ok (s := s) (n := n) (lo := 0) (hi := 99) (k := 2) (x := (lkT s n x).2) (by decide) h
  have h2 := rdX_ok (s := s) (n := n) (lo := 1) (hi := 50) (k := 2) (x := (lkI s n x).2) (by decide) h1.2
  have h3 := rdX_ok (s := s) (n := n) (lo := 1) (hi := 20) (k := 2) (x := (lkW s n x).2) (by decide) h2.2
  have h4 := rdX_ok (s := s) (n := n) (lo := 1) (hi := 999) (k := 3) (x := ltX s n 76 x) (by decide) h3.2
  exact bg_ok h4.1 h3.1 h2.1 h1.1
theorem rt_ok {s : Nat → Nat} {n : Nat} {y : Sta × Nat × Bool} (H : IRd y.1) (hn : sN y.1 < 6) (h : (rtS s n y).2.2 = false) : IRd (rtS s n y).1 := by
  have h1 := rdX_ok (s := s) (n := n) (lo := 0) (hi := 9999) (k := 4) (x := (rtR s n y.2).2) (by decide) h
  have h2 := rdX_ok (s := s) (n := n) (lo := 0) (hi := 99) (k := 2) (x := (rtC s n y.2).2) (by decide) h1.2
  have h3 := rdX_ok (s := s) (n := n) (lo := 1) (hi := 999) (k := 3) (x := ltX s n 116 y.2) (by decide) h2.2
  exact add_ok H hn h3.1 h2.1 h1.1
theorem rtA_t {s : Nat → Nat} {n f t : Nat} {y : Sta × Nat × Bool} (h : y.2.2 = true) : rtA s n f t y = y := by
  cases f with
  | zero => rfl
  | succ f => rw [rtA, if_pos (Or.inl h)]
theorem rtA_ok {s : Nat → Nat} {n : Nat} : ∀ (f t : Nat) (y : Sta × Nat × Bool), sN y.1 = t → t + f ≤ 6 → IRd y.1 → (rtA s n f t y).2.2 = false → IRd (rtA s n f t y).1 ∧ t ≤ sN (rtA s n f t y).1 ∧ (t = 0 → 0 < f → 1 ≤ sN (rtA s n f t y).1)
  | 0, t, y, h1, _, H, _ => ⟨H, by show t ≤ sN y.1; omega, fun _ q => absurd q (by omega)⟩
  | f + 1, t, y, h1, h2, H, hf => by
    by_cases c : y.2.2 = true ∨ (0 < t ∧ ¬ (y.2.1 < n ∧ s y.2.1 = 116))
    · rw [rtA, if_pos c] at hf ⊢
      refine ⟨H, by omega, fun q => ?_⟩
      rcases c with r | r
      · rw [hf] at r; exact absurd r (by simp)
      · omega
    · rw [rtA, if_neg c] at hf ⊢
      cases e : (rtS s n y).2.2 with
      | true => rw [rtA_t e, e] at hf; exact absurd hf (by simp)
      | false =>
        obtain ⟨i1, i2, i3⟩ := rtA_ok f (t + 1) (rtS s n y) (by show sN y.1 + 1 = _; omega) (by omega) (rt_ok H (by omega) e) hf
        exact ⟨i1, by omega, fun _ _ => by omega⟩
theorem msI_ub : ∀ {l : List Int32}, (∀ x ∈ l, 1 ≤ x.toInt ∧ x.toInt ≤ 99) → msI l ≤ 99 * l.length
  | [], _ => Int.le_refl _
  | y :: r, h => by
    have := msI_ub (l := r) (fun x q => h x (List.mem_cons_of_mem _ q))
    have := h y List.mem_cons_self
    rw [msI, List.length_cons]; omega
theorem IRd.push9 {A : Sta} {t v : Nat} (H : IRd A) (ht : t < sN A) (h8 : (sT A t).2.1.length < 8) (hv : 1 ≤ v ∧ v ≤ 99) : IRd (pushA A t (nI v)) := by
  obtain ⟨a1, a2, a3, a4, a5, a6, a7, a8, a9⟩ := H
  have b := nI_b hv (by omega)
  refine ⟨a1, a2, a3, a4, a5, a6, a7, a8, fun u hu => ?_⟩
  have hu : u < sN A := hu
  by_cases e : u = t
  · have eT : sT (pushA A t (nI v)) u = ((sT A t).1, (sT A t).2.1 ++ [nI v], (sT A t).2.2) := by rw [e]; exact u1_s
    obtain ⟨c1, c2, T⟩ := a9 t ht
    have len : ((sT A t).2.1 ++ [nI v]).length ≤ 8 := by rw [List.length_append, List.length_singleton]; omega
    have ms : ∀ m ∈ (sT A t).2.1 ++ [nI v], 1 ≤ m.toInt ∧ m.toInt ≤ 99 := fun m hm => by
      rcases List.mem_append.mp hm with q | q
      · exact T.msg m q
      · rw [List.mem_singleton.mp q]; exact b
    have ub := msI_ub ms
    have s0 := T.snt
    have nn := msI_nn T.msg
    rw [eT]
    refine ⟨c1, len, T.cap, T.rate, T.lev, T.stk, T.csh, ⟨s0.1, ?_⟩, len, ms, T.deb, T.srt, T.dsm⟩
    show ((sT A t).1 5).toInt + msI ((sT A t).2.1 ++ [nI v]) ≤ 99 * (((0 : Nat) : Int) + 8)
    rw [c1, tI0]; omega
  · have eT : sT (pushA A t (nI v)) u = sT A u := u1_o e
    rw [eT]; exact a9 u hu
theorem rmA_t {s : Nat → Nat} {n f : Nat} {y : Sta × Nat × Bool} (h : y.2.2 = true) : rmA s n f y = y := by
  cases f with
  | zero => rfl
  | succ f => rw [rmA, if_pos (Or.inl h)]
theorem rm_ok {s : Nat → Nat} {n : Nat} {y : Sta × Nat × Bool} (H : IRd y.1) (h : (rmS s n y).2.2 = false) : IRd (rmS s n y).1 ∧ sN (rmS s n y).1 = sN y.1 := by
  have h0 : (rmZ s n y.1 y.2.1).2.2 = false := h
  have h1 := rdX_ok (s := s) (n := n) (lo := 1) (hi := 99) (k := 2) (x := rmQ s n y.1 y.2.1) (by decide) h0
  have h2 : (rqX y.1 s n (rmL s n y.1 y.2.1)).2 = false := h1.2
  unfold rqX at h2
  by_cases c : (rmL s n y.1 y.2.1).2 = false ∧ ((rmL s n y.1 y.2.1).1 < n ∧ 48 ≤ s (rmL s n y.1 y.2.1).1 ∧ s (rmL s n y.1 y.2.1).1 - 48 < sN y.1) ∧ (sT y.1 (s (rmL s n y.1 y.2.1).1 - 48)).2.1.length < 8
  · have e : (rmS s n y).1 = pushA y.1 (s (rmL s n y.1 y.2.1).1 - 48) (nI (rmZ s n y.1 y.2.1).1) := by
      show (if (rmZ s n y.1 y.2.1).2.2 = false then _ else _) = _
      rw [if_pos h0]
    rw [e]
    exact ⟨H.push9 c.2.1.2.2 c.2.2 h1.1, rfl⟩
  · rw [if_neg c] at h2; exact absurd h2 (by simp)
theorem rmA_ok {s : Nat → Nat} {n : Nat} : ∀ (f : Nat) (y : Sta × Nat × Bool), IRd y.1 → (rmA s n f y).2.2 = false → IRd (rmA s n f y).1 ∧ sN (rmA s n f y).1 = sN y.1
  | 0, y, H, _ => ⟨H, rfl⟩
  | f + 1, y, H, hf => by
    by_cases c : y.2.2 = true ∨ ¬ y.2.1 < n
    · rw [rmA, if_pos c]; exact ⟨H, rfl⟩
    · rw [rmA, if_neg c] at hf ⊢
      cases e : (rmS s n y).2.2 with
      | true => rw [rmA_t e, e] at hf; exact absurd hf (by simp)
      | false =>
        obtain ⟨a, b⟩ := rm_ok H e
        obtain ⟨i1, i2⟩ := rmA_ok f _ a hf
        exact ⟨i1, i2.trans b⟩
theorem rtA_le9 {s : Nat → Nat} {n : Nat} (hn : n ≤ 160) : ∀ (f t : Nat) (y : Sta × Nat × Bool), y.2.1 ≤ 160 → (rtA s n f t y).2.1 ≤ 160
  | 0, _, _, h => h
  | f + 1, t, y, h => by
    rw [rtA]
    by_cases c : y.2.2 = true ∨ (0 < t ∧ ¬ (y.2.1 < n ∧ s y.2.1 = 116))
    · rw [if_pos c]; exact h
    · rw [if_neg c]; exact rtA_le9 hn f (t + 1) _ (rtM_le hn h)
theorem rmA_le9 {s : Nat → Nat} {n : Nat} (hn : n ≤ 160) : ∀ (f : Nat) (y : Sta × Nat × Bool), y.2.1 ≤ 160 → (rmA s n f y).2.1 ≤ 160
  | 0, _, h => h
  | f + 1, y, h => by
    rw [rmA]
    by_cases c : y.2.2 = true ∨ ¬ y.2.1 < n
    · rw [if_pos c]; exact h
    · rw [if_neg c]; exact rmA_le9 hn f _ (rmZ_le hn h)
theorem rdA_le9 {s : Nat → Nat} {n : Nat} (hn : n ≤ 160) : (rdA s n).2.1 ≤ 160 := rmA_le9 hn _ _ (rtA_le9 hn _ _ _ (rdB_le hn (rdB_le hn (rdB_le hn (rdB_le hn (lt1_le (by show (0 : Nat) ≤ 160; omega) hn))))))
/-- what a good text says is a good state -/
theorem rd_ok {s : Nat → Nat} {n : Nat} (hn : n ≤ 160) (h : rdE s n = -9) : IV 0 (rdA s n).1 := by
  have hf : (rdA s n).2.2 = false := by
    cases e : (rdA s n).2.2 with
    | false => rfl
    | true =>
      exfalso
      unfold rdE at h
      rw [if_pos e] at h
      have := congrArg Int32.toInt h
      have b := rdA_le9 (s := s) hn
      rw [nIi (by omega)] at this
      have q : ((rdA s n).2.1 : Int) = -9 := this
      omega
  unfold rdA at hf ⊢
  cases e1 : (rtA s n 6 0 (lkE s n (0, false))).2.2 with
  | true => rw [rmA_t e1, e1] at hf; exact absurd hf (by simp)
  | false =>
    cases e2 : (lkE s n (0, false)).2.2 with
    | true => rw [rtA_t e2, e2] at e1; exact absurd e1 (by simp)
    | false =>
      obtain ⟨a, b, c⟩ := rtA_ok 6 0 (lkE s n (0, false)) rfl (by omega) (lk_ok e2) e1
      obtain ⟨i1, i2⟩ := rmA_ok 160 _ a hf
      exact i1.iv (by rw [i2]; exact c rfl (by omega))
end SP
