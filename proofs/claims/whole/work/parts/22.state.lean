section SP
variable {E : Ev} {h : PH} {Q : Rt → PH → Prop}
/-! what a state IS: tenants (numbers, messages, debts), orders, numbers of the link -/
abbrev Ten : Type := (Nat → Int32) × List Int32 × List (Int32 × Nat)
abbrev Ord : Type := Nat × Nat × Int32 × Int32
abbrev Sta : Type := (Nat × Nat × Nat) × (Nat → Int32) × (Nat → Ten) × List Ord
abbrev sN (A : Sta) : Nat := A.1.1
abbrev sTi (A : Sta) : Nat := A.1.2.1
abbrev sTm (A : Sta) : Nat := A.1.2.2
abbrev sG (A : Sta) : Nat → Int32 := A.2.1
abbrev sT (A : Sta) : Nat → Ten := A.2.2.1
abbrev sO (A : Sta) : List Ord := A.2.2.2
def wTi (A : Sta) (x : Nat) : Sta := ((sN A, x, sTm A), A.2)
def wG (A : Sta) (k : Nat) (v : Int32) : Sta := (A.1, upd (sG A) k v, A.2.2)
def wT (A : Sta) (t : Nat) (x : Ten) : Sta := (A.1, sG A, u1 (sT A) t x, sO A)
def wO (A : Sta) (x : List Ord) : Sta := (A.1, sG A, sT A, x)
/-- what is owed at the places of the ring -/
def ring : List (Int32 × Nat) → Nat → Int32
  | [], _ => 0
  | x :: r, j => (if x.2 % 51 = j then x.1 else 0) + ring r j
/-! where it lies in the class: the object, its two rows, tenants, their rows, orders -/
abbrev Lt : Type := Nat × Nat × (Nat → Nat) × (Nat → Nat) × (Nat → Nat) × (Nat → Nat)
abbrev lTA (l : Lt) : Nat := l.1
abbrev lOA (l : Lt) : Nat := l.2.1
abbrev lT (l : Lt) : Nat → Nat := l.2.2.1
abbrev lM (l : Lt) : Nat → Nat := l.2.2.2.1
abbrev lW (l : Lt) : Nat → Nat := l.2.2.2.2.1
abbrev lO (l : Lt) : Nat → Nat := l.2.2.2.2.2
/-- the layout of a tenant -/
def LayT (h : PH) (q : Nat) (l : Lt) (t : Nat) : Prop := gr h (lTA l) t = some (lT l t) ∧ (kd h (lT l t) = some (.inl 5) ∧ tg h (lT l t) = (q, 3, t)) ∧ (gr h (lT l t) 8 = some (lM l t) ∧ kd h (lM l t) = some (.inr (0, 8)) ∧ tg h (lM l t) = (q, 4, t)) ∧ (gr h (lT l t) 9 = some (lW l t) ∧ kd h (lW l t) = some (.inr (0, 51)) ∧ tg h (lW l t) = (q, 5, t))
def LayO (h : PH) (q : Nat) (l : Lt) (i : Nat) : Prop := gr h (lOA l) i = some (lO l i) ∧ kd h (lO l i) = some (.inl 3) ∧ ∃ j, tg h (lO l i) = (q, 6, j)
def Lay (h : PH) (q : Nat) (l : Lt) : Prop :=
  (kd h q = some (.inl 4) ∧ tg h q = (q, 0, 0)) ∧ (gr h q 0 = some (lTA l) ∧ kd h (lTA l) = some (.inr (3, 6)) ∧ tg h (lTA l) = (q, 1, 0)) ∧ (gr h q 1 = some (lOA l) ∧ kd h (lOA l) = some (.inr (4, 12)) ∧ tg h (lOA l) = (q, 2, 0)) ∧
  (∀ t, t < 6 → LayT h q l t) ∧ (∀ i, i < 12 → LayO h q l i) ∧ (∀ i j, i < 12 → j < 12 → lO l i = lO l j → i = j)
def TenC (h : PH) (l : Lt) (t : Nat) (T : Ten) : Prop := (∀ k, k < 7 → gi h (lT l t) k = T.1 k) ∧ gi h (lT l t) 7 = nI T.2.1.length ∧ T.2.1.length ≤ 8 ∧ (∀ j, j < T.2.1.length → gi h (lM l t) j = T.2.1.getD j 0) ∧ (∀ j, j < 51 → gi h (lW l t) j = ring T.2.2 j)
def OrdC (h : PH) (o n : Nat) (x : Ord) : Prop := (gi h o 0 = nI x.1 ∧ gi h o 1 = nI x.2.1 ∧ gi h o 2 = x.2.2.1 ∧ gi h o 3 = x.2.2.2) ∧ x.1 < n ∧ x.2.1 < 3
def NumC (h : PH) (q : Nat) (A : Sta) : Prop := (gi h q 2 = nI (sN A) ∧ sN A ≤ 6) ∧ (gi h q 3 = nI (sO A).length ∧ (sO A).length ≤ 12) ∧ gi h q 4 = sG A 1 ∧ gi h q 5 = sG A 2 ∧ gi h q 6 = nI (sTm A) ∧ gi h q 7 = sG A 4 ∧ gi h q 8 = nI (sTi A) ∧ gi h q 9 = sG A 6 ∧ gi h q 10 = sG A 7 ∧ gi h q 11 = sG A 9
def RepC (h : PH) (q : Nat) (l : Lt) (A : Sta) : Prop := Lay h q l ∧ NumC h q A ∧ (∀ t, t < sN A → TenC h l t (sT A t)) ∧ (∀ i, i < (sO A).length → OrdC h (lO l i) (sN A) ((sO A).getD i (0, 0, 0, 0)))
/-- only what the owners in S have may have changed; nothing was made -/
def Fr (S : Nat → Prop) (h h' : PH) : Prop := kd h' = kd h ∧ tg h' = tg h ∧ gl h' = gl h ∧ ∀ a, ¬ S (tg h a).1 → gi h' a = gi h a ∧ gr h' a = gr h a
theorem Fr.rf {S : Nat → Prop} {h : PH} : Fr S h h := ⟨rfl, rfl, rfl, fun _ _ => ⟨rfl, rfl⟩⟩
theorem Fr.tr {S : Nat → Prop} {h h1 h2 : PH} (a : Fr S h h1) (b : Fr S h1 h2) : Fr S h h2 :=
  ⟨b.1.trans a.1, b.2.1.trans a.2.1, b.2.2.1.trans a.2.2.1, fun x hx => by
    have h1 := a.2.2.2 x hx
    have h2 := b.2.2.2 x (by rw [a.2.1]; exact hx)
    exact ⟨h2.1.trans h1.1, h2.2.trans h1.2⟩⟩
theorem Fr.mono {S S' : Nat → Prop} {h h' : PH} (a : Fr S h h') (hs : ∀ x, S x → S' x) : Fr S' h h' := ⟨a.1, a.2.1, a.2.2.1, fun x hx => a.2.2.2 x (fun q => hx (hs _ q))⟩
theorem Fr.si {S : Nat → Prop} {h : PH} {a k : Nat} {v : Int32} (hs : S (tg h a).1) : Fr S h (si h a k v) :=
  ⟨rfl, rfl, rfl, fun x hx => ⟨gi_si_ne _ _ _ (fun e => hx (by rw [e]; exact hs)), rfl⟩⟩
theorem Fr.sw {S : Nat → Prop} {h : PH} {a : Nat} {f : Nat → Int32} (hs : S (tg h a).1) : Fr S h (sw h a f) :=
  ⟨rfl, rfl, rfl, fun x hx => ⟨gi_sw_ne _ _ (fun e => hx (by rw [e]; exact hs)), rfl⟩⟩
theorem Fr.sr {S : Nat → Prop} {h : PH} {a k : Nat} {v : Option Nat} (hs : S (tg h a).1) : Fr S h (sr h a k v) :=
  ⟨rfl, rfl, rfl, fun x hx => ⟨rfl, by rw [gr_sr]; exact u2_row _ _ (fun e => hx (by rw [e]; exact hs))⟩⟩
theorem ne_tg {h : PH} {a b : Nat} {x y : Tg} (ha : tg h a = x) (hb : tg h b = y) (hn : x ≠ y) : a ≠ b := fun e => hn (by rw [← ha, ← hb, e])
/-- a state of another owner stays -/
theorem LayT.fr {S : Nat → Prop} {h h' : PH} {q : Nat} {l : Lt} {t : Nat} (hF : Fr S h h') (hq : ¬ S q) (hA : tg h (lTA l) = (q, 1, 0)) (H : LayT h q l t) : LayT h' q l t := by
  obtain ⟨h1, ⟨h2, h3⟩, ⟨h4, h5, h6⟩, h7, h8, h9⟩ := H
  obtain ⟨f1, f2, f3, f4⟩ := hF
  have a1 := (f4 (lTA l) (by rw [hA]; exact hq)).2
  have a2 := (f4 (lT l t) (by rw [h3]; exact hq)).2
  exact ⟨by rw [a1]; exact h1, ⟨by rw [f1]; exact h2, by rw [f2]; exact h3⟩, ⟨by rw [a2]; exact h4, by rw [f1]; exact h5, by rw [f2]; exact h6⟩, by rw [a2]; exact h7, by rw [f1]; exact h8, by rw [f2]; exact h9⟩
theorem Lay.fr {S : Nat → Prop} {h h' : PH} {q : Nat} {l : Lt} (hF : Fr S h h') (hq : ¬ S q) (H : Lay h q l) : Lay h' q l := by
  obtain ⟨⟨h1, h2⟩, ⟨h3, h4, h5⟩, ⟨h6, h7, h8⟩, h9, h10, h11⟩ := H
  have hF' := hF
  obtain ⟨f1, f2, f3, f4⟩ := hF
  have a0 := (f4 q (by rw [h2]; exact hq)).2
  have a1 := (f4 (lOA l) (by rw [h8]; exact hq)).2
  refine ⟨⟨by rw [f1]; exact h1, by rw [f2]; exact h2⟩, ⟨by rw [a0]; exact h3, by rw [f1]; exact h4, by rw [f2]; exact h5⟩, ⟨by rw [a0]; exact h6, by rw [f1]; exact h7, by rw [f2]; exact h8⟩, fun t ht => (h9 t ht).fr hF' hq h5, fun i hi => ?_, h11⟩
  obtain ⟨b1, b2, j, b3⟩ := h10 i hi
  exact ⟨by rw [a1]; exact b1, by rw [f1]; exact b2, j, by rw [f2]; exact b3⟩
theorem RepC.fr {S : Nat → Prop} {h h' : PH} {q : Nat} {l : Lt} {A : Sta} (hF : Fr S h h') (hq : ¬ S q) (H : RepC h q l A) : RepC h' q l A := by
  obtain ⟨hL, hN, hT, hO⟩ := H
  obtain ⟨f1, f2, f3, f4⟩ := id hF
  have e0 : gi h' q = gi h q := (f4 q (by rw [hL.1.2]; exact hq)).1
  refine ⟨hL.fr hF hq, by unfold NumC at hN ⊢; rw [e0]; exact hN, fun t ht => ?_, fun i hi => ?_⟩
  · obtain ⟨-, ⟨-, t1⟩, ⟨-, -, t2⟩, -, -, t3⟩ := hL.2.2.2.1 t (by have := hN.1.2; omega)
    have e1 := (f4 (lT l t) (by rw [t1]; exact hq)).1
    have e2 := (f4 (lM l t) (by rw [t2]; exact hq)).1
    have e3 := (f4 (lW l t) (by rw [t3]; exact hq)).1
    have := hT t ht
    unfold TenC at this ⊢
    rw [e1, e2, e3]
    exact this
  · obtain ⟨-, -, j, t1⟩ := hL.2.2.2.2.1 i (by have := hN.2.1.2; omega)
    have e1 := (f4 (lO l i) (by rw [t1]; exact hq)).1
    have := hO i hi
    unfold OrdC at this ⊢
    rw [e1]
    exact this
/-! stores into a state -/
theorem RepC.num {h h' : PH} {q : Nat} {l : Lt} {A A' : Sta} (H : RepC h q l A) (hk : kd h' = kd h) (hr : gr h' = gr h) (ht : tg h' = tg h) (hne : ∀ x, x ≠ q → gi h' x = gi h x) (hN : NumC h' q A') (hT : sT A' = sT A) (hn : sN A' = sN A) (hO : sO A' = sO A) : RepC h' q l A' := by
  obtain ⟨hL, hN0, hT0, hO0⟩ := H
  have hL' : Lay h' q l := by
    unfold Lay LayT LayO at hL ⊢
    rw [hk, hr, ht]; exact hL
  refine ⟨hL', hN, fun t h1 => ?_, fun i h1 => ?_⟩
  · rw [hn] at h1
    obtain ⟨-, ⟨-, t1⟩, ⟨-, -, t2⟩, -, -, t3⟩ := hL.2.2.2.1 t (by have := hN0.1.2; omega)
    have e0 := hL.1.2
    have := hT0 t h1
    unfold TenC at this ⊢
    rw [hT, hne _ (ne_tg t1 e0 (by simp)), hne _ (ne_tg t2 e0 (by simp)), hne _ (ne_tg t3 e0 (by simp))]
    exact this
  · rw [hO] at h1
    obtain ⟨-, -, j, t1⟩ := hL.2.2.2.2.1 i (by have := hN0.2.1.2; omega)
    have := hO0 i h1
    unfold OrdC at this ⊢
    rw [hO, hn, hne _ (ne_tg t1 hL.1.2 (by simp))]
    exact this
theorem RepC.ten {h h' : PH} {q : Nat} {l : Lt} {A : Sta} {t : Nat} {T : Ten} (H : RepC h q l A) (htn : t < 6) (hk : kd h' = kd h) (hr : gr h' = gr h) (ht : tg h' = tg h) (hne : ∀ x, x ≠ lT l t → x ≠ lM l t → x ≠ lW l t → gi h' x = gi h x) (hT : TenC h' l t T) : RepC h' q l (wT A t T) := by
  obtain ⟨hL, hN0, hT0, hO0⟩ := H
  have hL' : Lay h' q l := by
    unfold Lay LayT LayO at hL ⊢
    rw [hk, hr, ht]; exact hL
  obtain ⟨-, ⟨-, t1⟩, ⟨-, -, t2⟩, -, -, t3⟩ := hL.2.2.2.1 t htn
  refine ⟨hL', ?_, fun t' h1 => ?_, fun i h1 => ?_⟩
  · have e0 := hL.1.2
    show NumC h' q A
    unfold NumC at hN0 ⊢
    rw [hne q (ne_tg e0 t1 (by simp)) (ne_tg e0 t2 (by simp)) (ne_tg e0 t3 (by simp))]
    exact hN0
  · have hn := hN0.1.2
    have h1' : t' < sN A := h1
    show TenC h' l t' (u1 (sT A) t T t')
    by_cases e : t' = t
    · subst e; rw [u1_at]; exact hT
    · rw [u1_ne _ _ e]
      obtain ⟨-, ⟨-, s1⟩, ⟨-, -, s2⟩, -, -, s3⟩ := hL.2.2.2.1 t' (by omega)
      have := hT0 t' h1'
      unfold TenC at this ⊢
      rw [hne _ (ne_tg s1 t1 (by simp [e])) (ne_tg s1 t2 (by simp)) (ne_tg s1 t3 (by simp)), hne _ (ne_tg s2 t1 (by simp)) (ne_tg s2 t2 (by simp [e])) (ne_tg s2 t3 (by simp)), hne _ (ne_tg s3 t1 (by simp)) (ne_tg s3 t2 (by simp)) (ne_tg s3 t3 (by simp [e]))]
      exact this
  · have h1' : i < (sO A).length := h1
    obtain ⟨-, -, j, s1⟩ := hL.2.2.2.2.1 i (by have := hN0.2.1.2; omega)
    have := hO0 i h1'
    show OrdC h' (lO l i) (sN A) ((sO A).getD i (0, 0, 0, 0))
    unfold OrdC at this ⊢
    rw [hne _ (ne_tg s1 t1 (by simp)) (ne_tg s1 t2 (by simp)) (ne_tg s1 t3 (by simp))]
    exact this
theorem RepC.ord {h h' : PH} {q : Nat} {l : Lt} {A : Sta} {i : Nat} {x : Ord} (H : RepC h q l A) (hi : i < (sO A).length) (hk : kd h' = kd h) (hr : gr h' = gr h) (ht : tg h' = tg h) (hne : ∀ x, x ≠ lO l i → gi h' x = gi h x) (hx : OrdC h' (lO l i) (sN A) x) : RepC h' q l (wO A ((sO A).set i x)) := by
  obtain ⟨hL, hN0, hT0, hO0⟩ := H
  have hL' : Lay h' q l := by
    unfold Lay LayT LayO at hL ⊢
    rw [hk, hr, ht]; exact hL
  have hi12 : i < 12 := by have := hN0.2.1.2; omega
  obtain ⟨-, -, j, t1⟩ := hL.2.2.2.2.1 i hi12
  refine ⟨hL', ?_, fun t' h1 => ?_, fun i' h1 => ?_⟩
  · show NumC h' q (wO A ((sO A).set i x))
    unfold NumC at hN0 ⊢
    rw [hne q (ne_tg hL.1.2 t1 (by simp))]
    simpa [wO, sO, sN, sG, sTm, sTi] using hN0
  · have hn := hN0.1.2
    have h1' : t' < sN A := h1
    obtain ⟨-, ⟨-, s1⟩, ⟨-, -, s2⟩, -, -, s3⟩ := hL.2.2.2.1 t' (by omega)
    have := hT0 t' h1'
    show TenC h' l t' (sT A t')
    unfold TenC at this ⊢
    rw [hne _ (ne_tg s1 t1 (by simp)), hne _ (ne_tg s2 t1 (by simp)), hne _ (ne_tg s3 t1 (by simp))]
    exact this
  · have h2 : i' < (sO A).length := by simpa [wO, sO] using h1
    have h12 : i' < 12 := by have := hN0.2.1.2; omega
    show OrdC h' (lO l i') (sN A) (((sO A).set i x).getD i' (0, 0, 0, 0))
    by_cases e : i' = i
    · subst e
      rw [List.getD_eq_getElem?_getD, List.getElem?_set_self hi]
      exact hx
    · rw [List.getD_eq_getElem?_getD, List.getElem?_set_ne (Ne.symm e), ← List.getD_eq_getElem?_getD]
      have := hO0 i' h2
      unfold OrdC at this ⊢
      rw [hne _ (fun q9 => e (hL.2.2.2.2.2 i' i h12 hi12 q9))]
      exact this
end SP
