section SP
variable {E : Ev} {h : PH} {Q : Rt → PH → Prop}
theorem ring_z {j : Nat} : ∀ D : List (Int32 × Nat), (∀ x ∈ D, ¬ x.2 % 51 = j) → ring D j = 0
  | [], _ => rfl
  | x :: r, h => by
    rw [ring, if_neg (h x List.mem_cons_self), ring_z r (fun y hy => h y (List.mem_cons_of_mem _ hy))]; rfl
theorem ring_i {j : Nat} : ∀ D : List (Int32 × Nat), (∀ x ∈ D, 1 ≤ x.1.toInt) → dsI D ≤ 99 → 0 ≤ (ring D j).toInt ∧ (ring D j).toInt ≤ dsI D
  | [], _, _ => ⟨Int.le_refl _, Int.le_refl _⟩
  | x :: r, h, hb => by
    have h1 := h x List.mem_cons_self
    have h2 := dsI_nn (l := r) (fun y hy => h y (List.mem_cons_of_mem _ hy))
    rw [dsI] at hb ⊢
    have ih := ring_i (j := j) r (fun y hy => h y (List.mem_cons_of_mem _ hy)) (by omega)
    rw [ring]
    by_cases c : x.2 % 51 = j
    · rw [if_pos c, aI (by omega) (by omega)]; omega
    · rw [if_neg c, aI (by rw [tI0]; omega) (by rw [tI0]; omega), tI0]; omega
theorem edt_nil {g : Nat → Int32} {ti : Nat} (h : ∀ j, g j = 0) : ∀ n w, edt g ti n w = -9
  | 0, _ => rfl
  | n + 1, w => by rw [edt, h, if_neg (by decide), edt_nil h n]
theorem edt_at {g : Nat → Int32} {ti w0 : Nat} (hz : ∀ w, w < w0 → g ((ti + w) % 51) = 0) (hp : 0 < g ((ti + w0) % 51)) : ∀ n w, w ≤ w0 → w0 - w < n → edt g ti n w = nI (ti + w0)
  | 0, _, _, h => absurd h (by omega)
  | n + 1, w, h1, h2 => by
    rw [edt]
    by_cases c : w = w0
    · rw [c, if_pos hp]
    · rw [hz w (by omega), if_neg (by decide), edt_at hz hp n (w + 1) (by omega) (by omega)]
theorem tnum_eq {K : Nat} {A : Sta} {t : Nat} (H : IV K A) (ht : t < sN A) (j : Nat) : tnumR A t j = tnumA A t j := by
  unfold tnumR
  by_cases c : j = 8
  · rw [if_pos c, c]
    show _ = edA A t
    have T := IW.ten (A := A) H t ht
    have tm := IW.tm (A := A) H
    have s3 := osum_nn (IW.nn (A := A) H (by decide) t).2
    have dm := T.dsm
    unfold edA
    cases e : (sT A t).2.2 with
    | nil => exact (edt_nil (fun _ => rfl) _ _).symm
    | cons x r =>
      have db : ∀ d ∈ x :: r, 1 ≤ d.1.toInt ∧ sTi A + 1 ≤ d.2 ∧ d.2 ≤ sTi A + sTm A := by rw [← e]; exact T.deb
      have sr : (x :: r).Pairwise (fun a b => a.2 ≤ b.2) := by rw [← e]; exact T.srt
      have sr' := List.pairwise_cons.mp sr
      rw [e] at dm
      have dx := db x List.mem_cons_self
      have ge : ∀ y ∈ x :: r, x.2 ≤ y.2 := fun y hy => by
        rcases List.mem_cons.mp hy with q | q
        · rw [q]; exact Nat.le_refl _
        · exact sr'.1 y q
      have w0 : sTi A + (x.2 - sTi A) = x.2 := by omega
      have r1 := edt_at (g := ring (x :: r)) (ti := sTi A) (w0 := x.2 - sTi A) (fun w hw => ring_z _ (fun y hy => by have := ge y hy; have := db y hy; omega)) (by
        rw [w0, ring, if_pos rfl]
        have q := ring_i (j := x.2 % 51) r (fun y hy => (db y (List.mem_cons_of_mem _ hy)).1) (by rw [dsI] at dm; omega)
        rw [dsI] at dm
        rw [ltI, tI0, aI (by omega) (by omega)]; omega) (sTm A + 1) 0 (by omega) (by omega)
      rw [r1, w0]
  · rw [if_neg c]
end SP
