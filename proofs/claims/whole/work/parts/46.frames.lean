section SP
variable {E : Ev} {h : PH} {Q : Rt → PH → Prop}
/-- what an owner has stays where cells are made -/
theorem Lay.frA {S : Nat → Prop} {h h' : PH} {q : Nat} {l : Lt} (H : Lay h q l) (hF : FrA S h h') (hS : ∀ y, (tg h y).1 = q → ¬ S y) : Lay h' q l := by
  obtain ⟨⟨h1, h2⟩, ⟨h3, h4, h5⟩, ⟨h6, h7, h8⟩, h9, h10, h11⟩ := H
  obtain ⟨q1, q2, -, q4⟩ := hF q _ h1
  have q5 := (q4 (hS q (by rw [h2]))).2
  obtain ⟨t1, t2, -, t4⟩ := hF _ _ h4
  have t5 := (t4 (hS _ (by rw [h5]))).2
  obtain ⟨o1, o2, -, o4⟩ := hF _ _ h7
  have o5 := (o4 (hS _ (by rw [h8]))).2
  refine ⟨⟨q1, q2.trans h2⟩, ⟨by rw [q5]; exact h3, t1, t2.trans h5⟩, ⟨by rw [q5]; exact h6, o1, o2.trans h8⟩, fun t ht => ?_, fun i hi => ?_, h11⟩
  · obtain ⟨a1, ⟨a2, a3⟩, ⟨a4, a5, a6⟩, a7, a8, a9⟩ := h9 t ht
    obtain ⟨b1, b2, -, b4⟩ := hF _ _ a2
    have b5 := (b4 (hS _ (by rw [a3]))).2
    obtain ⟨c1, c2, -, -⟩ := hF _ _ a5
    obtain ⟨d1, d2, -, -⟩ := hF _ _ a8
    exact ⟨by rw [t5]; exact a1, ⟨b1, b2.trans a3⟩, ⟨by rw [b5]; exact a4, c1, c2.trans a6⟩, by rw [b5]; exact a7, d1, d2.trans a9⟩
  · obtain ⟨a1, a2, j, a3⟩ := h10 i hi
    obtain ⟨b1, b2, -, -⟩ := hF _ _ a2
    exact ⟨by rw [o5]; exact a1, b1, j, b2.trans a3⟩
theorem RepC.frA {S : Nat → Prop} {h h' : PH} {q : Nat} {l : Lt} {A : Sta} (H : RepC h q l A) (hF : FrA S h h') (hS : ∀ y, (tg h y).1 = q → ¬ S y) : RepC h' q l A := by
  obtain ⟨hL, hN, hT, hO⟩ := H
  have e0 : gi h' q = gi h q := ((hF q _ hL.1.1).2.2.2 (hS q (by rw [hL.1.2]))).1
  refine ⟨hL.frA hF hS, by unfold NumC at hN ⊢; rw [e0]; exact hN, fun t ht => ?_, fun i hi => ?_⟩
  · obtain ⟨-, ⟨k1, t1⟩, ⟨-, k2, t2⟩, -, k3, t3⟩ := hL.2.2.2.1 t (by have := hN.1.2; omega)
    have e1 := ((hF _ _ k1).2.2.2 (hS _ (by rw [t1]))).1
    have e2 := ((hF _ _ k2).2.2.2 (hS _ (by rw [t2]))).1
    have e3 := ((hF _ _ k3).2.2.2 (hS _ (by rw [t3]))).1
    have := hT t ht
    unfold TenC at this ⊢
    rw [e1, e2, e3]
    exact this
  · obtain ⟨-, k1, j, t1⟩ := hL.2.2.2.2.1 i (by have := hN.2.1.2; omega)
    have e1 := ((hF _ _ k1).2.2.2 (hS _ (by rw [t1]))).1
    have := hO i hi
    unfold OrdC at this ⊢
    rw [e1]
    exact this
theorem TxC.frA {S : Nat → Prop} {h h' : PH} {a sa : Nat} {s : Nat → Nat} {n : Nat} (H : TxC h a sa s n) (hF : FrA S h h') (hS : ∀ y, (tg h y).1 = a → ¬ S y) : TxC h' a sa s n := by
  obtain ⟨⟨h1, h2⟩, ⟨h3, h4, h5⟩, h6, h7⟩ := H
  obtain ⟨q1, q2, -, q4⟩ := hF a _ h1
  have q5 := q4 (hS a (by rw [h2]))
  obtain ⟨t1, t2, -, t4⟩ := hF _ _ h4
  have t5 := t4 (hS _ (by rw [h5]))
  exact ⟨⟨q1, q2.trans h2⟩, ⟨by rw [q5.2]; exact h3, t1, t2.trans h5⟩, ⟨by rw [q5.1]; exact h6.1, h6.2⟩, fun j hj => by rw [t5.1]; exact h7 j hj⟩
theorem HiC.frA {S : Nat → Prop} {h h' : PH} {a sa x : Nat} {cs : Nat → Option (Nat × Lt)} {hs : List Sta} (H : HiC h a sa cs x hs) (hF : FrA S h h') (hS : ∀ y, (tg h y).1 = a → ¬ S y) (hS2 : ∀ j, j < 14 → ∀ z, cs j = some z → ∀ y, (tg h y).1 = z.1 → ¬ S y) : HiC h' a sa cs x hs := by
  obtain ⟨⟨⟨h1, h2⟩, ⟨h3, h4, h5⟩, h6, h7, h8⟩, ⟨n1, n2⟩, ⟨n3, n4⟩, hE⟩ := H
  obtain ⟨q1, q2, -, q4⟩ := hF a _ h1
  have q5 := q4 (hS a (by rw [h2]))
  obtain ⟨t1, t2, -, t4⟩ := hF _ _ h4
  have t5 := t4 (hS _ (by rw [h5]))
  refine ⟨⟨⟨q1, q2.trans h2⟩, ⟨by rw [q5.2]; exact h3, t1, t2.trans h5⟩, fun j hj => by rw [t5.2]; exact h6 j hj, fun j hj z e => (h7 j hj z e).frA hF (hS2 j hj z e), h8⟩, ⟨by rw [q5.1]; exact n1, n2⟩, ⟨by rw [q5.1]; exact n3, n4⟩, fun i hi => ?_⟩
  obtain ⟨y, hy, hB⟩ := hE i hi
  exact ⟨y, hy, fun B hB2 => (hB B hB2).frA hF (hS2 _ (Nat.mod_lt _ (by decide)) y hy)⟩
end SP
