section SP
variable {E : Ev} {h : PH} {Q : Rt → PH → Prop}
/-! the whole object: what it is (the state, the remembered ones, the slots, the text) and where it lies -/
abbrev Abs : Type := Sta × List Sta × (Nat → Option Sta) × (Nat → Nat) × Nat
abbrev xA (X : Abs) : Sta := X.1
abbrev xH (X : Abs) : List Sta := X.2.1
abbrev xS (X : Abs) : Nat → Option Sta := X.2.2.1
abbrev xs (X : Abs) : Nat → Nat := X.2.2.2.1
abbrev xn (X : Abs) : Nat := X.2.2.2.2
abbrev isF (κ : Option Kd) : Prop := κ = some (.inl 7) ∨ κ = some (.inr (2, 1))
/-- what the reference and the law own stays -/
def Of (h h' : PH) : Prop := FrA (fun x => ¬ isF (kd h (tg h x).1)) h h'
theorem Of.rf {h : PH} : Of h h := FrA.rf
theorem Of.tr {h h1 h2 : PH} (a : Of h h1) (b : Of h1 h2) : Of h h2 := fun x κ e => by
  obtain ⟨a1, a2, a3, a4⟩ := a x κ e
  obtain ⟨b1, b2, b3, b4⟩ := b x κ a1
  refine ⟨b1, b2.trans a2, b3.trans a3, fun hn => ?_⟩
  have hn1 : isF (kd h (tg h x).1) := Classical.not_not.mp hn
  have w1 := a4 hn
  have hk : ∃ κ', kd h (tg h x).1 = some κ' := by rcases hn1 with e | e <;> exact ⟨_, e⟩
  obtain ⟨κ', ek⟩ := hk
  have w2 := b4 (fun q => q (by rw [a2, (a _ κ' ek).1, ← ek]; exact hn1))
  exact ⟨w2.1.trans w1.1, w2.2.trans w1.2⟩
theorem Fr.Of {S : Nat → Prop} {h h' : PH} (a : Fr S h h') (hs : ∀ z, S z → ¬ isF (kd h z)) : Of h h' := FrA.mono a.A (fun x e => hs _ e)
theorem FrA.Of {S : Nat → Prop} {h h' : PH} (a : FrA S h h') (hs : ∀ x, S x → ¬ isF (kd h (tg h x).1)) : Of h h' := FrA.mono a hs
theorem nF {κ : Kd} {h : PH} {z : Nat} (e : kd h z = some κ) (h1 : κ ≠ .inl 7) (h2 : κ ≠ .inr (2, 1)) : ¬ isF (kd h z) := fun q => by
  rw [e] at q
  rcases q with q | q
  · exact h1 (Option.some.inj q)
  · exact h2 (Option.some.inj q)
theorem nF0 {h : PH} {z : Nat} (e : kd h z = none) : ¬ isF (kd h z) := fun q => by
  rw [e] at q
  rcases q with q | q <;> cases q
def SlC (h : PH) (me sl : Nat) (ss : Nat → Option (Nat × Lt)) (v : Nat → Option Sta) : Prop := (kd h sl = some (.inr (5, 2)) ∧ tg h sl = (me, 1, 0)) ∧ ∀ j, j < 2 → gr h sl j = (ss j).map Prod.fst ∧ ((ss j = none ∧ v j = none) ∨ ∃ y B, ss j = some y ∧ v j = some B ∧ RepC h y.1 y.2 B)
def DsC (q c : Nat) (cs ss : Nat → Option (Nat × Lt)) : Prop := c ≠ q ∧ (∀ j, j < 14 → ∀ y, cs j = some y → y.1 ≠ q ∧ y.1 ≠ c) ∧ (∀ j, j < 2 → ∀ y, ss j = some y → y.1 ≠ q ∧ y.1 ≠ c) ∧ (∀ i j, i < 14 → j < 2 → ∀ y z, cs i = some y → ss j = some z → y.1 ≠ z.1) ∧ (∀ y z, ss 0 = some y → ss 1 = some z → y.1 ≠ z.1)
def WP (h : PH) (me q c u hi sl tx ka pa fa la hsa txa x : Nat) (l lc : Lt) (cs ss : Nat → Option (Nat × Lt)) (X : Abs) : Prop :=
  ObC h me q c u hi sl tx ∧ RepC h q l (xA X) ∧ Lay h c lc ∧ AuT h u ka pa fa la ∧ HiC h hi hsa cs x (xH X) ∧ TxC h tx txa (xs X) (xn X) ∧ SlC h me sl ss (xS X) ∧ DsC q c cs ss
def WC (h : PH) (me : Nat) (X : Abs) : Prop := ∃ (q c u hi sl tx ka pa fa la hsa txa x : Nat) (l lc : Lt) (cs ss : Nat → Option (Nat × Lt)), WP h me q c u hi sl tx ka pa fa la hsa txa x l lc cs ss X
section
variable {h h' : PH} {me q c u hi sl tx ka pa fa la hsa txa x : Nat} {l lc : Lt} {cs ss : Nat → Option (Nat × Lt)} {X : Abs}
theorem WP.ob (H : WP h me q c u hi sl tx ka pa fa la hsa txa x l lc cs ss X) : ObC h me q c u hi sl tx := H.1
theorem WP.rep (H : WP h me q c u hi sl tx ka pa fa la hsa txa x l lc cs ss X) : RepC h q l (xA X) := H.2.1
theorem WP.lay (H : WP h me q c u hi sl tx ka pa fa la hsa txa x l lc cs ss X) : Lay h c lc := H.2.2.1
theorem WP.au (H : WP h me q c u hi sl tx ka pa fa la hsa txa x l lc cs ss X) : AuT h u ka pa fa la := H.2.2.2.1
theorem WP.hi (H : WP h me q c u hi sl tx ka pa fa la hsa txa x l lc cs ss X) : HiC h hi hsa cs x (xH X) := H.2.2.2.2.1
theorem WP.tx (H : WP h me q c u hi sl tx ka pa fa la hsa txa x l lc cs ss X) : TxC h tx txa (xs X) (xn X) := H.2.2.2.2.2.1
theorem WP.sl (H : WP h me q c u hi sl tx ka pa fa la hsa txa x l lc cs ss X) : SlC h me sl ss (xS X) := H.2.2.2.2.2.2.1
theorem WP.ds (H : WP h me q c u hi sl tx ka pa fa la hsa txa x l lc cs ss X) : DsC q c cs ss := H.2.2.2.2.2.2.2
theorem WP.wc (H : WP h me q c u hi sl tx ka pa fa la hsa txa x l lc cs ss X) : WC h me X := ⟨_, _, _, _, _, _, _, _, _, _, _, _, _, _, _, _, _, H⟩
theorem nk {h : PH} {a b : Nat} {x y : Kd} (ha : kd h a = some x) (hb : kd h b = some y) (hn : x ≠ y) : a ≠ b := fun e => hn (by rw [e, hb] at ha; exact (Option.some.inj ha).symm)
theorem SlC.frA {S : Nat → Prop} {v : Nat → Option Sta} (H : SlC h me sl ss v) (hF : FrA S h h') (h1 : ∀ y, (tg h y).1 = me → ¬ S y) (h2 : ∀ j, j < 2 → ∀ z, ss j = some z → ∀ y, (tg h y).1 = z.1 → ¬ S y) : SlC h' me sl ss v := by
  obtain ⟨⟨k1, k2⟩, k3⟩ := H
  obtain ⟨f1, f2, f3, f4⟩ := hF sl _ k1
  refine ⟨⟨f1, f2.trans k2⟩, fun j hj => ⟨by rw [(f4 (h1 sl (by rw [k2]))).2]; exact (k3 j hj).1, ?_⟩⟩
  rcases (k3 j hj).2 with e | ⟨y, B, e1, e2, e3⟩
  · exact Or.inl e
  · exact Or.inr ⟨y, B, e1, e2, e3.frA hF (h2 j hj y e1)⟩
/-- all parts whose owners are not among those that changed stay -/
theorem WP.frA {S : Nat → Prop} {O : Nat → Prop} (H : WP h me q c u hi sl tx ka pa fa la hsa txa x l lc cs ss X) (hF : FrA S h h') (hS : ∀ y, S y → O (tg h y).1) :
    (¬ O me → ObC h' me q c u hi sl tx) ∧ (¬ O q → RepC h' q l (xA X)) ∧ (¬ O c → Lay h' c lc) ∧ (¬ O u → AuT h' u ka pa fa la) ∧ (¬ O hi → (∀ j, j < 14 → ∀ z, cs j = some z → ¬ O z.1) → HiC h' hi hsa cs x (xH X)) ∧ (¬ O tx → TxC h' tx txa (xs X) (xn X)) ∧ (¬ O me → (∀ j, j < 2 → ∀ z, ss j = some z → ¬ O z.1) → SlC h' me sl ss (xS X)) := by
  have hn : ∀ o, ¬ O o → ∀ y, (tg h y).1 = o → ¬ S y := fun o ho y e s => ho (by rw [← e]; exact hS y s)
  refine ⟨fun o => H.ob.frA hF (hn me o me (by rw [H.ob.1.2])), fun o => H.rep.frA hF (hn q o), fun o => H.lay.frA hF (hn c o), fun o => ?_, fun o o2 => H.hi.frA hF (hn hi o) (fun j hj z e => hn z.1 (o2 j hj z e)), fun o => H.tx.frA hF (hn tx o), fun o o2 => H.sl.frA hF (hn me o) (fun j hj z e => hn z.1 (o2 j hj z e))⟩
  obtain ⟨⟨a1, ⟨b1, b2, b3, b4⟩, ⟨c1, c2, c3, c4⟩, a3, a4⟩, d0, d1, d2, d3, d4⟩ := H.au
  have e0 := hF u _ a1
  have e1 := hF ka _ c1
  have e2 := hF pa _ c2
  have e3 := hF fa _ c3
  have e4 := hF la _ c4
  have g0 := (e0.2.2.2 (hn u o u d0)).2
  exact ⟨⟨e0.1, ⟨by rw [g0]; exact b1, by rw [g0]; exact b2, by rw [g0]; exact b3, by rw [g0]; exact b4⟩, ⟨e1.1, e2.1, e3.1, e4.1⟩, a3, a4⟩, by rw [e0.2.1]; exact d0, by rw [e1.2.1]; exact d1, by rw [e2.2.1]; exact d2, by rw [e3.2.1]; exact d3, by rw [e4.2.1]; exact d4⟩
theorem WP.kMe (H : WP h me q c u hi sl tx ka pa fa la hsa txa x l lc cs ss X) : kd h me = some (.inl 6) := H.ob.1.1
theorem WP.kQ (H : WP h me q c u hi sl tx ka pa fa la hsa txa x l lc cs ss X) : kd h q = some (.inl 4) := H.rep.1.1.1
theorem WP.kC (H : WP h me q c u hi sl tx ka pa fa la hsa txa x l lc cs ss X) : kd h c = some (.inl 4) := H.lay.1.1
theorem WP.kU (H : WP h me q c u hi sl tx ka pa fa la hsa txa x l lc cs ss X) : kd h u = some (.inl 0) := H.au.1.1
theorem WP.kH (H : WP h me q c u hi sl tx ka pa fa la hsa txa x l lc cs ss X) : kd h hi = some (.inl 2) := H.hi.1.1.1
theorem WP.kX (H : WP h me q c u hi sl tx ka pa fa la hsa txa x l lc cs ss X) : kd h tx = some (.inl 1) := H.tx.1.1
theorem WP.kS (H : WP h me q c u hi sl tx ka pa fa la hsa txa x l lc cs ss X) {j : Nat} (hj : j < 14) {y : Nat × Lt} (e : cs j = some y) : kd h y.1 = some (.inl 4) := (H.hi.1.2.2.2.1 j hj y e).1.1
theorem WP.kL (H : WP h me q c u hi sl tx ka pa fa la hsa txa x l lc cs ss X) {j : Nat} (hj : j < 2) {y : Nat × Lt} (e : ss j = some y) : kd h y.1 = some (.inl 4) := by
  rcases (H.sl.2 j hj).2 with e1 | ⟨z, B, e1, e2, e3⟩
  · rw [e1.1] at e; cases e
  · rw [e1] at e; cases e; exact e3.1.1.1
/-- the copy and the bench may change -/
theorem WP.cu {lc' : Lt} (H : WP h me q c u hi sl tx ka pa fa la hsa txa x l lc cs ss X) (hF : Fr (fun z => z = c ∨ z = u) h h') (hL : Lay h' c lc') (hA : AuT h' u ka pa fa la) : WP h' me q c u hi sl tx ka pa fa la hsa txa x l lc' cs ss X := by
  obtain ⟨g1, g2, g3, g4, g5, g6, g7⟩ := H.frA (O := fun z => z = c ∨ z = u) hF.A (fun y e => e)
  have nm : ¬ (me = c ∨ me = u) := fun e => e.elim (nk H.kMe H.kC (by simp)) (nk H.kMe H.kU (by simp))
  refine ⟨g1 nm, g2 (fun e => e.elim (fun e => H.ds.1 e.symm) (nk H.kQ H.kU (by simp))), hL, hA, g5 (fun e => e.elim (nk H.kH H.kC (by simp)) (nk H.kH H.kU (by simp))) (fun j hj z e1 e => e.elim (H.ds.2.1 j hj z e1).2 (nk (H.kS hj e1) H.kU (by simp))), g6 (fun e => e.elim (nk H.kX H.kC (by simp)) (nk H.kX H.kU (by simp))), g7 nm (fun j hj z e1 e => e.elim (H.ds.2.2.1 j hj z e1).2 (nk (H.kL hj e1) H.kU (by simp))), H.ds⟩
theorem WP.cuO (H : WP h me q c u hi sl tx ka pa fa la hsa txa x l lc cs ss X) (hF : Fr (fun z => z = c ∨ z = u) h h') : Of h h' := hF.Of (fun z e => by
  rcases e with e | e
  · rw [e]; exact nF H.kC (by simp) (by simp)
  · rw [e]; exact nF H.kU (by simp) (by simp))
/-- the present state (and the bench) may change -/
theorem WP.qu {l' : Lt} {B : Sta} (H : WP h me q c u hi sl tx ka pa fa la hsa txa x l lc cs ss X) (hF : Fr (fun z => z = q ∨ z = u) h h') (hR : RepC h' q l' B) (hA : AuT h' u ka pa fa la) : WP h' me q c u hi sl tx ka pa fa la hsa txa x l' lc cs ss (B, X.2) := by
  obtain ⟨g1, g2, g3, g4, g5, g6, g7⟩ := H.frA (O := fun z => z = q ∨ z = u) hF.A (fun y e => e)
  have nm : ¬ (me = q ∨ me = u) := fun e => e.elim (nk H.kMe H.kQ (by simp)) (nk H.kMe H.kU (by simp))
  refine ⟨g1 nm, hR, g3 (fun e => e.elim H.ds.1 (nk H.kC H.kU (by simp))), hA, g5 (fun e => e.elim (nk H.kH H.kQ (by simp)) (nk H.kH H.kU (by simp))) (fun j hj z e1 e => e.elim (H.ds.2.1 j hj z e1).1 (nk (H.kS hj e1) H.kU (by simp))), g6 (fun e => e.elim (nk H.kX H.kQ (by simp)) (nk H.kX H.kU (by simp))), g7 nm (fun j hj z e1 e => e.elim (H.ds.2.2.1 j hj z e1).1 (nk (H.kL hj e1) H.kU (by simp))), H.ds⟩
theorem WP.quO (H : WP h me q c u hi sl tx ka pa fa la hsa txa x l lc cs ss X) (hF : Fr (fun z => z = q ∨ z = u) h h') : Of h h' := hF.Of (fun z e => by
  rcases e with e | e
  · rw [e]; exact nF H.kQ (by simp) (by simp)
  · rw [e]; exact nF H.kU (by simp) (by simp))
theorem WP.q1 {l' : Lt} {B : Sta} (H : WP h me q c u hi sl tx ka pa fa la hsa txa x l lc cs ss X) (hF : Fr (fun z => z = q) h h') (hR : RepC h' q l' B) : WP h' me q c u hi sl tx ka pa fa la hsa txa x l' lc cs ss (B, X.2) :=
  H.qu (hF.mono (fun y e => Or.inl e)) hR (H.au.fr hF (nk H.kU H.kQ (by simp)))
theorem WP.q1O (H : WP h me q c u hi sl tx ka pa fa la hsa txa x l lc cs ss X) (hF : Fr (fun z => z = q) h h') : Of h h' := H.quO (hF.mono (fun y e => Or.inl e))
theorem WP.uI (H : WP h me q c u hi sl tx ka pa fa la hsa txa x l lc cs ss X) (hF : FrI (fun z => z = u) h h') : WP h' me q c u hi sl tx ka pa fa la hsa txa x l lc cs ss X :=
  H.cu (hF.fr.mono (fun y e => Or.inr e)) (H.lay.fr hF.fr (nk H.kC H.kU (by simp))) (H.au.mv hF)
theorem WP.uO (H : WP h me q c u hi sl tx ka pa fa la hsa txa x l lc cs ss X) (hF : FrI (fun z => z = u) h h') : Of h h' := H.cuO (hF.fr.mono (fun y e => Or.inr e))
/-- the text (and the copy) may change -/
theorem WP.xc {lc' : Lt} {txa' n : Nat} {s : Nat → Nat} (H : WP h me q c u hi sl tx ka pa fa la hsa txa x l lc cs ss X) (hF : Fr (fun z => z = tx ∨ z = c) h h') (hL : Lay h' c lc') (hX : TxC h' tx txa' s n) : WP h' me q c u hi sl tx ka pa fa la hsa txa' x l lc' cs ss (xA X, xH X, xS X, s, n) := by
  obtain ⟨g1, g2, g3, g4, g5, g6, g7⟩ := H.frA (O := fun z => z = tx ∨ z = c) hF.A (fun y e => e)
  have nm : ¬ (me = tx ∨ me = c) := fun e => e.elim (nk H.kMe H.kX (by simp)) (nk H.kMe H.kC (by simp))
  refine ⟨g1 nm, g2 (fun e => e.elim (nk H.kQ H.kX (by simp)) (fun e => H.ds.1 e.symm)), hL, g4 (fun e => e.elim (nk H.kU H.kX (by simp)) (nk H.kU H.kC (by simp))), g5 (fun e => e.elim (nk H.kH H.kX (by simp)) (nk H.kH H.kC (by simp))) (fun j hj z e1 e => e.elim (nk (H.kS hj e1) H.kX (by simp)) (H.ds.2.1 j hj z e1).2), hX, g7 nm (fun j hj z e1 e => e.elim (nk (H.kL hj e1) H.kX (by simp)) (H.ds.2.2.1 j hj z e1).2), H.ds⟩
theorem WP.xcO (H : WP h me q c u hi sl tx ka pa fa la hsa txa x l lc cs ss X) (hF : Fr (fun z => z = tx ∨ z = c) h h') : Of h h' := hF.Of (fun z e => by
  rcases e with e | e
  · rw [e]; exact nF H.kX (by simp) (by simp)
  · rw [e]; exact nF H.kC (by simp) (by simp))
/-- the history (and the present state) may change -/
theorem WP.hq {l' : Lt} {x' : Nat} {B : Sta} {hs : List Sta} (H : WP h me q c u hi sl tx ka pa fa la hsa txa x l lc cs ss X) (hF : Fr (fun z => z = hi ∨ z = q) h h') (hR : RepC h' q l' B) (hH : HiC h' hi hsa cs x' hs) : WP h' me q c u hi sl tx ka pa fa la hsa txa x' l' lc cs ss (B, hs, X.2.2) := by
  obtain ⟨g1, g2, g3, g4, g5, g6, g7⟩ := H.frA (O := fun z => z = hi ∨ z = q) hF.A (fun y e => e)
  have nm : ¬ (me = hi ∨ me = q) := fun e => e.elim (nk H.kMe H.kH (by simp)) (nk H.kMe H.kQ (by simp))
  refine ⟨g1 nm, hR, g3 (fun e => e.elim (nk H.kC H.kH (by simp)) H.ds.1), g4 (fun e => e.elim (nk H.kU H.kH (by simp)) (nk H.kU H.kQ (by simp))), hH, g6 (fun e => e.elim (nk H.kX H.kH (by simp)) (nk H.kX H.kQ (by simp))), g7 nm (fun j hj z e1 e => e.elim (nk (H.kL hj e1) H.kH (by simp)) (H.ds.2.2.1 j hj z e1).1), H.ds⟩
theorem WP.hqO (H : WP h me q c u hi sl tx ka pa fa la hsa txa x l lc cs ss X) (hF : Fr (fun z => z = hi ∨ z = q) h h') : Of h h' := hF.Of (fun z e => by
  rcases e with e | e
  · rw [e]; exact nF H.kH (by simp) (by simp)
  · rw [e]; exact nF H.kQ (by simp) (by simp))
end
def remX (X : Abs) : Abs := (xA X, (xA X :: xH X).take 14, X.2.2)
theorem sb_remember {me q c u hi sl tx ka pa fa la hsa txa x : Nat} {l lc : Lt} {cs ss : Nat → Option (Nat × Lt)} {X : Abs} (H : WP h me q c u hi sl tx ka pa fa la hsa txa x l lc cs ss X) (k : ∀ h' cs' x', WP h' me q c u hi sl tx ka pa fa la hsa txa x' l lc cs' ss (remX X) → Of h h' → Q (.inl none) h') : WPx E mX2_remember 0 [some (.ref hi), some (.ref q), none] [] (33, 492) h Q := by
  have hx14 := H.hi.2.1.2
  have nhq : hi ≠ q := nk H.kH H.kQ (by simp)
  cases e : cs x with
  | none =>
    refine sp_X2_rememberA H.hi e H.rep nhq (fun h' r lr hr hH hF => k h' _ _ ?_ (hF.Of (fun y e1 => ?_)))
    · have hrk : ∀ {z : Nat} {κ : Kd}, kd h z = some κ → z ≠ r := fun e1 => nek e1 hr
      obtain ⟨g1, g2, g3, g4, g5, g6, g7⟩ := H.frA (O := fun z => z = hi ∨ z = r) hF (fun y e => e)
      have nm : ¬ (me = hi ∨ me = r) := fun e => e.elim (nk H.kMe H.kH (by simp)) (hrk H.kMe)
      refine ⟨g1 nm, g2 (fun e => e.elim (fun e => nhq e.symm) (hrk H.kQ)), g3 (fun e => e.elim (nk H.kC H.kH (by simp)) (hrk H.kC)), g4 (fun e => e.elim (nk H.kU H.kH (by simp)) (hrk H.kU)), hH, g6 (fun e => e.elim (nk H.kX H.kH (by simp)) (hrk H.kX)), g7 nm (fun j hj z e1 e => e.elim (nk (H.kL hj e1) H.kH (by simp)) (hrk (H.kL hj e1))), H.ds.1, fun j hj y ey => ?_, H.ds.2.2.1, fun i j hi hj y z ey ez => ?_, H.ds.2.2.2.2⟩
      · by_cases ej : j = x
        · rw [ej, u1_at] at ey; cases ey; exact ⟨fun e => hrk H.kQ e.symm, fun e => hrk H.kC e.symm⟩
        · rw [u1_ne _ _ ej] at ey; exact H.ds.2.1 j hj y ey
      · by_cases ej : i = x
        · rw [ej, u1_at] at ey; cases ey; exact fun e => hrk (H.kL hj ez) e.symm
        · rw [u1_ne _ _ ej] at ey; exact H.ds.2.2.2.1 i j hi hj y z ey ez
    · rcases e1 with e1 | e1
      · rw [e1]; exact nF H.kH (by simp) (by simp)
      · rw [e1]; exact nF0 hr
  | some y =>
    obtain ⟨r, lr⟩ := y
    have hrq : r ≠ q := (H.ds.2.1 x hx14 _ e).1
    have krr : kd h r = some (.inl 4) := H.kS hx14 e
    refine sp_X2_rememberB H.hi e H.rep hrq (fun h' hH hF => k h' _ _ ?_ (hF.Of (fun z e1 => ?_)))
    · obtain ⟨g1, g2, g3, g4, g5, g6, g7⟩ := H.frA (O := fun z => z = hi ∨ z = r) hF.A (fun y e => e)
      have nm : ¬ (me = hi ∨ me = r) := fun e => e.elim (nk H.kMe H.kH (by simp)) (nk H.kMe krr (by simp))
      exact ⟨g1 nm, g2 (fun e => e.elim (fun e => nhq e.symm) (fun e => hrq e.symm)), g3 (fun e9 => e9.elim (nk H.kC H.kH (by simp)) (fun e9 => (H.ds.2.1 x hx14 _ e).2 e9.symm)), g4 (fun e => e.elim (nk H.kU H.kH (by simp)) (nk H.kU krr (by simp))), hH, g6 (fun e => e.elim (nk H.kX H.kH (by simp)) (nk H.kX krr (by simp))), g7 nm (fun j hj z e1 e9 => e9.elim (nk (H.kL hj e1) H.kH (by simp)) (fun e9 => H.ds.2.2.2.1 x j hx14 hj _ z e e1 e9.symm)), H.ds⟩
    · rcases e1 with e1 | e1
      · rw [e1]; exact nF H.kH (by simp) (by simp)
      · rw [e1]; exact nF krr (by simp) (by simp)
end SP
