section SP
variable {E : Ev} {h : PH} {Q : Rt → PH → Prop}
/-! the whole object: what it is (the state, the remembered ones, the slots, the text) and where it lies -/
abbrev Abs : Type := Sta × List Sta × (Nat → Option Sta) × (Nat → Nat) × Nat
abbrev xA (X : Abs) : Sta := X.1
abbrev xH (X : Abs) : List Sta := X.2.1
abbrev xS (X : Abs) : Nat → Option Sta := X.2.2.1
abbrev xs (X : Abs) : Nat → Nat := X.2.2.2.1
abbrev xn (X : Abs) : Nat := X.2.2.2.2
abbrev isF (κ : Option Kd) : Prop := κ = some (.inl 7) ∨ κ = some (.inr (2, 1))
/-- what the reference and the law own stays -/
def Of (h h' : PH) : Prop := FrA (fun x => ¬ isF (kd h (tg h x).1)) h h'
theorem Of.rf {h : PH} : Of h h := FrA.rf
theorem Of.tr {h h1 h2 : PH} (a : Of h h1) (b : Of h1 h2) : Of h h2 := fun x κ e => by
  obtain ⟨a1, a2, a3, a4⟩ := a x κ e
  obtain ⟨b1, b2, b3, b4⟩ := b x κ a1
  refine ⟨b1, b2.trans a2, b3.trans a3, fun hn => ?_⟩
  have hn1 : isF (kd h (tg h x).1) := Classical.not_not.mp hn
  have w1 := a4 hn
  have hk : ∃ κ', kd h (tg h x).1 = some κ' := by rcases hn1 with e | e <;> exact ⟨_, e⟩
  obtain ⟨κ', ek⟩ := hk
  have w2 := b4 (fun q => q (by rw [a2, (a _ κ' ek).1, ← ek]; exact hn1))
  exact ⟨w2.1.trans w1.1, w2.2.trans w1.2⟩
theorem Fr.Of {S : Nat → Prop} {h h' : PH} (a : Fr S h h') (hs : ∀ z, S z → ¬ isF (kd h z)) : Of h h' := FrA.mono a.A (fun x e => hs _ e)
theorem FrA.Of {S : Nat → Prop} {h h' : PH} (a : FrA S h h') (hs : ∀ x, S x → ¬ isF (kd h (tg h x).1)) : Of h h' := FrA.mono a hs
theorem nF {κ : Kd} {h : PH} {z : Nat} (e : kd h z = some κ) (h1 : κ ≠ .inl 7) (h2 : κ ≠ .inr (2, 1)) : ¬ isF (kd h z) := fun q => by
  rw [e] at q
  rcases q with q | q
  · exact h1 (Option.some.inj q)
  · exact h2 (Option.some.inj q)
theorem nF0 {h : PH} {z : Nat} (e : kd h z = none) : ¬ isF (kd h z) := fun q => by
  rw [e] at q
  rcases q with q | q <;> cases q
/-- the slots: where a state lies, and (the row fz) whether the slot is filled; an emptied slot keeps its state -/
def SlZ (h : PH) (me sl fz : Nat) (ss : Nat → Option (Nat × Lt)) (v : Nat → Option Sta) : Prop := (gr h me 5 = some fz ∧ kd h fz = some (.inr (1, 2)) ∧ tg h fz = (me, 2, 0)) ∧ ∀ j, j < 2 → gr h sl j = (ss j).map Prod.fst ∧ ((ss j = none ∧ v j = none) ∨ ∃ y B, ss j = some y ∧ RepC h y.1 y.2 B ∧ ((gi h fz j = 0 ∧ v j = none) ∨ (gi h fz j = 1 ∧ v j = some B)))
def SlC (h : PH) (me sl : Nat) (ss : Nat → Option (Nat × Lt)) (v : Nat → Option Sta) : Prop := (kd h sl = some (.inr (5, 2)) ∧ tg h sl = (me, 1, 0)) ∧ ∃ fz, SlZ h me sl fz ss v
def DsC (q c : Nat) (cs ss : Nat → Option (Nat × Lt)) : Prop := c ≠ q ∧ (∀ j, j < 14 → ∀ y, cs j = some y → y.1 ≠ q ∧ y.1 ≠ c) ∧ (∀ j, j < 2 → ∀ y, ss j = some y → y.1 ≠ q ∧ y.1 ≠ c) ∧ (∀ i j, i < 14 → j < 2 → ∀ y z, cs i = some y → ss j = some z → y.1 ≠ z.1) ∧ (∀ y z, ss 0 = some y → ss 1 = some z → y.1 ≠ z.1)
def WP (h : PH) (me q c u hi sl tx ka pa fa la hsa txa x : Nat) (l lc : Lt) (cs ss : Nat → Option (Nat × Lt)) (X : Abs) : Prop :=
  ObC h me q c u hi sl tx ∧ RepC h q l (xA X) ∧ Lay h c lc ∧ AuT h u ka pa fa la ∧ HiC h hi hsa cs x (xH X) ∧ TxC h tx txa (xs X) (xn X) ∧ SlC h me sl ss (xS X) ∧ DsC q c cs ss
def WC (h : PH) (me : Nat) (X : Abs) : Prop := ∃ (q c u hi sl tx ka pa fa la hsa txa x : Nat) (l lc : Lt) (cs ss : Nat → Option (Nat × Lt)), WP h me q c u hi sl tx ka pa fa la hsa txa x l lc cs ss X
section
variable {h h' : PH} {me q c u hi sl tx ka pa fa la hsa txa x : Nat} {l lc : Lt} {cs ss : Nat → Option (Nat × Lt)} {X : Abs}
theorem WP.ob (H : WP h me q c u hi sl tx ka pa fa la hsa txa x l lc cs ss X) : ObC h me q c u hi sl tx := H.1
theorem WP.rep (H : WP h me q c u hi sl tx ka pa fa la hsa txa x l lc cs ss X) : RepC h q l (xA X) := H.2.1
theorem WP.lay (H : WP h me q c u hi sl tx ka pa fa la hsa txa x l lc cs ss X) : Lay h c lc := H.2.2.1
theorem WP.au (H : WP h me q c u hi sl tx ka pa fa la hsa txa x l lc cs ss X) : AuT h u ka pa fa la := H.2.2.2.1
theorem WP.pH (H : WP h me q c u hi sl tx ka pa fa la hsa txa x l lc cs ss X) : HiC h hi hsa cs x (xH X) := H.2.2.2.2.1
theorem WP.pX (H : WP h me q c u hi sl tx ka pa fa la hsa txa x l lc cs ss X) : TxC h tx txa (xs X) (xn X) := H.2.2.2.2.2.1
theorem WP.pS (H : WP h me q c u hi sl tx ka pa fa la hsa txa x l lc cs ss X) : SlC h me sl ss (xS X) := H.2.2.2.2.2.2.1
theorem WP.ds (H : WP h me q c u hi sl tx ka pa fa la hsa txa x l lc cs ss X) : DsC q c cs ss := H.2.2.2.2.2.2.2
theorem WP.wc (H : WP h me q c u hi sl tx ka pa fa la hsa txa x l lc cs ss X) : WC h me X := ⟨_, _, _, _, _, _, _, _, _, _, _, _, _, _, _, _, _, H⟩
theorem nk {h : PH} {a b : Nat} {x y : Kd} (ha : kd h a = some x) (hb : kd h b = some y) (hn : x ≠ y) : a ≠ b := fun e => hn (by rw [e, hb] at ha; exact (Option.some.inj ha).symm)
theorem SlC.frA {S : Nat → Prop} {v : Nat → Option Sta} (H : SlC h me sl ss v) (hm : kd h me = some (.inl 6) ∧ tg h me = (me, 0, 0)) (hF : FrA S h h') (h1 : ∀ y, (tg h y).1 = me → ¬ S y) (h2 : ∀ j, j < 2 → ∀ z, ss j = some z → ∀ y, (tg h y).1 = z.1 → ¬ S y) : SlC h' me sl ss v := by
  obtain ⟨⟨k1, k2⟩, fz, ⟨z1, z2, z3⟩, k3⟩ := H
  obtain ⟨f1, f2, f3, f4⟩ := hF sl _ k1
  obtain ⟨a1, a2, a3, a4⟩ := hF fz _ z2
  have e5 := (hF me _ hm.1).2.2.2 (h1 me (by rw [hm.2]))
  have e6 := a4 (h1 fz (by rw [z3]))
  refine ⟨⟨f1, f2.trans k2⟩, fz, ⟨by rw [e5.2]; exact z1, a1, a2.trans z3⟩, fun j hj => ⟨by rw [(f4 (h1 sl (by rw [k2]))).2]; exact (k3 j hj).1, ?_⟩⟩
  rcases (k3 j hj).2 with e | ⟨y, B, e1, e2, e3⟩
  · exact Or.inl e
  · exact Or.inr ⟨y, B, e1, e2.frA hF (h2 j hj y e1), by rw [e6.1]; exact e3⟩
/-- all parts whose owners are not among those that changed stay -/
theorem WP.frA {S : Nat → Prop} {O : Nat → Prop} (H : WP h me q c u hi sl tx ka pa fa la hsa txa x l lc cs ss X) (hF : FrA S h h') (hS : ∀ y, S y → O (tg h y).1) :
    (¬ O me → ObC h' me q c u hi sl tx) ∧ (¬ O q → RepC h' q l (xA X)) ∧ (¬ O c → Lay h' c lc) ∧ (¬ O u → AuT h' u ka pa fa la) ∧ (¬ O hi → (∀ j, j < 14 → ∀ z, cs j = some z → ¬ O z.1) → HiC h' hi hsa cs x (xH X)) ∧ (¬ O tx → TxC h' tx txa (xs X) (xn X)) ∧ (¬ O me → (∀ j, j < 2 → ∀ z, ss j = some z → ¬ O z.1) → SlC h' me sl ss (xS X)) := by
  have hn : ∀ o, ¬ O o → ∀ y, (tg h y).1 = o → ¬ S y := fun o ho y e s => ho (by rw [← e]; exact hS y s)
  refine ⟨fun o => H.ob.frA hF (hn me o me (by rw [H.ob.1.2])), fun o => H.rep.frA hF (hn q o), fun o => H.lay.frA hF (hn c o), fun o => ?_, fun o o2 => H.pH.frA hF (hn hi o) (fun j hj z e => hn z.1 (o2 j hj z e)), fun o => H.pX.frA hF (hn tx o), fun o o2 => H.pS.frA H.ob.1 hF (hn me o) (fun j hj z e => hn z.1 (o2 j hj z e))⟩
  obtain ⟨⟨a1, ⟨b1, b2, b3, b4⟩, ⟨c1, c2, c3, c4⟩, a3, a4⟩, d0, d1, d2, d3, d4⟩ := H.au
  have e0 := hF u _ a1
  have e1 := hF ka _ c1
  have e2 := hF pa _ c2
  have e3 := hF fa _ c3
  have e4 := hF la _ c4
  have g0 := (e0.2.2.2 (hn u o u d0)).2
  exact ⟨⟨e0.1, ⟨by rw [g0]; exact b1, by rw [g0]; exact b2, by rw [g0]; exact b3, by rw [g0]; exact b4⟩, ⟨e1.1, e2.1, e3.1, e4.1⟩, a3, a4⟩, by rw [e0.2.1]; exact d0, by rw [e1.2.1]; exact d1, by rw [e2.2.1]; exact d2, by rw [e3.2.1]; exact d3, by rw [e4.2.1]; exact d4⟩
theorem WP.kMe (H : WP h me q c u hi sl tx ka pa fa la hsa txa x l lc cs ss X) : kd h me = some (.inl 6) := H.ob.1.1
theorem WP.kQ (H : WP h me q c u hi sl tx ka pa fa la hsa txa x l lc cs ss X) : kd h q = some (.inl 4) := H.rep.1.1.1
theorem WP.kC (H : WP h me q c u hi sl tx ka pa fa la hsa txa x l lc cs ss X) : kd h c = some (.inl 4) := H.lay.1.1
theorem WP.kU (H : WP h me q c u hi sl tx ka pa fa la hsa txa x l lc cs ss X) : kd h u = some (.inl 0) := H.au.1.1
theorem WP.kH (H : WP h me q c u hi sl tx ka pa fa la hsa txa x l lc cs ss X) : kd h hi = some (.inl 2) := H.pH.1.1.1
theorem WP.kX (H : WP h me q c u hi sl tx ka pa fa la hsa txa x l lc cs ss X) : kd h tx = some (.inl 1) := H.pX.1.1
theorem WP.kS (H : WP h me q c u hi sl tx ka pa fa la hsa txa x l lc cs ss X) {j : Nat} (hj : j < 14) {y : Nat × Lt} (e : cs j = some y) : kd h y.1 = some (.inl 4) := (H.pH.1.2.2.2.1 j hj y e).1.1
theorem WP.kL (H : WP h me q c u hi sl tx ka pa fa la hsa txa x l lc cs ss X) {j : Nat} (hj : j < 2) {y : Nat × Lt} (e : ss j = some y) : kd h y.1 = some (.inl 4) := by
  obtain ⟨-, fz, -, k3⟩ := H.pS
  rcases (k3 j hj).2 with e1 | ⟨z, B, e1, e2, e3⟩
  · rw [e1.1] at e; cases e
  · rw [e1] at e; cases e; exact e2.1.1.1
/-- the copy and the bench may change -/
theorem WP.cu {lc' : Lt} (H : WP h me q c u hi sl tx ka pa fa la hsa txa x l lc cs ss X) (hF : Fr (fun z => z = c ∨ z = u) h h') (hL : Lay h' c lc') (hA : AuT h' u ka pa fa la) : WP h' me q c u hi sl tx ka pa fa la hsa txa x l lc' cs ss X := by
  obtain ⟨g1, g2, g3, g4, g5, g6, g7⟩ := H.frA (O := fun z => z = c ∨ z = u) hF.A (fun y e => e)
  have nm : ¬ (me = c ∨ me = u) := fun e => e.elim (nk H.kMe H.kC (by simp)) (nk H.kMe H.kU (by simp))
  refine ⟨g1 nm, g2 (fun e => e.elim (fun e => H.ds.1 e.symm) (nk H.kQ H.kU (by simp))), hL, hA, g5 (fun e => e.elim (nk H.kH H.kC (by simp)) (nk H.kH H.kU (by simp))) (fun j hj z e1 e => e.elim (H.ds.2.1 j hj z e1).2 (nk (H.kS hj e1) H.kU (by simp))), g6 (fun e => e.elim (nk H.kX H.kC (by simp)) (nk H.kX H.kU (by simp))), g7 nm (fun j hj z e1 e => e.elim (H.ds.2.2.1 j hj z e1).2 (nk (H.kL hj e1) H.kU (by simp))), H.ds⟩
theorem WP.cuO (H : WP h me q c u hi sl tx ka pa fa la hsa txa x l lc cs ss X) (hF : Fr (fun z => z = c ∨ z = u) h h') : Of h h' := hF.Of (fun z e => by
  rcases e with e | e
  · rw [e]; exact nF H.kC (by simp) (by simp)
  · rw [e]; exact nF H.kU (by simp) (by simp))
/-- the present state (and the bench) may change -/
theorem WP.qu {l' : Lt} {B : Sta} (H : WP h me q c u hi sl tx ka pa fa la hsa txa x l lc cs ss X) (hF : Fr (fun z => z = q ∨ z = u) h h') (hR : RepC h' q l' B) (hA : AuT h' u ka pa fa la) : WP h' me q c u hi sl tx ka pa fa la hsa txa x l' lc cs ss (B, X.2) := by
  obtain ⟨g1, g2, g3, g4, g5, g6, g7⟩ := H.frA (O := fun z => z = q ∨ z = u) hF.A (fun y e => e)
  have nm : ¬ (me = q ∨ me = u) := fun e => e.elim (nk H.kMe H.kQ (by simp)) (nk H.kMe H.kU (by simp))
  refine ⟨g1 nm, hR, g3 (fun e => e.elim H.ds.1 (nk H.kC H.kU (by simp))), hA, g5 (fun e => e.elim (nk H.kH H.kQ (by simp)) (nk H.kH H.kU (by simp))) (fun j hj z e1 e => e.elim (H.ds.2.1 j hj z e1).1 (nk (H.kS hj e1) H.kU (by simp))), g6 (fun e => e.elim (nk H.kX H.kQ (by simp)) (nk H.kX H.kU (by simp))), g7 nm (fun j hj z e1 e => e.elim (H.ds.2.2.1 j hj z e1).1 (nk (H.kL hj e1) H.kU (by simp))), H.ds⟩
theorem WP.quO (H : WP h me q c u hi sl tx ka pa fa la hsa txa x l lc cs ss X) (hF : Fr (fun z => z = q ∨ z = u) h h') : Of h h' := hF.Of (fun z e => by
  rcases e with e | e
  · rw [e]; exact nF H.kQ (by simp) (by simp)
  · rw [e]; exact nF H.kU (by simp) (by simp))
theorem WP.q1 {l' : Lt} {B : Sta} (H : WP h me q c u hi sl tx ka pa fa la hsa txa x l lc cs ss X) (hF : Fr (fun z => z = q) h h') (hR : RepC h' q l' B) : WP h' me q c u hi sl tx ka pa fa la hsa txa x l' lc cs ss (B, X.2) :=
  H.qu (hF.mono (fun y e => Or.inl e)) hR (H.au.fr hF (nk H.kU H.kQ (by simp)))
theorem WP.q1O (H : WP h me q c u hi sl tx ka pa fa la hsa txa x l lc cs ss X) (hF : Fr (fun z => z = q) h h') : Of h h' := H.quO (hF.mono (fun y e => Or.inl e))
theorem WP.uI (H : WP h me q c u hi sl tx ka pa fa la hsa txa x l lc cs ss X) (hF : FrI (fun z => z = u) h h') : WP h' me q c u hi sl tx ka pa fa la hsa txa x l lc cs ss X :=
  H.cu (hF.fr.mono (fun y e => Or.inr e)) (H.lay.fr hF.fr (nk H.kC H.kU (by simp))) (H.au.mv hF)
theorem WP.uO (H : WP h me q c u hi sl tx ka pa fa la hsa txa x l lc cs ss X) (hF : FrI (fun z => z = u) h h') : Of h h' := H.cuO (hF.fr.mono (fun y e => Or.inr e))
/-- the text (and the copy) may change -/
theorem WP.xc {lc' : Lt} {txa' n : Nat} {s : Nat → Nat} (H : WP h me q c u hi sl tx ka pa fa la hsa txa x l lc cs ss X) (hF : Fr (fun z => z = tx ∨ z = c) h h') (hL : Lay h' c lc') (hX : TxC h' tx txa' s n) : WP h' me q c u hi sl tx ka pa fa la hsa txa' x l lc' cs ss (xA X, xH X, xS X, s, n) := by
  obtain ⟨g1, g2, g3, g4, g5, g6, g7⟩ := H.frA (O := fun z => z = tx ∨ z = c) hF.A (fun y e => e)
  have nm : ¬ (me = tx ∨ me = c) := fun e => e.elim (nk H.kMe H.kX (by simp)) (nk H.kMe H.kC (by simp))
  refine ⟨g1 nm, g2 (fun e => e.elim (nk H.kQ H.kX (by simp)) (fun e => H.ds.1 e.symm)), hL, g4 (fun e => e.elim (nk H.kU H.kX (by simp)) (nk H.kU H.kC (by simp))), g5 (fun e => e.elim (nk H.kH H.kX (by simp)) (nk H.kH H.kC (by simp))) (fun j hj z e1 e => e.elim (nk (H.kS hj e1) H.kX (by simp)) (H.ds.2.1 j hj z e1).2), hX, g7 nm (fun j hj z e1 e => e.elim (nk (H.kL hj e1) H.kX (by simp)) (H.ds.2.2.1 j hj z e1).2), H.ds⟩
theorem WP.xcO (H : WP h me q c u hi sl tx ka pa fa la hsa txa x l lc cs ss X) (hF : Fr (fun z => z = tx ∨ z = c) h h') : Of h h' := hF.Of (fun z e => by
  rcases e with e | e
  · rw [e]; exact nF H.kX (by simp) (by simp)
  · rw [e]; exact nF H.kC (by simp) (by simp))
/-- the history (and the present state) may change -/
theorem WP.hq {l' : Lt} {x' : Nat} {B : Sta} {hs : List Sta} (H : WP h me q c u hi sl tx ka pa fa la hsa txa x l lc cs ss X) (hF : Fr (fun z => z = hi ∨ z = q) h h') (hR : RepC h' q l' B) (hH : HiC h' hi hsa cs x' hs) : WP h' me q c u hi sl tx ka pa fa la hsa txa x' l' lc cs ss (B, hs, X.2.2) := by
  obtain ⟨g1, g2, g3, g4, g5, g6, g7⟩ := H.frA (O := fun z => z = hi ∨ z = q) hF.A (fun y e => e)
  have nm : ¬ (me = hi ∨ me = q) := fun e => e.elim (nk H.kMe H.kH (by simp)) (nk H.kMe H.kQ (by simp))
  refine ⟨g1 nm, hR, g3 (fun e => e.elim (nk H.kC H.kH (by simp)) H.ds.1), g4 (fun e => e.elim (nk H.kU H.kH (by simp)) (nk H.kU H.kQ (by simp))), hH, g6 (fun e => e.elim (nk H.kX H.kH (by simp)) (nk H.kX H.kQ (by simp))), g7 nm (fun j hj z e1 e => e.elim (nk (H.kL hj e1) H.kH (by simp)) (H.ds.2.2.1 j hj z e1).1), H.ds⟩
theorem WP.hqO (H : WP h me q c u hi sl tx ka pa fa la hsa txa x l lc cs ss X) (hF : Fr (fun z => z = hi ∨ z = q) h h') : Of h h' := hF.Of (fun z e => by
  rcases e with e | e
  · rw [e]; exact nF H.kH (by simp) (by simp)
  · rw [e]; exact nF H.kQ (by simp) (by simp))
end
def remX (X : Abs) : Abs := (xA X, (xA X :: xH X).take 14, X.2.2)
theorem sb_remember {me q c u hi sl tx ka pa fa la hsa txa x : Nat} {l lc : Lt} {cs ss : Nat → Option (Nat × Lt)} {X : Abs} (H : WP h me q c u hi sl tx ka pa fa la hsa txa x l lc cs ss X) (k : ∀ h' cs' x', WP h' me q c u hi sl tx ka pa fa la hsa txa x' l lc cs' ss (remX X) → Of h h' → Q (.inl none) h') : WPx E mX2_remember 0 [some (.ref hi), some (.ref q), none] [] (33, 492) h Q := by
  have hx14 := H.pH.2.1.2
  have nhq : hi ≠ q := nk H.kH H.kQ (by simp)
  cases e : cs x with
  | none =>
    refine sp_X2_rememberA H.pH e H.rep nhq (fun h' r lr hr hH hF => k h' (u1 cs x (some (r, lr))) ((x + 1) % 14) ?_ (hF.Of (fun y e1 => ?_)))
    · have hrk : ∀ {z : Nat} {κ : Kd}, kd h z = some κ → z ≠ r := fun e1 => nek e1 hr
      obtain ⟨g1, g2, g3, g4, g5, g6, g7⟩ := H.frA (O := fun z => z = hi ∨ z = r) hF (fun y e => e)
      have nm : ¬ (me = hi ∨ me = r) := fun e => e.elim (nk H.kMe H.kH (by simp)) (hrk H.kMe)
      refine ⟨g1 nm, g2 (fun e => e.elim (fun e => nhq e.symm) (hrk H.kQ)), g3 (fun e => e.elim (nk H.kC H.kH (by simp)) (hrk H.kC)), g4 (fun e => e.elim (nk H.kU H.kH (by simp)) (hrk H.kU)), hH, g6 (fun e => e.elim (nk H.kX H.kH (by simp)) (hrk H.kX)), g7 nm (fun j hj z e1 e => e.elim (nk (H.kL hj e1) H.kH (by simp)) (hrk (H.kL hj e1))), H.ds.1, fun j hj y ey => ?_, H.ds.2.2.1, fun i j hi hj y z ey ez => ?_, H.ds.2.2.2.2⟩
      · by_cases ej : j = x
        · rw [ej, u1_at] at ey; cases ey; exact ⟨fun e => hrk H.kQ e.symm, fun e => hrk H.kC e.symm⟩
        · rw [u1_ne _ _ ej] at ey; exact H.ds.2.1 j hj y ey
      · by_cases ej : i = x
        · rw [ej, u1_at] at ey; cases ey; exact fun e => hrk (H.kL hj ez) e.symm
        · rw [u1_ne _ _ ej] at ey; exact H.ds.2.2.2.1 i j hi hj y z ey ez
    · rcases e1 with e1 | e1
      · rw [e1]; exact nF H.kH (by simp) (by simp)
      · rw [e1]; exact nF0 hr
  | some y =>
    obtain ⟨r, lr⟩ := y
    have hrq : r ≠ q := (H.ds.2.1 x hx14 _ e).1
    have krr : kd h r = some (.inl 4) := H.kS hx14 e
    refine sp_X2_rememberB H.pH e H.rep hrq (fun h' hH hF => k h' cs ((x + 1) % 14) ?_ (hF.Of (fun z e1 => ?_)))
    · obtain ⟨g1, g2, g3, g4, g5, g6, g7⟩ := H.frA (O := fun z => z = hi ∨ z = r) hF.A (fun y e => e)
      have nm : ¬ (me = hi ∨ me = r) := fun e => e.elim (nk H.kMe H.kH (by simp)) (nk H.kMe krr (by simp))
      exact ⟨g1 nm, g2 (fun e => e.elim (fun e => nhq e.symm) (fun e => hrq e.symm)), g3 (fun e9 => e9.elim (nk H.kC H.kH (by simp)) (fun e9 => (H.ds.2.1 x hx14 _ e).2 e9.symm)), g4 (fun e => e.elim (nk H.kU H.kH (by simp)) (nk H.kU krr (by simp))), hH, g6 (fun e => e.elim (nk H.kX H.kH (by simp)) (nk H.kX krr (by simp))), g7 nm (fun j hj z e1 e9 => e9.elim (nk (H.kL hj e1) H.kH (by simp)) (fun e9 => H.ds.2.2.2.1 x j hx14 hj _ z e e1 e9.symm)), H.ds⟩
    · rcases e1 with e1 | e1
      · rw [e1]; exact nF H.kH (by simp) (by simp)
      · rw [e1]; exact nF krr (by simp) (by simp)
end SP
section SP
variable {E : Ev} {h : PH} {Q : Rt → PH → Prop}
def actX (X : Abs) (B : Sta) : Abs := (B, (xA X :: xH X).take 14, X.2.2)
set_option maxHeartbeats 4000000 in
set_option maxRecDepth 100000 in
theorem sp_X6_withdraw {me : Nat} {X : Abs} {w : Int32} (H : WC h me X) (k1 : ∀ i, i < (sO (xA X)).length → w = nI i → ∀ h', WC h' me (actX X (remE (giveA (xA X) i))) → Of h h' → Q (.inl (some (.int (oA (xA X) i).2.2.2))) h') (k0 : ¬ isO (xA X) w → Q (.inr "java/lang/IndexOutOfBoundsException") h) : WPx E mX6_withdraw 0 [some (.ref me), some (.int w)] [] (34, 498) h Q := by
  obtain ⟨q, c, u, hi, sl, tx, ka, pa, fa, la, hsa, txa, x, l, lc, cs, ss, H⟩ := H
  have hm := H.ob
  have hR := H.rep
  have n6 := hR.2.1.1.2
  refine wp_aload_n (M := mX6_withdraw) (pc := 0) dX6_withdraw_0 rfl ?_
  refine wp_getR (M := mX6_withdraw) (pc := 1) fa_X6_12 rfl dX6_withdraw_1 (by first | exact hm.1.1 | exact H.kQ | exact H.kH | exact H.kC | exact H.kU | exact H.kX | exact hR.1.2.1.2.1 | exact a2 | fail "kd") (by first | exact hm.2.1 | exact hm.2.2.1 | exact hm.2.2.2.1 | exact hm.2.2.2.2.1 | exact hm.2.2.2.2.2.1 | exact hm.2.2.2.2.2.2 | exact hR.1.2.1.1 | exact a1 | fail "rx") ?_
  refine wp_iload_n (M := mX6_withdraw) (pc := 4) dX6_withdraw_4 rfl ?_
  refine so_V1 (M := mX6_withdraw) (pc := 5) cs_X6_withdraw_120 rfl rfl (LE rfl) (LE rfl) dX6_withdraw_5 (by first | exact hm.1.1 | exact H.kQ | exact H.kH | exact H.kC | exact H.kU | exact H.kX | exact hR.1.2.1.2.1 | exact a2 | fail "kd") ?_
  refine sb_hasOrder hR ?_
  refine kI ?_
  refine so_SA1 (M := mX6_withdraw) (pc := 8) (33, 492) cs_X6_withdraw_101 rfl (LE rfl) (LE rfl) (LE rfl) (LE rfl) dX6_withdraw_8 ?_
  refine sp_X6_requireThere (fun ht => ?_) (fun hw => k0 hw)
  obtain ⟨i, hi9, rfl⟩ := ht
  refine kV ?_
  refine wp_aload_n (M := mX6_withdraw) (pc := 11) dX6_withdraw_11 rfl ?_
  refine wp_getR (M := mX6_withdraw) (pc := 12) fa_X6_29 rfl dX6_withdraw_12 (by first | exact hm.1.1 | exact H.kQ | exact H.kH | exact H.kC | exact H.kU | exact H.kX | exact hR.1.2.1.2.1 | exact a2 | fail "kd") (by first | exact hm.2.1 | exact hm.2.2.1 | exact hm.2.2.2.1 | exact hm.2.2.2.2.1 | exact hm.2.2.2.2.2.1 | exact hm.2.2.2.2.2.2 | exact hR.1.2.1.1 | exact a1 | fail "rx") ?_
  refine wp_aload_n (M := mX6_withdraw) (pc := 15) dX6_withdraw_15 rfl ?_
  refine wp_getR (M := mX6_withdraw) (pc := 16) fa_X6_12 rfl dX6_withdraw_16 (by first | exact hm.1.1 | exact H.kQ | exact H.kH | exact H.kC | exact H.kU | exact H.kX | exact hR.1.2.1.2.1 | exact a2 | fail "kd") (by first | exact hm.2.1 | exact hm.2.2.1 | exact hm.2.2.2.1 | exact hm.2.2.2.2.1 | exact hm.2.2.2.2.2.1 | exact hm.2.2.2.2.2.2 | exact hR.1.2.1.1 | exact a1 | fail "rx") ?_
  refine so_VA1 (M := mX6_withdraw) (pc := 19) (0, 0) cs_X6_withdraw_151 rfl (LE rfl) (LE rfl) (LE rfl) (LE rfl) dX6_withdraw_19 (by first | exact hm.1.1 | exact H.kQ | exact H.kH | exact H.kC | exact H.kU | exact H.kX | exact hR.1.2.1.2.1 | exact a2 | fail "kd") ?_
  refine sb_remember H (fun h1 cs1 x1 H O1 => ?_)
  have hm := H.ob
  have hR := H.rep
  refine kV ?_
  refine wp_aload_n (M := mX6_withdraw) (pc := 22) dX6_withdraw_22 rfl ?_
  refine wp_getR (M := mX6_withdraw) (pc := 23) fa_X6_12 rfl dX6_withdraw_23 (by first | exact hm.1.1 | exact H.kQ | exact H.kH | exact H.kC | exact H.kU | exact H.kX | exact hR.1.2.1.2.1 | exact a2 | fail "kd") (by first | exact hm.2.1 | exact hm.2.2.1 | exact hm.2.2.2.1 | exact hm.2.2.2.2.1 | exact hm.2.2.2.2.2.1 | exact hm.2.2.2.2.2.2 | exact hR.1.2.1.1 | exact a1 | fail "rx") ?_
  refine wp_iload_n (M := mX6_withdraw) (pc := 26) dX6_withdraw_26 rfl ?_
  refine so_V1 (M := mX6_withdraw) (pc := 27) cs_X6_withdraw_154 rfl rfl (LE rfl) (LE rfl) dX6_withdraw_27 (by first | exact hm.1.1 | exact H.kQ | exact H.kH | exact H.kC | exact H.kU | exact H.kX | exact hR.1.2.1.2.1 | exact a2 | fail "kd") ?_
  refine sp_X4_withdrawOrder hR hi9 (fun h2 l2 e2 R2 F2 => ?_)
  refine kI ?_
  refine wp_ireturn (M := mX6_withdraw) (pc := 30) rfl dX6_withdraw_30 ?_
  exact k1 i hi9 rfl h2 (H.q1 F2 R2).wc (O1.tr (H.q1O F2))
set_option maxHeartbeats 4000000 in
set_option maxRecDepth 100000 in
theorem sp_X6_push {me : Nat} {X : Abs} {t z : Int32} (H : WC h me X) (k1 : ∀ i, i < sN (xA X) → t = nI i → wth z 1 99 → (sT (xA X) i).2.1.length < 8 → ∀ h', WC h' me (actX X (pushA (xA X) i z)) → Of h h' → Q (.inl (some (.int (nI ((sT (xA X) i).2.1.length + 1))))) h') (k0 : ¬ isT (xA X) t → Q (.inr "java/lang/IndexOutOfBoundsException") h) (k2 : isT (xA X) t → ¬ wth z 1 99 → Q (.inr "java/lang/IllegalArgumentException") h) (k3 : ∀ i, i < sN (xA X) → t = nI i → wth z 1 99 → ¬ (sT (xA X) i).2.1.length < 8 → Q (.inr "java/lang/IllegalStateException") h) : WPx E mX6_push 0 [some (.ref me), some (.int t), some (.int z)] [] (36, 510) h Q := by
  obtain ⟨q, c, u, hi, sl, tx, ka, pa, fa, la, hsa, txa, x, l, lc, cs, ss, H⟩ := H
  have hm := H.ob
  have hR := H.rep
  have n6 := hR.2.1.1.2
  refine wp_aload_n (M := mX6_push) (pc := 0) dX6_push_0 rfl ?_
  refine wp_getR (M := mX6_push) (pc := 1) fa_X6_12 rfl dX6_push_1 (by first | exact hm.1.1 | exact H.kQ | exact H.kH | exact H.kC | exact H.kU | exact H.kX | exact hR.1.2.1.2.1 | exact a2 | fail "kd") (by first | exact hm.2.1 | exact hm.2.2.1 | exact hm.2.2.2.1 | exact hm.2.2.2.2.1 | exact hm.2.2.2.2.2.1 | exact hm.2.2.2.2.2.2 | exact hR.1.2.1.1 | exact a1 | fail "rx") ?_
  refine wp_iload_n (M := mX6_push) (pc := 4) dX6_push_4 rfl ?_
  refine so_V1 (M := mX6_push) (pc := 5) cs_X6_push_97 rfl rfl (LE rfl) (LE rfl) dX6_push_5 (by first | exact hm.1.1 | exact H.kQ | exact H.kH | exact H.kC | exact H.kU | exact H.kX | exact hR.1.2.1.2.1 | exact a2 | fail "kd") ?_
  refine sb_hasTenant hR ?_
  refine kI ?_
  refine so_SA1 (M := mX6_push) (pc := 8) (35, 504) cs_X6_push_101 rfl (LE rfl) (LE rfl) (LE rfl) (LE rfl) dX6_push_8 ?_
  refine sp_X6_requireThere (fun ht => ?_) (fun hw => k0 hw)
  refine kV ?_
  refine wp_iload_n (M := mX6_push) (pc := 11) dX6_push_11 rfl ?_
  refine so_S1 (M := mX6_push) (pc := 12) cs_X6_push_157 rfl rfl (LE rfl) (LE rfl) dX6_push_12 ?_
  refine sp_X6_isTwoDigits ?_
  refine kI ?_
  refine so_SA1 (M := mX6_push) (pc := 15) (34, 498) cs_X6_push_60 rfl (LE rfl) (LE rfl) (LE rfl) (LE rfl) dX6_push_15 ?_
  refine sp_X6_requireArgument (fun hw => ?_) (fun hw => k2 ht hw)
  obtain ⟨i, hi9, rfl⟩ := ht
  obtain ⟨a1, ⟨a2, a3⟩, ⟨a4, a5, a6⟩, a7, a8, a9⟩ := hR.1.2.2.2.1 i (by omega)
  obtain ⟨v1, v2, v3, v4, v5⟩ := hR.2.2.1 i hi9
  have hf8 : ¬ (if gi h (lT l i) 7 < nI 8 then (0 : Int32) else 1) = 0 → ¬ (sT (xA X) i).2.1.length < 8 := fun e e8 => e (if_pos (by rw [v2]; exact (i_lt (by omega) (by decide)).mpr e8))
  have hf9 : (if gi h (lT l i) 7 < nI 8 then (0 : Int32) else 1) = 0 → (sT (xA X) i).2.1.length < 8 := fun e => by
    by_cases e8 : gi h (lT l i) 7 < nI 8
    · rw [v2] at e8; exact (i_lt (by omega) (by decide)).mp e8
    · rw [if_neg e8] at e; exact absurd e (by decide)
  refine kV ?_
  refine wp_aload_n (M := mX6_push) (pc := 18) dX6_push_18 rfl ?_
  refine wp_getR (M := mX6_push) (pc := 19) fa_X6_12 rfl dX6_push_19 (by first | exact hm.1.1 | exact H.kQ | exact H.kH | exact H.kC | exact H.kU | exact H.kX | exact hR.1.2.1.2.1 | exact a2 | fail "kd") (by first | exact hm.2.1 | exact hm.2.2.1 | exact hm.2.2.2.1 | exact hm.2.2.2.2.1 | exact hm.2.2.2.2.2.1 | exact hm.2.2.2.2.2.2 | exact hR.1.2.1.1 | exact a1 | fail "rx") ?_
  refine wp_getR (M := mX6_push) (pc := 22) fa_X6_111 rfl dX6_push_22 (by first | exact hm.1.1 | exact H.kQ | exact H.kH | exact H.kC | exact H.kU | exact H.kX | exact hR.1.2.1.2.1 | exact a2 | fail "kd") (by first | exact hm.2.1 | exact hm.2.2.1 | exact hm.2.2.2.1 | exact hm.2.2.2.2.1 | exact hm.2.2.2.2.2.1 | exact hm.2.2.2.2.2.2 | exact hR.1.2.1.1 | exact a1 | fail "rx") ?_
  refine wp_iload_n (M := mX6_push) (pc := 25) dX6_push_25 rfl ?_
  refine wr_aaload (M := mX6_push) (pc := 26) dX6_push_26 (by first | exact hm.1.1 | exact H.kQ | exact H.kH | exact H.kC | exact H.kU | exact H.kX | exact hR.1.2.1.2.1 | exact a2 | fail "kd") (by decide) rfl (by omega) (by decide) (by first | exact hm.2.1 | exact hm.2.2.1 | exact hm.2.2.2.1 | exact hm.2.2.2.2.1 | exact hm.2.2.2.2.2.1 | exact hm.2.2.2.2.2.2 | exact hR.1.2.1.1 | exact a1 | fail "rx") ?_
  refine so_V0 (M := mX6_push) (pc := 27) cs_X6_push_160 rfl rfl (LE rfl) (LE rfl) dX6_push_27 (by first | exact hm.1.1 | exact H.kQ | exact H.kH | exact H.kC | exact H.kU | exact H.kX | exact hR.1.2.1.2.1 | exact a2 | fail "kd") ?_
  refine sp_X5_isQueueFull a2 a4 a5 ?_
  refine kI ?_
  refine wp_if_ne (M := mX6_push) (pc := 30) (tgt := 37) dX6_push_30 rfl (fun t30 => ?_) (fun f30 => ?_)
  · have hl : ¬ (0 : Int32) = 0 → (sT (xA X) i).2.1.length < 8 := fun e => absurd rfl e
    have hl0 : (0 : Int32) = 0 → ¬ (sT (xA X) i).2.1.length < 8 := fun _ => hf8 t30
    refine wp_iconst (M := mX6_push) (pc := 37) (v := 0) dX6_push_37 ci_0 ?_
    refine so_SA1 (M := mX6_push) (pc := 38) (33, 492) cs_X6_push_68 rfl (LE rfl) (LE rfl) (LE rfl) (LE rfl) dX6_push_38 ?_
    refine sv_X6_requirePossible (fun hv => ?_) (fun hv => k3 i hi9 rfl hw (hl0 hv))
    refine kV ?_
    refine wp_aload_n (M := mX6_push) (pc := 41) dX6_push_41 rfl ?_
    refine wp_getR (M := mX6_push) (pc := 42) fa_X6_29 rfl dX6_push_42 (by first | exact hm.1.1 | exact H.kQ | exact H.kH | exact H.kC | exact H.kU | exact H.kX | exact hR.1.2.1.2.1 | exact a2 | fail "kd") (by first | exact hm.2.1 | exact hm.2.2.1 | exact hm.2.2.2.1 | exact hm.2.2.2.2.1 | exact hm.2.2.2.2.2.1 | exact hm.2.2.2.2.2.2 | exact hR.1.2.1.1 | exact a1 | fail "rx") ?_
    refine wp_aload_n (M := mX6_push) (pc := 45) dX6_push_45 rfl ?_
    refine wp_getR (M := mX6_push) (pc := 46) fa_X6_12 rfl dX6_push_46 (by first | exact hm.1.1 | exact H.kQ | exact H.kH | exact H.kC | exact H.kU | exact H.kX | exact hR.1.2.1.2.1 | exact a2 | fail "kd") (by first | exact hm.2.1 | exact hm.2.2.1 | exact hm.2.2.2.1 | exact hm.2.2.2.2.1 | exact hm.2.2.2.2.2.1 | exact hm.2.2.2.2.2.2 | exact hR.1.2.1.1 | exact a1 | fail "rx") ?_
    refine so_VA1 (M := mX6_push) (pc := 49) (0, 0) cs_X6_push_151 rfl (LE rfl) (LE rfl) (LE rfl) (LE rfl) dX6_push_49 (by first | exact hm.1.1 | exact H.kQ | exact H.kH | exact H.kC | exact H.kU | exact H.kX | exact hR.1.2.1.2.1 | exact a2 | fail "kd") ?_
    refine sb_remember H (fun h1 cs1 x1 H O1 => ?_)
    have hm := H.ob
    have hR := H.rep
    obtain ⟨a1, ⟨a2, a3⟩, ⟨a4, a5, a6⟩, a7, a8, a9⟩ := hR.1.2.2.2.1 i (by omega)
    obtain ⟨v1, v2, v3, v4, v5⟩ := hR.2.2.1 i hi9
    refine kV ?_
    refine wp_aload_n (M := mX6_push) (pc := 52) dX6_push_52 rfl ?_
    refine wp_getR (M := mX6_push) (pc := 53) fa_X6_12 rfl dX6_push_53 (by first | exact hm.1.1 | exact H.kQ | exact H.kH | exact H.kC | exact H.kU | exact H.kX | exact hR.1.2.1.2.1 | exact a2 | fail "kd") (by first | exact hm.2.1 | exact hm.2.2.1 | exact hm.2.2.2.1 | exact hm.2.2.2.2.1 | exact hm.2.2.2.2.2.1 | exact hm.2.2.2.2.2.2 | exact hR.1.2.1.1 | exact a1 | fail "rx") ?_
    refine wp_getR (M := mX6_push) (pc := 56) fa_X6_111 rfl dX6_push_56 (by first | exact hm.1.1 | exact H.kQ | exact H.kH | exact H.kC | exact H.kU | exact H.kX | exact hR.1.2.1.2.1 | exact a2 | fail "kd") (by first | exact hm.2.1 | exact hm.2.2.1 | exact hm.2.2.2.1 | exact hm.2.2.2.2.1 | exact hm.2.2.2.2.2.1 | exact hm.2.2.2.2.2.2 | exact hR.1.2.1.1 | exact a1 | fail "rx") ?_
    refine wp_iload_n (M := mX6_push) (pc := 59) dX6_push_59 rfl ?_
    refine wr_aaload (M := mX6_push) (pc := 60) dX6_push_60 (by first | exact hm.1.1 | exact H.kQ | exact H.kH | exact H.kC | exact H.kU | exact H.kX | exact hR.1.2.1.2.1 | exact a2 | fail "kd") (by decide) rfl (by omega) (by decide) (by first | exact hm.2.1 | exact hm.2.2.1 | exact hm.2.2.2.1 | exact hm.2.2.2.2.1 | exact hm.2.2.2.2.2.1 | exact hm.2.2.2.2.2.2 | exact hR.1.2.1.1 | exact a1 | fail "rx") ?_
    refine wp_iload_n (M := mX6_push) (pc := 61) dX6_push_61 rfl ?_
    refine so_V1 (M := mX6_push) (pc := 62) cs_X6_push_163 rfl rfl (LE rfl) (LE rfl) dX6_push_62 (by first | exact hm.1.1 | exact H.kQ | exact H.kH | exact H.kC | exact H.kU | exact H.kX | exact hR.1.2.1.2.1 | exact a2 | fail "kd") ?_
    refine sp_X5_queueMessage a2 a4 a5 (hR.neTM (by omega)) v2 (hl hv) ?_
    refine kI ?_
    refine wp_ireturn (M := mX6_push) (pc := 65) rfl dX6_push_65 ?_
    exact k1 i hi9 rfl hw (hl hv) _ (H.q1 ((Fr.si (hR.ownM (by omega))).tr (Fr.si (hR.ownT (by omega)))) (hR.sPush hi9 z (hl hv))).wc (O1.tr (H.q1O ((Fr.si (hR.ownM (by omega))).tr (Fr.si (hR.ownT (by omega))))))
  · have hl : ¬ (1 : Int32) = 0 → (sT (xA X) i).2.1.length < 8 := fun _ => hf9 f30
    have hl0 : (1 : Int32) = 0 → ¬ (sT (xA X) i).2.1.length < 8 := fun e => absurd e (by decide)
    refine wp_iconst (M := mX6_push) (pc := 33) (v := 1) dX6_push_33 ci_1 ?_
    refine wp_goto (M := mX6_push) (pc := 34) (tgt := 38) dX6_push_34 rfl ?_
    refine so_SA1 (M := mX6_push) (pc := 38) (33, 492) cs_X6_push_68 rfl (LE rfl) (LE rfl) (LE rfl) (LE rfl) dX6_push_38 ?_
    refine sv_X6_requirePossible (fun hv => ?_) (fun hv => k3 i hi9 rfl hw (hl0 hv))
    refine kV ?_
    refine wp_aload_n (M := mX6_push) (pc := 41) dX6_push_41 rfl ?_
    refine wp_getR (M := mX6_push) (pc := 42) fa_X6_29 rfl dX6_push_42 (by first | exact hm.1.1 | exact H.kQ | exact H.kH | exact H.kC | exact H.kU | exact H.kX | exact hR.1.2.1.2.1 | exact a2 | fail "kd") (by first | exact hm.2.1 | exact hm.2.2.1 | exact hm.2.2.2.1 | exact hm.2.2.2.2.1 | exact hm.2.2.2.2.2.1 | exact hm.2.2.2.2.2.2 | exact hR.1.2.1.1 | exact a1 | fail "rx") ?_
    refine wp_aload_n (M := mX6_push) (pc := 45) dX6_push_45 rfl ?_
    refine wp_getR (M := mX6_push) (pc := 46) fa_X6_12 rfl dX6_push_46 (by first | exact hm.1.1 | exact H.kQ | exact H.kH | exact H.kC | exact H.kU | exact H.kX | exact hR.1.2.1.2.1 | exact a2 | fail "kd") (by first | exact hm.2.1 | exact hm.2.2.1 | exact hm.2.2.2.1 | exact hm.2.2.2.2.1 | exact hm.2.2.2.2.2.1 | exact hm.2.2.2.2.2.2 | exact hR.1.2.1.1 | exact a1 | fail "rx") ?_
    refine so_VA1 (M := mX6_push) (pc := 49) (0, 0) cs_X6_push_151 rfl (LE rfl) (LE rfl) (LE rfl) (LE rfl) dX6_push_49 (by first | exact hm.1.1 | exact H.kQ | exact H.kH | exact H.kC | exact H.kU | exact H.kX | exact hR.1.2.1.2.1 | exact a2 | fail "kd") ?_
    refine sb_remember H (fun h1 cs1 x1 H O1 => ?_)
    have hm := H.ob
    have hR := H.rep
    obtain ⟨a1, ⟨a2, a3⟩, ⟨a4, a5, a6⟩, a7, a8, a9⟩ := hR.1.2.2.2.1 i (by omega)
    obtain ⟨v1, v2, v3, v4, v5⟩ := hR.2.2.1 i hi9
    refine kV ?_
    refine wp_aload_n (M := mX6_push) (pc := 52) dX6_push_52 rfl ?_
    refine wp_getR (M := mX6_push) (pc := 53) fa_X6_12 rfl dX6_push_53 (by first | exact hm.1.1 | exact H.kQ | exact H.kH | exact H.kC | exact H.kU | exact H.kX | exact hR.1.2.1.2.1 | exact a2 | fail "kd") (by first | exact hm.2.1 | exact hm.2.2.1 | exact hm.2.2.2.1 | exact hm.2.2.2.2.1 | exact hm.2.2.2.2.2.1 | exact hm.2.2.2.2.2.2 | exact hR.1.2.1.1 | exact a1 | fail "rx") ?_
    refine wp_getR (M := mX6_push) (pc := 56) fa_X6_111 rfl dX6_push_56 (by first | exact hm.1.1 | exact H.kQ | exact H.kH | exact H.kC | exact H.kU | exact H.kX | exact hR.1.2.1.2.1 | exact a2 | fail "kd") (by first | exact hm.2.1 | exact hm.2.2.1 | exact hm.2.2.2.1 | exact hm.2.2.2.2.1 | exact hm.2.2.2.2.2.1 | exact hm.2.2.2.2.2.2 | exact hR.1.2.1.1 | exact a1 | fail "rx") ?_
    refine wp_iload_n (M := mX6_push) (pc := 59) dX6_push_59 rfl ?_
    refine wr_aaload (M := mX6_push) (pc := 60) dX6_push_60 (by first | exact hm.1.1 | exact H.kQ | exact H.kH | exact H.kC | exact H.kU | exact H.kX | exact hR.1.2.1.2.1 | exact a2 | fail "kd") (by decide) rfl (by omega) (by decide) (by first | exact hm.2.1 | exact hm.2.2.1 | exact hm.2.2.2.1 | exact hm.2.2.2.2.1 | exact hm.2.2.2.2.2.1 | exact hm.2.2.2.2.2.2 | exact hR.1.2.1.1 | exact a1 | fail "rx") ?_
    refine wp_iload_n (M := mX6_push) (pc := 61) dX6_push_61 rfl ?_
    refine so_V1 (M := mX6_push) (pc := 62) cs_X6_push_163 rfl rfl (LE rfl) (LE rfl) dX6_push_62 (by first | exact hm.1.1 | exact H.kQ | exact H.kH | exact H.kC | exact H.kU | exact H.kX | exact hR.1.2.1.2.1 | exact a2 | fail "kd") ?_
    refine sp_X5_queueMessage a2 a4 a5 (hR.neTM (by omega)) v2 (hl hv) ?_
    refine kI ?_
    refine wp_ireturn (M := mX6_push) (pc := 65) rfl dX6_push_65 ?_
    exact k1 i hi9 rfl hw (hl hv) _ (H.q1 ((Fr.si (hR.ownM (by omega))).tr (Fr.si (hR.ownT (by omega)))) (hR.sPush hi9 z (hl hv))).wc (O1.tr (H.q1O ((Fr.si (hR.ownM (by omega))).tr (Fr.si (hR.ownT (by omega))))))
set_option maxHeartbeats 4000000 in
set_option maxRecDepth 100000 in
theorem sp_X6_deposit {me : Nat} {X : Abs} {t z : Int32} (H : WC h me X) (k1 : ∀ i, i < sN (xA X) → t = nI i → wth z 1 9999 → fT (xA X) i 4 + z ≤ 99999 → ∀ h', WC h' me (actX X (wF (xA X) i 4 (fT (xA X) i 4 + z))) → Of h h' → Q (.inl (some (.int (fT (xA X) i 4 + z)))) h') (k0 : ¬ isT (xA X) t → Q (.inr "java/lang/IndexOutOfBoundsException") h) (k2 : isT (xA X) t → ¬ wth z 1 9999 → Q (.inr "java/lang/IllegalArgumentException") h) (k3 : ∀ i, i < sN (xA X) → t = nI i → wth z 1 9999 → ¬ fT (xA X) i 4 + z ≤ 99999 → Q (.inr "java/lang/IllegalStateException") h) : WPx E mX6_deposit 0 [some (.ref me), some (.int t), some (.int z), none] [] (36, 510) h Q := by
  obtain ⟨q, c, u, hi, sl, tx, ka, pa, fa, la, hsa, txa, x, l, lc, cs, ss, H⟩ := H
  have hm := H.ob
  have hR := H.rep
  have n6 := hR.2.1.1.2
  refine wp_aload_n (M := mX6_deposit) (pc := 0) dX6_deposit_0 rfl ?_
  refine wp_getR (M := mX6_deposit) (pc := 1) fa_X6_12 rfl dX6_deposit_1 (by first | exact hm.1.1 | exact H.kQ | exact H.kH | exact H.kC | exact H.kU | exact H.kX | exact hR.1.2.1.2.1 | exact a2 | fail "kd") (by first | exact hm.2.1 | exact hm.2.2.1 | exact hm.2.2.2.1 | exact hm.2.2.2.2.1 | exact hm.2.2.2.2.2.1 | exact hm.2.2.2.2.2.2 | exact hR.1.2.1.1 | exact a1 | fail "rx") ?_
  refine wp_iload_n (M := mX6_deposit) (pc := 4) dX6_deposit_4 rfl ?_
  refine so_V1 (M := mX6_deposit) (pc := 5) cs_X6_deposit_97 rfl rfl (LE rfl) (LE rfl) dX6_deposit_5 (by first | exact hm.1.1 | exact H.kQ | exact H.kH | exact H.kC | exact H.kU | exact H.kX | exact hR.1.2.1.2.1 | exact a2 | fail "kd") ?_
  refine sb_hasTenant hR ?_
  refine kI ?_
  refine so_SA1 (M := mX6_deposit) (pc := 8) (35, 504) cs_X6_deposit_101 rfl (LE rfl) (LE rfl) (LE rfl) (LE rfl) dX6_deposit_8 ?_
  refine sp_X6_requireThere (fun ht => ?_) (fun hw => k0 hw)
  refine kV ?_
  refine wp_iload_n (M := mX6_deposit) (pc := 11) dX6_deposit_11 rfl ?_
  refine wp_iconst (M := mX6_deposit) (pc := 12) (v := 1) dX6_deposit_12 ci_1 ?_
  refine wp_sipush (M := mX6_deposit) (pc := 13) (v := 9999) dX6_deposit_13 ch_9999 ?_
  refine so_S3 (M := mX6_deposit) (pc := 16) cs_X6_deposit_56 rfl rfl (LE rfl) (LE rfl) dX6_deposit_16 ?_
  refine sp_X6_isWithin ?_
  refine kI ?_
  refine so_SA1 (M := mX6_deposit) (pc := 19) (34, 498) cs_X6_deposit_60 rfl (LE rfl) (LE rfl) (LE rfl) (LE rfl) dX6_deposit_19 ?_
  refine sp_X6_requireArgument (fun hw => ?_) (fun hw => k2 ht hw)
  obtain ⟨i, hi9, rfl⟩ := ht
  obtain ⟨a1, ⟨a2, a3⟩, ⟨a4, a5, a6⟩, a7, a8, a9⟩ := hR.1.2.2.2.1 i (by omega)
  obtain ⟨v1, v2, v3, v4, v5⟩ := hR.2.2.1 i hi9
  have v4c : gi h (lT l i) 4 = fT (xA X) i 4 := v1 4 (by decide)
  refine kV ?_
  refine wp_aload_n (M := mX6_deposit) (pc := 22) dX6_deposit_22 rfl ?_
  refine wp_getR (M := mX6_deposit) (pc := 23) fa_X6_12 rfl dX6_deposit_23 (by first | exact hm.1.1 | exact H.kQ | exact H.kH | exact H.kC | exact H.kU | exact H.kX | exact hR.1.2.1.2.1 | exact a2 | fail "kd") (by first | exact hm.2.1 | exact hm.2.2.1 | exact hm.2.2.2.1 | exact hm.2.2.2.2.1 | exact hm.2.2.2.2.2.1 | exact hm.2.2.2.2.2.2 | exact hR.1.2.1.1 | exact a1 | fail "rx") ?_
  refine wp_getR (M := mX6_deposit) (pc := 26) fa_X6_111 rfl dX6_deposit_26 (by first | exact hm.1.1 | exact H.kQ | exact H.kH | exact H.kC | exact H.kU | exact H.kX | exact hR.1.2.1.2.1 | exact a2 | fail "kd") (by first | exact hm.2.1 | exact hm.2.2.1 | exact hm.2.2.2.1 | exact hm.2.2.2.2.1 | exact hm.2.2.2.2.2.1 | exact hm.2.2.2.2.2.2 | exact hR.1.2.1.1 | exact a1 | fail "rx") ?_
  refine wp_iload_n (M := mX6_deposit) (pc := 29) dX6_deposit_29 rfl ?_
  refine wr_aaload (M := mX6_deposit) (pc := 30) dX6_deposit_30 (by first | exact hm.1.1 | exact H.kQ | exact H.kH | exact H.kC | exact H.kU | exact H.kX | exact hR.1.2.1.2.1 | exact a2 | fail "kd") (by decide) rfl (by omega) (by decide) (by first | exact hm.2.1 | exact hm.2.2.1 | exact hm.2.2.2.1 | exact hm.2.2.2.2.1 | exact hm.2.2.2.2.2.1 | exact hm.2.2.2.2.2.2 | exact hR.1.2.1.1 | exact a1 | fail "rx") ?_
  refine so_astore_n (M := mX6_deposit) (pc := 31) (lo' := [_, _, _, _]) dX6_deposit_31 (LE rfl) (LE rfl) (Or.inr rfl) rfl ?_
  refine wp_aload_n (M := mX6_deposit) (pc := 32) dX6_deposit_32 rfl ?_
  refine wp_getI (M := mX6_deposit) (pc := 33) fa_X6_166 rfl dX6_deposit_33 (by first | exact hm.1.1 | exact H.kQ | exact H.kH | exact H.kC | exact H.kU | exact H.kX | exact hR.1.2.1.2.1 | exact a2 | fail "kd") ?_
  refine wp_iload_n (M := mX6_deposit) (pc := 36) dX6_deposit_36 rfl ?_
  refine wp_iadd (M := mX6_deposit) (pc := 37) dX6_deposit_37 ?_
  refine wp_ldc (M := mX6_deposit) (pc := 38) wv_X6_169 dX6_deposit_38 ?_
  refine wp_icmp_gt (M := mX6_deposit) (pc := 40) (tgt := 47) dX6_deposit_40 rfl (fun t40 => ?_) (fun f40 => ?_)
  · rw [v4c] at t40
    have hl : ¬ (0 : Int32) = 0 → fT (xA X) i 4 + z ≤ 99999 := fun e => absurd rfl e
    have hl0 : (0 : Int32) = 0 → ¬ fT (xA X) i 4 + z ≤ 99999 := fun _ => Int32.not_le.mpr t40
    refine wp_iconst (M := mX6_deposit) (pc := 47) (v := 0) dX6_deposit_47 ci_0 ?_
    refine so_SA1 (M := mX6_deposit) (pc := 48) (33, 492) cs_X6_deposit_68 rfl (LE rfl) (LE rfl) (LE rfl) (LE rfl) dX6_deposit_48 ?_
    refine sv_X6_requirePossible (fun hv => ?_) (fun hv => k3 i hi9 rfl hw (hl0 hv))
    refine kV ?_
    refine wp_aload_n (M := mX6_deposit) (pc := 51) dX6_deposit_51 rfl ?_
    refine wp_getR (M := mX6_deposit) (pc := 52) fa_X6_29 rfl dX6_deposit_52 (by first | exact hm.1.1 | exact H.kQ | exact H.kH | exact H.kC | exact H.kU | exact H.kX | exact hR.1.2.1.2.1 | exact a2 | fail "kd") (by first | exact hm.2.1 | exact hm.2.2.1 | exact hm.2.2.2.1 | exact hm.2.2.2.2.1 | exact hm.2.2.2.2.2.1 | exact hm.2.2.2.2.2.2 | exact hR.1.2.1.1 | exact a1 | fail "rx") ?_
    refine wp_aload_n (M := mX6_deposit) (pc := 55) dX6_deposit_55 rfl ?_
    refine wp_getR (M := mX6_deposit) (pc := 56) fa_X6_12 rfl dX6_deposit_56 (by first | exact hm.1.1 | exact H.kQ | exact H.kH | exact H.kC | exact H.kU | exact H.kX | exact hR.1.2.1.2.1 | exact a2 | fail "kd") (by first | exact hm.2.1 | exact hm.2.2.1 | exact hm.2.2.2.1 | exact hm.2.2.2.2.1 | exact hm.2.2.2.2.2.1 | exact hm.2.2.2.2.2.2 | exact hR.1.2.1.1 | exact a1 | fail "rx") ?_
    refine so_VA1 (M := mX6_deposit) (pc := 59) (0, 0) cs_X6_deposit_151 rfl (LE rfl) (LE rfl) (LE rfl) (LE rfl) dX6_deposit_59 (by first | exact hm.1.1 | exact H.kQ | exact H.kH | exact H.kC | exact H.kU | exact H.kX | exact hR.1.2.1.2.1 | exact a2 | fail "kd") ?_
    refine sb_remember H (fun h1 cs1 x1 H O1 => ?_)
    have hm := H.ob
    have hR := H.rep
    obtain ⟨a1, ⟨a2, a3⟩, ⟨a4, a5, a6⟩, a7, a8, a9⟩ := hR.1.2.2.2.1 i (by omega)
    obtain ⟨v1, v2, v3, v4, v5⟩ := hR.2.2.1 i hi9
    have v4c : gi h1 (lT l i) 4 = fT (xA X) i 4 := v1 4 (by decide)
    refine kV ?_
    refine wp_aload_n (M := mX6_deposit) (pc := 62) dX6_deposit_62 rfl ?_
    refine wp_dup (M := mX6_deposit) (pc := 63) dX6_deposit_63 rfl ?_
    refine wp_getI (M := mX6_deposit) (pc := 64) fa_X6_166 rfl dX6_deposit_64 (by first | exact hm.1.1 | exact H.kQ | exact H.kH | exact H.kC | exact H.kU | exact H.kX | exact hR.1.2.1.2.1 | exact a2 | fail "kd") ?_
    refine wp_iload_n (M := mX6_deposit) (pc := 67) dX6_deposit_67 rfl ?_
    refine wp_iadd (M := mX6_deposit) (pc := 68) dX6_deposit_68 ?_
    refine wp_putI (M := mX6_deposit) (pc := 69) fa_X6_166 (Or.inl rfl) dX6_deposit_69 (by first | exact hm.1.1 | exact H.kQ | exact H.kH | exact H.kC | exact H.kU | exact H.kX | exact hR.1.2.1.2.1 | exact a2 | fail "kd") ?_
    refine wp_aload_n (M := mX6_deposit) (pc := 72) dX6_deposit_72 rfl ?_
    refine wp_getI (M := mX6_deposit) (pc := 73) fa_X6_166 rfl dX6_deposit_73 (by first | exact hm.1.1 | exact H.kQ | exact H.kH | exact H.kC | exact H.kU | exact H.kX | exact hR.1.2.1.2.1 | exact a2 | fail "kd") ?_
    refine wp_ireturn (M := mX6_deposit) (pc := 76) rfl dX6_deposit_76 ?_
    rw [gi_si_same, v4c]
    exact k1 i hi9 rfl hw (hl hv) _ (H.q1 (Fr.si (hR.ownT (by omega))) (hR.sF hi9 (by decide) _)).wc (O1.tr (H.q1O (Fr.si (hR.ownT (by omega)))))
  · rw [v4c] at f40
    have hl : ¬ (1 : Int32) = 0 → fT (xA X) i 4 + z ≤ 99999 := fun _ => Int32.not_lt.mp f40
    have hl0 : (1 : Int32) = 0 → ¬ fT (xA X) i 4 + z ≤ 99999 := fun e => absurd e (by decide)
    refine wp_iconst (M := mX6_deposit) (pc := 43) (v := 1) dX6_deposit_43 ci_1 ?_
    refine wp_goto (M := mX6_deposit) (pc := 44) (tgt := 48) dX6_deposit_44 rfl ?_
    refine so_SA1 (M := mX6_deposit) (pc := 48) (33, 492) cs_X6_deposit_68 rfl (LE rfl) (LE rfl) (LE rfl) (LE rfl) dX6_deposit_48 ?_
    refine sv_X6_requirePossible (fun hv => ?_) (fun hv => k3 i hi9 rfl hw (hl0 hv))
    refine kV ?_
    refine wp_aload_n (M := mX6_deposit) (pc := 51) dX6_deposit_51 rfl ?_
    refine wp_getR (M := mX6_deposit) (pc := 52) fa_X6_29 rfl dX6_deposit_52 (by first | exact hm.1.1 | exact H.kQ | exact H.kH | exact H.kC | exact H.kU | exact H.kX | exact hR.1.2.1.2.1 | exact a2 | fail "kd") (by first | exact hm.2.1 | exact hm.2.2.1 | exact hm.2.2.2.1 | exact hm.2.2.2.2.1 | exact hm.2.2.2.2.2.1 | exact hm.2.2.2.2.2.2 | exact hR.1.2.1.1 | exact a1 | fail "rx") ?_
    refine wp_aload_n (M := mX6_deposit) (pc := 55) dX6_deposit_55 rfl ?_
    refine wp_getR (M := mX6_deposit) (pc := 56) fa_X6_12 rfl dX6_deposit_56 (by first | exact hm.1.1 | exact H.kQ | exact H.kH | exact H.kC | exact H.kU | exact H.kX | exact hR.1.2.1.2.1 | exact a2 | fail "kd") (by first | exact hm.2.1 | exact hm.2.2.1 | exact hm.2.2.2.1 | exact hm.2.2.2.2.1 | exact hm.2.2.2.2.2.1 | exact hm.2.2.2.2.2.2 | exact hR.1.2.1.1 | exact a1 | fail "rx") ?_
    refine so_VA1 (M := mX6_deposit) (pc := 59) (0, 0) cs_X6_deposit_151 rfl (LE rfl) (LE rfl) (LE rfl) (LE rfl) dX6_deposit_59 (by first | exact hm.1.1 | exact H.kQ | exact H.kH | exact H.kC | exact H.kU | exact H.kX | exact hR.1.2.1.2.1 | exact a2 | fail "kd") ?_
    refine sb_remember H (fun h1 cs1 x1 H O1 => ?_)
    have hm := H.ob
    have hR := H.rep
    obtain ⟨a1, ⟨a2, a3⟩, ⟨a4, a5, a6⟩, a7, a8, a9⟩ := hR.1.2.2.2.1 i (by omega)
    obtain ⟨v1, v2, v3, v4, v5⟩ := hR.2.2.1 i hi9
    have v4c : gi h1 (lT l i) 4 = fT (xA X) i 4 := v1 4 (by decide)
    refine kV ?_
    refine wp_aload_n (M := mX6_deposit) (pc := 62) dX6_deposit_62 rfl ?_
    refine wp_dup (M := mX6_deposit) (pc := 63) dX6_deposit_63 rfl ?_
    refine wp_getI (M := mX6_deposit) (pc := 64) fa_X6_166 rfl dX6_deposit_64 (by first | exact hm.1.1 | exact H.kQ | exact H.kH | exact H.kC | exact H.kU | exact H.kX | exact hR.1.2.1.2.1 | exact a2 | fail "kd") ?_
    refine wp_iload_n (M := mX6_deposit) (pc := 67) dX6_deposit_67 rfl ?_
    refine wp_iadd (M := mX6_deposit) (pc := 68) dX6_deposit_68 ?_
    refine wp_putI (M := mX6_deposit) (pc := 69) fa_X6_166 (Or.inl rfl) dX6_deposit_69 (by first | exact hm.1.1 | exact H.kQ | exact H.kH | exact H.kC | exact H.kU | exact H.kX | exact hR.1.2.1.2.1 | exact a2 | fail "kd") ?_
    refine wp_aload_n (M := mX6_deposit) (pc := 72) dX6_deposit_72 rfl ?_
    refine wp_getI (M := mX6_deposit) (pc := 73) fa_X6_166 rfl dX6_deposit_73 (by first | exact hm.1.1 | exact H.kQ | exact H.kH | exact H.kC | exact H.kU | exact H.kX | exact hR.1.2.1.2.1 | exact a2 | fail "kd") ?_
    refine wp_ireturn (M := mX6_deposit) (pc := 76) rfl dX6_deposit_76 ?_
    rw [gi_si_same, v4c]
    exact k1 i hi9 rfl hw (hl hv) _ (H.q1 (Fr.si (hR.ownT (by omega))) (hR.sF hi9 (by decide) _)).wc (O1.tr (H.q1O (Fr.si (hR.ownT (by omega)))))
set_option maxHeartbeats 4000000 in
set_option maxRecDepth 100000 in
theorem sp_X6_setRate {me : Nat} {X : Abs} {t z : Int32} (H : WC h me X) (k1 : ∀ i, i < sN (xA X) → t = nI i → wth z 0 99 → ∀ h', WC h' me (actX X (wF (xA X) i 1 z)) → Of h h' → Q (.inl (some (.int (fT (xA X) i 1)))) h') (k0 : ¬ isT (xA X) t → Q (.inr "java/lang/IndexOutOfBoundsException") h) (k2 : isT (xA X) t → ¬ wth z 0 99 → Q (.inr "java/lang/IllegalArgumentException") h) : WPx E mX6_setRate 0 [some (.ref me), some (.int t), some (.int z), none] [] (35, 504) h Q := by
  obtain ⟨q, c, u, hi, sl, tx, ka, pa, fa, la, hsa, txa, x, l, lc, cs, ss, H⟩ := H
  have hm := H.ob
  have hR := H.rep
  have n6 := hR.2.1.1.2
  refine wp_aload_n (M := mX6_setRate) (pc := 0) dX6_setRate_0 rfl ?_
  refine wp_getR (M := mX6_setRate) (pc := 1) fa_X6_12 rfl dX6_setRate_1 (by first | exact hm.1.1 | exact H.kQ | exact H.kH | exact H.kC | exact H.kU | exact H.kX | exact hR.1.2.1.2.1 | exact a2 | fail "kd") (by first | exact hm.2.1 | exact hm.2.2.1 | exact hm.2.2.2.1 | exact hm.2.2.2.2.1 | exact hm.2.2.2.2.2.1 | exact hm.2.2.2.2.2.2 | exact hR.1.2.1.1 | exact a1 | fail "rx") ?_
  refine wp_iload_n (M := mX6_setRate) (pc := 4) dX6_setRate_4 rfl ?_
  refine so_V1 (M := mX6_setRate) (pc := 5) cs_X6_setRate_97 rfl rfl (LE rfl) (LE rfl) dX6_setRate_5 (by first | exact hm.1.1 | exact H.kQ | exact H.kH | exact H.kC | exact H.kU | exact H.kX | exact hR.1.2.1.2.1 | exact a2 | fail "kd") ?_
  refine sb_hasTenant hR ?_
  refine kI ?_
  refine so_SA1 (M := mX6_setRate) (pc := 8) (34, 498) cs_X6_setRate_101 rfl (LE rfl) (LE rfl) (LE rfl) (LE rfl) dX6_setRate_8 ?_
  refine sp_X6_requireThere (fun ht => ?_) (fun hw => k0 hw)
  refine kV ?_
  refine wp_iload_n (M := mX6_setRate) (pc := 11) dX6_setRate_11 rfl ?_
  refine wp_iconst (M := mX6_setRate) (pc := 12) (v := 0) dX6_setRate_12 ci_0 ?_
  refine wp_bipush (M := mX6_setRate) (pc := 13) (v := 99) dX6_setRate_13 cb_99 ?_
  refine so_S3 (M := mX6_setRate) (pc := 15) cs_X6_setRate_56 rfl rfl (LE rfl) (LE rfl) dX6_setRate_15 ?_
  refine sp_X6_isWithin ?_
  refine kI ?_
  refine so_SA1 (M := mX6_setRate) (pc := 18) (33, 492) cs_X6_setRate_60 rfl (LE rfl) (LE rfl) (LE rfl) (LE rfl) dX6_setRate_18 ?_
  refine sp_X6_requireArgument (fun hw => ?_) (fun hw => k2 ht hw)
  obtain ⟨i, hi9, rfl⟩ := ht
  refine kV ?_
  refine wp_aload_n (M := mX6_setRate) (pc := 21) dX6_setRate_21 rfl ?_
  refine wp_getR (M := mX6_setRate) (pc := 22) fa_X6_29 rfl dX6_setRate_22 (by first | exact hm.1.1 | exact H.kQ | exact H.kH | exact H.kC | exact H.kU | exact H.kX | exact hR.1.2.1.2.1 | exact a2 | fail "kd") (by first | exact hm.2.1 | exact hm.2.2.1 | exact hm.2.2.2.1 | exact hm.2.2.2.2.1 | exact hm.2.2.2.2.2.1 | exact hm.2.2.2.2.2.2 | exact hR.1.2.1.1 | exact a1 | fail "rx") ?_
  refine wp_aload_n (M := mX6_setRate) (pc := 25) dX6_setRate_25 rfl ?_
  refine wp_getR (M := mX6_setRate) (pc := 26) fa_X6_12 rfl dX6_setRate_26 (by first | exact hm.1.1 | exact H.kQ | exact H.kH | exact H.kC | exact H.kU | exact H.kX | exact hR.1.2.1.2.1 | exact a2 | fail "kd") (by first | exact hm.2.1 | exact hm.2.2.1 | exact hm.2.2.2.1 | exact hm.2.2.2.2.1 | exact hm.2.2.2.2.2.1 | exact hm.2.2.2.2.2.2 | exact hR.1.2.1.1 | exact a1 | fail "rx") ?_
  refine so_VA1 (M := mX6_setRate) (pc := 29) (0, 0) cs_X6_setRate_151 rfl (LE rfl) (LE rfl) (LE rfl) (LE rfl) dX6_setRate_29 (by first | exact hm.1.1 | exact H.kQ | exact H.kH | exact H.kC | exact H.kU | exact H.kX | exact hR.1.2.1.2.1 | exact a2 | fail "kd") ?_
  refine sb_remember H (fun h1 cs1 x1 H O1 => ?_)
  have hm := H.ob
  have hR := H.rep
  obtain ⟨a1, ⟨a2, a3⟩, ⟨a4, a5, a6⟩, a7, a8, a9⟩ := hR.1.2.2.2.1 i (by omega)
  obtain ⟨v1, v2, v3, v4, v5⟩ := hR.2.2.1 i hi9
  refine kV ?_
  refine wp_aload_n (M := mX6_setRate) (pc := 32) dX6_setRate_32 rfl ?_
  refine wp_getR (M := mX6_setRate) (pc := 33) fa_X6_12 rfl dX6_setRate_33 (by first | exact hm.1.1 | exact H.kQ | exact H.kH | exact H.kC | exact H.kU | exact H.kX | exact hR.1.2.1.2.1 | exact a2 | fail "kd") (by first | exact hm.2.1 | exact hm.2.2.1 | exact hm.2.2.2.1 | exact hm.2.2.2.2.1 | exact hm.2.2.2.2.2.1 | exact hm.2.2.2.2.2.2 | exact hR.1.2.1.1 | exact a1 | fail "rx") ?_
  refine wp_getR (M := mX6_setRate) (pc := 36) fa_X6_111 rfl dX6_setRate_36 (by first | exact hm.1.1 | exact H.kQ | exact H.kH | exact H.kC | exact H.kU | exact H.kX | exact hR.1.2.1.2.1 | exact a2 | fail "kd") (by first | exact hm.2.1 | exact hm.2.2.1 | exact hm.2.2.2.1 | exact hm.2.2.2.2.1 | exact hm.2.2.2.2.2.1 | exact hm.2.2.2.2.2.2 | exact hR.1.2.1.1 | exact a1 | fail "rx") ?_
  refine wp_iload_n (M := mX6_setRate) (pc := 39) dX6_setRate_39 rfl ?_
  refine wr_aaload (M := mX6_setRate) (pc := 40) dX6_setRate_40 (by first | exact hm.1.1 | exact H.kQ | exact H.kH | exact H.kC | exact H.kU | exact H.kX | exact hR.1.2.1.2.1 | exact a2 | fail "kd") (by decide) rfl (by omega) (by decide) (by first | exact hm.2.1 | exact hm.2.2.1 | exact hm.2.2.2.1 | exact hm.2.2.2.2.1 | exact hm.2.2.2.2.2.1 | exact hm.2.2.2.2.2.2 | exact hR.1.2.1.1 | exact a1 | fail "rx") ?_
  refine wp_getI (M := mX6_setRate) (pc := 41) fa_X6_174 rfl dX6_setRate_41 (by first | exact hm.1.1 | exact H.kQ | exact H.kH | exact H.kC | exact H.kU | exact H.kX | exact hR.1.2.1.2.1 | exact a2 | fail "kd") ?_
  refine so_istore_n (M := mX6_setRate) (pc := 44) (lo' := [_, _, _, _]) dX6_setRate_44 (LE rfl) (LE rfl) (Or.inr rfl) rfl ?_
  refine wp_aload_n (M := mX6_setRate) (pc := 45) dX6_setRate_45 rfl ?_
  refine wp_getR (M := mX6_setRate) (pc := 46) fa_X6_12 rfl dX6_setRate_46 (by first | exact hm.1.1 | exact H.kQ | exact H.kH | exact H.kC | exact H.kU | exact H.kX | exact hR.1.2.1.2.1 | exact a2 | fail "kd") (by first | exact hm.2.1 | exact hm.2.2.1 | exact hm.2.2.2.1 | exact hm.2.2.2.2.1 | exact hm.2.2.2.2.2.1 | exact hm.2.2.2.2.2.2 | exact hR.1.2.1.1 | exact a1 | fail "rx") ?_
  refine wp_getR (M := mX6_setRate) (pc := 49) fa_X6_111 rfl dX6_setRate_49 (by first | exact hm.1.1 | exact H.kQ | exact H.kH | exact H.kC | exact H.kU | exact H.kX | exact hR.1.2.1.2.1 | exact a2 | fail "kd") (by first | exact hm.2.1 | exact hm.2.2.1 | exact hm.2.2.2.1 | exact hm.2.2.2.2.1 | exact hm.2.2.2.2.2.1 | exact hm.2.2.2.2.2.2 | exact hR.1.2.1.1 | exact a1 | fail "rx") ?_
  refine wp_iload_n (M := mX6_setRate) (pc := 52) dX6_setRate_52 rfl ?_
  refine wr_aaload (M := mX6_setRate) (pc := 53) dX6_setRate_53 (by first | exact hm.1.1 | exact H.kQ | exact H.kH | exact H.kC | exact H.kU | exact H.kX | exact hR.1.2.1.2.1 | exact a2 | fail "kd") (by decide) rfl (by omega) (by decide) (by first | exact hm.2.1 | exact hm.2.2.1 | exact hm.2.2.2.1 | exact hm.2.2.2.2.1 | exact hm.2.2.2.2.2.1 | exact hm.2.2.2.2.2.2 | exact hR.1.2.1.1 | exact a1 | fail "rx") ?_
  refine wp_iload_n (M := mX6_setRate) (pc := 54) dX6_setRate_54 rfl ?_
  refine wp_putI (M := mX6_setRate) (pc := 55) fa_X6_174 (Or.inl rfl) dX6_setRate_55 (by first | exact hm.1.1 | exact H.kQ | exact H.kH | exact H.kC | exact H.kU | exact H.kX | exact hR.1.2.1.2.1 | exact a2 | fail "kd") ?_
  refine wp_iload_n (M := mX6_setRate) (pc := 58) dX6_setRate_58 rfl ?_
  refine wp_ireturn (M := mX6_setRate) (pc := 59) rfl dX6_setRate_59 ?_
  rw [v1 1 (by decide)]
  exact k1 i hi9 rfl hw _ (H.q1 (Fr.si (hR.ownT (by omega))) (hR.sF hi9 (by decide) _)).wc (O1.tr (H.q1O (Fr.si (hR.ownT (by omega)))))
set_option maxHeartbeats 4000000 in
set_option maxRecDepth 100000 in
theorem sp_X6_setWidth {me : Nat} {X : Abs} {z : Int32} (H : WC h me X) (k1 : wth z 1 999 → ∀ h', WC h' me (actX X (wG (xA X) 1 z)) → Of h h' → Q (.inl (some (.int (sG (xA X) 1)))) h') (k0 : ¬ wth z 1 999 → Q (.inr "java/lang/IllegalArgumentException") h) : WPx E mX6_setWidth 0 [some (.ref me), some (.int z), none] [] (34, 498) h Q := by
  obtain ⟨q, c, u, hi, sl, tx, ka, pa, fa, la, hsa, txa, x, l, lc, cs, ss, H⟩ := H
  have hm := H.ob
  have hR := H.rep
  have n6 := hR.2.1.1.2
  refine wp_iload_n (M := mX6_setWidth) (pc := 0) dX6_setWidth_0 rfl ?_
  refine wp_iconst (M := mX6_setWidth) (pc := 1) (v := 1) dX6_setWidth_1 ci_1 ?_
  refine wp_sipush (M := mX6_setWidth) (pc := 2) (v := 999) dX6_setWidth_2 ch_999 ?_
  refine so_S3 (M := mX6_setWidth) (pc := 5) cs_X6_setWidth_56 rfl rfl (LE rfl) (LE rfl) dX6_setWidth_5 ?_
  refine sp_X6_isWithin ?_
  refine kI ?_
  refine so_SA1 (M := mX6_setWidth) (pc := 8) (33, 492) cs_X6_setWidth_60 rfl (LE rfl) (LE rfl) (LE rfl) (LE rfl) dX6_setWidth_8 ?_
  refine sp_X6_requireArgument (fun hw => ?_) (fun hw => k0 hw)
  refine kV ?_
  refine wp_aload_n (M := mX6_setWidth) (pc := 11) dX6_setWidth_11 rfl ?_
  refine wp_getR (M := mX6_setWidth) (pc := 12) fa_X6_29 rfl dX6_setWidth_12 (by first | exact hm.1.1 | exact H.kQ | exact H.kH | exact H.kC | exact H.kU | exact H.kX | exact hR.1.2.1.2.1 | exact a2 | fail "kd") (by first | exact hm.2.1 | exact hm.2.2.1 | exact hm.2.2.2.1 | exact hm.2.2.2.2.1 | exact hm.2.2.2.2.2.1 | exact hm.2.2.2.2.2.2 | exact hR.1.2.1.1 | exact a1 | fail "rx") ?_
  refine wp_aload_n (M := mX6_setWidth) (pc := 15) dX6_setWidth_15 rfl ?_
  refine wp_getR (M := mX6_setWidth) (pc := 16) fa_X6_12 rfl dX6_setWidth_16 (by first | exact hm.1.1 | exact H.kQ | exact H.kH | exact H.kC | exact H.kU | exact H.kX | exact hR.1.2.1.2.1 | exact a2 | fail "kd") (by first | exact hm.2.1 | exact hm.2.2.1 | exact hm.2.2.2.1 | exact hm.2.2.2.2.1 | exact hm.2.2.2.2.2.1 | exact hm.2.2.2.2.2.2 | exact hR.1.2.1.1 | exact a1 | fail "rx") ?_
  refine so_VA1 (M := mX6_setWidth) (pc := 19) (0, 0) cs_X6_setWidth_151 rfl (LE rfl) (LE rfl) (LE rfl) (LE rfl) dX6_setWidth_19 (by first | exact hm.1.1 | exact H.kQ | exact H.kH | exact H.kC | exact H.kU | exact H.kX | exact hR.1.2.1.2.1 | exact a2 | fail "kd") ?_
  refine sb_remember H (fun h1 cs1 x1 H O1 => ?_)
  have hm := H.ob
  have hR := H.rep
  refine kV ?_
  refine wp_aload_n (M := mX6_setWidth) (pc := 22) dX6_setWidth_22 rfl ?_
  refine wp_getR (M := mX6_setWidth) (pc := 23) fa_X6_12 rfl dX6_setWidth_23 (by first | exact hm.1.1 | exact H.kQ | exact H.kH | exact H.kC | exact H.kU | exact H.kX | exact hR.1.2.1.2.1 | exact a2 | fail "kd") (by first | exact hm.2.1 | exact hm.2.2.1 | exact hm.2.2.2.1 | exact hm.2.2.2.2.1 | exact hm.2.2.2.2.2.1 | exact hm.2.2.2.2.2.2 | exact hR.1.2.1.1 | exact a1 | fail "rx") ?_
  refine wp_getI (M := mX6_setWidth) (pc := 26) fa_X6_177 rfl dX6_setWidth_26 (by first | exact hm.1.1 | exact H.kQ | exact H.kH | exact H.kC | exact H.kU | exact H.kX | exact hR.1.2.1.2.1 | exact a2 | fail "kd") ?_
  refine so_istore_n (M := mX6_setWidth) (pc := 29) (lo' := [_, _, _]) dX6_setWidth_29 (LE rfl) (LE rfl) (Or.inr rfl) rfl ?_
  refine wp_aload_n (M := mX6_setWidth) (pc := 30) dX6_setWidth_30 rfl ?_
  refine wp_getR (M := mX6_setWidth) (pc := 31) fa_X6_12 rfl dX6_setWidth_31 (by first | exact hm.1.1 | exact H.kQ | exact H.kH | exact H.kC | exact H.kU | exact H.kX | exact hR.1.2.1.2.1 | exact a2 | fail "kd") (by first | exact hm.2.1 | exact hm.2.2.1 | exact hm.2.2.2.1 | exact hm.2.2.2.2.1 | exact hm.2.2.2.2.2.1 | exact hm.2.2.2.2.2.2 | exact hR.1.2.1.1 | exact a1 | fail "rx") ?_
  refine wp_iload_n (M := mX6_setWidth) (pc := 34) dX6_setWidth_34 rfl ?_
  refine wp_putI (M := mX6_setWidth) (pc := 35) fa_X6_177 (Or.inl rfl) dX6_setWidth_35 (by first | exact hm.1.1 | exact H.kQ | exact H.kH | exact H.kC | exact H.kU | exact H.kX | exact hR.1.2.1.2.1 | exact a2 | fail "kd") ?_
  refine wp_iload_n (M := mX6_setWidth) (pc := 38) dX6_setWidth_38 rfl ?_
  refine wp_ireturn (M := mX6_setWidth) (pc := 39) rfl dX6_setWidth_39 ?_
  rw [hR.2.1.2.2.1]
  exact k1 hw _ (H.q1 (Fr.si hR.ownS) (hR.sWidth z)).wc (O1.tr (H.q1O (Fr.si hR.ownS)))
set_option maxHeartbeats 4000000 in
set_option maxRecDepth 100000 in
theorem sp_X6_tick {me : Nat} {X : Abs} {w : Int32} (H : WC h me X) (hok : okT (xA X) 99) (k1 : ∀ n, 1 ≤ n → n ≤ 50 → w = nI n → ∀ h', WC h' me (actX X (tks n (xA X)).1) → Of h h' → Q (.inl (some (.int (tks n (xA X)).2))) h') (k0 : ¬ wth w 1 50 → Q (.inr "java/lang/IllegalArgumentException") h) : WPx E mX6_tick 0 [some (.ref me), some (.int w)] [] (34, 498) h Q := by
  obtain ⟨q, c, u, hi, sl, tx, ka, pa, fa, la, hsa, txa, x, l, lc, cs, ss, H⟩ := H
  have hm := H.ob
  have hR := H.rep
  have n6 := hR.2.1.1.2
  refine wp_iload_n (M := mX6_tick) (pc := 0) dX6_tick_0 rfl ?_
  refine wp_iconst (M := mX6_tick) (pc := 1) (v := 1) dX6_tick_1 ci_1 ?_
  refine wp_bipush (M := mX6_tick) (pc := 2) (v := 50) dX6_tick_2 cb_50 ?_
  refine so_S3 (M := mX6_tick) (pc := 4) cs_X6_tick_56 rfl rfl (LE rfl) (LE rfl) dX6_tick_4 ?_
  refine sp_X6_isWithin ?_
  refine kI ?_
  refine so_SA1 (M := mX6_tick) (pc := 7) (33, 492) cs_X6_tick_60 rfl (LE rfl) (LE rfl) (LE rfl) (LE rfl) dX6_tick_7 ?_
  refine sp_X6_requireArgument (fun hw => ?_) (fun hw => k0 hw)
  obtain ⟨n, hn1, hn2, rfl⟩ := wth_1 (b := 50) (by decide) hw
  refine kV ?_
  refine wp_aload_n (M := mX6_tick) (pc := 10) dX6_tick_10 rfl ?_
  refine wp_getR (M := mX6_tick) (pc := 11) fa_X6_29 rfl dX6_tick_11 (by first | exact hm.1.1 | exact H.kQ | exact H.kH | exact H.kC | exact H.kU | exact H.kX | exact hR.1.2.1.2.1 | exact a2 | fail "kd") (by first | exact hm.2.1 | exact hm.2.2.1 | exact hm.2.2.2.1 | exact hm.2.2.2.2.1 | exact hm.2.2.2.2.2.1 | exact hm.2.2.2.2.2.2 | exact hR.1.2.1.1 | exact a1 | fail "rx") ?_
  refine wp_aload_n (M := mX6_tick) (pc := 14) dX6_tick_14 rfl ?_
  refine wp_getR (M := mX6_tick) (pc := 15) fa_X6_12 rfl dX6_tick_15 (by first | exact hm.1.1 | exact H.kQ | exact H.kH | exact H.kC | exact H.kU | exact H.kX | exact hR.1.2.1.2.1 | exact a2 | fail "kd") (by first | exact hm.2.1 | exact hm.2.2.1 | exact hm.2.2.2.1 | exact hm.2.2.2.2.1 | exact hm.2.2.2.2.2.1 | exact hm.2.2.2.2.2.2 | exact hR.1.2.1.1 | exact a1 | fail "rx") ?_
  refine so_VA1 (M := mX6_tick) (pc := 18) (0, 0) cs_X6_tick_151 rfl (LE rfl) (LE rfl) (LE rfl) (LE rfl) dX6_tick_18 (by first | exact hm.1.1 | exact H.kQ | exact H.kH | exact H.kC | exact H.kU | exact H.kX | exact hR.1.2.1.2.1 | exact a2 | fail "kd") ?_
  refine sb_remember H (fun h1 cs1 x1 H O1 => ?_)
  have hm := H.ob
  have hR := H.rep
  refine kV ?_
  refine wp_aload_n (M := mX6_tick) (pc := 21) dX6_tick_21 rfl ?_
  refine wp_getR (M := mX6_tick) (pc := 22) fa_X6_12 rfl dX6_tick_22 (by first | exact hm.1.1 | exact H.kQ | exact H.kH | exact H.kC | exact H.kU | exact H.kX | exact hR.1.2.1.2.1 | exact a2 | fail "kd") (by first | exact hm.2.1 | exact hm.2.2.1 | exact hm.2.2.2.1 | exact hm.2.2.2.2.1 | exact hm.2.2.2.2.2.1 | exact hm.2.2.2.2.2.2 | exact hR.1.2.1.1 | exact a1 | fail "rx") ?_
  refine wp_iload_n (M := mX6_tick) (pc := 25) dX6_tick_25 rfl ?_
  refine wp_aload_n (M := mX6_tick) (pc := 26) dX6_tick_26 rfl ?_
  refine wp_getR (M := mX6_tick) (pc := 27) fa_X6_22 rfl dX6_tick_27 (by first | exact hm.1.1 | exact H.kQ | exact H.kH | exact H.kC | exact H.kU | exact H.kX | exact hR.1.2.1.2.1 | exact a2 | fail "kd") (by first | exact hm.2.1 | exact hm.2.2.1 | exact hm.2.2.2.1 | exact hm.2.2.2.2.1 | exact hm.2.2.2.2.2.1 | exact hm.2.2.2.2.2.2 | exact hR.1.2.1.1 | exact a1 | fail "rx") ?_
  refine so_V2 (M := mX6_tick) (pc := 30) cs_X6_tick_170 rfl rfl (LE rfl) (LE rfl) dX6_tick_30 (by first | exact hm.1.1 | exact H.kQ | exact H.kH | exact H.kC | exact H.kU | exact H.kX | exact hR.1.2.1.2.1 | exact a2 | fail "kd") ?_
  refine sp_X4_advance hR H.au (nk H.kU H.kQ (by simp)) hok.1 (by omega) (by have := hok.2.1; show sTi (xA X) + n + 100 < 2 ^ 30; omega) hok.2.2.1 (fun j hj => hok.2.2.2 j (by omega)) (fun h2 l2 e2 R2 A2 F2 => ?_)
  refine kI ?_
  refine wp_ireturn (M := mX6_tick) (pc := 33) rfl dX6_tick_33 ?_
  exact k1 n hn1 hn2 rfl h2 (H.qu F2 R2 A2).wc (O1.tr (H.quO F2))
set_option maxHeartbeats 4000000 in
set_option maxRecDepth 100000 in
theorem sp_X6_undo {me : Nat} {X : Abs} (H : WC h me X) (k1 : ∀ B hs, xH X = B :: hs → ∀ h', WC h' me (B, hs, X.2.2) → Of h h' → Q (.inl (some (.int (nI hs.length)))) h') (k0 : xH X = [] → Q (.inr "java/lang/IllegalStateException") h) : WPx E mX6_undo 0 [some (.ref me)] [] (1, 6) h Q := by
  obtain ⟨q, c, u, hi, sl, tx, ka, pa, fa, la, hsa, txa, x, l, lc, cs, ss, H⟩ := H
  have hm := H.ob
  have hR := H.rep
  have n6 := hR.2.1.1.2
  have hcn := H.pH.2.2.1.1
  have hcl := H.pH.2.2.1.2
  refine wp_aload_n (M := mX6_undo) (pc := 0) dX6_undo_0 rfl ?_
  refine wp_getR (M := mX6_undo) (pc := 1) fa_X6_29 rfl dX6_undo_1 (by first | exact hm.1.1 | exact H.kQ | exact H.kH | exact H.kC | exact H.kU | exact H.kX | exact hR.1.2.1.2.1 | exact a2 | fail "kd") (by first | exact hm.2.1 | exact hm.2.2.1 | exact hm.2.2.2.1 | exact hm.2.2.2.2.1 | exact hm.2.2.2.2.2.1 | exact hm.2.2.2.2.2.2 | exact hR.1.2.1.1 | exact a1 | fail "rx") ?_
  refine wp_getI (M := mX6_undo) (pc := 4) fa_X6_180 rfl dX6_undo_4 (by first | exact hm.1.1 | exact H.kQ | exact H.kH | exact H.kC | exact H.kU | exact H.kX | exact hR.1.2.1.2.1 | exact a2 | fail "kd") ?_
  refine wp_if_le (M := mX6_undo) (pc := 7) (tgt := 14) dX6_undo_7 rfl (fun t7 => ?_) (fun f7 => ?_)
  · rw [hcn] at t7
    have e0 : xH X = [] := List.eq_nil_of_length_eq_zero (Nat.le_zero.mp ((i_le (b := 0) (by omega) (by decide)).mp t7))
    have hl : ¬ (0 : Int32) = 0 → ∃ B hs, xH X = B :: hs := fun e => absurd rfl e
    have hl0 : (0 : Int32) = 0 → xH X = [] := fun _ => e0
    refine wp_iconst (M := mX6_undo) (pc := 14) (v := 0) dX6_undo_14 ci_0 ?_
    refine so_SA1 (M := mX6_undo) (pc := 15) (0, 0) cs_X6_undo_68 rfl (LE rfl) (LE rfl) (LE rfl) (LE rfl) dX6_undo_15 ?_
    refine sv_X6_requirePossible (fun hv => ?_) (fun hv => k0 (hl0 hv))
    obtain ⟨B, hs, eB⟩ := hl hv
    have hH := H.pH
    rw [eB] at hH
    refine kV ?_
    refine wp_aload_n (M := mX6_undo) (pc := 18) dX6_undo_18 rfl ?_
    refine wp_getR (M := mX6_undo) (pc := 19) fa_X6_29 rfl dX6_undo_19 (by first | exact hm.1.1 | exact H.kQ | exact H.kH | exact H.kC | exact H.kU | exact H.kX | exact hR.1.2.1.2.1 | exact a2 | fail "kd") (by first | exact hm.2.1 | exact hm.2.2.1 | exact hm.2.2.2.1 | exact hm.2.2.2.2.1 | exact hm.2.2.2.2.2.1 | exact hm.2.2.2.2.2.2 | exact hR.1.2.1.1 | exact a1 | fail "rx") ?_
    refine wp_aload_n (M := mX6_undo) (pc := 22) dX6_undo_22 rfl ?_
    refine wp_getR (M := mX6_undo) (pc := 23) fa_X6_12 rfl dX6_undo_23 (by first | exact hm.1.1 | exact H.kQ | exact H.kH | exact H.kC | exact H.kU | exact H.kX | exact hR.1.2.1.2.1 | exact a2 | fail "kd") (by first | exact hm.2.1 | exact hm.2.2.1 | exact hm.2.2.2.1 | exact hm.2.2.2.2.1 | exact hm.2.2.2.2.2.1 | exact hm.2.2.2.2.2.2 | exact hR.1.2.1.1 | exact a1 | fail "rx") ?_
    refine so_V1 (M := mX6_undo) (pc := 26) cs_X6_undo_183 rfl rfl (LE rfl) (LE rfl) dX6_undo_26 (by first | exact hm.1.1 | exact H.kQ | exact H.kH | exact H.kC | exact H.kU | exact H.kX | exact hR.1.2.1.2.1 | exact a2 | fail "kd") ?_
    refine sp_X2_takeBack hH hR.1 (nk H.kH H.kQ (by simp)) (fun j hj y e => (H.ds.2.1 j hj y e).1) (fun h2 R2 H2 F2 => ?_)
    refine kI ?_
    refine wp_ireturn (M := mX6_undo) (pc := 29) rfl dX6_undo_29 ?_
    exact k1 B hs eB h2 (H.hq F2 R2 H2).wc (H.hqO F2)
  · rw [hcn] at f7
    have e0 : ¬ (xH X).length ≤ 0 := fun e => f7 ((i_le (b := 0) (by omega) (by decide)).mpr e)
    have hl : ¬ (1 : Int32) = 0 → ∃ B hs, xH X = B :: hs := fun _ => by
      cases e9 : xH X with
      | nil => rw [e9] at e0; exact absurd (Nat.le_refl 0) e0
      | cons B hs => exact ⟨B, hs, rfl⟩
    have hl0 : (1 : Int32) = 0 → xH X = [] := fun e => absurd e (by decide)
    refine wp_iconst (M := mX6_undo) (pc := 10) (v := 1) dX6_undo_10 ci_1 ?_
    refine wp_goto (M := mX6_undo) (pc := 11) (tgt := 15) dX6_undo_11 rfl ?_
    refine so_SA1 (M := mX6_undo) (pc := 15) (0, 0) cs_X6_undo_68 rfl (LE rfl) (LE rfl) (LE rfl) (LE rfl) dX6_undo_15 ?_
    refine sv_X6_requirePossible (fun hv => ?_) (fun hv => k0 (hl0 hv))
    obtain ⟨B, hs, eB⟩ := hl hv
    have hH := H.pH
    rw [eB] at hH
    refine kV ?_
    refine wp_aload_n (M := mX6_undo) (pc := 18) dX6_undo_18 rfl ?_
    refine wp_getR (M := mX6_undo) (pc := 19) fa_X6_29 rfl dX6_undo_19 (by first | exact hm.1.1 | exact H.kQ | exact H.kH | exact H.kC | exact H.kU | exact H.kX | exact hR.1.2.1.2.1 | exact a2 | fail "kd") (by first | exact hm.2.1 | exact hm.2.2.1 | exact hm.2.2.2.1 | exact hm.2.2.2.2.1 | exact hm.2.2.2.2.2.1 | exact hm.2.2.2.2.2.2 | exact hR.1.2.1.1 | exact a1 | fail "rx") ?_
    refine wp_aload_n (M := mX6_undo) (pc := 22) dX6_undo_22 rfl ?_
    refine wp_getR (M := mX6_undo) (pc := 23) fa_X6_12 rfl dX6_undo_23 (by first | exact hm.1.1 | exact H.kQ | exact H.kH | exact H.kC | exact H.kU | exact H.kX | exact hR.1.2.1.2.1 | exact a2 | fail "kd") (by first | exact hm.2.1 | exact hm.2.2.1 | exact hm.2.2.2.1 | exact hm.2.2.2.2.1 | exact hm.2.2.2.2.2.1 | exact hm.2.2.2.2.2.2 | exact hR.1.2.1.1 | exact a1 | fail "rx") ?_
    refine so_V1 (M := mX6_undo) (pc := 26) cs_X6_undo_183 rfl rfl (LE rfl) (LE rfl) dX6_undo_26 (by first | exact hm.1.1 | exact H.kQ | exact H.kH | exact H.kC | exact H.kU | exact H.kX | exact hR.1.2.1.2.1 | exact a2 | fail "kd") ?_
    refine sp_X2_takeBack hH hR.1 (nk H.kH H.kQ (by simp)) (fun j hj y e => (H.ds.2.1 j hj y e).1) (fun h2 R2 H2 F2 => ?_)
    refine kI ?_
    refine wp_ireturn (M := mX6_undo) (pc := 29) rfl dX6_undo_29 ?_
    exact k1 B hs eB h2 (H.hq F2 R2 H2).wc (H.hqO F2)
set_option maxHeartbeats 4000000 in
set_option maxRecDepth 100000 in
theorem sp_X6_addOrder {me : Nat} {X : Abs} {kd : Nat} {t p z : Int32} (H : WC h me X) (hkd : kd < 3) (k1 : ∀ i, i < sN (xA X) → t = nI i → wth p 1 99 → wth z 1 99 → canP (xA X) kd i p z → ∀ h', WC h' me (actX X (placeA (xA X) kd i p z)) → Of h h' → Q (.inl (some (.int (nI (sO (xA X)).length)))) h') (k0 : ¬ isT (xA X) t → Q (.inr "java/lang/IndexOutOfBoundsException") h) (k2 : isT (xA X) t → ¬ (wth p 1 99 ∧ wth z 1 99) → Q (.inr "java/lang/IllegalArgumentException") h) (k3 : ∀ i, i < sN (xA X) → t = nI i → wth p 1 99 → wth z 1 99 → ¬ canP (xA X) kd i p z → Q (.inr "java/lang/IllegalStateException") h) : WPx E mX6_addOrder 0 [some (.ref me), some (.int (nI kd)), some (.int t), some (.int p), some (.int z)] [] (36, 510) h Q := by
  obtain ⟨q, c, u, hi, sl, tx, ka, pa, fa, la, hsa, txa, x, l, lc, cs, ss, H⟩ := H
  have hm := H.ob
  have hR := H.rep
  have n6 := hR.2.1.1.2
  refine wp_aload_n (M := mX6_addOrder) (pc := 0) dX6_addOrder_0 rfl ?_
  refine wp_getR (M := mX6_addOrder) (pc := 1) fa_X6_12 rfl dX6_addOrder_1 (by first | exact hm.1.1 | exact H.kQ | exact H.kH | exact H.kC | exact H.kU | exact H.kX | exact hR.1.2.1.2.1 | exact a2 | fail "kd") (by first | exact hm.2.1 | exact hm.2.2.1 | exact hm.2.2.2.1 | exact hm.2.2.2.2.1 | exact hm.2.2.2.2.2.1 | exact hm.2.2.2.2.2.2 | exact hR.1.2.1.1 | exact a1 | fail "rx") ?_
  refine wp_iload_n (M := mX6_addOrder) (pc := 4) dX6_addOrder_4 rfl ?_
  refine so_V1 (M := mX6_addOrder) (pc := 5) cs_X6_addOrder_97 rfl rfl (LE rfl) (LE rfl) dX6_addOrder_5 (by first | exact hm.1.1 | exact H.kQ | exact H.kH | exact H.kC | exact H.kU | exact H.kX | exact hR.1.2.1.2.1 | exact a2 | fail "kd") ?_
  refine sb_hasTenant hR ?_
  refine kI ?_
  refine so_SA1 (M := mX6_addOrder) (pc := 8) (35, 504) cs_X6_addOrder_101 rfl (LE rfl) (LE rfl) (LE rfl) (LE rfl) dX6_addOrder_8 ?_
  refine sp_X6_requireThere (fun ht => ?_) (fun hw => k0 hw)
  refine kV ?_
  refine wp_iload_n (M := mX6_addOrder) (pc := 11) dX6_addOrder_11 rfl ?_
  refine so_S1 (M := mX6_addOrder) (pc := 12) cs_X6_addOrder_157 rfl rfl (LE rfl) (LE rfl) dX6_addOrder_12 ?_
  refine sp_X6_isTwoDigits ?_
  refine kI ?_
  refine wp_if_eq (M := mX6_addOrder) (pc := 15) (tgt := 30) dX6_addOrder_15 rfl (fun t15 => ?_) (fun f15 => ?_)
  · have hl : ¬ (0 : Int32) = 0 → (wth p 1 99 ∧ wth z 1 99) := fun e => absurd rfl e
    have hl0 : (0 : Int32) = 0 → ¬ (wth p 1 99 ∧ wth z 1 99) := fun _ e => b01_z t15 e.1
    refine wp_iconst (M := mX6_addOrder) (pc := 30) (v := 0) dX6_addOrder_30 ci_0 ?_
    refine so_SA1 (M := mX6_addOrder) (pc := 31) (34, 498) cs_X6_addOrder_60 rfl (LE rfl) (LE rfl) (LE rfl) (LE rfl) dX6_addOrder_31 ?_
    refine sv_X6_requireArgument (fun hv => ?_) (fun hv => k2 ht (hl0 hv))
    obtain ⟨w1, w2⟩ := hl hv
    obtain ⟨i, hi9, rfl⟩ := ht
    refine kV ?_
    refine wp_aload_n (M := mX6_addOrder) (pc := 34) dX6_addOrder_34 rfl ?_
    refine wp_getR (M := mX6_addOrder) (pc := 35) fa_X6_12 rfl dX6_addOrder_35 (by first | exact hm.1.1 | exact H.kQ | exact H.kH | exact H.kC | exact H.kU | exact H.kX | exact hR.1.2.1.2.1 | exact a2 | fail "kd") (by first | exact hm.2.1 | exact hm.2.2.1 | exact hm.2.2.2.1 | exact hm.2.2.2.2.1 | exact hm.2.2.2.2.2.1 | exact hm.2.2.2.2.2.2 | exact hR.1.2.1.1 | exact a1 | fail "rx") ?_
    refine wp_iload_n (M := mX6_addOrder) (pc := 38) dX6_addOrder_38 rfl ?_
    refine wp_iload_n (M := mX6_addOrder) (pc := 39) dX6_addOrder_39 rfl ?_
    refine wp_iload_n (M := mX6_addOrder) (pc := 40) dX6_addOrder_40 rfl ?_
    refine wp_iload (M := mX6_addOrder) (pc := 41) dX6_addOrder_41 rfl ?_
    refine so_V4 (M := mX6_addOrder) (pc := 43) cs_X6_addOrder_277 rfl rfl (LE rfl) (LE rfl) dX6_addOrder_43 (by first | exact hm.1.1 | exact H.kQ | exact H.kH | exact H.kC | exact H.kU | exact H.kX | exact hR.1.2.1.2.1 | exact a2 | fail "kd") ?_
    refine sb_canPlace hR hi9 hkd ?_
    refine kI ?_
    refine so_SA1 (M := mX6_addOrder) (pc := 46) (33, 492) cs_X6_addOrder_68 rfl (LE rfl) (LE rfl) (LE rfl) (LE rfl) dX6_addOrder_46 ?_
    refine sp_X6_requirePossible (fun hc => ?_) (fun hc => k3 i hi9 rfl w1 w2 hc)
    refine kV ?_
    refine wp_aload_n (M := mX6_addOrder) (pc := 49) dX6_addOrder_49 rfl ?_
    refine wp_getR (M := mX6_addOrder) (pc := 50) fa_X6_29 rfl dX6_addOrder_50 (by first | exact hm.1.1 | exact H.kQ | exact H.kH | exact H.kC | exact H.kU | exact H.kX | exact hR.1.2.1.2.1 | exact a2 | fail "kd") (by first | exact hm.2.1 | exact hm.2.2.1 | exact hm.2.2.2.1 | exact hm.2.2.2.2.1 | exact hm.2.2.2.2.2.1 | exact hm.2.2.2.2.2.2 | exact hR.1.2.1.1 | exact a1 | fail "rx") ?_
    refine wp_aload_n (M := mX6_addOrder) (pc := 53) dX6_addOrder_53 rfl ?_
    refine wp_getR (M := mX6_addOrder) (pc := 54) fa_X6_12 rfl dX6_addOrder_54 (by first | exact hm.1.1 | exact H.kQ | exact H.kH | exact H.kC | exact H.kU | exact H.kX | exact hR.1.2.1.2.1 | exact a2 | fail "kd") (by first | exact hm.2.1 | exact hm.2.2.1 | exact hm.2.2.2.1 | exact hm.2.2.2.2.1 | exact hm.2.2.2.2.2.1 | exact hm.2.2.2.2.2.2 | exact hR.1.2.1.1 | exact a1 | fail "rx") ?_
    refine so_VA1 (M := mX6_addOrder) (pc := 57) (0, 0) cs_X6_addOrder_151 rfl (LE rfl) (LE rfl) (LE rfl) (LE rfl) dX6_addOrder_57 (by first | exact hm.1.1 | exact H.kQ | exact H.kH | exact H.kC | exact H.kU | exact H.kX | exact hR.1.2.1.2.1 | exact a2 | fail "kd") ?_
    refine sb_remember H (fun h1 cs1 x1 H O1 => ?_)
    have hm := H.ob
    have hR := H.rep
    refine kV ?_
    refine wp_aload_n (M := mX6_addOrder) (pc := 60) dX6_addOrder_60 rfl ?_
    refine wp_getR (M := mX6_addOrder) (pc := 61) fa_X6_12 rfl dX6_addOrder_61 (by first | exact hm.1.1 | exact H.kQ | exact H.kH | exact H.kC | exact H.kU | exact H.kX | exact hR.1.2.1.2.1 | exact a2 | fail "kd") (by first | exact hm.2.1 | exact hm.2.2.1 | exact hm.2.2.2.1 | exact hm.2.2.2.2.1 | exact hm.2.2.2.2.2.1 | exact hm.2.2.2.2.2.2 | exact hR.1.2.1.1 | exact a1 | fail "rx") ?_
    refine wp_iload_n (M := mX6_addOrder) (pc := 64) dX6_addOrder_64 rfl ?_
    refine wp_iload_n (M := mX6_addOrder) (pc := 65) dX6_addOrder_65 rfl ?_
    refine wp_iload_n (M := mX6_addOrder) (pc := 66) dX6_addOrder_66 rfl ?_
    refine wp_iload (M := mX6_addOrder) (pc := 67) dX6_addOrder_67 rfl ?_
    refine so_V4 (M := mX6_addOrder) (pc := 69) cs_X6_addOrder_281 rfl rfl (LE rfl) (LE rfl) dX6_addOrder_69 (by first | exact hm.1.1 | exact H.kQ | exact H.kH | exact H.kC | exact H.kU | exact H.kX | exact hR.1.2.1.2.1 | exact a2 | fail "kd") ?_
    refine sp_X4_place hR hi9 hkd hc.1 (fun h2 R2 F2 => ?_)
    refine kI ?_
    refine wp_ireturn (M := mX6_addOrder) (pc := 72) rfl dX6_addOrder_72 ?_
    exact k1 i hi9 rfl w1 w2 hc h2 (H.q1 F2 R2).wc (O1.tr (H.q1O F2))
  · refine wp_iload (M := mX6_addOrder) (pc := 18) dX6_addOrder_18 rfl ?_
    refine so_S1 (M := mX6_addOrder) (pc := 20) cs_X6_addOrder_157 rfl rfl (LE rfl) (LE rfl) dX6_addOrder_20 ?_
    refine sp_X6_isTwoDigits ?_
    refine kI ?_
    refine wp_if_eq (M := mX6_addOrder) (pc := 23) (tgt := 30) dX6_addOrder_23 rfl (fun t23 => ?_) (fun f23 => ?_)
    · have hl : ¬ (0 : Int32) = 0 → (wth p 1 99 ∧ wth z 1 99) := fun e => absurd rfl e
      have hl0 : (0 : Int32) = 0 → ¬ (wth p 1 99 ∧ wth z 1 99) := fun _ e => b01_z t23 e.2
      refine wp_iconst (M := mX6_addOrder) (pc := 30) (v := 0) dX6_addOrder_30 ci_0 ?_
      refine so_SA1 (M := mX6_addOrder) (pc := 31) (34, 498) cs_X6_addOrder_60 rfl (LE rfl) (LE rfl) (LE rfl) (LE rfl) dX6_addOrder_31 ?_
      refine sv_X6_requireArgument (fun hv => ?_) (fun hv => k2 ht (hl0 hv))
      obtain ⟨w1, w2⟩ := hl hv
      obtain ⟨i, hi9, rfl⟩ := ht
      refine kV ?_
      refine wp_aload_n (M := mX6_addOrder) (pc := 34) dX6_addOrder_34 rfl ?_
      refine wp_getR (M := mX6_addOrder) (pc := 35) fa_X6_12 rfl dX6_addOrder_35 (by first | exact hm.1.1 | exact H.kQ | exact H.kH | exact H.kC | exact H.kU | exact H.kX | exact hR.1.2.1.2.1 | exact a2 | fail "kd") (by first | exact hm.2.1 | exact hm.2.2.1 | exact hm.2.2.2.1 | exact hm.2.2.2.2.1 | exact hm.2.2.2.2.2.1 | exact hm.2.2.2.2.2.2 | exact hR.1.2.1.1 | exact a1 | fail "rx") ?_
      refine wp_iload_n (M := mX6_addOrder) (pc := 38) dX6_addOrder_38 rfl ?_
      refine wp_iload_n (M := mX6_addOrder) (pc := 39) dX6_addOrder_39 rfl ?_
      refine wp_iload_n (M := mX6_addOrder) (pc := 40) dX6_addOrder_40 rfl ?_
      refine wp_iload (M := mX6_addOrder) (pc := 41) dX6_addOrder_41 rfl ?_
      refine so_V4 (M := mX6_addOrder) (pc := 43) cs_X6_addOrder_277 rfl rfl (LE rfl) (LE rfl) dX6_addOrder_43 (by first | exact hm.1.1 | exact H.kQ | exact H.kH | exact H.kC | exact H.kU | exact H.kX | exact hR.1.2.1.2.1 | exact a2 | fail "kd") ?_
      refine sb_canPlace hR hi9 hkd ?_
      refine kI ?_
      refine so_SA1 (M := mX6_addOrder) (pc := 46) (33, 492) cs_X6_addOrder_68 rfl (LE rfl) (LE rfl) (LE rfl) (LE rfl) dX6_addOrder_46 ?_
      refine sp_X6_requirePossible (fun hc => ?_) (fun hc => k3 i hi9 rfl w1 w2 hc)
      refine kV ?_
      refine wp_aload_n (M := mX6_addOrder) (pc := 49) dX6_addOrder_49 rfl ?_
      refine wp_getR (M := mX6_addOrder) (pc := 50) fa_X6_29 rfl dX6_addOrder_50 (by first | exact hm.1.1 | exact H.kQ | exact H.kH | exact H.kC | exact H.kU | exact H.kX | exact hR.1.2.1.2.1 | exact a2 | fail "kd") (by first | exact hm.2.1 | exact hm.2.2.1 | exact hm.2.2.2.1 | exact hm.2.2.2.2.1 | exact hm.2.2.2.2.2.1 | exact hm.2.2.2.2.2.2 | exact hR.1.2.1.1 | exact a1 | fail "rx") ?_
      refine wp_aload_n (M := mX6_addOrder) (pc := 53) dX6_addOrder_53 rfl ?_
      refine wp_getR (M := mX6_addOrder) (pc := 54) fa_X6_12 rfl dX6_addOrder_54 (by first | exact hm.1.1 | exact H.kQ | exact H.kH | exact H.kC | exact H.kU | exact H.kX | exact hR.1.2.1.2.1 | exact a2 | fail "kd") (by first | exact hm.2.1 | exact hm.2.2.1 | exact hm.2.2.2.1 | exact hm.2.2.2.2.1 | exact hm.2.2.2.2.2.1 | exact hm.2.2.2.2.2.2 | exact hR.1.2.1.1 | exact a1 | fail "rx") ?_
      refine so_VA1 (M := mX6_addOrder) (pc := 57) (0, 0) cs_X6_addOrder_151 rfl (LE rfl) (LE rfl) (LE rfl) (LE rfl) dX6_addOrder_57 (by first | exact hm.1.1 | exact H.kQ | exact H.kH | exact H.kC | exact H.kU | exact H.kX | exact hR.1.2.1.2.1 | exact a2 | fail "kd") ?_
      refine sb_remember H (fun h1 cs1 x1 H O1 => ?_)
      have hm := H.ob
      have hR := H.rep
      refine kV ?_
      refine wp_aload_n (M := mX6_addOrder) (pc := 60) dX6_addOrder_60 rfl ?_
      refine wp_getR (M := mX6_addOrder) (pc := 61) fa_X6_12 rfl dX6_addOrder_61 (by first | exact hm.1.1 | exact H.kQ | exact H.kH | exact H.kC | exact H.kU | exact H.kX | exact hR.1.2.1.2.1 | exact a2 | fail "kd") (by first | exact hm.2.1 | exact hm.2.2.1 | exact hm.2.2.2.1 | exact hm.2.2.2.2.1 | exact hm.2.2.2.2.2.1 | exact hm.2.2.2.2.2.2 | exact hR.1.2.1.1 | exact a1 | fail "rx") ?_
      refine wp_iload_n (M := mX6_addOrder) (pc := 64) dX6_addOrder_64 rfl ?_
      refine wp_iload_n (M := mX6_addOrder) (pc := 65) dX6_addOrder_65 rfl ?_
      refine wp_iload_n (M := mX6_addOrder) (pc := 66) dX6_addOrder_66 rfl ?_
      refine wp_iload (M := mX6_addOrder) (pc := 67) dX6_addOrder_67 rfl ?_
      refine so_V4 (M := mX6_addOrder) (pc := 69) cs_X6_addOrder_281 rfl rfl (LE rfl) (LE rfl) dX6_addOrder_69 (by first | exact hm.1.1 | exact H.kQ | exact H.kH | exact H.kC | exact H.kU | exact H.kX | exact hR.1.2.1.2.1 | exact a2 | fail "kd") ?_
      refine sp_X4_place hR hi9 hkd hc.1 (fun h2 R2 F2 => ?_)
      refine kI ?_
      refine wp_ireturn (M := mX6_addOrder) (pc := 72) rfl dX6_addOrder_72 ?_
      exact k1 i hi9 rfl w1 w2 hc h2 (H.q1 F2 R2).wc (O1.tr (H.q1O F2))
    · have hl : ¬ (1 : Int32) = 0 → (wth p 1 99 ∧ wth z 1 99) := fun _ => ⟨b01_n f15, b01_n f23⟩
      have hl0 : (1 : Int32) = 0 → ¬ (wth p 1 99 ∧ wth z 1 99) := fun e => absurd e (by decide)
      refine wp_iconst (M := mX6_addOrder) (pc := 26) (v := 1) dX6_addOrder_26 ci_1 ?_
      refine wp_goto (M := mX6_addOrder) (pc := 27) (tgt := 31) dX6_addOrder_27 rfl ?_
      refine so_SA1 (M := mX6_addOrder) (pc := 31) (34, 498) cs_X6_addOrder_60 rfl (LE rfl) (LE rfl) (LE rfl) (LE rfl) dX6_addOrder_31 ?_
      refine sv_X6_requireArgument (fun hv => ?_) (fun hv => k2 ht (hl0 hv))
      obtain ⟨w1, w2⟩ := hl hv
      obtain ⟨i, hi9, rfl⟩ := ht
      refine kV ?_
      refine wp_aload_n (M := mX6_addOrder) (pc := 34) dX6_addOrder_34 rfl ?_
      refine wp_getR (M := mX6_addOrder) (pc := 35) fa_X6_12 rfl dX6_addOrder_35 (by first | exact hm.1.1 | exact H.kQ | exact H.kH | exact H.kC | exact H.kU | exact H.kX | exact hR.1.2.1.2.1 | exact a2 | fail "kd") (by first | exact hm.2.1 | exact hm.2.2.1 | exact hm.2.2.2.1 | exact hm.2.2.2.2.1 | exact hm.2.2.2.2.2.1 | exact hm.2.2.2.2.2.2 | exact hR.1.2.1.1 | exact a1 | fail "rx") ?_
      refine wp_iload_n (M := mX6_addOrder) (pc := 38) dX6_addOrder_38 rfl ?_
      refine wp_iload_n (M := mX6_addOrder) (pc := 39) dX6_addOrder_39 rfl ?_
      refine wp_iload_n (M := mX6_addOrder) (pc := 40) dX6_addOrder_40 rfl ?_
      refine wp_iload (M := mX6_addOrder) (pc := 41) dX6_addOrder_41 rfl ?_
      refine so_V4 (M := mX6_addOrder) (pc := 43) cs_X6_addOrder_277 rfl rfl (LE rfl) (LE rfl) dX6_addOrder_43 (by first | exact hm.1.1 | exact H.kQ | exact H.kH | exact H.kC | exact H.kU | exact H.kX | exact hR.1.2.1.2.1 | exact a2 | fail "kd") ?_
      refine sb_canPlace hR hi9 hkd ?_
      refine kI ?_
      refine so_SA1 (M := mX6_addOrder) (pc := 46) (33, 492) cs_X6_addOrder_68 rfl (LE rfl) (LE rfl) (LE rfl) (LE rfl) dX6_addOrder_46 ?_
      refine sp_X6_requirePossible (fun hc => ?_) (fun hc => k3 i hi9 rfl w1 w2 hc)
      refine kV ?_
      refine wp_aload_n (M := mX6_addOrder) (pc := 49) dX6_addOrder_49 rfl ?_
      refine wp_getR (M := mX6_addOrder) (pc := 50) fa_X6_29 rfl dX6_addOrder_50 (by first | exact hm.1.1 | exact H.kQ | exact H.kH | exact H.kC | exact H.kU | exact H.kX | exact hR.1.2.1.2.1 | exact a2 | fail "kd") (by first | exact hm.2.1 | exact hm.2.2.1 | exact hm.2.2.2.1 | exact hm.2.2.2.2.1 | exact hm.2.2.2.2.2.1 | exact hm.2.2.2.2.2.2 | exact hR.1.2.1.1 | exact a1 | fail "rx") ?_
      refine wp_aload_n (M := mX6_addOrder) (pc := 53) dX6_addOrder_53 rfl ?_
      refine wp_getR (M := mX6_addOrder) (pc := 54) fa_X6_12 rfl dX6_addOrder_54 (by first | exact hm.1.1 | exact H.kQ | exact H.kH | exact H.kC | exact H.kU | exact H.kX | exact hR.1.2.1.2.1 | exact a2 | fail "kd") (by first | exact hm.2.1 | exact hm.2.2.1 | exact hm.2.2.2.1 | exact hm.2.2.2.2.1 | exact hm.2.2.2.2.2.1 | exact hm.2.2.2.2.2.2 | exact hR.1.2.1.1 | exact a1 | fail "rx") ?_
      refine so_VA1 (M := mX6_addOrder) (pc := 57) (0, 0) cs_X6_addOrder_151 rfl (LE rfl) (LE rfl) (LE rfl) (LE rfl) dX6_addOrder_57 (by first | exact hm.1.1 | exact H.kQ | exact H.kH | exact H.kC | exact H.kU | exact H.kX | exact hR.1.2.1.2.1 | exact a2 | fail "kd") ?_
      refine sb_remember H (fun h1 cs1 x1 H O1 => ?_)
      have hm := H.ob
      have hR := H.rep
      refine kV ?_
      refine wp_aload_n (M := mX6_addOrder) (pc := 60) dX6_addOrder_60 rfl ?_
      refine wp_getR (M := mX6_addOrder) (pc := 61) fa_X6_12 rfl dX6_addOrder_61 (by first | exact hm.1.1 | exact H.kQ | exact H.kH | exact H.kC | exact H.kU | exact H.kX | exact hR.1.2.1.2.1 | exact a2 | fail "kd") (by first | exact hm.2.1 | exact hm.2.2.1 | exact hm.2.2.2.1 | exact hm.2.2.2.2.1 | exact hm.2.2.2.2.2.1 | exact hm.2.2.2.2.2.2 | exact hR.1.2.1.1 | exact a1 | fail "rx") ?_
      refine wp_iload_n (M := mX6_addOrder) (pc := 64) dX6_addOrder_64 rfl ?_
      refine wp_iload_n (M := mX6_addOrder) (pc := 65) dX6_addOrder_65 rfl ?_
      refine wp_iload_n (M := mX6_addOrder) (pc := 66) dX6_addOrder_66 rfl ?_
      refine wp_iload (M := mX6_addOrder) (pc := 67) dX6_addOrder_67 rfl ?_
      refine so_V4 (M := mX6_addOrder) (pc := 69) cs_X6_addOrder_281 rfl rfl (LE rfl) (LE rfl) dX6_addOrder_69 (by first | exact hm.1.1 | exact H.kQ | exact H.kH | exact H.kC | exact H.kU | exact H.kX | exact hR.1.2.1.2.1 | exact a2 | fail "kd") ?_
      refine sp_X4_place hR hi9 hkd hc.1 (fun h2 R2 F2 => ?_)
      refine kI ?_
      refine wp_ireturn (M := mX6_addOrder) (pc := 72) rfl dX6_addOrder_72 ?_
      exact k1 i hi9 rfl w1 w2 hc h2 (H.q1 F2 R2).wc (O1.tr (H.q1O F2))
set_option maxHeartbeats 4000000 in
set_option maxRecDepth 100000 in
theorem sp_X6_bid {me : Nat} {X : Abs} {t p z : Int32} (H : WC h me X) (k1 : ∀ i, i < sN (xA X) → t = nI i → wth p 1 99 → wth z 1 99 → canP (xA X) 0 i p z → ∀ h', WC h' me (actX X (placeA (xA X) 0 i p z)) → Of h h' → Q (.inl (some (.int (nI (sO (xA X)).length)))) h') (k0 : ¬ isT (xA X) t → Q (.inr "java/lang/IndexOutOfBoundsException") h) (k2 : isT (xA X) t → ¬ (wth p 1 99 ∧ wth z 1 99) → Q (.inr "java/lang/IllegalArgumentException") h) (k3 : ∀ i, i < sN (xA X) → t = nI i → wth p 1 99 → wth z 1 99 → ¬ canP (xA X) 0 i p z → Q (.inr "java/lang/IllegalStateException") h) : WPx E mX6_bid 0 [some (.ref me), some (.int t), some (.int p), some (.int z)] [] (36, 510) h Q := by
  refine wp_aload_n (M := mX6_bid) (pc := 0) dX6_bid_0 rfl ?_
  refine wp_iconst (M := mX6_bid) (pc := 1) (v := 0) dX6_bid_1 ci_0 ?_
  refine wp_iload_n (M := mX6_bid) (pc := 2) dX6_bid_2 rfl ?_
  refine wp_iload_n (M := mX6_bid) (pc := 3) dX6_bid_3 rfl ?_
  refine wp_iload_n (M := mX6_bid) (pc := 4) dX6_bid_4 rfl ?_
  refine so_VA4 (M := mX6_bid) (pc := 5) (0, 0) cs_X6_bid_147 rfl (LE rfl) (LE rfl) (LE rfl) (LE rfl) dX6_bid_5 (by obtain ⟨q, c, u, hi, sl, tx, ka, pa, fa, la, hsa, txa, x, l, lc, cs, ss, HW⟩ := H; exact HW.kMe) ?_
  obtain ⟨q, c, u, hi, sl, tx, ka, pa, fa, la, hsa, txa, x, l, lc, cs, ss, HW⟩ := id H
  exact sp_X6_addOrder (kd := 0) H (by decide) (fun i a1 a2 a3 a4 a5 h' a6 a7 => kI (wp_ireturn (M := mX6_bid) (pc := 8) rfl dX6_bid_8 (k1 i a1 a2 a3 a4 a5 h' a6 a7))) (fun a1 => k0 a1) (fun a1 a2 => k2 a1 a2) (fun i a1 a2 a3 a4 a5 => k3 i a1 a2 a3 a4 a5)
set_option maxHeartbeats 4000000 in
set_option maxRecDepth 100000 in
theorem sp_X6_ask {me : Nat} {X : Abs} {t p z : Int32} (H : WC h me X) (k1 : ∀ i, i < sN (xA X) → t = nI i → wth p 1 99 → wth z 1 99 → canP (xA X) 1 i p z → ∀ h', WC h' me (actX X (placeA (xA X) 1 i p z)) → Of h h' → Q (.inl (some (.int (nI (sO (xA X)).length)))) h') (k0 : ¬ isT (xA X) t → Q (.inr "java/lang/IndexOutOfBoundsException") h) (k2 : isT (xA X) t → ¬ (wth p 1 99 ∧ wth z 1 99) → Q (.inr "java/lang/IllegalArgumentException") h) (k3 : ∀ i, i < sN (xA X) → t = nI i → wth p 1 99 → wth z 1 99 → ¬ canP (xA X) 1 i p z → Q (.inr "java/lang/IllegalStateException") h) : WPx E mX6_ask 0 [some (.ref me), some (.int t), some (.int p), some (.int z)] [] (36, 510) h Q := by
  refine wp_aload_n (M := mX6_ask) (pc := 0) dX6_ask_0 rfl ?_
  refine wp_iconst (M := mX6_ask) (pc := 1) (v := 1) dX6_ask_1 ci_1 ?_
  refine wp_iload_n (M := mX6_ask) (pc := 2) dX6_ask_2 rfl ?_
  refine wp_iload_n (M := mX6_ask) (pc := 3) dX6_ask_3 rfl ?_
  refine wp_iload_n (M := mX6_ask) (pc := 4) dX6_ask_4 rfl ?_
  refine so_VA4 (M := mX6_ask) (pc := 5) (0, 0) cs_X6_ask_147 rfl (LE rfl) (LE rfl) (LE rfl) (LE rfl) dX6_ask_5 (by obtain ⟨q, c, u, hi, sl, tx, ka, pa, fa, la, hsa, txa, x, l, lc, cs, ss, HW⟩ := H; exact HW.kMe) ?_
  obtain ⟨q, c, u, hi, sl, tx, ka, pa, fa, la, hsa, txa, x, l, lc, cs, ss, HW⟩ := id H
  exact sp_X6_addOrder (kd := 1) H (by decide) (fun i a1 a2 a3 a4 a5 h' a6 a7 => kI (wp_ireturn (M := mX6_ask) (pc := 8) rfl dX6_ask_8 (k1 i a1 a2 a3 a4 a5 h' a6 a7))) (fun a1 => k0 a1) (fun a1 a2 => k2 a1 a2) (fun i a1 a2 a3 a4 a5 => k3 i a1 a2 a3 a4 a5)
set_option maxHeartbeats 4000000 in
set_option maxRecDepth 100000 in
theorem sp_X6_askShort {me : Nat} {X : Abs} {t p z : Int32} (H : WC h me X) (k1 : ∀ i, i < sN (xA X) → t = nI i → wth p 1 99 → wth z 1 99 → canP (xA X) 2 i p z → ∀ h', WC h' me (actX X (placeA (xA X) 2 i p z)) → Of h h' → Q (.inl (some (.int (nI (sO (xA X)).length)))) h') (k0 : ¬ isT (xA X) t → Q (.inr "java/lang/IndexOutOfBoundsException") h) (k2 : isT (xA X) t → ¬ (wth p 1 99 ∧ wth z 1 99) → Q (.inr "java/lang/IllegalArgumentException") h) (k3 : ∀ i, i < sN (xA X) → t = nI i → wth p 1 99 → wth z 1 99 → ¬ canP (xA X) 2 i p z → Q (.inr "java/lang/IllegalStateException") h) : WPx E mX6_askShort 0 [some (.ref me), some (.int t), some (.int p), some (.int z)] [] (36, 510) h Q := by
  refine wp_aload_n (M := mX6_askShort) (pc := 0) dX6_askShort_0 rfl ?_
  refine wp_iconst (M := mX6_askShort) (pc := 1) (v := 2) dX6_askShort_1 ci_2 ?_
  refine wp_iload_n (M := mX6_askShort) (pc := 2) dX6_askShort_2 rfl ?_
  refine wp_iload_n (M := mX6_askShort) (pc := 3) dX6_askShort_3 rfl ?_
  refine wp_iload_n (M := mX6_askShort) (pc := 4) dX6_askShort_4 rfl ?_
  refine so_VA4 (M := mX6_askShort) (pc := 5) (0, 0) cs_X6_askShort_147 rfl (LE rfl) (LE rfl) (LE rfl) (LE rfl) dX6_askShort_5 (by obtain ⟨q, c, u, hi, sl, tx, ka, pa, fa, la, hsa, txa, x, l, lc, cs, ss, HW⟩ := H; exact HW.kMe) ?_
  obtain ⟨q, c, u, hi, sl, tx, ka, pa, fa, la, hsa, txa, x, l, lc, cs, ss, HW⟩ := id H
  exact sp_X6_addOrder (kd := 2) H (by decide) (fun i a1 a2 a3 a4 a5 h' a6 a7 => kI (wp_ireturn (M := mX6_askShort) (pc := 8) rfl dX6_askShort_8 (k1 i a1 a2 a3 a4 a5 h' a6 a7))) (fun a1 => k0 a1) (fun a1 a2 => k2 a1 a2) (fun i a1 a2 a3 a4 a5 => k3 i a1 a2 a3 a4 a5)
end SP
section SP
variable {E : Ev} {h : PH} {Q : Rt → PH → Prop}
section
variable {h h' : PH} {me q c u hi sl tx ka pa fa la hsa txa x : Nat} {l lc : Lt} {cs ss : Nat → Option (Nat × Lt)} {X : Abs}
theorem WP.kSl (H : WP h me q c u hi sl tx ka pa fa la hsa txa x l lc cs ss X) : kd h sl = some (.inr (5, 2)) := H.pS.1.1
/-- a slot is emptied -/
theorem SlZ.off {fz i : Nat} {v : Nat → Option Sta} (H : SlZ h me sl fz ss v) (hm : kd h me = some (.inl 6)) : SlZ (si h fz i 0) me sl fz ss (u1 v i none) := by
  obtain ⟨⟨z1, z2, z3⟩, k3⟩ := H
  have F : Fr (fun z => z = me) h (si h fz i 0) := Fr.si (by rw [z3])
  refine ⟨⟨z1, z2, z3⟩, fun j hj => ⟨(k3 j hj).1, ?_⟩⟩
  rcases (k3 j hj).2 with e1 | ⟨y, B, e1, e2, e3⟩
  · refine Or.inl ⟨e1.1, ?_⟩
    by_cases e : j = i
    · rw [e, u1_at]
    · rw [u1_ne _ _ e]; exact e1.2
  · refine Or.inr ⟨y, B, e1, e2.fr F (fun e => nk e2.1.1.1 hm (by simp) e), ?_⟩
    by_cases e : j = i
    · rw [e, gi_si, u2_at, u1_at]; exact Or.inl ⟨rfl, rfl⟩
    · rw [gi_si, u2_ne _ _ (Or.inr e), u1_ne _ _ e]; exact e3
/-- a store into the row that says which slots are filled -/
theorem WP.fzS {fz i : Nat} {y : Int32} {w : Nat → Option Sta} (H : WP h me q c u hi sl tx ka pa fa la hsa txa x l lc cs ss X) (hz : tg h fz = (me, 2, 0)) (hS : SlZ (si h fz i y) me sl fz ss w) : WP (si h fz i y) me q c u hi sl tx ka pa fa la hsa txa x l lc cs ss (xA X, xH X, w, X.2.2.2) := by
  have F : Fr (fun z => z = me) h (si h fz i y) := Fr.si (by rw [hz])
  obtain ⟨g1, g2, g3, g4, g5, g6, g7⟩ := H.frA (O := fun z => z = me) F.A (fun y e => e)
  exact ⟨H.ob, g2 (nk H.kQ H.kMe (by simp)), g3 (nk H.kC H.kMe (by simp)), g4 (nk H.kU H.kMe (by simp)), g5 (nk H.kH H.kMe (by simp)) (fun j hj z e1 => nk (H.kS hj e1) H.kMe (by simp)), g6 (nk H.kX H.kMe (by simp)), ⟨H.pS.1, fz, hS⟩, H.ds⟩
theorem WP.fzO {fz i : Nat} {y : Int32} (H : WP h me q c u hi sl tx ka pa fa la hsa txa x l lc cs ss X) (hz : tg h fz = (me, 2, 0)) : Of h (si h fz i y) := Fr.Of (S := fun z => z = me) (Fr.si (by rw [hz])) (fun z e => by rw [e]; exact nF H.kMe (by simp) (by simp))
theorem WP.slN (H : WP h me q c u hi sl tx ka pa fa la hsa txa x l lc cs ss X) (h0 : xS X 0 = none) (h1 : xS X 1 = none) : WP h me q c u hi sl tx ka pa fa la hsa txa x l lc cs ss (xA X, xH X, (fun _ => none), X.2.2.2) := by
  obtain ⟨kS, fz, z1, k3⟩ := H.pS
  refine ⟨H.ob, H.rep, H.lay, H.au, H.pH, H.pX, ⟨kS, fz, z1, fun j hj => ⟨(k3 j hj).1, ?_⟩⟩, H.ds⟩
  have e9 : xS X j = none := by
    rcases (show j = 0 ∨ j = 1 by omega) with e | e <;> rw [e] <;> assumption
  rcases (k3 j hj).2 with e1 | ⟨y, B, e1, e2, e3 | e3⟩
  · exact Or.inl ⟨e1.1, rfl⟩
  · exact Or.inr ⟨y, B, e1, e2, Or.inl ⟨e3.1, rfl⟩⟩
  · rw [e9] at e3; cases e3.2
/-- a slot gets a state -/
theorem SlZ.set {h3 : PH} {fz o j : Nat} {v : Nat → Option Sta} {lo : Lt} {A : Sta} (H : SlZ h me sl fz ss v) (F : Fr (fun z => z = me ∨ z = o) h h3) (hm : kd h me = some (.inl 6)) (h5 : gr h3 me 5 = gr h me 5) (hg : ∀ i, i < 2 → gr h3 sl i = if i = j then some o else gr h sl i) (hf : ∀ i, i < 2 → gi h3 fz i = if i = j then 1 else gi h fz i) (hR : RepC h3 o lo A) (hn : ∀ i, i < 2 → i ≠ j → ∀ y, ss i = some y → y.1 ≠ o) : SlZ h3 me sl fz (u1 ss j (some (o, lo))) (u1 v j (some A)) := by
  obtain ⟨⟨z1, z2, z3⟩, k3⟩ := H
  refine ⟨⟨by rw [h5]; exact z1, by rw [F.1]; exact z2, by rw [F.2.1]; exact z3⟩, fun i hi => ?_⟩
  rw [hg i hi, hf i hi]
  by_cases e : i = j
  · rw [if_pos e, if_pos e, e, u1_at, u1_at]; exact ⟨rfl, Or.inr ⟨_, _, rfl, hR, Or.inr ⟨rfl, rfl⟩⟩⟩
  · rw [if_neg e, if_neg e, u1_ne _ _ e, u1_ne _ _ e]
    refine ⟨(k3 i hi).1, ?_⟩
    rcases (k3 i hi).2 with e1 | ⟨y, B, e1, e2, e3⟩
    · exact Or.inl e1
    · exact Or.inr ⟨y, B, e1, e2.fr F (fun q => q.elim (nk e2.1.1.1 hm (by simp)) (hn i hi e y e1)), e3⟩
theorem DsC.set {o j : Nat} {lo : Lt} (H : DsC q c cs ss) (h1 : o ≠ q ∧ o ≠ c) (h2 : ∀ i, i < 14 → ∀ y, cs i = some y → y.1 ≠ o) (h3 : ∀ i, i < 2 → i ≠ j → ∀ y, ss i = some y → y.1 ≠ o) : DsC q c cs (u1 ss j (some (o, lo))) := by
  have hh : ∀ i y, u1 ss j (some (o, lo)) i = some y → (i = j ∧ y = (o, lo)) ∨ (i ≠ j ∧ ss i = some y) := fun i y e => by
    by_cases e1 : i = j
    · rw [e1, u1_at] at e; cases e; exact Or.inl ⟨e1, rfl⟩
    · rw [u1_ne _ _ e1] at e; exact Or.inr ⟨e1, e⟩
  refine ⟨H.1, H.2.1, fun i hi y e => ?_, fun i k hi hk y z e1 e2 => ?_, fun y z e1 e2 => ?_⟩
  · rcases hh i y e with ⟨-, e1⟩ | ⟨-, e1⟩
    · rw [e1]; exact h1
    · exact H.2.2.1 i hi y e1
  · rcases hh k z e2 with ⟨-, e3⟩ | ⟨-, e3⟩
    · rw [e3]; exact h2 i hi y e1
    · exact H.2.2.2.1 i k hi hk y z e1 e3
  · rcases hh 0 y e1 with ⟨a1, e3⟩ | ⟨a1, e3⟩
    · rcases hh 1 z e2 with ⟨a2, e4⟩ | ⟨a2, e4⟩
      · omega
      · rw [e3]; exact fun e => h3 1 (by decide) a2 z e4 e.symm
    · rcases hh 1 z e2 with ⟨a2, e4⟩ | ⟨a2, e4⟩
      · rw [e4]; exact h3 0 (by decide) a1 y e3
      · exact H.2.2.2.2 y z e3 e4
end
set_option maxHeartbeats 4000000 in
set_option maxRecDepth 100000 in
theorem lp_X6_load {me q c u hi sl tx ka pa fa la hsa txa x : Nat} {l lc : Lt} {cs ss : Nat → Option (Nat × Lt)} {B : Sta} {hs : List Sta} {s : Nat → Nat} {n : Nat} {h0 : PH} (k : ∀ h', WC h' me (B, hs, (fun _ => none), s, n) → Of h0 h' → Q (.inl (some (.int (nI (sN B))))) h') : ∀ (m : Nat) (i : Nat) (h : PH) (v : Nat → Option Sta), 2 - i < m → (i ≤ 2) → (WP h me q c u hi sl tx ka pa fa la hsa txa x l lc cs ss (B, hs, v, s, n)) → (∀ j, j < i → v j = none) → (Of h0 h) → WPx E mX6_load 44 [some (.ref me), some (.int (nI i))] [] (0, 0) h Q := by
  intro m
  induction m with
  | zero => intro i h v hm; exact absurd hm (Nat.not_lt_zero _)
  | succ m ih =>
    intro i h v hm hi2 H hv O1
    have hob := H.ob
    have hR := H.rep
    obtain ⟨kS, fz, hz⟩ := H.pS
    refine wp_iload_n (M := mX6_load) (pc := 44) dX6_load_44 rfl ?_
    refine wp_aload_n (M := mX6_load) (pc := 45) dX6_load_45 rfl ?_
    refine wp_getR (M := mX6_load) (pc := 46) fa_X6_37 rfl dX6_load_46 (by first | exact hob.1.1 | exact hz.1.2.1 | exact hR.1.1.1 | fail "kd") (by first | exact hz.1.1 | exact hob.2.1 | fail "rx") ?_
    refine wp_alen (M := mX6_load) (pc := 49) dX6_load_49 (by first | exact hob.1.1 | exact hz.1.2.1 | exact hR.1.1.1 | fail "kd") (by decide) ?_
    refine wp_icmp_ge (M := mX6_load) (pc := 50) (tgt := 66) dX6_load_50 rfl (fun t50 => ?_) (fun f50 => ?_)
    · have e2 := n_ge (n := 2) hi2 (by decide) t50
      subst e2
      refine wp_aload_n (M := mX6_load) (pc := 66) dX6_load_66 rfl ?_
      refine wp_getR (M := mX6_load) (pc := 67) fa_X6_12 rfl dX6_load_67 (by first | exact hob.1.1 | exact hz.1.2.1 | exact hR.1.1.1 | fail "kd") (by first | exact hz.1.1 | exact hob.2.1 | fail "rx") ?_
      refine wp_getI (M := mX6_load) (pc := 70) fa_X6_90 rfl dX6_load_70 (by first | exact hob.1.1 | exact hz.1.2.1 | exact hR.1.1.1 | fail "kd") ?_
      refine wp_ireturn (M := mX6_load) (pc := 73) rfl dX6_load_73 ?_
      rw [hR.2.1.1.1]
      exact k h (H.slN (hv 0 (by decide)) (hv 1 (by decide))).wc O1
    · have hlt := n_lt (n := 2) hi2 (by decide) f50
      refine wp_aload_n (M := mX6_load) (pc := 53) dX6_load_53 rfl ?_
      refine wp_getR (M := mX6_load) (pc := 54) fa_X6_37 rfl dX6_load_54 (by first | exact hob.1.1 | exact hz.1.2.1 | exact hR.1.1.1 | fail "kd") (by first | exact hz.1.1 | exact hob.2.1 | fail "rx") ?_
      refine wp_iload_n (M := mX6_load) (pc := 57) dX6_load_57 rfl ?_
      refine wp_iconst (M := mX6_load) (pc := 58) (v := 0) dX6_load_58 ci_0 ?_
      refine wr_bastore (M := mX6_load) (pc := 59) (Or.inl rfl) dX6_load_59 (by first | exact hob.1.1 | exact hz.1.2.1 | exact hR.1.1.1 | fail "kd") rfl (by omega) (by decide) ?_
      refine so_iinc (M := mX6_load) (pc := 60) (lo' := [_, _]) dX6_load_60 rfl ci_1 (LE rfl) rfl ?_
      refine wp_goto (M := mX6_load) (pc := 63) (tgt := 44) dX6_load_63 rfl ?_
      rw [show nI i + 1 = nI (i + 1) from nI_1 i]
      refine ih (i + 1) _ (u1 v i none) (by omega) (by omega) (H.fzS hz.1.2.2 (hz.off H.kMe)) (fun j hj => ?_) (O1.tr (H.fzO hz.1.2.2))
      by_cases e : j = i
      · rw [e, u1_at]
      · rw [u1_ne _ _ e]; exact hv j (by omega)
set_option maxHeartbeats 4000000 in
set_option maxRecDepth 100000 in
theorem sp_X6_load {me : Nat} {X : Abs} (H : WC h me X) (k1 : rdE (xs X) (xn X) = -9 → ∀ h', WC h' me ((rdA (xs X) (xn X)).1, [], (fun _ => none), xs X, xn X) → Of h h' → Q (.inl (some (.int (nI (sN (rdA (xs X) (xn X)).1))))) h') (k0 : ¬ rdE (xs X) (xn X) = -9 → ∀ h', WC h' me X → Of h h' → Q (.inr "java/lang/IllegalStateException") h') : WPx E mX6_load 0 [some (.ref me), none] [] (1, 6) h Q := by
  obtain ⟨q, c, u, hi, sl, tx, ka, pa, fa, la, hsa, txa, x, l, lc, cs, ss, H⟩ := H
  have hm := H.ob
  have hR := H.rep
  have n6 := hR.2.1.1.2
  refine wp_aload_n (M := mX6_load) (pc := 0) dX6_load_0 rfl ?_
  refine wp_getR (M := mX6_load) (pc := 1) fa_X6_44 rfl dX6_load_1 (by first | exact hm.1.1 | exact H.kQ | exact H.kH | exact H.kC | exact H.kU | exact H.kX | exact hR.1.2.1.2.1 | exact a2 | fail "kd") (by first | exact hm.2.1 | exact hm.2.2.1 | exact hm.2.2.2.1 | exact hm.2.2.2.2.1 | exact hm.2.2.2.2.2.1 | exact hm.2.2.2.2.2.2 | exact hR.1.2.1.1 | exact a1 | fail "rx") ?_
  refine wp_aload_n (M := mX6_load) (pc := 4) dX6_load_4 rfl ?_
  refine wp_getR (M := mX6_load) (pc := 5) fa_X6_16 rfl dX6_load_5 (by first | exact hm.1.1 | exact H.kQ | exact H.kH | exact H.kC | exact H.kU | exact H.kX | exact hR.1.2.1.2.1 | exact a2 | fail "kd") (by first | exact hm.2.1 | exact hm.2.2.1 | exact hm.2.2.2.1 | exact hm.2.2.2.2.1 | exact hm.2.2.2.2.2.1 | exact hm.2.2.2.2.2.2 | exact hR.1.2.1.1 | exact a1 | fail "rx") ?_
  refine so_V1 (M := mX6_load) (pc := 8) cs_X6_load_79 rfl rfl (LE rfl) (LE rfl) dX6_load_8 (by first | exact hm.1.1 | exact H.kQ | exact H.kH | exact H.kC | exact H.kU | exact H.kX | exact hR.1.2.1.2.1 | exact a2 | fail "kd") ?_
  refine sp_X1_readInto H.pX H.lay (nk H.kX H.kC (by simp)) (fun h1 D1 F1 => ?_)
  have O1 := H.xcO F1
  have H := H.xc F1 D1.1.1 D1.2.1
  have hm := H.ob
  have hR := H.rep
  refine kI ?_
  refine wp_bipush (M := mX6_load) (pc := 11) (v := -9) dX6_load_11 cb_m9 ?_
  refine wp_icmp_ne (M := mX6_load) (pc := 13) (tgt := 20) dX6_load_13 rfl (fun t13 => ?_) (fun f13 => ?_)
  · have hl : ¬ (0 : Int32) = 0 → rdE (xs X) (xn X) = -9 := fun e => absurd rfl e
    have hl0 : (0 : Int32) = 0 → ¬ rdE (xs X) (xn X) = -9 := fun _ => t13
    refine wp_iconst (M := mX6_load) (pc := 20) (v := 0) dX6_load_20 ci_0 ?_
    refine so_SA1 (M := mX6_load) (pc := 21) (0, 0) cs_X6_load_68 rfl (LE rfl) (LE rfl) (LE rfl) (LE rfl) dX6_load_21 ?_
    refine sv_X6_requirePossible (fun hv => ?_) (fun hv => k0 (hl0 hv) h1 H.wc O1)
    refine kV ?_
    refine wp_aload_n (M := mX6_load) (pc := 24) dX6_load_24 rfl ?_
    refine wp_getR (M := mX6_load) (pc := 25) fa_X6_12 rfl dX6_load_25 (by first | exact hm.1.1 | exact H.kQ | exact H.kH | exact H.kC | exact H.kU | exact H.kX | exact hR.1.2.1.2.1 | exact a2 | fail "kd") (by first | exact hm.2.1 | exact hm.2.2.1 | exact hm.2.2.2.1 | exact hm.2.2.2.2.1 | exact hm.2.2.2.2.2.1 | exact hm.2.2.2.2.2.2 | exact hR.1.2.1.1 | exact a1 | fail "rx") ?_
    refine wp_aload_n (M := mX6_load) (pc := 28) dX6_load_28 rfl ?_
    refine wp_getR (M := mX6_load) (pc := 29) fa_X6_16 rfl dX6_load_29 (by first | exact hm.1.1 | exact H.kQ | exact H.kH | exact H.kC | exact H.kU | exact H.kX | exact hR.1.2.1.2.1 | exact a2 | fail "kd") (by first | exact hm.2.1 | exact hm.2.2.1 | exact hm.2.2.2.1 | exact hm.2.2.2.2.1 | exact hm.2.2.2.2.2.1 | exact hm.2.2.2.2.2.2 | exact hR.1.2.1.1 | exact a1 | fail "rx") ?_
    refine so_V1 (M := mX6_load) (pc := 32) cs_X6_load_83 rfl rfl (LE rfl) (LE rfl) dX6_load_32 (by first | exact hm.1.1 | exact H.kQ | exact H.kH | exact H.kC | exact H.kU | exact H.kX | exact hR.1.2.1.2.1 | exact a2 | fail "kd") ?_
    refine sp_X4_copyFrom H.rep.1 D1.1 (fun e => H.ds.1 e.symm) (fun h2 R2 F2 => ?_)
    have O2 := O1.tr (H.q1O F2)
    have H := H.q1 F2 R2
    have hm := H.ob
    have hR := H.rep
    refine kV ?_
    refine wp_aload_n (M := mX6_load) (pc := 35) dX6_load_35 rfl ?_
    refine wp_getR (M := mX6_load) (pc := 36) fa_X6_29 rfl dX6_load_36 (by first | exact hm.1.1 | exact H.kQ | exact H.kH | exact H.kC | exact H.kU | exact H.kX | exact hR.1.2.1.2.1 | exact a2 | fail "kd") (by first | exact hm.2.1 | exact hm.2.2.1 | exact hm.2.2.2.1 | exact hm.2.2.2.2.1 | exact hm.2.2.2.2.2.1 | exact hm.2.2.2.2.2.2 | exact hR.1.2.1.1 | exact a1 | fail "rx") ?_
    refine so_V0 (M := mX6_load) (pc := 39) cs_X6_load_87 rfl rfl (LE rfl) (LE rfl) dX6_load_39 (by first | exact hm.1.1 | exact H.kQ | exact H.kH | exact H.kC | exact H.kU | exact H.kX | exact hR.1.2.1.2.1 | exact a2 | fail "kd") ?_
    have F3 : Fr (fun z => z = hi ∨ z = q) h2 (si h2 hi 2 (nI 0)) := Fr.si (Or.inl (by rw [H.pH.1.1.2]))
    have H3 := H.hq F3 (hR.fr (S := fun z => z = hi) (Fr.si (by rw [H.pH.1.1.2])) (fun e => nk H.kQ H.kH (by simp) e)) H.pH.none
    have O3 := O2.tr (H.hqO F3)
    have hm3 := H3.ob
    refine sp_X2_forget H.kH ?_
    refine kV ?_
    refine wp_iconst (M := mX6_load) (pc := 42) (v := 0) dX6_load_42 ci_0 ?_
    refine so_istore_n (M := mX6_load) (pc := 43) (lo' := [_, _]) dX6_load_43 (LE rfl) (LE rfl) (Or.inr rfl) rfl ?_
    exact lp_X6_load (k1 (hl hv)) 3 0 _ (xS X) (by omega) (by omega) H3 (fun j hj => absurd hj (Nat.not_lt_zero _)) O3
  · have hl : ¬ (1 : Int32) = 0 → rdE (xs X) (xn X) = -9 := fun _ => f13
    have hl0 : (1 : Int32) = 0 → ¬ rdE (xs X) (xn X) = -9 := fun e => absurd e (by decide)
    refine wp_iconst (M := mX6_load) (pc := 16) (v := 1) dX6_load_16 ci_1 ?_
    refine wp_goto (M := mX6_load) (pc := 17) (tgt := 21) dX6_load_17 rfl ?_
    refine so_SA1 (M := mX6_load) (pc := 21) (0, 0) cs_X6_load_68 rfl (LE rfl) (LE rfl) (LE rfl) (LE rfl) dX6_load_21 ?_
    refine sv_X6_requirePossible (fun hv => ?_) (fun hv => k0 (hl0 hv) h1 H.wc O1)
    refine kV ?_
    refine wp_aload_n (M := mX6_load) (pc := 24) dX6_load_24 rfl ?_
    refine wp_getR (M := mX6_load) (pc := 25) fa_X6_12 rfl dX6_load_25 (by first | exact hm.1.1 | exact H.kQ | exact H.kH | exact H.kC | exact H.kU | exact H.kX | exact hR.1.2.1.2.1 | exact a2 | fail "kd") (by first | exact hm.2.1 | exact hm.2.2.1 | exact hm.2.2.2.1 | exact hm.2.2.2.2.1 | exact hm.2.2.2.2.2.1 | exact hm.2.2.2.2.2.2 | exact hR.1.2.1.1 | exact a1 | fail "rx") ?_
    refine wp_aload_n (M := mX6_load) (pc := 28) dX6_load_28 rfl ?_
    refine wp_getR (M := mX6_load) (pc := 29) fa_X6_16 rfl dX6_load_29 (by first | exact hm.1.1 | exact H.kQ | exact H.kH | exact H.kC | exact H.kU | exact H.kX | exact hR.1.2.1.2.1 | exact a2 | fail "kd") (by first | exact hm.2.1 | exact hm.2.2.1 | exact hm.2.2.2.1 | exact hm.2.2.2.2.1 | exact hm.2.2.2.2.2.1 | exact hm.2.2.2.2.2.2 | exact hR.1.2.1.1 | exact a1 | fail "rx") ?_
    refine so_V1 (M := mX6_load) (pc := 32) cs_X6_load_83 rfl rfl (LE rfl) (LE rfl) dX6_load_32 (by first | exact hm.1.1 | exact H.kQ | exact H.kH | exact H.kC | exact H.kU | exact H.kX | exact hR.1.2.1.2.1 | exact a2 | fail "kd") ?_
    refine sp_X4_copyFrom H.rep.1 D1.1 (fun e => H.ds.1 e.symm) (fun h2 R2 F2 => ?_)
    have O2 := O1.tr (H.q1O F2)
    have H := H.q1 F2 R2
    have hm := H.ob
    have hR := H.rep
    refine kV ?_
    refine wp_aload_n (M := mX6_load) (pc := 35) dX6_load_35 rfl ?_
    refine wp_getR (M := mX6_load) (pc := 36) fa_X6_29 rfl dX6_load_36 (by first | exact hm.1.1 | exact H.kQ | exact H.kH | exact H.kC | exact H.kU | exact H.kX | exact hR.1.2.1.2.1 | exact a2 | fail "kd") (by first | exact hm.2.1 | exact hm.2.2.1 | exact hm.2.2.2.1 | exact hm.2.2.2.2.1 | exact hm.2.2.2.2.2.1 | exact hm.2.2.2.2.2.2 | exact hR.1.2.1.1 | exact a1 | fail "rx") ?_
    refine so_V0 (M := mX6_load) (pc := 39) cs_X6_load_87 rfl rfl (LE rfl) (LE rfl) dX6_load_39 (by first | exact hm.1.1 | exact H.kQ | exact H.kH | exact H.kC | exact H.kU | exact H.kX | exact hR.1.2.1.2.1 | exact a2 | fail "kd") ?_
    have F3 : Fr (fun z => z = hi ∨ z = q) h2 (si h2 hi 2 (nI 0)) := Fr.si (Or.inl (by rw [H.pH.1.1.2]))
    have H3 := H.hq F3 (hR.fr (S := fun z => z = hi) (Fr.si (by rw [H.pH.1.1.2])) (fun e => nk H.kQ H.kH (by simp) e)) H.pH.none
    have O3 := O2.tr (H.hqO F3)
    have hm3 := H3.ob
    refine sp_X2_forget H.kH ?_
    refine kV ?_
    refine wp_iconst (M := mX6_load) (pc := 42) (v := 0) dX6_load_42 ci_0 ?_
    refine so_istore_n (M := mX6_load) (pc := 43) (lo' := [_, _]) dX6_load_43 (LE rfl) (LE rfl) (Or.inr rfl) rfl ?_
    exact lp_X6_load (k1 (hl hv)) 3 0 _ (xS X) (by omega) (by omega) H3 (fun j hj => absurd hj (Nat.not_lt_zero _)) O3
set_option maxHeartbeats 4000000 in
set_option maxRecDepth 100000 in
theorem sy_X6_save {me q c u hi sl tx ka pa fa la hsa txa x : Nat} {l lc : Lt} {cs ss : Nat → Option (Nat × Lt)} {X : Abs} {j o fz : Nat} {lo : Lt} {A : Sta} {r : Nat × Nat} (H : WP h me q c u hi sl tx ka pa fa la hsa txa x l lc cs ss X) (hj : j < 2) (hz : SlZ h me sl fz ss (xS X)) (hs : ss j = some (o, lo)) (hv : RepC h o lo A) (k1 : ∀ h', WC h' me (xA X, xH X, u1 (xS X) j (some (xA X)), X.2.2.2) → Of h h' → Q (.inl (some (.int (nI (sTi (xA X)))))) h') : WPx E mX6_save 7 [some (.ref me), some (.int (nI j)), none] [] r h Q := by
  have hm := H.ob
  have hR := H.rep
  have rj : gr h sl j = some o := by rw [(hz.2 j hj).1, hs]; rfl
  have dj := H.ds.2.2.1 j hj _ hs
  have nmo : me ≠ o := nk H.kMe hv.1.1.1 (by simp)
  refine wp_aload_n (M := mX6_save) (pc := 7) dX6_save_7 rfl ?_
  refine wp_getR (M := mX6_save) (pc := 8) fa_X6_33 rfl dX6_save_8 (by first | exact hm.1.1 | exact H.kQ | exact H.kSl | exact hv.1.1.1 | fail "kd") (by first | exact hm.2.1 | exact hm.2.2.2.2.2.1 | exact rj | fail "rx") ?_
  refine wp_iload_n (M := mX6_save) (pc := 11) dX6_save_11 rfl ?_
  refine wr_aaload (M := mX6_save) (pc := 12) dX6_save_12 (by first | exact hm.1.1 | exact H.kQ | exact H.kSl | exact hv.1.1.1 | fail "kd") (by decide) rfl hj (by decide) (by first | exact hm.2.1 | exact hm.2.2.2.2.2.1 | exact rj | fail "rx") ?_
  refine so_astore_n (M := mX6_save) (pc := 13) (lo' := [_, _, _]) dX6_save_13 (LE rfl) (LE rfl) (Or.inr rfl) rfl ?_
  refine wp_aload_n (M := mX6_save) (pc := 14) dX6_save_14 rfl ?_
  refine wp_ifnonnull (M := mX6_save) (pc := 15) (tgt := 33) dX6_save_15 rfl ?_
  refine wp_aload_n (M := mX6_save) (pc := 33) dX6_save_33 rfl ?_
  refine wp_aload_n (M := mX6_save) (pc := 34) dX6_save_34 rfl ?_
  refine wp_getR (M := mX6_save) (pc := 35) fa_X6_12 rfl dX6_save_35 (by first | exact hm.1.1 | exact H.kQ | exact H.kSl | exact hv.1.1.1 | fail "kd") (by first | exact hm.2.1 | exact hm.2.2.2.2.2.1 | exact rj | fail "rx") ?_
  refine so_V1 (M := mX6_save) (pc := 38) cs_X6_save_83 rfl rfl (LE rfl) (LE rfl) dX6_save_38 (by first | exact hm.1.1 | exact H.kQ | exact H.kSl | exact hv.1.1.1 | fail "kd") ?_
  refine sp_X4_copyFrom hv.1 hR dj.1 (fun h1 R1 F1 => ?_)
  have R1q := hR.fr F1 (fun e => dj.1 e.symm)
  have hm1 := hm.fr F1 nmo
  have kz1 : kd h1 fz = some (.inr (1, 2)) := by rw [F1.1]; exact hz.1.2.1
  have r5 : gr h1 me 5 = some fz := by rw [(F1.2.2.2 me (by rw [hm.1.2]; exact nmo)).2]; exact hz.1.1
  refine kV ?_
  refine wp_aload_n (M := mX6_save) (pc := 41) dX6_save_41 rfl ?_
  refine wp_getR (M := mX6_save) (pc := 42) fa_X6_37 rfl dX6_save_42 hm1.1.1 r5 ?_
  refine wp_iload_n (M := mX6_save) (pc := 45) dX6_save_45 rfl ?_
  refine wp_iconst (M := mX6_save) (pc := 46) (v := 1) dX6_save_46 ci_1 ?_
  refine wr_bastore (M := mX6_save) (pc := 47) (Or.inr rfl) dX6_save_47 kz1 rfl hj (by decide) ?_
  refine wp_aload_n (M := mX6_save) (pc := 48) dX6_save_48 rfl ?_
  refine wp_getR (M := mX6_save) (pc := 49) fa_X6_12 rfl dX6_save_49 hm1.1.1 hm1.2.1 ?_
  refine wp_getI (M := mX6_save) (pc := 52) fa_X6_255 rfl dX6_save_52 R1q.1.1.1 ?_
  refine wp_ireturn (M := mX6_save) (pc := 55) rfl dX6_save_55 ?_
  have F2 : Fr (fun z => z = me) h1 (si h1 fz j 1) := Fr.si (by rw [F1.2.1, hz.1.2.2])
  have F3 : Fr (fun z => z = me ∨ z = o) h (si h1 fz j 1) := (F1.mono (fun y e => Or.inr e)).tr (F2.mono (fun y e => Or.inl e))
  have R2q := R1q.fr F2 (nk H.kQ H.kMe (by simp))
  rw [R2q.2.1.2.2.2.2.2.2.1]
  have hn : ∀ i, i < 2 → i ≠ j → ∀ y, ss i = some y → y.1 ≠ o := fun i hi e y ey => by
    rcases (show (i = 0 ∧ j = 1) ∨ (i = 1 ∧ j = 0) by omega) with ⟨e1, e2⟩ | ⟨e1, e2⟩
    · rw [e1] at ey; rw [e2] at hs; exact H.ds.2.2.2.2 y _ ey hs
    · rw [e1] at ey; rw [e2] at hs; exact fun e => H.ds.2.2.2.2 _ y hs ey e.symm
  have ko := hv.1.1.1
  obtain ⟨g1, g2, g3, g4, g5, g6, g7⟩ := H.frA (O := fun z => z = me ∨ z = o) F3.A (fun y e => e)
  have e9 : gr h1 sl = gr h sl := (F1.2.2.2 sl (by rw [H.pS.1.2]; exact nmo)).2
  have e8 : gi h1 fz = gi h fz := (F1.2.2.2 fz (by rw [hz.1.2.2]; exact nmo)).1
  have hS := hz.set (j := j) F3 H.kMe (show gr h1 me 5 = gr h me 5 by rw [r5, hz.1.1]) (fun i hi => by
    show gr h1 sl i = _
    by_cases e : i = j
    · rw [if_pos e, e9, e]; exact rj
    · rw [if_neg e, e9]) (fun i hi => by
    by_cases e : i = j
    · rw [if_pos e, e, gi_si, u2_at]
    · rw [if_neg e, gi_si, u2_ne _ _ (Or.inr e), e8]) (R1.fr F2 (fun e => nmo e.symm)) hn
  refine k1 _ (WP.wc ⟨hm1, R2q, g3 (fun e => e.elim (nk H.kC H.kMe (by simp)) (fun e => dj.2 e.symm)), g4 (fun e => e.elim (nk H.kU H.kMe (by simp)) (nk H.kU ko (by simp))), g5 (fun e => e.elim (nk H.kH H.kMe (by simp)) (nk H.kH ko (by simp))) (fun i hi z e1 e => e.elim (nk (H.kS hi e1) H.kMe (by simp)) (H.ds.2.2.2.1 i j hi hj z _ e1 hs)), g6 (fun e => e.elim (nk H.kX H.kMe (by simp)) (nk H.kX ko (by simp))), ⟨⟨by rw [F3.1]; exact H.pS.1.1, by rw [F3.2.1]; exact H.pS.1.2⟩, fz, hS⟩, H.ds.set dj (fun i hi y e1 => H.ds.2.2.2.1 i j hi hj y _ e1 hs) hn⟩) (F3.Of (fun z e => ?_))
  rcases e with e | e
  · rw [e]; exact nF H.kMe (by simp) (by simp)
  · rw [e]; exact nF ko (by simp) (by simp)
set_option maxHeartbeats 4000000 in
set_option maxRecDepth 100000 in
theorem sn_X6_save {me q c u hi sl tx ka pa fa la hsa txa x : Nat} {l lc : Lt} {cs ss : Nat → Option (Nat × Lt)} {X : Abs} {j fz : Nat} (H : WP h me q c u hi sl tx ka pa fa la hsa txa x l lc cs ss X) (hj : j < 2) (hz : SlZ h me sl fz ss (xS X)) (hs : ss j = none) (k1 : ∀ h', WC h' me (xA X, xH X, u1 (xS X) j (some (xA X)), X.2.2.2) → Of h h' → Q (.inl (some (.int (nI (sTi (xA X)))))) h') : WPx E mX6_save 7 [some (.ref me), some (.int (nI j)), none] [] (33, 492) h Q := by
  have hm := H.ob
  have hR := H.rep
  have rj : gr h sl j = none := by rw [(hz.2 j hj).1, hs]; rfl
  refine wp_aload_n (M := mX6_save) (pc := 7) dX6_save_7 rfl ?_
  refine wp_getR (M := mX6_save) (pc := 8) fa_X6_33 rfl dX6_save_8 (by first | exact hm.1.1 | exact H.kQ | exact H.kSl | fail "kd") (by first | exact hm.2.1 | exact hm.2.2.2.2.2.1 | exact rj | fail "rx") ?_
  refine wp_iload_n (M := mX6_save) (pc := 11) dX6_save_11 rfl ?_
  refine wr_aaloadN (M := mX6_save) (pc := 12) dX6_save_12 (by first | exact hm.1.1 | exact H.kQ | exact H.kSl | fail "kd") (by decide) rfl hj (by decide) (by first | exact hm.2.1 | exact hm.2.2.2.2.2.1 | exact rj | fail "rx") ?_
  refine so_astore_nN (M := mX6_save) (pc := 13) (lo' := [_, _, _]) dX6_save_13 (LE rfl) (LE rfl) (Or.inr rfl) rfl ?_
  refine wp_aload_nN (M := mX6_save) (pc := 14) dX6_save_14 rfl ?_
  refine wp_ifnonnullN (M := mX6_save) (pc := 15) dX6_save_15 ?_
  refine wp_new (M := mX6_save) (pc := 18) nw_X6_9 (fun a => (a, 0, 0)) (by decide) (by decide) dX6_save_18 (fun a18 n18 => ?_)
  refine wp_dup (M := mX6_save) (pc := 21) dX6_save_21 rfl ?_
  refine so_IA0 (M := mX6_save) (pc := 22) (0, 0) cs_X6_save_11 (LE rfl) (LE rfl) (LE rfl) (LE rfl) dX6_save_22 ?_
  refine sp_X4_init kd_newk tg_newk (fun h1 lo hL1 G1 => ?_)
  have G0 : FrA (fun _ => False) h h1 := (FrA.nw n18).tr G1 (fun y κ e q9 => absurd q9 (nek e n18))
  obtain ⟨g1, g2, g3, g4, g5, g6, g7⟩ := H.frA (O := fun _ => False) G0 (fun y e => e)
  have H1 : WP h1 me q c u hi sl tx ka pa fa la hsa txa x l lc cs ss X := ⟨g1 id, g2 id, g3 id, g4 id, g5 id (fun _ _ _ _ => id), g6 id, g7 id (fun _ _ _ _ => id), H.ds⟩
  obtain ⟨-, fz1, hz1⟩ := H1.pS
  have nq := nek H.kQ n18
  have nc := nek H.kC n18
  have ncs : ∀ i, i < 14 → ∀ y, cs i = some y → y.1 ≠ a18 := fun i hi y e => nek (H.kS hi e) n18
  have nss : ∀ i, i < 2 → i ≠ j → ∀ y, ss i = some y → y.1 ≠ a18 := fun i hi _ y e => nek (H.kL hi e) n18
  have nme := nek H.kMe n18
  have F2 : Fr (fun z => z = me) h1 (sr h1 sl j (some a18)) := Fr.sr (by rw [H1.pS.1.2])
  have eg : gr (sr h1 sl j (some a18)) me = gr h1 me := by rw [gr_sr]; exact u2_row _ _ (nk H1.kMe H1.kSl (by simp))
  have hm2 : ObC (sr h1 sl j (some a18)) me q c u hi sl tx := by
    have := H1.ob
    unfold ObC at this ⊢
    rw [eg]
    exact this
  have R2q := H1.rep.fr F2 (nk H1.kQ H1.kMe (by simp))
  refine kV1 ?_
  refine so_astore_n (M := mX6_save) (pc := 25) (lo' := [_, _, _]) dX6_save_25 (LE rfl) (LE rfl) (Or.inr rfl) rfl ?_
  refine wp_aload_n (M := mX6_save) (pc := 26) dX6_save_26 rfl ?_
  refine wp_getR (M := mX6_save) (pc := 27) fa_X6_33 rfl dX6_save_27 H1.kMe H1.ob.2.2.2.2.2.1 ?_
  refine wp_iload_n (M := mX6_save) (pc := 30) dX6_save_30 rfl ?_
  refine wp_aload_n (M := mX6_save) (pc := 31) dX6_save_31 rfl ?_
  refine wr_aastore (M := mX6_save) (pc := 32) dX6_save_32 H1.kSl hL1.1.1 (by decide) rfl hj (by decide) ?_
  refine wp_aload_n (M := mX6_save) (pc := 33) dX6_save_33 rfl ?_
  refine wp_aload_n (M := mX6_save) (pc := 34) dX6_save_34 rfl ?_
  refine wp_getR (M := mX6_save) (pc := 35) fa_X6_12 rfl dX6_save_35 hm2.1.1 hm2.2.1 ?_
  refine so_V1 (M := mX6_save) (pc := 38) cs_X6_save_83 rfl rfl (LE rfl) (LE rfl) dX6_save_38 hL1.1.1 ?_
  refine sp_X4_copyFrom (hL1.fr F2 (fun e => nme e.symm)) R2q (fun e => nq e.symm) (fun h3 R3 F3 => ?_)
  have R3q := R2q.fr F3 nq
  have hm3 := hm2.fr F3 nme
  have kz3 : kd h3 fz1 = some (.inr (1, 2)) := by rw [F3.1]; exact hz1.1.2.1
  have r5 : gr h3 me 5 = some fz1 := by rw [(F3.2.2.2 me (by rw [hm2.1.2]; exact nme)).2, eg]; exact hz1.1.1
  refine kV ?_
  refine wp_aload_n (M := mX6_save) (pc := 41) dX6_save_41 rfl ?_
  refine wp_getR (M := mX6_save) (pc := 42) fa_X6_37 rfl dX6_save_42 hm3.1.1 r5 ?_
  refine wp_iload_n (M := mX6_save) (pc := 45) dX6_save_45 rfl ?_
  refine wp_iconst (M := mX6_save) (pc := 46) (v := 1) dX6_save_46 ci_1 ?_
  refine wr_bastore (M := mX6_save) (pc := 47) (Or.inr rfl) dX6_save_47 kz3 rfl hj (by decide) ?_
  refine wp_aload_n (M := mX6_save) (pc := 48) dX6_save_48 rfl ?_
  refine wp_getR (M := mX6_save) (pc := 49) fa_X6_12 rfl dX6_save_49 hm3.1.1 hm3.2.1 ?_
  refine wp_getI (M := mX6_save) (pc := 52) fa_X6_255 rfl dX6_save_52 R3q.1.1.1 ?_
  refine wp_ireturn (M := mX6_save) (pc := 55) rfl dX6_save_55 ?_
  have F5 : Fr (fun z => z = me) h3 (si h3 fz1 j 1) := Fr.si (by rw [F3.2.1]; show (tg h1 fz1).1 = me; rw [hz1.1.2.2])
  have R4q := R3q.fr F5 (nk H1.kQ H1.kMe (by simp))
  rw [R4q.2.1.2.2.2.2.2.2.1]
  have F4 : Fr (fun z => z = me ∨ z = a18) h1 (si h3 fz1 j 1) := ((F2.mono (fun y e => Or.inl e)).tr (F3.mono (fun y e => Or.inr e))).tr (F5.mono (fun y e => Or.inl e))
  obtain ⟨g1, g2, g3, g4, g5, g6, g7⟩ := H1.frA (O := fun z => z = me ∨ z = a18) F4.A (fun y e => e)
  have nu := nek H.kU n18
  have nh := nek H.kH n18
  have nx := nek H.kX n18
  have e9 : gr h3 sl = gr (sr h1 sl j (some a18)) sl := (F3.2.2.2 sl (by show ¬ (tg h1 sl).1 = a18; rw [H1.pS.1.2]; exact nme)).2
  have e8 : gi h3 fz1 = gi h1 fz1 := (F3.2.2.2 fz1 (by show ¬ (tg h1 fz1).1 = a18; rw [hz1.1.2.2]; exact nme)).1
  have hS := hz1.set (j := j) F4 H1.kMe (show gr h3 me 5 = gr h1 me 5 by rw [r5, hz1.1.1]) (fun i hi => by
    show gr h3 sl i = _
    by_cases e : i = j
    · rw [if_pos e, e9, e, gr_sr, u2_at]
    · rw [if_neg e, e9, gr_sr, u2_ne _ _ (Or.inr e)]) (fun i hi => by
    by_cases e : i = j
    · rw [if_pos e, e, gi_si, u2_at]
    · rw [if_neg e, gi_si, u2_ne _ _ (Or.inr e), e8]) (R3.fr F5 (fun e => nme e.symm)) nss
  refine k1 _ (WP.wc ⟨hm3, R4q, g3 (fun e => e.elim (nk H1.kC H1.kMe (by simp)) nc), g4 (fun e => e.elim (nk H1.kU H1.kMe (by simp)) nu), g5 (fun e => e.elim (nk H1.kH H1.kMe (by simp)) nh) (fun i hi z e1 e => e.elim (nk (H1.kS hi e1) H1.kMe (by simp)) (ncs i hi z e1)), g6 (fun e => e.elim (nk H1.kX H1.kMe (by simp)) nx), ⟨⟨by rw [F4.1]; exact H1.pS.1.1, by rw [F4.2.1]; exact H1.pS.1.2⟩, fz1, hS⟩, H.ds.set ⟨fun e => nq e.symm, fun e => nc e.symm⟩ ncs nss⟩) ((G0.Of (fun x e => absurd e id)).tr (F4.Of (fun z e => ?_)))
  rcases e with e | e
  · rw [e]; exact nF H1.kMe (by simp) (by simp)
  · rw [e]; exact nF hL1.1.1 (by simp) (by simp)
set_option maxHeartbeats 4000000 in
set_option maxRecDepth 100000 in
theorem sp_X6_save {me : Nat} {X : Abs} {w : Int32} (H : WC h me X) (k1 : ∀ j, j < 2 → w = nI j → ∀ h', WC h' me (xA X, xH X, u1 (xS X) j (some (xA X)), X.2.2.2) → Of h h' → Q (.inl (some (.int (nI (sTi (xA X)))))) h') (k0 : ¬ wth w 0 1 → Q (.inr "java/lang/IndexOutOfBoundsException") h) : WPx E mX6_save 0 [some (.ref me), some (.int w), none] [] (34, 498) h Q := by
  obtain ⟨q, c, u, hi, sl, tx, ka, pa, fa, la, hsa, txa, x, l, lc, cs, ss, H⟩ := H
  have hm := H.ob
  have hR := H.rep
  have n6 := hR.2.1.1.2
  refine wp_iload_n (M := mX6_save) (pc := 0) dX6_save_0 rfl ?_
  refine so_S1 (M := mX6_save) (pc := 1) cs_X6_save_252 rfl rfl (LE rfl) (LE rfl) dX6_save_1 ?_
  refine sp_X6_isSlot ?_
  refine kI ?_
  refine so_SA1 (M := mX6_save) (pc := 4) (33, 492) cs_X6_save_101 rfl (LE rfl) (LE rfl) (LE rfl) (LE rfl) dX6_save_4 ?_
  refine sp_X6_requireThere (fun hw => ?_) (fun hw => k0 hw)
  obtain ⟨j, hj, rfl⟩ := wth_nI (b := 1) (by decide) hw
  refine kV ?_
  obtain ⟨-, fz, hz⟩ := H.pS
  rcases (hz.2 j (by omega)).2 with e1 | ⟨y, B, e1, e2, e3⟩
  · exact sn_X6_save H (by omega) hz e1.1 (k1 j (by omega) rfl)
  · exact sy_X6_save (lo := y.2) (A := B) H (by omega) hz e1 e2 (k1 j (by omega) rfl)
set_option maxHeartbeats 4000000 in
set_option maxRecDepth 100000 in
theorem sy_X6_restore {me q c u hi sl tx ka pa fa la hsa txa x : Nat} {l lc : Lt} {cs ss : Nat → Option (Nat × Lt)} {X : Abs} {j o fz : Nat} {lo : Lt} {A : Sta} {r : Nat × Nat} (H : WP h me q c u hi sl tx ka pa fa la hsa txa x l lc cs ss X) (hj : j < 2) (hz : SlZ h me sl fz ss (xS X)) (hs : ss j = some (o, lo)) (hv : RepC h o lo A) (hf : gi h fz j = 1) (k1 : ∀ h', WC h' me (A, [], X.2.2) → Of h h' → Q (.inl (some (.int (nI (sTi A))))) h') : WPx E mX6_restore 7 [some (.ref me), some (.int (nI j)), none] [] r h Q := by
  have hm := H.ob
  have hR := H.rep
  have rj : gr h sl j = some o := by rw [(hz.2 j hj).1, hs]; rfl
  have dj := H.ds.2.2.1 j hj _ hs
  refine wp_aload_n (M := mX6_restore) (pc := 7) dX6_restore_7 rfl ?_
  refine wp_getR (M := mX6_restore) (pc := 8) fa_X6_33 rfl dX6_restore_8 (by first | exact hm.1.1 | exact H.kQ | exact H.kSl | exact H.kH | fail "kd") (by first | exact hm.2.1 | exact hm.2.2.2.2.2.1 | exact hm.2.2.2.2.1 | exact rj | fail "rx") ?_
  refine wp_iload_n (M := mX6_restore) (pc := 11) dX6_restore_11 rfl ?_
  refine wr_aaload (M := mX6_restore) (pc := 12) dX6_restore_12 (by first | exact hm.1.1 | exact H.kQ | exact H.kSl | exact H.kH | fail "kd") (by decide) rfl hj (by decide) (by first | exact hm.2.1 | exact hm.2.2.2.2.2.1 | exact hm.2.2.2.2.1 | exact rj | fail "rx") ?_
  refine so_astore_n (M := mX6_restore) (pc := 13) (lo' := [_, _, _]) dX6_restore_13 (LE rfl) (LE rfl) (Or.inr rfl) rfl ?_
  refine wp_aload_n (M := mX6_restore) (pc := 14) dX6_restore_14 rfl ?_
  refine wp_ifnull (M := mX6_restore) (pc := 15) dX6_restore_15 ?_
  refine wp_aload_n (M := mX6_restore) (pc := 18) dX6_restore_18 rfl ?_
  refine wp_getR (M := mX6_restore) (pc := 19) fa_X6_37 rfl dX6_restore_19 (by first | exact hm.1.1 | exact H.kQ | exact H.kSl | exact H.kH | fail "kd") hz.1.1 ?_
  refine wp_iload_n (M := mX6_restore) (pc := 22) dX6_restore_22 rfl ?_
  refine wr_baload (M := mX6_restore) (pc := 23) dX6_restore_23 hz.1.2.1 rfl hj (by decide) ?_
  refine wp_if_ne (M := mX6_restore) (pc := 24) (tgt := 38) dX6_restore_24 rfl (fun t24 => ?_) (fun f24 => ?_)
  · refine wp_aload_n (M := mX6_restore) (pc := 38) dX6_restore_38 rfl ?_
    refine wp_getR (M := mX6_restore) (pc := 39) fa_X6_12 rfl dX6_restore_39 (by first | exact hm.1.1 | exact H.kQ | exact H.kSl | exact H.kH | fail "kd") (by first | exact hm.2.1 | exact hm.2.2.2.2.2.1 | exact hm.2.2.2.2.1 | exact rj | fail "rx") ?_
    refine wp_aload_n (M := mX6_restore) (pc := 42) dX6_restore_42 rfl ?_
    refine so_V1 (M := mX6_restore) (pc := 43) cs_X6_restore_83 rfl rfl (LE rfl) (LE rfl) dX6_restore_43 (by first | exact hm.1.1 | exact H.kQ | exact H.kSl | exact H.kH | fail "kd") ?_
    refine sp_X4_copyFrom hR.1 hv (fun e => dj.1 e.symm) (fun h2 R2 F2 => ?_)
    have O2 := H.q1O F2
    have H := H.q1 F2 R2
    have hm := H.ob
    have hR := H.rep
    refine kV ?_
    refine wp_aload_n (M := mX6_restore) (pc := 46) dX6_restore_46 rfl ?_
    refine wp_getR (M := mX6_restore) (pc := 47) fa_X6_29 rfl dX6_restore_47 (by first | exact hm.1.1 | exact H.kQ | exact H.kSl | exact H.kH | fail "kd") (by first | exact hm.2.1 | exact hm.2.2.2.2.2.1 | exact hm.2.2.2.2.1 | exact rj | fail "rx") ?_
    refine so_V0 (M := mX6_restore) (pc := 50) cs_X6_restore_87 rfl rfl (LE rfl) (LE rfl) dX6_restore_50 (by first | exact hm.1.1 | exact H.kQ | exact H.kSl | exact H.kH | fail "kd") ?_
    have F3 : Fr (fun z => z = hi ∨ z = q) h2 (si h2 hi 2 (nI 0)) := Fr.si (Or.inl (by rw [H.pH.1.1.2]))
    have H3 := H.hq F3 (hR.fr (S := fun z => z = hi) (Fr.si (by rw [H.pH.1.1.2])) (fun e => nk H.kQ H.kH (by simp) e)) H.pH.none
    have O3 := O2.tr (H.hqO F3)
    refine sp_X2_forget H.kH ?_
    refine kV ?_
    refine wp_aload_n (M := mX6_restore) (pc := 53) dX6_restore_53 rfl ?_
    refine wp_getR (M := mX6_restore) (pc := 54) fa_X6_12 rfl dX6_restore_54 H3.kMe H3.ob.2.1 ?_
    refine wp_getI (M := mX6_restore) (pc := 57) fa_X6_255 rfl dX6_restore_57 H3.kQ ?_
    refine wp_ireturn (M := mX6_restore) (pc := 60) rfl dX6_restore_60 ?_
    rw [H3.rep.2.1.2.2.2.2.2.2.1]
    exact k1 _ H3.wc O3
  · rw [hf] at f24; exact absurd f24 (by decide)
set_option maxHeartbeats 4000000 in
set_option maxRecDepth 100000 in
theorem sn_X6_restore {me q c u hi sl tx ka pa fa la hsa txa x : Nat} {l lc : Lt} {cs ss : Nat → Option (Nat × Lt)} {X : Abs} {j fz : Nat} (H : WP h me q c u hi sl tx ka pa fa la hsa txa x l lc cs ss X) (hj : j < 2) (hz : SlZ h me sl fz ss (xS X)) (hs : ss j = none) (k2 : Q (.inr "java/lang/IllegalStateException") h) : WPx E mX6_restore 7 [some (.ref me), some (.int (nI j)), none] [] (1, 6) h Q := by
  have hm := H.ob
  have rj : gr h sl j = none := by rw [(hz.2 j hj).1, hs]; rfl
  refine wp_aload_n (M := mX6_restore) (pc := 7) dX6_restore_7 rfl ?_
  refine wp_getR (M := mX6_restore) (pc := 8) fa_X6_33 rfl dX6_restore_8 (by first | exact hm.1.1 | exact H.kSl | fail "kd") (by first | exact hm.2.2.2.2.2.1 | exact rj | fail "rx") ?_
  refine wp_iload_n (M := mX6_restore) (pc := 11) dX6_restore_11 rfl ?_
  refine wr_aaloadN (M := mX6_restore) (pc := 12) dX6_restore_12 (by first | exact hm.1.1 | exact H.kSl | fail "kd") (by decide) rfl hj (by decide) (by first | exact hm.2.2.2.2.2.1 | exact rj | fail "rx") ?_
  refine so_astore_nN (M := mX6_restore) (pc := 13) (lo' := [_, _, _]) dX6_restore_13 (LE rfl) (LE rfl) (Or.inr rfl) rfl ?_
  refine wp_aload_nN (M := mX6_restore) (pc := 14) dX6_restore_14 rfl ?_
  refine wp_ifnullN (M := mX6_restore) (pc := 15) (tgt := 27) dX6_restore_15 rfl ?_
  exact wp_throw (M := mX6_restore) (pc := 27) (text := "the slot is empty") tw_258 rfl (by decide) (by decide) (by decide) (by decide) (by decide) rfl dX6_restore_27 dX6_restore_30 dX6_restore_31 dX6_restore_34 dX6_restore_37 k2
set_option maxHeartbeats 4000000 in
set_option maxRecDepth 100000 in
theorem se_X6_restore {me q c u hi sl tx ka pa fa la hsa txa x : Nat} {l lc : Lt} {cs ss : Nat → Option (Nat × Lt)} {X : Abs} {j o fz : Nat} {lo : Lt} (H : WP h me q c u hi sl tx ka pa fa la hsa txa x l lc cs ss X) (hj : j < 2) (hz : SlZ h me sl fz ss (xS X)) (hs : ss j = some (o, lo)) (hf : gi h fz j = 0) (k2 : Q (.inr "java/lang/IllegalStateException") h) : WPx E mX6_restore 7 [some (.ref me), some (.int (nI j)), none] [] (1, 6) h Q := by
  have hm := H.ob
  have rj : gr h sl j = some o := by rw [(hz.2 j hj).1, hs]; rfl
  refine wp_aload_n (M := mX6_restore) (pc := 7) dX6_restore_7 rfl ?_
  refine wp_getR (M := mX6_restore) (pc := 8) fa_X6_33 rfl dX6_restore_8 (by first | exact hm.1.1 | exact H.kSl | fail "kd") (by first | exact hm.2.2.2.2.2.1 | exact rj | fail "rx") ?_
  refine wp_iload_n (M := mX6_restore) (pc := 11) dX6_restore_11 rfl ?_
  refine wr_aaload (M := mX6_restore) (pc := 12) dX6_restore_12 (by first | exact hm.1.1 | exact H.kSl | fail "kd") (by decide) rfl hj (by decide) (by first | exact hm.2.2.2.2.2.1 | exact rj | fail "rx") ?_
  refine so_astore_n (M := mX6_restore) (pc := 13) (lo' := [_, _, _]) dX6_restore_13 (LE rfl) (LE rfl) (Or.inr rfl) rfl ?_
  refine wp_aload_n (M := mX6_restore) (pc := 14) dX6_restore_14 rfl ?_
  refine wp_ifnull (M := mX6_restore) (pc := 15) dX6_restore_15 ?_
  refine wp_aload_n (M := mX6_restore) (pc := 18) dX6_restore_18 rfl ?_
  refine wp_getR (M := mX6_restore) (pc := 19) fa_X6_37 rfl dX6_restore_19 (by first | exact hm.1.1 | exact H.kSl | fail "kd") hz.1.1 ?_
  refine wp_iload_n (M := mX6_restore) (pc := 22) dX6_restore_22 rfl ?_
  refine wr_baload (M := mX6_restore) (pc := 23) dX6_restore_23 hz.1.2.1 rfl hj (by decide) ?_
  refine wp_if_ne (M := mX6_restore) (pc := 24) (tgt := 38) dX6_restore_24 rfl (fun t24 => ?_) (fun f24 => ?_)
  · exact absurd hf t24
  · exact wp_throw (M := mX6_restore) (pc := 27) (text := "the slot is empty") tw_258 rfl (by decide) (by decide) (by decide) (by decide) (by decide) rfl dX6_restore_27 dX6_restore_30 dX6_restore_31 dX6_restore_34 dX6_restore_37 k2
set_option maxHeartbeats 4000000 in
set_option maxRecDepth 100000 in
theorem sp_X6_restore {me : Nat} {X : Abs} {w : Int32} (H : WC h me X) (k1 : ∀ j A, j < 2 → w = nI j → xS X j = some A → ∀ h', WC h' me (A, [], X.2.2) → Of h h' → Q (.inl (some (.int (nI (sTi A))))) h') (k0 : ¬ wth w 0 1 → Q (.inr "java/lang/IndexOutOfBoundsException") h) (k2 : ∀ j, j < 2 → w = nI j → xS X j = none → Q (.inr "java/lang/IllegalStateException") h) : WPx E mX6_restore 0 [some (.ref me), some (.int w), none] [] (2, 12) h Q := by
  obtain ⟨q, c, u, hi, sl, tx, ka, pa, fa, la, hsa, txa, x, l, lc, cs, ss, H⟩ := H
  have hm := H.ob
  have hR := H.rep
  have n6 := hR.2.1.1.2
  refine wp_iload_n (M := mX6_restore) (pc := 0) dX6_restore_0 rfl ?_
  refine so_S1 (M := mX6_restore) (pc := 1) cs_X6_restore_252 rfl rfl (LE rfl) (LE rfl) dX6_restore_1 ?_
  refine sp_X6_isSlot ?_
  refine kI ?_
  refine so_SA1 (M := mX6_restore) (pc := 4) (1, 6) cs_X6_restore_101 rfl (LE rfl) (LE rfl) (LE rfl) (LE rfl) dX6_restore_4 ?_
  refine sp_X6_requireThere (fun hw => ?_) (fun hw => k0 hw)
  obtain ⟨j, hj, rfl⟩ := wth_nI (b := 1) (by decide) hw
  refine kV ?_
  obtain ⟨-, fz, hz⟩ := H.pS
  rcases (hz.2 j (by omega)).2 with e1 | ⟨y, B, e1, e2, e3 | e3⟩
  · exact sn_X6_restore H (by omega) hz e1.1 (k2 j (by omega) rfl e1.2)
  · exact se_X6_restore (lo := y.2) H (by omega) hz e1 e3.1 (k2 j (by omega) rfl e3.2)
  · exact sy_X6_restore (lo := y.2) (A := B) H (by omega) hz e1 e2 e3.1 (k1 j B (by omega) rfl e3.2)
end SP
section SP
variable {E : Ev} {h : PH} {Q : Rt → PH → Prop}
noncomputable def cif {α : Type} (P : Prop) (a b : α) : α := @ite α P (Classical.propDecidable P) a b
theorem cif_t {α : Type} {P : Prop} {a b : α} (h : P) : cif P a b = a := by unfold cif; exact @if_pos P (Classical.propDecidable P) h _ _ _
theorem cif_f {α : Type} {P : Prop} {a b : α} (h : ¬ P) : cif P a b = b := by unfold cif; exact @if_neg P (Classical.propDecidable P) h _ _ _
def rmI (a b : Int32) : Int32 := a - a / b * b
/-- priceFor -/
def pfA (A : Sta) (z : Int32) : Nat → Nat → Int32
  | 0, _ => -9
  | f + 1, p => if offA A (nI p) - wantA A (nI p) < z then pfA A z f (p + 1) else nI p
theorem pfA_y {A : Sta} {z : Int32} {f p : Nat} (h : ¬ offA A (nI p) - wantA A (nI p) < z) : pfA A z (f + 1) p = nI p := if_neg h
theorem pfA_n {A : Sta} {z : Int32} {f p : Nat} (h : offA A (nI p) - wantA A (nI p) < z) : pfA A z (f + 1) p = pfA A z f (p + 1) := if_pos h
/-- fairness -/
def fsm (A : Sta) : Nat → Int64
  | 0 => 0
  | t + 1 => fsm A t + (fT A t 5).toInt64
def fsq (A : Sta) : Nat → Int64
  | 0 => 0
  | t + 1 => fsq A t + (fT A t 5).toInt64 * (fT A t 5).toInt64
def faiA (A : Sta) (v : Int32) : Int64 := if fsq A (sN A) = 0 then 1 else lowT (fsm A (sN A) * fsm A (sN A)) ((nI (sN A)).toInt64 * fsq A (sN A)) v
/-- share -/
def ones : Nat → Nat
  | 0 => 0
  | n + 1 => (n + 1) % 2 + ones ((n + 1) / 2)
def ownB (t : Nat) : Int32 := (1 : Int32) <<< (nI t &&& 31)
def shT (A : Sta) (t c : Nat) : Int64 := (surA A (nI c ||| ownB t) - surA A (nI c)).toInt64 * (facv (ones c)).toInt64 * (facv (sN A - 1 - ones c)).toInt64
def shS (A : Sta) (t : Nat) : Nat → Int64
  | 0 => 0
  | c + 1 => if nI c &&& ownB t = 0 then shS A t c + shT A t c else shS A t c
theorem shS_y {A : Sta} {t c : Nat} (h : nI c &&& ownB t = 0) : shS A t (c + 1) = shS A t c + shT A t c := if_pos h
theorem shS_n {A : Sta} {t c : Nat} (h : ¬ nI c &&& ownB t = 0) : shS A t (c + 1) = shS A t c := if_neg h
def shaA (A : Sta) (t : Nat) (v : Int32) : Int32 := (lowT (shS A t (2 ^ sN A)) (facv (sN A)).toInt64 v).toInt32
theorem shl_n : ∀ n : Nat, n < 7 → (1 : Int32) <<< (nI n &&& 31) = nI (2 ^ n) := by decide
theorem two_n {n : Nat} (h : n ≤ 6) : 2 ^ n ≤ 64 := by
  have : 2 ^ n ≤ 2 ^ 6 := Nat.pow_le_pow_right (by decide) h
  exact this
theorem ones_b : ∀ n : Nat, n < 7 → ∀ c : Nat, c < 2 ^ n → ones c ≤ n := by decide +kernel
theorem ones_s : ∀ n : Nat, n < 7 → ∀ t : Nat, t < n → ∀ c : Nat, c < 2 ^ n → nI c &&& ownB t = 0 → ones c + 1 ≤ n := by decide +kernel
/-- what bitCount computes -/
def bc1 (x : Int32) : Int32 := x - ((x.toUInt32 >>> (Int32.toUInt32 1 &&& Int32.toUInt32 31)).toInt32 &&& 1431655765)
def bc2 (x : Int32) : Int32 := (x &&& 858993459) + ((x.toUInt32 >>> (Int32.toUInt32 2 &&& Int32.toUInt32 31)).toInt32 &&& 858993459)
def bc3 (x : Int32) : Int32 := (x + (x.toUInt32 >>> (Int32.toUInt32 4 &&& Int32.toUInt32 31)).toInt32) &&& 252645135
def bc4 (x : Int32) : Int32 := x + (x.toUInt32 >>> (Int32.toUInt32 8 &&& Int32.toUInt32 31)).toInt32
def bc5 (x : Int32) : Int32 := x + (x.toUInt32 >>> (Int32.toUInt32 16 &&& Int32.toUInt32 31)).toInt32
def bcn (x : Int32) : Int32 := bc5 (bc4 (bc3 (bc2 (bc1 x)))) &&& 63
theorem bcn_n : ∀ c : Nat, c < 64 → bcn (nI c) = nI (ones c) := by decide +kernel
set_option maxHeartbeats 4000000 in
set_option maxRecDepth 100000 in
theorem sp_J6_bitCount_0f7a4 {a : Int32}  (k : Q (.inl (some (.int (bcn a)))) h) : WPx E mJ6_bitCount_0f7a4 0 [some (.int a)] [] (0, 0) h Q := by
  refine wp_iload_n (M := mJ6_bitCount_0f7a4) (pc := 0) dJ6_bitCount_0f7a4_0 rfl ?_
  refine wp_iload_n (M := mJ6_bitCount_0f7a4) (pc := 1) dJ6_bitCount_0f7a4_1 rfl ?_
  refine wp_iconst (M := mJ6_bitCount_0f7a4) (pc := 2) (v := 1) dJ6_bitCount_0f7a4_2 ci_1 ?_
  refine wp_iushr (M := mJ6_bitCount_0f7a4) (pc := 3) dJ6_bitCount_0f7a4_3 rfl ?_
  refine wp_ldc_w (M := mJ6_bitCount_0f7a4) (pc := 4) wv_J6_265 dJ6_bitCount_0f7a4_4 ?_
  refine wp_iand (M := mJ6_bitCount_0f7a4) (pc := 7) dJ6_bitCount_0f7a4_7 ?_
  refine wp_isub (M := mJ6_bitCount_0f7a4) (pc := 8) dJ6_bitCount_0f7a4_8 ?_
  refine so_istore_n (M := mJ6_bitCount_0f7a4) (pc := 9) (lo' := [_]) dJ6_bitCount_0f7a4_9 (LE rfl) (LE rfl) (Or.inl rfl) rfl ?_
  refine wp_iload_n (M := mJ6_bitCount_0f7a4) (pc := 10) dJ6_bitCount_0f7a4_10 rfl ?_
  refine wp_ldc_w (M := mJ6_bitCount_0f7a4) (pc := 11) wv_J6_266 dJ6_bitCount_0f7a4_11 ?_
  refine wp_iand (M := mJ6_bitCount_0f7a4) (pc := 14) dJ6_bitCount_0f7a4_14 ?_
  refine wp_iload_n (M := mJ6_bitCount_0f7a4) (pc := 15) dJ6_bitCount_0f7a4_15 rfl ?_
  refine wp_iconst (M := mJ6_bitCount_0f7a4) (pc := 16) (v := 2) dJ6_bitCount_0f7a4_16 ci_2 ?_
  refine wp_iushr (M := mJ6_bitCount_0f7a4) (pc := 17) dJ6_bitCount_0f7a4_17 rfl ?_
  refine wp_ldc_w (M := mJ6_bitCount_0f7a4) (pc := 18) wv_J6_266 dJ6_bitCount_0f7a4_18 ?_
  refine wp_iand (M := mJ6_bitCount_0f7a4) (pc := 21) dJ6_bitCount_0f7a4_21 ?_
  refine wp_iadd (M := mJ6_bitCount_0f7a4) (pc := 22) dJ6_bitCount_0f7a4_22 ?_
  refine so_istore_n (M := mJ6_bitCount_0f7a4) (pc := 23) (lo' := [_]) dJ6_bitCount_0f7a4_23 (LE rfl) (LE rfl) (Or.inl rfl) rfl ?_
  refine wp_iload_n (M := mJ6_bitCount_0f7a4) (pc := 24) dJ6_bitCount_0f7a4_24 rfl ?_
  refine wp_iload_n (M := mJ6_bitCount_0f7a4) (pc := 25) dJ6_bitCount_0f7a4_25 rfl ?_
  refine wp_iconst (M := mJ6_bitCount_0f7a4) (pc := 26) (v := 4) dJ6_bitCount_0f7a4_26 ci_4 ?_
  refine wp_iushr (M := mJ6_bitCount_0f7a4) (pc := 27) dJ6_bitCount_0f7a4_27 rfl ?_
  refine wp_iadd (M := mJ6_bitCount_0f7a4) (pc := 28) dJ6_bitCount_0f7a4_28 ?_
  refine wp_ldc_w (M := mJ6_bitCount_0f7a4) (pc := 29) wv_J6_267 dJ6_bitCount_0f7a4_29 ?_
  refine wp_iand (M := mJ6_bitCount_0f7a4) (pc := 32) dJ6_bitCount_0f7a4_32 ?_
  refine so_istore_n (M := mJ6_bitCount_0f7a4) (pc := 33) (lo' := [_]) dJ6_bitCount_0f7a4_33 (LE rfl) (LE rfl) (Or.inl rfl) rfl ?_
  refine wp_iload_n (M := mJ6_bitCount_0f7a4) (pc := 34) dJ6_bitCount_0f7a4_34 rfl ?_
  refine wp_iload_n (M := mJ6_bitCount_0f7a4) (pc := 35) dJ6_bitCount_0f7a4_35 rfl ?_
  refine wp_bipush (M := mJ6_bitCount_0f7a4) (pc := 36) (v := 8) dJ6_bitCount_0f7a4_36 cb_8 ?_
  refine wp_iushr (M := mJ6_bitCount_0f7a4) (pc := 38) dJ6_bitCount_0f7a4_38 rfl ?_
  refine wp_iadd (M := mJ6_bitCount_0f7a4) (pc := 39) dJ6_bitCount_0f7a4_39 ?_
  refine so_istore_n (M := mJ6_bitCount_0f7a4) (pc := 40) (lo' := [_]) dJ6_bitCount_0f7a4_40 (LE rfl) (LE rfl) (Or.inl rfl) rfl ?_
  refine wp_iload_n (M := mJ6_bitCount_0f7a4) (pc := 41) dJ6_bitCount_0f7a4_41 rfl ?_
  refine wp_iload_n (M := mJ6_bitCount_0f7a4) (pc := 42) dJ6_bitCount_0f7a4_42 rfl ?_
  refine wp_bipush (M := mJ6_bitCount_0f7a4) (pc := 43) (v := 16) dJ6_bitCount_0f7a4_43 cb_16 ?_
  refine wp_iushr (M := mJ6_bitCount_0f7a4) (pc := 45) dJ6_bitCount_0f7a4_45 rfl ?_
  refine wp_iadd (M := mJ6_bitCount_0f7a4) (pc := 46) dJ6_bitCount_0f7a4_46 ?_
  refine so_istore_n (M := mJ6_bitCount_0f7a4) (pc := 47) (lo' := [_]) dJ6_bitCount_0f7a4_47 (LE rfl) (LE rfl) (Or.inl rfl) rfl ?_
  refine wp_iload_n (M := mJ6_bitCount_0f7a4) (pc := 48) dJ6_bitCount_0f7a4_48 rfl ?_
  refine wp_bipush (M := mJ6_bitCount_0f7a4) (pc := 49) (v := 63) dJ6_bitCount_0f7a4_49 cb_63 ?_
  refine wp_iand (M := mJ6_bitCount_0f7a4) (pc := 51) dJ6_bitCount_0f7a4_51 ?_
  refine wp_ireturn (M := mJ6_bitCount_0f7a4) (pc := 52) rfl dJ6_bitCount_0f7a4_52 ?_
  exact k
set_option maxHeartbeats 4000000 in
set_option maxRecDepth 100000 in
theorem lp_X6_priceFor {me q c u hi sl tx ka pa fa la hsa txa x : Nat} {l lc : Lt} {cs ss : Nat → Option (Nat × Lt)} {X : Abs} {z : Int32} (H : WP h me q c u hi sl tx ka pa fa la hsa txa x l lc cs ss X) (k : Q (.inl (some (.int (pfA (xA X) z 99 1)))) h) : ∀ (m : Nat) (p : Nat) (r : Nat × Nat), 100 - p < m → (1 ≤ p) → (p ≤ 100) → (pfA (xA X) z 99 1 = pfA (xA X) z (100 - p) p) → WPx E mX6_priceFor 9 [some (.ref me), some (.int z), some (.int (nI p))] [] r h Q := by
  intro m
  induction m with
  | zero => intro p r hm; exact absurd hm (Nat.not_lt_zero _)
  | succ m ih =>
    intro p r hm hp1 hp he
    refine wp_iload_n (M := mX6_priceFor) (pc := 9) dX6_priceFor_9 rfl ?_
    refine wp_bipush (M := mX6_priceFor) (pc := 10) (v := 99) dX6_priceFor_10 cb_99 ?_
    refine wp_icmp_gt (M := mX6_priceFor) (pc := 12) (tgt := 44) dX6_priceFor_12 rfl (fun t12 => ?_) (fun f12 => ?_)
    · have e100 : p = 100 := by
        have := (i_lt (a := 99) (by decide) (by omega)).mp t12
        omega
      refine wp_bipush (M := mX6_priceFor) (pc := 44) (v := -9) dX6_priceFor_44 cb_m9 ?_
      refine wp_ireturn (M := mX6_priceFor) (pc := 46) rfl dX6_priceFor_46 ?_
      subst e100
      rw [he] at k
      exact k
    · have hlt : p ≤ 99 := Nat.le_of_not_lt (fun e => f12 ((i_lt (a := 99) (by decide) (by omega)).mpr e))
      rw [show 100 - p = (100 - (p + 1)) + 1 by omega] at he
      refine wp_aload_n (M := mX6_priceFor) (pc := 15) dX6_priceFor_15 rfl ?_
      refine wp_getR (M := mX6_priceFor) (pc := 16) fa_X6_12 rfl dX6_priceFor_16 (by first | exact H.kMe | exact H.kQ | fail "kd") H.ob.2.1 ?_
      refine wp_iload_n (M := mX6_priceFor) (pc := 19) dX6_priceFor_19 rfl ?_
      refine so_V1 (M := mX6_priceFor) (pc := 20) cs_X6_priceFor_189 rfl rfl (LE rfl) (LE rfl) dX6_priceFor_20 (by first | exact H.kMe | exact H.kQ | fail "kd") ?_
      refine sp_X4_offeredAt H.rep ?_
      refine kI ?_
      refine wp_aload_n (M := mX6_priceFor) (pc := 23) dX6_priceFor_23 rfl ?_
      refine wp_getR (M := mX6_priceFor) (pc := 24) fa_X6_12 rfl dX6_priceFor_24 (by first | exact H.kMe | exact H.kQ | fail "kd") H.ob.2.1 ?_
      refine wp_iload_n (M := mX6_priceFor) (pc := 27) dX6_priceFor_27 rfl ?_
      refine so_V1 (M := mX6_priceFor) (pc := 28) cs_X6_priceFor_186 rfl rfl (LE rfl) (LE rfl) dX6_priceFor_28 (by first | exact H.kMe | exact H.kQ | fail "kd") ?_
      refine sp_X4_wantedAt H.rep ?_
      refine kI ?_
      refine wp_isub (M := mX6_priceFor) (pc := 31) dX6_priceFor_31 ?_
      refine wp_iload_n (M := mX6_priceFor) (pc := 32) dX6_priceFor_32 rfl ?_
      refine wp_icmp_lt (M := mX6_priceFor) (pc := 33) (tgt := 38) dX6_priceFor_33 rfl (fun t33 => ?_) (fun f33 => ?_)
      · refine so_iinc (M := mX6_priceFor) (pc := 38) (lo' := [_, _, _]) dX6_priceFor_38 rfl ci_1 (LE rfl) rfl ?_
        refine wp_goto (M := mX6_priceFor) (pc := 41) (tgt := 9) dX6_priceFor_41 rfl ?_
        rw [show nI p + 1 = nI (p + 1) from nI_1 p]
        rw [pfA_n t33] at he
        exact ih (p + 1) r (by omega) (by omega) (by omega) he
      · refine wp_iload_n (M := mX6_priceFor) (pc := 36) dX6_priceFor_36 rfl ?_
        refine wp_ireturn (M := mX6_priceFor) (pc := 37) rfl dX6_priceFor_37 ?_
        rw [he, pfA_y f33] at k
        exact k
set_option maxHeartbeats 4000000 in
set_option maxRecDepth 100000 in
theorem sp_X6_priceFor {me : Nat} {X : Abs} {z : Int32} (H : WC h me X) (k1 : wth z 1 99 → Q (.inl (some (.int (pfA (xA X) z 99 1)))) h) (k0 : ¬ wth z 1 99 → Q (.inr "java/lang/IllegalArgumentException") h) : WPx E mX6_priceFor 0 [some (.ref me), some (.int z), none] [] (1, 6) h Q := by
  obtain ⟨q, c, u, hi, sl, tx, ka, pa, fa, la, hsa, txa, x, l, lc, cs, ss, H⟩ := H
  have hm := H.ob
  have hR := H.rep
  have n6 := hR.2.1.1.2
  refine wp_iload_n (M := mX6_priceFor) (pc := 0) dX6_priceFor_0 rfl ?_
  refine so_S1 (M := mX6_priceFor) (pc := 1) cs_X6_priceFor_157 rfl rfl (LE rfl) (LE rfl) dX6_priceFor_1 ?_
  refine sp_X6_isTwoDigits ?_
  refine kI ?_
  refine so_SA1 (M := mX6_priceFor) (pc := 4) (0, 0) cs_X6_priceFor_60 rfl (LE rfl) (LE rfl) (LE rfl) (LE rfl) dX6_priceFor_4 ?_
  refine sp_X6_requireArgument (fun hw => ?_) (fun hw => k0 hw)
  refine kV ?_
  refine wp_iconst (M := mX6_priceFor) (pc := 7) (v := 1) dX6_priceFor_7 ci_1 ?_
  refine so_istore_n (M := mX6_priceFor) (pc := 8) (lo' := [_, _, _]) dX6_priceFor_8 (LE rfl) (LE rfl) (Or.inr rfl) rfl ?_
  exact lp_X6_priceFor H (k1 hw) 100 1 (0, 0) (by omega) (by omega) (by omega) rfl
set_option maxHeartbeats 4000000 in
set_option maxRecDepth 100000 in
theorem lp_X6_fairness {me q c u hi sl tx ka pa fa la hsa txa x : Nat} {l lc : Lt} {cs ss : Nat → Option (Nat × Lt)} {X : Abs} {v : Int32} (H : WP h me q c u hi sl tx ka pa fa la hsa txa x l lc cs ss X) (k : Q (.inl (some (.long (faiA (xA X) v)))) h) : ∀ (m : Nat) (t : Nat) (x7 : Option Value), sN (xA X) - t < m → (t ≤ sN (xA X)) → WPx E mX6_fairness 8 [some (.ref me), some (.int v), some (.long (fsm (xA X) t)), none, some (.long (fsq (xA X) t)), none, some (.int (nI t)), x7, none] [] (0, 0) h Q := by
  intro m
  induction m with
  | zero => intro t x7 hm; exact absurd hm (Nat.not_lt_zero _)
  | succ m ih =>
    intro t x7 hm ht
    have hob := H.ob
    have hR := H.rep
    have n6 := hR.2.1.1.2
    refine wp_iload (M := mX6_fairness) (pc := 8) dX6_fairness_8 rfl ?_
    refine wp_aload_n (M := mX6_fairness) (pc := 10) dX6_fairness_10 rfl ?_
    refine wp_getR (M := mX6_fairness) (pc := 11) fa_X6_12 rfl dX6_fairness_11 (by first | exact hob.1.1 | exact H.kQ | exact hR.1.2.1.2.1 | exact (hR.1.2.2.2.1 t (by omega)).2.1.1 | fail "kd") (by first | exact hob.2.1 | exact hR.1.2.1.1 | exact (hR.1.2.2.2.1 t (by omega)).1 | fail "rx") ?_
    refine wp_getI (M := mX6_fairness) (pc := 14) fa_X6_90 rfl dX6_fairness_14 (by first | exact hob.1.1 | exact H.kQ | exact hR.1.2.1.2.1 | exact (hR.1.2.2.2.1 t (by omega)).2.1.1 | fail "kd") ?_
    refine wp_icmp_ge (M := mX6_fairness) (pc := 17) (tgt := 57) dX6_fairness_17 rfl (fun t17 => ?_) (fun f17 => ?_)
    · rw [hR.2.1.1.1] at t17
      have e2 := n_ge ht (by omega) t17
      subst e2
      refine wp_lload (M := mX6_fairness) (pc := 57) dX6_fairness_57 rfl ?_
      refine wp_lconst (M := mX6_fairness) (pc := 59) (v := 0) dX6_fairness_59 cl_0 ?_
      refine wp_lcmp (M := mX6_fairness) (pc := 60) dX6_fairness_60 ?_
      refine wp_if_ne (M := mX6_fairness) (pc := 61) (tgt := 66) dX6_fairness_61 rfl (fun t61 => ?_) (fun f61 => ?_)
      · refine wp_lload_n (M := mX6_fairness) (pc := 66) dX6_fairness_66 rfl ?_
        refine wp_lload_n (M := mX6_fairness) (pc := 67) dX6_fairness_67 rfl ?_
        refine wp_lmul (M := mX6_fairness) (pc := 68) dX6_fairness_68 ?_
        refine wp_aload_n (M := mX6_fairness) (pc := 69) dX6_fairness_69 rfl ?_
        refine wp_getR (M := mX6_fairness) (pc := 70) fa_X6_12 rfl dX6_fairness_70 (by first | exact hob.1.1 | exact H.kQ | exact hR.1.2.1.2.1 | exact (hR.1.2.2.2.1 t (by omega)).2.1.1 | fail "kd") (by first | exact hob.2.1 | exact hR.1.2.1.1 | exact (hR.1.2.2.2.1 t (by omega)).1 | fail "rx") ?_
        refine wp_getI (M := mX6_fairness) (pc := 73) fa_X6_90 rfl dX6_fairness_73 (by first | exact hob.1.1 | exact H.kQ | exact hR.1.2.1.2.1 | exact (hR.1.2.2.2.1 t (by omega)).2.1.1 | fail "kd") ?_
        refine wp_i2l (M := mX6_fairness) (pc := 76) dX6_fairness_76 ?_
        refine wp_lload (M := mX6_fairness) (pc := 77) dX6_fairness_77 rfl ?_
        refine wp_lmul (M := mX6_fairness) (pc := 79) dX6_fairness_79 ?_
        refine wp_iload_n (M := mX6_fairness) (pc := 80) dX6_fairness_80 rfl ?_
        refine so_S3 (M := mX6_fairness) (pc := 81) cs_X6_fairness_222 rfl rfl (LE rfl) (LE rfl) dX6_fairness_81 ?_
        refine sp_X6_inLowestTerms ?_
        refine kL ?_
        refine wp_lreturn (M := mX6_fairness) (pc := 84) rfl dX6_fairness_84 ?_
        rw [faiA, if_neg (fun e => t61 ((lg_cmp_eq _ _).mpr e))] at k
        rw [hR.2.1.1.1]
        exact k
      · refine wp_lconst (M := mX6_fairness) (pc := 64) (v := 1) dX6_fairness_64 cl_1 ?_
        refine wp_lreturn (M := mX6_fairness) (pc := 65) rfl dX6_fairness_65 ?_
        rw [faiA, if_pos ((lg_cmp_eq _ _).mp f61)] at k
        exact k
    · rw [hR.2.1.1.1] at f17
      have hlt := n_lt ht (by omega) f17
      refine wp_aload_n (M := mX6_fairness) (pc := 20) dX6_fairness_20 rfl ?_
      refine wp_getR (M := mX6_fairness) (pc := 21) fa_X6_12 rfl dX6_fairness_21 (by first | exact hob.1.1 | exact H.kQ | exact hR.1.2.1.2.1 | exact (hR.1.2.2.2.1 t (by omega)).2.1.1 | fail "kd") (by first | exact hob.2.1 | exact hR.1.2.1.1 | exact (hR.1.2.2.2.1 t (by omega)).1 | fail "rx") ?_
      refine wp_getR (M := mX6_fairness) (pc := 24) fa_X6_111 rfl dX6_fairness_24 (by first | exact hob.1.1 | exact H.kQ | exact hR.1.2.1.2.1 | exact (hR.1.2.2.2.1 t (by omega)).2.1.1 | fail "kd") (by first | exact hob.2.1 | exact hR.1.2.1.1 | exact (hR.1.2.2.2.1 t (by omega)).1 | fail "rx") ?_
      refine wp_iload (M := mX6_fairness) (pc := 27) dX6_fairness_27 rfl ?_
      refine wr_aaload (M := mX6_fairness) (pc := 29) dX6_fairness_29 (by first | exact hob.1.1 | exact H.kQ | exact hR.1.2.1.2.1 | exact (hR.1.2.2.2.1 t (by omega)).2.1.1 | fail "kd") (by decide) rfl (by omega) (by decide) (by first | exact hob.2.1 | exact hR.1.2.1.1 | exact (hR.1.2.2.2.1 t (by omega)).1 | fail "rx") ?_
      refine wp_getI (M := mX6_fairness) (pc := 30) fa_X6_229 rfl dX6_fairness_30 (by first | exact hob.1.1 | exact H.kQ | exact hR.1.2.1.2.1 | exact (hR.1.2.2.2.1 t (by omega)).2.1.1 | fail "kd") ?_
      refine wp_i2l (M := mX6_fairness) (pc := 33) dX6_fairness_33 ?_
      refine so_lstore (M := mX6_fairness) (pc := 34) (lo' := [_, _, _, _, _, _, _, _, _]) dX6_fairness_34 (LE rfl) (LE rfl) (Or.inr rfl) rfl ?_
      refine wp_lload_n (M := mX6_fairness) (pc := 36) dX6_fairness_36 rfl ?_
      refine wp_lload (M := mX6_fairness) (pc := 37) dX6_fairness_37 rfl ?_
      refine wp_ladd (M := mX6_fairness) (pc := 39) dX6_fairness_39 ?_
      refine so_lstore_n (M := mX6_fairness) (pc := 40) (lo' := [_, _, _, _, _, _, _, _, _]) dX6_fairness_40 (LE rfl) (LE rfl) (Or.inr rfl) rfl ?_
      refine wp_lload (M := mX6_fairness) (pc := 41) dX6_fairness_41 rfl ?_
      refine wp_lload (M := mX6_fairness) (pc := 43) dX6_fairness_43 rfl ?_
      refine wp_lload (M := mX6_fairness) (pc := 45) dX6_fairness_45 rfl ?_
      refine wp_lmul (M := mX6_fairness) (pc := 47) dX6_fairness_47 ?_
      refine wp_ladd (M := mX6_fairness) (pc := 48) dX6_fairness_48 ?_
      refine so_lstore (M := mX6_fairness) (pc := 49) (lo' := [_, _, _, _, _, _, _, _, _]) dX6_fairness_49 (LE rfl) (LE rfl) (Or.inr rfl) rfl ?_
      refine so_iinc (M := mX6_fairness) (pc := 51) (lo' := [_, _, _, _, _, _, _, _, _]) dX6_fairness_51 rfl ci_1 (LE rfl) rfl ?_
      refine wp_goto (M := mX6_fairness) (pc := 54) (tgt := 8) dX6_fairness_54 rfl ?_
      rw [show nI t + 1 = nI (t + 1) from nI_1 t, (hR.2.2.1 t hlt).1 5 (by decide)]
      exact ih (t + 1) _ (by omega) (by omega)
set_option maxHeartbeats 4000000 in
set_option maxRecDepth 100000 in
theorem sp_X6_fairness {me : Nat} {X : Abs} {v : Int32} (H : WC h me X) (k : Q (.inl (some (.long (faiA (xA X) v)))) h) : WPx E mX6_fairness 0 [some (.ref me), some (.int v), none, none, none, none, none, none, none] [] (0, 0) h Q := by
  obtain ⟨q, c, u, hi, sl, tx, ka, pa, fa, la, hsa, txa, x, l, lc, cs, ss, H⟩ := H
  have hm := H.ob
  have hR := H.rep
  have n6 := hR.2.1.1.2
  refine wp_lconst (M := mX6_fairness) (pc := 0) (v := 0) dX6_fairness_0 cl_0 ?_
  refine so_lstore_n (M := mX6_fairness) (pc := 1) (lo' := [_, _, _, _, _, _, _, _, _]) dX6_fairness_1 (LE rfl) (LE rfl) (Or.inr rfl) rfl ?_
  refine wp_lconst (M := mX6_fairness) (pc := 2) (v := 0) dX6_fairness_2 cl_0 ?_
  refine so_lstore (M := mX6_fairness) (pc := 3) (lo' := [_, _, _, _, _, _, _, _, _]) dX6_fairness_3 (LE rfl) (LE rfl) (Or.inr rfl) rfl ?_
  refine wp_iconst (M := mX6_fairness) (pc := 5) (v := 0) dX6_fairness_5 ci_0 ?_
  refine so_istore (M := mX6_fairness) (pc := 6) (lo' := [_, _, _, _, _, _, _, _, _]) dX6_fairness_6 (LE rfl) (LE rfl) (Or.inr rfl) rfl ?_
  exact lp_X6_fairness H k (sN (xA X) + 1) 0 none (by omega) (by omega)
set_option maxHeartbeats 4000000 in
set_option maxRecDepth 100000 in
theorem lp_X6_share {me q c u hi sl tx ka pa fa la hsa txa x : Nat} {l lc : Lt} {cs ss : Nat → Option (Nat × Lt)} {X : Abs} {v : Int32} {t : Nat} {h0 : PH} (htn : t < sN (xA X)) (k : ∀ h', WC h' me X → Of h0 h' → Q (.inl (some (.int (shaA (xA X) t v)))) h') : ∀ (m : Nat) (e : Nat) (h : PH) (x8 : Option Value) (x9 : Option Value) (r : Nat × Nat), 2 ^ sN (xA X) - e < m → (e ≤ 2 ^ sN (xA X)) → (WP h me q c u hi sl tx ka pa fa la hsa txa x l lc cs ss X) → (Of h0 h) → WPx E mX6_share 32 [some (.ref me), some (.int (nI t)), some (.int v), some (.int (nI (sN (xA X) - 1))), some (.int (ownB t)), some (.long (shS (xA X) t e)), none, some (.int (nI e)), x8, x9, none] [] r h Q := by
  intro m
  induction m with
  | zero => intro e h x8 x9 r hm; exact absurd hm (Nat.not_lt_zero _)
  | succ m ih =>
    intro e h x8 x9 r hm he H O1
    have hob := H.ob
    have hR := H.rep
    have n6 := hR.2.1.1.2
    have e64 := two_n n6
    have nuq : u ≠ q := nk H.kU H.kQ (by simp)
    have nmu : me ≠ u := nk H.kMe H.kU (by simp)
    refine wp_iload (M := mX6_share) (pc := 32) dX6_share_32 rfl ?_
    refine wp_iconst (M := mX6_share) (pc := 34) (v := 1) dX6_share_34 ci_1 ?_
    refine wp_aload_n (M := mX6_share) (pc := 35) dX6_share_35 rfl ?_
    refine wp_getR (M := mX6_share) (pc := 36) fa_X6_12 rfl dX6_share_36 (by first | exact hob.1.1 | exact H.kQ | fail "kd") (by first | exact hob.2.1 | fail "rx") ?_
    refine wp_getI (M := mX6_share) (pc := 39) fa_X6_90 rfl dX6_share_39 (by first | exact hob.1.1 | exact H.kQ | fail "kd") ?_
    refine wp_ishl (M := mX6_share) (pc := 42) dX6_share_42 ?_
    refine wp_icmp_ge (M := mX6_share) (pc := 43) (tgt := 109) dX6_share_43 rfl (fun t43 => ?_) (fun f43 => ?_)
    · rw [hR.2.1.1.1, shl_n _ (by omega)] at t43
      have e2 := n_ge he (by omega) t43
      subst e2
      refine wp_lload (M := mX6_share) (pc := 109) dX6_share_109 rfl ?_
      refine wp_aload_n (M := mX6_share) (pc := 111) dX6_share_111 rfl ?_
      refine wp_getR (M := mX6_share) (pc := 112) fa_X6_12 rfl dX6_share_112 (by first | exact hob.1.1 | exact H.kQ | fail "kd") (by first | exact hob.2.1 | fail "rx") ?_
      refine wp_getI (M := mX6_share) (pc := 115) fa_X6_90 rfl dX6_share_115 (by first | exact hob.1.1 | exact H.kQ | fail "kd") ?_
      refine so_S1 (M := mX6_share) (pc := 118) cs_X6_share_219 rfl rfl (LE rfl) (LE rfl) dX6_share_118 ?_
      rw [hR.2.1.1.1]
      refine sp_X6_factorial (by omega) ?_
      refine kI ?_
      refine wp_i2l (M := mX6_share) (pc := 121) dX6_share_121 ?_
      refine wp_iload_n (M := mX6_share) (pc := 122) dX6_share_122 rfl ?_
      refine so_S3 (M := mX6_share) (pc := 123) cs_X6_share_222 rfl rfl (LE rfl) (LE rfl) dX6_share_123 ?_
      refine sp_X6_inLowestTerms ?_
      refine kL ?_
      refine wp_l2i (M := mX6_share) (pc := 126) dX6_share_126 ?_
      refine wp_ireturn (M := mX6_share) (pc := 127) rfl dX6_share_127 ?_
      exact k h H.wc O1
    · rw [hR.2.1.1.1, shl_n _ (by omega)] at f43
      have hlt := n_lt he (by omega) f43
      refine wp_iload (M := mX6_share) (pc := 46) dX6_share_46 rfl ?_
      refine wp_iload (M := mX6_share) (pc := 48) dX6_share_48 rfl ?_
      refine wp_iand (M := mX6_share) (pc := 50) dX6_share_50 ?_
      refine wp_if_ne (M := mX6_share) (pc := 51) (tgt := 103) dX6_share_51 rfl (fun t51 => ?_) (fun f51 => ?_)
      · refine so_iinc (M := mX6_share) (pc := 103) (lo' := [_, _, _, _, _, _, _, _, _, _, _]) dX6_share_103 rfl ci_1 (LE rfl) rfl ?_
        refine wp_goto (M := mX6_share) (pc := 106) (tgt := 32) dX6_share_106 rfl ?_
        first
        | (rw [show nI e + 1 = nI (e + 1) from nI_1 e]
           have hz := ih (e + 1) h x8 x9 r (by omega) (by omega) H O1
           rw [shS_n t51] at hz
           exact hz)
        | (rw [show nI e + 1 = nI (e + 1) from nI_1 e]
           have hz := fun y z => ih (e + 1) h2 y z r (by omega) (by omega) H2 O3
           rw [shS_y f51] at hz
           exact hz _ _)
        | fail "leaf"
      · have hb1 := ones_s _ (by omega) t htn e hlt f51
        refine wp_iload (M := mX6_share) (pc := 54) dX6_share_54 rfl ?_
        refine so_S1 (M := mX6_share) (pc := 56) cs_X6_share_211 rfl rfl (LE rfl) (LE rfl) dX6_share_56 ?_
        refine sp_J6_bitCount_0f7a4 ?_
        rw [bcn_n e (by omega)]
        refine kI ?_
        refine so_istore (M := mX6_share) (pc := 59) (lo' := [_, _, _, _, _, _, _, _, _, _, _]) dX6_share_59 (LE rfl) (LE rfl) (Or.inr rfl) rfl ?_
        refine wp_aload_n (M := mX6_share) (pc := 61) dX6_share_61 rfl ?_
        refine wp_iload (M := mX6_share) (pc := 62) dX6_share_62 rfl ?_
        refine wp_iload (M := mX6_share) (pc := 64) dX6_share_64 rfl ?_
        refine wp_ior (M := mX6_share) (pc := 66) dX6_share_66 ?_
        refine so_V1 (M := mX6_share) (pc := 67) cs_X6_share_216 rfl rfl (LE rfl) (LE rfl) dX6_share_67 (by first | exact hob.1.1 | exact H.kQ | fail "kd") ?_
        refine sp_X6_surplusOf hob hR H.au nuq nmu (fun h1 f1 => ?_)
        have H1 := H.uI f1
        have O2 := O1.tr (H.uO f1)
        refine kI ?_
        refine wp_aload_n (M := mX6_share) (pc := 70) dX6_share_70 rfl ?_
        refine wp_iload (M := mX6_share) (pc := 71) dX6_share_71 rfl ?_
        refine so_V1 (M := mX6_share) (pc := 73) cs_X6_share_216 rfl rfl (LE rfl) (LE rfl) dX6_share_73 H1.kMe ?_
        refine sp_X6_surplusOf H1.ob H1.rep H1.au nuq nmu (fun h2 f2 => ?_)
        have H2 := H1.uI f2
        have O3 := O2.tr (H1.uO f2)
        refine kI ?_
        refine wp_isub (M := mX6_share) (pc := 76) dX6_share_76 ?_
        refine wp_i2l (M := mX6_share) (pc := 77) dX6_share_77 ?_
        refine so_lstore (M := mX6_share) (pc := 78) (lo' := [_, _, _, _, _, _, _, _, _, _, _]) dX6_share_78 (LE rfl) (LE rfl) (Or.inr rfl) rfl ?_
        refine wp_lload (M := mX6_share) (pc := 80) dX6_share_80 rfl ?_
        refine wp_lload (M := mX6_share) (pc := 82) dX6_share_82 rfl ?_
        refine wp_iload (M := mX6_share) (pc := 84) dX6_share_84 rfl ?_
        refine so_S1 (M := mX6_share) (pc := 86) cs_X6_share_219 rfl rfl (LE rfl) (LE rfl) dX6_share_86 ?_
        refine sp_X6_factorial (by omega) ?_
        refine kI ?_
        refine wp_i2l (M := mX6_share) (pc := 89) dX6_share_89 ?_
        refine wp_lmul (M := mX6_share) (pc := 90) dX6_share_90 ?_
        refine wp_iload_n (M := mX6_share) (pc := 91) dX6_share_91 rfl ?_
        refine wp_iload (M := mX6_share) (pc := 92) dX6_share_92 rfl ?_
        refine wp_isub (M := mX6_share) (pc := 94) dX6_share_94 ?_
        refine so_S1 (M := mX6_share) (pc := 95) cs_X6_share_219 rfl rfl (LE rfl) (LE rfl) dX6_share_95 ?_
        rw [show nI (sN (xA X) - 1) - nI (ones e) = nI (sN (xA X) - 1 - ones e) from pk_sub (by omega)]
        refine sp_X6_factorial (by omega) ?_
        refine kI ?_
        refine wp_i2l (M := mX6_share) (pc := 98) dX6_share_98 ?_
        refine wp_lmul (M := mX6_share) (pc := 99) dX6_share_99 ?_
        refine wp_ladd (M := mX6_share) (pc := 100) dX6_share_100 ?_
        refine so_lstore (M := mX6_share) (pc := 101) (lo' := [_, _, _, _, _, _, _, _, _, _, _]) dX6_share_101 (LE rfl) (LE rfl) (Or.inr rfl) rfl ?_
        refine so_iinc (M := mX6_share) (pc := 103) (lo' := [_, _, _, _, _, _, _, _, _, _, _]) dX6_share_103 rfl ci_1 (LE rfl) rfl ?_
        refine wp_goto (M := mX6_share) (pc := 106) (tgt := 32) dX6_share_106 rfl ?_
        first
        | (rw [show nI e + 1 = nI (e + 1) from nI_1 e]
           have hz := ih (e + 1) h x8 x9 r (by omega) (by omega) H O1
           rw [shS_n t51] at hz
           exact hz)
        | (rw [show nI e + 1 = nI (e + 1) from nI_1 e]
           have hz := fun y z => ih (e + 1) h2 y z r (by omega) (by omega) H2 O3
           rw [shS_y f51] at hz
           exact hz _ _)
        | fail "leaf"
set_option maxHeartbeats 4000000 in
set_option maxRecDepth 100000 in
theorem sp_X6_share {me : Nat} {X : Abs} {w v : Int32} (H : WC h me X) (k1 : ∀ t, t < sN (xA X) → w = nI t → ∀ h', WC h' me X → Of h h' → Q (.inl (some (.int (shaA (xA X) t v)))) h') (k0 : ¬ isT (xA X) w → Q (.inr "java/lang/IndexOutOfBoundsException") h) : WPx E mX6_share 0 [some (.ref me), some (.int w), some (.int v), none, none, none, none, none, none, none, none] [] (1, 6) h Q := by
  obtain ⟨q, c, u, hi, sl, tx, ka, pa, fa, la, hsa, txa, x, l, lc, cs, ss, H⟩ := H
  have hm := H.ob
  have hR := H.rep
  have n6 := hR.2.1.1.2
  refine wp_aload_n (M := mX6_share) (pc := 0) dX6_share_0 rfl ?_
  refine wp_getR (M := mX6_share) (pc := 1) fa_X6_12 rfl dX6_share_1 (by first | exact hm.1.1 | exact H.kQ | exact H.kH | exact H.kC | exact H.kU | exact H.kX | exact hR.1.2.1.2.1 | exact a2 | fail "kd") (by first | exact hm.2.1 | exact hm.2.2.1 | exact hm.2.2.2.1 | exact hm.2.2.2.2.1 | exact hm.2.2.2.2.2.1 | exact hm.2.2.2.2.2.2 | exact hR.1.2.1.1 | exact a1 | fail "rx") ?_
  refine wp_iload_n (M := mX6_share) (pc := 4) dX6_share_4 rfl ?_
  refine so_V1 (M := mX6_share) (pc := 5) cs_X6_share_97 rfl rfl (LE rfl) (LE rfl) dX6_share_5 (by first | exact hm.1.1 | exact H.kQ | exact H.kH | exact H.kC | exact H.kU | exact H.kX | exact hR.1.2.1.2.1 | exact a2 | fail "kd") ?_
  refine sb_hasTenant hR ?_
  refine kI ?_
  refine so_SA1 (M := mX6_share) (pc := 8) (0, 0) cs_X6_share_101 rfl (LE rfl) (LE rfl) (LE rfl) (LE rfl) dX6_share_8 ?_
  refine sp_X6_requireThere (fun ht => ?_) (fun hw => k0 hw)
  obtain ⟨t, htn, rfl⟩ := ht
  refine kV ?_
  refine wp_aload_n (M := mX6_share) (pc := 11) dX6_share_11 rfl ?_
  refine wp_getR (M := mX6_share) (pc := 12) fa_X6_12 rfl dX6_share_12 (by first | exact hm.1.1 | exact H.kQ | exact H.kH | exact H.kC | exact H.kU | exact H.kX | exact hR.1.2.1.2.1 | exact a2 | fail "kd") (by first | exact hm.2.1 | exact hm.2.2.1 | exact hm.2.2.2.1 | exact hm.2.2.2.2.1 | exact hm.2.2.2.2.2.1 | exact hm.2.2.2.2.2.2 | exact hR.1.2.1.1 | exact a1 | fail "rx") ?_
  refine wp_getI (M := mX6_share) (pc := 15) fa_X6_90 rfl dX6_share_15 (by first | exact hm.1.1 | exact H.kQ | exact H.kH | exact H.kC | exact H.kU | exact H.kX | exact hR.1.2.1.2.1 | exact a2 | fail "kd") ?_
  refine wp_iconst (M := mX6_share) (pc := 18) (v := 1) dX6_share_18 ci_1 ?_
  refine wp_isub (M := mX6_share) (pc := 19) dX6_share_19 ?_
  refine so_istore_n (M := mX6_share) (pc := 20) (lo' := [_, _, _, _, _, _, _, _, _, _, _]) dX6_share_20 (LE rfl) (LE rfl) (Or.inr rfl) rfl ?_
  refine wp_iconst (M := mX6_share) (pc := 21) (v := 1) dX6_share_21 ci_1 ?_
  refine wp_iload_n (M := mX6_share) (pc := 22) dX6_share_22 rfl ?_
  refine wp_ishl (M := mX6_share) (pc := 23) dX6_share_23 ?_
  refine so_istore (M := mX6_share) (pc := 24) (lo' := [_, _, _, _, _, _, _, _, _, _, _]) dX6_share_24 (LE rfl) (LE rfl) (Or.inr rfl) rfl ?_
  refine wp_lconst (M := mX6_share) (pc := 26) (v := 0) dX6_share_26 cl_0 ?_
  refine so_lstore (M := mX6_share) (pc := 27) (lo' := [_, _, _, _, _, _, _, _, _, _, _]) dX6_share_27 (LE rfl) (LE rfl) (Or.inr rfl) rfl ?_
  refine wp_iconst (M := mX6_share) (pc := 29) (v := 0) dX6_share_29 ci_0 ?_
  refine so_istore (M := mX6_share) (pc := 30) (lo' := [_, _, _, _, _, _, _, _, _, _, _]) dX6_share_30 (LE rfl) (LE rfl) (Or.inr rfl) rfl ?_
  rw [hR.2.1.1.1, show nI (sN (xA X)) - 1 = nI (sN (xA X) - 1) from pk_sub (b := 1) (by omega)]
  exact lp_X6_share htn (k1 t htn rfl) (2 ^ sN (xA X) + 1) 0 h none none (0, 0) (Nat.lt_succ_of_le (Nat.sub_le _ _)) (Nat.zero_le _) H Of.rf
end SP
section SP
variable {E : Ev} {h : PH} {Q : Rt → PH → Prop}
/-- what may happen to a copy: k more ticks go well -/
def OkP (P : Nat → Sta → Prop) : Prop := (∀ k B n, P k B → n ≤ k → okT B n ∧ P (k - n) (tks n B).1) ∧ (∀ k B kd j p z, P (k + 1) B → kd < 3 → j < sN B → wth p 1 99 → wth z 1 99 → canP B kd j p z → P k (placeA B kd j p z)) ∧ (∀ k B j z, P (k + 1) B → j < sN B → wth z 1 99 → (sT B j).2.1.length < 8 → P k (pushA B j z)) ∧ (∀ k B, P (k + 1) B → P k B)
noncomputable def plO (B : Sta) (kd : Nat) (t p z : Int32) : Option Sta := cif (mayP B kd t p z) (some (placeA B kd (mis t) p z)) none
noncomputable def quO (B : Sta) (t z : Int32) : Option Sta := cif (mayQ B t z) (some (pushA B (mis t) z)) none
theorem mis_n {j : Nat} (h : j < 2 ^ 31) : mis (nI j) = j := nI_clamp h
noncomputable def cmdA (B : Sta) (cm t p z : Int32) : Option Sta :=
  cif (cm = 1) (plO B 0 t p z) (cif (cm = 2) (plO B 1 t p z) (cif (cm = 3) (plO B 2 t p z) (cif (cm = 4) (cif (t = 0 ∧ p = 0 ∧ wth z 1 50) (some (tks (mis z) B).1) none)
  (cif (cm = 5) (cif (p = 0) (quO B t z) none) (cif (cm = 6) (cif (∃ i, i < sN B ∧ t = nI i ∧ 100 * p + z ≤ fT B i 4) (some B) none) (cif (cm = 7) (cif (∃ i, i < sN B ∧ t = nI i ∧ 100 * p + z ≤ fT B i 2 + fT B i 3) (some B) none)
  (cif (cm = 8) (cif (t = 0 ∧ p = 0 ∧ sG B 7 = z) (some B) none) none)))))))
section
variable {B : Sta} {t p z : Int32}
theorem cm_1 : cmdA B 1 t p z = plO B 0 t p z := cif_t rfl
theorem cm_2 : cmdA B 2 t p z = plO B 1 t p z := (cif_f (by decide)).trans (cif_t rfl)
theorem cm_3 : cmdA B 3 t p z = plO B 2 t p z := (cif_f (by decide)).trans ((cif_f (by decide)).trans (cif_t rfl))
theorem cm_4 : cmdA B 4 t p z = cif (t = 0 ∧ p = 0 ∧ wth z 1 50) (some (tks (mis z) B).1) none := (cif_f (by decide)).trans ((cif_f (by decide)).trans ((cif_f (by decide)).trans (cif_t rfl)))
theorem cm_5 : cmdA B 5 t p z = cif (p = 0) (quO B t z) none := (cif_f (by decide)).trans ((cif_f (by decide)).trans ((cif_f (by decide)).trans ((cif_f (by decide)).trans (cif_t rfl))))
theorem cm_6 : cmdA B 6 t p z = cif (∃ i, i < sN B ∧ t = nI i ∧ 100 * p + z ≤ fT B i 4) (some B) none := (cif_f (by decide)).trans ((cif_f (by decide)).trans ((cif_f (by decide)).trans ((cif_f (by decide)).trans ((cif_f (by decide)).trans (cif_t rfl)))))
theorem cm_7 : cmdA B 7 t p z = cif (∃ i, i < sN B ∧ t = nI i ∧ 100 * p + z ≤ fT B i 2 + fT B i 3) (some B) none := (cif_f (by decide)).trans ((cif_f (by decide)).trans ((cif_f (by decide)).trans ((cif_f (by decide)).trans ((cif_f (by decide)).trans ((cif_f (by decide)).trans (cif_t rfl))))))
theorem cm_8 : cmdA B 8 t p z = cif (t = 0 ∧ p = 0 ∧ sG B 7 = z) (some B) none := (cif_f (by decide)).trans ((cif_f (by decide)).trans ((cif_f (by decide)).trans ((cif_f (by decide)).trans ((cif_f (by decide)).trans ((cif_f (by decide)).trans ((cif_f (by decide)).trans (cif_t rfl)))))))
theorem cm_9 {cm : Int32} (h : cm.toInt < 1 ∨ 8 < cm.toInt) : cmdA B cm t p z = none := by
  have hn : ∀ v : Int32, (1 ≤ v.toInt ∧ v.toInt ≤ 8) → ¬ cm = v := fun v hv e => by rw [e] at h; omega
  exact (cif_f (hn 1 (by decide))).trans ((cif_f (hn 2 (by decide))).trans ((cif_f (hn 3 (by decide))).trans ((cif_f (hn 4 (by decide))).trans ((cif_f (hn 5 (by decide))).trans ((cif_f (hn 6 (by decide))).trans ((cif_f (hn 7 (by decide))).trans (cif_f (hn 8 (by decide)))))))))
theorem sw18 (x : Int32) : x = 1 ∨ x = 2 ∨ x = 3 ∨ x = 4 ∨ x = 5 ∨ x = 6 ∨ x = 7 ∨ x = 8 ∨ (x.toInt < 1 ∨ 8 < x.toInt) := by
  have hh : ∀ v : Int32, x.toInt = v.toInt → x = v := fun v e => Int32.toInt_inj.mp e
  rcases (show x.toInt = 1 ∨ x.toInt = 2 ∨ x.toInt = 3 ∨ x.toInt = 4 ∨ x.toInt = 5 ∨ x.toInt = 6 ∨ x.toInt = 7 ∨ x.toInt = 8 ∨ (x.toInt < 1 ∨ 8 < x.toInt) by omega) with e | e | e | e | e | e | e | e | e
  · exact Or.inl (hh 1 e)
  · exact Or.inr (Or.inl (hh 2 e))
  · exact Or.inr (Or.inr (Or.inl (hh 3 e)))
  · exact Or.inr (Or.inr (Or.inr (Or.inl (hh 4 e))))
  · exact Or.inr (Or.inr (Or.inr (Or.inr (Or.inl (hh 5 e)))))
  · exact Or.inr (Or.inr (Or.inr (Or.inr (Or.inr (Or.inl (hh 6 e))))))
  · exact Or.inr (Or.inr (Or.inr (Or.inr (Or.inr (Or.inr (Or.inl (hh 7 e)))))))
  · exact Or.inr (Or.inr (Or.inr (Or.inr (Or.inr (Or.inr (Or.inr (Or.inl (hh 8 e))))))))
  · exact Or.inr (Or.inr (Or.inr (Or.inr (Or.inr (Or.inr (Or.inr (Or.inr e)))))))
end
/-- a command of six digits -/
noncomputable def grpA (B : Sta) (g : Int32) : Option Sta := cmdA B (g / 100000) (rmI (g / 10000) 10) (rmI (g / 100) 100) (rmI g 100)
set_option maxHeartbeats 4000000 in
set_option maxRecDepth 100000 in
theorem s1_X6_succeeds {me q c u hi sl tx ka pa fa la : Nat} {lc : Lt} {B : Sta} {g t p z : Int32} {r : Nat × Nat} (hob : ObC h me q c u hi sl tx) (hB : RepC h c lc B) (hA : AuT h u ka pa fa la) (nuc : u ≠ c) (hok : okT B 50) (hn6 : sN B ≤ 6) (k1 : ∀ B', cmdA B 1 t p z = some B' → ∀ h' lc', RepC h' c lc' B' → AuT h' u ka pa fa la → Fr (fun x => x = c ∨ x = u) h h' → Q (.inl (some (.int 1))) h') (k0 : cmdA B 1 t p z = none → Q (.inl (some (.int 0))) h) : WPx E mX6_succeeds 76 [some (.ref me), some (.int g), some (.int 1), some (.int t), some (.int p), some (.int z)] [] r h Q := by
  refine wp_aload_n (M := mX6_succeeds) (pc := 76) dX6_succeeds_76 rfl ?_
  refine wp_getR (M := mX6_succeeds) (pc := 77) fa_X6_16 rfl dX6_succeeds_77 (by first | exact hob.1.1 | exact hB.1.1.1 | exact hB.1.2.1.2.1 | exact (hB.1.2.2.2.1 i (by omega)).2.1.1 | fail "kd") (by first | exact hob.2.2.1 | exact hob.2.2.2.1 | exact hB.1.2.1.1 | exact (hB.1.2.2.2.1 i (by omega)).1 | fail "rx") ?_
  refine wp_iload_n (M := mX6_succeeds) (pc := 80) dX6_succeeds_80 rfl ?_
  refine wp_iconst (M := mX6_succeeds) (pc := 81) (v := 1) dX6_succeeds_81 ci_1 ?_
  refine wp_isub (M := mX6_succeeds) (pc := 82) dX6_succeeds_82 ?_
  refine wp_iload_n (M := mX6_succeeds) (pc := 83) dX6_succeeds_83 rfl ?_
  refine wp_iload (M := mX6_succeeds) (pc := 84) dX6_succeeds_84 rfl ?_
  refine wp_iload (M := mX6_succeeds) (pc := 86) dX6_succeeds_86 rfl ?_
  refine so_V4 (M := mX6_succeeds) (pc := 88) cs_X6_succeeds_299 rfl rfl (LE rfl) (LE rfl) dX6_succeeds_88 (by first | exact hob.1.1 | exact hB.1.1.1 | exact hB.1.2.1.2.1 | exact (hB.1.2.2.2.1 i (by omega)).2.1.1 | fail "kd") ?_
  refine sp_X4_tryPlace (kd := 0) hB (by decide) (fun j hj et hp hz hc h1 R1 F1 => ?_) (fun hn => ?_)
  · refine kI ?_
    refine wp_zreturn (M := mX6_succeeds) (pc := 91) rfl (by decide) dX6_succeeds_91 ?_
    refine k1 (placeA B 0 j p z) ?_ h1 lc R1 (hA.fr F1 nuc) (F1.mono (fun y e => Or.inl e))
    rw [cm_1, plO, cif_t ⟨j, hj, et, hp, hz, hc⟩, et, mis_n (by omega)]
  · refine kI ?_
    refine wp_zreturn (M := mX6_succeeds) (pc := 91) rfl (by decide) dX6_succeeds_91 ?_
    refine k0 ?_
    rw [cm_1, plO, cif_f hn]
set_option maxHeartbeats 4000000 in
set_option maxRecDepth 100000 in
theorem s2_X6_succeeds {me q c u hi sl tx ka pa fa la : Nat} {lc : Lt} {B : Sta} {g t p z : Int32} {r : Nat × Nat} (hob : ObC h me q c u hi sl tx) (hB : RepC h c lc B) (hA : AuT h u ka pa fa la) (nuc : u ≠ c) (hok : okT B 50) (hn6 : sN B ≤ 6) (k1 : ∀ B', cmdA B 2 t p z = some B' → ∀ h' lc', RepC h' c lc' B' → AuT h' u ka pa fa la → Fr (fun x => x = c ∨ x = u) h h' → Q (.inl (some (.int 1))) h') (k0 : cmdA B 2 t p z = none → Q (.inl (some (.int 0))) h) : WPx E mX6_succeeds 76 [some (.ref me), some (.int g), some (.int 2), some (.int t), some (.int p), some (.int z)] [] r h Q := by
  refine wp_aload_n (M := mX6_succeeds) (pc := 76) dX6_succeeds_76 rfl ?_
  refine wp_getR (M := mX6_succeeds) (pc := 77) fa_X6_16 rfl dX6_succeeds_77 (by first | exact hob.1.1 | exact hB.1.1.1 | exact hB.1.2.1.2.1 | exact (hB.1.2.2.2.1 i (by omega)).2.1.1 | fail "kd") (by first | exact hob.2.2.1 | exact hob.2.2.2.1 | exact hB.1.2.1.1 | exact (hB.1.2.2.2.1 i (by omega)).1 | fail "rx") ?_
  refine wp_iload_n (M := mX6_succeeds) (pc := 80) dX6_succeeds_80 rfl ?_
  refine wp_iconst (M := mX6_succeeds) (pc := 81) (v := 1) dX6_succeeds_81 ci_1 ?_
  refine wp_isub (M := mX6_succeeds) (pc := 82) dX6_succeeds_82 ?_
  refine wp_iload_n (M := mX6_succeeds) (pc := 83) dX6_succeeds_83 rfl ?_
  refine wp_iload (M := mX6_succeeds) (pc := 84) dX6_succeeds_84 rfl ?_
  refine wp_iload (M := mX6_succeeds) (pc := 86) dX6_succeeds_86 rfl ?_
  refine so_V4 (M := mX6_succeeds) (pc := 88) cs_X6_succeeds_299 rfl rfl (LE rfl) (LE rfl) dX6_succeeds_88 (by first | exact hob.1.1 | exact hB.1.1.1 | exact hB.1.2.1.2.1 | exact (hB.1.2.2.2.1 i (by omega)).2.1.1 | fail "kd") ?_
  refine sp_X4_tryPlace (kd := 1) hB (by decide) (fun j hj et hp hz hc h1 R1 F1 => ?_) (fun hn => ?_)
  · refine kI ?_
    refine wp_zreturn (M := mX6_succeeds) (pc := 91) rfl (by decide) dX6_succeeds_91 ?_
    refine k1 (placeA B 1 j p z) ?_ h1 lc R1 (hA.fr F1 nuc) (F1.mono (fun y e => Or.inl e))
    rw [cm_2, plO, cif_t ⟨j, hj, et, hp, hz, hc⟩, et, mis_n (by omega)]
  · refine kI ?_
    refine wp_zreturn (M := mX6_succeeds) (pc := 91) rfl (by decide) dX6_succeeds_91 ?_
    refine k0 ?_
    rw [cm_2, plO, cif_f hn]
set_option maxHeartbeats 4000000 in
set_option maxRecDepth 100000 in
theorem s3_X6_succeeds {me q c u hi sl tx ka pa fa la : Nat} {lc : Lt} {B : Sta} {g t p z : Int32} {r : Nat × Nat} (hob : ObC h me q c u hi sl tx) (hB : RepC h c lc B) (hA : AuT h u ka pa fa la) (nuc : u ≠ c) (hok : okT B 50) (hn6 : sN B ≤ 6) (k1 : ∀ B', cmdA B 3 t p z = some B' → ∀ h' lc', RepC h' c lc' B' → AuT h' u ka pa fa la → Fr (fun x => x = c ∨ x = u) h h' → Q (.inl (some (.int 1))) h') (k0 : cmdA B 3 t p z = none → Q (.inl (some (.int 0))) h) : WPx E mX6_succeeds 76 [some (.ref me), some (.int g), some (.int 3), some (.int t), some (.int p), some (.int z)] [] r h Q := by
  refine wp_aload_n (M := mX6_succeeds) (pc := 76) dX6_succeeds_76 rfl ?_
  refine wp_getR (M := mX6_succeeds) (pc := 77) fa_X6_16 rfl dX6_succeeds_77 (by first | exact hob.1.1 | exact hB.1.1.1 | exact hB.1.2.1.2.1 | exact (hB.1.2.2.2.1 i (by omega)).2.1.1 | fail "kd") (by first | exact hob.2.2.1 | exact hob.2.2.2.1 | exact hB.1.2.1.1 | exact (hB.1.2.2.2.1 i (by omega)).1 | fail "rx") ?_
  refine wp_iload_n (M := mX6_succeeds) (pc := 80) dX6_succeeds_80 rfl ?_
  refine wp_iconst (M := mX6_succeeds) (pc := 81) (v := 1) dX6_succeeds_81 ci_1 ?_
  refine wp_isub (M := mX6_succeeds) (pc := 82) dX6_succeeds_82 ?_
  refine wp_iload_n (M := mX6_succeeds) (pc := 83) dX6_succeeds_83 rfl ?_
  refine wp_iload (M := mX6_succeeds) (pc := 84) dX6_succeeds_84 rfl ?_
  refine wp_iload (M := mX6_succeeds) (pc := 86) dX6_succeeds_86 rfl ?_
  refine so_V4 (M := mX6_succeeds) (pc := 88) cs_X6_succeeds_299 rfl rfl (LE rfl) (LE rfl) dX6_succeeds_88 (by first | exact hob.1.1 | exact hB.1.1.1 | exact hB.1.2.1.2.1 | exact (hB.1.2.2.2.1 i (by omega)).2.1.1 | fail "kd") ?_
  refine sp_X4_tryPlace (kd := 2) hB (by decide) (fun j hj et hp hz hc h1 R1 F1 => ?_) (fun hn => ?_)
  · refine kI ?_
    refine wp_zreturn (M := mX6_succeeds) (pc := 91) rfl (by decide) dX6_succeeds_91 ?_
    refine k1 (placeA B 2 j p z) ?_ h1 lc R1 (hA.fr F1 nuc) (F1.mono (fun y e => Or.inl e))
    rw [cm_3, plO, cif_t ⟨j, hj, et, hp, hz, hc⟩, et, mis_n (by omega)]
  · refine kI ?_
    refine wp_zreturn (M := mX6_succeeds) (pc := 91) rfl (by decide) dX6_succeeds_91 ?_
    refine k0 ?_
    rw [cm_3, plO, cif_f hn]
set_option maxHeartbeats 4000000 in
set_option maxRecDepth 100000 in
theorem s4_X6_succeeds {me q c u hi sl tx ka pa fa la : Nat} {lc : Lt} {B : Sta} {g t p z : Int32} {r : Nat × Nat} (hob : ObC h me q c u hi sl tx) (hB : RepC h c lc B) (hA : AuT h u ka pa fa la) (nuc : u ≠ c) (hok : okT B 50) (hn6 : sN B ≤ 6) (k1 : ∀ B', cmdA B 4 t p z = some B' → ∀ h' lc', RepC h' c lc' B' → AuT h' u ka pa fa la → Fr (fun x => x = c ∨ x = u) h h' → Q (.inl (some (.int 1))) h') (k0 : cmdA B 4 t p z = none → Q (.inl (some (.int 0))) h) : WPx E mX6_succeeds 92 [some (.ref me), some (.int g), some (.int 4), some (.int t), some (.int p), some (.int z)] [] r h Q := by
  refine wp_iload_n (M := mX6_succeeds) (pc := 92) dX6_succeeds_92 rfl ?_
  refine wp_if_ne (M := mX6_succeeds) (pc := 93) (tgt := 112) dX6_succeeds_93 rfl (fun t93 => ?_) (fun f93 => ?_)
  · refine wp_iconst (M := mX6_succeeds) (pc := 112) (v := 0) dX6_succeeds_112 ci_0 ?_
    refine wp_zreturn (M := mX6_succeeds) (pc := 113) rfl (by decide) dX6_succeeds_113 ?_
    refine k0 ?_
    rw [cm_4, cif_f]
    intro e9
    first | exact t93 e9.1 | exact t98 e9.2.1 | exact b01_z f109 e9.2.2 | fail "leaf"
  · refine wp_iload (M := mX6_succeeds) (pc := 96) dX6_succeeds_96 rfl ?_
    refine wp_if_ne (M := mX6_succeeds) (pc := 98) (tgt := 112) dX6_succeeds_98 rfl (fun t98 => ?_) (fun f98 => ?_)
    · refine wp_iconst (M := mX6_succeeds) (pc := 112) (v := 0) dX6_succeeds_112 ci_0 ?_
      refine wp_zreturn (M := mX6_succeeds) (pc := 113) rfl (by decide) dX6_succeeds_113 ?_
      refine k0 ?_
      rw [cm_4, cif_f]
      intro e9
      first | exact t93 e9.1 | exact t98 e9.2.1 | exact b01_z f109 e9.2.2 | fail "leaf"
    · refine wp_iload (M := mX6_succeeds) (pc := 101) dX6_succeeds_101 rfl ?_
      refine wp_iconst (M := mX6_succeeds) (pc := 103) (v := 1) dX6_succeeds_103 ci_1 ?_
      refine wp_bipush (M := mX6_succeeds) (pc := 104) (v := 50) dX6_succeeds_104 cb_50 ?_
      refine so_S3 (M := mX6_succeeds) (pc := 106) cs_X6_succeeds_56 rfl rfl (LE rfl) (LE rfl) dX6_succeeds_106 ?_
      refine sp_X6_isWithin ?_
      refine kI ?_
      refine wp_if_ne (M := mX6_succeeds) (pc := 109) (tgt := 114) dX6_succeeds_109 rfl (fun t109 => ?_) (fun f109 => ?_)
      · refine wp_aload_n (M := mX6_succeeds) (pc := 114) dX6_succeeds_114 rfl ?_
        refine wp_getR (M := mX6_succeeds) (pc := 115) fa_X6_16 rfl dX6_succeeds_115 (by first | exact hob.1.1 | exact hB.1.1.1 | exact hB.1.2.1.2.1 | exact (hB.1.2.2.2.1 i (by omega)).2.1.1 | fail "kd") (by first | exact hob.2.2.1 | exact hob.2.2.2.1 | exact hB.1.2.1.1 | exact (hB.1.2.2.2.1 i (by omega)).1 | fail "rx") ?_
        refine wp_iload (M := mX6_succeeds) (pc := 118) dX6_succeeds_118 rfl ?_
        refine wp_aload_n (M := mX6_succeeds) (pc := 120) dX6_succeeds_120 rfl ?_
        refine wp_getR (M := mX6_succeeds) (pc := 121) fa_X6_22 rfl dX6_succeeds_121 (by first | exact hob.1.1 | exact hB.1.1.1 | exact hB.1.2.1.2.1 | exact (hB.1.2.2.2.1 i (by omega)).2.1.1 | fail "kd") (by first | exact hob.2.2.1 | exact hob.2.2.2.1 | exact hB.1.2.1.1 | exact (hB.1.2.2.2.1 i (by omega)).1 | fail "rx") ?_
        refine so_V2 (M := mX6_succeeds) (pc := 124) cs_X6_succeeds_170 rfl rfl (LE rfl) (LE rfl) dX6_succeeds_124 (by first | exact hob.1.1 | exact hB.1.1.1 | exact hB.1.2.1.2.1 | exact (hB.1.2.2.2.1 i (by omega)).2.1.1 | fail "kd") ?_
        obtain ⟨n, hn1, hn2, hn3⟩ := wth_1 (b := 50) (by decide) (b01_n t109)
        subst hn3
        refine sp_X4_advance hB hA nuc hok.1 (by omega) (by have := hok.2.1; omega) hok.2.2.1 (fun j hj => hok.2.2.2 j (by omega)) (fun h2 l2 e2 R2 A2 F2 => ?_)
        refine kI ?_
        refine wp_pop (M := mX6_succeeds) (pc := 127) dX6_succeeds_127 rfl ?_
        refine wp_iconst (M := mX6_succeeds) (pc := 128) (v := 1) dX6_succeeds_128 ci_1 ?_
        refine wp_zreturn (M := mX6_succeeds) (pc := 129) rfl (by decide) dX6_succeeds_129 ?_
        refine k1 (tks n B).1 ?_ h2 l2 R2 A2 F2
        rw [cm_4, cif_t ⟨f93, f98, b01_n t109⟩, mis_n (by omega)]
      · refine wp_iconst (M := mX6_succeeds) (pc := 112) (v := 0) dX6_succeeds_112 ci_0 ?_
        refine wp_zreturn (M := mX6_succeeds) (pc := 113) rfl (by decide) dX6_succeeds_113 ?_
        refine k0 ?_
        rw [cm_4, cif_f]
        intro e9
        first | exact t93 e9.1 | exact t98 e9.2.1 | exact b01_z f109 e9.2.2 | fail "leaf"
set_option maxHeartbeats 4000000 in
set_option maxRecDepth 100000 in
theorem s5_X6_succeeds {me q c u hi sl tx ka pa fa la : Nat} {lc : Lt} {B : Sta} {g t p z : Int32} {r : Nat × Nat} (hob : ObC h me q c u hi sl tx) (hB : RepC h c lc B) (hA : AuT h u ka pa fa la) (nuc : u ≠ c) (hok : okT B 50) (hn6 : sN B ≤ 6) (k1 : ∀ B', cmdA B 5 t p z = some B' → ∀ h' lc', RepC h' c lc' B' → AuT h' u ka pa fa la → Fr (fun x => x = c ∨ x = u) h h' → Q (.inl (some (.int 1))) h') (k0 : cmdA B 5 t p z = none → Q (.inl (some (.int 0))) h) : WPx E mX6_succeeds 130 [some (.ref me), some (.int g), some (.int 5), some (.int t), some (.int p), some (.int z)] [] r h Q := by
  refine wp_iload (M := mX6_succeeds) (pc := 130) dX6_succeeds_130 rfl ?_
  refine wp_if_ne (M := mX6_succeeds) (pc := 132) (tgt := 152) dX6_succeeds_132 rfl (fun t132 => ?_) (fun f132 => ?_)
  · refine wp_iconst (M := mX6_succeeds) (pc := 152) (v := 0) dX6_succeeds_152 ci_0 ?_
    refine wp_zreturn (M := mX6_succeeds) (pc := 153) rfl (by decide) dX6_succeeds_153 ?_
    refine k0 ?_
    rw [cm_5, cif_f t132]
  · refine wp_aload_n (M := mX6_succeeds) (pc := 135) dX6_succeeds_135 rfl ?_
    refine wp_getR (M := mX6_succeeds) (pc := 136) fa_X6_16 rfl dX6_succeeds_136 (by first | exact hob.1.1 | exact hB.1.1.1 | exact hB.1.2.1.2.1 | exact (hB.1.2.2.2.1 i (by omega)).2.1.1 | fail "kd") (by first | exact hob.2.2.1 | exact hob.2.2.2.1 | exact hB.1.2.1.1 | exact (hB.1.2.2.2.1 i (by omega)).1 | fail "rx") ?_
    refine wp_iload_n (M := mX6_succeeds) (pc := 139) dX6_succeeds_139 rfl ?_
    refine wp_iload (M := mX6_succeeds) (pc := 140) dX6_succeeds_140 rfl ?_
    refine so_V2 (M := mX6_succeeds) (pc := 142) cs_X6_succeeds_302 rfl rfl (LE rfl) (LE rfl) dX6_succeeds_142 (by first | exact hob.1.1 | exact hB.1.1.1 | exact hB.1.2.1.2.1 | exact (hB.1.2.2.2.1 i (by omega)).2.1.1 | fail "kd") ?_
    refine sp_X4_tryQueue hB (fun j hj et hz h8 h1 R1 F1 => ?_) (fun hn => ?_)
    · refine kI ?_
      refine wp_if_eq (M := mX6_succeeds) (pc := 145) (tgt := 152) dX6_succeeds_145 rfl (fun e => absurd e (by decide)) (fun _ => ?_)
      refine wp_iconst (M := mX6_succeeds) (pc := 148) (v := 1) dX6_succeeds_148 ci_1 ?_
      refine wp_goto (M := mX6_succeeds) (pc := 149) (tgt := 153) dX6_succeeds_149 rfl ?_
      refine wp_zreturn (M := mX6_succeeds) (pc := 153) rfl (by decide) dX6_succeeds_153 ?_
      refine k1 (pushA B j z) ?_ h1 lc R1 (hA.fr F1 nuc) (F1.mono (fun y e => Or.inl e))
      rw [cm_5, cif_t f132, quO, cif_t ⟨j, hj, et, hz, h8⟩, et, mis_n (by omega)]
    · refine kI ?_
      refine wp_if_eq (M := mX6_succeeds) (pc := 145) (tgt := 152) dX6_succeeds_145 rfl (fun _ => ?_) (fun e => absurd rfl e)
      refine wp_iconst (M := mX6_succeeds) (pc := 152) (v := 0) dX6_succeeds_152 ci_0 ?_
      refine wp_zreturn (M := mX6_succeeds) (pc := 153) rfl (by decide) dX6_succeeds_153 ?_
      refine k0 ?_
      rw [cm_5, cif_t f132, quO, cif_f hn]
set_option maxHeartbeats 4000000 in
set_option maxRecDepth 100000 in
theorem s6_X6_succeeds {me q c u hi sl tx ka pa fa la : Nat} {lc : Lt} {B : Sta} {g t p z : Int32} {r : Nat × Nat} (hob : ObC h me q c u hi sl tx) (hB : RepC h c lc B) (hA : AuT h u ka pa fa la) (nuc : u ≠ c) (hok : okT B 50) (hn6 : sN B ≤ 6) (k1 : ∀ B', cmdA B 6 t p z = some B' → ∀ h' lc', RepC h' c lc' B' → AuT h' u ka pa fa la → Fr (fun x => x = c ∨ x = u) h h' → Q (.inl (some (.int 1))) h') (k0 : cmdA B 6 t p z = none → Q (.inl (some (.int 0))) h) : WPx E mX6_succeeds 154 [some (.ref me), some (.int g), some (.int 6), some (.int t), some (.int p), some (.int z)] [] r h Q := by
  refine wp_aload_n (M := mX6_succeeds) (pc := 154) dX6_succeeds_154 rfl ?_
  refine wp_getR (M := mX6_succeeds) (pc := 155) fa_X6_16 rfl dX6_succeeds_155 (by first | exact hob.1.1 | exact hB.1.1.1 | exact hB.1.2.1.2.1 | exact (hB.1.2.2.2.1 i (by omega)).2.1.1 | fail "kd") (by first | exact hob.2.2.1 | exact hob.2.2.2.1 | exact hB.1.2.1.1 | exact (hB.1.2.2.2.1 i (by omega)).1 | fail "rx") ?_
  refine wp_iload_n (M := mX6_succeeds) (pc := 158) dX6_succeeds_158 rfl ?_
  refine so_V1 (M := mX6_succeeds) (pc := 159) cs_X6_succeeds_97 rfl rfl (LE rfl) (LE rfl) dX6_succeeds_159 (by first | exact hob.1.1 | exact hB.1.1.1 | exact hB.1.2.1.2.1 | exact (hB.1.2.2.2.1 i (by omega)).2.1.1 | fail "kd") ?_
  refine sb_hasTenant hB ?_
  refine kI ?_
  refine wp_if_eq (M := mX6_succeeds) (pc := 162) (tgt := 192) dX6_succeeds_162 rfl (fun t162 => ?_) (fun f162 => ?_)
  · refine wp_iconst (M := mX6_succeeds) (pc := 192) (v := 0) dX6_succeeds_192 ci_0 ?_
    refine wp_zreturn (M := mX6_succeeds) (pc := 193) rfl (by decide) dX6_succeeds_193 ?_
    refine k0 ?_
    rw [cm_6, cif_f (fun e => b01_z t162 ⟨e.choose, e.choose_spec.1, e.choose_spec.2.1⟩)]
  · obtain ⟨i, hi9, rfl⟩ := b01_n f162
    refine wp_aload_n (M := mX6_succeeds) (pc := 165) dX6_succeeds_165 rfl ?_
    refine wp_getR (M := mX6_succeeds) (pc := 166) fa_X6_16 rfl dX6_succeeds_166 (by first | exact hob.1.1 | exact hB.1.1.1 | exact hB.1.2.1.2.1 | exact (hB.1.2.2.2.1 i (by omega)).2.1.1 | fail "kd") (by first | exact hob.2.2.1 | exact hob.2.2.2.1 | exact hB.1.2.1.1 | exact (hB.1.2.2.2.1 i (by omega)).1 | fail "rx") ?_
    refine wp_getR (M := mX6_succeeds) (pc := 169) fa_X6_111 rfl dX6_succeeds_169 (by first | exact hob.1.1 | exact hB.1.1.1 | exact hB.1.2.1.2.1 | exact (hB.1.2.2.2.1 i (by omega)).2.1.1 | fail "kd") (by first | exact hob.2.2.1 | exact hob.2.2.2.1 | exact hB.1.2.1.1 | exact (hB.1.2.2.2.1 i (by omega)).1 | fail "rx") ?_
    refine wp_iload_n (M := mX6_succeeds) (pc := 172) dX6_succeeds_172 rfl ?_
    refine wr_aaload (M := mX6_succeeds) (pc := 173) dX6_succeeds_173 (by first | exact hob.1.1 | exact hB.1.1.1 | exact hB.1.2.1.2.1 | exact (hB.1.2.2.2.1 i (by omega)).2.1.1 | fail "kd") (by decide) rfl (by omega) (by decide) (by first | exact hob.2.2.1 | exact hob.2.2.2.1 | exact hB.1.2.1.1 | exact (hB.1.2.2.2.1 i (by omega)).1 | fail "rx") ?_
    refine wp_getI (M := mX6_succeeds) (pc := 174) fa_X6_166 rfl dX6_succeeds_174 (by first | exact hob.1.1 | exact hB.1.1.1 | exact hB.1.2.1.2.1 | exact (hB.1.2.2.2.1 i (by omega)).2.1.1 | fail "kd") ?_
    refine wp_bipush (M := mX6_succeeds) (pc := 177) (v := 100) dX6_succeeds_177 cb_100 ?_
    refine wp_iload (M := mX6_succeeds) (pc := 179) dX6_succeeds_179 rfl ?_
    refine wp_imul (M := mX6_succeeds) (pc := 181) dX6_succeeds_181 ?_
    refine wp_iload (M := mX6_succeeds) (pc := 182) dX6_succeeds_182 rfl ?_
    refine wp_iadd (M := mX6_succeeds) (pc := 184) dX6_succeeds_184 ?_
    refine wp_icmp_lt (M := mX6_succeeds) (pc := 185) (tgt := 192) dX6_succeeds_185 rfl (fun t185 => ?_) (fun f185 => ?_)
    · rw [(hB.2.2.1 i hi9).1 4 (by decide)] at t185
      have hno : ¬ ∃ i2, i2 < sN B ∧ nI i = nI i2 ∧ 100 * p + z ≤ fT B i2 4 := fun ⟨i2, h1, h2, h3⟩ => by
        rw [← (i_eq (by omega) (by omega)).mp h2] at h3
        exact Int32.not_le.mpr t185 h3
      refine wp_iconst (M := mX6_succeeds) (pc := 192) (v := 0) dX6_succeeds_192 ci_0 ?_
      refine wp_zreturn (M := mX6_succeeds) (pc := 193) rfl (by decide) dX6_succeeds_193 ?_
      first
      | (refine k0 ?_
         rw [cm_6, cif_f hno])
      | (refine k1 B ?_ h lc hB hA Fr.rf
         rw [cm_6, cif_t ⟨i, hi9, rfl, Int32.not_lt.mp f185⟩])
      | fail "leaf"
    · rw [(hB.2.2.1 i hi9).1 4 (by decide)] at f185
      refine wp_iconst (M := mX6_succeeds) (pc := 188) (v := 1) dX6_succeeds_188 ci_1 ?_
      refine wp_goto (M := mX6_succeeds) (pc := 189) (tgt := 193) dX6_succeeds_189 rfl ?_
      refine wp_zreturn (M := mX6_succeeds) (pc := 193) rfl (by decide) dX6_succeeds_193 ?_
      first
      | (refine k0 ?_
         rw [cm_6, cif_f hno])
      | (refine k1 B ?_ h lc hB hA Fr.rf
         rw [cm_6, cif_t ⟨i, hi9, rfl, Int32.not_lt.mp f185⟩])
      | fail "leaf"
set_option maxHeartbeats 4000000 in
set_option maxRecDepth 100000 in
theorem s7_X6_succeeds {me q c u hi sl tx ka pa fa la : Nat} {lc : Lt} {B : Sta} {g t p z : Int32} {r : Nat × Nat} (hob : ObC h me q c u hi sl tx) (hB : RepC h c lc B) (hA : AuT h u ka pa fa la) (nuc : u ≠ c) (hok : okT B 50) (hn6 : sN B ≤ 6) (k1 : ∀ B', cmdA B 7 t p z = some B' → ∀ h' lc', RepC h' c lc' B' → AuT h' u ka pa fa la → Fr (fun x => x = c ∨ x = u) h h' → Q (.inl (some (.int 1))) h') (k0 : cmdA B 7 t p z = none → Q (.inl (some (.int 0))) h) : WPx E mX6_succeeds 194 [some (.ref me), some (.int g), some (.int 7), some (.int t), some (.int p), some (.int z)] [] r h Q := by
  refine wp_aload_n (M := mX6_succeeds) (pc := 194) dX6_succeeds_194 rfl ?_
  refine wp_getR (M := mX6_succeeds) (pc := 195) fa_X6_16 rfl dX6_succeeds_195 (by first | exact hob.1.1 | exact hB.1.1.1 | exact hB.1.2.1.2.1 | exact (hB.1.2.2.2.1 i (by omega)).2.1.1 | fail "kd") (by first | exact hob.2.2.1 | exact hob.2.2.2.1 | exact hB.1.2.1.1 | exact (hB.1.2.2.2.1 i (by omega)).1 | fail "rx") ?_
  refine wp_iload_n (M := mX6_succeeds) (pc := 198) dX6_succeeds_198 rfl ?_
  refine so_V1 (M := mX6_succeeds) (pc := 199) cs_X6_succeeds_97 rfl rfl (LE rfl) (LE rfl) dX6_succeeds_199 (by first | exact hob.1.1 | exact hB.1.1.1 | exact hB.1.2.1.2.1 | exact (hB.1.2.2.2.1 i (by omega)).2.1.1 | fail "kd") ?_
  refine sb_hasTenant hB ?_
  refine kI ?_
  refine wp_if_eq (M := mX6_succeeds) (pc := 202) (tgt := 232) dX6_succeeds_202 rfl (fun t202 => ?_) (fun f202 => ?_)
  · refine wp_iconst (M := mX6_succeeds) (pc := 232) (v := 0) dX6_succeeds_232 ci_0 ?_
    refine wp_zreturn (M := mX6_succeeds) (pc := 233) rfl (by decide) dX6_succeeds_233 ?_
    refine k0 ?_
    rw [cm_7, cif_f (fun e => b01_z t202 ⟨e.choose, e.choose_spec.1, e.choose_spec.2.1⟩)]
  · obtain ⟨i, hi9, rfl⟩ := b01_n f202
    refine wp_aload_n (M := mX6_succeeds) (pc := 205) dX6_succeeds_205 rfl ?_
    refine wp_getR (M := mX6_succeeds) (pc := 206) fa_X6_16 rfl dX6_succeeds_206 (by first | exact hob.1.1 | exact hB.1.1.1 | exact hB.1.2.1.2.1 | exact (hB.1.2.2.2.1 i (by omega)).2.1.1 | fail "kd") (by first | exact hob.2.2.1 | exact hob.2.2.2.1 | exact hB.1.2.1.1 | exact (hB.1.2.2.2.1 i (by omega)).1 | fail "rx") ?_
    refine wp_getR (M := mX6_succeeds) (pc := 209) fa_X6_111 rfl dX6_succeeds_209 (by first | exact hob.1.1 | exact hB.1.1.1 | exact hB.1.2.1.2.1 | exact (hB.1.2.2.2.1 i (by omega)).2.1.1 | fail "kd") (by first | exact hob.2.2.1 | exact hob.2.2.2.1 | exact hB.1.2.1.1 | exact (hB.1.2.2.2.1 i (by omega)).1 | fail "rx") ?_
    refine wp_iload_n (M := mX6_succeeds) (pc := 212) dX6_succeeds_212 rfl ?_
    refine wr_aaload (M := mX6_succeeds) (pc := 213) dX6_succeeds_213 (by first | exact hob.1.1 | exact hB.1.1.1 | exact hB.1.2.1.2.1 | exact (hB.1.2.2.2.1 i (by omega)).2.1.1 | fail "kd") (by decide) rfl (by omega) (by decide) (by first | exact hob.2.2.1 | exact hob.2.2.2.1 | exact hB.1.2.1.1 | exact (hB.1.2.2.2.1 i (by omega)).1 | fail "rx") ?_
    refine so_V0 (M := mX6_succeeds) (pc := 214) cs_X6_succeeds_306 rfl rfl (LE rfl) (LE rfl) dX6_succeeds_214 (by first | exact hob.1.1 | exact hB.1.1.1 | exact hB.1.2.1.2.1 | exact (hB.1.2.2.2.1 i (by omega)).2.1.1 | fail "kd") ?_
    refine sp_X5_credits (hB.1.2.2.2.1 i (by omega)).2.1.1 ?_
    refine kI ?_
    refine wp_bipush (M := mX6_succeeds) (pc := 217) (v := 100) dX6_succeeds_217 cb_100 ?_
    refine wp_iload (M := mX6_succeeds) (pc := 219) dX6_succeeds_219 rfl ?_
    refine wp_imul (M := mX6_succeeds) (pc := 221) dX6_succeeds_221 ?_
    refine wp_iload (M := mX6_succeeds) (pc := 222) dX6_succeeds_222 rfl ?_
    refine wp_iadd (M := mX6_succeeds) (pc := 224) dX6_succeeds_224 ?_
    refine wp_icmp_lt (M := mX6_succeeds) (pc := 225) (tgt := 232) dX6_succeeds_225 rfl (fun t225 => ?_) (fun f225 => ?_)
    · rw [(hB.2.2.1 i hi9).1 2 (by decide), (hB.2.2.1 i hi9).1 3 (by decide)] at t225
      have hno : ¬ ∃ i2, i2 < sN B ∧ nI i = nI i2 ∧ 100 * p + z ≤ fT B i2 2 + fT B i2 3 := fun ⟨i2, h1, h2, h3⟩ => by
        rw [← (i_eq (by omega) (by omega)).mp h2] at h3
        exact Int32.not_le.mpr t225 h3
      refine wp_iconst (M := mX6_succeeds) (pc := 232) (v := 0) dX6_succeeds_232 ci_0 ?_
      refine wp_zreturn (M := mX6_succeeds) (pc := 233) rfl (by decide) dX6_succeeds_233 ?_
      first
      | (refine k0 ?_
         rw [cm_7, cif_f hno])
      | (refine k1 B ?_ h lc hB hA Fr.rf
         rw [cm_7, cif_t ⟨i, hi9, rfl, Int32.not_lt.mp f225⟩])
      | fail "leaf"
    · rw [(hB.2.2.1 i hi9).1 2 (by decide), (hB.2.2.1 i hi9).1 3 (by decide)] at f225
      refine wp_iconst (M := mX6_succeeds) (pc := 228) (v := 1) dX6_succeeds_228 ci_1 ?_
      refine wp_goto (M := mX6_succeeds) (pc := 229) (tgt := 233) dX6_succeeds_229 rfl ?_
      refine wp_zreturn (M := mX6_succeeds) (pc := 233) rfl (by decide) dX6_succeeds_233 ?_
      first
      | (refine k0 ?_
         rw [cm_7, cif_f hno])
      | (refine k1 B ?_ h lc hB hA Fr.rf
         rw [cm_7, cif_t ⟨i, hi9, rfl, Int32.not_lt.mp f225⟩])
      | fail "leaf"
set_option maxHeartbeats 4000000 in
set_option maxRecDepth 100000 in
theorem s8_X6_succeeds {me q c u hi sl tx ka pa fa la : Nat} {lc : Lt} {B : Sta} {g t p z : Int32} {r : Nat × Nat} (hob : ObC h me q c u hi sl tx) (hB : RepC h c lc B) (hA : AuT h u ka pa fa la) (nuc : u ≠ c) (hok : okT B 50) (hn6 : sN B ≤ 6) (k1 : ∀ B', cmdA B 8 t p z = some B' → ∀ h' lc', RepC h' c lc' B' → AuT h' u ka pa fa la → Fr (fun x => x = c ∨ x = u) h h' → Q (.inl (some (.int 1))) h') (k0 : cmdA B 8 t p z = none → Q (.inl (some (.int 0))) h) : WPx E mX6_succeeds 234 [some (.ref me), some (.int g), some (.int 8), some (.int t), some (.int p), some (.int z)] [] r h Q := by
  refine wp_iload_n (M := mX6_succeeds) (pc := 234) dX6_succeeds_234 rfl ?_
  refine wp_if_ne (M := mX6_succeeds) (pc := 235) (tgt := 259) dX6_succeeds_235 rfl (fun t235 => ?_) (fun f235 => ?_)
  · refine wp_iconst (M := mX6_succeeds) (pc := 259) (v := 0) dX6_succeeds_259 ci_0 ?_
    refine wp_zreturn (M := mX6_succeeds) (pc := 260) rfl (by decide) dX6_succeeds_260 ?_
    first
    | (refine k0 ?_
       rw [cm_8, cif_f (fun e => t235 e.1)])
    | (refine k0 ?_
       rw [cm_8, cif_f (fun e => t240 e.2.1)])
    | (refine k0 ?_
       rw [cm_8, cif_f (fun e => t252 e.2.2)])
    | (refine k1 B ?_ h lc hB hA Fr.rf
       rw [cm_8, cif_t ⟨f235, f240, f252⟩])
    | fail "leaf"
  · refine wp_iload (M := mX6_succeeds) (pc := 238) dX6_succeeds_238 rfl ?_
    refine wp_if_ne (M := mX6_succeeds) (pc := 240) (tgt := 259) dX6_succeeds_240 rfl (fun t240 => ?_) (fun f240 => ?_)
    · refine wp_iconst (M := mX6_succeeds) (pc := 259) (v := 0) dX6_succeeds_259 ci_0 ?_
      refine wp_zreturn (M := mX6_succeeds) (pc := 260) rfl (by decide) dX6_succeeds_260 ?_
      first
      | (refine k0 ?_
         rw [cm_8, cif_f (fun e => t235 e.1)])
      | (refine k0 ?_
         rw [cm_8, cif_f (fun e => t240 e.2.1)])
      | (refine k0 ?_
         rw [cm_8, cif_f (fun e => t252 e.2.2)])
      | (refine k1 B ?_ h lc hB hA Fr.rf
         rw [cm_8, cif_t ⟨f235, f240, f252⟩])
      | fail "leaf"
    · refine wp_aload_n (M := mX6_succeeds) (pc := 243) dX6_succeeds_243 rfl ?_
      refine wp_getR (M := mX6_succeeds) (pc := 244) fa_X6_16 rfl dX6_succeeds_244 (by first | exact hob.1.1 | exact hB.1.1.1 | exact hB.1.2.1.2.1 | exact (hB.1.2.2.2.1 i (by omega)).2.1.1 | fail "kd") (by first | exact hob.2.2.1 | exact hob.2.2.2.1 | exact hB.1.2.1.1 | exact (hB.1.2.2.2.1 i (by omega)).1 | fail "rx") ?_
      refine wp_getI (M := mX6_succeeds) (pc := 247) fa_X6_309 rfl dX6_succeeds_247 (by first | exact hob.1.1 | exact hB.1.1.1 | exact hB.1.2.1.2.1 | exact (hB.1.2.2.2.1 i (by omega)).2.1.1 | fail "kd") ?_
      refine wp_iload (M := mX6_succeeds) (pc := 250) dX6_succeeds_250 rfl ?_
      refine wp_icmp_ne (M := mX6_succeeds) (pc := 252) (tgt := 259) dX6_succeeds_252 rfl (fun t252 => ?_) (fun f252 => ?_)
      · rw [hB.2.1.2.2.2.2.2.2.2.2.1] at t252
        refine wp_iconst (M := mX6_succeeds) (pc := 259) (v := 0) dX6_succeeds_259 ci_0 ?_
        refine wp_zreturn (M := mX6_succeeds) (pc := 260) rfl (by decide) dX6_succeeds_260 ?_
        first
        | (refine k0 ?_
           rw [cm_8, cif_f (fun e => t235 e.1)])
        | (refine k0 ?_
           rw [cm_8, cif_f (fun e => t240 e.2.1)])
        | (refine k0 ?_
           rw [cm_8, cif_f (fun e => t252 e.2.2)])
        | (refine k1 B ?_ h lc hB hA Fr.rf
           rw [cm_8, cif_t ⟨f235, f240, f252⟩])
        | fail "leaf"
      · rw [hB.2.1.2.2.2.2.2.2.2.2.1] at f252
        refine wp_iconst (M := mX6_succeeds) (pc := 255) (v := 1) dX6_succeeds_255 ci_1 ?_
        refine wp_goto (M := mX6_succeeds) (pc := 256) (tgt := 260) dX6_succeeds_256 rfl ?_
        refine wp_zreturn (M := mX6_succeeds) (pc := 260) rfl (by decide) dX6_succeeds_260 ?_
        first
        | (refine k0 ?_
           rw [cm_8, cif_f (fun e => t235 e.1)])
        | (refine k0 ?_
           rw [cm_8, cif_f (fun e => t240 e.2.1)])
        | (refine k0 ?_
           rw [cm_8, cif_f (fun e => t252 e.2.2)])
        | (refine k1 B ?_ h lc hB hA Fr.rf
           rw [cm_8, cif_t ⟨f235, f240, f252⟩])
        | fail "leaf"
set_option maxHeartbeats 4000000 in
set_option maxRecDepth 100000 in
theorem sp_X6_succeeds {me q c u hi sl tx ka pa fa la : Nat} {lc : Lt} {B : Sta} {g : Int32} (hob : ObC h me q c u hi sl tx) (hB : RepC h c lc B) (hA : AuT h u ka pa fa la) (nuc : u ≠ c) (hok : okT B 50) (hn6 : sN B ≤ 6) (k1 : ∀ B', grpA B g = some B' → ∀ h' lc', RepC h' c lc' B' → AuT h' u ka pa fa la → Fr (fun x => x = c ∨ x = u) h h' → Q (.inl (some (.int 1))) h') (k0 : grpA B g = none → Q (.inl (some (.int 0))) h) : WPx E mX6_succeeds 0 [some (.ref me), some (.int g), none, none, none, none] [] (0, 0) h Q := by
  refine wp_iload_n (M := mX6_succeeds) (pc := 0) dX6_succeeds_0 rfl ?_
  refine wp_ldc_w (M := mX6_succeeds) (pc := 1) wv_X6_298 dX6_succeeds_1 ?_
  refine wp_idiv (M := mX6_succeeds) (pc := 4) dX6_succeeds_4 (by decide) ?_
  refine so_istore_n (M := mX6_succeeds) (pc := 5) (lo' := [_, _, _, _, _, _]) dX6_succeeds_5 (LE rfl) (LE rfl) (Or.inr rfl) rfl ?_
  refine wp_iload_n (M := mX6_succeeds) (pc := 6) dX6_succeeds_6 rfl ?_
  refine wp_sipush (M := mX6_succeeds) (pc := 7) (v := 10000) dX6_succeeds_7 ch_10000 ?_
  refine wp_idiv (M := mX6_succeeds) (pc := 10) dX6_succeeds_10 (by decide) ?_
  refine wp_bipush (M := mX6_succeeds) (pc := 11) (v := 10) dX6_succeeds_11 cb_10 ?_
  refine wp_irem (M := mX6_succeeds) (pc := 13) dX6_succeeds_13 (by decide) ?_
  refine so_istore_n (M := mX6_succeeds) (pc := 14) (lo' := [_, _, _, _, _, _]) dX6_succeeds_14 (LE rfl) (LE rfl) (Or.inr rfl) rfl ?_
  refine wp_iload_n (M := mX6_succeeds) (pc := 15) dX6_succeeds_15 rfl ?_
  refine wp_bipush (M := mX6_succeeds) (pc := 16) (v := 100) dX6_succeeds_16 cb_100 ?_
  refine wp_idiv (M := mX6_succeeds) (pc := 18) dX6_succeeds_18 (by decide) ?_
  refine wp_bipush (M := mX6_succeeds) (pc := 19) (v := 100) dX6_succeeds_19 cb_100 ?_
  refine wp_irem (M := mX6_succeeds) (pc := 21) dX6_succeeds_21 (by decide) ?_
  refine so_istore (M := mX6_succeeds) (pc := 22) (lo' := [_, _, _, _, _, _]) dX6_succeeds_22 (LE rfl) (LE rfl) (Or.inr rfl) rfl ?_
  refine wp_iload_n (M := mX6_succeeds) (pc := 24) dX6_succeeds_24 rfl ?_
  refine wp_bipush (M := mX6_succeeds) (pc := 25) (v := 100) dX6_succeeds_25 cb_100 ?_
  refine wp_irem (M := mX6_succeeds) (pc := 27) dX6_succeeds_27 (by decide) ?_
  refine so_istore (M := mX6_succeeds) (pc := 28) (lo' := [_, _, _, _, _, _]) dX6_succeeds_28 (LE rfl) (LE rfl) (Or.inr rfl) rfl ?_
  refine wp_iload_n (M := mX6_succeeds) (pc := 30) dX6_succeeds_30 rfl ?_
  unfold grpA rmI at k1 k0
  generalize g / 10000 - g / 10000 / 10 * 10 = t at k1 k0 ⊢
  generalize g / 100 - g / 100 / 100 * 100 = p at k1 k0 ⊢
  generalize g - g / 100 * 100 = z at k1 k0 ⊢
  generalize g / 100000 = cm at k1 k0 ⊢
  rcases sw18 cm with rfl | rfl | rfl | rfl | rfl | rfl | rfl | rfl | hx
  · refine wp_tableIn (M := mX6_succeeds) (pc := 31) (x := 1) (tgt := 76) dX6_succeeds_31 (by decide) (by decide) rfl rfl ?_
    exact s1_X6_succeeds hob hB hA nuc hok hn6 k1 k0
  · refine wp_tableIn (M := mX6_succeeds) (pc := 31) (x := 2) (tgt := 76) dX6_succeeds_31 (by decide) (by decide) rfl rfl ?_
    exact s2_X6_succeeds hob hB hA nuc hok hn6 k1 k0
  · refine wp_tableIn (M := mX6_succeeds) (pc := 31) (x := 3) (tgt := 76) dX6_succeeds_31 (by decide) (by decide) rfl rfl ?_
    exact s3_X6_succeeds hob hB hA nuc hok hn6 k1 k0
  · refine wp_tableIn (M := mX6_succeeds) (pc := 31) (x := 4) (tgt := 92) dX6_succeeds_31 (by decide) (by decide) rfl rfl ?_
    exact s4_X6_succeeds hob hB hA nuc hok hn6 k1 k0
  · refine wp_tableIn (M := mX6_succeeds) (pc := 31) (x := 5) (tgt := 130) dX6_succeeds_31 (by decide) (by decide) rfl rfl ?_
    exact s5_X6_succeeds hob hB hA nuc hok hn6 k1 k0
  · refine wp_tableIn (M := mX6_succeeds) (pc := 31) (x := 6) (tgt := 154) dX6_succeeds_31 (by decide) (by decide) rfl rfl ?_
    exact s6_X6_succeeds hob hB hA nuc hok hn6 k1 k0
  · refine wp_tableIn (M := mX6_succeeds) (pc := 31) (x := 7) (tgt := 194) dX6_succeeds_31 (by decide) (by decide) rfl rfl ?_
    exact s7_X6_succeeds hob hB hA nuc hok hn6 k1 k0
  · refine wp_tableIn (M := mX6_succeeds) (pc := 31) (x := 8) (tgt := 234) dX6_succeeds_31 (by decide) (by decide) rfl rfl ?_
    exact s8_X6_succeeds hob hB hA nuc hok hn6 k1 k0
  · refine wp_tableOut (M := mX6_succeeds) (pc := 31) (x := cm) (tgt := 261) dX6_succeeds_31 hx rfl ?_
    refine wp_iconst (M := mX6_succeeds) (pc := 261) (v := 0) dX6_succeeds_261 ci_0 ?_
    refine wp_zreturn (M := mX6_succeeds) (pc := 262) rfl (by decide) dX6_succeeds_262 ?_
    exact k0 (cm_9 hx)
end SP
section SP
variable {E : Ev} {h : PH} {Q : Rt → PH → Prop}
/-- the k-th group of a script of n groups -/
def grpI (n : Nat) (s : Int64) (k : Nat) : Int32 := (s / unitG (n - 1 - k) - s / unitG (n - 1 - k) / 1000000 * 1000000).toInt32
noncomputable def rsA (n : Nat) (s : Int64) : Nat → Nat → Sta → Int32
  | 0, _, _ => -9
  | f + 1, k, B => match grpA B (grpI n s k) with
    | none => nI k
    | some B' => rsA n s f (k + 1) B'
theorem rsA_n {n f k : Nat} {s : Int64} {B : Sta} (h : grpA B (grpI n s k) = none) : rsA n s (f + 1) k B = nI k := by rw [rsA, h]
theorem rsA_y {n f k : Nat} {s : Int64} {B B' : Sta} (h : grpA B (grpI n s k) = some B') : rsA n s (f + 1) k B = rsA n s f (k + 1) B' := by rw [rsA, h]
theorem unitG_nz : ∀ k, k < 4 → ¬ unitG k = 0 := by decide
/-- what a command leaves is as good, for 50 ticks less -/
theorem OkP.grp {P : Nat → Sta → Prop} (hP : OkP P) {k : Nat} {B B' : Sta} {cm t p z : Int32} (hk : 50 ≤ k) (hB : P k B) (hn : sN B ≤ 6) (h : cmdA B cm t p z = some B') : ∃ k', k - 50 ≤ k' ∧ P k' B' := by
  have hpl : ∀ kd, kd < 3 → plO B kd t p z = some B' → P (k - 1) B' := fun kd hkd e => by
    by_cases hm : mayP B kd t p z
    · rw [plO, cif_t hm] at e
      obtain ⟨j, hj, et, hp, hz, hc⟩ := hm
      rw [et, mis_n (by omega)] at e
      cases e
      exact hP.2.1 (k - 1) B kd j p z (by rw [show k - 1 + 1 = k by omega]; exact hB) hkd hj hp hz hc
    · rw [plO, cif_f hm] at e; cases e
  rcases sw18 cm with rfl | rfl | rfl | rfl | rfl | rfl | rfl | rfl | hx
  · rw [cm_1] at h; exact ⟨k - 1, by omega, hpl 0 (by decide) h⟩
  · rw [cm_2] at h; exact ⟨k - 1, by omega, hpl 1 (by decide) h⟩
  · rw [cm_3] at h; exact ⟨k - 1, by omega, hpl 2 (by decide) h⟩
  · rw [cm_4] at h
    by_cases hm : t = 0 ∧ p = 0 ∧ wth z 1 50
    · rw [cif_t hm] at h
      cases h
      obtain ⟨n, hn1, hn2, rfl⟩ := wth_1 (b := 50) (by decide) hm.2.2
      rw [mis_n (by omega)]
      exact ⟨k - n, by omega, (hP.1 k B n hB (by omega)).2⟩
    · rw [cif_f hm] at h; cases h
  · rw [cm_5] at h
    by_cases hm : p = 0
    · rw [cif_t hm] at h
      by_cases hq : mayQ B t z
      · rw [quO, cif_t hq] at h
        obtain ⟨j, hj, et, hz, h8⟩ := hq
        rw [et, mis_n (by omega)] at h
        cases h
        exact ⟨k - 1, by omega, hP.2.2.1 (k - 1) B j z (by rw [show k - 1 + 1 = k by omega]; exact hB) hj hz h8⟩
      · rw [quO, cif_f hq] at h; cases h
    · rw [cif_f hm] at h; cases h
  · rw [cm_6] at h
    by_cases hm : ∃ i, i < sN B ∧ t = nI i ∧ 100 * p + z ≤ fT B i 4
    · rw [cif_t hm] at h; cases h; exact ⟨k, by omega, hB⟩
    · rw [cif_f hm] at h; cases h
  · rw [cm_7] at h
    by_cases hm : ∃ i, i < sN B ∧ t = nI i ∧ 100 * p + z ≤ fT B i 2 + fT B i 3
    · rw [cif_t hm] at h; cases h; exact ⟨k, by omega, hB⟩
    · rw [cif_f hm] at h; cases h
  · rw [cm_8] at h
    by_cases hm : t = 0 ∧ p = 0 ∧ sG B 7 = z
    · rw [cif_t hm] at h; cases h; exact ⟨k, by omega, hB⟩
    · rw [cif_f hm] at h; cases h
  · rw [cm_9 hx] at h; cases h
set_option maxHeartbeats 4000000 in
set_option maxRecDepth 100000 in
theorem lp_X6_runScript {me q c u hi sl tx ka pa fa la hsa txa x : Nat} {l : Lt} {cs ss : Nat → Option (Nat × Lt)} {X : Abs} {n : Nat} {s : Int64} {P : Nat → Sta → Prop} {h0 : PH} (hP : OkP P) (hn3 : n ≤ 3) (k : ∀ h', WC h' me X → Of h0 h' → Q (.inl (some (.int (rsA n s n 0 (xA X))))) h') : ∀ (m : Nat) (i : Nat) (h : PH) (lc : Lt) (B : Sta) (x5 : Option Value) (r : Nat × Nat), n - i < m → (i ≤ n) → (WP h me q c u hi sl tx ka pa fa la hsa txa x l lc cs ss X) → (Of h0 h) → (RepC h c lc B) → (∃ kk, 50 * (3 - i) ≤ kk ∧ P kk B) → (rsA n s n 0 (xA X) = rsA n s (n - i) i B) → WPx E mX6_runScript 46 [some (.ref me), some (.int (nI n)), some (.long s), none, some (.int (nI i)), x5] [] r h Q := by
  intro m
  induction m with
  | zero => intro i h lc B x5 r hm; exact absurd hm (Nat.not_lt_zero _)
  | succ m ih =>
    intro i h lc B x5 r hm hi2 H O1 hB hPB he
    have hob := H.ob
    refine wp_iload (M := mX6_runScript) (pc := 46) dX6_runScript_46 rfl ?_
    refine wp_iload_n (M := mX6_runScript) (pc := 48) dX6_runScript_48 rfl ?_
    refine wp_icmp_ge (M := mX6_runScript) (pc := 49) (tgt := 88) dX6_runScript_49 rfl (fun t49 => ?_) (fun f49 => ?_)
    · have e2 := n_ge hi2 (by omega) t49
      subst e2
      refine wp_bipush (M := mX6_runScript) (pc := 88) (v := -9) dX6_runScript_88 cb_m9 ?_
      refine wp_ireturn (M := mX6_runScript) (pc := 90) rfl dX6_runScript_90 ?_
      rw [he, Nat.sub_self] at k
      exact k h H.wc O1
    · have hlt := n_lt hi2 (by omega) f49
      rw [show n - i = (n - (i + 1)) + 1 by omega] at he
      obtain ⟨kk, hk1, hk2⟩ := hPB
      have hokB := (hP.1 kk B 50 hk2 (by omega)).1
      refine wp_lload_n (M := mX6_runScript) (pc := 52) dX6_runScript_52 rfl ?_
      refine wp_iload_n (M := mX6_runScript) (pc := 53) dX6_runScript_53 rfl ?_
      refine wp_iconst (M := mX6_runScript) (pc := 54) (v := 1) dX6_runScript_54 ci_1 ?_
      refine wp_isub (M := mX6_runScript) (pc := 55) dX6_runScript_55 ?_
      refine wp_iload (M := mX6_runScript) (pc := 56) dX6_runScript_56 rfl ?_
      refine wp_isub (M := mX6_runScript) (pc := 58) dX6_runScript_58 ?_
      refine so_S1 (M := mX6_runScript) (pc := 59) cs_X6_runScript_235 rfl rfl (LE rfl) (LE rfl) dX6_runScript_59 ?_
      rw [show nI n - 1 - nI i = nI (n - 1 - i) by rw [show nI n - 1 = nI (n - 1) from pk_sub (b := 1) (by omega)]; exact pk_sub (by omega)]
      refine sp_X6_unitOfGroup (by omega) ?_
      refine kL ?_
      refine wp_ldiv (M := mX6_runScript) (pc := 62) dX6_runScript_62 (by first | exact unitG_nz _ (by omega) | decide) ?_
      refine wp_ldc2_w (M := mX6_runScript) (pc := 63) wv_X6_239 dX6_runScript_63 ?_
      refine wp_lrem (M := mX6_runScript) (pc := 66) dX6_runScript_66 (by first | exact unitG_nz _ (by omega) | decide) ?_
      refine wp_l2i (M := mX6_runScript) (pc := 67) dX6_runScript_67 ?_
      refine so_istore (M := mX6_runScript) (pc := 68) (lo' := [_, _, _, _, _, _]) dX6_runScript_68 (LE rfl) (LE rfl) (Or.inr rfl) rfl ?_
      refine wp_aload_n (M := mX6_runScript) (pc := 70) dX6_runScript_70 rfl ?_
      refine wp_iload (M := mX6_runScript) (pc := 71) dX6_runScript_71 rfl ?_
      refine so_V1 (M := mX6_runScript) (pc := 73) cs_X6_runScript_241 rfl rfl (LE rfl) (LE rfl) dX6_runScript_73 (by first | exact hob.1.1 | fail "kd") ?_
      refine sp_X6_succeeds (g := grpI n s i) hob hB H.au (nk H.kU H.kC (by simp)) hokB hB.2.1.1.2 (fun B' hg h1 lc1 R1 A1 F1 => ?_) (fun hg => ?_)
      · refine kI ?_
        refine wp_if_ne (M := mX6_runScript) (pc := 76) (tgt := 82) dX6_runScript_76 rfl (fun _ => ?_) (fun e => absurd e (by decide))
        refine so_iinc (M := mX6_runScript) (pc := 82) (lo' := [_, _, _, _, _, _]) dX6_runScript_82 rfl ci_1 (LE rfl) rfl ?_
        refine wp_goto (M := mX6_runScript) (pc := 85) (tgt := 46) dX6_runScript_85 rfl ?_
        rw [show nI i + 1 = nI (i + 1) from nI_1 i]
        rw [rsA_y hg] at he
        obtain ⟨k', hk3, hk4⟩ := hP.grp (by omega) hk2 hB.2.1.1.2 hg
        exact ih (i + 1) h1 lc1 B' _ r (by omega) (by omega) (H.cu F1 R1.1 A1) (O1.tr (H.cuO F1)) R1 ⟨k', by omega, hk4⟩ he
      · refine kI ?_
        refine wp_if_ne (M := mX6_runScript) (pc := 76) (tgt := 82) dX6_runScript_76 rfl (fun e => absurd rfl e) (fun _ => ?_)
        refine wp_iload (M := mX6_runScript) (pc := 79) dX6_runScript_79 rfl ?_
        refine wp_ireturn (M := mX6_runScript) (pc := 81) rfl dX6_runScript_81 ?_
        rw [he, rsA_n hg] at k
        exact k h H.wc O1
set_option maxHeartbeats 4000000 in
set_option maxRecDepth 100000 in
theorem sp_X6_runScript {me : Nat} {X : Abs} {w : Int32} {s : Int64} {P : Nat → Sta → Prop} (H : WC h me X) (hP : OkP P) (hPX : P 150 (xA X)) (k1 : ∀ n, 1 ≤ n → n ≤ 3 → w = nI n → 0 ≤ s → s < unitG n → ∀ h', WC h' me X → Of h h' → Q (.inl (some (.int (rsA n s n 0 (xA X))))) h') (k0 : (¬ wth w 1 3 ∨ ∀ n, w = nI n → n ≤ 3 → ¬ (0 ≤ s ∧ s < unitG n)) → Q (.inr "java/lang/IllegalArgumentException") h) : WPx E mX6_runScript 0 [some (.ref me), some (.int w), some (.long s), none, none, none] [] (2, 12) h Q := by
  obtain ⟨q, c, u, hi, sl, tx, ka, pa, fa, la, hsa, txa, x, l, lc, cs, ss, H⟩ := H
  have hm := H.ob
  have hR := H.rep
  have n6 := hR.2.1.1.2
  refine wp_iload_n (M := mX6_runScript) (pc := 0) dX6_runScript_0 rfl ?_
  refine wp_iconst (M := mX6_runScript) (pc := 1) (v := 1) dX6_runScript_1 ci_1 ?_
  refine wp_iconst (M := mX6_runScript) (pc := 2) (v := 3) dX6_runScript_2 ci_3 ?_
  refine so_S3 (M := mX6_runScript) (pc := 3) cs_X6_runScript_56 rfl rfl (LE rfl) (LE rfl) dX6_runScript_3 ?_
  refine sp_X6_isWithin ?_
  refine kI ?_
  refine so_SA1 (M := mX6_runScript) (pc := 6) (1, 6) cs_X6_runScript_60 rfl (LE rfl) (LE rfl) (LE rfl) (LE rfl) dX6_runScript_6 ?_
  refine sp_X6_requireArgument (fun hw => ?_) (fun hw => k0 (Or.inl hw))
  obtain ⟨n, hn1, hn2, rfl⟩ := wth_1 (b := 3) (by decide) hw
  refine kV ?_
  refine wp_lload_n (M := mX6_runScript) (pc := 9) dX6_runScript_9 rfl ?_
  refine wp_lconst (M := mX6_runScript) (pc := 10) (v := 0) dX6_runScript_10 cl_0 ?_
  refine wp_lcmp (M := mX6_runScript) (pc := 11) dX6_runScript_11 ?_
  refine wp_if_lt (M := mX6_runScript) (pc := 12) (tgt := 28) dX6_runScript_12 rfl (fun t12 => ?_) (fun f12 => ?_)
  · have hl : ¬ (0 : Int32) = 0 → (0 ≤ s ∧ s < unitG n) := fun e => absurd rfl e
    have hl0 : (0 : Int32) = 0 → ¬ (0 ≤ s ∧ s < unitG n) := fun _ e => Int64.not_le.mpr ((lg_cmp_lt _ _).mp t12) e.1
    refine wp_iconst (M := mX6_runScript) (pc := 28) (v := 0) dX6_runScript_28 ci_0 ?_
    refine so_SA1 (M := mX6_runScript) (pc := 29) (0, 0) cs_X6_runScript_60 rfl (LE rfl) (LE rfl) (LE rfl) (LE rfl) dX6_runScript_29 ?_
    refine sv_X6_requireArgument (fun hv => ?_) (fun hv => k0 (Or.inr (fun n2 e2 h3 => (i_eq (by omega) (by omega)).mp e2 ▸ hl0 hv)))
    obtain ⟨w1, w2⟩ := hl hv
    refine kV ?_
    refine wp_aload_n (M := mX6_runScript) (pc := 32) dX6_runScript_32 rfl ?_
    refine wp_getR (M := mX6_runScript) (pc := 33) fa_X6_16 rfl dX6_runScript_33 (by first | exact hm.1.1 | exact H.kQ | exact H.kH | exact H.kC | exact H.kU | exact H.kX | exact hR.1.2.1.2.1 | exact a2 | fail "kd") (by first | exact hm.2.1 | exact hm.2.2.1 | exact hm.2.2.2.1 | exact hm.2.2.2.2.1 | exact hm.2.2.2.2.2.1 | exact hm.2.2.2.2.2.2 | exact hR.1.2.1.1 | exact a1 | fail "rx") ?_
    refine wp_aload_n (M := mX6_runScript) (pc := 36) dX6_runScript_36 rfl ?_
    refine wp_getR (M := mX6_runScript) (pc := 37) fa_X6_12 rfl dX6_runScript_37 (by first | exact hm.1.1 | exact H.kQ | exact H.kH | exact H.kC | exact H.kU | exact H.kX | exact hR.1.2.1.2.1 | exact a2 | fail "kd") (by first | exact hm.2.1 | exact hm.2.2.1 | exact hm.2.2.2.1 | exact hm.2.2.2.2.1 | exact hm.2.2.2.2.2.1 | exact hm.2.2.2.2.2.2 | exact hR.1.2.1.1 | exact a1 | fail "rx") ?_
    refine so_V1 (M := mX6_runScript) (pc := 40) cs_X6_runScript_83 rfl rfl (LE rfl) (LE rfl) dX6_runScript_40 (by first | exact hm.1.1 | exact H.kQ | exact H.kH | exact H.kC | exact H.kU | exact H.kX | exact hR.1.2.1.2.1 | exact a2 | fail "kd") ?_
    refine sp_X4_copyFrom H.lay hR H.ds.1 (fun h1 R1 F1 => ?_)
    have F1c : Fr (fun z => z = c ∨ z = u) h h1 := F1.mono (fun y e => Or.inl e)
    have O1 := H.cuO F1c
    have H := H.cu F1c R1.1 (H.au.fr F1 (nk H.kU H.kC (by simp)))
    refine kV ?_
    refine wp_iconst (M := mX6_runScript) (pc := 43) (v := 0) dX6_runScript_43 ci_0 ?_
    refine so_istore (M := mX6_runScript) (pc := 44) (lo' := [_, _, _, _, _, _]) dX6_runScript_44 (LE rfl) (LE rfl) (Or.inr rfl) rfl ?_
    exact lp_X6_runScript hP hn2 (k1 n hn1 hn2 rfl w1 w2) (n + 1) 0 h1 lc (xA X) none (0, 0) (by omega) (by omega) H O1 R1 ⟨150, by omega, hPX⟩ rfl
  · have hs0 : 0 ≤ s := Int64.not_lt.mp (fun e => f12 ((lg_cmp_lt _ _).mpr e))
    refine wp_lload_n (M := mX6_runScript) (pc := 15) dX6_runScript_15 rfl ?_
    refine wp_iload_n (M := mX6_runScript) (pc := 16) dX6_runScript_16 rfl ?_
    refine so_S1 (M := mX6_runScript) (pc := 17) cs_X6_runScript_235 rfl rfl (LE rfl) (LE rfl) dX6_runScript_17 ?_
    refine sp_X6_unitOfGroup (by omega) ?_
    refine kL ?_
    refine wp_lcmp (M := mX6_runScript) (pc := 20) dX6_runScript_20 ?_
    refine wp_if_ge (M := mX6_runScript) (pc := 21) (tgt := 28) dX6_runScript_21 rfl (fun t21 => ?_) (fun f21 => ?_)
    · have hl : ¬ (0 : Int32) = 0 → (0 ≤ s ∧ s < unitG n) := fun e => absurd rfl e
      have hl0 : (0 : Int32) = 0 → ¬ (0 ≤ s ∧ s < unitG n) := fun _ e => Int64.not_le.mpr e.2 ((lg_cmp_ge _ _).mp t21)
      refine wp_iconst (M := mX6_runScript) (pc := 28) (v := 0) dX6_runScript_28 ci_0 ?_
      refine so_SA1 (M := mX6_runScript) (pc := 29) (0, 0) cs_X6_runScript_60 rfl (LE rfl) (LE rfl) (LE rfl) (LE rfl) dX6_runScript_29 ?_
      refine sv_X6_requireArgument (fun hv => ?_) (fun hv => k0 (Or.inr (fun n2 e2 h3 => (i_eq (by omega) (by omega)).mp e2 ▸ hl0 hv)))
      obtain ⟨w1, w2⟩ := hl hv
      refine kV ?_
      refine wp_aload_n (M := mX6_runScript) (pc := 32) dX6_runScript_32 rfl ?_
      refine wp_getR (M := mX6_runScript) (pc := 33) fa_X6_16 rfl dX6_runScript_33 (by first | exact hm.1.1 | exact H.kQ | exact H.kH | exact H.kC | exact H.kU | exact H.kX | exact hR.1.2.1.2.1 | exact a2 | fail "kd") (by first | exact hm.2.1 | exact hm.2.2.1 | exact hm.2.2.2.1 | exact hm.2.2.2.2.1 | exact hm.2.2.2.2.2.1 | exact hm.2.2.2.2.2.2 | exact hR.1.2.1.1 | exact a1 | fail "rx") ?_
      refine wp_aload_n (M := mX6_runScript) (pc := 36) dX6_runScript_36 rfl ?_
      refine wp_getR (M := mX6_runScript) (pc := 37) fa_X6_12 rfl dX6_runScript_37 (by first | exact hm.1.1 | exact H.kQ | exact H.kH | exact H.kC | exact H.kU | exact H.kX | exact hR.1.2.1.2.1 | exact a2 | fail "kd") (by first | exact hm.2.1 | exact hm.2.2.1 | exact hm.2.2.2.1 | exact hm.2.2.2.2.1 | exact hm.2.2.2.2.2.1 | exact hm.2.2.2.2.2.2 | exact hR.1.2.1.1 | exact a1 | fail "rx") ?_
      refine so_V1 (M := mX6_runScript) (pc := 40) cs_X6_runScript_83 rfl rfl (LE rfl) (LE rfl) dX6_runScript_40 (by first | exact hm.1.1 | exact H.kQ | exact H.kH | exact H.kC | exact H.kU | exact H.kX | exact hR.1.2.1.2.1 | exact a2 | fail "kd") ?_
      refine sp_X4_copyFrom H.lay hR H.ds.1 (fun h1 R1 F1 => ?_)
      have F1c : Fr (fun z => z = c ∨ z = u) h h1 := F1.mono (fun y e => Or.inl e)
      have O1 := H.cuO F1c
      have H := H.cu F1c R1.1 (H.au.fr F1 (nk H.kU H.kC (by simp)))
      refine kV ?_
      refine wp_iconst (M := mX6_runScript) (pc := 43) (v := 0) dX6_runScript_43 ci_0 ?_
      refine so_istore (M := mX6_runScript) (pc := 44) (lo' := [_, _, _, _, _, _]) dX6_runScript_44 (LE rfl) (LE rfl) (Or.inr rfl) rfl ?_
      exact lp_X6_runScript hP hn2 (k1 n hn1 hn2 rfl w1 w2) (n + 1) 0 h1 lc (xA X) none (0, 0) (by omega) (by omega) H O1 R1 ⟨150, by omega, hPX⟩ rfl
    · have hl : ¬ (1 : Int32) = 0 → (0 ≤ s ∧ s < unitG n) := fun _ => ⟨hs0, Int64.not_le.mp (fun e => f21 ((lg_cmp_ge _ _).mpr e))⟩
      have hl0 : (1 : Int32) = 0 → ¬ (0 ≤ s ∧ s < unitG n) := fun e => absurd e (by decide)
      refine wp_iconst (M := mX6_runScript) (pc := 24) (v := 1) dX6_runScript_24 ci_1 ?_
      refine wp_goto (M := mX6_runScript) (pc := 25) (tgt := 29) dX6_runScript_25 rfl ?_
      refine so_SA1 (M := mX6_runScript) (pc := 29) (0, 0) cs_X6_runScript_60 rfl (LE rfl) (LE rfl) (LE rfl) (LE rfl) dX6_runScript_29 ?_
      refine sv_X6_requireArgument (fun hv => ?_) (fun hv => k0 (Or.inr (fun n2 e2 h3 => (i_eq (by omega) (by omega)).mp e2 ▸ hl0 hv)))
      obtain ⟨w1, w2⟩ := hl hv
      refine kV ?_
      refine wp_aload_n (M := mX6_runScript) (pc := 32) dX6_runScript_32 rfl ?_
      refine wp_getR (M := mX6_runScript) (pc := 33) fa_X6_16 rfl dX6_runScript_33 (by first | exact hm.1.1 | exact H.kQ | exact H.kH | exact H.kC | exact H.kU | exact H.kX | exact hR.1.2.1.2.1 | exact a2 | fail "kd") (by first | exact hm.2.1 | exact hm.2.2.1 | exact hm.2.2.2.1 | exact hm.2.2.2.2.1 | exact hm.2.2.2.2.2.1 | exact hm.2.2.2.2.2.2 | exact hR.1.2.1.1 | exact a1 | fail "rx") ?_
      refine wp_aload_n (M := mX6_runScript) (pc := 36) dX6_runScript_36 rfl ?_
      refine wp_getR (M := mX6_runScript) (pc := 37) fa_X6_12 rfl dX6_runScript_37 (by first | exact hm.1.1 | exact H.kQ | exact H.kH | exact H.kC | exact H.kU | exact H.kX | exact hR.1.2.1.2.1 | exact a2 | fail "kd") (by first | exact hm.2.1 | exact hm.2.2.1 | exact hm.2.2.2.1 | exact hm.2.2.2.2.1 | exact hm.2.2.2.2.2.1 | exact hm.2.2.2.2.2.2 | exact hR.1.2.1.1 | exact a1 | fail "rx") ?_
      refine so_V1 (M := mX6_runScript) (pc := 40) cs_X6_runScript_83 rfl rfl (LE rfl) (LE rfl) dX6_runScript_40 (by first | exact hm.1.1 | exact H.kQ | exact H.kH | exact H.kC | exact H.kU | exact H.kX | exact hR.1.2.1.2.1 | exact a2 | fail "kd") ?_
      refine sp_X4_copyFrom H.lay hR H.ds.1 (fun h1 R1 F1 => ?_)
      have F1c : Fr (fun z => z = c ∨ z = u) h h1 := F1.mono (fun y e => Or.inl e)
      have O1 := H.cuO F1c
      have H := H.cu F1c R1.1 (H.au.fr F1 (nk H.kU H.kC (by simp)))
      refine kV ?_
      refine wp_iconst (M := mX6_runScript) (pc := 43) (v := 0) dX6_runScript_43 ci_0 ?_
      refine so_istore (M := mX6_runScript) (pc := 44) (lo' := [_, _, _, _, _, _]) dX6_runScript_44 (LE rfl) (LE rfl) (Or.inr rfl) rfl ?_
      exact lp_X6_runScript hP hn2 (k1 n hn1 hn2 rfl w1 w2) (n + 1) 0 h1 lc (xA X) none (0, 0) (by omega) (by omega) H O1 R1 ⟨150, by omega, hPX⟩ rfl
/-- the random action of a round -/
noncomputable def raA (B : Sta) (r : Int32) : Sta :=
  if rmI (r / 65536) 4 = 3 then (quO B (rmI r (nI (sN B))) (1 + rmI (r / 1024) 20)).getD B else (plO B (mis (rmI (r / 65536) 4)) (rmI r (nI (sN B))) (1 + rmI (r / 8) 99) (1 + rmI (r / 1024) 20)).getD B
theorem raA_1 {B : Sta} {r : Int32} (h : rmI (r / 65536) 4 = 3) : raA B r = (quO B (rmI r (nI (sN B))) (1 + rmI (r / 1024) 20)).getD B := if_pos h
theorem raA_2 {B : Sta} {r : Int32} (h : ¬ rmI (r / 65536) 4 = 3) : raA B r = (plO B (mis (rmI (r / 65536) 4)) (rmI r (nI (sN B))) (1 + rmI (r / 8) 99) (1 + rmI (r / 1024) 20)).getD B := if_neg h
theorem kind_n {r : Int32} (h : ¬ r < 0) (h3 : ¬ rmI (r / 65536) 4 = 3) : ∃ kd, kd < 3 ∧ rmI (r / 65536) 4 = nI kd := by
  obtain ⟨R, hR, rfl⟩ := nI_of h
  have e1 : nI R / 65536 = nI (R / 65536) := pk_div hR (d := 65536) (by decide) (by decide)
  have e2 : rmI (nI R / 65536) 4 = nI (R / 65536 % 4) := by rw [e1]; exact pk_rem (a := R / 65536) (d := 4) (by omega) (by decide) (by decide)
  refine ⟨R / 65536 % 4, ?_, e2⟩
  have : R / 65536 % 4 ≠ 3 := fun e => h3 (by rw [e2, e]; rfl)
  omega
/-- the random numbers -/
def rnX (x : Int64) : Int64 := x * 6364136223846793005 + 1442695040888963407
def rnI (x : Int64) : Int32 := ((x.toUInt64 >>> ((33 : Int32).toInt64.toUInt64 &&& Int64.toUInt64 63)).toInt64).toInt32
theorem rnI_p (x : Int64) : ¬ rnI x < 0 := by
  have e : rnI x = nI (x.toUInt64.toNat >>> 33) := by
    unfold rnI
    have e1 : ((33 : Int32).toInt64.toUInt64 &&& Int64.toUInt64 63) = 33 := by decide
    rw [e1]
    have e2 : (x.toUInt64 >>> 33).toInt64 = lN (x.toUInt64 >>> 33).toNat := by
      apply Int64.toBitVec_inj.mp
      apply BitVec.eq_of_toNat_eq
      show (x.toUInt64 >>> 33).toNat = (BitVec.ofNat 64 (x.toUInt64 >>> 33).toNat).toNat
      rw [BitVec.toNat_ofNat]
      exact (Nat.mod_eq_of_lt (x.toUInt64 >>> 33).toNat_lt).symm
    rw [e2, lN_i]
    have e5 : (x.toUInt64 >>> 33).toNat = x.toUInt64.toNat >>> 33 := by rw [UInt64.toNat_shiftRight]; rfl
    rw [e5]
  rw [e]
  refine nI_pos ?_
  rw [Nat.shiftRight_eq_div_pow]
  have := x.toUInt64.toNat_lt
  omega
/-- rounds of a simulation: the state, the random number, the bytes -/
noncomputable def smA (B : Sta) (x : Int64) : Nat → Sta × Int64 × Int32
  | 0 => (B, x, 0)
  | k + 1 => ((tks 1 (raA (smA B x k).1 (rnI (rnX (smA B x k).2.1)))).1, rnX (smA B x k).2.1, (smA B x k).2.2 + (tks 1 (raA (smA B x k).1 (rnI (rnX (smA B x k).2.1)))).2)
theorem OkP.ra {P : Nat → Sta → Prop} (hP : OkP P) {k : Nat} {B : Sta} {r : Int32} (hB : P (k + 1) B) (hn : sN B ≤ 6) (hr : ¬ r < 0) : P k (raA B r) := by
  by_cases h3 : rmI (r / 65536) 4 = 3
  · rw [raA_1 h3]
    by_cases hq : mayQ B (rmI r (nI (sN B))) (1 + rmI (r / 1024) 20)
    · rw [quO, cif_t hq]
      obtain ⟨j, hj, et, hz, h8⟩ := hq
      rw [et, mis_n (by omega)]
      exact hP.2.2.1 k B j _ hB hj hz h8
    · rw [quO, cif_f hq]; exact hP.2.2.2 k B hB
  · obtain ⟨kd, hkd, ek⟩ := kind_n hr h3
    rw [raA_2 h3, ek, mis_n (by omega)]
    by_cases hm : mayP B kd (rmI r (nI (sN B))) (1 + rmI (r / 8) 99) (1 + rmI (r / 1024) 20)
    · rw [plO, cif_t hm]
      obtain ⟨j, hj, et, hp, hz, hc⟩ := hm
      rw [et, mis_n (by omega)]
      exact hP.2.1 k B kd j _ _ hB hkd hj hp hz hc
    · rw [plO, cif_f hm]; exact hP.2.2.2 k B hB
set_option maxHeartbeats 4000000 in
set_option maxRecDepth 100000 in
theorem sp_X6_tryRandomAction {me q c u hi sl tx : Nat} {lc : Lt} {B : Sta} {g : Int32} (hob : ObC h me q c u hi sl tx) (hB : RepC h c lc B) (hn0 : 0 < sN B) (hr : ¬ g < 0) (k : ∀ h', RepC h' c lc (raA B g) → Fr (fun x => x = c) h h' → Q (.inl none) h') : WPx E mX6_tryRandomAction 0 [some (.ref me), some (.int g), none, none, none, none] [] (0, 0) h Q := by
  have hn6 := hB.2.1.1.2
  have en := hB.2.1.1.1
  refine wp_aload_n (M := mX6_tryRandomAction) (pc := 0) dX6_tryRandomAction_0 rfl ?_
  refine wp_getR (M := mX6_tryRandomAction) (pc := 1) fa_X6_16 rfl dX6_tryRandomAction_1 (by first | exact hob.1.1 | exact hB.1.1.1 | fail "kd") (by first | exact hob.2.2.1 | fail "rx") ?_
  refine wp_getI (M := mX6_tryRandomAction) (pc := 4) fa_X6_90 rfl dX6_tryRandomAction_4 (by first | exact hob.1.1 | exact hB.1.1.1 | fail "kd") ?_
  refine wp_iconst (M := mX6_tryRandomAction) (pc := 7) (v := 1) dX6_tryRandomAction_7 ci_1 ?_
  refine wp_icmp_ge (M := mX6_tryRandomAction) (pc := 8) (tgt := 12) dX6_tryRandomAction_8 rfl (fun t8 => ?_) (fun f8 => ?_)
  · refine wp_iload_n (M := mX6_tryRandomAction) (pc := 12) dX6_tryRandomAction_12 rfl ?_
    refine wp_aload_n (M := mX6_tryRandomAction) (pc := 13) dX6_tryRandomAction_13 rfl ?_
    refine wp_getR (M := mX6_tryRandomAction) (pc := 14) fa_X6_16 rfl dX6_tryRandomAction_14 (by first | exact hob.1.1 | exact hB.1.1.1 | fail "kd") (by first | exact hob.2.2.1 | fail "rx") ?_
    refine wp_getI (M := mX6_tryRandomAction) (pc := 17) fa_X6_90 rfl dX6_tryRandomAction_17 (by first | exact hob.1.1 | exact hB.1.1.1 | fail "kd") ?_
    refine wp_irem (M := mX6_tryRandomAction) (pc := 20) dX6_tryRandomAction_20 (by first | (rw [en]; exact nI_ne0 hn0 (by omega)) | decide) ?_
    refine so_istore_n (M := mX6_tryRandomAction) (pc := 21) (lo' := [_, _, _, _, _, _]) dX6_tryRandomAction_21 (LE rfl) (LE rfl) (Or.inr rfl) rfl ?_
    refine wp_iconst (M := mX6_tryRandomAction) (pc := 22) (v := 1) dX6_tryRandomAction_22 ci_1 ?_
    refine wp_iload_n (M := mX6_tryRandomAction) (pc := 23) dX6_tryRandomAction_23 rfl ?_
    refine wp_bipush (M := mX6_tryRandomAction) (pc := 24) (v := 8) dX6_tryRandomAction_24 cb_8 ?_
    refine wp_idiv (M := mX6_tryRandomAction) (pc := 26) dX6_tryRandomAction_26 (by first | (rw [en]; exact nI_ne0 hn0 (by omega)) | decide) ?_
    refine wp_bipush (M := mX6_tryRandomAction) (pc := 27) (v := 99) dX6_tryRandomAction_27 cb_99 ?_
    refine wp_irem (M := mX6_tryRandomAction) (pc := 29) dX6_tryRandomAction_29 (by first | (rw [en]; exact nI_ne0 hn0 (by omega)) | decide) ?_
    refine wp_iadd (M := mX6_tryRandomAction) (pc := 30) dX6_tryRandomAction_30 ?_
    refine so_istore_n (M := mX6_tryRandomAction) (pc := 31) (lo' := [_, _, _, _, _, _]) dX6_tryRandomAction_31 (LE rfl) (LE rfl) (Or.inr rfl) rfl ?_
    refine wp_iconst (M := mX6_tryRandomAction) (pc := 32) (v := 1) dX6_tryRandomAction_32 ci_1 ?_
    refine wp_iload_n (M := mX6_tryRandomAction) (pc := 33) dX6_tryRandomAction_33 rfl ?_
    refine wp_sipush (M := mX6_tryRandomAction) (pc := 34) (v := 1024) dX6_tryRandomAction_34 ch_1024 ?_
    refine wp_idiv (M := mX6_tryRandomAction) (pc := 37) dX6_tryRandomAction_37 (by first | (rw [en]; exact nI_ne0 hn0 (by omega)) | decide) ?_
    refine wp_bipush (M := mX6_tryRandomAction) (pc := 38) (v := 20) dX6_tryRandomAction_38 cb_20 ?_
    refine wp_irem (M := mX6_tryRandomAction) (pc := 40) dX6_tryRandomAction_40 (by first | (rw [en]; exact nI_ne0 hn0 (by omega)) | decide) ?_
    refine wp_iadd (M := mX6_tryRandomAction) (pc := 41) dX6_tryRandomAction_41 ?_
    refine so_istore (M := mX6_tryRandomAction) (pc := 42) (lo' := [_, _, _, _, _, _]) dX6_tryRandomAction_42 (LE rfl) (LE rfl) (Or.inr rfl) rfl ?_
    refine wp_iload_n (M := mX6_tryRandomAction) (pc := 44) dX6_tryRandomAction_44 rfl ?_
    refine wp_ldc_w (M := mX6_tryRandomAction) (pc := 45) wv_X6_312 dX6_tryRandomAction_45 ?_
    refine wp_idiv (M := mX6_tryRandomAction) (pc := 48) dX6_tryRandomAction_48 (by first | (rw [en]; exact nI_ne0 hn0 (by omega)) | decide) ?_
    refine wp_iconst (M := mX6_tryRandomAction) (pc := 49) (v := 4) dX6_tryRandomAction_49 ci_4 ?_
    refine wp_irem (M := mX6_tryRandomAction) (pc := 50) dX6_tryRandomAction_50 (by first | (rw [en]; exact nI_ne0 hn0 (by omega)) | decide) ?_
    refine so_istore (M := mX6_tryRandomAction) (pc := 51) (lo' := [_, _, _, _, _, _]) dX6_tryRandomAction_51 (LE rfl) (LE rfl) (Or.inr rfl) rfl ?_
    refine wp_iload (M := mX6_tryRandomAction) (pc := 53) dX6_tryRandomAction_53 rfl ?_
    refine wp_iconst (M := mX6_tryRandomAction) (pc := 55) (v := 3) dX6_tryRandomAction_55 ci_3 ?_
    refine wp_icmp_ne (M := mX6_tryRandomAction) (pc := 56) (tgt := 73) dX6_tryRandomAction_56 rfl (fun t56 => ?_) (fun f56 => ?_)
    · refine wp_aload_n (M := mX6_tryRandomAction) (pc := 73) dX6_tryRandomAction_73 rfl ?_
      refine wp_getR (M := mX6_tryRandomAction) (pc := 74) fa_X6_16 rfl dX6_tryRandomAction_74 (by first | exact hob.1.1 | exact hB.1.1.1 | fail "kd") (by first | exact hob.2.2.1 | fail "rx") ?_
      refine wp_iload (M := mX6_tryRandomAction) (pc := 77) dX6_tryRandomAction_77 rfl ?_
      refine wp_iload_n (M := mX6_tryRandomAction) (pc := 79) dX6_tryRandomAction_79 rfl ?_
      refine wp_iload_n (M := mX6_tryRandomAction) (pc := 80) dX6_tryRandomAction_80 rfl ?_
      refine wp_iload (M := mX6_tryRandomAction) (pc := 81) dX6_tryRandomAction_81 rfl ?_
      refine so_V4 (M := mX6_tryRandomAction) (pc := 83) cs_X6_tryRandomAction_299 rfl rfl (LE rfl) (LE rfl) dX6_tryRandomAction_83 (by first | exact hob.1.1 | exact hB.1.1.1 | fail "kd") ?_
      obtain ⟨kd, hkd, ek⟩ := kind_n hr t56
      have ek2 : g / 65536 - g / 65536 / 4 * 4 = nI kd := ek
      rw [ek2]
      refine sp_X4_tryPlace hB hkd (fun j hj et hp hz hc h1 R1 F1 => ?_) (fun hn => ?_)
      · refine kI ?_
        refine wp_pop (M := mX6_tryRandomAction) (pc := 86) dX6_tryRandomAction_86 rfl ?_
        refine wp_return (M := mX6_tryRandomAction) (pc := 87) rfl dX6_tryRandomAction_87 ?_
        rw [en] at et
        rw [raA_2 t56, ek, mis_n (by omega), plO, cif_t ⟨j, hj, et, hp, hz, hc⟩, show rmI g (nI (sN B)) = nI j from et, mis_n (by omega)] at k
        exact k h1 R1 F1
      · refine kI ?_
        refine wp_pop (M := mX6_tryRandomAction) (pc := 86) dX6_tryRandomAction_86 rfl ?_
        refine wp_return (M := mX6_tryRandomAction) (pc := 87) rfl dX6_tryRandomAction_87 ?_
        rw [en] at hn
        rw [raA_2 t56, ek, mis_n (by omega), plO, cif_f (show ¬ mayP B kd (rmI g (nI (sN B))) (1 + rmI (g / 8) 99) (1 + rmI (g / 1024) 20) from hn)] at k
        exact k h hB Fr.rf
    · refine wp_aload_n (M := mX6_tryRandomAction) (pc := 59) dX6_tryRandomAction_59 rfl ?_
      refine wp_getR (M := mX6_tryRandomAction) (pc := 60) fa_X6_16 rfl dX6_tryRandomAction_60 (by first | exact hob.1.1 | exact hB.1.1.1 | fail "kd") (by first | exact hob.2.2.1 | fail "rx") ?_
      refine wp_iload_n (M := mX6_tryRandomAction) (pc := 63) dX6_tryRandomAction_63 rfl ?_
      refine wp_iload (M := mX6_tryRandomAction) (pc := 64) dX6_tryRandomAction_64 rfl ?_
      refine so_V2 (M := mX6_tryRandomAction) (pc := 66) cs_X6_tryRandomAction_302 rfl rfl (LE rfl) (LE rfl) dX6_tryRandomAction_66 (by first | exact hob.1.1 | exact hB.1.1.1 | fail "kd") ?_
      refine sp_X4_tryQueue hB (fun j hj et hz h8 h1 R1 F1 => ?_) (fun hn => ?_)
      · refine kI ?_
        refine wp_pop (M := mX6_tryRandomAction) (pc := 69) dX6_tryRandomAction_69 rfl ?_
        refine wp_goto (M := mX6_tryRandomAction) (pc := 70) (tgt := 87) dX6_tryRandomAction_70 rfl ?_
        refine wp_return (M := mX6_tryRandomAction) (pc := 87) rfl dX6_tryRandomAction_87 ?_
        rw [en] at et
        rw [raA_1 f56, quO, cif_t ⟨j, hj, et, hz, h8⟩, show rmI g (nI (sN B)) = nI j from et, mis_n (by omega)] at k
        exact k h1 R1 F1
      · refine kI ?_
        refine wp_pop (M := mX6_tryRandomAction) (pc := 69) dX6_tryRandomAction_69 rfl ?_
        refine wp_goto (M := mX6_tryRandomAction) (pc := 70) (tgt := 87) dX6_tryRandomAction_70 rfl ?_
        refine wp_return (M := mX6_tryRandomAction) (pc := 87) rfl dX6_tryRandomAction_87 ?_
        rw [en] at hn
        rw [raA_1 f56, quO, cif_f (show ¬ mayQ B (rmI g (nI (sN B))) (1 + rmI (g / 1024) 20) from hn)] at k
        exact k h hB Fr.rf
  · rw [en] at f8; exact absurd ((i_le (a := 1) (by decide) (by omega)).mpr (by omega)) f8
set_option maxHeartbeats 4000000 in
set_option maxRecDepth 100000 in
theorem lp_X6_simulate {me q c u hi sl tx ka pa fa la hsa txa x : Nat} {l : Lt} {cs ss : Nat → Option (Nat × Lt)} {X : Abs} {n : Nat} {s : Int64} {P : Nat → Sta → Prop} {h0 : PH} (hP : OkP P) (hn3 : n ≤ 60) (k : ∀ h', WC h' me X → Of h0 h' → Q (.inl (some (.int (smA (xA X) s n).2.2))) h') : ∀ (m : Nat) (i : Nat) (h : PH) (lc : Lt) (r : Nat × Nat), n - i < m → (i ≤ n) → (WP h me q c u hi sl tx ka pa fa la hsa txa x l lc cs ss X) → (Of h0 h) → (RepC h c lc (smA (xA X) s i).1) → (P (2 * (60 - i)) (smA (xA X) s i).1) → WPx E mX6_simulate 30 [some (.ref me), some (.long s), none, some (.int (nI n)), some (.long (smA (xA X) s i).2.1), none, some (.int (smA (xA X) s i).2.2), some (.int (nI i))] [] r h Q := by
  intro m
  induction m with
  | zero => intro i h lc r hm; exact absurd hm (Nat.not_lt_zero _)
  | succ m ih =>
    intro i h lc r hm hi2 H O1 hB hPB
    have hob := H.ob
    refine wp_iload (M := mX6_simulate) (pc := 30) dX6_simulate_30 rfl ?_
    refine wp_iload_n (M := mX6_simulate) (pc := 32) dX6_simulate_32 rfl ?_
    refine wp_icmp_ge (M := mX6_simulate) (pc := 33) (tgt := 81) dX6_simulate_33 rfl (fun t33 => ?_) (fun f33 => ?_)
    · have e2 := n_ge hi2 (by omega) t33
      subst e2
      refine wp_iload (M := mX6_simulate) (pc := 81) dX6_simulate_81 rfl ?_
      refine wp_ireturn (M := mX6_simulate) (pc := 83) rfl dX6_simulate_83 ?_
      exact k h H.wc O1
    · have hlt := n_lt hi2 (by omega) f33
      have hok0 := (hP.1 _ _ 0 hPB (by omega)).1
      refine wp_lload (M := mX6_simulate) (pc := 36) dX6_simulate_36 rfl ?_
      refine wp_ldc2_w (M := mX6_simulate) (pc := 38) wv_X6_244 dX6_simulate_38 ?_
      refine wp_lmul (M := mX6_simulate) (pc := 41) dX6_simulate_41 ?_
      refine wp_ldc2_w (M := mX6_simulate) (pc := 42) wv_X6_246 dX6_simulate_42 ?_
      refine wp_ladd (M := mX6_simulate) (pc := 45) dX6_simulate_45 ?_
      refine so_lstore (M := mX6_simulate) (pc := 46) (lo' := [_, _, _, _, _, _, _, _]) dX6_simulate_46 (LE rfl) (LE rfl) (Or.inr rfl) rfl ?_
      refine wp_aload_n (M := mX6_simulate) (pc := 48) dX6_simulate_48 rfl ?_
      refine wp_lload (M := mX6_simulate) (pc := 49) dX6_simulate_49 rfl ?_
      refine wp_bipush (M := mX6_simulate) (pc := 51) (v := 33) dX6_simulate_51 cb_33 ?_
      refine wp_lushr (M := mX6_simulate) (pc := 53) dX6_simulate_53 ?_
      refine wp_l2i (M := mX6_simulate) (pc := 54) dX6_simulate_54 ?_
      refine so_V1 (M := mX6_simulate) (pc := 55) cs_X6_simulate_248 rfl rfl (LE rfl) (LE rfl) dX6_simulate_55 (by first | exact hob.1.1 | fail "kd") ?_
      have hPr := hP.ra (k := 2 * (60 - i) - 1) (r := rnI (rnX (smA (xA X) s i).2.1)) (by rw [show 2 * (60 - i) - 1 + 1 = 2 * (60 - i) by omega]; exact hPB) hB.2.1.1.2 (rnI_p _)
      refine sp_X6_tryRandomAction (g := rnI (rnX (smA (xA X) s i).2.1)) hob hB hok0.1 (rnI_p _) (fun h1 R1 F1 => ?_)
      have F1c : Fr (fun z => z = c ∨ z = u) h h1 := F1.mono (fun y e => Or.inl e)
      have O2 := O1.tr (H.cuO F1c)
      have H1 := H.cu F1c R1.1 (H.au.fr F1 (nk H.kU H.kC (by simp)))
      have hob1 := H1.ob
      have hok1 := (hP.1 _ _ 1 hPr (by omega))
      refine kV ?_
      refine wp_iload (M := mX6_simulate) (pc := 58) dX6_simulate_58 rfl ?_
      refine wp_aload_n (M := mX6_simulate) (pc := 60) dX6_simulate_60 rfl ?_
      refine wp_getR (M := mX6_simulate) (pc := 61) fa_X6_16 rfl dX6_simulate_61 hob1.1.1 hob1.2.2.1 ?_
      refine wp_iconst (M := mX6_simulate) (pc := 64) (v := 1) dX6_simulate_64 ci_1 ?_
      refine wp_aload_n (M := mX6_simulate) (pc := 65) dX6_simulate_65 rfl ?_
      refine wp_getR (M := mX6_simulate) (pc := 66) fa_X6_22 rfl dX6_simulate_66 hob1.1.1 hob1.2.2.2.1 ?_
      refine so_V2 (M := mX6_simulate) (pc := 69) cs_X6_simulate_170 rfl rfl (LE rfl) (LE rfl) dX6_simulate_69 R1.1.1.1 ?_
      refine sp_X4_advance (n := 1) R1 H1.au (nk H.kU H.kC (by simp)) hok1.1.1 (by decide) (by have := hok1.1.2.1; omega) hok1.1.2.2.1 (fun j hj => hok1.1.2.2.2 j hj) (fun h2 l2 e2 R2 A2 F2 => ?_)
      refine kI ?_
      refine wp_iadd (M := mX6_simulate) (pc := 72) dX6_simulate_72 ?_
      refine so_istore (M := mX6_simulate) (pc := 73) (lo' := [_, _, _, _, _, _, _, _]) dX6_simulate_73 (LE rfl) (LE rfl) (Or.inr rfl) rfl ?_
      refine so_iinc (M := mX6_simulate) (pc := 75) (lo' := [_, _, _, _, _, _, _, _]) dX6_simulate_75 rfl ci_1 (LE rfl) rfl ?_
      refine wp_goto (M := mX6_simulate) (pc := 78) (tgt := 30) dX6_simulate_78 rfl ?_
      rw [show nI i + 1 = nI (i + 1) from nI_1 i]
      exact ih (i + 1) h2 l2 r (by omega) (by omega) (H1.cu F2 R2.1 A2) (O2.tr (H1.cuO F2)) R2 (by rw [show 2 * (60 - (i + 1)) = 2 * (60 - i) - 1 - 1 by omega]; exact hok1.2)
set_option maxHeartbeats 4000000 in
set_option maxRecDepth 100000 in
theorem sp_X6_simulate {me : Nat} {X : Abs} {w : Int32} {s : Int64} {P : Nat → Sta → Prop} (H : WC h me X) (hP : OkP P) (hPX : P 120 (xA X)) (k1 : ∀ n, 1 ≤ n → n ≤ 60 → w = nI n → ∀ h', WC h' me X → Of h h' → Q (.inl (some (.int (smA (xA X) s n).2.2))) h') (k0 : ¬ wth w 1 60 → Q (.inr "java/lang/IllegalArgumentException") h) : WPx E mX6_simulate 0 [some (.ref me), some (.long s), none, some (.int w), none, none, none, none] [] (1, 6) h Q := by
  obtain ⟨q, c, u, hi, sl, tx, ka, pa, fa, la, hsa, txa, x, l, lc, cs, ss, H⟩ := H
  have hm := H.ob
  have hR := H.rep
  have n6 := hR.2.1.1.2
  refine wp_iload_n (M := mX6_simulate) (pc := 0) dX6_simulate_0 rfl ?_
  refine wp_iconst (M := mX6_simulate) (pc := 1) (v := 1) dX6_simulate_1 ci_1 ?_
  refine wp_bipush (M := mX6_simulate) (pc := 2) (v := 60) dX6_simulate_2 cb_60 ?_
  refine so_S3 (M := mX6_simulate) (pc := 4) cs_X6_simulate_56 rfl rfl (LE rfl) (LE rfl) dX6_simulate_4 ?_
  refine sp_X6_isWithin ?_
  refine kI ?_
  refine so_SA1 (M := mX6_simulate) (pc := 7) (0, 0) cs_X6_simulate_60 rfl (LE rfl) (LE rfl) (LE rfl) (LE rfl) dX6_simulate_7 ?_
  refine sp_X6_requireArgument (fun hw => ?_) (fun hw => k0 hw)
  obtain ⟨n, hn1, hn2, rfl⟩ := wth_1 (b := 60) (by decide) hw
  refine kV ?_
  refine wp_aload_n (M := mX6_simulate) (pc := 10) dX6_simulate_10 rfl ?_
  refine wp_getR (M := mX6_simulate) (pc := 11) fa_X6_16 rfl dX6_simulate_11 (by first | exact hm.1.1 | exact H.kQ | exact H.kH | exact H.kC | exact H.kU | exact H.kX | exact hR.1.2.1.2.1 | exact a2 | fail "kd") (by first | exact hm.2.1 | exact hm.2.2.1 | exact hm.2.2.2.1 | exact hm.2.2.2.2.1 | exact hm.2.2.2.2.2.1 | exact hm.2.2.2.2.2.2 | exact hR.1.2.1.1 | exact a1 | fail "rx") ?_
  refine wp_aload_n (M := mX6_simulate) (pc := 14) dX6_simulate_14 rfl ?_
  refine wp_getR (M := mX6_simulate) (pc := 15) fa_X6_12 rfl dX6_simulate_15 (by first | exact hm.1.1 | exact H.kQ | exact H.kH | exact H.kC | exact H.kU | exact H.kX | exact hR.1.2.1.2.1 | exact a2 | fail "kd") (by first | exact hm.2.1 | exact hm.2.2.1 | exact hm.2.2.2.1 | exact hm.2.2.2.2.1 | exact hm.2.2.2.2.2.1 | exact hm.2.2.2.2.2.2 | exact hR.1.2.1.1 | exact a1 | fail "rx") ?_
  refine so_V1 (M := mX6_simulate) (pc := 18) cs_X6_simulate_83 rfl rfl (LE rfl) (LE rfl) dX6_simulate_18 (by first | exact hm.1.1 | exact H.kQ | exact H.kH | exact H.kC | exact H.kU | exact H.kX | exact hR.1.2.1.2.1 | exact a2 | fail "kd") ?_
  refine sp_X4_copyFrom H.lay hR H.ds.1 (fun h1 R1 F1 => ?_)
  have F1c : Fr (fun z => z = c ∨ z = u) h h1 := F1.mono (fun y e => Or.inl e)
  have O1 := H.cuO F1c
  have H := H.cu F1c R1.1 (H.au.fr F1 (nk H.kU H.kC (by simp)))
  refine kV ?_
  refine wp_lload_n (M := mX6_simulate) (pc := 21) dX6_simulate_21 rfl ?_
  refine so_lstore (M := mX6_simulate) (pc := 22) (lo' := [_, _, _, _, _, _, _, _]) dX6_simulate_22 (LE rfl) (LE rfl) (Or.inr rfl) rfl ?_
  refine wp_iconst (M := mX6_simulate) (pc := 24) (v := 0) dX6_simulate_24 ci_0 ?_
  refine so_istore (M := mX6_simulate) (pc := 25) (lo' := [_, _, _, _, _, _, _, _]) dX6_simulate_25 (LE rfl) (LE rfl) (Or.inr rfl) rfl ?_
  refine wp_iconst (M := mX6_simulate) (pc := 27) (v := 0) dX6_simulate_27 ci_0 ?_
  refine so_istore (M := mX6_simulate) (pc := 28) (lo' := [_, _, _, _, _, _, _, _]) dX6_simulate_28 (LE rfl) (LE rfl) (Or.inr rfl) rfl ?_
  exact lp_X6_simulate (s := s) hP hn2 (k1 n hn1 hn2 rfl) (n + 1) 0 h1 lc (0, 0) (by omega) (by omega) H O1 R1 hPX
end SP
section SP
variable {E : Ev} {h : PH} {Q : Rt → PH → Prop}
def iniX : Abs := (addT (bgA 1 1 1 0) 1 0 0, [], fun _ => none, fun _ => 0, 0)
theorem new_gi {h : PH} {a k : Nat} {κ : Kd} {t : Tg} : gi (nw h a κ t) a k = nI 0 := by rw [gi_nw, u1_at]; rfl
theorem oth_me {h : PH} {me a : Nat} (ht : tg h me = (me, 0, 0)) (hn : me ≠ a) : ∀ y, (tg h y).1 = a → ¬ y = me := fun y e e2 => hn (by rw [e2, ht] at e; exact e)
theorem AuT.frA {S : Nat → Prop} {h h' : PH} {u ka pa fa la : Nat} (H : AuT h u ka pa fa la) (hF : FrA S h h') (hS : ∀ y, (tg h y).1 = u → ¬ S y) : AuT h' u ka pa fa la := by
  obtain ⟨⟨a1, ⟨b1, b2, b3, b4⟩, ⟨c1, c2, c3, c4⟩, a3, a4⟩, d0, d1, d2, d3, d4⟩ := H
  have e0 := hF u _ a1
  have e1 := hF ka _ c1
  have e2 := hF pa _ c2
  have e3 := hF fa _ c3
  have e4 := hF la _ c4
  have g0 := (e0.2.2.2 (hS u d0)).2
  exact ⟨⟨e0.1, ⟨by rw [g0]; exact b1, by rw [g0]; exact b2, by rw [g0]; exact b3, by rw [g0]; exact b4⟩, ⟨e1.1, e2.1, e3.1, e4.1⟩, a3, a4⟩, by rw [e0.2.1]; exact d0, by rw [e1.2.1]; exact d1, by rw [e2.2.1]; exact d2, by rw [e3.2.1]; exact d3, by rw [e4.2.1]; exact d4⟩
set_option maxHeartbeats 4000000 in
set_option maxRecDepth 100000 in
theorem sp_X6_init {me : Nat} (hk : kd h me = some (.inl 6)) (ht : tg h me = (me, 0, 0)) (k : ∀ h', WC h' me iniX → Of h h' → Q (.inl none) h') : WPx E mX6_init 0 [some (.ref me)] [] (77, 1229) h Q := by
  refine wp_aload_n (M := mX6_init) (pc := 0) dX6_init_0 rfl ?_
  refine wp_objInit (M := mX6_init) (pc := 1) wl_X6_3 w_objI w_objC (LE rfl) (LE rfl) dX6_init_1 ?_
  refine wp_aload_n (M := mX6_init) (pc := 4) dX6_init_4 rfl ?_
  refine wp_new (M := mX6_init) (pc := 5) nw_X6_9 (fun a => (a, 0, 0)) (by decide) (by decide) dX6_init_5 (fun a5 n5 => ?_)
  refine wp_dup (M := mX6_init) (pc := 8) dX6_init_8 rfl ?_
  refine so_IA0 (M := mX6_init) (pc := 9) (44, 737) cs_X6_init_11 (LE rfl) (LE rfl) (LE rfl) (LE rfl) dX6_init_9 ?_
  refine sp_X4_init kd_newk tg_newk (fun w0 l0 P0 G0 => ?_)
  have g0 : FrA (fun _ => False) h w0 := (FrA.nw n5).tr G0 (fun y κ e q9 => absurd q9 (nek e n5))
  have k0 : kd w0 me = some (.inl 6) := (g0 me _ hk).1
  have t0 : tg w0 me = (me, 0, 0) := ((g0 me _ hk).2.1).trans ht
  have e0 : gr w0 me = gr h me := ((g0 me _ hk).2.2.2 id).2
  have d0 : me ≠ a5 := nek (show kd h me = some (.inl 6) from hk) n5
  have P0a := P0.1.1
  refine kV1 ?_
  refine so_putR (M := mX6_init) (pc := 12) fa_X6_12 (fun _ => ⟨rfl, _, _, rfl⟩) rfl dX6_init_12 k0 ?_
  refine wp_aload_n (M := mX6_init) (pc := 15) dX6_init_15 rfl ?_
  refine wp_new (M := mX6_init) (pc := 16) nw_X6_9 (fun a => (a, 0, 0)) (by decide) (by decide) dX6_init_16 (fun a16 n16 => ?_)
  refine wp_dup (M := mX6_init) (pc := 19) dX6_init_19 rfl ?_
  refine so_IA0 (M := mX6_init) (pc := 20) (11, 245) cs_X6_init_11 (LE rfl) (LE rfl) (LE rfl) (LE rfl) dX6_init_20 ?_
  refine sp_X4_init kd_newk tg_newk (fun w1 l1 P1 G1 => ?_)
  have g1 : FrA (fun _ => False) (sr w0 me 0 (some a5)) w1 := (FrA.nw n16).tr G1 (fun y κ e q9 => absurd q9 (nek e n16))
  have k1 : kd w1 me = some (.inl 6) := (g1 me _ k0).1
  have t1 : tg w1 me = (me, 0, 0) := ((g1 me _ k0).2.1).trans t0
  have e1 : gr w1 me = gr (sr w0 me 0 (some a5)) me := ((g1 me _ k0).2.2.2 id).2
  have d1 : me ≠ a16 := nek (show kd (sr w0 me 0 (some a5)) me = some (.inl 6) from k0) n16
  have m1 : FrA (fun x => x = me) w0 w1 := (FrA.sr (S := fun x => x = me) rfl).tr g1 (fun _ _ _ q9 => absurd q9 id)
  have P0 := P0.frA m1 (oth_me t0 d0)
  have r0 : gr w1 me 0 = some a5 := by rw [e1, gr_sr, u2_at]
  have dq : a16 ≠ a5 := fun e9 => nek (show kd (sr w0 me 0 (some a5)) a5 = some (.inl 4) from P0a) n16 e9.symm
  refine kV1 ?_
  refine so_putR (M := mX6_init) (pc := 23) fa_X6_16 (fun _ => ⟨rfl, _, _, rfl⟩) rfl dX6_init_23 k1 ?_
  refine wp_aload_n (M := mX6_init) (pc := 26) dX6_init_26 rfl ?_
  refine wp_new (M := mX6_init) (pc := 27) nw_X6_19 (fun a => (a, 0, 0)) (by decide) (by decide) dX6_init_27 (fun a27 n27 => ?_)
  refine wp_dup (M := mX6_init) (pc := 30) dX6_init_30 rfl ?_
  refine so_INA0 (M := mX6_init) (pc := 31) (6, 185) cs_X6_init_21 (LE rfl) (LE rfl) (LE rfl) (LE rfl) dX6_init_31 ?_
  refine sp_X0_init kd_newk tg_newk (fun ka pa fa la w2 P2 G2 => ?_)
  have g2 : FrA (fun _ => False) (sr w1 me 1 (some a16)) w2 := (FrA.nw n27).tr G2 (fun y κ e q9 => absurd q9 (nek e n27))
  have k2 : kd w2 me = some (.inl 6) := (g2 me _ k1).1
  have t2 : tg w2 me = (me, 0, 0) := ((g2 me _ k1).2.1).trans t1
  have e2 : gr w2 me = gr (sr w1 me 1 (some a16)) me := ((g2 me _ k1).2.2.2 id).2
  have d2 : me ≠ a27 := nek (show kd (sr w1 me 1 (some a16)) me = some (.inl 6) from k1) n27
  have m2 : FrA (fun x => x = me) w1 w2 := (FrA.sr (S := fun x => x = me) rfl).tr g2 (fun _ _ _ q9 => absurd q9 id)
  have P0 := P0.frA m2 (oth_me t1 d0)
  have P1 := P1.frA m2 (oth_me t1 d1)
  have r0 : gr w2 me 0 = some a5 := by rw [e2, gr_sr, u2_ne _ _ (Or.inr (by decide))]; exact r0
  have r1 : gr w2 me 1 = some a16 := by rw [e2, gr_sr, u2_at]
  refine kV1 ?_
  refine so_putR (M := mX6_init) (pc := 34) fa_X6_22 (fun _ => ⟨rfl, _, _, rfl⟩) rfl dX6_init_34 k2 ?_
  refine wp_aload_n (M := mX6_init) (pc := 37) dX6_init_37 rfl ?_
  refine wp_new (M := mX6_init) (pc := 38) nw_X6_26 (fun a => (a, 0, 0)) (by decide) (by decide) dX6_init_38 (fun a38 n38 => ?_)
  refine wp_dup (M := mX6_init) (pc := 41) dX6_init_41 rfl ?_
  refine so_INA0 (M := mX6_init) (pc := 42) (4, 168) cs_X6_init_28 (LE rfl) (LE rfl) (LE rfl) (LE rfl) dX6_init_42 ?_
  refine sp_X2_init kd_newk tg_newk new_gi new_gi (fun hsa w3 P3 G3 => ?_)
  have g3 : FrA (fun _ => False) (sr w2 me 2 (some a27)) w3 := (FrA.nw n38).tr G3 (fun y κ e q9 => absurd q9 (nek e n38))
  have k3 : kd w3 me = some (.inl 6) := (g3 me _ k2).1
  have t3 : tg w3 me = (me, 0, 0) := ((g3 me _ k2).2.1).trans t2
  have e3 : gr w3 me = gr (sr w2 me 2 (some a27)) me := ((g3 me _ k2).2.2.2 id).2
  have d3 : me ≠ a38 := nek (show kd (sr w2 me 2 (some a27)) me = some (.inl 6) from k2) n38
  have m3 : FrA (fun x => x = me) w2 w3 := (FrA.sr (S := fun x => x = me) rfl).tr g3 (fun _ _ _ q9 => absurd q9 id)
  have P0 := P0.frA m3 (oth_me t2 d0)
  have P1 := P1.frA m3 (oth_me t2 d1)
  have P2 := P2.frA m3 (oth_me t2 d2)
  have r0 : gr w3 me 0 = some a5 := by rw [e3, gr_sr, u2_ne _ _ (Or.inr (by decide))]; exact r0
  have r1 : gr w3 me 1 = some a16 := by rw [e3, gr_sr, u2_ne _ _ (Or.inr (by decide))]; exact r1
  have r2 : gr w3 me 2 = some a27 := by rw [e3, gr_sr, u2_at]
  refine kV1 ?_
  refine so_putR (M := mX6_init) (pc := 45) fa_X6_29 (fun _ => ⟨rfl, _, _, rfl⟩) rfl dX6_init_45 k3 ?_
  refine wp_aload_n (M := mX6_init) (pc := 48) dX6_init_48 rfl ?_
  refine wp_iconst (M := mX6_init) (pc := 49) (v := 2) dX6_init_49 ci_2 ?_
  refine wp_newA (M := mX6_init) (pc := 50) (tc := 5) (N := 2) (by decide) wk_X6_9 (fun _ => (me, 1, 0)) (by decide) (by decide) (by decide) (by decide) (by decide) dX6_init_50 (fun a50 n50 => ?_)
  generalize ew4 : nw (sr w3 me 3 (some a38)) a50 (.inr (5, 2)) (me, 1, 0) = w4
  have g4 : FrA (fun _ => False) (sr w3 me 3 (some a38)) w4 := by rw [← ew4]; exact FrA.nw n50
  have P4 : kd w4 a50 = some (.inr (5, 2)) ∧ tg w4 a50 = (me, 1, 0) ∧ ∀ j, gr w4 a50 j = none := by rw [← ew4]; exact ⟨kd_newk, tg_newk, fun j => by rw [gr_nw, u1_at]⟩
  have k4 : kd w4 me = some (.inl 6) := (g4 me _ k3).1
  have t4 : tg w4 me = (me, 0, 0) := ((g4 me _ k3).2.1).trans t3
  have e4 : gr w4 me = gr (sr w3 me 3 (some a38)) me := ((g4 me _ k3).2.2.2 id).2
  have d4 : me ≠ a50 := nek (show kd (sr w3 me 3 (some a38)) me = some (.inl 6) from k3) n50
  have m4 : FrA (fun x => x = me) w3 w4 := (FrA.sr (S := fun x => x = me) rfl).tr g4 (fun _ _ _ q9 => absurd q9 id)
  have P0 := P0.frA m4 (oth_me t3 d0)
  have P1 := P1.frA m4 (oth_me t3 d1)
  have P2 := P2.frA m4 (oth_me t3 d2)
  have P3 := P3.frA m4 (oth_me t3 d3) (fun _ _ _ e9 => by cases e9)
  have r0 : gr w4 me 0 = some a5 := by rw [e4, gr_sr, u2_ne _ _ (Or.inr (by decide))]; exact r0
  have r1 : gr w4 me 1 = some a16 := by rw [e4, gr_sr, u2_ne _ _ (Or.inr (by decide))]; exact r1
  have r2 : gr w4 me 2 = some a27 := by rw [e4, gr_sr, u2_ne _ _ (Or.inr (by decide))]; exact r2
  have r3 : gr w4 me 3 = some a38 := by rw [e4, gr_sr, u2_at]
  refine so_putR (M := mX6_init) (pc := 53) fa_X6_33 (fun _ => ⟨rfl, _, _, rfl⟩) rfl dX6_init_53 k4 ?_
  refine wp_aload_n (M := mX6_init) (pc := 56) dX6_init_56 rfl ?_
  refine wp_iconst (M := mX6_init) (pc := 57) (v := 2) dX6_init_57 ci_2 ?_
  refine wp_newZ (M := mX6_init) (pc := 58) (N := 2) wa_boolean (fun _ => (me, 2, 0)) (by decide) (by decide) (by decide) (by decide) (by decide) dX6_init_58 (fun a58 n58 => ?_)
  generalize ew5 : nw (sr w4 me 4 (some a50)) a58 (.inr (1, 2)) (me, 2, 0) = w5
  have g5 : FrA (fun _ => False) (sr w4 me 4 (some a50)) w5 := by rw [← ew5]; exact FrA.nw n58
  have P5 : kd w5 a58 = some (.inr (1, 2)) ∧ tg w5 a58 = (me, 2, 0) := by rw [← ew5]; exact ⟨kd_newk, tg_newk⟩
  have k5 : kd w5 me = some (.inl 6) := (g5 me _ k4).1
  have t5 : tg w5 me = (me, 0, 0) := ((g5 me _ k4).2.1).trans t4
  have e5 : gr w5 me = gr (sr w4 me 4 (some a50)) me := ((g5 me _ k4).2.2.2 id).2
  have d5 : me ≠ a58 := nek (show kd (sr w4 me 4 (some a50)) me = some (.inl 6) from k4) n58
  have m5 : FrA (fun x => x = me) w4 w5 := (FrA.sr (S := fun x => x = me) rfl).tr g5 (fun _ _ _ q9 => absurd q9 id)
  have P0 := P0.frA m5 (oth_me t4 d0)
  have P1 := P1.frA m5 (oth_me t4 d1)
  have P2 := P2.frA m5 (oth_me t4 d2)
  have P3 := P3.frA m5 (oth_me t4 d3) (fun _ _ _ e9 => by cases e9)
  have P4 : kd w5 a50 = some (.inr (5, 2)) ∧ tg w5 a50 = (me, 1, 0) ∧ ∀ j, gr w5 a50 j = none := ⟨(m5 a50 _ P4.1).1, ((m5 a50 _ P4.1).2.1).trans P4.2.1, fun j => by rw [((m5 a50 _ P4.1).2.2.2 (fun e9 => d4 e9.symm)).2]; exact P4.2.2 j⟩
  have r0 : gr w5 me 0 = some a5 := by rw [e5, gr_sr, u2_ne _ _ (Or.inr (by decide))]; exact r0
  have r1 : gr w5 me 1 = some a16 := by rw [e5, gr_sr, u2_ne _ _ (Or.inr (by decide))]; exact r1
  have r2 : gr w5 me 2 = some a27 := by rw [e5, gr_sr, u2_ne _ _ (Or.inr (by decide))]; exact r2
  have r3 : gr w5 me 3 = some a38 := by rw [e5, gr_sr, u2_ne _ _ (Or.inr (by decide))]; exact r3
  have r4 : gr w5 me 4 = some a50 := by rw [e5, gr_sr, u2_at]
  refine so_putR (M := mX6_init) (pc := 60) fa_X6_37 (fun _ => ⟨rfl, _, _, rfl⟩) rfl dX6_init_60 k5 ?_
  refine wp_aload_n (M := mX6_init) (pc := 63) dX6_init_63 rfl ?_
  refine wp_new (M := mX6_init) (pc := 64) nw_X6_41 (fun a => (a, 0, 0)) (by decide) (by decide) dX6_init_64 (fun a64 n64 => ?_)
  refine wp_dup (M := mX6_init) (pc := 67) dX6_init_67 rfl ?_
  refine so_INA0 (M := mX6_init) (pc := 68) (0, 0) cs_X6_init_43 (LE rfl) (LE rfl) (LE rfl) (LE rfl) dX6_init_68 ?_
  refine sp_X1_init kd_newk tg_newk new_gi (fun txa w6 P6 G6 => ?_)
  have g6 : FrA (fun _ => False) (sr w5 me 5 (some a58)) w6 := (FrA.nw n64).tr G6 (fun y κ e q9 => absurd q9 (nek e n64))
  have k6 : kd w6 me = some (.inl 6) := (g6 me _ k5).1
  have t6 : tg w6 me = (me, 0, 0) := ((g6 me _ k5).2.1).trans t5
  have e6 : gr w6 me = gr (sr w5 me 5 (some a58)) me := ((g6 me _ k5).2.2.2 id).2
  have d6 : me ≠ a64 := nek (show kd (sr w5 me 5 (some a58)) me = some (.inl 6) from k5) n64
  have m6 : FrA (fun x => x = me) w5 w6 := (FrA.sr (S := fun x => x = me) rfl).tr g6 (fun _ _ _ q9 => absurd q9 id)
  have P0 := P0.frA m6 (oth_me t5 d0)
  have P1 := P1.frA m6 (oth_me t5 d1)
  have P2 := P2.frA m6 (oth_me t5 d2)
  have P3 := P3.frA m6 (oth_me t5 d3) (fun _ _ _ e9 => by cases e9)
  have P4 : kd w6 a50 = some (.inr (5, 2)) ∧ tg w6 a50 = (me, 1, 0) ∧ ∀ j, gr w6 a50 j = none := ⟨(m6 a50 _ P4.1).1, ((m6 a50 _ P4.1).2.1).trans P4.2.1, fun j => by rw [((m6 a50 _ P4.1).2.2.2 (fun e9 => d4 e9.symm)).2]; exact P4.2.2 j⟩
  have P5 : kd w6 a58 = some (.inr (1, 2)) ∧ tg w6 a58 = (me, 2, 0) := ⟨(m6 a58 _ P5.1).1, ((m6 a58 _ P5.1).2.1).trans P5.2⟩
  have r0 : gr w6 me 0 = some a5 := by rw [e6, gr_sr, u2_ne _ _ (Or.inr (by decide))]; exact r0
  have r1 : gr w6 me 1 = some a16 := by rw [e6, gr_sr, u2_ne _ _ (Or.inr (by decide))]; exact r1
  have r2 : gr w6 me 2 = some a27 := by rw [e6, gr_sr, u2_ne _ _ (Or.inr (by decide))]; exact r2
  have r3 : gr w6 me 3 = some a38 := by rw [e6, gr_sr, u2_ne _ _ (Or.inr (by decide))]; exact r3
  have r4 : gr w6 me 4 = some a50 := by rw [e6, gr_sr, u2_ne _ _ (Or.inr (by decide))]; exact r4
  have r5 : gr w6 me 5 = some a58 := by rw [e6, gr_sr, u2_at]
  refine kV1 ?_
  refine so_putR (M := mX6_init) (pc := 71) fa_X6_44 (fun _ => ⟨rfl, _, _, rfl⟩) rfl dX6_init_71 k6 ?_
  have mf : FrA (fun x => x = me) w6 (sr w6 me 6 (some a64)) := FrA.sr rfl
  have kf : kd (sr w6 me 6 (some a64)) me = some (.inl 6) := k6
  have Lf := P0.frA mf (oth_me t6 d0)
  have rf5 : gr (sr w6 me 6 (some a64)) me 5 = some a58 := by rw [gr_sr, u2_ne _ _ (Or.inr (by decide))]; exact r5
  have rf0 : gr (sr w6 me 6 (some a64)) me 0 = some a5 := by rw [gr_sr, u2_ne _ _ (Or.inr (by decide))]; exact r0
  have Obf : ObC (sr w6 me 6 (some a64)) me a5 a16 a27 a38 a50 a64 := ⟨⟨k6, t6⟩, rf0, by rw [gr_sr, u2_ne _ _ (Or.inr (by decide))]; exact r1, by rw [gr_sr, u2_ne _ _ (Or.inr (by decide))]; exact r2, by rw [gr_sr, u2_ne _ _ (Or.inr (by decide))]; exact r3, by rw [gr_sr, u2_ne _ _ (Or.inr (by decide))]; exact r4, by rw [gr_sr, u2_at]⟩
  have P4f : kd (sr w6 me 6 (some a64)) a50 = some (.inr (5, 2)) ∧ tg (sr w6 me 6 (some a64)) a50 = (me, 1, 0) ∧ ∀ j, gr (sr w6 me 6 (some a64)) a50 j = none := ⟨P4.1, P4.2.1, fun j => by rw [gr_sr, u2_row _ _ (fun e9 => d4 e9.symm)]; exact P4.2.2 j⟩
  refine wp_aload_n (M := mX6_init) (pc := 74) dX6_init_74 rfl ?_
  refine wp_getR (M := mX6_init) (pc := 75) fa_X6_12 rfl dX6_init_75 kf rf0 ?_
  refine wp_iconst (M := mX6_init) (pc := 78) (v := 1) dX6_init_78 ci_1 ?_
  refine wp_iconst (M := mX6_init) (pc := 79) (v := 1) dX6_init_79 ci_1 ?_
  refine wp_iconst (M := mX6_init) (pc := 80) (v := 1) dX6_init_80 ci_1 ?_
  refine wp_iconst (M := mX6_init) (pc := 81) (v := 0) dX6_init_81 ci_0 ?_
  refine so_V4 (M := mX6_init) (pc := 82) cs_X6_init_48 rfl rfl (LE rfl) (LE rfl) dX6_init_82 Lf.1.1 ?_
  refine sp_X4_begin (tm := 1) Lf (fun h7 R7 F7 => ?_)
  have H7 : WP h7 me a5 a16 a27 a38 a50 a64 ka pa fa la hsa txa 0 l0 l1 (fun _ => none) (fun _ => none) (bgA 1 1 1 0, [], fun _ => none, fun _ => 0, 0) :=
    ⟨Obf.fr F7 d0, R7, (P1.frA mf (oth_me t6 d1)).fr F7 dq, (P2.frA mf (oth_me t6 d2)).fr F7 (nk (P2.frA mf (oth_me t6 d2)).1.1 Lf.1.1 (by simp)), (P3.frA mf (oth_me t6 d3) (fun _ _ _ e9 => by cases e9)).frA F7.A (fun y e9 e8 => nk (P3.frA mf (oth_me t6 d3) (fun _ _ _ e9 => by cases e9)).1.1.1 Lf.1.1 (by simp) (e9.symm.trans e8)) (fun _ _ _ e9 => by cases e9), (P6.frA mf (oth_me t6 d6)).fr F7 (nk (P6.frA mf (oth_me t6 d6)).1.1 Lf.1.1 (by simp)), ⟨⟨by rw [F7.1]; exact P4f.1, by rw [F7.2.1]; exact P4f.2.1⟩, a58, ⟨by rw [(F7.2.2.2 me (by rw [show tg (sr w6 me 6 (some a64)) me = (me, 0, 0) from t6]; exact d0)).2]; exact rf5, by rw [F7.1]; exact P5.1, by rw [F7.2.1]; exact P5.2⟩, fun j hj => ⟨by rw [(F7.2.2.2 a50 (by rw [P4f.2.1]; exact d0)).2]; exact P4f.2.2 j, Or.inl ⟨rfl, rfl⟩⟩⟩, dq, fun _ _ _ e9 => (by cases e9), fun _ _ _ e9 => (by cases e9), fun _ _ _ _ _ _ e9 => (by cases e9), fun _ _ e9 => (by cases e9)⟩
  have Oa : Of h h7 := by
    have b0 : FrA (fun x => x = me) h w0 := g0.mono (fun _ e9 => absurd e9 id)
    have b1 := b0.tr m1 (fun _ _ _ e9 => e9)
    have b2 := b1.tr m2 (fun _ _ _ e9 => e9)
    have b3 := b2.tr m3 (fun _ _ _ e9 => e9)
    have b4 := b3.tr m4 (fun _ _ _ e9 => e9)
    have b5 := b4.tr m5 (fun _ _ _ e9 => e9)
    have b6 := b5.tr m6 (fun _ _ _ e9 => e9)
    have b7 := b6.tr mf (fun _ _ _ e9 => e9)
    exact (b7.Of (fun x e9 => by rw [e9, ht]; exact nF hk (by simp) (by simp))).tr (F7.Of (fun z e9 => by rw [e9]; exact nF Lf.1.1 (by simp) (by simp)))
  refine kV ?_
  refine wp_aload_n (M := mX6_init) (pc := 85) dX6_init_85 rfl ?_
  refine wp_getR (M := mX6_init) (pc := 86) fa_X6_12 rfl dX6_init_86 H7.kMe H7.ob.2.1 ?_
  refine wp_iconst (M := mX6_init) (pc := 89) (v := 1) dX6_init_89 ci_1 ?_
  refine wp_iconst (M := mX6_init) (pc := 90) (v := 0) dX6_init_90 ci_0 ?_
  refine wp_iconst (M := mX6_init) (pc := 91) (v := 0) dX6_init_91 ci_0 ?_
  refine so_V3 (M := mX6_init) (pc := 92) cs_X6_init_52 rfl rfl (LE rfl) (LE rfl) dX6_init_92 H7.kQ ?_
  refine sp_X4_addTenant H7.rep (by decide) (fun h8 R8 F8 => ?_)
  refine kV ?_
  refine wp_return (M := mX6_init) (pc := 95) rfl dX6_init_95 ?_
  exact k h8 (H7.q1 F8 R8).wc (Oa.tr (H7.q1O F8))
end SP
