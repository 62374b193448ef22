section SP
variable {E : Ev} {h : PH} {Q : Rt → PH → Prop}
theorem WC.ow {h' : PH} {me m : Nat} {X : Abs} (H : WC h me X) (F : Ow m h h') (hm : kd h m = some (.inl 7)) : WC h' me X := by
  obtain ⟨q, c, u, hi, sl, tx, ka, pa, fa, la, hsa, txa, x, l, lc, cs, ss, H⟩ := H
  obtain ⟨g1, g2, g3, g4, g5, g6, g7⟩ := H.frA (O := fun z => z = m) F.A (fun y e => e)
  have nm : ¬ me = m := nk H.kMe hm (by simp)
  exact WP.wc ⟨g1 nm, g2 (nk H.kQ hm (by simp)), g3 (nk H.kC hm (by simp)), g4 (nk H.kU hm (by simp)), g5 (nk H.kH hm (by simp)) (fun j hj z e1 => nk (H.kS hj e1) hm (by simp)), g6 (nk H.kX hm (by simp)), g7 nm (fun j hj z e1 => nk (H.kL hj e1) hm (by simp)), H.ds⟩
theorem WC.sl {me a k : Nat} {v : Int64} {X : Abs} (H : WC h me X) : WC (sl h a k v) me X := H
theorem WC.kMe {me : Nat} {X : Abs} (H : WC h me X) : kd h me = some (.inl 6) := by
  obtain ⟨q, c, u, hi, sl, tx, ka, pa, fa, la, hsa, txa, x, l, lc, cs, ss, H⟩ := H
  exact H.kMe
theorem WM.sl {me a k : Nat} {ad : Nat → Nat} {v : Int64} {X : Abs} (H : WM h me ad X) : WM (sl h a k v) me ad X := H
theorem WM.kMe {me : Nat} {ad : Nat → Nat} {X : Abs} (H : WM h me ad X) : kd h me = some (.inl 7) := H.1.1.1
theorem WM.of {h' : PH} {me : Nat} {ad : Nat → Nat} {X : Abs} (H : WM h me ad X) (F : Of h h') : WM h' me ad X := by
  have Hm := H.1
  have f1 := F me _ Hm.1.1
  have n1 : ¬ ¬ isF (kd h (tg h me).1) := fun q => q (by rw [Hm.1.2]; exact Or.inl Hm.1.1)
  have e1 := f1.2.2.2 n1
  have fk : ∀ k y, fsz k = some y → kd h' (ad k) = some (.inr y) ∧ tg h' (ad k) = (me, k, 0) ∧ gi h' (ad k) = gi h (ad k) := fun k y e => by
    obtain ⟨a1, a2, a3⟩ := Hm.2 k y e
    have f := F (ad k) _ a2
    have n : ¬ ¬ isF (kd h (tg h (ad k)).1) := fun q => q (by rw [a3]; exact Or.inl Hm.1.1)
    exact ⟨f.1, f.2.1.trans a3, (f.2.2.2 n).1⟩
  have Hm' : MoL h' me ad := ⟨⟨f1.1, f1.2.1.trans Hm.1.2⟩, fun k y e => ⟨by rw [e1.2]; exact (Hm.2 k y e).1, (fk k y e).1, (fk k y e).2.1⟩⟩
  exact H.co Hm' (by rw [e1.1]) (by rw [e1.1]) (by rw [e1.1]) (fk 1 _ rfl).2.2 (fk 3 _ rfl).2.2 (fk 6 _ rfl).2.2 (fk 7 _ rfl).2.2 (fk 8 _ rfl).2.2
theorem WM.of0 {h' : PH} {me : Nat} {ad : Nat → Nat} {X : Abs} (H : WM h me ad X) (F : Of h h') : gi h' me = gi h me := by
  have Hm := H.1
  exact ((F me _ Hm.1.1).2.2.2 (fun q => q (by rw [Hm.1.2]; exact Or.inl Hm.1.1))).1
/-- every state is good -/
def GX (K : Nat) (X : Abs) : Prop := IV K (xA X) ∧ (∀ B ∈ xH X, IV K B) ∧ (∀ j B, xS X j = some B → IV K B) ∧ xn X ≤ 160
theorem GX.more {K K' : Nat} {X : Abs} (H : GX K X) (h : K ≤ K') : GX K' X := ⟨H.1.mored h, fun B hB => (H.2.1 B hB).mored h, fun j B e => (H.2.2.1 j B e).mored h, H.2.2.2⟩
theorem GX.act {K K' : Nat} {X : Abs} {B : Sta} (H : GX K X) (h : K ≤ K') (hB : IV K' B) : GX K' (actX X B) := by
  refine ⟨hB, fun C hC => ?_, fun j C e => (H.2.2.1 j C e).mored h, H.2.2.2⟩
  have := List.mem_of_mem_take hC
  rcases List.mem_cons.mp this with e | e
  · rw [e]; exact H.1.mored h
  · exact (H.2.1 C e).mored h
theorem GX.n6 {K : Nat} {X : Abs} (H : GX K X) : sN (xA X) ≤ 6 := (IW.n6 (A := xA X) H.1).2
theorem GX.o12 {K : Nat} {X : Abs} (H : GX K X) : (sO (xA X)).length ≤ 12 := IW.len (A := xA X) H.1
theorem GX.ini : GX 0 iniX := ⟨ini_ok, (fun B hB => by cases hB), (fun j B e => by cases e), Nat.zero_le _⟩
theorem nIj {i j : Nat} (hi : i < 2 ^ 30) (hj : j < 2 ^ 30) (e : nI i = nI j) : i = j := by
  have := congrArg Int32.toInt e
  rw [nIi (by omega), nIi (by omega)] at this
  omega
theorem wq {w c : Int32} {j b : Nat} (hc : c = nI b) (hb : b < 2 ^ 30) (h : j ≤ b) (e : w = nI j) : wth w 0 c := by
  rw [e, hc]
  exact ⟨leI.mpr (by rw [nIi (by omega), tI0]; omega), leI.mpr (by rw [nIi (by omega), nIi (by omega)]; omega)⟩
theorem wq1 {w c : Int32} {j b : Nat} (hc : c = nI b) (hb : b < 2 ^ 30) (h1 : 1 ≤ j) (h : j ≤ b) (e : w = nI j) : wth w 1 c := by
  rw [e, hc]
  exact ⟨leI.mpr (by rw [nIi (by omega), tI1]; omega), leI.mpr (by rw [nIi (by omega), nIi (by omega)]; omega)⟩
/-- less room is wanted than there is -/
theorem wp_less {M : MX} {pc : Nat} {lo : List (Option Value)} {st : List Value} {r r' : Nat × Nat} (h1 : r'.1 ≤ r.1) (h2 : r'.2 ≤ r.2) (k : WPx E M pc lo st r' h Q) : WPx E M pc lo st r h Q := by
  intro b D cA p l e s m args below meth c H locs cells slots ls C hL hH hS hc hs
  exact k C hL hH hS (by omega) (by omega)
section
variable {M : MX} {pc hp : Nat} {lo : List (Option Value)} {st : List Value} {r : Nat × Nat} {X : String} {z y1 y2 : ExceptionTableEntry} {suf : List ExceptionTableEntry}
theorem cx0 (ht : tableOf (mH M) = z :: suf) (hc : covers z pc = true) (h0 : z.catchType ≠ 0) (hl : Cond.classLink (mN M).cls z.catchType X ∈ gtb) (hx : X ∈ exs) (hh : z.handlerPc = hp) (k : ∀ q : Nat, WPx E M hp lo [.ref q] r h Q) : konX E M pc lo st r Q (.inr X) h :=
  ⟨[], z, suf, ht, hc, h0, hl, hx, (fun y hy => by cases hy), fun q => by rw [hh]; exact k q⟩
theorem cx1 {n1 : String} (ht : tableOf (mH M) = y1 :: z :: suf) (hc : covers z pc = true) (h0 : z.catchType ≠ 0) (hl : Cond.classLink (mN M).cls z.catchType X ∈ gtb) (hx : X ∈ exs) (hh : z.handlerPc = hp) (a0 : y1.catchType ≠ 0) (a1 : n1 ∈ exs) (a2 : X ≠ n1) (a3 : Cond.classLink (mN M).cls y1.catchType n1 ∈ gtb) (k : ∀ q : Nat, WPx E M hp lo [.ref q] r h Q) : konX E M pc lo st r Q (.inr X) h :=
  ⟨[y1], z, suf, ht, hc, h0, hl, hx, fun y hy => by
    rw [List.mem_singleton.mp hy]; exact Or.inr ⟨a0, n1, a1, a2, a3⟩, fun q => by rw [hh]; exact k q⟩
theorem cx2 {n1 n2 : String} (ht : tableOf (mH M) = y1 :: y2 :: z :: suf) (hc : covers z pc = true) (h0 : z.catchType ≠ 0) (hl : Cond.classLink (mN M).cls z.catchType X ∈ gtb) (hx : X ∈ exs) (hh : z.handlerPc = hp) (a0 : y1.catchType ≠ 0) (a1 : n1 ∈ exs) (a2 : X ≠ n1) (a3 : Cond.classLink (mN M).cls y1.catchType n1 ∈ gtb) (b0 : y2.catchType ≠ 0) (b1 : n2 ∈ exs) (b2 : X ≠ n2) (b3 : Cond.classLink (mN M).cls y2.catchType n2 ∈ gtb) (k : ∀ q : Nat, WPx E M hp lo [.ref q] r h Q) : konX E M pc lo st r Q (.inr X) h :=
  ⟨[y1, y2], z, suf, ht, hc, h0, hl, hx, fun y hy => by
    rcases List.mem_cons.mp hy with e | e
    · rw [e]; exact Or.inr ⟨a0, n1, a1, a2, a3⟩
    · rw [List.mem_singleton.mp e]; exact Or.inr ⟨b0, n2, b1, b2, b3⟩, fun q => by rw [hh]; exact k q⟩
end
theorem exIA : "java/lang/IllegalArgumentException" ∈ exs := by decide
theorem exIS : "java/lang/IllegalStateException" ∈ exs := by decide
theorem exIO : "java/lang/IndexOutOfBoundsException" ∈ exs := by decide
end SP
