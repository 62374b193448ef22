section SP
variable {E : Ev} {h : PH} {Q : Rt → PH → Prop}
/-- only ints of the owners in S may have changed -/
def FrI (S : Nat → Prop) (h h' : PH) : Prop := kd h' = kd h ∧ gr h' = gr h ∧ tg h' = tg h ∧ gl h' = gl h ∧ ∀ a, ¬ S (tg h a).1 → gi h' a = gi h a
theorem FrI.fr {S : Nat → Prop} {h h' : PH} (a : FrI S h h') : Fr S h h' := ⟨a.1, a.2.2.1, a.2.2.2.1, fun x hx => ⟨a.2.2.2.2 x hx, by rw [a.2.1]⟩⟩
theorem FrI.rf {S : Nat → Prop} {h : PH} : FrI S h h := ⟨rfl, rfl, rfl, rfl, fun _ _ => rfl⟩
theorem FrI.tr {S : Nat → Prop} {h h1 h2 : PH} (a : FrI S h h1) (b : FrI S h1 h2) : FrI S h h2 :=
  ⟨b.1.trans a.1, b.2.1.trans a.2.1, b.2.2.1.trans a.2.2.1, b.2.2.2.1.trans a.2.2.2.1, fun x hx => (b.2.2.2.2 x (by rw [a.2.2.1]; exact hx)).trans (a.2.2.2.2 x hx)⟩
theorem FrI.si {S : Nat → Prop} {h : PH} {a k : Nat} {v : Int32} (hs : S (tg h a).1) : FrI S h (si h a k v) := ⟨rfl, rfl, rfl, rfl, fun x hx => gi_si_ne _ _ _ (fun e => hx (by rw [e]; exact hs))⟩
theorem FrI.sw {S : Nat → Prop} {h : PH} {a : Nat} {f : Nat → Int32} (hs : S (tg h a).1) : FrI S h (sw h a f) := ⟨rfl, rfl, rfl, rfl, fun x hx => gi_sw_ne _ _ (fun e => hx (by rw [e]; exact hs))⟩
/-- an auction object with its rows, all its own -/
def AuT (h : PH) (u ka pa fa la : Nat) : Prop := AuL h u ka pa fa la ∧ (tg h u).1 = u ∧ (tg h ka).1 = u ∧ (tg h pa).1 = u ∧ (tg h fa).1 = u ∧ (tg h la).1 = u
theorem AuT.mv {S : Nat → Prop} {h h' : PH} {u ka pa fa la : Nat} (H : AuT h u ka pa fa la) (a : FrI S h h') : AuT h' u ka pa fa la := by
  unfold AuT AuL at H ⊢
  rw [a.1, a.2.1, a.2.2.1]
  exact H
theorem AuT.fr {S : Nat → Prop} {h h' : PH} {u ka pa fa la : Nat} (H : AuT h u ka pa fa la) (a : Fr S h h') (hu : ¬ S u) : AuT h' u ka pa fa la := by
  obtain ⟨H1, e0, e1, e2, e3, e4⟩ := H
  unfold AuT AuL at *
  rw [a.1, a.2.1, (a.2.2.2 u (by rw [e0]; exact hu)).2]
  exact ⟨H1, e0, e1, e2, e3, e4⟩
/-- whether a tenant's bit is set -/
abbrev inM (mk : Int32) (w : Nat) : Prop := (mk >>> (nI w &&& 31)) &&& 1 = 1
def bn (A : Sta) (mk : Int32) (i : Nat) : List Ord := ((sO A).take i).filter (fun x => decide (inM mk x.1))
theorem bn_no {A : Sta} {mk : Int32} {i : Nat} (hi : i < (sO A).length) (h : ¬ inM mk (oA A i).1) : bn A mk (i + 1) = bn A mk i := by
  have e : oA A i = (sO A)[i] := by simp [oA, List.getD_eq_getElem?_getD, List.getElem?_eq_getElem hi]
  rw [e] at h
  unfold bn
  rw [List.take_succ_eq_append_getElem hi, List.filter_append]
  simp [h]
theorem bn_ye {A : Sta} {mk : Int32} {i : Nat} (hi : i < (sO A).length) (h : inM mk (oA A i).1) : bn A mk (i + 1) = bn A mk i ++ [oA A i] := by
  have e : oA A i = (sO A)[i] := by simp [oA, List.getD_eq_getElem?_getD, List.getElem?_eq_getElem hi]
  rw [e] at h ⊢
  have hd : decide (inM mk (sO A)[i].1) = true := decide_eq_true h
  unfold bn
  rw [List.take_succ_eq_append_getElem hi, List.filter_append]
  simp only [List.filter_cons, List.filter_nil, hd, if_true]
theorem bn_len (A : Sta) (mk : Int32) (i : Nat) (hi : i ≤ (sO A).length) : (bn A mk i).length ≤ i := by
  have := List.length_filter_le (fun x : Ord => decide (inM mk x.1)) ((sO A).take i)
  rw [List.length_take] at this
  show (((sO A).take i).filter (fun x : Ord => decide (inM mk x.1))).length ≤ i
  omega
/-- the bench holds these orders, nothing matched yet -/
def BR (h : PH) (u ka pa fa la : Nat) (B : List Ord) : Prop := gi h u 4 = nI B.length ∧ B.length ≤ 13 ∧ ∀ j, j < B.length → gi h ka j = nI (B.getD j (0, 0, 0, 0)).2.1 ∧ gi h pa j = (B.getD j (0, 0, 0, 0)).2.2.1 ∧ gi h fa j = 0 ∧ gi h la j = (B.getD j (0, 0, 0, 0)).2.2.2
theorem BR.add {h : PH} {u ka pa fa la : Nat} {B : List Ord} {x : Ord} (hA : AuL h u ka pa fa la) (H : BR h u ka pa fa la B) (h13 : B.length < 13) :
    BR (si (si (si (si (si h ka B.length (nI x.2.1)) pa B.length x.2.2.1) fa B.length 0) la B.length x.2.2.2) u 4 (nI (B.length + 1))) u ka pa fa la (B ++ [x]) := by
  obtain ⟨hk, -, -, ⟨m0, m1, m2, m3⟩, m4, m5, m6, m7, m8, m9⟩ := hA
  obtain ⟨b1, b2, b3⟩ := H
  refine ⟨by rw [gi_si_at, upd_at]; simp, by simp; omega, fun j hj => ?_⟩
  simp only [List.length_append, List.length_singleton] at hj
  simp only [gi_si_ne _ _ _ m0, gi_si_ne _ _ _ m1, gi_si_ne _ _ _ m2, gi_si_ne _ _ _ m3, gi_si_ne _ _ _ m4, gi_si_ne _ _ _ m5, gi_si_ne _ _ _ m6, gi_si_ne _ _ _ m7, gi_si_ne _ _ _ m8, gi_si_ne _ _ _ m9, gi_si_ne _ _ _ m4.symm, gi_si_ne _ _ _ m5.symm, gi_si_ne _ _ _ m6.symm, gi_si_ne _ _ _ m7.symm, gi_si_ne _ _ _ m8.symm, gi_si_ne _ _ _ m9.symm, gi_si_at]
  by_cases e : j = B.length
  · subst e
    simp [upd_at, List.getD_eq_getElem?_getD]
  · have hj2 : j < B.length := by omega
    simp only [upd_ne _ _ e]
    rw [List.getD_eq_getElem?_getD, List.getElem?_append_left hj2, ← List.getD_eq_getElem?_getD]
    exact b3 j hj2
set_option maxHeartbeats 4000000 in
set_option maxRecDepth 100000 in
theorem lp_X0_gather {q : Nat} {l : Lt} {A : Sta} {h0 : PH} {mk : Int32} {u ka pa fa la : Nat} (hR0 : RepC h0 q l A) (hq : u ≠ q) (k : ∀ h', BR h' u ka pa fa la (bn A mk (sO A).length) → FrI (fun x => x = u) h0 h' → Q (.inl none) h') : ∀ (m : Nat) (i : Nat) (h : PH) (x4 : Option Value), (sO A).length - i < m → (i ≤ (sO A).length) → (AuT h u ka pa fa la) → (BR h u ka pa fa la (bn A mk i)) → (FrI (fun x => x = u) h0 h) → WPx E mX0_gather 7 [some (.ref u), some (.ref q), some (.int mk), some (.int (nI i)), x4] [] (0, 0) h Q := by
  intro m
  induction m with
  | zero => intro i h x4 hm; exact absurd hm (Nat.not_lt_zero _)
  | succ m ih =>
    intro i h x4 hm hi hA hB hF
    have hR := hR0.fr hF.fr (fun e => hq e.symm)
    obtain ⟨hL, hN, hT, hO⟩ := hR
    obtain ⟨⟨kq, tq⟩, ⟨rT, kT, tT⟩, ⟨rO, kO, tO⟩, hLT, hLO, hinj⟩ := hL
    obtain ⟨⟨n2, n6⟩, ⟨n3, n12⟩, n4, n5, n6', n7, n8, n9, n10, n11⟩ := hN
    have hbl := bn_len A mk i hi
    obtain ⟨hA1, w0, w1, w2, w3, w4⟩ := id hA
    refine wp_iload_n (M := mX0_gather) (pc := 7) dX0_gather_7 rfl ?_
    refine wp_aload_n (M := mX0_gather) (pc := 8) dX0_gather_8 rfl ?_
    refine wp_getI (M := mX0_gather) (pc := 9) fa_X0_35 rfl dX0_gather_9 (by first | exact kq | exact kO | exact hA1.1 | exact (hLO i (by omega)).2.1) ?_
    refine wp_icmp_ge (M := mX0_gather) (pc := 12) (tgt := 61) dX0_gather_12 rfl (fun t12 => ?_) (fun f12 => ?_)
    · rw [n3] at t12
      have hi2 := n_ge hi (by omega) t12
      subst hi2
      refine wp_return (M := mX0_gather) (pc := 61) rfl dX0_gather_61 ?_
      exact k h hB hF
    · rw [n3] at f12
      have hlt := n_lt hi (by omega) f12
      obtain ⟨⟨o0, o1, o2, o3⟩, o4, o5⟩ := hO i hlt
      refine wp_aload_n (M := mX0_gather) (pc := 15) dX0_gather_15 rfl ?_
      refine wp_getR (M := mX0_gather) (pc := 16) fa_X0_40 rfl dX0_gather_16 (by first | exact kq | exact kO | exact hA1.1 | exact (hLO i (by omega)).2.1) (by first | exact rO | exact (hLO i (by omega)).1) ?_
      refine wp_iload_n (M := mX0_gather) (pc := 19) dX0_gather_19 rfl ?_
      refine wr_aaload (M := mX0_gather) (pc := 20) dX0_gather_20 (by first | exact kq | exact kO | exact hA1.1 | exact (hLO i (by omega)).2.1) (by decide) rfl (by omega) (by decide) (by first | exact rO | exact (hLO i (by omega)).1) ?_
      refine so_astore (M := mX0_gather) (pc := 21) (lo' := [_, _, _, _, _]) dX0_gather_21 (LE rfl) (LE rfl) (Or.inr rfl) rfl ?_
      refine wp_iload_n (M := mX0_gather) (pc := 23) dX0_gather_23 rfl ?_
      refine wp_aload (M := mX0_gather) (pc := 24) dX0_gather_24 rfl ?_
      refine wp_getI (M := mX0_gather) (pc := 26) fa_X0_44 rfl dX0_gather_26 (by first | exact kq | exact kO | exact hA1.1 | exact (hLO i (by omega)).2.1) ?_
      refine wp_ishr (M := mX0_gather) (pc := 29) dX0_gather_29 ?_
      refine wp_iconst (M := mX0_gather) (pc := 30) (v := 1) dX0_gather_30 ci_1 ?_
      refine wp_iand (M := mX0_gather) (pc := 31) dX0_gather_31 ?_
      refine wp_iconst (M := mX0_gather) (pc := 32) (v := 1) dX0_gather_32 ci_1 ?_
      refine wp_icmp_ne (M := mX0_gather) (pc := 33) (tgt := 55) dX0_gather_33 rfl (fun t33 => ?_) (fun f33 => ?_)
      · rw [o0] at t33
        refine so_iinc (M := mX0_gather) (pc := 55) (lo' := [_, _, _, _, _]) dX0_gather_55 rfl ci_1 (LE rfl) rfl ?_
        refine wp_goto (M := mX0_gather) (pc := 58) (tgt := 7) dX0_gather_58 rfl ?_
        first
        | (rw [show nI i + 1 = nI (i + 1) from nI_1 i]
           exact ih (i + 1) _ _ (by omega) (by omega) hA (by rw [bn_no hlt t33]; exact hB) hF)
        | (rw [show nI i + 1 = nI (i + 1) from nI_1 i, o1, o2, o3]
           have F1 : FrI (fun x => x = u) h (si (si (si (si (si h ka (bn A mk i).length (nI (oA A i).2.1)) pa (bn A mk i).length (oA A i).2.2.1) fa (bn A mk i).length 0) la (bn A mk i).length (oA A i).2.2.2) u 4 (nI ((bn A mk i).length + 1))) := ((FrI.si w1).tr (FrI.si w2)).tr (((FrI.si w3).tr (FrI.si w4)).tr (FrI.si w0))
           exact ih (i + 1) _ _ (by omega) (by omega) (hA.mv F1) (by rw [bn_ye hlt f33]; exact hB.add hA1 (by omega)) (hF.tr F1))
        | fail "leaf"
      · rw [o0] at f33
        refine wp_aload_n (M := mX0_gather) (pc := 36) dX0_gather_36 rfl ?_
        refine wp_aload (M := mX0_gather) (pc := 37) dX0_gather_37 rfl ?_
        refine wp_getI (M := mX0_gather) (pc := 39) fa_X0_49 rfl dX0_gather_39 (by first | exact kq | exact kO | exact hA1.1 | exact (hLO i (by omega)).2.1) ?_
        refine wp_aload (M := mX0_gather) (pc := 42) dX0_gather_42 rfl ?_
        refine wp_getI (M := mX0_gather) (pc := 44) fa_X0_52 rfl dX0_gather_44 (by first | exact kq | exact kO | exact hA1.1 | exact (hLO i (by omega)).2.1) ?_
        refine wp_aload (M := mX0_gather) (pc := 47) dX0_gather_47 rfl ?_
        refine wp_getI (M := mX0_gather) (pc := 49) fa_X0_55 rfl dX0_gather_49 (by first | exact kq | exact kO | exact hA1.1 | exact (hLO i (by omega)).2.1) ?_
        refine so_V3 (M := mX0_gather) (pc := 52) cs_X0_gather_58 rfl rfl (LE rfl) (LE rfl) dX0_gather_52 (by first | exact kq | exact kO | exact hA1.1 | exact (hLO i (by omega)).2.1) ?_
        refine sp_X0_add hA1 hB.1 (by omega) ?_
        refine kV ?_
        refine so_iinc (M := mX0_gather) (pc := 55) (lo' := [_, _, _, _, _]) dX0_gather_55 rfl ci_1 (LE rfl) rfl ?_
        refine wp_goto (M := mX0_gather) (pc := 58) (tgt := 7) dX0_gather_58 rfl ?_
        first
        | (rw [show nI i + 1 = nI (i + 1) from nI_1 i]
           exact ih (i + 1) _ _ (by omega) (by omega) hA (by rw [bn_no hlt t33]; exact hB) hF)
        | (rw [show nI i + 1 = nI (i + 1) from nI_1 i, o1, o2, o3]
           have F1 : FrI (fun x => x = u) h (si (si (si (si (si h ka (bn A mk i).length (nI (oA A i).2.1)) pa (bn A mk i).length (oA A i).2.2.1) fa (bn A mk i).length 0) la (bn A mk i).length (oA A i).2.2.2) u 4 (nI ((bn A mk i).length + 1))) := ((FrI.si w1).tr (FrI.si w2)).tr (((FrI.si w3).tr (FrI.si w4)).tr (FrI.si w0))
           exact ih (i + 1) _ _ (by omega) (by omega) (hA.mv F1) (by rw [bn_ye hlt f33]; exact hB.add hA1 (by omega)) (hF.tr F1))
        | fail "leaf"
set_option maxHeartbeats 4000000 in
set_option maxRecDepth 100000 in
theorem sp_X0_gather {q : Nat} {l : Lt} {A : Sta} {mk : Int32} {u ka pa fa la : Nat} (hR : RepC h q l A) (hA : AuT h u ka pa fa la) (hq : u ≠ q) (k : ∀ h', BR h' u ka pa fa la (bn A mk (sO A).length) → FrI (fun x => x = u) h h' → Q (.inl none) h') : WPx E mX0_gather 0 [some (.ref u), some (.ref q), some (.int mk), none, none] [] (0, 0) h Q := by
  refine wp_aload_n (M := mX0_gather) (pc := 0) dX0_gather_0 rfl ?_
  refine wp_iconst (M := mX0_gather) (pc := 1) (v := 0) dX0_gather_1 ci_0 ?_
  refine wp_putI (M := mX0_gather) (pc := 2) fa_X0_31 (Or.inl rfl) dX0_gather_2 hA.1.1 ?_
  refine wp_iconst (M := mX0_gather) (pc := 5) (v := 0) dX0_gather_5 ci_0 ?_
  refine so_istore_n (M := mX0_gather) (pc := 6) (lo' := [_, _, _, _, _]) dX0_gather_6 (LE rfl) (LE rfl) (Or.inr rfl) rfl ?_
  refine lp_X0_gather (h0 := h) hR hq k ((sO A).length + 1) 0 _ none (by omega) (by omega) hA ⟨by rw [gi_si_at, upd_at]; rfl, by simp [bn], fun j hj => by simp [bn] at hj⟩ (FrI.si hA.2.1)
/-! matching looks only at the first n -/
theorem if_cg {P P' : Prop} [Decidable P] [Decidable P'] {α : Type} {x y y' : α} (h : P ↔ P') (e : y = y') : (if P then x else y) = (if P' then x else y') := by
  by_cases p : P
  · rw [if_pos p, if_pos (h.mp p)]
  · rw [if_neg p, if_neg (fun q => p (h.mpr q)), e]
theorem fb_congr {ks ps ls ks' ps' ls' : Nat → Int32} : ∀ (n : Nat), (∀ j, j < n → ks j = ks' j ∧ ps j = ps' j ∧ ls j = ls' j) → fb ks ps ls n = fb ks' ps' ls' n
  | 0, _ => rfl
  | n + 1, h => by
    have ih := fb_congr n (fun j hj => h j (by omega))
    obtain ⟨e1, e2, e3⟩ := h n (by omega)
    unfold fb
    rw [ih, e1, e3]
    have : (∀ f, fb ks' ps' ls' n = some f → ps f < ps n) ↔ (∀ f, fb ks' ps' ls' n = some f → ps' f < ps' n) := by
      constructor
      · intro q f hf; rw [← (h f (by have := fb_lt hf; omega)).2.1, ← e2]; exact q f hf
      · intro q f hf; rw [(h f (by have := fb_lt hf; omega)).2.1, e2]; exact q f hf
    simp only [this]
theorem fk_congr {ks ps ls ks' ps' ls' : Nat → Int32} : ∀ (n : Nat), (∀ j, j < n → ks j = ks' j ∧ ps j = ps' j ∧ ls j = ls' j) → fk ks ps ls n = fk ks' ps' ls' n
  | 0, _ => rfl
  | n + 1, h => by
    have ih := fk_congr n (fun j hj => h j (by omega))
    obtain ⟨e1, e2, e3⟩ := h n (by omega)
    unfold fk
    refine if_cg ?_ ih
    rw [e1, e3, ih]
    have : (∀ f, fk ks' ps' ls' n = some f → askB ks ps n f) ↔ (∀ f, fk ks' ps' ls' n = some f → askB ks' ps' n f) := by
      constructor
      · intro q f hf
        have hf2 := h f (by have := fk_lt hf; omega)
        have := q f hf
        unfold askB at this ⊢
        rw [← hf2.2.1, ← e2, ← hf2.1, ← e1]; exact this
      · intro q f hf
        have hf2 := h f (by have := fk_lt hf; omega)
        have := q f hf
        unfold askB at this ⊢
        rw [hf2.2.1, e2, hf2.1, e1]; exact this
    rw [this]
def msE (n : Nat) (s s' : MS) : Prop := (∀ j, j < n → s.1 j = s'.1 j ∧ s.2.1 j = s'.2.1 j) ∧ s.2.2 = s'.2.2
theorem upd_c {f g : Nat → Int32} {n k : Nat} {x y : Int32} (h : ∀ j, j < n → f j = g j) (e : x = y) : ∀ j, j < n → upd f k x j = upd g k y j := by
  intro j hj
  by_cases q : j = k
  · subst q; rw [upd_at, upd_at, e]
  · rw [upd_ne _ _ q, upd_ne _ _ q, h j hj]
theorem mnext_c {n : Nat} {ps ps' : Nat → Int32} {s s' : MS} (hp : ∀ j, j < n → ps j = ps' j) (hs : msE n s s') {b a : Nat} (hb : b < n) (ha : a < n) : msE n (mnext ps s b a) (mnext ps' s' b a) := by
  obtain ⟨h1, h2⟩ := hs
  obtain ⟨b1, b2⟩ := h1 b hb
  obtain ⟨a1, a2⟩ := h1 a ha
  have hf : ∀ j, j < n → s.1 j = s'.1 j := fun j hj => (h1 j hj).1
  have hl : ∀ j, j < n → s.2.1 j = s'.2.1 j := fun j hj => (h1 j hj).2
  have ex : imin (s.2.1 b) (s.2.1 a) = imin (s'.2.1 b) (s'.2.1 a) := by rw [b2, a2]
  have u1 := upd_c (k := b) (x := s.1 b + imin (s.2.1 b) (s.2.1 a)) (y := s'.1 b + imin (s'.2.1 b) (s'.2.1 a)) hf (by rw [b1, ex])
  have u2 := upd_c (k := b) (x := s.2.1 b - imin (s.2.1 b) (s.2.1 a)) (y := s'.2.1 b - imin (s'.2.1 b) (s'.2.1 a)) hl (by rw [ex, b2])
  refine ⟨fun j hj => ⟨?_, ?_⟩, ?_⟩
  · exact upd_c u1 (by rw [u1 a ha, ex]) j hj
  · exact upd_c u2 (by rw [u2 a ha, ex]) j hj
  · unfold mnext
    rw [ex, h2, hp b hb, hp a ha]
theorem mrun_c {n : Nat} {ks ps ks' ps' : Nat → Int32} (hk : ∀ j, j < n → ks j = ks' j ∧ ps j = ps' j) : ∀ (k : Nat) (s s' : MS), msE n s s' → msE n (mrun n ks ps k s) (mrun n ks' ps' k s')
  | 0, s, s', h => h
  | k + 1, s, s', h => by
    have e1 := fb_congr (ks := ks) (ps := ps) (ls := s.2.1) (ks' := ks') (ps' := ps') (ls' := s'.2.1) n (fun j hj => ⟨(hk j hj).1, (hk j hj).2, (h.1 j hj).2⟩)
    have e2 := fk_congr (ks := ks) (ps := ps) (ls := s.2.1) (ks' := ks') (ps' := ps') (ls' := s'.2.1) n (fun j hj => ⟨(hk j hj).1, (hk j hj).2, (h.1 j hj).2⟩)
    unfold mrun mstep
    rw [e1, e2]
    cases hb : fb ks' ps' s'.2.1 n with
    | none => exact h
    | some b =>
      cases ha : fk ks' ps' s'.2.1 n with
      | none => exact h
      | some a =>
        have hbn := fb_lt hb
        have han := fk_lt ha
        simp only
        rw [(hk a han).2, (hk b hbn).2]
        by_cases q : ps' a ≤ ps' b
        · rw [if_pos q, if_pos q]
          exact mrun_c hk k _ _ (mnext_c (fun j hj => (hk j hj).2) h hbn han)
        · rw [if_neg q, if_neg q]
          exact h
/-- the matching of these orders -/
def kB (B : List Ord) (j : Nat) : Int32 := nI (B.getD j (0, 0, 0, 0)).2.1
def pB (B : List Ord) (j : Nat) : Int32 := (B.getD j (0, 0, 0, 0)).2.2.1
def qB (B : List Ord) (j : Nat) : Int32 := (B.getD j (0, 0, 0, 0)).2.2.2
def matchB (B : List Ord) : MS := mrun B.length (kB B) (pB B) 13 (fun _ => 0, qB B, 0, -9, 0)
def MR (h : PH) (u fa la n : Nat) (M : MS) : Prop := gi h u 4 = nI n ∧ (∀ j, j < n → gi h fa j = M.1 j ∧ gi h la j = M.2.1 j) ∧ gi h u 5 = M.2.2.1 ∧ gi h u 6 = M.2.2.2.1 ∧ gi h u 7 = M.2.2.2.2
theorem sb_match {u ka pa fa la : Nat} {B : List Ord} (hA : AuT h u ka pa fa la) (hB : BR h u ka pa fa la B) (k : ∀ h', MR h' u fa la B.length (matchB B) → FrI (fun x => x = u) h h' → Q (.inl none) h') : WPx E mX0_match 0 [some (.ref u), none, none, none, none] [] (0, 0) h Q := by
  refine sp_X0_match hA.1 hB.1 hB.2.1 ?_
  have hc := mrun_c (n := B.length) (ks := gi h ka) (ps := gi h pa) (ks' := kB B) (ps' := pB B) (fun j hj => ⟨(hB.2.2 j hj).1, (hB.2.2 j hj).2.1⟩) 13 (gi h fa, gi h la, 0, -9, 0) (fun _ => 0, qB B, 0, -9, 0) ⟨fun j hj => ⟨(hB.2.2 j hj).2.2.1, (hB.2.2 j hj).2.2.2⟩, rfl⟩
  obtain ⟨hA1, w0, w1, w2, w3, w4⟩ := hA
  obtain ⟨hk, -, -, ⟨m0, m1, m2, m3⟩, m4, m5, m6, m7, m8, m9⟩ := hA1
  refine k _ ⟨?_, fun j hj => ⟨?_, ?_⟩, ?_, ?_, ?_⟩ (((FrI.sw w3).tr (FrI.sw w4)).tr (FrI.sw w0))
  · rw [auH_u, upd_ne _ _ (by decide), upd_ne _ _ (by decide), upd_ne _ _ (by decide)]; exact hB.1
  · rw [auH_fa _ _ m2 m9.symm]; exact (hc.1 j hj).1
  · rw [auH_la _ _ m3]; exact (hc.1 j hj).2
  · rw [auH_u, upd_ne _ _ (by decide), upd_ne _ _ (by decide), upd_at, hc.2]; rfl
  · rw [auH_u, upd_ne _ _ (by decide), upd_at, hc.2]; rfl
  · rw [auH_u, upd_at, hc.2]; rfl
theorem bn_63 {A : Sta} (h6 : sN A ≤ 6) (hw : ∀ i, i < (sO A).length → (oA A i).1 < sN A) : bn A 63 (sO A).length = sO A := by
  unfold bn
  rw [List.take_length, List.filter_eq_self]
  intro x hx
  obtain ⟨i, hi⟩ := List.getElem?_of_mem hx
  have hl := (List.getElem?_eq_some_iff.mp hi).1
  have := hw i hl
  have e : oA A i = x := by simp [oA, List.getD_eq_getElem?_getD, hi]
  rw [e] at this
  have h2 : x.1 < 6 := by omega
  have : ∀ w, w < 6 → inM 63 w := by decide
  exact decide_eq_true (this _ h2)
set_option maxHeartbeats 4000000 in
set_option maxRecDepth 100000 in
theorem sp_X0_hold {q : Nat} {l : Lt} {A : Sta} {u ka pa fa la : Nat} (hR : RepC h q l A) (hA : AuT h u ka pa fa la) (hq : u ≠ q) (k : ∀ h', MR h' u fa la (sO A).length (matchB (sO A)) → FrI (fun x => x = u) h h' → Q (.inl none) h') : WPx E mX0_hold 0 [some (.ref u), some (.ref q)] [] (0, 0) h Q := by
  refine wp_aload_n (M := mX0_hold) (pc := 0) dX0_hold_0 rfl ?_
  refine wp_aload_n (M := mX0_hold) (pc := 1) dX0_hold_1 rfl ?_
  refine wp_bipush (M := mX0_hold) (pc := 2) (v := 63) dX0_hold_2 cb_63 ?_
  refine so_V2 (M := mX0_hold) (pc := 4) cs_X0_hold_24 rfl rfl (LE rfl) (LE rfl) dX0_hold_4 hA.1.1 ?_
  refine sp_X0_gather hR hA hq (fun h1 b1 f1 => ?_)
  refine kV ?_
  refine wp_aload_n (M := mX0_hold) (pc := 7) dX0_hold_7 rfl ?_
  refine so_V0 (M := mX0_hold) (pc := 8) cs_X0_hold_28 rfl rfl (LE rfl) (LE rfl) dX0_hold_8 (hA.mv f1).1.1 ?_
  refine sb_match (hA.mv f1) (by rw [bn_63 hR.2.1.1.2 (fun i hi => (hR.2.2.2 i hi).2.1)] at b1; exact b1) (fun h2 b2 f2 => ?_)
  refine kV ?_
  refine wp_return (M := mX0_hold) (pc := 11) rfl dX0_hold_11 ?_
  exact k h2 b2 (f1.tr f2)
end SP
