section SP
variable {E : Ev} {h : PH} {Q : Rt → PH → Prop}
theorem imin_m (a b : Int32) : (imin a b).toInt = min a.toInt b.toInt := by
  have := imin_i a b
  omega
theorem wth_s {v : Int32} {a b : Int32} (h : wth v a b) : a.toInt ≤ v.toInt ∧ v.toInt ≤ b.toInt := ⟨leI.mp h.1, leI.mp h.2⟩
theorem zs_osum (c : Ord → Int) (l : List Ord) : ∀ i, i ≤ l.length → zs (fun j => c (l.getD j (0, 0, 0, 0))) i = osum c (l.take i)
  | 0, _ => by rw [List.take_zero]; rfl
  | i + 1, h => by
    have e : l.take (i + 1) = l.take i ++ [l.getD i (0, 0, 0, 0)] := by
      rw [List.getD_eq_getElem?_getD, List.getElem?_eq_getElem (by omega), List.take_add_one, List.getElem?_eq_getElem (by omega)]; rfl
    rw [zs, zs_osum c l i (by omega), e, osum_app]
/-- a sum over the orders, as an integer -/
theorem osm_i {A : Sta} {g : Ord → Int32} {c : Ord → Int} {b : Int} (hb : 0 ≤ b) (hb2 : b < 100000000) (hl : (sO A).length ≤ 12) (h : ∀ x ∈ sO A, (g x).toInt = c x ∧ 0 ≤ c x ∧ c x ≤ b) : (osm g A (sO A).length).toInt = osum c (sO A) ∧ 0 ≤ osum c (sO A) ∧ osum c (sO A) ≤ 12 * b := by
  have hm : b * ((sO A).length : Int) ≤ b * 12 := Int.mul_le_mul_of_nonneg_left (by omega) hb
  obtain ⟨h1, h2, h3⟩ := sm_z (g := fun j => g (oA A j)) (c := b) hb (sO A).length (fun y hy => by
    have : (g (oA A y)).toInt = c (oA A y) ∧ 0 ≤ c (oA A y) ∧ c (oA A y) ≤ b := h _ (getD_mem (d := (0, 0, 0, 0)) hy)
    show 0 ≤ (g (oA A y)).toInt ∧ (g (oA A y)).toInt ≤ b
    omega) (by omega)
  have e : zs (fun y => (g (oA A y)).toInt) (sO A).length = osum c (sO A) := by
    rw [zs_eq (g := fun j => c ((sO A).getD j (0, 0, 0, 0))) _ (fun y hy => (h _ (getD_mem hy)).1), zs_osum c _ _ (Nat.le_refl _), List.take_length]
  rw [e] at h1 h2 h3
  exact ⟨h1, h2, by omega⟩
theorem qty_i {K lo : Nat} {w : Int} {A : Sta} (H : IW K lo w A) (hw : 0 ≤ w) (t : Nat) : (qtyOf A t 2).toInt = osum (oc2 t) (sO A) ∧ 0 ≤ osum (oc2 t) (sO A) := by
  have := osm_i (A := A) (g := gq t 2) (c := oc2 t) (b := 99) (by decide) (by decide) H.len (fun x hx => by
    have := (H.ord x hx).2.2.2
    unfold gq oc2; split
    · exact ⟨rfl, by omega, by omega⟩
    · exact ⟨rfl, by omega, by omega⟩)
  exact ⟨this.1, this.2.1⟩
theorem dsum_i : ∀ {l : List (Int32 × Nat)}, (∀ x ∈ l, 1 ≤ x.1.toInt) → dsI l ≤ 99 → (dsum l).toInt = dsI l
  | [], _, _ => rfl
  | y :: r, h, hb => by
    have h1 := h y List.mem_cons_self
    have h2 := dsI_nn (l := r) (fun x q => h x (List.mem_cons_of_mem _ q))
    rw [dsI] at hb ⊢
    have ih := dsum_i (l := r) (fun x q => h x (List.mem_cons_of_mem _ q)) (by omega)
    rw [dsum, aI (by omega) (by omega), ih]
/-- taking credits -/
theorem tk_i {f : Nat → Int32} {n : Int32} (h2 : 0 ≤ (f 2).toInt) (h3 : 0 ≤ (f 3).toInt) (hn : 0 ≤ n.toInt) :
    (tkF f n 3).toInt = (f 3).toInt - min (f 3).toInt n.toInt ∧ (tkF f n 2).toInt = (f 2).toInt - min (f 2).toInt (n.toInt - min (f 3).toInt n.toInt) ∧ (∀ k, k ≠ 2 → k ≠ 3 → tkF f n k = f k) ∧ (tkT f n).toInt = min (f 3).toInt n.toInt + min (f 2).toInt (n.toInt - min (f 3).toInt n.toInt) := by
  have b3 := Int32.toInt_lt (f 3)
  have b2 := Int32.toInt_lt (f 2)
  have bn := Int32.toInt_lt n
  have e1 := imin_m (f 3) n
  have e2 : (n - imin (f 3) n).toInt = n.toInt - min (f 3).toInt n.toInt := by rw [sI (by omega) (by omega), e1]
  have e3 := imin_m (f 2) (n - imin (f 3) n)
  rw [e2] at e3
  refine ⟨?_, ?_, fun k a b => ?_, ?_⟩
  · unfold tkF; rw [up_o (by decide), up_s, sI (by omega) (by omega), e1]
  · unfold tkF; rw [up_s, sI (by omega) (by omega), e3]
  · unfold tkF; rw [up_o a, up_o b]
  · unfold tkT; rw [aI (by omega) (by omega), e1, e3]
theorem IT.take {K lo hi : Nat} {q s : Int} {T : Ten} {n : Int32} (H : IT K lo hi q s T) (hn : 0 ≤ n.toInt) : IT K lo hi q s (tkF T.1 n, T.2) := by
  obtain ⟨t1, t2, t3, t4⟩ := tk_i (n := n) H.lev.1 H.stk.1 hn
  have := H.lev
  have := H.stk
  refine ⟨?_, ?_, ?_, ?_, ?_, ?_, H.msl, H.msg, H.deb, H.srt, H.dsm⟩
  · show 1 ≤ (tkF T.1 n 0).toInt ∧ _; rw [t3 0 (by decide) (by decide)]; exact H.cap
  · show 0 ≤ (tkF T.1 n 1).toInt ∧ _; rw [t3 1 (by decide) (by decide)]; exact H.rate
  · show 0 ≤ (tkF T.1 n 2).toInt ∧ (tkF T.1 n 2).toInt ≤ 999; omega
  · show 0 ≤ (tkF T.1 n 3).toInt ∧ (tkF T.1 n 3).toInt + q ≤ 99 * K; omega
  · show 0 ≤ (tkF T.1 n 4).toInt ∧ _; rw [t3 4 (by decide) (by decide)]; exact H.csh
  · show 0 ≤ (tkF T.1 n 5).toInt ∧ _; rw [t3 5 (by decide) (by decide)]; exact H.snt
/-- one number of a tenant changes -/
theorem IT.cash {K K' lo hi : Nat} {q s q' s' : Int} {T : Ten} {v : Int32} (H : IT K lo hi q s T) (hK : K ≤ K') (h1 : 0 ≤ v.toInt) (h2 : v.toInt + 99 * q' ≤ 9999 * (K' + 1)) (h3 : (T.1 3).toInt + q' ≤ 99 * K') (h4 : dsI T.2.2 + s' ≤ 99) : IT K' lo hi q' s' (upd T.1 4 v, T.2) := by
  have H := H.more hK
  refine ⟨?_, ?_, ?_, ?_, ?_, ?_, H.msl, H.msg, H.deb, H.srt, h4⟩
  · show 1 ≤ (upd T.1 4 v 0).toInt ∧ _; rw [up_o (by decide)]; exact H.cap
  · show 0 ≤ (upd T.1 4 v 1).toInt ∧ _; rw [up_o (by decide)]; exact H.rate
  · show 0 ≤ (upd T.1 4 v 2).toInt ∧ _; rw [up_o (by decide)]; exact H.lev
  · show 0 ≤ (upd T.1 4 v 3).toInt ∧ (upd T.1 4 v 3).toInt + _ ≤ _; rw [up_o (by decide)]; exact ⟨H.stk.1, h3⟩
  · show 0 ≤ (upd T.1 4 v 4).toInt ∧ (upd T.1 4 v 4).toInt + _ ≤ _; rw [up_s]; exact ⟨h1, h2⟩
  · show 0 ≤ (upd T.1 4 v 5).toInt ∧ (upd T.1 4 v 5).toInt + _ ≤ _; rw [up_o (by decide)]; exact H.snt
theorem IT.stock {K K' lo hi : Nat} {q s q' s' : Int} {T : Ten} {v : Int32} (H : IT K lo hi q s T) (hK : K ≤ K') (h1 : 0 ≤ v.toInt) (h2 : v.toInt + q' ≤ 99 * K') (h3 : (T.1 4).toInt + 99 * q' ≤ 9999 * (K' + 1)) (h4 : dsI T.2.2 + s' ≤ 99) : IT K' lo hi q' s' (upd T.1 3 v, T.2) := by
  have H := H.more hK
  refine ⟨?_, ?_, ?_, ?_, ?_, ?_, H.msl, H.msg, H.deb, H.srt, h4⟩
  · show 1 ≤ (upd T.1 3 v 0).toInt ∧ _; rw [up_o (by decide)]; exact H.cap
  · show 0 ≤ (upd T.1 3 v 1).toInt ∧ _; rw [up_o (by decide)]; exact H.rate
  · show 0 ≤ (upd T.1 3 v 2).toInt ∧ _; rw [up_o (by decide)]; exact H.lev
  · show 0 ≤ (upd T.1 3 v 3).toInt ∧ (upd T.1 3 v 3).toInt + _ ≤ _; rw [up_s]; exact ⟨h1, h2⟩
  · show 0 ≤ (upd T.1 3 v 4).toInt ∧ (upd T.1 3 v 4).toInt + _ ≤ _; rw [up_o (by decide)]; exact ⟨H.csh.1, h3⟩
  · show 0 ≤ (upd T.1 3 v 5).toInt ∧ (upd T.1 3 v 5).toInt + _ ≤ _; rw [up_o (by decide)]; exact H.snt
theorem IT.ords {K K' lo hi : Nat} {q s q' s' : Int} {T : Ten} (H : IT K lo hi q s T) (hK : K ≤ K') (h2 : (T.1 4).toInt + 99 * q' ≤ 9999 * (K' + 1)) (h3 : (T.1 3).toInt + q' ≤ 99 * K') (h4 : dsI T.2.2 + s' ≤ 99) : IT K' lo hi q' s' T :=
  ⟨H.cap, H.rate, H.lev, ⟨H.stk.1, h3⟩, ⟨H.csh.1, h2⟩, (H.more hK).snt, H.msl, H.msg, H.deb, H.srt, h4⟩
theorem IV.push {K : Nat} {A : Sta} {t : Nat} {z : Int32} (H : IV K A) (ht : t < sN A) (hz : wth z 1 99) (h8 : (sT A t).2.1.length < 8) : IV (K + 1) (pushA A t z) := by
  have z1 := wth_i hz
  have T := (IW.ten H t ht).more (Nat.le_succ K)
  have T0 := (IW.ten H t ht).snt
  refine IW.one H (Nat.le_succ K) ⟨T.cap, T.rate, T.lev, T.stk, T.csh, ⟨T.snt.1, ?_⟩, ?_, fun m hm => ?_, T.deb, T.srt, T.dsm⟩
  · show _ + msI ((sT A t).2.1 ++ [z]) ≤ _; rw [msI_app]; show ((sT A t).1 5).toInt + _ ≤ _; omega
  · show ((sT A t).2.1 ++ [z]).length ≤ 8; rw [List.length_append, List.length_singleton]; omega
  · rcases List.mem_append.mp hm with q | q
    · exact T.msg m q
    · rw [List.mem_singleton.mp q]; exact z1
theorem IV.deposit {K : Nat} {A : Sta} {t : Nat} {z : Int32} (H : IV K A) (hK : K ≤ 100000) (ht : t < sN A) (hz : wth z 1 9999) : IV (K + 1) (wF A t 4 (fT A t 4 + z)) := by
  have z1 := wth_s hz
  have z2 : (1 : Int32).toInt = 1 ∧ (9999 : Int32).toInt = 9999 := ⟨rfl, rfl⟩
  have T := IW.ten H t ht
  have nn := osum_nn (IW.nn H (by decide) t).1
  have c1 := T.csh
  have c2 := T.stk
  have e : (fT A t 4 + z).toInt = (fT A t 4).toInt + z.toInt := aI (by show _ ≤ ((sT A t).1 4).toInt + _; omega) (by show ((sT A t).1 4).toInt + _ < _; omega)
  refine IW.one H (Nat.le_succ K) (T.cash (Nat.le_succ K) ?_ ?_ ?_ T.dsm)
  · rw [e]; show 0 ≤ ((sT A t).1 4).toInt + _; omega
  · rw [e]; show ((sT A t).1 4).toInt + _ + _ ≤ _; omega
  · omega
theorem IV.setRate {K : Nat} {A : Sta} {t : Nat} {z : Int32} (H : IV K A) (ht : t < sN A) (hz : wth z 0 99) : IV K (wF A t 1 z) := by
  have z1 := wth_s hz
  have z2 : (0 : Int32).toInt = 0 ∧ (99 : Int32).toInt = 99 := ⟨rfl, rfl⟩
  have T := IW.ten H t ht
  refine IW.one H (Nat.le_refl K) ⟨?_, ?_, ?_, ?_, ?_, ?_, T.msl, T.msg, T.deb, T.srt, T.dsm⟩
  · show 1 ≤ (upd (sT A t).1 1 z 0).toInt ∧ _; rw [up_o (by decide)]; exact T.cap
  · show 0 ≤ (upd (sT A t).1 1 z 1).toInt ∧ (upd (sT A t).1 1 z 1).toInt ≤ 99; rw [up_s]; omega
  · show 0 ≤ (upd (sT A t).1 1 z 2).toInt ∧ _; rw [up_o (by decide)]; exact T.lev
  · show 0 ≤ (upd (sT A t).1 1 z 3).toInt ∧ (upd (sT A t).1 1 z 3).toInt + _ ≤ _; rw [up_o (by decide)]; exact T.stk
  · show 0 ≤ (upd (sT A t).1 1 z 4).toInt ∧ (upd (sT A t).1 1 z 4).toInt + _ ≤ _; rw [up_o (by decide)]; exact T.csh
  · show 0 ≤ (upd (sT A t).1 1 z 5).toInt ∧ (upd (sT A t).1 1 z 5).toInt + _ ≤ _; rw [up_o (by decide)]; exact T.snt
theorem IV.setWidth {K : Nat} {A : Sta} {z : Int32} (H : IV K A) (hz : wth z 1 999) : IV K (wG A 1 z) := by
  have z1 := wth_s hz
  have z2 : (1 : Int32).toInt = 1 ∧ (999 : Int32).toInt = 999 := ⟨rfl, rfl⟩
  refine ⟨IW.n6 (A := A) H, IW.tm (A := A) H, IW.ti (A := A) H, ?_, ?_, ?_, ?_, IW.len (A := A) H, IW.ord (A := A) H, IW.ten (A := A) H⟩
  · show 1 ≤ (upd (sG A) 1 z 1).toInt ∧ (upd (sG A) 1 z 1).toInt ≤ 999; rw [up_s]; omega
  · show 1 ≤ (upd (sG A) 1 z 2).toInt ∧ _; rw [up_o (by decide)]; exact IW.itv H
  · show 0 ≤ (upd (sG A) 1 z 4).toInt ∧ _; rw [up_o (by decide)]; exact IW.pen H
  · show upd (sG A) 1 z 7 = -9 ∨ _; rw [up_o (by decide)]; exact IW.pri H
theorem wT_id (A : Sta) (t : Nat) : wT A t (sT A t) = A := by
  unfold wT
  have : u1 (sT A) t (sT A t) = sT A := by
    funext y
    by_cases e : y = t
    · rw [e, u1_s]
    · rw [u1_o e]
  rw [this]
theorem IV.place {K : Nat} {A : Sta} {kn t : Nat} {p z : Int32} (H : IV K A) (hK : K ≤ 100000) (hk : kn < 3) (ht : t < sN A) (hp : wth p 1 99) (hz : wth z 1 99) (hc : canP A kn t p z) : IV (K + 1) (placeA A kn t p z) := by
  have z1 := wth_i hz
  have p1 := wth_i hp
  have T := IW.ten H t ht
  have nn := osum_nn (IW.nn H (by decide) t).1
  have c1 := T.csh
  have c2 := T.stk
  have c3 := T.dsm
  have mb := mul_bd (a := p.toInt) (b := z.toInt) (c := 99) (d := z.toInt) (by omega) (by omega) (by omega) (by omega)
  have ml : p.toInt * z.toInt ≤ 99 * 99 := by omega
  have pz : (p * z).toInt = p.toInt * z.toInt := mI (by omega) (by omega)
  obtain ⟨hc1, hc2, hc3⟩ := hc
  have hl : (sO A ++ [((t, kn, p, z) : Ord)]).length ≤ 12 := by rw [List.length_append, List.length_singleton]; omega
  have ho : ∀ x ∈ sO A ++ [((t, kn, p, z) : Ord)], okW 1 (sN A) x := fun x hx => by
    rcases List.mem_append.mp hx with q | q
    · exact IW.ord H x q
    · rw [List.mem_singleton.mp q]; exact ⟨ht, hk, p1, z1⟩
  have hr : ∀ u, u < sN A → u ≠ t → osum (oc u) (sO A ++ [((t, kn, p, z) : Ord)]) ≤ osum (oc u) (sO A) ∧ osum (oc2 u) (sO A ++ [((t, kn, p, z) : Ord)]) ≤ osum (oc2 u) (sO A) := fun u _ e => by
    rw [osum_app, osum_app]
    have a1 : oc u ((t, kn, p, z) : Ord) = 0 := if_neg (fun q => e q.symm)
    have a2 : oc2 u ((t, kn, p, z) : Ord) = 0 := if_neg (fun q => e q.1.symm)
    rw [a1, a2]; omega
  have o1 : osum (oc t) (sO A ++ [((t, kn, p, z) : Ord)]) = osum (oc t) (sO A) + z.toInt := by rw [osum_app]; rw [show oc t ((t, kn, p, z) : Ord) = z.toInt from if_pos rfl]
  by_cases k0 : kn = 0
  · subst k0
    rw [if_pos rfl] at hc3
    have hc4 := leI.mp hc3
    rw [pz] at hc4
    have o2 : osum (oc2 t) (sO A ++ [((t, 0, p, z) : Ord)]) = osum (oc2 t) (sO A) := by rw [osum_app, show oc2 t ((t, 0, p, z) : Ord) = 0 from if_neg (by simp)]; omega
    have hc5 : p.toInt * z.toInt ≤ ((sT A t).1 4).toInt := hc4
    have e : (fT A t 4 - p * z).toInt = ((sT A t).1 4).toInt - p.toInt * z.toInt := by rw [sI (by rw [pz]; show _ ≤ ((sT A t).1 4).toInt - _; omega) (by rw [pz]; show ((sT A t).1 4).toInt - _ < _; omega), pz]
    refine IW.chg (l := sO A ++ [((t, 0, p, z) : Ord)]) H (Nat.le_succ K) hl ho ?_ hr
    rw [o1, o2]
    exact T.cash (Nat.le_succ K) (by rw [e]; omega) (by rw [e]; omega) (by omega) c3
  · rw [if_neg k0] at hc3
    by_cases k1 : kn = 1
    · subst k1
      rw [if_pos rfl] at hc3
      have o2 : osum (oc2 t) (sO A ++ [((t, 1, p, z) : Ord)]) = osum (oc2 t) (sO A) := by rw [osum_app, show oc2 t ((t, 1, p, z) : Ord) = 0 from if_neg (by simp)]; omega
      refine IW.chg (l := sO A ++ [((t, 1, p, z) : Ord)]) H (Nat.le_succ K) hl ho ?_ hr
      rw [o1, o2]
      have T' := T.take (n := z) (by omega)
      have d1 := T'.csh
      have d2 := T'.stk
      exact T'.ords (Nat.le_succ K) (by omega) (by omega) T'.dsm
    · have k2 : kn = 2 := by omega
      subst k2
      rw [if_neg (by decide)] at hc3
      have q1 := qty_i H (by decide) t
      have q2 := dsum_i (l := (sT A t).2.2) (fun x hx => (T.deb x hx).1) (by omega)
      have q3 := dsI_nn (l := (sT A t).2.2) (fun x hx => (T.deb x hx).1)
      have o2 : osum (oc2 t) (sO A ++ [((t, 2, p, z) : Ord)]) = osum (oc2 t) (sO A) + z.toInt := by rw [osum_app, show oc2 t ((t, 2, p, z) : Ord) = z.toInt from if_pos ⟨rfl, rfl⟩]
      have hc4 := leI.mp hc3
      rw [aI (by rw [aI (by omega) (by omega)]; omega) (by rw [aI (by omega) (by omega)]; omega), aI (by omega) (by omega), q1.1, q2] at hc4
      have hc5 : dsI (sT A t).2.2 + osum (oc2 t) (sO A) + z.toInt ≤ 99 := hc4
      have e : placeA A 2 t p z = wO (wT A t (sT A t)) (sO A ++ [((t, 2, p, z) : Ord)]) := by rw [wT_id]; rfl
      rw [e]
      refine IW.chg H (Nat.le_succ K) hl ho ?_ hr
      rw [o1, o2]
      exact T.ords (Nat.le_succ K) (by omega) (by omega) (by omega)
/-! giving back -/
theorem giveT_sO (A : Sta) (i : Nat) : sO (giveT A i) = sO A := by
  unfold giveT; split
  · rfl
  · split <;> rfl
theorem giveT_1 (A : Sta) (i : Nat) : (giveT A i).1 = A.1 ∧ sG (giveT A i) = sG A := by
  unfold giveT; split
  · exact ⟨rfl, rfl⟩
  · split <;> exact ⟨rfl, rfl⟩
/-- an order is given back and the orders become l -/
theorem IW.give {K lo : Nat} {w w' : Int} {A : Sta} {i : Nat} {l : List Ord} (H : IW K lo w A) (hK : K ≤ 100000) (hw : 0 ≤ w) (hi : i < (sO A).length) (hl : l.length ≤ 12) (ho : ∀ x ∈ l, okW w' (sN A) x) (hs : ∀ u, osum (oc u) l = osum (oc u) (sO A) - oc u (oA A i) ∧ osum (oc2 u) l = osum (oc2 u) (sO A) - oc2 u (oA A i)) : IW K lo w' (wO (giveT A i) l) := by
  have X : okW w (sN A) (oA A i) := H.ord _ (getD_mem hi)
  obtain ⟨x1, x2, x3, x4⟩ := X
  have T := H.ten _ x1
  have n1 := H.nn hw
  have hr : ∀ u, u < sN A → u ≠ (oA A i).1 → osum (oc u) l ≤ osum (oc u) (sO A) ∧ osum (oc2 u) l ≤ osum (oc2 u) (sO A) := fun u _ _ => by
    have a1 := (n1 u).1 _ (getD_mem (d := (0, 0, 0, 0)) hi)
    have a2 := (n1 u).2 _ (getD_mem (d := (0, 0, 0, 0)) hi)
    rw [(hs u).1, (hs u).2]
    constructor
    · show _ - oc u ((sO A).getD i (0, 0, 0, 0)) ≤ _; omega
    · show _ - oc2 u ((sO A).getD i (0, 0, 0, 0)) ≤ _; omega
  have o1 : osum (oc (oA A i).1) l = osum (oc (oA A i).1) (sO A) - (oA A i).2.2.2.toInt := by rw [(hs _).1, oc_e rfl]
  have o2 : osum (oc2 (oA A i).1) l ≤ osum (oc2 (oA A i).1) (sO A) := by
    have a2 := (n1 (oA A i).1).2 _ (getD_mem (d := (0, 0, 0, 0)) hi)
    rw [(hs _).2]; show _ - oc2 (oA A i).1 ((sO A).getD i (0, 0, 0, 0)) ≤ _; omega
  have og : (oA A i).2.2.2.toInt ≤ osum (oc (oA A i).1) (sO A) := by
    have := osum_ge (n1 (oA A i).1).1 hi
    rw [← oc_e (x := oA A i) rfl]; exact this
  have c1 := T.csh
  have c2 := T.stk
  have c3 := T.dsm
  have mb := mul_bd (a := (oA A i).2.2.1.toInt) (b := (oA A i).2.2.2.toInt) (c := 99) (d := (oA A i).2.2.2.toInt) (by omega) (by omega) (by omega) (by omega)
  have pz : ((oA A i).2.2.1 * (oA A i).2.2.2).toInt = (oA A i).2.2.1.toInt * (oA A i).2.2.2.toInt := mI (by omega) (by omega)
  unfold giveT
  by_cases k0 : (oA A i).2.1 = 0
  · rw [if_pos k0]
    have e : (fT A (oA A i).1 4 + (oA A i).2.2.1 * (oA A i).2.2.2).toInt = ((sT A (oA A i).1).1 4).toInt + (oA A i).2.2.1.toInt * (oA A i).2.2.2.toInt := by
      rw [aI (by rw [pz]; show _ ≤ ((sT A (oA A i).1).1 4).toInt + _; omega) (by rw [pz]; show ((sT A (oA A i).1).1 4).toInt + _ < _; omega), pz]
    refine H.chg (l := l) (Nat.le_refl K) hl ho ?_ hr
    rw [o1]
    exact T.cash (Nat.le_refl K) (by rw [e]; omega) (by rw [e]; omega) (by omega) (by omega)
  · rw [if_neg k0]
    by_cases k1 : (oA A i).2.1 = 1
    · rw [if_pos k1]
      have e : (fT A (oA A i).1 3 + (oA A i).2.2.2).toInt = ((sT A (oA A i).1).1 3).toInt + (oA A i).2.2.2.toInt := aI (by show _ ≤ ((sT A (oA A i).1).1 3).toInt + _; omega) (by show ((sT A (oA A i).1).1 3).toInt + _ < _; omega)
      refine H.chg (l := l) (Nat.le_refl K) hl ho ?_ hr
      rw [o1]
      exact T.stock (Nat.le_refl K) (by rw [e]; omega) (by rw [e]; omega) (by omega) (by omega)
    · rw [if_neg k1]
      have e : wO A l = wO (wT A (oA A i).1 (sT A (oA A i).1)) l := by rw [wT_id]
      rw [e]
      refine H.chg (l := l) (Nat.le_refl K) hl ho ?_ hr
      rw [o1]
      exact T.ords (Nat.le_refl K) (by omega) (by omega) (by omega)
theorem wd1_e (A : Sta) (i : Nat) : wd1 A i = wO (giveT A i) ((sO A).eraseIdx i) := by unfold wd1 eraO; rw [giveT_sO]
theorem IW.wd {K lo : Nat} {w : Int} {A : Sta} {i : Nat} (H : IW K lo w A) (hK : K ≤ 100000) (hw : 0 ≤ w) (hi : i < (sO A).length) : IW K lo w (wd1 A i) := by
  rw [wd1_e]
  exact H.give hK hw hi (by rw [List.length_eraseIdx]; have := H.len; split <;> omega) (fun x hx => H.ord x (List.mem_of_mem_eraseIdx hx)) (fun u => ⟨osum_era _ _ _ hi, osum_era _ _ _ hi⟩)
theorem giveT_o (A : Sta) (i j : Nat) : oA (giveT A i) j = oA A j := by show (sO (giveT A i)).getD j _ = _; rw [giveT_sO]
theorem giveA_e (A : Sta) (i : Nat) : giveA A i = wO (giveT A i) ((sO A).set i ((oA A i).1, (oA A i).2.1, (oA A i).2.2.1, 0)) := by unfold giveA wQ; rw [giveT_sO, giveT_o]
theorem oc_z (u a b : Nat) (c : Int32) : oc u (a, b, c, 0) = 0 := by unfold oc; split <;> rfl
theorem oc2_z (u a b : Nat) (c : Int32) : oc2 u (a, b, c, 0) = 0 := by unfold oc2; split <;> rfl
theorem IW.giveA {K lo : Nat} {w : Int} {A : Sta} {i : Nat} (H : IW K lo w A) (hK : K ≤ 100000) (hw : 0 ≤ w) (hi : i < (sO A).length) : IW K lo 0 (giveA A i) := by
  rw [giveA_e]
  have X : okW w (sN A) (oA A i) := H.ord _ (getD_mem hi)
  refine H.give hK hw hi (by rw [List.length_set]; exact H.len) (fun x hx => ?_) (fun u => ⟨?_, ?_⟩)
  · rcases List.mem_or_eq_of_mem_set hx with q | q
    · have := H.ord x q; exact ⟨this.1, this.2.1, this.2.2.1, by have := this.2.2.2.1; omega, this.2.2.2.2⟩
    · rw [q]; exact ⟨X.1, X.2.1, X.2.2.1, Int.le_refl _, show (0 : Int) ≤ 99 by decide⟩
  · rw [osum_set _ _ _ _ hi, oc_z]; exact Int.add_zero _
  · rw [osum_set _ _ _ _ hi, oc2_z]; exact Int.add_zero _
theorem IW.rem {K lo : Nat} {A : Sta} (H : IW K lo 0 A) : IW K lo 1 (remE A) := by
  have hz : ∀ x ∈ sO A, decide (0 < x.2.2.2) = false → x.2.2.2.toInt = 0 := fun x hx q => by
    have a := (H.ord x hx).2.2.2.1
    have b : ¬ 0 < x.2.2.2 := of_decide_eq_false q
    rw [ltI, tI0] at b; omega
  have e1 : ∀ t, osum (oc t) ((sO A).filter (fun x => decide (0 < x.2.2.2))) = osum (oc t) (sO A) := fun t => osum_fil _ _ _ (fun x hx q => by unfold oc; rw [hz x hx q]; split <;> rfl)
  have e2 : ∀ t, osum (oc2 t) ((sO A).filter (fun x => decide (0 < x.2.2.2))) = osum (oc2 t) (sO A) := fun t => osum_fil _ _ _ (fun x hx q => by unfold oc2; rw [hz x hx q]; split <;> rfl)
  refine ⟨H.n6, H.tm, H.ti, H.wid, H.itv, H.pen, H.pri, ?_, fun x hx => ?_, fun t ht => ?_⟩
  · show ((sO A).filter _).length ≤ 12; exact Nat.le_trans (List.length_filter_le _ _) H.len
  · have q := List.mem_filter.mp hx
    have a := H.ord x q.1
    have b : 0 < x.2.2.2 := of_decide_eq_true q.2
    rw [ltI, tI0] at b
    exact ⟨a.1, a.2.1, a.2.2.1, by omega, a.2.2.2.2⟩
  · show IT K lo (sTi A + sTm A) (osum (oc t) ((sO A).filter _)) (osum (oc2 t) ((sO A).filter _)) (sT A t)
    rw [e1, e2]; exact H.ten t ht
theorem fil_set {α : Type} {p : α → Bool} {y : α} (hy : p y = false) : ∀ (l : List α) (i : Nat), (∀ x ∈ l, p x = true) → i < l.length → (l.set i y).filter p = l.eraseIdx i
  | [], i, _, h => absurd h (by simp)
  | x :: r, 0, hp, _ => by
    rw [List.set_cons_zero, List.eraseIdx_cons_zero, List.filter_cons_of_neg (by simp [hy]), List.filter_eq_self.mpr (fun z hz => hp z (List.mem_cons_of_mem _ hz))]
  | x :: r, i + 1, hp, h => by
    rw [List.set_cons_succ, List.eraseIdx_cons_succ, List.filter_cons_of_pos (hp x List.mem_cons_self), fil_set hy r i (fun z hz => hp z (List.mem_cons_of_mem _ hz)) (by simpa using h)]
/-- to withdraw is one thing in both -/
theorem wd_eq {K lo : Nat} {A : Sta} {i : Nat} (H : IW K lo 1 A) (hi : i < (sO A).length) : remE (giveA A i) = wd1 A i := by
  rw [giveA_e, wd1_e]
  show wO (giveT A i) (((sO A).set i ((oA A i).1, (oA A i).2.1, (oA A i).2.2.1, 0)).filter (fun x => decide (0 < x.2.2.2))) = _
  rw [fil_set (by simp) _ _ (fun x hx => decide_eq_true (ltI.mpr (by rw [tI0]; have := (H.ord x hx).2.2.2.1; omega))) hi]
end SP
