section SP
variable {E : Ev} {h : PH} {Q : Rt → PH → Prop}
/-! all orders of a tenant are withdrawn: one thing in both -/
def gvf (f : Nat → Int32) (x : Ord) : Nat → Int32 := if x.2.1 = 0 then upd f 4 (f 4 + x.2.2.1 * x.2.2.2) else if x.2.1 = 1 then upd f 3 (f 3 + x.2.2.2) else f
def gvx (t : Nat) (f : Nat → Int32) (x : Ord) : Nat → Int32 := if x.1 = t then gvf f x else f
def notT (t : Nat) (x : Ord) : Bool := decide (¬ x.1 = t)
def zrO (t : Nat) (x : Ord) : Ord := if x.1 = t then (x.1, x.2.1, x.2.2.1, 0) else x
/-- all of t's orders are given back -/
def WDs (A : Sta) (t : Nat) : Sta := wO (wT A t ((sO A).foldl (gvx t) (sT A t).1, (sT A t).2)) ((sO A).filter (notT t))
theorem giveT_w {A : Sta} {i t : Nat} (h : (oA A i).1 = t) : giveT A i = wT A t (gvf (sT A t).1 (oA A i), (sT A t).2) := by
  subst h
  unfold giveT gvf
  by_cases k0 : (oA A i).2.1 = 0
  · rw [if_pos k0, if_pos k0]; rfl
  · rw [if_neg k0, if_neg k0]
    by_cases k1 : (oA A i).2.1 = 1
    · rw [if_pos k1, if_pos k1]; rfl
    · rw [if_neg k1, if_neg k1]; exact (wT_id A _).symm
theorem wO_2 (A : Sta) (x y : List Ord) : wO (wO A x) y = wO A y := rfl
theorem wTO (A : Sta) (t : Nat) (x : Ten) (l : List Ord) : wT (wO A l) t x = wO (wT A t x) l := rfl
theorem sT_wO (A : Sta) (l : List Ord) : sT (wO A l) = sT A := rfl
theorem getD_at {P R : List Ord} {x : Ord} : (P ++ x :: R).getD P.length (0, 0, 0, 0) = x := by
  rw [List.getD_eq_getElem?_getD, List.getElem?_append_right (Nat.le_refl _)]; simp
theorem era_at {P R : List Ord} {x : Ord} : (P ++ x :: R).eraseIdx P.length = P ++ R := by
  rw [List.eraseIdx_append_of_length_le (Nat.le_refl _)]; simp
/-- the reference: one by one -/
theorem wdR_e (t : Nat) : ∀ (R P : List Ord) (A : Sta), sO A = P ++ R → wdR t R.length P.length A = wO (wT A t (R.foldl (gvx t) (sT A t).1, (sT A t).2)) (P ++ R.filter (notT t))
  | [], P, A, h => by
    show A = wO (wT A t ((sT A t).1, (sT A t).2)) (P ++ [])
    rw [← h]
    have : wT A t ((sT A t).1, (sT A t).2) = A := wT_id A t
    rw [this]; rfl
  | x :: R, P, A, h => by
    have hi : P.length < (sO A).length := by rw [h]; simp
    have ex : oA A P.length = x := by show (sO A).getD _ _ = _; rw [h]; exact getD_at
    rw [List.length_cons, wdR, if_pos hi]
    by_cases c : x.1 = t
    · rw [if_pos (by rw [ex]; exact c)]
      have e1 : wd1 A P.length = wO (wT A t (gvf (sT A t).1 x, (sT A t).2)) (P ++ R) := by
        rw [wd1_e, giveT_w (t := t) (by rw [ex]; exact c), ex, h, era_at]
      rw [e1, wdR_e t R P _ rfl]
      have e2 : sT (wO (wT A t (gvf (sT A t).1 x, (sT A t).2)) (P ++ R)) t = (gvf (sT A t).1 x, (sT A t).2) := u1_s
      rw [e2, wTO, wO_2, wT_2, List.filter_cons_of_neg (by unfold notT; simpa using c), List.foldl_cons]
      rw [show gvx t (sT A t).1 x = gvf (sT A t).1 x from if_pos c]
    · rw [if_neg (by rw [ex]; exact c)]
      have e0 : sO A = (P ++ [x]) ++ R := by rw [h]; simp
      have e1 := wdR_e t R (P ++ [x]) A e0
      rw [show (P ++ [x]).length = P.length + 1 by simp] at e1
      rw [e1, List.filter_cons_of_pos (by unfold notT; simpa using c), List.foldl_cons, show gvx t (sT A t).1 x = (sT A t).1 from if_neg c]
      simp
theorem wdR_ok (A : Sta) (t : Nat) : wdR t (sO A).length 0 A = WDs A t := wdR_e t (sO A) [] A rfl
/-- the class: marked, then removed -/
theorem gvAll_e (A : Sta) (t : Nat) : ∀ i, i ≤ (sO A).length → gvAll A t i = wO (wT A t (((sO A).take i).foldl (gvx t) (sT A t).1, (sT A t).2)) (((sO A).take i).map (zrO t) ++ (sO A).drop i)
  | 0, _ => by
    show A = wO (wT A t ((sT A t).1, (sT A t).2)) (sO A)
    have : wT A t ((sT A t).1, (sT A t).2) = A := wT_id A t
    rw [this]; rfl
  | i + 1, h => by
    have ih := gvAll_e A t i (by omega)
    have hl : (((sO A).take i).map (zrO t)).length = i := by rw [List.length_map, List.length_take]; omega
    have ed := drop_1 (l := sO A) (i := i) (by omega)
    have eo : sO (gvAll A t i) = ((sO A).take i).map (zrO t) ++ oA A i :: (sO A).drop (i + 1) := by rw [ih]; show _ ++ (sO A).drop i = _; rw [ed]
    have ex : oA (gvAll A t i) i = oA A i := by
      show (sO (gvAll A t i)).getD i _ = _
      rw [eo]
      have := getD_at (P := ((sO A).take i).map (zrO t)) (R := (sO A).drop (i + 1)) (x := oA A i)
      rw [hl] at this; exact this
    have es : sT (gvAll A t i) t = (((sO A).take i).foldl (gvx t) (sT A t).1, (sT A t).2) := by rw [ih]; exact u1_s
    rw [gvAll, take_1 (by omega), List.foldl_append, List.map_append, List.append_assoc]
    show (if (oA (gvAll A t i) i).1 = t then giveA (gvAll A t i) i else gvAll A t i) = wO (wT A t (gvx t (((sO A).take i).foldl (gvx t) (sT A t).1) (oA A i), (sT A t).2)) (((sO A).take i).map (zrO t) ++ zrO t (oA A i) :: (sO A).drop (i + 1))
    by_cases c : (oA A i).1 = t
    · rw [if_pos (by rw [ex]; exact c), giveA_e, giveT_w (t := t) (by rw [ex]; exact c), ex, es, eo]
      have e3 : (((sO A).take i).map (zrO t) ++ oA A i :: (sO A).drop (i + 1)).set i ((oA A i).1, (oA A i).2.1, (oA A i).2.2.1, 0) = ((sO A).take i).map (zrO t) ++ zrO t (oA A i) :: (sO A).drop (i + 1) := by
        rw [List.set_append_right _ _ (by omega), hl, Nat.sub_self, List.set_cons_zero, show zrO t (oA A i) = ((oA A i).1, (oA A i).2.1, (oA A i).2.2.1, 0) from if_pos c]
      rw [e3, ih, wTO, wO_2, wT_2, show gvx t (((sO A).take i).foldl (gvx t) (sT A t).1) (oA A i) = gvf (((sO A).take i).foldl (gvx t) (sT A t).1) (oA A i) from if_pos c]
    · rw [if_neg (by rw [ex]; exact c), ih, ed, show zrO t (oA A i) = oA A i from if_neg c, show gvx t (((sO A).take i).foldl (gvx t) (sT A t).1) (oA A i) = ((sO A).take i).foldl (gvx t) (sT A t).1 from if_neg c]
theorem fil_zr {t : Nat} : ∀ l : List Ord, (∀ x ∈ l, 0 < x.2.2.2) → (l.map (zrO t)).filter (fun x => decide (0 < x.2.2.2)) = l.filter (notT t)
  | [], _ => rfl
  | x :: r, h => by
    have ih := fil_zr (t := t) r (fun y hy => h y (List.mem_cons_of_mem _ hy))
    rw [List.map_cons]
    by_cases c : x.1 = t
    · rw [show zrO t x = (x.1, x.2.1, x.2.2.1, 0) from if_pos c, List.filter_cons_of_neg (by simp), List.filter_cons_of_neg (by unfold notT; simpa using c), ih]
    · rw [show zrO t x = x from if_neg c, List.filter_cons_of_pos (p := fun x : Ord => decide (0 < x.2.2.2)) (a := x) (decide_eq_true (h x List.mem_cons_self)), List.filter_cons_of_pos (by unfold notT; simpa using c), ih]
theorem gvAll_ok {K lo : Nat} {A : Sta} (H : IW K lo 1 A) (t : Nat) : remE (gvAll A t (sO A).length) = WDs A t := by
  rw [gvAll_e A t _ (Nat.le_refl _), List.take_length, List.drop_length, List.append_nil]
  show wO (wT A t ((sO A).foldl (gvx t) (sT A t).1, (sT A t).2)) (((sO A).map (zrO t)).filter (fun x => decide (0 < x.2.2.2))) = _
  rw [fil_zr _ (fun x hx => ltI.mpr (by rw [tI0]; have := (H.ord x hx).2.2.2.1; omega))]; rfl
theorem IW.wdR9 {K lo : Nat} {w : Int} (hK : K ≤ 100000) (hw : 0 ≤ w) (t : Nat) : ∀ (f i : Nat) (A : Sta), IW K lo w A → IW K lo w (wdR t f i A)
  | 0, _, _, H => H
  | f + 1, i, A, H => by
    rw [wdR]
    by_cases c : i < (sO A).length
    · rw [if_pos c]
      by_cases d : (oA A i).1 = t
      · rw [if_pos d]; exact IW.wdR9 hK hw t f i _ (H.wd hK hw c)
      · rw [if_neg d]; exact IW.wdR9 hK hw t f (i + 1) _ H
    · rw [if_neg c]; exact H
theorem IW.wds {K lo : Nat} {w : Int} {A : Sta} (H : IW K lo w A) (hK : K ≤ 100000) (hw : 0 ≤ w) (t : Nat) : IW K lo w (WDs A t) := by
  rw [← wdR_ok]; exact IW.wdR9 hK hw t _ _ A H
theorem gvf_k {f : Nat → Int32} {x : Ord} {k : Nat} (h3 : k ≠ 3) (h4 : k ≠ 4) : gvf f x k = f k := by
  unfold gvf; split
  · exact up_o h4
  · split
    · exact up_o h3
    · rfl
theorem gvx_k {t : Nat} {f : Nat → Int32} {x : Ord} {k : Nat} (h3 : k ≠ 3) (h4 : k ≠ 4) : gvx t f x k = f k := by
  unfold gvx; split
  · exact gvf_k h3 h4
  · rfl
theorem fold_k {t k : Nat} (h3 : k ≠ 3) (h4 : k ≠ 4) : ∀ (l : List Ord) (f : Nat → Int32), l.foldl (gvx t) f k = f k
  | [], _ => rfl
  | x :: r, f => by rw [List.foldl_cons, fold_k h3 h4 r, gvx_k h3 h4]
theorem fold_id {t : Nat} : ∀ (l : List Ord) (f : Nat → Int32), (∀ x ∈ l, ¬ x.1 = t) → l.foldl (gvx t) f = f
  | [], _, _ => rfl
  | x :: r, f, h => by rw [List.foldl_cons, show gvx t f x = f from if_neg (h x List.mem_cons_self), fold_id r f (fun y hy => h y (List.mem_cons_of_mem _ hy))]
/-- no orders: nothing to withdraw -/
theorem wds_id {A : Sta} {t : Nat} (h : ∀ x ∈ sO A, ¬ x.1 = t) : WDs A t = A := by
  unfold WDs
  rw [fold_id _ _ h, List.filter_eq_self.mpr (fun x hx => by unfold notT; simpa using h x hx)]
  have : wT A t ((sT A t).1, (sT A t).2) = A := wT_id A t
  rw [this]; rfl
theorem wds_no {A : Sta} {t : Nat} : ∀ x ∈ sO (WDs A t), ¬ x.1 = t := fun x hx => by
  have q := (List.mem_filter.mp (show x ∈ (sO A).filter (notT t) from hx)).2
  unfold notT at q; simpa using q
end SP
