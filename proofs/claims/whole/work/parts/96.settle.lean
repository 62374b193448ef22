section SP
variable {E : Ev} {h : PH} {Q : Rt → PH → Prop}
theorem IT.gen {K lo hi : Nat} {q s q' s' : Int} {T : Ten} {g : Nat → Int32} {ds : List (Int32 × Nat)} (H : IT K lo hi q s T) (h0 : g 0 = T.1 0) (h1 : g 1 = T.1 1) (h2 : g 2 = T.1 2) (h5 : g 5 = T.1 5) (h3 : 0 ≤ (g 3).toInt ∧ (g 3).toInt + q' ≤ 99 * K) (h4 : 0 ≤ (g 4).toInt ∧ (g 4).toInt + 99 * q' ≤ 9999 * (K + 1)) (hd : ∀ d ∈ ds, 1 ≤ d.1.toInt ∧ lo ≤ d.2 ∧ d.2 ≤ hi) (hp : ds.Pairwise (fun a b => a.2 ≤ b.2)) (hm : dsI ds + s' ≤ 99) : IT K lo hi q' s' (g, T.2.1, ds) :=
  ⟨by show 1 ≤ (g 0).toInt ∧ (g 0).toInt ≤ 999; rw [h0]; exact H.cap, by show 0 ≤ (g 1).toInt ∧ (g 1).toInt ≤ 99; rw [h1]; exact H.rate, by show 0 ≤ (g 2).toInt ∧ (g 2).toInt ≤ 999; rw [h2]; exact H.lev, h3, h4, by show 0 ≤ (g 5).toInt ∧ (g 5).toInt + msI T.2.1 ≤ 99 * (K + 8); rw [h5]; exact H.snt, H.msl, H.msg, hd, hp, hm⟩
theorem u1_2 {α : Type} {f : Nat → α} {t : Nat} {x y : α} : u1 (u1 f t x) t y = u1 f t y := by
  funext z
  by_cases e : z = t
  · rw [e, u1_s, u1_s]
  · rw [u1_o e, u1_o e, u1_o e]
theorem wT_2 (A : Sta) (t : Nat) (x y : Ten) : wT (wT A t x) t y = wT A t y := by
  show (A.1, sG A, u1 (u1 (sT A) t x) t y, sO A) = _
  rw [u1_2]; rfl
theorem sT_wT (A : Sta) (t : Nat) (x : Ten) : sT (wT A t x) t = x := u1_s
theorem up_id {f : Nat → Int32} {k : Nat} : upd f k (f k) = f := by
  funext z
  by_cases e : z = k
  · rw [e, up_s]
  · rw [up_o e]
theorem wF_id (A : Sta) (t k : Nat) : wF A t k (fT A t k) = A := by
  show wT A t (upd (sT A t).1 k ((sT A t).1 k), (sT A t).2) = A
  rw [up_id]; exact wT_id A t
theorem wF_2 (A : Sta) (t : Nat) (a b : Int32) : wF (wF A t 3 a) t 4 b = wT A t (upd (upd (sT A t).1 3 a) 4 b, (sT A t).2) := by
  unfold wF
  rw [wT_2, sT_wT]
theorem addD_w (A : Sta) (t : Nat) (b f : Int32) : addD (wF A t 4 b) t f = wT A t (upd (sT A t).1 4 b, (sT A t).2.1, (sT A t).2.2 ++ [(f, sTi A + sTm A)]) := by
  unfold wF addD
  rw [wT_2, sT_wT]; rfl
theorem stlD_c (A : Sta) (i : Nat) (f p : Int32) : sO (stlD A i f p) = sO A ∧ (stlD A i f p).1 = A.1 ∧ sG (stlD A i f p) = sG A := by
  unfold stlD stlT
  split <;> split <;> exact ⟨rfl, rfl, rfl⟩
theorem stlA_e (A : Sta) (i : Nat) (f p : Int32) : stlA A i f p = wO (stlD A i f p) ((sO A).set i ((oA A i).1, (oA A i).2.1, (oA A i).2.2.1, (oA A i).2.2.2 - f)) := by
  unfold stlA wQ
  rw [show oA (stlD A i f p) i = oA A i by show (sO (stlD A i f p)).getD i _ = _; rw [(stlD_c A i f p).1], (stlD_c A i f p).1]
theorem set_id {l : List Ord} {i : Nat} (h : i < l.length) : l.set i (l.getD i (0, 0, 0, 0)) = l := by
  rw [List.getD_eq_getElem?_getD, List.getElem?_eq_getElem h]; exact List.set_getElem_self h
theorem wO_id (A : Sta) : wO A (sO A) = A := rfl
/-- nothing filled: nothing changes -/
theorem stlA_0 {A : Sta} {i : Nat} {p : Int32} (hi : i < (sO A).length) : stlA A i 0 p = A := by
  have e1 : stlD A i 0 p = A := by
    unfold stlD
    rw [if_neg (fun q => absurd q.2 (by decide))]
    unfold stlT
    split
    · rw [show fT A (oA A i).1 3 + 0 = fT A (oA A i).1 3 by grind, show fT A (oA A i).1 4 + ((oA A i).2.2.1 - p) * 0 = fT A (oA A i).1 4 by grind, wF_id, wF_id]
    · rw [show fT A (oA A i).1 4 + p * 0 = fT A (oA A i).1 4 by grind, wF_id]
  rw [stlA_e, e1, show (oA A i).2.2.2 - 0 = (oA A i).2.2.2 by grind]
  show wO A ((sO A).set i ((sO A).getD i (0, 0, 0, 0))) = A
  rw [set_id hi]; exact wO_id A
set_option maxHeartbeats 1000000 in
theorem IW.stl1 {K lo : Nat} {A : Sta} {i : Nat} {f p : Int32} (H : IW K lo 0 A) (hK : K ≤ 100000) (hlo : lo ≤ sTi A + sTm A) (hi : i < (sO A).length) (hf : 0 ≤ f.toInt ∧ f.toInt ≤ (oA A i).2.2.2.toInt) (hp : 0 < f.toInt → (1 ≤ p.toInt ∧ p.toInt ≤ 99) ∧ ((oA A i).2.1 = 0 → p.toInt ≤ (oA A i).2.2.1.toInt)) : IW K lo 0 (stlA A i f p) := by
  by_cases f0 : f.toInt = 0
  · rw [show f = 0 from eqI.mpr f0, stlA_0 hi]; exact H
  obtain ⟨⟨p1, p2⟩, p3⟩ := hp (by omega)
  have X : okW 0 (sN A) (oA A i) := H.ord _ (getD_mem hi)
  obtain ⟨x1, x2, x3, x4⟩ := X
  have T := H.ten _ x1
  have n1 := H.nn (Int.le_refl 0)
  have eq : ((oA A i).2.2.2 - f).toInt = (oA A i).2.2.2.toInt - f.toInt := sI (by omega) (by omega)
  have S : ∀ u, osum (oc u) ((sO A).set i ((oA A i).1, (oA A i).2.1, (oA A i).2.2.1, (oA A i).2.2.2 - f)) = osum (oc u) (sO A) - (if (oA A i).1 = u then f.toInt else 0) := fun u => by
    rw [osum_set _ _ _ _ hi]
    show _ - oc u (oA A i) + oc u ((oA A i).1, (oA A i).2.1, (oA A i).2.2.1, (oA A i).2.2.2 - f) = _
    by_cases e : (oA A i).1 = u
    · rw [oc_e e, if_pos e, oc_e (x := ((oA A i).1, (oA A i).2.1, (oA A i).2.2.1, (oA A i).2.2.2 - f)) e]; show _ + ((oA A i).2.2.2 - f).toInt = _; rw [eq]; omega
    · rw [oc_n e, if_neg e, oc_n (x := ((oA A i).1, (oA A i).2.1, (oA A i).2.2.1, (oA A i).2.2.2 - f)) e]; omega
  have S2 : ∀ u, osum (oc2 u) ((sO A).set i ((oA A i).1, (oA A i).2.1, (oA A i).2.2.1, (oA A i).2.2.2 - f)) = osum (oc2 u) (sO A) - (if (oA A i).1 = u ∧ (oA A i).2.1 = 2 then f.toInt else 0) := fun u => by
    rw [osum_set _ _ _ _ hi]
    show _ - oc2 u (oA A i) + oc2 u ((oA A i).1, (oA A i).2.1, (oA A i).2.2.1, (oA A i).2.2.2 - f) = _
    unfold oc2
    by_cases e : (oA A i).1 = u ∧ (oA A i).2.1 = 2
    · rw [if_pos e, if_pos e, if_pos e]; show _ + ((oA A i).2.2.2 - f).toInt = _; rw [eq]; omega
    · rw [if_neg e, if_neg e, if_neg e]; omega
  have hl : ((sO A).set i ((oA A i).1, (oA A i).2.1, (oA A i).2.2.1, (oA A i).2.2.2 - f)).length ≤ 12 := by rw [List.length_set]; exact H.len
  have ho : ∀ x ∈ (sO A).set i ((oA A i).1, (oA A i).2.1, (oA A i).2.2.1, (oA A i).2.2.2 - f), okW 0 (sN A) x := fun x hx => by
    rcases List.mem_or_eq_of_mem_set hx with q | q
    · exact H.ord x q
    · rw [q]; exact ⟨x1, x2, x3, by show 0 ≤ ((oA A i).2.2.2 - f).toInt; omega, by show ((oA A i).2.2.2 - f).toInt ≤ 99; omega⟩
  have hr : ∀ u, u < sN A → u ≠ (oA A i).1 → osum (oc u) ((sO A).set i ((oA A i).1, (oA A i).2.1, (oA A i).2.2.1, (oA A i).2.2.2 - f)) ≤ osum (oc u) (sO A) ∧ osum (oc2 u) ((sO A).set i ((oA A i).1, (oA A i).2.1, (oA A i).2.2.1, (oA A i).2.2.2 - f)) ≤ osum (oc2 u) (sO A) := fun u _ e => by
    rw [S u, S2 u]
    rw [if_neg (fun q => e q.symm), if_neg (fun q => e q.1.symm)]; omega
  have og : (oA A i).2.2.2.toInt ≤ osum (oc (oA A i).1) (sO A) := by
    have := osum_ge (n1 (oA A i).1).1 hi
    rw [← oc_e (x := oA A i) rfl]; exact this
  have c1 := T.csh
  have c2 := T.stk
  have c3 := T.dsm
  have s1 := S (oA A i).1
  rw [if_pos rfl] at s1
  have s2 := S2 (oA A i).1
  rw [stlA_e]
  by_cases k0 : (oA A i).2.1 = 0
  · have p4 := p3 k0
    rw [if_neg (fun q => by rw [k0] at q; exact absurd q.2 (by decide))] at s2
    have e : stlD A i f p = wT A (oA A i).1 (upd (upd (sT A (oA A i).1).1 3 (fT A (oA A i).1 3 + f)) 4 (fT A (oA A i).1 4 + ((oA A i).2.2.1 - p) * f), (sT A (oA A i).1).2.1, (sT A (oA A i).1).2.2) := by
      unfold stlD
      rw [if_neg (fun q => by rw [k0] at q; exact absurd q.1 (by decide))]
      unfold stlT
      rw [if_pos k0, wF_2]
    have d1 : ((oA A i).2.2.1 - p).toInt = (oA A i).2.2.1.toInt - p.toInt := sI (by omega) (by omega)
    have mb := mul_bd (a := ((oA A i).2.2.1 - p).toInt) (b := f.toInt) (c := 98) (d := f.toInt) (by omega) (by omega) (by omega) (by omega)
    have m1 : (((oA A i).2.2.1 - p) * f).toInt = ((oA A i).2.2.1 - p).toInt * f.toInt := mI (by omega) (by omega)
    have a3 : (fT A (oA A i).1 3 + f).toInt = ((sT A (oA A i).1).1 3).toInt + f.toInt := aI (by show _ ≤ ((sT A (oA A i).1).1 3).toInt + _; omega) (by show ((sT A (oA A i).1).1 3).toInt + _ < _; omega)
    have a4 : (fT A (oA A i).1 4 + ((oA A i).2.2.1 - p) * f).toInt = ((sT A (oA A i).1).1 4).toInt + ((oA A i).2.2.1 - p).toInt * f.toInt := by rw [aI (by rw [m1]; show _ ≤ ((sT A (oA A i).1).1 4).toInt + _; omega) (by rw [m1]; show ((sT A (oA A i).1).1 4).toInt + _ < _; omega), m1]
    rw [e]
    refine H.chg (Nat.le_refl K) hl ho ?_ hr
    rw [s1, s2]
    refine T.gen ?_ ?_ ?_ ?_ ?_ ?_ T.deb T.srt (by omega)
    · rw [up_o (by decide), up_o (by decide)]
    · rw [up_o (by decide), up_o (by decide)]
    · rw [up_o (by decide), up_o (by decide)]
    · rw [up_o (by decide), up_o (by decide)]
    · rw [up_o (by decide), up_s, a3]; omega
    · rw [up_s, a4]; omega
  · have mb := mul_bd (a := p.toInt) (b := f.toInt) (c := 99) (d := f.toInt) (by omega) (by omega) (by omega) (by omega)
    have m1 : (p * f).toInt = p.toInt * f.toInt := mI (by omega) (by omega)
    have a4 : (fT A (oA A i).1 4 + p * f).toInt = ((sT A (oA A i).1).1 4).toInt + p.toInt * f.toInt := by rw [aI (by rw [m1]; show _ ≤ ((sT A (oA A i).1).1 4).toInt + _; omega) (by rw [m1]; show ((sT A (oA A i).1).1 4).toInt + _ < _; omega), m1]
    by_cases k2 : (oA A i).2.1 = 2
    · rw [if_pos ⟨rfl, k2⟩] at s2
      have e : stlD A i f p = wT A (oA A i).1 (upd (sT A (oA A i).1).1 4 (fT A (oA A i).1 4 + p * f), (sT A (oA A i).1).2.1, (sT A (oA A i).1).2.2 ++ [(f, sTi A + sTm A)]) := by
        unfold stlD
        rw [if_pos ⟨k2, ltI.mpr (by rw [tI0]; omega)⟩]
        unfold stlT
        rw [if_neg k0, addD_w]
      rw [e]
      refine H.chg (Nat.le_refl K) hl ho ?_ hr
      rw [s1, s2]
      refine T.gen ?_ ?_ ?_ ?_ ?_ ?_ (fun d hd => ?_) ?_ ?_
      · rw [up_o (by decide)]
      · rw [up_o (by decide)]
      · rw [up_o (by decide)]
      · rw [up_o (by decide)]
      · rw [up_o (by decide)]; omega
      · rw [up_s, a4]; omega
      · rcases List.mem_append.mp hd with q | q
        · exact T.deb d q
        · rw [List.mem_singleton.mp q]; exact ⟨by show 1 ≤ f.toInt; omega, hlo, Nat.le_refl _⟩
      · refine List.pairwise_append.mpr ⟨T.srt, List.pairwise_singleton _ _, fun a ha b hb => ?_⟩
        rw [List.mem_singleton.mp hb]; exact (T.deb a ha).2.2
      · rw [dsI_app]; show _ + f.toInt + _ ≤ _; omega
    · rw [if_neg (fun q => k2 q.2)] at s2
      have e : stlD A i f p = wT A (oA A i).1 (upd (sT A (oA A i).1).1 4 (fT A (oA A i).1 4 + p * f), (sT A (oA A i).1).2.1, (sT A (oA A i).1).2.2) := by
        unfold stlD
        rw [if_neg (fun q => k2 q.1)]
        unfold stlT
        rw [if_neg k0]; rfl
      rw [e]
      refine H.chg (Nat.le_refl K) hl ho ?_ hr
      rw [s1, s2]
      refine T.gen ?_ ?_ ?_ ?_ ?_ ?_ T.deb T.srt (by omega)
      · rw [up_o (by decide)]
      · rw [up_o (by decide)]
      · rw [up_o (by decide)]
      · rw [up_o (by decide)]
      · rw [up_o (by decide)]; omega
      · rw [up_s, a4]; omega
theorem stlA_c (A : Sta) (i : Nat) (f p : Int32) : (stlA A i f p).1 = A.1 ∧ sG (stlA A i f p) = sG A ∧ (sO (stlA A i f p)).length = (sO A).length ∧ ∀ j, j ≠ i → oA (stlA A i f p) j = oA A j := by
  rw [stlA_e]
  refine ⟨(stlD_c A i f p).2.1, (stlD_c A i f p).2.2, List.length_set, fun j hj => ?_⟩
  show ((sO A).set i _).getD j _ = (sO A).getD j _
  rw [List.getD_eq_getElem?_getD, List.getD_eq_getElem?_getD, List.getElem?_set_ne (fun e => hj e.symm)]
theorem stl_k (A : Sta) (F : Nat → Int32) (p : Int32) : ∀ i, (stl A F p i).1 = A.1 ∧ sG (stl A F p i) = sG A ∧ (sO (stl A F p i)).length = (sO A).length ∧ ∀ j, i ≤ j → oA (stl A F p i) j = oA A j
  | 0 => ⟨rfl, rfl, rfl, fun _ _ => rfl⟩
  | i + 1 => by
    obtain ⟨h1, h2, h3, h4⟩ := stl_k A F p i
    obtain ⟨g1, g2, g3, g4⟩ := stlA_c (stl A F p i) i (F i) p
    exact ⟨g1.trans h1, g2.trans h2, g3.trans h3, fun j hj => (g4 j (by omega)).trans (h4 j (by omega))⟩
theorem IW.weak {K lo : Nat} {A : Sta} (H : IW K lo 1 A) : IW K lo 0 A := ⟨H.n6, H.tm, H.ti, H.wid, H.itv, H.pen, H.pri, H.len, fun x hx => by have := H.ord x hx; exact ⟨this.1, this.2.1, this.2.2.1, by have := this.2.2.2.1; omega, this.2.2.2.2⟩, H.ten⟩
/-- a fill and its price are good -/
theorem fl_ok {K lo : Nat} {A : Sta} (H : IW K lo 1 A) {i : Nat} (hi : i < (sO A).length) : (0 ≤ ((mtB (sO A)).1 i).toInt ∧ ((mtB (sO A)).1 i).toInt ≤ (oA A i).2.2.2.toInt) ∧ (0 < ((mtB (sO A)).1 i).toInt → (1 ≤ (mtB (sO A)).2.2.1.toInt ∧ (mtB (sO A)).2.2.1.toInt ≤ 99) ∧ ((oA A i).2.1 = 0 → (mtB (sO A)).2.2.1.toInt ≤ (oA A i).2.2.1.toInt)) := by
  have hL : OkL (sN A) (sO A) := ⟨H.len, H.ord⟩
  obtain ⟨f1, f2, f3, f4, f5, f6, f7, f8, f9⟩ := mt_ok hL.b
  refine ⟨f1 i hi, fun q => ⟨f7.2 ?_, fun k0 => f9 i hi (isB1.mp ((nI_z (hL.2 _ (getD_mem hi)).2.1).mpr k0)) q⟩⟩
  rcases Int.lt_or_le 0 (mtB (sO A)).2.1.toInt with r | r
  · exact r
  · exfalso
    have := f7.1 (by have := f6.2.1; omega)
    rw [this] at q; exact absurd q (by show ¬ (0 : Int) < 0; omega)
theorem IW.stlI {K lo : Nat} {A : Sta} (H : IW K lo 1 A) (hK : K ≤ 100000) (hlo : lo ≤ sTi A + sTm A) : ∀ i, i ≤ (sO A).length → IW K lo 0 (stl A (mtB (sO A)).1 (mtB (sO A)).2.2.1 i)
  | 0, _ => H.weak
  | i + 1, h => by
    obtain ⟨h1, h2, h3, h4⟩ := stl_k A (mtB (sO A)).1 (mtB (sO A)).2.2.1 i
    have g := fl_ok H (i := i) (by omega)
    refine (IW.stlI H hK hlo i (by omega)).stl1 hK ?_ (by rw [h3]; omega) ?_ (fun q => ?_)
    · show lo ≤ (stl A (mtB (sO A)).1 (mtB (sO A)).2.2.1 i).1.2.1 + (stl A (mtB (sO A)).1 (mtB (sO A)).2.2.1 i).1.2.2; rw [h1]; exact hlo
    · rw [h4 i (Nat.le_refl _)]; exact g.1
    · rw [h4 i (Nat.le_refl _)]; exact g.2 q
/-! the auction is one thing in both -/
theorem take_1 {l : List Ord} {i : Nat} (h : i < l.length) : l.take (i + 1) = l.take i ++ [l.getD i (0, 0, 0, 0)] := by
  rw [List.getD_eq_getElem?_getD, List.getElem?_eq_getElem h, List.take_add_one, List.getElem?_eq_getElem h]; rfl
theorem drop_1 {l : List Ord} {i : Nat} (h : i < l.length) : l.drop i = l.getD i (0, 0, 0, 0) :: l.drop (i + 1) := by
  rw [List.getD_eq_getElem?_getD, List.getElem?_eq_getElem h]; exact List.drop_eq_getElem_cons h
theorem rmO_e : ∀ (i : Nat) (A : Sta), i ≤ (sO A).length → rmO i A = wO A (((sO A).take i).filter (fun x => decide (¬ x.2.2.2 = 0)) ++ (sO A).drop i)
  | 0, A, _ => rfl
  | i + 1, A, h => by
    rw [rmO, take_1 (by omega), List.filter_append]
    by_cases c : (oA A i).2.2.2 = 0
    · rw [if_pos c]
      have e : (sO A).eraseIdx i = (sO A).take i ++ (sO A).drop (i + 1) := List.eraseIdx_eq_take_drop_succ _ _
      have lt : ((sO A).take i).length = i := by rw [List.length_take]; omega
      rw [rmO_e i (eraO A i) (by show i ≤ ((sO A).eraseIdx i).length; rw [List.length_eraseIdx]; split <;> omega)]
      show wO A ((((sO A).eraseIdx i).take i).filter _ ++ ((sO A).eraseIdx i).drop i) = _
      rw [e, List.take_left' lt, List.drop_left' lt, List.filter_cons_of_neg (by simpa using c), List.filter_nil, List.append_nil]
    · rw [if_neg c, rmO_e i A (by omega), drop_1 (i := i) (by omega), List.filter_cons_of_pos (by simpa using c), List.filter_nil, List.append_assoc]; rfl
theorem rmO_ok {K lo : Nat} {A : Sta} (H : IW K lo 0 A) : rmO (sO A).length A = remE A := by
  rw [rmO_e _ A (Nat.le_refl _), List.take_length, List.drop_length, List.append_nil]
  unfold remE
  congr 1
  refine List.filter_congr (fun x hx => ?_)
  have a := (H.ord x hx).2.2.2.1
  have : (¬ x.2.2.2 = 0) ↔ 0 < x.2.2.2 := by rw [eqI, ltI, tI0]; omega
  exact decide_eq_decide.mpr this
theorem rem_id {K lo : Nat} {A : Sta} (H : IW K lo 1 A) : remE A = A := by
  unfold remE
  rw [List.filter_eq_self.mpr (fun x hx => decide_eq_true (ltI.mpr (by rw [tI0]; have := (H.ord x hx).2.2.2.1; omega)))]
  exact wO_id A
theorem stlD_wG (A : Sta) (i k : Nat) (f p v : Int32) : stlD (wG A k v) i f p = wG (stlD A i f p) k v := by
  unfold stlD stlT
  simp only [show oA (wG A k v) i = oA A i from rfl]
  split <;> split <;> rfl
theorem stlA_wG (A : Sta) (i k : Nat) (f p v : Int32) : stlA (wG A k v) i f p = wG (stlA A i f p) k v := by rw [stlA_e, stlA_e, stlD_wG]; rfl
theorem stl_wG (A : Sta) (k : Nat) (F : Nat → Int32) (p v : Int32) : ∀ i, stl (wG A k v) F p i = wG (stl A F p i) k v
  | 0 => rfl
  | i + 1 => by rw [stl, stl, stl_wG A k F p v i, stlA_wG]
theorem stl_0 {A : Sta} {F : Nat → Int32} {p : Int32} (hF : ∀ i, F i = 0) : ∀ i, i ≤ (sO A).length → stl A F p i = A
  | 0, _ => rfl
  | i + 1, h => by rw [stl, stl_0 hF i (by omega), hF i, stlA_0 h]
theorem wG_id (A : Sta) (k : Nat) : wG A k (sG A k) = A := by
  show (A.1, upd (sG A) k (sG A k), A.2.2) = A
  rw [up_id]
theorem IW.g7 {K lo : Nat} {w : Int} {A : Sta} (H : IW K lo w A) {v : Int32} (hv : 1 ≤ v.toInt ∧ v.toInt ≤ 99) : IW K lo w (wG A 7 v) := by
  refine ⟨IW.n6 (A := A) H, IW.tm (A := A) H, IW.ti (A := A) H, ?_, ?_, ?_, ?_, IW.len (A := A) H, IW.ord (A := A) H, IW.ten (A := A) H⟩
  · show 1 ≤ (upd (sG A) 7 v 1).toInt ∧ (upd (sG A) 7 v 1).toInt ≤ 999; rw [up_o (by decide)]; exact H.wid
  · show 1 ≤ (upd (sG A) 7 v 2).toInt ∧ (upd (sG A) 7 v 2).toInt ≤ 20; rw [up_o (by decide)]; exact H.itv
  · show 0 ≤ (upd (sG A) 7 v 4).toInt ∧ (upd (sG A) 7 v 4).toInt ≤ 99; rw [up_o (by decide)]; exact H.pen
  · show upd (sG A) 7 v 7 = -9 ∨ (1 ≤ (upd (sG A) 7 v 7).toInt ∧ (upd (sG A) 7 v 7).toInt ≤ 99); rw [up_s]; exact Or.inr hv
theorem au_ok {K lo : Nat} {A : Sta} (H : IW K lo 1 A) (hK : K ≤ 100000) (hlo : lo ≤ sTi A + sTm A) : auR A = auA A ∧ IW K lo 1 (auA A) ∧ okF A ∧ okD A ∧ (auA A).1 = A.1 ∧ (∀ k, k ≠ 7 → sG (auA A) k = sG A k) := by
  have hL : OkL (sN A) (sO A) := ⟨H.len, H.ord⟩
  have F := mt_ok hL.b
  have em := mt_eq hL.b
  have SI := H.stlI hK hlo
  have ok1 : okF A := fun j hj q => by
    rw [em] at q
    rw [ltI] at q
    have := (F.1 j hj).1
    exact absurd q (by show ¬ ((mtB (sO A)).1 j).toInt < (0 : Int32).toInt; rw [tI0]; omega)
  have ok2 : okD A := fun i t hi ht => by
    have S := SI i (by omega)
    have T := S.ten t (by show t < (stl A (mtB (sO A)).1 (mtB (sO A)).2.2.1 i).1.1; rw [(stl_k A _ _ i).1]; exact ht)
    have a := dsI_nn (fun x hx => (T.deb x hx).1)
    have b := T.dsm
    have c := osum_nn (S.nn (Int.le_refl 0) t).2
    omega
  have v0 := F.2.2.2.2.2.1.2
  by_cases c : (mtB (sO A)).2.1.toInt = 0
  · have e0 := F.2.2.2.2.2.2.1.1 c
    have e1 : auA A = A := by
      unfold auA
      rw [if_pos (show (matchB (sO A)).2.2.1 = 0 by rw [em]; exact eqI.mpr c)]
    have e2 : auR A = A := by
      unfold auR
      rw [e0]
      show rmO (sO A).length (wG (stl A (fun _ => 0) (-9) (sO A).length) 7 (if (0 : Int32) < 0 then -9 else sG A 7)) = A
      rw [if_neg (by decide), stl_0 (fun _ => rfl) _ (Nat.le_refl _), wG_id, rmO_ok H.weak, rem_id H]
    rw [e1, e2]
    exact ⟨rfl, H, ok1, ok2, rfl, fun _ _ => rfl⟩
  · have pr := F.2.2.2.2.2.2.1.2 (by omega)
    have Sn := SI _ (Nat.le_refl _)
    obtain ⟨k1, k2, k3, k4⟩ := stl_k A (mtB (sO A)).1 (mtB (sO A)).2.2.1 (sO A).length
    have Sg := Sn.g7 pr
    have e1 : auA A = remE (wG (stl A (mtB (sO A)).1 (mtB (sO A)).2.2.1 (sO A).length) 7 (mtB (sO A)).2.2.1) := by
      unfold auA
      rw [if_neg (show ¬ (matchB (sO A)).2.2.1 = 0 by rw [em]; exact fun q => c (eqI.mp q)), em, stl_wG]; rfl
    have e2 : auR A = remE (wG (stl A (mtB (sO A)).1 (mtB (sO A)).2.2.1 (sO A).length) 7 (mtB (sO A)).2.2.1) := by
      unfold auR
      rw [if_pos (ltI.mpr (by rw [tI0]; omega))]
      have q := rmO_ok Sg
      have lq : (sO (wG (stl A (mtB (sO A)).1 (mtB (sO A)).2.2.1 (sO A).length) 7 (mtB (sO A)).2.2.1)).length = (sO A).length := k3
      rw [lq] at q; exact q
    rw [e2, ← e1]
    refine ⟨rfl, by rw [e1]; exact Sg.rem, ok1, ok2, by rw [e1]; exact k1, fun k hk => ?_⟩
    rw [e1]
    show upd (sG (stl A (mtB (sO A)).1 (mtB (sO A)).2.2.1 (sO A).length)) 7 _ k = _
    rw [up_o hk, k2]
end SP
