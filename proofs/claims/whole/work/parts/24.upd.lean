section SP
variable {E : Ev} {h : PH} {Q : Rt → PH → Prop}
/-! stores into a state, as the methods do them -/
theorem ring_app (a : Int32) (d : Nat) : ∀ (ds : List (Int32 × Nat)) (j : Nat), ring (ds ++ [(a, d)]) j = ring ds j + (if d % 51 = j then a else 0)
  | [], j => by
    show (if d % 51 = j then a else 0) + 0 = 0 + _
    rw [Int32.add_zero, Int32.zero_add]
  | x :: r, j => by
    show (if x.2 % 51 = j then x.1 else 0) + ring (r ++ [(a, d)]) j = ((if x.2 % 51 = j then x.1 else 0) + ring r j) + _
    rw [ring_app a d r j]
    ac_rfl
section
variable {h : PH} {q : Nat} {l : Lt} {A : Sta}
theorem RepC.lt6 (H : RepC h q l A) {t : Nat} (ht : t < sN A) : t < 6 := by have := H.2.1.1.2; omega
theorem RepC.ownT (H : RepC h q l A) {t : Nat} (ht : t < 6) : (tg h (lT l t)).1 = q := by rw [(H.1.2.2.2.1 t ht).2.1.2]
theorem RepC.ownM (H : RepC h q l A) {t : Nat} (ht : t < 6) : (tg h (lM l t)).1 = q := by rw [(H.1.2.2.2.1 t ht).2.2.1.2.2]
theorem RepC.ownW (H : RepC h q l A) {t : Nat} (ht : t < 6) : (tg h (lW l t)).1 = q := by rw [(H.1.2.2.2.1 t ht).2.2.2.2.2]
theorem RepC.ownO (H : RepC h q l A) {i : Nat} (hi : i < 12) : (tg h (lO l i)).1 = q := by obtain ⟨-, -, j, e⟩ := H.1.2.2.2.2.1 i hi; rw [e]
theorem RepC.ownS (H : RepC h q l A) : (tg h q).1 = q := by rw [H.1.1.2]
theorem RepC.neTM (H : RepC h q l A) {t : Nat} (ht : t < 6) : lT l t ≠ lM l t := ne_tg (H.1.2.2.2.1 t ht).2.1.2 (H.1.2.2.2.1 t ht).2.2.1.2.2 (by simp)
theorem RepC.neTW (H : RepC h q l A) {t : Nat} (ht : t < 6) : lT l t ≠ lW l t := ne_tg (H.1.2.2.2.1 t ht).2.1.2 (H.1.2.2.2.1 t ht).2.2.2.2.2 (by simp)
theorem RepC.neMW (H : RepC h q l A) {t : Nat} (ht : t < 6) : lM l t ≠ lW l t := ne_tg (H.1.2.2.2.1 t ht).2.2.1.2.2 (H.1.2.2.2.1 t ht).2.2.2.2.2 (by simp)
/-- a tenant's numbers: a whole row -/
theorem RepC.row (H : RepC h q l A) {t : Nat} (ht : t < sN A) {F : Nat → Int32} {f : Nat → Int32} (hf : ∀ k, k < 7 → F k = f k) (h7 : F 7 = gi h (lT l t) 7) : RepC (sw h (lT l t) F) q l (wT A t (f, (sT A t).2)) := by
  have h6 := H.lt6 ht
  refine H.ten h6 rfl rfl rfl (fun x h1 h2 h3 => gi_sw_ne _ _ h1) ?_
  obtain ⟨t1, t2, t3, t4, t5⟩ := H.2.2.1 t ht
  refine ⟨fun k hk => by rw [gi_sw_at]; exact hf k hk, by rw [gi_sw_at, h7]; exact t2, t3, fun j hj => ?_, fun j hj => ?_⟩
  · rw [gi_sw_ne _ _ (H.neTM h6).symm]; exact t4 j hj
  · rw [gi_sw_ne _ _ (H.neTW h6).symm]; exact t5 j hj
theorem RepC.sF (H : RepC h q l A) {t k : Nat} (ht : t < sN A) (hk : k < 7) (v : Int32) : RepC (si h (lT l t) k v) q l (wF A t k v) := by
  rw [si_is]
  refine H.row ht (fun j hj => ?_) (upd_ne _ _ (by omega))
  by_cases e : j = k
  · subst e; rw [upd_at, upd_at]
  · rw [upd_ne _ _ e, upd_ne _ _ e]; exact (H.2.2.1 t ht).1 j hj
theorem RepC.tF (H : RepC h q l A) {t k : Nat} (ht : t < sN A) (hk : k < 7) : gi h (lT l t) k = fT A t k := (H.2.2.1 t ht).1 k hk
theorem tkF_7 {F f : Nat → Int32} (h : ∀ k, k < 7 → F k = f k) (n : Int32) : ∀ k, k < 7 → tkF F n k = tkF f n k := by
  intro k hk
  unfold tkF
  rw [h 3 (by decide), h 2 (by decide)]
  by_cases e2 : k = 2
  · subst e2; rw [upd_at, upd_at]
  · rw [upd_ne _ _ e2, upd_ne _ _ e2]
    by_cases e3 : k = 3
    · subst e3; rw [upd_at, upd_at]
    · rw [upd_ne _ _ e3, upd_ne _ _ e3, h k hk]
theorem tkT_7 {F f : Nat → Int32} (h : ∀ k, k < 7 → F k = f k) (n : Int32) : tkT F n = tkT f n := by unfold tkT; rw [h 3 (by decide), h 2 (by decide)]
def takeA (A : Sta) (t : Nat) (n : Int32) : Sta := wT A t (tkF (sT A t).1 n, (sT A t).2)
theorem RepC.take (H : RepC h q l A) {t : Nat} (ht : t < sN A) (n : Int32) : RepC (sw h (lT l t) (tkF (gi h (lT l t)) n)) q l (takeA A t n) :=
  H.row ht (tkF_7 (H.2.2.1 t ht).1 n) (by unfold tkF; rw [upd_ne _ _ (by decide), upd_ne _ _ (by decide)])
/-- the numbers of the link -/
theorem RepC.sTime (H : RepC h q l A) (x : Nat) : RepC (si h q 8 (nI x)) q l (wTi A x) := by
  refine H.num rfl rfl rfl (fun x hx => gi_si_ne _ _ _ hx) ?_ rfl rfl rfl
  obtain ⟨⟨a1, a2⟩, ⟨b1, b2⟩, c4, c5, c6, c7, c8, c9, c10, c11⟩ := H.2.1
  unfold NumC
  rw [gi_si_at]
  exact ⟨⟨(upd_ne _ _ (by decide)).trans a1, a2⟩, ⟨(upd_ne _ _ (by decide)).trans b1, b2⟩, (upd_ne _ _ (by decide)).trans c4, (upd_ne _ _ (by decide)).trans c5, (upd_ne _ _ (by decide)).trans c6, (upd_ne _ _ (by decide)).trans c7, upd_at _ _ _, (upd_ne _ _ (by decide)).trans c9, (upd_ne _ _ (by decide)).trans c10, (upd_ne _ _ (by decide)).trans c11⟩
theorem RepC.sWidth (H : RepC h q l A) (v : Int32) : RepC (si h q 4 v) q l (wG A 1 v) := by
  refine H.num rfl rfl rfl (fun x hx => gi_si_ne _ _ _ hx) ?_ rfl rfl rfl
  obtain ⟨⟨a1, a2⟩, ⟨b1, b2⟩, c4, c5, c6, c7, c8, c9, c10, c11⟩ := H.2.1
  unfold NumC
  rw [gi_si_at]
  exact ⟨⟨(upd_ne _ _ (by decide)).trans a1, a2⟩, ⟨(upd_ne _ _ (by decide)).trans b1, b2⟩, (by show upd _ _ _ _ = upd (sG A) 1 v 1; rw [upd_at, upd_at]), (by show upd _ _ _ _ = upd (sG A) 1 v 2; rw [upd_ne _ _ (by decide), upd_ne _ _ (by decide)]; exact c5), (upd_ne _ _ (by decide)).trans c6, (by show upd _ _ _ _ = upd (sG A) 1 v 4; rw [upd_ne _ _ (by decide), upd_ne _ _ (by decide)]; exact c7), (upd_ne _ _ (by decide)).trans c8, (by show upd _ _ _ _ = upd (sG A) 1 v 6; rw [upd_ne _ _ (by decide), upd_ne _ _ (by decide)]; exact c9), (by show upd _ _ _ _ = upd (sG A) 1 v 7; rw [upd_ne _ _ (by decide), upd_ne _ _ (by decide)]; exact c10), (by show upd _ _ _ _ = upd (sG A) 1 v 9; rw [upd_ne _ _ (by decide), upd_ne _ _ (by decide)]; exact c11)⟩
theorem RepC.sHouse (H : RepC h q l A) (v : Int32) : RepC (si h q 9 v) q l (wG A 6 v) := by
  refine H.num rfl rfl rfl (fun x hx => gi_si_ne _ _ _ hx) ?_ rfl rfl rfl
  obtain ⟨⟨a1, a2⟩, ⟨b1, b2⟩, c4, c5, c6, c7, c8, c9, c10, c11⟩ := H.2.1
  unfold NumC
  rw [gi_si_at]
  exact ⟨⟨(upd_ne _ _ (by decide)).trans a1, a2⟩, ⟨(upd_ne _ _ (by decide)).trans b1, b2⟩, (by show upd _ _ _ _ = upd (sG A) 6 v 1; rw [upd_ne _ _ (by decide), upd_ne _ _ (by decide)]; exact c4), (by show upd _ _ _ _ = upd (sG A) 6 v 2; rw [upd_ne _ _ (by decide), upd_ne _ _ (by decide)]; exact c5), (upd_ne _ _ (by decide)).trans c6, (by show upd _ _ _ _ = upd (sG A) 6 v 4; rw [upd_ne _ _ (by decide), upd_ne _ _ (by decide)]; exact c7), (upd_ne _ _ (by decide)).trans c8, (by show upd _ _ _ _ = upd (sG A) 6 v 6; rw [upd_at, upd_at]), (by show upd _ _ _ _ = upd (sG A) 6 v 7; rw [upd_ne _ _ (by decide), upd_ne _ _ (by decide)]; exact c10), (by show upd _ _ _ _ = upd (sG A) 6 v 9; rw [upd_ne _ _ (by decide), upd_ne _ _ (by decide)]; exact c11)⟩
theorem RepC.sLast (H : RepC h q l A) (v : Int32) : RepC (si h q 10 v) q l (wG A 7 v) := by
  refine H.num rfl rfl rfl (fun x hx => gi_si_ne _ _ _ hx) ?_ rfl rfl rfl
  obtain ⟨⟨a1, a2⟩, ⟨b1, b2⟩, c4, c5, c6, c7, c8, c9, c10, c11⟩ := H.2.1
  unfold NumC
  rw [gi_si_at]
  exact ⟨⟨(upd_ne _ _ (by decide)).trans a1, a2⟩, ⟨(upd_ne _ _ (by decide)).trans b1, b2⟩, (by show upd _ _ _ _ = upd (sG A) 7 v 1; rw [upd_ne _ _ (by decide), upd_ne _ _ (by decide)]; exact c4), (by show upd _ _ _ _ = upd (sG A) 7 v 2; rw [upd_ne _ _ (by decide), upd_ne _ _ (by decide)]; exact c5), (upd_ne _ _ (by decide)).trans c6, (by show upd _ _ _ _ = upd (sG A) 7 v 4; rw [upd_ne _ _ (by decide), upd_ne _ _ (by decide)]; exact c7), (upd_ne _ _ (by decide)).trans c8, (by show upd _ _ _ _ = upd (sG A) 7 v 6; rw [upd_ne _ _ (by decide), upd_ne _ _ (by decide)]; exact c9), (by show upd _ _ _ _ = upd (sG A) 7 v 7; rw [upd_at, upd_at]), (by show upd _ _ _ _ = upd (sG A) 7 v 9; rw [upd_ne _ _ (by decide), upd_ne _ _ (by decide)]; exact c11)⟩
theorem RepC.sBytes (H : RepC h q l A) (v : Int32) : RepC (si h q 11 v) q l (wG A 9 v) := by
  refine H.num rfl rfl rfl (fun x hx => gi_si_ne _ _ _ hx) ?_ rfl rfl rfl
  obtain ⟨⟨a1, a2⟩, ⟨b1, b2⟩, c4, c5, c6, c7, c8, c9, c10, c11⟩ := H.2.1
  unfold NumC
  rw [gi_si_at]
  exact ⟨⟨(upd_ne _ _ (by decide)).trans a1, a2⟩, ⟨(upd_ne _ _ (by decide)).trans b1, b2⟩, (by show upd _ _ _ _ = upd (sG A) 9 v 1; rw [upd_ne _ _ (by decide), upd_ne _ _ (by decide)]; exact c4), (by show upd _ _ _ _ = upd (sG A) 9 v 2; rw [upd_ne _ _ (by decide), upd_ne _ _ (by decide)]; exact c5), (upd_ne _ _ (by decide)).trans c6, (by show upd _ _ _ _ = upd (sG A) 9 v 4; rw [upd_ne _ _ (by decide), upd_ne _ _ (by decide)]; exact c7), (upd_ne _ _ (by decide)).trans c8, (by show upd _ _ _ _ = upd (sG A) 9 v 6; rw [upd_ne _ _ (by decide), upd_ne _ _ (by decide)]; exact c9), (by show upd _ _ _ _ = upd (sG A) 9 v 7; rw [upd_ne _ _ (by decide), upd_ne _ _ (by decide)]; exact c10), (by show upd _ _ _ _ = upd (sG A) 9 v 9; rw [upd_at, upd_at])⟩
/-- debts -/
theorem RepC.sOwe (H : RepC h q l A) {t j : Nat} (ht : t < sN A) {v : Int32} {ds : List (Int32 × Nat)} (hd : ∀ i, i < 51 → upd (ring (sT A t).2.2) j v i = ring ds i) : RepC (si h (lW l t) j v) q l (wT A t ((sT A t).1, (sT A t).2.1, ds)) := by
  have h6 := H.lt6 ht
  refine H.ten h6 rfl rfl rfl (fun x h1 h2 h3 => gi_si_ne _ _ _ h3) ?_
  obtain ⟨t1, t2, t3, t4, t5⟩ := H.2.2.1 t ht
  refine ⟨fun k hk => by rw [gi_si_ne _ _ _ (H.neTW h6)]; exact t1 k hk, by rw [gi_si_ne _ _ _ (H.neTW h6)]; exact t2, t3, fun i hi => ?_, fun i hi => ?_⟩
  · rw [gi_si_ne _ _ _ (H.neMW h6)]; exact t4 i hi
  · rw [gi_si_at, ← hd i hi]
    by_cases e : i = j
    · subst e; rw [upd_at, upd_at]
    · rw [upd_ne _ _ e, upd_ne _ _ e]; exact t5 i hi
/-- a message more -/
def pushA (A : Sta) (t : Nat) (z : Int32) : Sta := wT A t ((sT A t).1, (sT A t).2.1 ++ [z], (sT A t).2.2)
theorem RepC.sPush (H : RepC h q l A) {t : Nat} (ht : t < sN A) (z : Int32) (h8 : (sT A t).2.1.length < 8) : RepC (si (si h (lM l t) (sT A t).2.1.length z) (lT l t) 7 (nI ((sT A t).2.1.length + 1))) q l (pushA A t z) := by
  have h6 := H.lt6 ht
  refine H.ten h6 rfl rfl rfl (fun x h1 h2 h3 => by rw [gi_si_ne _ _ _ h1, gi_si_ne _ _ _ h2]) ?_
  obtain ⟨t1, t2, t3, t4, t5⟩ := H.2.2.1 t ht
  have e1 : gi (si (si h (lM l t) (sT A t).2.1.length z) (lT l t) 7 (nI ((sT A t).2.1.length + 1))) (lT l t) = upd (gi h (lT l t)) 7 (nI ((sT A t).2.1.length + 1)) := by rw [gi_si_at, gi_si_ne _ _ _ (H.neTM h6)]
  have e2 : gi (si (si h (lM l t) (sT A t).2.1.length z) (lT l t) 7 (nI ((sT A t).2.1.length + 1))) (lM l t) = upd (gi h (lM l t)) (sT A t).2.1.length z := by rw [gi_si_ne _ _ _ (H.neTM h6).symm, gi_si_at]
  refine ⟨fun k hk => by rw [e1, upd_ne _ _ (by omega)]; exact t1 k hk, by rw [e1, upd_at]; simp, by simp; omega, fun i hi => ?_, fun i hi => ?_⟩
  · rw [e2]
    simp only [List.length_append, List.length_singleton] at hi
    by_cases e : i = (sT A t).2.1.length
    · subst e; rw [upd_at]; simp
    · rw [upd_ne _ _ e]
      have hi2 : i < (sT A t).2.1.length := by omega
      rw [t4 i hi2]
      simp [List.getD_eq_getElem?_getD, List.getElem?_append_left hi2]
  · rw [gi_si_ne _ _ _ (H.neTW h6).symm, gi_si_ne _ _ _ (H.neMW h6).symm]; exact t5 i hi
/-- the first message leaves -/
def sendA (A : Sta) (t : Nat) : Sta := wT A t (sfF (sT A t).1 ((sT A t).2.1.getD 0 0), (sT A t).2.1.tail, (sT A t).2.2)
theorem RepC.sSend (H : RepC h q l A) {t : Nat} (ht : t < sN A) (h0 : 0 < (sT A t).2.1.length) : RepC (sw (sw h (lM l t) (shf 8 (gi h (lM l t)))) (lT l t) (sfF (gi h (lT l t)) (gi h (lM l t) 0))) q l (sendA A t) := by
  have h6 := H.lt6 ht
  refine H.ten h6 rfl rfl rfl (fun x h1 h2 h3 => by rw [gi_sw_ne _ _ h1, gi_sw_ne _ _ h2]) ?_
  obtain ⟨t1, t2, t3, t4, t5⟩ := H.2.2.1 t ht
  have e0 : gi h (lM l t) 0 = (sT A t).2.1.getD 0 0 := t4 0 h0
  refine ⟨fun k hk => ?_, ?_, by simp; omega, fun i hi => ?_, fun i hi => ?_⟩
  · rw [gi_sw_at, e0]
    show sfF (gi h (lT l t)) _ k = sfF (sT A t).1 _ k
    unfold sfF
    have h5 : ∀ j, j < 7 → upd (gi h (lT l t)) 7 (gi h (lT l t) 7 - 1) j = upd (sT A t).1 7 ((sT A t).1 7 - 1) j := fun j hj => by rw [upd_ne _ _ (by omega), upd_ne _ _ (by omega)]; exact t1 j hj
    by_cases e : k = 5
    · subst e; rw [upd_at, upd_at, t1 5 (by decide)]
    · rw [upd_ne _ _ e, upd_ne _ _ e]; exact tkF_7 h5 _ k hk
  · rw [gi_sw_at]
    unfold sfF tkF
    rw [upd_ne _ _ (by decide), upd_ne _ _ (by decide), upd_ne _ _ (by decide), upd_at, t2]
    have e : nI (sT A t).2.1.length - 1 = nI ((sT A t).2.1.length - 1) := pk_sub (b := 1) h0
    rw [e]; simp
  · rw [gi_sw_ne _ _ (H.neTM h6).symm, gi_sw_at]
    simp only [List.length_tail] at hi
    unfold shf
    rw [if_pos (by omega), t4 (i + 1) (by omega)]
    simp [List.getD_eq_getElem?_getD]
  · rw [gi_sw_ne _ _ (H.neTW h6).symm, gi_sw_ne _ _ (H.neMW h6).symm]; exact t5 i hi
/-- the quantity of an order -/
def wQ (A : Sta) (i : Nat) (v : Int32) : Sta := wO A ((sO A).set i ((oA A i).1, (oA A i).2.1, (oA A i).2.2.1, v))
theorem RepC.sQty (H : RepC h q l A) {i : Nat} (hi : i < (sO A).length) (v : Int32) : RepC (si h (lO l i) 3 v) q l (wQ A i v) := by
  refine H.ord hi rfl rfl rfl (fun x h1 => gi_si_ne _ _ _ h1) ?_
  obtain ⟨⟨o0, o1, o2, o3⟩, o4, o5⟩ := H.2.2.2 i hi
  refine ⟨⟨?_, ?_, ?_, ?_⟩, o4, o5⟩
  · rw [gi_si_at, upd_ne _ _ (by decide)]; exact o0
  · rw [gi_si_at, upd_ne _ _ (by decide)]; exact o1
  · rw [gi_si_at, upd_ne _ _ (by decide)]; exact o2
  · rw [gi_si_at, upd_at]
end
end SP
