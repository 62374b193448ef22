section SP
variable {E : Ev} {h : PH} {Q : Rt → PH → Prop}
/-! the reference: a row of 1360 ints holds a state -/
theorem ia {x y : Int32} {a b : Nat} (h1 : x = nI a) (h2 : y = nI b) : x + y = nI (a + b) := by rw [h1, h2, nI_add]
theorem im {x y : Int32} {a b : Nat} (h1 : x = nI a) (h2 : y = nI b) : x * y = nI (a * b) := by rw [h1, h2, nI_mul]
theorem isb {x y : Int32} {a b : Nat} (h1 : x = nI a) (h2 : y = nI b) (h : b ≤ a) : x - y = nI (a - b) := by rw [h1, h2, nI_sub h]
def RowT (f : Nat → Int32) (t : Nat) (T : Ten) : Prop := (∀ k, k < 7 → f (58 + 217 * t + k) = T.1 k) ∧ (f (58 + 217 * t + 7) = nI T.2.1.length ∧ T.2.1.length ≤ 8) ∧ (∀ j, j < T.2.1.length → f (58 + 217 * t + 8 + j) = T.2.1.getD j 0) ∧ (f (58 + 217 * t + 16) = nI T.2.2.length ∧ T.2.2.length ≤ 100) ∧ (∀ j, j < T.2.2.length → f (58 + 217 * t + 17 + 2 * j) = (T.2.2.getD j (0, 0)).1 ∧ f (58 + 217 * t + 17 + 2 * j + 1) = nI (T.2.2.getD j (0, 0)).2)
def RowO (f : Nat → Int32) (i n : Nat) (x : Ord) : Prop := (f (10 + 4 * i + 0) = nI x.1 ∧ f (10 + 4 * i + 1) = nI x.2.1 ∧ f (10 + 4 * i + 2) = x.2.2.1 ∧ f (10 + 4 * i + 3) = x.2.2.2) ∧ x.1 < n ∧ x.2.1 < 3
def RowN (f : Nat → Int32) (A : Sta) : Prop := (f 0 = nI (sN A) ∧ sN A ≤ 6) ∧ (f 8 = nI (sO A).length ∧ (sO A).length ≤ 12) ∧ f 1 = sG A 1 ∧ f 2 = sG A 2 ∧ f 3 = nI (sTm A) ∧ f 4 = sG A 4 ∧ f 5 = nI (sTi A) ∧ f 6 = sG A 6 ∧ f 7 = sG A 7 ∧ f 9 = sG A 9
def RepR (f : Nat → Int32) (A : Sta) : Prop := RowN f A ∧ (∀ t, t < sN A → RowT f t (sT A t)) ∧ (∀ i, i < (sO A).length → RowO f i (sN A) (oA A i))
theorem RowT.congr {f g : Nat → Int32} {t : Nat} {T : Ten} (H : RowT f t T) (h : ∀ j, 58 + 217 * t ≤ j → j < 58 + 217 * t + 217 → g j = f j) : RowT g t T := by
  obtain ⟨h1, ⟨h2, h3⟩, h4, ⟨h5, h6⟩, h7⟩ := H
  refine ⟨fun k hk => by rw [h _ (by omega) (by omega)]; exact h1 k hk, ⟨by rw [h _ (by omega) (by omega)]; exact h2, h3⟩, fun j hj => by rw [h _ (by omega) (by omega)]; exact h4 j hj, ⟨by rw [h _ (by omega) (by omega)]; exact h5, h6⟩, fun j hj => ⟨?_, ?_⟩⟩
  · rw [h _ (by omega) (by omega)]; exact (h7 j hj).1
  · rw [h _ (by omega) (by omega)]; exact (h7 j hj).2
theorem RowO.congr {f g : Nat → Int32} {i n : Nat} {x : Ord} (H : RowO f i n x) (h : ∀ j, 10 + 4 * i ≤ j → j < 10 + 4 * i + 4 → g j = f j) : RowO g i n x := by
  obtain ⟨⟨h1, h2, h3, h4⟩, h5⟩ := H
  exact ⟨⟨by rw [h _ (by omega) (by omega)]; exact h1, by rw [h _ (by omega) (by omega)]; exact h2, by rw [h _ (by omega) (by omega)]; exact h3, by rw [h _ (by omega) (by omega)]; exact h4⟩, h5⟩
theorem RowN.congr {f g : Nat → Int32} {A : Sta} (H : RowN f A) (h : ∀ j, j < 10 → g j = f j) : RowN g A := by
  unfold RowN at H ⊢
  rw [h 0 (by omega), h 1 (by omega), h 2 (by omega), h 3 (by omega), h 4 (by omega), h 5 (by omega), h 6 (by omega), h 7 (by omega), h 8 (by omega), h 9 (by omega)]
  exact H
theorem RepR.congr {f g : Nat → Int32} {A : Sta} (H : RepR f A) (h : ∀ j, j < 1360 → g j = f j) : RepR g A := by
  have n6 := H.1.1.2
  have n12 := H.1.2.1.2
  exact ⟨H.1.congr (fun j hj => h j (by omega)), fun t ht => (H.2.1 t ht).congr (fun j h1 h2 => h j (by omega)), fun i hi => (H.2.2 i hi).congr (fun j h1 h2 => h j (by omega))⟩
section
variable {f g : Nat → Int32} {A : Sta}
theorem RepR.n6 (H : RepR f A) : sN A ≤ 6 := H.1.1.2
theorem RepR.n12 (H : RepR f A) : (sO A).length ≤ 12 := H.1.2.1.2
theorem RepR.f0 (H : RepR f A) : f 0 = nI (sN A) := H.1.1.1
theorem RepR.f8 (H : RepR f A) : f 8 = nI (sO A).length := H.1.2.1.1
theorem RepR.f1 (H : RepR f A) : f 1 = sG A 1 := H.1.2.2.1
theorem RepR.f2 (H : RepR f A) : f 2 = sG A 2 := H.1.2.2.2.1
theorem RepR.f3 (H : RepR f A) : f 3 = nI (sTm A) := H.1.2.2.2.2.1
theorem RepR.f4 (H : RepR f A) : f 4 = sG A 4 := H.1.2.2.2.2.2.1
theorem RepR.f5 (H : RepR f A) : f 5 = nI (sTi A) := H.1.2.2.2.2.2.2.1
theorem RepR.f6 (H : RepR f A) : f 6 = sG A 6 := H.1.2.2.2.2.2.2.2.1
theorem RepR.f7 (H : RepR f A) : f 7 = sG A 7 := H.1.2.2.2.2.2.2.2.2.1
theorem RepR.f9 (H : RepR f A) : f 9 = sG A 9 := H.1.2.2.2.2.2.2.2.2.2
theorem RepR.tF (H : RepR f A) {t k : Nat} (ht : t < sN A) (hk : k < 7) : f (58 + 217 * t + k) = fT A t k := (H.2.1 t ht).1 k hk
theorem RepR.tM (H : RepR f A) {t : Nat} (ht : t < sN A) : f (58 + 217 * t + 7) = nI (sT A t).2.1.length ∧ (sT A t).2.1.length ≤ 8 := (H.2.1 t ht).2.1
theorem RepR.tm (H : RepR f A) {t j : Nat} (ht : t < sN A) (hj : j < (sT A t).2.1.length) : f (58 + 217 * t + 8 + j) = (sT A t).2.1.getD j 0 := (H.2.1 t ht).2.2.1 j hj
theorem RepR.tD (H : RepR f A) {t : Nat} (ht : t < sN A) : f (58 + 217 * t + 16) = nI (sT A t).2.2.length ∧ (sT A t).2.2.length ≤ 100 := (H.2.1 t ht).2.2.2.1
theorem RepR.td (H : RepR f A) {t j : Nat} (ht : t < sN A) (hj : j < (sT A t).2.2.length) : f (58 + 217 * t + 17 + 2 * j) = ((sT A t).2.2.getD j (0, 0)).1 ∧ f (58 + 217 * t + 17 + 2 * j + 1) = nI ((sT A t).2.2.getD j (0, 0)).2 := (H.2.1 t ht).2.2.2.2 j hj
theorem RepR.o (H : RepR f A) {i : Nat} (hi : i < (sO A).length) : RowO f i (sN A) (oA A i) := H.2.2 i hi
/-- a tenant changes -/
theorem RepR.ten (H : RepR f A) {t : Nat} {T : Ten} (ht : t < sN A) (hne : ∀ j, (j < 58 + 217 * t ∨ 58 + 217 * t + 217 ≤ j) → g j = f j) (hT : RowT g t T) : RepR g (wT A t T) := by
  have n6 := H.n6
  have n12 := H.n12
  refine ⟨H.1.congr (fun j hj => hne j (Or.inl (by omega))), fun t' h1 => ?_, fun i hi => (H.2.2 i hi).congr (fun j h1 h2 => hne j (Or.inl (by have : i < (sO A).length := hi; omega)))⟩
  show RowT g t' (u1 (sT A) t T t')
  by_cases e : t' = t
  · rw [e, u1_at]; exact hT
  · rw [u1_ne _ _ e]; exact (H.2.1 t' h1).congr (fun j h1 h2 => hne j (by omega))
/-- an order changes -/
theorem RepR.ord (H : RepR f A) {i : Nat} {x : Ord} (hi : i < (sO A).length) (hne : ∀ j, (j < 10 + 4 * i ∨ 10 + 4 * i + 4 ≤ j) → g j = f j) (hx : RowO g i (sN A) x) : RepR g (wO A ((sO A).set i x)) := by
  have n12 := H.n12
  refine ⟨?_, fun t ht => (H.2.1 t ht).congr (fun j h1 h2 => hne j (by omega)), fun i' hi' => ?_⟩
  · have := H.1.congr (g := g) (fun j hj => hne j (Or.inl (by omega)))
    unfold RowN at this ⊢
    simpa [wO, sO, sN, sG, sTm, sTi] using this
  · have h2 : i' < (sO A).length := by simpa [wO, sO] using hi'
    show RowO g i' (sN A) (((sO A).set i x).getD i' (0, 0, 0, 0))
    by_cases e : i' = i
    · rw [e, List.getD_eq_getElem?_getD, List.getElem?_set_self hi]; exact hx
    · rw [List.getD_eq_getElem?_getD, List.getElem?_set_ne (Ne.symm e), ← List.getD_eq_getElem?_getD]
      exact (H.2.2 i' h2).congr (fun j h1 h3 => hne j (by omega))
/-- the numbers of the link change -/
theorem RepR.num (H : RepR f A) {A' : Sta} (hne : ∀ j, 10 ≤ j → g j = f j) (hN : RowN g A') (h1 : sT A' = sT A) (h2 : sN A' = sN A) (h3 : sO A' = sO A) : RepR g A' := by
  refine ⟨hN, fun t ht => ?_, fun i hi => ?_⟩
  · rw [h1]; rw [h2] at ht; exact (H.2.1 t ht).congr (fun j a b => hne j (by omega))
  · show RowO g i (sN A') ((sO A').getD i (0, 0, 0, 0))
    rw [h2, h3]; rw [h3] at hi; exact (H.2.2 i hi).congr (fun j a b => hne j (by omega))
theorem RepR.sF (H : RepR f A) {t k : Nat} (ht : t < sN A) (hk : k < 7) (v : Int32) : RepR (upd f (58 + 217 * t + k) v) (wF A t k v) := by
  obtain ⟨h1, ⟨h2, h3⟩, h4, ⟨h5, h6⟩, h7⟩ := H.2.1 t ht
  refine H.ten ht (fun j hj => upd_ne _ _ (by omega)) ⟨fun k' hk' => ?_, ⟨by rw [upd_ne _ _ (by omega)]; exact h2, h3⟩, fun j hj => by rw [upd_ne _ _ (by omega)]; exact h4 j hj, ⟨by rw [upd_ne _ _ (by omega)]; exact h5, h6⟩, fun j hj => ⟨by rw [upd_ne _ _ (by omega)]; exact (h7 j hj).1, by rw [upd_ne _ _ (by omega)]; exact (h7 j hj).2⟩⟩
  show upd f _ v _ = upd (sT A t).1 k v k'
  by_cases e : k' = k
  · rw [e, upd_at, upd_at]
  · rw [upd_ne _ _ (by omega), upd_ne _ _ e]; exact h1 k' hk'
theorem RepR.sQ (H : RepR f A) {i : Nat} (hi : i < (sO A).length) (v : Int32) : RepR (upd f (10 + 4 * i + 3) v) (wQ A i v) := by
  obtain ⟨⟨h1, h2, h3, h4⟩, h5, h6⟩ := H.o hi
  exact H.ord hi (fun j hj => upd_ne _ _ (by omega)) ⟨⟨by rw [upd_ne _ _ (by omega)]; exact h1, by rw [upd_ne _ _ (by omega)]; exact h2, by rw [upd_ne _ _ (by omega)]; exact h3, upd_at _ _ _⟩, h5, h6⟩
theorem RepR.sTime (H : RepR f A) (x : Nat) : RepR (upd f 5 (nI x)) (wTi A x) := by
  refine H.num (fun j hj => upd_ne _ _ (by omega)) ?_ rfl rfl rfl
  have := H.1
  unfold RowN at this ⊢
  simp only [upd_at, upd_ne f (k := 5) (j := 0) _ (by decide), upd_ne f (k := 5) (j := 1) _ (by decide), upd_ne f (k := 5) (j := 2) _ (by decide), upd_ne f (k := 5) (j := 3) _ (by decide), upd_ne f (k := 5) (j := 4) _ (by decide), upd_ne f (k := 5) (j := 6) _ (by decide), upd_ne f (k := 5) (j := 7) _ (by decide), upd_ne f (k := 5) (j := 8) _ (by decide), upd_ne f (k := 5) (j := 9) _ (by decide)]
  exact ⟨this.1, this.2.1, this.2.2.1, this.2.2.2.1, this.2.2.2.2.1, this.2.2.2.2.2.1, rfl, this.2.2.2.2.2.2.2⟩
theorem RepR.sG (H : RepR f A) {k : Nat} (hk : k = 1 ∨ k = 6 ∨ k = 7 ∨ k = 9) (v : Int32) : RepR (upd f k v) (wG A k v) := by
  refine H.num (fun j hj => upd_ne _ _ (by omega)) ?_ rfl rfl rfl
  have := H.1
  unfold RowN at this ⊢
  show (upd f k v 0 = nI (sN A) ∧ sN A ≤ 6) ∧ (upd f k v 8 = nI (sO A).length ∧ (sO A).length ≤ 12) ∧ upd f k v 1 = upd (A.2.1) k v 1 ∧ upd f k v 2 = upd (A.2.1) k v 2 ∧ upd f k v 3 = nI (sTm A) ∧ upd f k v 4 = upd (A.2.1) k v 4 ∧ upd f k v 5 = nI (sTi A) ∧ upd f k v 6 = upd (A.2.1) k v 6 ∧ upd f k v 7 = upd (A.2.1) k v 7 ∧ upd f k v 9 = upd (A.2.1) k v 9
  have hh : ∀ j, (j = k ∨ f j = A.2.1 j) → upd f k v j = upd A.2.1 k v j := fun j h => by
    by_cases e : j = k
    · rw [e, upd_at, upd_at]
    · rw [upd_ne _ _ e, upd_ne _ _ e]; exact h.elim (fun q => absurd q e) id
  refine ⟨⟨by rw [upd_ne _ _ (by omega)]; exact this.1.1, this.1.2⟩, ⟨by rw [upd_ne _ _ (by omega)]; exact this.2.1.1, this.2.1.2⟩, hh 1 (Or.inr this.2.2.1), hh 2 (Or.inr this.2.2.2.1), by rw [upd_ne _ _ (by omega)]; exact this.2.2.2.2.1, hh 4 (Or.inr this.2.2.2.2.2.1), by rw [upd_ne _ _ (by omega)]; exact this.2.2.2.2.2.2.1, hh 6 (Or.inr this.2.2.2.2.2.2.2.1), hh 7 (Or.inr this.2.2.2.2.2.2.2.2.1), hh 9 (Or.inr this.2.2.2.2.2.2.2.2.2)⟩
end
/-- only the row a has changed -/
def RF (a : Nat) (h h' : PH) : Prop := h' = sw h a (gi h' a)
theorem RF.rf {a : Nat} {h : PH} : RF a h h := (sw_self h a).symm
theorem RF.tr {a : Nat} {h h1 h2 : PH} (x : RF a h h1) (y : RF a h1 h2) : RF a h h2 := by
  unfold RF at *
  rw [x, sw_sw] at y
  exact y
theorem RF.kd {a : Nat} {h h1 : PH} (x : RF a h h1) : kd h1 = kd h := by rw [x]; rfl
theorem RF.gr {a : Nat} {h h1 : PH} (x : RF a h h1) : gr h1 = gr h := by rw [x]; rfl
theorem RF.tg {a : Nat} {h h1 : PH} (x : RF a h h1) : tg h1 = tg h := by rw [x]; rfl
theorem RF.gl {a : Nat} {h h1 : PH} (x : RF a h h1) : gl h1 = gl h := by rw [x]; rfl
theorem RF.gi {a b : Nat} {h h1 : PH} (x : RF a h h1) (hb : b ≠ a) : gi h1 b = gi h b := by rw [x, gi_sw_ne _ _ hb]
theorem RF.si {a k : Nat} {v : Int32} {h : PH} : RF a h (si h a k v) := by
  unfold RF
  rw [gi_si_at, si_is]
theorem RF.sw {a : Nat} {g : Nat → Int32} {h : PH} : RF a h (sw h a g) := by
  unfold RF
  rw [gi_sw_at]
theorem rf_upd {a k : Nat} {v : Int32} {h h1 : PH} (x : RF a h h1) : RF a h (si h1 a k v) := x.tr RF.si
def wthL (v a b : Int64) : Prop := a ≤ v ∧ v ≤ b
theorem wl {x a b : Int32} {a' b' : Int64} (ha : a' = a.toInt64) (hb : b' = b.toInt64) : wthL x.toInt64 a' b' ↔ wth x a b := by
  unfold wthL
  rw [ha, hb, Int64.le_iff_toInt_le, Int64.le_iff_toInt_le, Int32.toInt_toInt64, Int32.toInt_toInt64, Int32.toInt_toInt64, ← Int32.le_iff_toInt_le, ← Int32.le_iff_toInt_le]
theorem isT_i {A : Sta} {t : Int32} (h6 : sN A ≤ 6) : wth t 0 (nI (sN A) - 1) ↔ isT A t := by
  constructor
  · rintro ⟨h1, h2⟩
    rcases pk_ix t (n := sN A) (by omega) with e | e | ⟨j, e1, e2⟩
    · exact absurd e (Int32.not_lt.mpr h1)
    · by_cases e0 : sN A = 0
      · rw [e0] at h2
        exact absurd (Int32.le_trans h1 h2) (by decide)
      · rw [show nI (sN A) - 1 = nI (sN A - 1) from pk_sub (b := 1) (by omega)] at h2
        have := (i_le (by omega) (by omega)).mp (Int32.le_trans e h2)
        omega
    · exact ⟨j, e1, e2⟩
  · rintro ⟨j, e1, e2⟩
    rw [e2, show nI (sN A) - 1 = nI (sN A - 1) from pk_sub (b := 1) (by omega)]
    exact ⟨nI_pos' (by omega), (i_le (by omega) (by omega)).mpr (by omega)⟩
theorem sub_sub3 (n s l : Int32) : n - s - l = n - (s + l) := by
  rw [Int32.sub_eq_add_neg, Int32.sub_eq_add_neg, Int32.sub_eq_add_neg, Int32.add_assoc]
  congr 1
  rw [← Int32.sub_eq_add_neg, Int32.neg_add]
theorem wF_wF (A : Sta) (t j k : Nat) (v w : Int32) : wF (wF A t j v) t k w = wT A t (upd (upd (sT A t).1 j v) k w, (sT A t).2) := by
  refine Prod.ext rfl (Prod.ext rfl (Prod.ext (funext fun y => ?_) rfl))
  show u1 (u1 (sT A) t (upd (sT A t).1 j v, (sT A t).2)) t (upd (u1 (sT A) t (upd (sT A t).1 j v, (sT A t).2) t).1 k w, (u1 (sT A) t (upd (sT A t).1 j v, (sT A t).2) t).2) y = u1 (sT A) t (upd (upd (sT A t).1 j v) k w, (sT A t).2) y
  by_cases e : y = t
  · simp only [e, u1_at]
  · simp only [u1_ne _ _ e]
/-- orders of a tenant and a kind: their quantities, or their costs -/
def gk (t kd : Nat) (c : Int32) (x : Ord) : Int32 := if x.1 = t ∧ x.2.1 = kd then x.2.2.2 * (if c = 0 then 1 else x.2.2.1) else 0
theorem gk_q (t kd : Nat) : gk t kd 0 = gq t kd := funext fun x => by unfold gk gq; rw [if_pos rfl, Int32.mul_one]
theorem gk_c (t : Nat) : gk t 0 1 = gc t := funext fun x => by unfold gk gc; rw [if_neg (show ¬ (1 : Int32) = 0 by decide), Int32.mul_comm]
theorem gk_n1 {x0 c : Int32} {y : Ord} {t kd : Nat} (o0 : x0 = nI y.1) (e : ¬ x0 = nI t) : gk t kd c y = 0 := if_neg (fun q => e (by rw [o0, q.1]))
theorem gk_n2 {x1 c : Int32} {y : Ord} {t kd : Nat} (o1 : x1 = nI y.2.1) (e : ¬ x1 = nI kd) : gk t kd c y = 0 := if_neg (fun q => e (by rw [o1, q.2]))
theorem gk_y {x0 x1 c : Int32} {y : Ord} {t kd n : Nat} (o0 : x0 = nI y.1) (c0 : x0 = nI t) (o1 : x1 = nI y.2.1) (c1 : x1 = nI kd) (hn : y.1 < n) (hn6 : n ≤ 6) (h3 : y.2.1 < 3) (ht : t < 2 ^ 31) (hk : kd < 3) : gk t kd c y = y.2.2.2 * (if c = 0 then 1 else y.2.2.1) := if_pos ⟨(i_eq (by omega) ht).mp (o0.symm.trans c0), (i_eq (by omega) (by omega)).mp (o1.symm.trans c1)⟩
theorem dsum_cons (x : Int32 × Nat) (r : List (Int32 × Nat)) : dsum (x :: r) = x.1 + dsum r := rfl
theorem dsum_app (x : Int32 × Nat) : ∀ (r : List (Int32 × Nat)), dsum (r ++ [x]) = dsum r + x.1
  | [] => by show x.1 + 0 = 0 + x.1; rw [Int32.add_comm]
  | y :: r => by rw [List.cons_append, dsum_cons, dsum_cons, dsum_app x r, Int32.add_assoc]
theorem dsum_take {ds : List (Int32 × Nat)} {i : Nat} (hi : i < ds.length) : dsum (ds.take (i + 1)) = dsum (ds.take i) + (ds.getD i (0, 0)).1 := by
  rw [List.take_add_one, List.getElem?_eq_getElem hi]
  show dsum (ds.take i ++ [ds[i]]) = _
  rw [dsum_app, List.getD_eq_getElem?_getD, List.getElem?_eq_getElem hi]; rfl
def tnumR (A : Sta) (t j : Nat) : Int32 := if j = 8 then (match (sT A t).2.2 with | [] => -9 | x :: _ => nI x.2) else tnumA A t j
set_option maxHeartbeats 4000000 in
set_option maxRecDepth 100000 in
theorem sp_X7_at {t : Nat}  (k : Q (.inl (some (.int (nI (58 + 217 * t))))) h) : WPx E mX7_at 0 [some (.int (nI t))] [] (0, 0) h Q := by
  refine wp_bipush (M := mX7_at) (pc := 0) (v := 58) dX7_at_0 cb_58 ?_
  refine wp_sipush (M := mX7_at) (pc := 2) (v := 217) dX7_at_2 ch_217 ?_
  refine wp_iload_n (M := mX7_at) (pc := 5) dX7_at_5 rfl ?_
  refine wp_imul (M := mX7_at) (pc := 6) dX7_at_6 ?_
  refine wp_iadd (M := mX7_at) (pc := 7) dX7_at_7 ?_
  refine wp_ireturn (M := mX7_at) (pc := 8) rfl dX7_at_8 ?_
  rw [show (58 : Int32) + 217 * nI t = nI (58 + 217 * t) from ia (show (58 : Int32) = nI 58 from rfl) (im (show (217 : Int32) = nI 217 from rfl) rfl)]
  exact k
set_option maxHeartbeats 4000000 in
set_option maxRecDepth 100000 in
theorem sp_X7_orderAt {t : Nat}  (k : Q (.inl (some (.int (nI (10 + 4 * t))))) h) : WPx E mX7_orderAt 0 [some (.int (nI t))] [] (0, 0) h Q := by
  refine wp_bipush (M := mX7_orderAt) (pc := 0) (v := 10) dX7_orderAt_0 cb_10 ?_
  refine wp_iconst (M := mX7_orderAt) (pc := 2) (v := 4) dX7_orderAt_2 ci_4 ?_
  refine wp_iload_n (M := mX7_orderAt) (pc := 3) dX7_orderAt_3 rfl ?_
  refine wp_imul (M := mX7_orderAt) (pc := 4) dX7_orderAt_4 ?_
  refine wp_iadd (M := mX7_orderAt) (pc := 5) dX7_orderAt_5 ?_
  refine wp_ireturn (M := mX7_orderAt) (pc := 6) rfl dX7_orderAt_6 ?_
  rw [show (10 : Int32) + 4 * nI t = nI (10 + 4 * t) from ia (show (10 : Int32) = nI 10 from rfl) (im (show (4 : Int32) = nI 4 from rfl) rfl)]
  exact k
set_option maxHeartbeats 4000000 in
set_option maxRecDepth 100000 in
theorem sp_X7_lesser {x y : Int32}  (k : Q (.inl (some (.int (imin y x)))) h) : WPx E mX7_lesser 0 [some (.int x), some (.int y)] [] (0, 0) h Q := by
  refine wp_iload_n (M := mX7_lesser) (pc := 0) dX7_lesser_0 rfl ?_
  refine wp_iload_n (M := mX7_lesser) (pc := 1) dX7_lesser_1 rfl ?_
  refine wp_icmp_ge (M := mX7_lesser) (pc := 2) (tgt := 9) dX7_lesser_2 rfl (fun c2 => ?_) (fun c2 => ?_)
  · refine wp_iload_n (M := mX7_lesser) (pc := 9) dX7_lesser_9 rfl ?_
    refine wp_ireturn (M := mX7_lesser) (pc := 10) rfl dX7_lesser_10 ?_
    first | (rw [imin, if_pos (Int32.not_le.mp c2)] at k; exact k) | (rw [imin, if_neg (Int32.not_lt.mpr c2)] at k; exact k) | fail "leaf"
  · refine wp_iload_n (M := mX7_lesser) (pc := 5) dX7_lesser_5 rfl ?_
    refine wp_goto (M := mX7_lesser) (pc := 6) (tgt := 10) dX7_lesser_6 rfl ?_
    refine wp_ireturn (M := mX7_lesser) (pc := 10) rfl dX7_lesser_10 ?_
    first | (rw [imin, if_pos (Int32.not_le.mp c2)] at k; exact k) | (rw [imin, if_neg (Int32.not_lt.mpr c2)] at k; exact k) | fail "leaf"
set_option maxHeartbeats 4000000 in
set_option maxRecDepth 100000 in
theorem sp_X7_in {x y z : Int64}  (k : Q (.inl (some (.int (b01 (wthL x y z))))) h) : WPx E mX7_in 0 [some (.long x), none, some (.long y), none, some (.long z), none] [] (0, 0) h Q := by
  refine wp_lload_n (M := mX7_in) (pc := 0) dX7_in_0 rfl ?_
  refine wp_lload_n (M := mX7_in) (pc := 1) dX7_in_1 rfl ?_
  refine wp_lcmp (M := mX7_in) (pc := 2) dX7_in_2 ?_
  refine wp_if_lt (M := mX7_in) (pc := 3) (tgt := 17) dX7_in_3 rfl (fun t3 => ?_) (fun f3 => ?_)
  · refine wp_iconst (M := mX7_in) (pc := 17) (v := 0) dX7_in_17 ci_0 ?_
    refine wp_zreturn (M := mX7_in) (pc := 18) rfl (by decide) dX7_in_18 ?_
    first
    | (rw [b01_f (fun q => Int64.not_le.mpr ((lg_cmp_lt _ _).mp t3) q.1)] at k; exact k)
    | (rw [b01_f (fun q => Int64.not_le.mpr ((lg_cmp_gt _ _).mp t10) q.2)] at k; exact k)
    | (rw [b01_t ⟨Int64.not_lt.mp (fun q => f3 ((lg_cmp_lt _ _).mpr q)), Int64.not_lt.mp (fun q => f10 ((lg_cmp_gt _ _).mpr q))⟩] at k; exact k)
    | fail "leaf"
  · refine wp_lload_n (M := mX7_in) (pc := 6) dX7_in_6 rfl ?_
    refine wp_lload (M := mX7_in) (pc := 7) dX7_in_7 rfl ?_
    refine wp_lcmp (M := mX7_in) (pc := 9) dX7_in_9 ?_
    refine wp_if_gt (M := mX7_in) (pc := 10) (tgt := 17) dX7_in_10 rfl (fun t10 => ?_) (fun f10 => ?_)
    · refine wp_iconst (M := mX7_in) (pc := 17) (v := 0) dX7_in_17 ci_0 ?_
      refine wp_zreturn (M := mX7_in) (pc := 18) rfl (by decide) dX7_in_18 ?_
      first
      | (rw [b01_f (fun q => Int64.not_le.mpr ((lg_cmp_lt _ _).mp t3) q.1)] at k; exact k)
      | (rw [b01_f (fun q => Int64.not_le.mpr ((lg_cmp_gt _ _).mp t10) q.2)] at k; exact k)
      | (rw [b01_t ⟨Int64.not_lt.mp (fun q => f3 ((lg_cmp_lt _ _).mpr q)), Int64.not_lt.mp (fun q => f10 ((lg_cmp_gt _ _).mpr q))⟩] at k; exact k)
      | fail "leaf"
    · refine wp_iconst (M := mX7_in) (pc := 13) (v := 1) dX7_in_13 ci_1 ?_
      refine wp_goto (M := mX7_in) (pc := 14) (tgt := 18) dX7_in_14 rfl ?_
      refine wp_zreturn (M := mX7_in) (pc := 18) rfl (by decide) dX7_in_18 ?_
      first
      | (rw [b01_f (fun q => Int64.not_le.mpr ((lg_cmp_lt _ _).mp t3) q.1)] at k; exact k)
      | (rw [b01_f (fun q => Int64.not_le.mpr ((lg_cmp_gt _ _).mp t10) q.2)] at k; exact k)
      | (rw [b01_t ⟨Int64.not_lt.mp (fun q => f3 ((lg_cmp_lt _ _).mpr q)), Int64.not_lt.mp (fun q => f10 ((lg_cmp_gt _ _).mpr q))⟩] at k; exact k)
      | fail "leaf"
set_option maxHeartbeats 4000000 in
set_option maxRecDepth 100000 in
theorem sp_X7_isTenant {a : Nat} {A : Sta} {t : Int32} (ka : kd h a = some (.inr (0, 1360))) (hR : RepR (gi h a) A) (k : Q (.inl (some (.int (b01 (isT A t))))) h) : WPx E mX7_isTenant 0 [some (.ref a), some (.int t)] [] (0, 0) h Q := by
  have n6 := hR.n6
  have n12 := hR.n12
  refine wp_iload_n (M := mX7_isTenant) (pc := 0) dX7_isTenant_0 rfl ?_
  refine wp_i2l (M := mX7_isTenant) (pc := 1) dX7_isTenant_1 ?_
  refine wp_lconst (M := mX7_isTenant) (pc := 2) (v := 0) dX7_isTenant_2 cl_0 ?_
  refine wp_aload_n (M := mX7_isTenant) (pc := 3) dX7_isTenant_3 rfl ?_
  refine wp_iconst (M := mX7_isTenant) (pc := 4) (v := 0) dX7_isTenant_4 ci_0 ?_
  refine wr_iaload (M := mX7_isTenant) (pc := 5) dX7_isTenant_5 ka (show (0 : Int32) = nI 0 from rfl) (by omega) (by decide) ?_
  refine wp_iconst (M := mX7_isTenant) (pc := 6) (v := 1) dX7_isTenant_6 ci_1 ?_
  refine wp_isub (M := mX7_isTenant) (pc := 7) dX7_isTenant_7 ?_
  refine wp_i2l (M := mX7_isTenant) (pc := 8) dX7_isTenant_8 ?_
  refine so_S3 (M := mX7_isTenant) (pc := 9) cs_X7_isTenant_65 rfl rfl (LE rfl) (LE rfl) dX7_isTenant_9 ?_
  refine sp_X7_in ?_
  refine kI ?_
  refine wp_zreturn (M := mX7_isTenant) (pc := 12) rfl b01_or dX7_isTenant_12 ?_
  rw [b01_iff (P' := isT A t) ((wl (x := t) (a := 0) (b := gi h a 0 - 1) (a' := 0) (by decide) rfl).trans (by rw [hR.f0]; exact isT_i n6))]
  exact k
set_option maxHeartbeats 4000000 in
set_option maxRecDepth 100000 in
theorem sp_X7_isSuspended {a : Nat} {A : Sta} {t : Nat} (ka : kd h a = some (.inr (0, 1360))) (hR : RepR (gi h a) A) (ht : t < sN A) (k : Q (.inl (some (.int (b01 (susp A t))))) h) : WPx E mX7_isSuspended 0 [some (.ref a), some (.int (nI t))] [] (0, 0) h Q := by
  have n6 := hR.n6
  have n12 := hR.n12
  refine wp_aload_n (M := mX7_isSuspended) (pc := 0) dX7_isSuspended_0 rfl ?_
  refine wp_iload_n (M := mX7_isSuspended) (pc := 1) dX7_isSuspended_1 rfl ?_
  refine so_S1 (M := mX7_isSuspended) (pc := 2) cs_X7_isSuspended_90 rfl rfl (LE rfl) (LE rfl) dX7_isSuspended_2 ?_
  refine sp_X7_at ?_
  refine kI ?_
  refine wp_bipush (M := mX7_isSuspended) (pc := 5) (v := 6) dX7_isSuspended_5 cb_6 ?_
  refine wp_iadd (M := mX7_isSuspended) (pc := 7) dX7_isSuspended_7 ?_
  refine wr_iaload (M := mX7_isSuspended) (pc := 8) dX7_isSuspended_8 ka (ia rfl (show (6 : Int32) = nI 6 from rfl)) (by omega) (by decide) ?_
  refine wp_aload_n (M := mX7_isSuspended) (pc := 9) dX7_isSuspended_9 rfl ?_
  refine wp_iconst (M := mX7_isSuspended) (pc := 10) (v := 5) dX7_isSuspended_10 ci_5 ?_
  refine wr_iaload (M := mX7_isSuspended) (pc := 11) dX7_isSuspended_11 ka (show (5 : Int32) = nI 5 from rfl) (by omega) (by decide) ?_
  refine wp_icmp_le (M := mX7_isSuspended) (pc := 12) (tgt := 19) dX7_isSuspended_12 rfl (fun t12 => ?_) (fun f12 => ?_)
  · rw [hR.tF ht (by decide), hR.f5] at t12
    refine wp_iconst (M := mX7_isSuspended) (pc := 19) (v := 0) dX7_isSuspended_19 ci_0 ?_
    refine wp_zreturn (M := mX7_isSuspended) (pc := 20) rfl (by decide) dX7_isSuspended_20 ?_
    first | (rw [b01_f (fun q => Int32.not_lt.mpr t12 q)] at k; exact k) | (rw [b01_t (Int32.not_le.mp f12)] at k; exact k) | fail "leaf"
  · rw [hR.tF ht (by decide), hR.f5] at f12
    refine wp_iconst (M := mX7_isSuspended) (pc := 15) (v := 1) dX7_isSuspended_15 ci_1 ?_
    refine wp_goto (M := mX7_isSuspended) (pc := 16) (tgt := 20) dX7_isSuspended_16 rfl ?_
    refine wp_zreturn (M := mX7_isSuspended) (pc := 20) rfl (by decide) dX7_isSuspended_20 ?_
    first | (rw [b01_f (fun q => Int32.not_lt.mpr t12 q)] at k; exact k) | (rw [b01_t (Int32.not_le.mp f12)] at k; exact k) | fail "leaf"
set_option maxHeartbeats 4000000 in
set_option maxRecDepth 100000 in
theorem sp_X7_credits {a : Nat} {A : Sta} {t : Nat} (ka : kd h a = some (.inr (0, 1360))) (hR : RepR (gi h a) A) (ht : t < sN A) (k : Q (.inl (some (.int (fT A t 2 + fT A t 3)))) h) : WPx E mX7_credits 0 [some (.ref a), some (.int (nI t))] [] (0, 0) h Q := by
  have n6 := hR.n6
  have n12 := hR.n12
  refine wp_aload_n (M := mX7_credits) (pc := 0) dX7_credits_0 rfl ?_
  refine wp_iload_n (M := mX7_credits) (pc := 1) dX7_credits_1 rfl ?_
  refine so_S1 (M := mX7_credits) (pc := 2) cs_X7_credits_90 rfl rfl (LE rfl) (LE rfl) dX7_credits_2 ?_
  refine sp_X7_at ?_
  refine kI ?_
  refine wp_iconst (M := mX7_credits) (pc := 5) (v := 2) dX7_credits_5 ci_2 ?_
  refine wp_iadd (M := mX7_credits) (pc := 6) dX7_credits_6 ?_
  refine wr_iaload (M := mX7_credits) (pc := 7) dX7_credits_7 ka (ia rfl (show (2 : Int32) = nI 2 from rfl)) (by omega) (by decide) ?_
  refine wp_aload_n (M := mX7_credits) (pc := 8) dX7_credits_8 rfl ?_
  refine wp_iload_n (M := mX7_credits) (pc := 9) dX7_credits_9 rfl ?_
  refine so_S1 (M := mX7_credits) (pc := 10) cs_X7_credits_90 rfl rfl (LE rfl) (LE rfl) dX7_credits_10 ?_
  refine sp_X7_at ?_
  refine kI ?_
  refine wp_iconst (M := mX7_credits) (pc := 13) (v := 3) dX7_credits_13 ci_3 ?_
  refine wp_iadd (M := mX7_credits) (pc := 14) dX7_credits_14 ?_
  refine wr_iaload (M := mX7_credits) (pc := 15) dX7_credits_15 ka (ia rfl (show (3 : Int32) = nI 3 from rfl)) (by omega) (by decide) ?_
  refine wp_iadd (M := mX7_credits) (pc := 16) dX7_credits_16 ?_
  refine wp_ireturn (M := mX7_credits) (pc := 17) rfl dX7_credits_17 ?_
  rw [hR.tF ht (by decide), hR.tF ht (by decide)]
  exact k
set_option maxHeartbeats 4000000 in
set_option maxRecDepth 100000 in
theorem sx_X7_takeCredits {a : Nat} {A : Sta} {t : Nat} {n : Int32} (ka : kd h a = some (.inr (0, 1360))) (hR : RepR (gi h a) A) (ht : t < sN A) (k : ∀ h', RepR (gi h' a) (takeA A t n) → (∀ j, j ≠ 58 + 217 * t + 2 → j ≠ 58 + 217 * t + 3 → gi h' a j = gi h a j) → RF a h h' → Q (.inl (some (.int (n - tkT (sT A t).1 n)))) h') : WPx E mX7_takeCredits 0 [some (.ref a), some (.int (nI t)), some (.int n), none, none, none] [] (0, 0) h Q := by
  have n6 := hR.n6
  have n12 := hR.n12
  have e3 : gi h a (58 + 217 * t + 3) = fT A t 3 := hR.tF ht (by decide)
  have e2 : gi h a (58 + 217 * t + 2) = fT A t 2 := hR.tF ht (by decide)
  refine wp_iload_n (M := mX7_takeCredits) (pc := 0) dX7_takeCredits_0 rfl ?_
  refine so_S1 (M := mX7_takeCredits) (pc := 1) cs_X7_takeCredits_90 rfl rfl (LE rfl) (LE rfl) dX7_takeCredits_1 ?_
  refine sp_X7_at ?_
  refine kI ?_
  refine so_istore_n (M := mX7_takeCredits) (pc := 4) (lo' := [_, _, _, _, _, _]) dX7_takeCredits_4 (LE rfl) (LE rfl) (Or.inr rfl) rfl ?_
  refine wp_iload_n (M := mX7_takeCredits) (pc := 5) dX7_takeCredits_5 rfl ?_
  refine wp_aload_n (M := mX7_takeCredits) (pc := 6) dX7_takeCredits_6 rfl ?_
  refine wp_iload_n (M := mX7_takeCredits) (pc := 7) dX7_takeCredits_7 rfl ?_
  refine wp_iconst (M := mX7_takeCredits) (pc := 8) (v := 3) dX7_takeCredits_8 ci_3 ?_
  refine wp_iadd (M := mX7_takeCredits) (pc := 9) dX7_takeCredits_9 ?_
  refine wr_iaload (M := mX7_takeCredits) (pc := 10) dX7_takeCredits_10 ka (ia rfl (show (3 : Int32) = nI 3 from rfl)) (by omega) (by decide) ?_
  refine so_S2 (M := mX7_takeCredits) (pc := 11) cs_X7_takeCredits_115 rfl rfl (LE rfl) (LE rfl) dX7_takeCredits_11 ?_
  refine sp_X7_lesser ?_
  refine kI ?_
  refine so_istore (M := mX7_takeCredits) (pc := 14) (lo' := [_, _, _, _, _, _]) dX7_takeCredits_14 (LE rfl) (LE rfl) (Or.inr rfl) rfl ?_
  refine wp_iload_n (M := mX7_takeCredits) (pc := 16) dX7_takeCredits_16 rfl ?_
  refine wp_iload (M := mX7_takeCredits) (pc := 17) dX7_takeCredits_17 rfl ?_
  refine wp_isub (M := mX7_takeCredits) (pc := 19) dX7_takeCredits_19 ?_
  refine wp_aload_n (M := mX7_takeCredits) (pc := 20) dX7_takeCredits_20 rfl ?_
  refine wp_iload_n (M := mX7_takeCredits) (pc := 21) dX7_takeCredits_21 rfl ?_
  refine wp_iconst (M := mX7_takeCredits) (pc := 22) (v := 2) dX7_takeCredits_22 ci_2 ?_
  refine wp_iadd (M := mX7_takeCredits) (pc := 23) dX7_takeCredits_23 ?_
  refine wr_iaload (M := mX7_takeCredits) (pc := 24) dX7_takeCredits_24 ka (ia rfl (show (2 : Int32) = nI 2 from rfl)) (by omega) (by decide) ?_
  refine so_S2 (M := mX7_takeCredits) (pc := 25) cs_X7_takeCredits_115 rfl rfl (LE rfl) (LE rfl) dX7_takeCredits_25 ?_
  refine sp_X7_lesser ?_
  refine kI ?_
  refine so_istore (M := mX7_takeCredits) (pc := 28) (lo' := [_, _, _, _, _, _]) dX7_takeCredits_28 (LE rfl) (LE rfl) (Or.inr rfl) rfl ?_
  refine wp_aload_n (M := mX7_takeCredits) (pc := 30) dX7_takeCredits_30 rfl ?_
  refine wp_iload_n (M := mX7_takeCredits) (pc := 31) dX7_takeCredits_31 rfl ?_
  refine wp_iconst (M := mX7_takeCredits) (pc := 32) (v := 3) dX7_takeCredits_32 ci_3 ?_
  refine wp_iadd (M := mX7_takeCredits) (pc := 33) dX7_takeCredits_33 ?_
  refine wp_dup2 (M := mX7_takeCredits) (pc := 34) dX7_takeCredits_34 rfl rfl ?_
  refine wr_iaload (M := mX7_takeCredits) (pc := 35) dX7_takeCredits_35 ka (ia rfl (show (3 : Int32) = nI 3 from rfl)) (by omega) (by decide) ?_
  refine wp_iload (M := mX7_takeCredits) (pc := 36) dX7_takeCredits_36 rfl ?_
  refine wp_isub (M := mX7_takeCredits) (pc := 38) dX7_takeCredits_38 ?_
  refine wr_iastore (M := mX7_takeCredits) (pc := 39) dX7_takeCredits_39 ka (ia rfl (show (3 : Int32) = nI 3 from rfl)) (by omega) (by decide) ?_
  refine wp_aload_n (M := mX7_takeCredits) (pc := 40) dX7_takeCredits_40 rfl ?_
  refine wp_iload_n (M := mX7_takeCredits) (pc := 41) dX7_takeCredits_41 rfl ?_
  refine wp_iconst (M := mX7_takeCredits) (pc := 42) (v := 2) dX7_takeCredits_42 ci_2 ?_
  refine wp_iadd (M := mX7_takeCredits) (pc := 43) dX7_takeCredits_43 ?_
  refine wp_dup2 (M := mX7_takeCredits) (pc := 44) dX7_takeCredits_44 rfl rfl ?_
  refine wr_iaload (M := mX7_takeCredits) (pc := 45) dX7_takeCredits_45 ka (ia rfl (show (2 : Int32) = nI 2 from rfl)) (by omega) (by decide) ?_
  refine wp_iload (M := mX7_takeCredits) (pc := 46) dX7_takeCredits_46 rfl ?_
  refine wp_isub (M := mX7_takeCredits) (pc := 48) dX7_takeCredits_48 ?_
  refine wr_iastore (M := mX7_takeCredits) (pc := 49) dX7_takeCredits_49 ka (ia rfl (show (2 : Int32) = nI 2 from rfl)) (by omega) (by decide) ?_
  refine wp_iload_n (M := mX7_takeCredits) (pc := 50) dX7_takeCredits_50 rfl ?_
  refine wp_iload (M := mX7_takeCredits) (pc := 51) dX7_takeCredits_51 rfl ?_
  refine wp_isub (M := mX7_takeCredits) (pc := 53) dX7_takeCredits_53 ?_
  refine wp_iload (M := mX7_takeCredits) (pc := 54) dX7_takeCredits_54 rfl ?_
  refine wp_isub (M := mX7_takeCredits) (pc := 56) dX7_takeCredits_56 ?_
  refine wp_ireturn (M := mX7_takeCredits) (pc := 57) rfl dX7_takeCredits_57 ?_
  rw [sub_sub3, e3, gi_si_at, upd_ne _ _ (by omega), e2]
  refine k _ ?_ (fun j h2 h3 => by rw [gi_si_at, upd_ne _ _ h2, gi_si_at, upd_ne _ _ h3]) (RF.si.tr RF.si)
  rw [gi_si_at, gi_si_at]
  have H2 := (hR.sF ht (k := 3) (by decide) (fT A t 3 - imin (fT A t 3) n)).sF (t := t) ht (k := 2) (by decide) (fT A t 2 - imin (fT A t 2) (n - imin (fT A t 3) n))
  have e : takeA A t n = wF (wF A t 3 (fT A t 3 - imin (fT A t 3) n)) t 2 (fT A t 2 - imin (fT A t 2) (n - imin (fT A t 3) n)) := (wF_wF A t 3 2 _ _).symm
  rw [e]
  exact H2
theorem sp_X7_takeCredits {a : Nat} {A : Sta} {t : Nat} {n : Int32} (ka : kd h a = some (.inr (0, 1360))) (hR : RepR (gi h a) A) (ht : t < sN A) (k : ∀ h', RepR (gi h' a) (takeA A t n) → RF a h h' → Q (.inl (some (.int (n - tkT (sT A t).1 n)))) h') : WPx E mX7_takeCredits 0 [some (.ref a), some (.int (nI t)), some (.int n), none, none, none] [] (0, 0) h Q := sx_X7_takeCredits ka hR ht (fun h1 R1 _ F1 => k h1 R1 F1)
set_option maxHeartbeats 4000000 in
set_option maxRecDepth 100000 in
theorem lp_X7_debts {a : Nat} {A : Sta} {t : Nat} (ka : kd h a = some (.inr (0, 1360))) (hR : RepR (gi h a) A) (ht : t < sN A) (k : Q (.inl (some (.int (dsum (sT A t).2.2)))) h) : ∀ (m : Nat) (i : Nat), (sT A t).2.2.length - i < m → (i ≤ (sT A t).2.2.length) → WPx E mX7_debts 4 [some (.ref a), some (.int (nI t)), some (.int (dsum ((sT A t).2.2.take i))), some (.int (nI i))] [] (0, 0) h Q := by
  intro m
  induction m with
  | zero => intro i hm; exact absurd hm (Nat.not_lt_zero _)
  | succ m ih =>
    intro i hm hi
    have n6 := hR.n6
    have d100 := (hR.tD ht).2
    refine wp_iload_n (M := mX7_debts) (pc := 4) dX7_debts_4 rfl ?_
    refine wp_aload_n (M := mX7_debts) (pc := 5) dX7_debts_5 rfl ?_
    refine wp_iload_n (M := mX7_debts) (pc := 6) dX7_debts_6 rfl ?_
    refine so_S1 (M := mX7_debts) (pc := 7) cs_X7_debts_90 rfl rfl (LE rfl) (LE rfl) dX7_debts_7 ?_
    refine sp_X7_at ?_
    refine kI ?_
    refine wp_bipush (M := mX7_debts) (pc := 10) (v := 16) dX7_debts_10 cb_16 ?_
    refine wp_iadd (M := mX7_debts) (pc := 12) dX7_debts_12 ?_
    refine wr_iaload (M := mX7_debts) (pc := 13) dX7_debts_13 ka (ia rfl (show (16 : Int32) = nI 16 from rfl)) (by omega) (by decide) ?_
    refine wp_icmp_ge (M := mX7_debts) (pc := 14) (tgt := 39) dX7_debts_14 rfl (fun t14 => ?_) (fun f14 => ?_)
    · rw [(hR.tD ht).1] at t14
      have hi2 := n_ge hi (by omega) t14
      refine wp_iload_n (M := mX7_debts) (pc := 39) dX7_debts_39 rfl ?_
      refine wp_ireturn (M := mX7_debts) (pc := 40) rfl dX7_debts_40 ?_
      rw [hi2, List.take_length]
      exact k
    · rw [(hR.tD ht).1] at f14
      have hlt := n_lt hi (by omega) f14
      refine wp_iload_n (M := mX7_debts) (pc := 17) dX7_debts_17 rfl ?_
      refine wp_aload_n (M := mX7_debts) (pc := 18) dX7_debts_18 rfl ?_
      refine wp_iload_n (M := mX7_debts) (pc := 19) dX7_debts_19 rfl ?_
      refine so_S1 (M := mX7_debts) (pc := 20) cs_X7_debts_90 rfl rfl (LE rfl) (LE rfl) dX7_debts_20 ?_
      refine sp_X7_at ?_
      refine kI ?_
      refine wp_bipush (M := mX7_debts) (pc := 23) (v := 17) dX7_debts_23 cb_17 ?_
      refine wp_iadd (M := mX7_debts) (pc := 25) dX7_debts_25 ?_
      refine wp_iconst (M := mX7_debts) (pc := 26) (v := 2) dX7_debts_26 ci_2 ?_
      refine wp_iload_n (M := mX7_debts) (pc := 27) dX7_debts_27 rfl ?_
      refine wp_imul (M := mX7_debts) (pc := 28) dX7_debts_28 ?_
      refine wp_iadd (M := mX7_debts) (pc := 29) dX7_debts_29 ?_
      refine wr_iaload (M := mX7_debts) (pc := 30) dX7_debts_30 ka (ia (ia rfl (show (17 : Int32) = nI 17 from rfl)) (im (show (2 : Int32) = nI 2 from rfl) rfl)) (by omega) (by decide) ?_
      refine wp_iadd (M := mX7_debts) (pc := 31) dX7_debts_31 ?_
      refine so_istore_n (M := mX7_debts) (pc := 32) (lo' := [_, _, _, _]) dX7_debts_32 (LE rfl) (LE rfl) (Or.inr rfl) rfl ?_
      refine so_iinc (M := mX7_debts) (pc := 33) (lo' := [_, _, _, _]) dX7_debts_33 rfl ci_1 (LE rfl) rfl ?_
      refine wp_goto (M := mX7_debts) (pc := 36) (tgt := 4) dX7_debts_36 rfl ?_
      rw [show nI i + 1 = nI (i + 1) from nI_1 i, (hR.td ht hlt).1, ← dsum_take hlt]
      exact ih (i + 1) (by omega) (by omega)
set_option maxHeartbeats 4000000 in
set_option maxRecDepth 100000 in
theorem sp_X7_debts {a : Nat} {A : Sta} {t : Nat} (ka : kd h a = some (.inr (0, 1360))) (hR : RepR (gi h a) A) (ht : t < sN A) (k : Q (.inl (some (.int (dsum (sT A t).2.2)))) h) : WPx E mX7_debts 0 [some (.ref a), some (.int (nI t)), none, none] [] (0, 0) h Q := by
  refine wp_iconst (M := mX7_debts) (pc := 0) (v := 0) dX7_debts_0 ci_0 ?_
  refine so_istore_n (M := mX7_debts) (pc := 1) (lo' := [_, _, _, _]) dX7_debts_1 (LE rfl) (LE rfl) (Or.inr rfl) rfl ?_
  refine wp_iconst (M := mX7_debts) (pc := 2) (v := 0) dX7_debts_2 ci_0 ?_
  refine so_istore_n (M := mX7_debts) (pc := 3) (lo' := [_, _, _, _]) dX7_debts_3 (LE rfl) (LE rfl) (Or.inr rfl) rfl ?_
  exact lp_X7_debts ka hR ht k ((sT A t).2.2.length + 1) 0 (by omega) (by omega)
set_option maxHeartbeats 4000000 in
set_option maxRecDepth 100000 in
theorem lp_X7_inBook {a : Nat} {A : Sta} {t kn : Nat} {c : Int32} (ka : kd h a = some (.inr (0, 1360))) (hR : RepR (gi h a) A) (ht : t < 2 ^ 31) (hkd : kn < 3) (k : Q (.inl (some (.int (osm (gk t kn c) A (sO A).length)))) h) : ∀ (m : Nat) (i : Nat) (x6 : Option Value) (x7 : Option Value), (sO A).length - i < m → (i ≤ (sO A).length) → WPx E mX7_inBook 6 [some (.ref a), some (.int (nI t)), some (.int (nI kn)), some (.int c), some (.int (osm (gk t kn c) A i)), some (.int (nI i)), x6, x7] [] (0, 0) h Q := by
  intro m
  induction m with
  | zero => intro i x6 x7 hm; exact absurd hm (Nat.not_lt_zero _)
  | succ m ih =>
    intro i x6 x7 hm hi
    have n6 := hR.n6
    have n12 := hR.n12
    refine wp_iload (M := mX7_inBook) (pc := 6) dX7_inBook_6 rfl ?_
    refine wp_aload_n (M := mX7_inBook) (pc := 8) dX7_inBook_8 rfl ?_
    refine wp_bipush (M := mX7_inBook) (pc := 9) (v := 8) dX7_inBook_9 cb_8 ?_
    refine wr_iaload (M := mX7_inBook) (pc := 11) dX7_inBook_11 ka (show (8 : Int32) = nI 8 from rfl) (by omega) (by decide) ?_
    refine wp_icmp_ge (M := mX7_inBook) (pc := 12) (tgt := 90) dX7_inBook_12 rfl (fun t12 => ?_) (fun f12 => ?_)
    · rw [hR.f8] at t12
      have hi2 := n_ge hi (by omega) t12
      subst hi2
      refine wp_iload (M := mX7_inBook) (pc := 90) dX7_inBook_90 rfl ?_
      refine wp_ireturn (M := mX7_inBook) (pc := 92) rfl dX7_inBook_92 ?_
      exact k
    · rw [hR.f8] at f12
      have hlt := n_lt hi (by omega) f12
      obtain ⟨⟨o0, o1, o2, o3⟩, o4, o5⟩ := hR.o hlt
      refine wp_iload (M := mX7_inBook) (pc := 15) dX7_inBook_15 rfl ?_
      refine so_S1 (M := mX7_inBook) (pc := 17) cs_X7_inBook_119 rfl rfl (LE rfl) (LE rfl) dX7_inBook_17 ?_
      refine sp_X7_orderAt ?_
      refine kI ?_
      refine so_istore (M := mX7_inBook) (pc := 20) (lo' := [_, _, _, _, _, _, _, _]) dX7_inBook_20 (LE rfl) (LE rfl) (Or.inr rfl) rfl ?_
      refine wp_aload_n (M := mX7_inBook) (pc := 22) dX7_inBook_22 rfl ?_
      refine wp_iload (M := mX7_inBook) (pc := 23) dX7_inBook_23 rfl ?_
      refine wp_iconst (M := mX7_inBook) (pc := 25) (v := 0) dX7_inBook_25 ci_0 ?_
      refine wp_iadd (M := mX7_inBook) (pc := 26) dX7_inBook_26 ?_
      refine wr_iaload (M := mX7_inBook) (pc := 27) dX7_inBook_27 ka (ia rfl (show (0 : Int32) = nI 0 from rfl)) (by omega) (by decide) ?_
      refine wp_iload_n (M := mX7_inBook) (pc := 28) dX7_inBook_28 rfl ?_
      refine wp_icmp_ne (M := mX7_inBook) (pc := 29) (tgt := 46) dX7_inBook_29 rfl (fun t29 => ?_) (fun f29 => ?_)
      · refine wp_iconst (M := mX7_inBook) (pc := 46) (v := 0) dX7_inBook_46 ci_0 ?_
        refine so_istore (M := mX7_inBook) (pc := 47) (lo' := [_, _, _, _, _, _, _, _]) dX7_inBook_47 (LE rfl) (LE rfl) (Or.inr rfl) rfl ?_
        refine wp_iload (M := mX7_inBook) (pc := 49) dX7_inBook_49 rfl ?_
        refine wp_iload (M := mX7_inBook) (pc := 51) dX7_inBook_51 rfl ?_
        refine wp_if_eq (M := mX7_inBook) (pc := 53) (tgt := 80) dX7_inBook_53 rfl (fun t53 => ?_) (fun f53 => ?_)
        · refine wp_iconst (M := mX7_inBook) (pc := 80) (v := 0) dX7_inBook_80 ci_0 ?_
          refine wp_iadd (M := mX7_inBook) (pc := 81) dX7_inBook_81 ?_
          refine so_istore (M := mX7_inBook) (pc := 82) (lo' := [_, _, _, _, _, _, _, _]) dX7_inBook_82 (LE rfl) (LE rfl) (Or.inr rfl) rfl ?_
          refine so_iinc (M := mX7_inBook) (pc := 84) (lo' := [_, _, _, _, _, _, _, _]) dX7_inBook_84 rfl ci_1 (LE rfl) rfl ?_
          refine wp_goto (M := mX7_inBook) (pc := 87) (tgt := 6) dX7_inBook_87 rfl ?_
          rw [show nI i + 1 = nI (i + 1) from nI_1 i]
          have hz := fun y z => ih (i + 1) y z (by omega) (by omega)
          first
          | (rw [osm_no (gk_n1 o0 t29)] at hz; rw [Int32.add_zero]; exact hz _ _)
          | (rw [osm_no (gk_n2 o1 t39)] at hz; rw [Int32.add_zero]; exact hz _ _)
          | (rw [osm_ye (gk_y o0 f29 o1 f39 o4 n6 o5 ht hkd), if_pos t63] at hz; rw [o3]; exact hz _ _)
          | (rw [osm_ye (gk_y o0 f29 o1 f39 o4 n6 o5 ht hkd), if_neg f63] at hz; rw [o3, o2]; exact hz _ _)
          | exact absurd t53 (by decide)
          | exact absurd rfl f53
          | fail "leaf"
        · refine wp_aload_n (M := mX7_inBook) (pc := 56) dX7_inBook_56 rfl ?_
          refine wp_iload (M := mX7_inBook) (pc := 57) dX7_inBook_57 rfl ?_
          refine wp_iconst (M := mX7_inBook) (pc := 59) (v := 3) dX7_inBook_59 ci_3 ?_
          refine wp_iadd (M := mX7_inBook) (pc := 60) dX7_inBook_60 ?_
          refine wr_iaload (M := mX7_inBook) (pc := 61) dX7_inBook_61 ka (ia rfl (show (3 : Int32) = nI 3 from rfl)) (by omega) (by decide) ?_
          refine wp_iload_n (M := mX7_inBook) (pc := 62) dX7_inBook_62 rfl ?_
          refine wp_if_eq (M := mX7_inBook) (pc := 63) (tgt := 75) dX7_inBook_63 rfl (fun t63 => ?_) (fun f63 => ?_)
          · refine wp_iconst (M := mX7_inBook) (pc := 75) (v := 1) dX7_inBook_75 ci_1 ?_
            refine wp_imul (M := mX7_inBook) (pc := 76) dX7_inBook_76 ?_
            refine wp_goto (M := mX7_inBook) (pc := 77) (tgt := 81) dX7_inBook_77 rfl ?_
            refine wp_iadd (M := mX7_inBook) (pc := 81) dX7_inBook_81 ?_
            refine so_istore (M := mX7_inBook) (pc := 82) (lo' := [_, _, _, _, _, _, _, _]) dX7_inBook_82 (LE rfl) (LE rfl) (Or.inr rfl) rfl ?_
            refine so_iinc (M := mX7_inBook) (pc := 84) (lo' := [_, _, _, _, _, _, _, _]) dX7_inBook_84 rfl ci_1 (LE rfl) rfl ?_
            refine wp_goto (M := mX7_inBook) (pc := 87) (tgt := 6) dX7_inBook_87 rfl ?_
            rw [show nI i + 1 = nI (i + 1) from nI_1 i]
            have hz := fun y z => ih (i + 1) y z (by omega) (by omega)
            first
            | (rw [osm_no (gk_n1 o0 t29)] at hz; rw [Int32.add_zero]; exact hz _ _)
            | (rw [osm_no (gk_n2 o1 t39)] at hz; rw [Int32.add_zero]; exact hz _ _)
            | (rw [osm_ye (gk_y o0 f29 o1 f39 o4 n6 o5 ht hkd), if_pos t63] at hz; rw [o3]; exact hz _ _)
            | (rw [osm_ye (gk_y o0 f29 o1 f39 o4 n6 o5 ht hkd), if_neg f63] at hz; rw [o3, o2]; exact hz _ _)
            | exact absurd t53 (by decide)
            | exact absurd rfl f53
            | fail "leaf"
          · refine wp_aload_n (M := mX7_inBook) (pc := 66) dX7_inBook_66 rfl ?_
            refine wp_iload (M := mX7_inBook) (pc := 67) dX7_inBook_67 rfl ?_
            refine wp_iconst (M := mX7_inBook) (pc := 69) (v := 2) dX7_inBook_69 ci_2 ?_
            refine wp_iadd (M := mX7_inBook) (pc := 70) dX7_inBook_70 ?_
            refine wr_iaload (M := mX7_inBook) (pc := 71) dX7_inBook_71 ka (ia rfl (show (2 : Int32) = nI 2 from rfl)) (by omega) (by decide) ?_
            refine wp_goto (M := mX7_inBook) (pc := 72) (tgt := 76) dX7_inBook_72 rfl ?_
            refine wp_imul (M := mX7_inBook) (pc := 76) dX7_inBook_76 ?_
            refine wp_goto (M := mX7_inBook) (pc := 77) (tgt := 81) dX7_inBook_77 rfl ?_
            refine wp_iadd (M := mX7_inBook) (pc := 81) dX7_inBook_81 ?_
            refine so_istore (M := mX7_inBook) (pc := 82) (lo' := [_, _, _, _, _, _, _, _]) dX7_inBook_82 (LE rfl) (LE rfl) (Or.inr rfl) rfl ?_
            refine so_iinc (M := mX7_inBook) (pc := 84) (lo' := [_, _, _, _, _, _, _, _]) dX7_inBook_84 rfl ci_1 (LE rfl) rfl ?_
            refine wp_goto (M := mX7_inBook) (pc := 87) (tgt := 6) dX7_inBook_87 rfl ?_
            rw [show nI i + 1 = nI (i + 1) from nI_1 i]
            have hz := fun y z => ih (i + 1) y z (by omega) (by omega)
            first
            | (rw [osm_no (gk_n1 o0 t29)] at hz; rw [Int32.add_zero]; exact hz _ _)
            | (rw [osm_no (gk_n2 o1 t39)] at hz; rw [Int32.add_zero]; exact hz _ _)
            | (rw [osm_ye (gk_y o0 f29 o1 f39 o4 n6 o5 ht hkd), if_pos t63] at hz; rw [o3]; exact hz _ _)
            | (rw [osm_ye (gk_y o0 f29 o1 f39 o4 n6 o5 ht hkd), if_neg f63] at hz; rw [o3, o2]; exact hz _ _)
            | exact absurd t53 (by decide)
            | exact absurd rfl f53
            | fail "leaf"
      · refine wp_aload_n (M := mX7_inBook) (pc := 32) dX7_inBook_32 rfl ?_
        refine wp_iload (M := mX7_inBook) (pc := 33) dX7_inBook_33 rfl ?_
        refine wp_iconst (M := mX7_inBook) (pc := 35) (v := 1) dX7_inBook_35 ci_1 ?_
        refine wp_iadd (M := mX7_inBook) (pc := 36) dX7_inBook_36 ?_
        refine wr_iaload (M := mX7_inBook) (pc := 37) dX7_inBook_37 ka (ia rfl (show (1 : Int32) = nI 1 from rfl)) (by omega) (by decide) ?_
        refine wp_iload_n (M := mX7_inBook) (pc := 38) dX7_inBook_38 rfl ?_
        refine wp_icmp_ne (M := mX7_inBook) (pc := 39) (tgt := 46) dX7_inBook_39 rfl (fun t39 => ?_) (fun f39 => ?_)
        · refine wp_iconst (M := mX7_inBook) (pc := 46) (v := 0) dX7_inBook_46 ci_0 ?_
          refine so_istore (M := mX7_inBook) (pc := 47) (lo' := [_, _, _, _, _, _, _, _]) dX7_inBook_47 (LE rfl) (LE rfl) (Or.inr rfl) rfl ?_
          refine wp_iload (M := mX7_inBook) (pc := 49) dX7_inBook_49 rfl ?_
          refine wp_iload (M := mX7_inBook) (pc := 51) dX7_inBook_51 rfl ?_
          refine wp_if_eq (M := mX7_inBook) (pc := 53) (tgt := 80) dX7_inBook_53 rfl (fun t53 => ?_) (fun f53 => ?_)
          · refine wp_iconst (M := mX7_inBook) (pc := 80) (v := 0) dX7_inBook_80 ci_0 ?_
            refine wp_iadd (M := mX7_inBook) (pc := 81) dX7_inBook_81 ?_
            refine so_istore (M := mX7_inBook) (pc := 82) (lo' := [_, _, _, _, _, _, _, _]) dX7_inBook_82 (LE rfl) (LE rfl) (Or.inr rfl) rfl ?_
            refine so_iinc (M := mX7_inBook) (pc := 84) (lo' := [_, _, _, _, _, _, _, _]) dX7_inBook_84 rfl ci_1 (LE rfl) rfl ?_
            refine wp_goto (M := mX7_inBook) (pc := 87) (tgt := 6) dX7_inBook_87 rfl ?_
            rw [show nI i + 1 = nI (i + 1) from nI_1 i]
            have hz := fun y z => ih (i + 1) y z (by omega) (by omega)
            first
            | (rw [osm_no (gk_n1 o0 t29)] at hz; rw [Int32.add_zero]; exact hz _ _)
            | (rw [osm_no (gk_n2 o1 t39)] at hz; rw [Int32.add_zero]; exact hz _ _)
            | (rw [osm_ye (gk_y o0 f29 o1 f39 o4 n6 o5 ht hkd), if_pos t63] at hz; rw [o3]; exact hz _ _)
            | (rw [osm_ye (gk_y o0 f29 o1 f39 o4 n6 o5 ht hkd), if_neg f63] at hz; rw [o3, o2]; exact hz _ _)
            | exact absurd t53 (by decide)
            | exact absurd rfl f53
            | fail "leaf"
          · refine wp_aload_n (M := mX7_inBook) (pc := 56) dX7_inBook_56 rfl ?_
            refine wp_iload (M := mX7_inBook) (pc := 57) dX7_inBook_57 rfl ?_
            refine wp_iconst (M := mX7_inBook) (pc := 59) (v := 3) dX7_inBook_59 ci_3 ?_
            refine wp_iadd (M := mX7_inBook) (pc := 60) dX7_inBook_60 ?_
            refine wr_iaload (M := mX7_inBook) (pc := 61) dX7_inBook_61 ka (ia rfl (show (3 : Int32) = nI 3 from rfl)) (by omega) (by decide) ?_
            refine wp_iload_n (M := mX7_inBook) (pc := 62) dX7_inBook_62 rfl ?_
            refine wp_if_eq (M := mX7_inBook) (pc := 63) (tgt := 75) dX7_inBook_63 rfl (fun t63 => ?_) (fun f63 => ?_)
            · refine wp_iconst (M := mX7_inBook) (pc := 75) (v := 1) dX7_inBook_75 ci_1 ?_
              refine wp_imul (M := mX7_inBook) (pc := 76) dX7_inBook_76 ?_
              refine wp_goto (M := mX7_inBook) (pc := 77) (tgt := 81) dX7_inBook_77 rfl ?_
              refine wp_iadd (M := mX7_inBook) (pc := 81) dX7_inBook_81 ?_
              refine so_istore (M := mX7_inBook) (pc := 82) (lo' := [_, _, _, _, _, _, _, _]) dX7_inBook_82 (LE rfl) (LE rfl) (Or.inr rfl) rfl ?_
              refine so_iinc (M := mX7_inBook) (pc := 84) (lo' := [_, _, _, _, _, _, _, _]) dX7_inBook_84 rfl ci_1 (LE rfl) rfl ?_
              refine wp_goto (M := mX7_inBook) (pc := 87) (tgt := 6) dX7_inBook_87 rfl ?_
              rw [show nI i + 1 = nI (i + 1) from nI_1 i]
              have hz := fun y z => ih (i + 1) y z (by omega) (by omega)
              first
              | (rw [osm_no (gk_n1 o0 t29)] at hz; rw [Int32.add_zero]; exact hz _ _)
              | (rw [osm_no (gk_n2 o1 t39)] at hz; rw [Int32.add_zero]; exact hz _ _)
              | (rw [osm_ye (gk_y o0 f29 o1 f39 o4 n6 o5 ht hkd), if_pos t63] at hz; rw [o3]; exact hz _ _)
              | (rw [osm_ye (gk_y o0 f29 o1 f39 o4 n6 o5 ht hkd), if_neg f63] at hz; rw [o3, o2]; exact hz _ _)
              | exact absurd t53 (by decide)
              | exact absurd rfl f53
              | fail "leaf"
            · refine wp_aload_n (M := mX7_inBook) (pc := 66) dX7_inBook_66 rfl ?_
              refine wp_iload (M := mX7_inBook) (pc := 67) dX7_inBook_67 rfl ?_
              refine wp_iconst (M := mX7_inBook) (pc := 69) (v := 2) dX7_inBook_69 ci_2 ?_
              refine wp_iadd (M := mX7_inBook) (pc := 70) dX7_inBook_70 ?_
              refine wr_iaload (M := mX7_inBook) (pc := 71) dX7_inBook_71 ka (ia rfl (show (2 : Int32) = nI 2 from rfl)) (by omega) (by decide) ?_
              refine wp_goto (M := mX7_inBook) (pc := 72) (tgt := 76) dX7_inBook_72 rfl ?_
              refine wp_imul (M := mX7_inBook) (pc := 76) dX7_inBook_76 ?_
              refine wp_goto (M := mX7_inBook) (pc := 77) (tgt := 81) dX7_inBook_77 rfl ?_
              refine wp_iadd (M := mX7_inBook) (pc := 81) dX7_inBook_81 ?_
              refine so_istore (M := mX7_inBook) (pc := 82) (lo' := [_, _, _, _, _, _, _, _]) dX7_inBook_82 (LE rfl) (LE rfl) (Or.inr rfl) rfl ?_
              refine so_iinc (M := mX7_inBook) (pc := 84) (lo' := [_, _, _, _, _, _, _, _]) dX7_inBook_84 rfl ci_1 (LE rfl) rfl ?_
              refine wp_goto (M := mX7_inBook) (pc := 87) (tgt := 6) dX7_inBook_87 rfl ?_
              rw [show nI i + 1 = nI (i + 1) from nI_1 i]
              have hz := fun y z => ih (i + 1) y z (by omega) (by omega)
              first
              | (rw [osm_no (gk_n1 o0 t29)] at hz; rw [Int32.add_zero]; exact hz _ _)
              | (rw [osm_no (gk_n2 o1 t39)] at hz; rw [Int32.add_zero]; exact hz _ _)
              | (rw [osm_ye (gk_y o0 f29 o1 f39 o4 n6 o5 ht hkd), if_pos t63] at hz; rw [o3]; exact hz _ _)
              | (rw [osm_ye (gk_y o0 f29 o1 f39 o4 n6 o5 ht hkd), if_neg f63] at hz; rw [o3, o2]; exact hz _ _)
              | exact absurd t53 (by decide)
              | exact absurd rfl f53
              | fail "leaf"
        · refine wp_iconst (M := mX7_inBook) (pc := 42) (v := 1) dX7_inBook_42 ci_1 ?_
          refine wp_goto (M := mX7_inBook) (pc := 43) (tgt := 47) dX7_inBook_43 rfl ?_
          refine so_istore (M := mX7_inBook) (pc := 47) (lo' := [_, _, _, _, _, _, _, _]) dX7_inBook_47 (LE rfl) (LE rfl) (Or.inr rfl) rfl ?_
          refine wp_iload (M := mX7_inBook) (pc := 49) dX7_inBook_49 rfl ?_
          refine wp_iload (M := mX7_inBook) (pc := 51) dX7_inBook_51 rfl ?_
          refine wp_if_eq (M := mX7_inBook) (pc := 53) (tgt := 80) dX7_inBook_53 rfl (fun t53 => ?_) (fun f53 => ?_)
          · refine wp_iconst (M := mX7_inBook) (pc := 80) (v := 0) dX7_inBook_80 ci_0 ?_
            refine wp_iadd (M := mX7_inBook) (pc := 81) dX7_inBook_81 ?_
            refine so_istore (M := mX7_inBook) (pc := 82) (lo' := [_, _, _, _, _, _, _, _]) dX7_inBook_82 (LE rfl) (LE rfl) (Or.inr rfl) rfl ?_
            refine so_iinc (M := mX7_inBook) (pc := 84) (lo' := [_, _, _, _, _, _, _, _]) dX7_inBook_84 rfl ci_1 (LE rfl) rfl ?_
            refine wp_goto (M := mX7_inBook) (pc := 87) (tgt := 6) dX7_inBook_87 rfl ?_
            rw [show nI i + 1 = nI (i + 1) from nI_1 i]
            have hz := fun y z => ih (i + 1) y z (by omega) (by omega)
            first
            | (rw [osm_no (gk_n1 o0 t29)] at hz; rw [Int32.add_zero]; exact hz _ _)
            | (rw [osm_no (gk_n2 o1 t39)] at hz; rw [Int32.add_zero]; exact hz _ _)
            | (rw [osm_ye (gk_y o0 f29 o1 f39 o4 n6 o5 ht hkd), if_pos t63] at hz; rw [o3]; exact hz _ _)
            | (rw [osm_ye (gk_y o0 f29 o1 f39 o4 n6 o5 ht hkd), if_neg f63] at hz; rw [o3, o2]; exact hz _ _)
            | exact absurd t53 (by decide)
            | exact absurd rfl f53
            | fail "leaf"
          · refine wp_aload_n (M := mX7_inBook) (pc := 56) dX7_inBook_56 rfl ?_
            refine wp_iload (M := mX7_inBook) (pc := 57) dX7_inBook_57 rfl ?_
            refine wp_iconst (M := mX7_inBook) (pc := 59) (v := 3) dX7_inBook_59 ci_3 ?_
            refine wp_iadd (M := mX7_inBook) (pc := 60) dX7_inBook_60 ?_
            refine wr_iaload (M := mX7_inBook) (pc := 61) dX7_inBook_61 ka (ia rfl (show (3 : Int32) = nI 3 from rfl)) (by omega) (by decide) ?_
            refine wp_iload_n (M := mX7_inBook) (pc := 62) dX7_inBook_62 rfl ?_
            refine wp_if_eq (M := mX7_inBook) (pc := 63) (tgt := 75) dX7_inBook_63 rfl (fun t63 => ?_) (fun f63 => ?_)
            · refine wp_iconst (M := mX7_inBook) (pc := 75) (v := 1) dX7_inBook_75 ci_1 ?_
              refine wp_imul (M := mX7_inBook) (pc := 76) dX7_inBook_76 ?_
              refine wp_goto (M := mX7_inBook) (pc := 77) (tgt := 81) dX7_inBook_77 rfl ?_
              refine wp_iadd (M := mX7_inBook) (pc := 81) dX7_inBook_81 ?_
              refine so_istore (M := mX7_inBook) (pc := 82) (lo' := [_, _, _, _, _, _, _, _]) dX7_inBook_82 (LE rfl) (LE rfl) (Or.inr rfl) rfl ?_
              refine so_iinc (M := mX7_inBook) (pc := 84) (lo' := [_, _, _, _, _, _, _, _]) dX7_inBook_84 rfl ci_1 (LE rfl) rfl ?_
              refine wp_goto (M := mX7_inBook) (pc := 87) (tgt := 6) dX7_inBook_87 rfl ?_
              rw [show nI i + 1 = nI (i + 1) from nI_1 i]
              have hz := fun y z => ih (i + 1) y z (by omega) (by omega)
              first
              | (rw [osm_no (gk_n1 o0 t29)] at hz; rw [Int32.add_zero]; exact hz _ _)
              | (rw [osm_no (gk_n2 o1 t39)] at hz; rw [Int32.add_zero]; exact hz _ _)
              | (rw [osm_ye (gk_y o0 f29 o1 f39 o4 n6 o5 ht hkd), if_pos t63] at hz; rw [o3]; exact hz _ _)
              | (rw [osm_ye (gk_y o0 f29 o1 f39 o4 n6 o5 ht hkd), if_neg f63] at hz; rw [o3, o2]; exact hz _ _)
              | exact absurd t53 (by decide)
              | exact absurd rfl f53
              | fail "leaf"
            · refine wp_aload_n (M := mX7_inBook) (pc := 66) dX7_inBook_66 rfl ?_
              refine wp_iload (M := mX7_inBook) (pc := 67) dX7_inBook_67 rfl ?_
              refine wp_iconst (M := mX7_inBook) (pc := 69) (v := 2) dX7_inBook_69 ci_2 ?_
              refine wp_iadd (M := mX7_inBook) (pc := 70) dX7_inBook_70 ?_
              refine wr_iaload (M := mX7_inBook) (pc := 71) dX7_inBook_71 ka (ia rfl (show (2 : Int32) = nI 2 from rfl)) (by omega) (by decide) ?_
              refine wp_goto (M := mX7_inBook) (pc := 72) (tgt := 76) dX7_inBook_72 rfl ?_
              refine wp_imul (M := mX7_inBook) (pc := 76) dX7_inBook_76 ?_
              refine wp_goto (M := mX7_inBook) (pc := 77) (tgt := 81) dX7_inBook_77 rfl ?_
              refine wp_iadd (M := mX7_inBook) (pc := 81) dX7_inBook_81 ?_
              refine so_istore (M := mX7_inBook) (pc := 82) (lo' := [_, _, _, _, _, _, _, _]) dX7_inBook_82 (LE rfl) (LE rfl) (Or.inr rfl) rfl ?_
              refine so_iinc (M := mX7_inBook) (pc := 84) (lo' := [_, _, _, _, _, _, _, _]) dX7_inBook_84 rfl ci_1 (LE rfl) rfl ?_
              refine wp_goto (M := mX7_inBook) (pc := 87) (tgt := 6) dX7_inBook_87 rfl ?_
              rw [show nI i + 1 = nI (i + 1) from nI_1 i]
              have hz := fun y z => ih (i + 1) y z (by omega) (by omega)
              first
              | (rw [osm_no (gk_n1 o0 t29)] at hz; rw [Int32.add_zero]; exact hz _ _)
              | (rw [osm_no (gk_n2 o1 t39)] at hz; rw [Int32.add_zero]; exact hz _ _)
              | (rw [osm_ye (gk_y o0 f29 o1 f39 o4 n6 o5 ht hkd), if_pos t63] at hz; rw [o3]; exact hz _ _)
              | (rw [osm_ye (gk_y o0 f29 o1 f39 o4 n6 o5 ht hkd), if_neg f63] at hz; rw [o3, o2]; exact hz _ _)
              | exact absurd t53 (by decide)
              | exact absurd rfl f53
              | fail "leaf"
set_option maxHeartbeats 4000000 in
set_option maxRecDepth 100000 in
theorem sp_X7_inBook {a : Nat} {A : Sta} {t kn : Nat} {c : Int32} (ka : kd h a = some (.inr (0, 1360))) (hR : RepR (gi h a) A) (ht : t < 2 ^ 31) (hkd : kn < 3) (k : Q (.inl (some (.int (osm (gk t kn c) A (sO A).length)))) h) : WPx E mX7_inBook 0 [some (.ref a), some (.int (nI t)), some (.int (nI kn)), some (.int c), none, none, none, none] [] (0, 0) h Q := by
  refine wp_iconst (M := mX7_inBook) (pc := 0) (v := 0) dX7_inBook_0 ci_0 ?_
  refine so_istore (M := mX7_inBook) (pc := 1) (lo' := [_, _, _, _, _, _, _, _]) dX7_inBook_1 (LE rfl) (LE rfl) (Or.inr rfl) rfl ?_
  refine wp_iconst (M := mX7_inBook) (pc := 3) (v := 0) dX7_inBook_3 ci_0 ?_
  refine so_istore (M := mX7_inBook) (pc := 4) (lo' := [_, _, _, _, _, _, _, _]) dX7_inBook_4 (LE rfl) (LE rfl) (Or.inr rfl) rfl ?_
  exact lp_X7_inBook ka hR ht hkd k ((sO A).length + 1) 0 none none (by omega) (by omega)
set_option maxHeartbeats 4000000 in
set_option maxRecDepth 100000 in
theorem sp_X7_tell {a : Nat} {A : Sta} {t j : Nat} (ka : kd h a = some (.inr (0, 1360))) (hR : RepR (gi h a) A) (ht : t < sN A) (hj : j < 12) (k : Q (.inl (some (.int (tnumR A t j)))) h) : WPx E mX7_tell 0 [some (.ref a), some (.int (nI t)), some (.int (nI j)), none] [] (0, 0) h Q := by
  have n6 := hR.n6
  have n12 := hR.n12
  refine wp_iload_n (M := mX7_tell) (pc := 0) dX7_tell_0 rfl ?_
  refine so_S1 (M := mX7_tell) (pc := 1) cs_X7_tell_90 rfl rfl (LE rfl) (LE rfl) dX7_tell_1 ?_
  refine sp_X7_at ?_
  refine kI ?_
  refine so_istore_n (M := mX7_tell) (pc := 4) (lo' := [_, _, _, _]) dX7_tell_4 (LE rfl) (LE rfl) (Or.inr rfl) rfl ?_
  refine wp_iload_n (M := mX7_tell) (pc := 5) dX7_tell_5 rfl ?_
  have sw6 : j = 0 ∨ j = 1 ∨ j = 2 ∨ j = 3 ∨ j = 4 ∨ j = 5 ∨ j = 6 ∨ j = 7 ∨ j = 8 ∨ j = 9 ∨ j = 10 ∨ 10 < j := by omega
  rcases sw6 with rfl | rfl | rfl | rfl | rfl | rfl | rfl | rfl | rfl | rfl | rfl | sw6
  · refine wp_tableIn (M := mX7_tell) (pc := 6) (x := nI 0) (tgt := 64) dX7_tell_6 (by decide) (by decide) rfl rfl ?_
    refine wp_aload_n (M := mX7_tell) (pc := 64) dX7_tell_64 rfl ?_
    refine wp_iload_n (M := mX7_tell) (pc := 65) dX7_tell_65 rfl ?_
    refine wp_iconst (M := mX7_tell) (pc := 66) (v := 0) dX7_tell_66 ci_0 ?_
    refine wp_iadd (M := mX7_tell) (pc := 67) dX7_tell_67 ?_
    refine wr_iaload (M := mX7_tell) (pc := 68) dX7_tell_68 ka (ia rfl (show (0 : Int32) = nI 0 from rfl)) (by omega) (by decide) ?_
    refine wp_ireturn (M := mX7_tell) (pc := 69) rfl dX7_tell_69 ?_
    rw [hR.tF ht (by decide)]; exact k
  · refine wp_tableIn (M := mX7_tell) (pc := 6) (x := nI 1) (tgt := 70) dX7_tell_6 (by decide) (by decide) rfl rfl ?_
    refine wp_aload_n (M := mX7_tell) (pc := 70) dX7_tell_70 rfl ?_
    refine wp_iload_n (M := mX7_tell) (pc := 71) dX7_tell_71 rfl ?_
    refine wp_iconst (M := mX7_tell) (pc := 72) (v := 1) dX7_tell_72 ci_1 ?_
    refine wp_iadd (M := mX7_tell) (pc := 73) dX7_tell_73 ?_
    refine wr_iaload (M := mX7_tell) (pc := 74) dX7_tell_74 ka (ia rfl (show (1 : Int32) = nI 1 from rfl)) (by omega) (by decide) ?_
    refine wp_ireturn (M := mX7_tell) (pc := 75) rfl dX7_tell_75 ?_
    rw [hR.tF ht (by decide)]; exact k
  · refine wp_tableIn (M := mX7_tell) (pc := 6) (x := nI 2) (tgt := 76) dX7_tell_6 (by decide) (by decide) rfl rfl ?_
    refine wp_aload_n (M := mX7_tell) (pc := 76) dX7_tell_76 rfl ?_
    refine wp_iload_n (M := mX7_tell) (pc := 77) dX7_tell_77 rfl ?_
    refine wp_iconst (M := mX7_tell) (pc := 78) (v := 2) dX7_tell_78 ci_2 ?_
    refine wp_iadd (M := mX7_tell) (pc := 79) dX7_tell_79 ?_
    refine wr_iaload (M := mX7_tell) (pc := 80) dX7_tell_80 ka (ia rfl (show (2 : Int32) = nI 2 from rfl)) (by omega) (by decide) ?_
    refine wp_ireturn (M := mX7_tell) (pc := 81) rfl dX7_tell_81 ?_
    rw [hR.tF ht (by decide)]; exact k
  · refine wp_tableIn (M := mX7_tell) (pc := 6) (x := nI 3) (tgt := 82) dX7_tell_6 (by decide) (by decide) rfl rfl ?_
    refine wp_aload_n (M := mX7_tell) (pc := 82) dX7_tell_82 rfl ?_
    refine wp_iload_n (M := mX7_tell) (pc := 83) dX7_tell_83 rfl ?_
    refine wp_iconst (M := mX7_tell) (pc := 84) (v := 3) dX7_tell_84 ci_3 ?_
    refine wp_iadd (M := mX7_tell) (pc := 85) dX7_tell_85 ?_
    refine wr_iaload (M := mX7_tell) (pc := 86) dX7_tell_86 ka (ia rfl (show (3 : Int32) = nI 3 from rfl)) (by omega) (by decide) ?_
    refine wp_ireturn (M := mX7_tell) (pc := 87) rfl dX7_tell_87 ?_
    rw [hR.tF ht (by decide)]; exact k
  · refine wp_tableIn (M := mX7_tell) (pc := 6) (x := nI 4) (tgt := 88) dX7_tell_6 (by decide) (by decide) rfl rfl ?_
    refine wp_aload_n (M := mX7_tell) (pc := 88) dX7_tell_88 rfl ?_
    refine wp_iload_n (M := mX7_tell) (pc := 89) dX7_tell_89 rfl ?_
    refine wp_iconst (M := mX7_tell) (pc := 90) (v := 4) dX7_tell_90 ci_4 ?_
    refine wp_iadd (M := mX7_tell) (pc := 91) dX7_tell_91 ?_
    refine wr_iaload (M := mX7_tell) (pc := 92) dX7_tell_92 ka (ia rfl (show (4 : Int32) = nI 4 from rfl)) (by omega) (by decide) ?_
    refine wp_ireturn (M := mX7_tell) (pc := 93) rfl dX7_tell_93 ?_
    rw [hR.tF ht (by decide)]; exact k
  · refine wp_tableIn (M := mX7_tell) (pc := 6) (x := nI 5) (tgt := 94) dX7_tell_6 (by decide) (by decide) rfl rfl ?_
    refine wp_aload_n (M := mX7_tell) (pc := 94) dX7_tell_94 rfl ?_
    refine wp_iload_n (M := mX7_tell) (pc := 95) dX7_tell_95 rfl ?_
    refine wp_iconst (M := mX7_tell) (pc := 96) (v := 1) dX7_tell_96 ci_1 ?_
    refine wp_iconst (M := mX7_tell) (pc := 97) (v := 0) dX7_tell_97 ci_0 ?_
    refine so_S4 (M := mX7_tell) (pc := 98) cs_X7_tell_122 rfl rfl (LE rfl) (LE rfl) dX7_tell_98 ?_
    refine sp_X7_inBook (kn := 1) (c := 0) ka hR (by omega) (by decide) ?_
    refine kI ?_
    refine wp_ireturn (M := mX7_tell) (pc := 101) rfl dX7_tell_101 ?_
    rw [gk_q]; exact k
  · refine wp_tableIn (M := mX7_tell) (pc := 6) (x := nI 6) (tgt := 102) dX7_tell_6 (by decide) (by decide) rfl rfl ?_
    refine wp_aload_n (M := mX7_tell) (pc := 102) dX7_tell_102 rfl ?_
    refine wp_iload_n (M := mX7_tell) (pc := 103) dX7_tell_103 rfl ?_
    refine wp_iconst (M := mX7_tell) (pc := 104) (v := 0) dX7_tell_104 ci_0 ?_
    refine wp_iconst (M := mX7_tell) (pc := 105) (v := 1) dX7_tell_105 ci_1 ?_
    refine so_S4 (M := mX7_tell) (pc := 106) cs_X7_tell_122 rfl rfl (LE rfl) (LE rfl) dX7_tell_106 ?_
    refine sp_X7_inBook (kn := 0) (c := 1) ka hR (by omega) (by decide) ?_
    refine kI ?_
    refine wp_ireturn (M := mX7_tell) (pc := 109) rfl dX7_tell_109 ?_
    rw [gk_c]; exact k
  · refine wp_tableIn (M := mX7_tell) (pc := 6) (x := nI 7) (tgt := 110) dX7_tell_6 (by decide) (by decide) rfl rfl ?_
    refine wp_aload_n (M := mX7_tell) (pc := 110) dX7_tell_110 rfl ?_
    refine wp_iload_n (M := mX7_tell) (pc := 111) dX7_tell_111 rfl ?_
    refine so_S2 (M := mX7_tell) (pc := 112) cs_X7_tell_126 rfl rfl (LE rfl) (LE rfl) dX7_tell_112 ?_
    refine sp_X7_debts ka hR ht ?_
    refine kI ?_
    refine wp_ireturn (M := mX7_tell) (pc := 115) rfl dX7_tell_115 ?_
    exact k
  · refine wp_tableIn (M := mX7_tell) (pc := 6) (x := nI 8) (tgt := 116) dX7_tell_6 (by decide) (by decide) rfl rfl ?_
    refine wp_aload_n (M := mX7_tell) (pc := 116) dX7_tell_116 rfl ?_
    refine wp_iload_n (M := mX7_tell) (pc := 117) dX7_tell_117 rfl ?_
    refine wp_bipush (M := mX7_tell) (pc := 118) (v := 16) dX7_tell_118 cb_16 ?_
    refine wp_iadd (M := mX7_tell) (pc := 120) dX7_tell_120 ?_
    refine wr_iaload (M := mX7_tell) (pc := 121) dX7_tell_121 ka (ia rfl (show (16 : Int32) = nI 16 from rfl)) (by omega) (by decide) ?_
    refine wp_if_ne (M := mX7_tell) (pc := 122) (tgt := 130) dX7_tell_122 rfl (fun t122 => ?_) (fun f122 => ?_)
    · rw [(hR.tD ht).1] at t122
      have hne : (sT A t).2.2 ≠ [] := fun e => t122 (by rw [e]; rfl)
      refine wp_aload_n (M := mX7_tell) (pc := 130) dX7_tell_130 rfl ?_
      refine wp_iload_n (M := mX7_tell) (pc := 131) dX7_tell_131 rfl ?_
      refine wp_bipush (M := mX7_tell) (pc := 132) (v := 17) dX7_tell_132 cb_17 ?_
      refine wp_iadd (M := mX7_tell) (pc := 134) dX7_tell_134 ?_
      refine wp_iconst (M := mX7_tell) (pc := 135) (v := 1) dX7_tell_135 ci_1 ?_
      refine wp_iadd (M := mX7_tell) (pc := 136) dX7_tell_136 ?_
      refine wr_iaload (M := mX7_tell) (pc := 137) dX7_tell_137 ka (ia (ia rfl (show (17 : Int32) = nI 17 from rfl)) (show (1 : Int32) = nI 1 from rfl)) (by omega) (by decide) ?_
      refine wp_ireturn (M := mX7_tell) (pc := 138) rfl dX7_tell_138 ?_
      first
      | (rw [show tnumR A t 8 = -9 by unfold tnumR; rw [if_pos rfl, hnil]] at k
         exact k)
      | (have h9 := List.length_pos_iff.mpr hne
         have e9 : gi h a (58 + 217 * t + 17 + 1) = nI ((sT A t).2.2.getD 0 (0, 0)).2 := (hR.td ht h9).2
         have e8 : tnumR A t 8 = nI ((sT A t).2.2.getD 0 (0, 0)).2 := by
           unfold tnumR
           rw [if_pos rfl]
           cases e7 : (sT A t).2.2 with
           | nil => exact absurd e7 hne
           | cons y r => rfl
         rw [e9, ← e8]
         exact k)
      | fail "leaf"
    · rw [(hR.tD ht).1] at f122
      have h100 := (hR.tD ht).2
      have hnil : (sT A t).2.2 = [] := List.eq_nil_of_length_eq_zero ((i_eq (b := 0) (by omega) (by decide)).mp f122)
      refine wp_bipush (M := mX7_tell) (pc := 125) (v := -9) dX7_tell_125 cb_m9 ?_
      refine wp_goto (M := mX7_tell) (pc := 127) (tgt := 138) dX7_tell_127 rfl ?_
      refine wp_ireturn (M := mX7_tell) (pc := 138) rfl dX7_tell_138 ?_
      first
      | (rw [show tnumR A t 8 = -9 by unfold tnumR; rw [if_pos rfl, hnil]] at k
         exact k)
      | (have h9 := List.length_pos_iff.mpr hne
         have e9 : gi h a (58 + 217 * t + 17 + 1) = nI ((sT A t).2.2.getD 0 (0, 0)).2 := (hR.td ht h9).2
         have e8 : tnumR A t 8 = nI ((sT A t).2.2.getD 0 (0, 0)).2 := by
           unfold tnumR
           rw [if_pos rfl]
           cases e7 : (sT A t).2.2 with
           | nil => exact absurd e7 hne
           | cons y r => rfl
         rw [e9, ← e8]
         exact k)
      | fail "leaf"
  · refine wp_tableIn (M := mX7_tell) (pc := 6) (x := nI 9) (tgt := 139) dX7_tell_6 (by decide) (by decide) rfl rfl ?_
    refine wp_aload_n (M := mX7_tell) (pc := 139) dX7_tell_139 rfl ?_
    refine wp_iload_n (M := mX7_tell) (pc := 140) dX7_tell_140 rfl ?_
    refine wp_bipush (M := mX7_tell) (pc := 141) (v := 7) dX7_tell_141 cb_7 ?_
    refine wp_iadd (M := mX7_tell) (pc := 143) dX7_tell_143 ?_
    refine wr_iaload (M := mX7_tell) (pc := 144) dX7_tell_144 ka (ia rfl (show (7 : Int32) = nI 7 from rfl)) (by omega) (by decide) ?_
    refine wp_ireturn (M := mX7_tell) (pc := 145) rfl dX7_tell_145 ?_
    rw [(hR.tM ht).1]; exact k
  · refine wp_tableIn (M := mX7_tell) (pc := 6) (x := nI 10) (tgt := 146) dX7_tell_6 (by decide) (by decide) rfl rfl ?_
    refine wp_aload_n (M := mX7_tell) (pc := 146) dX7_tell_146 rfl ?_
    refine wp_iload_n (M := mX7_tell) (pc := 147) dX7_tell_147 rfl ?_
    refine wp_iconst (M := mX7_tell) (pc := 148) (v := 5) dX7_tell_148 ci_5 ?_
    refine wp_iadd (M := mX7_tell) (pc := 149) dX7_tell_149 ?_
    refine wr_iaload (M := mX7_tell) (pc := 150) dX7_tell_150 ka (ia rfl (show (5 : Int32) = nI 5 from rfl)) (by omega) (by decide) ?_
    refine wp_ireturn (M := mX7_tell) (pc := 151) rfl dX7_tell_151 ?_
    rw [hR.tF ht (by decide)]; exact k
  · refine wp_tableOut (M := mX7_tell) (pc := 6) (x := nI j) (tgt := 152) dX7_tell_6 (Or.inr (sw_out sw6 (by omega))) rfl ?_
    refine wp_aload_n (M := mX7_tell) (pc := 152) dX7_tell_152 rfl ?_
    refine wp_iload_n (M := mX7_tell) (pc := 153) dX7_tell_153 rfl ?_
    refine so_S2 (M := mX7_tell) (pc := 154) cs_X7_tell_130 rfl rfl (LE rfl) (LE rfl) dX7_tell_154 ?_
    refine sp_X7_isSuspended ka hR ht ?_
    refine kI ?_
    refine wp_if_eq (M := mX7_tell) (pc := 157) (tgt := 169) dX7_tell_157 rfl (fun t157 => ?_) (fun f157 => ?_)
    · refine wp_bipush (M := mX7_tell) (pc := 169) (v := -9) dX7_tell_169 cb_m9 ?_
      refine wp_ireturn (M := mX7_tell) (pc := 171) rfl dX7_tell_171 ?_
      have e11 : j = 11 := by omega
      subst e11
      have e8 : tnumR A t 11 = if susp A t then fT A t 6 else -9 := rfl
      rw [e8] at k
      first
      | (rw [if_neg (b01_z t157)] at k; exact k)
      | (rw [if_pos (b01_n f157)] at k; rw [hR.tF ht (by decide)]; exact k)
      | fail "leaf"
    · refine wp_aload_n (M := mX7_tell) (pc := 160) dX7_tell_160 rfl ?_
      refine wp_iload_n (M := mX7_tell) (pc := 161) dX7_tell_161 rfl ?_
      refine wp_bipush (M := mX7_tell) (pc := 162) (v := 6) dX7_tell_162 cb_6 ?_
      refine wp_iadd (M := mX7_tell) (pc := 164) dX7_tell_164 ?_
      refine wr_iaload (M := mX7_tell) (pc := 165) dX7_tell_165 ka (ia rfl (show (6 : Int32) = nI 6 from rfl)) (by omega) (by decide) ?_
      refine wp_goto (M := mX7_tell) (pc := 166) (tgt := 171) dX7_tell_166 rfl ?_
      refine wp_ireturn (M := mX7_tell) (pc := 171) rfl dX7_tell_171 ?_
      have e11 : j = 11 := by omega
      subst e11
      have e8 : tnumR A t 11 = if susp A t then fT A t 6 else -9 := rfl
      rw [e8] at k
      first
      | (rw [if_neg (b01_z t157)] at k; exact k)
      | (rw [if_pos (b01_n f157)] at k; rw [hR.tF ht (by decide)]; exact k)
      | fail "leaf"
end SP
