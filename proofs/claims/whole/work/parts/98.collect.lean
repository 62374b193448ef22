section SP
variable {E : Ev} {h : PH} {Q : Rt → PH → Prop}
/-! what is owed is collected: all at once, or one by one -/
theorem mis_i {m : Int32} (h : 0 ≤ m.toInt) : mis m = m.toInt.toNat := rfl
noncomputable def col2N (B : Sta) (t n : Nat) : Sta := if (payA t n B).2 = 0 then (payA t n B).1 else wF (payA t n B).1 t 6 (nI (sTi B) + 2 * nI (sTm B))
theorem col2_N (B : Sta) (t : Nat) (m : Int32) : col2 B t m = col2N B t (mis m) := rfl
def payS (B : Sta) (t : Nat) : Sta := wG (wF B t 4 (fT B t 4 - sG B 4)) 6 (sG B 6 + sG B 4)
theorem pay_y {t c : Nat} {B : Sta} (h : sG B 4 ≤ fT B t 4) : payA t (c + 1) B = payA t c (payS B t) := by rw [payA, if_pos h]; rfl
theorem pay_n {t c : Nat} {B : Sta} (h : ¬ sG B 4 ≤ fT B t 4) : payA t c B = (B, c) := by
  cases c with
  | zero => rfl
  | succ c => rw [payA, if_neg h]
theorem payS_c (B : Sta) (t : Nat) : (payS B t).1 = B.1 ∧ sO (payS B t) = sO B ∧ (∀ k, k ≠ 6 → sG (payS B t) k = sG B k) ∧ (∀ k, k ≠ 4 → (sT (payS B t) t).1 k = (sT B t).1 k) ∧ (sT (payS B t) t).2 = (sT B t).2 := by
  have e : sT (payS B t) t = (upd (sT B t).1 4 (fT B t 4 - sG B 4), (sT B t).2) := u1_s
  refine ⟨rfl, rfl, fun k hk => up_o (f := sG (wF B t 4 (fT B t 4 - sG B 4))) hk, fun k hk => ?_, ?_⟩
  · rw [e]; exact up_o hk
  · rw [e]
theorem pay_c (t : Nat) : ∀ (c : Nat) (B : Sta), (payA t c B).1.1 = B.1 ∧ sO (payA t c B).1 = sO B ∧ (∀ k, k ≠ 6 → sG (payA t c B).1 k = sG B k) ∧ (∀ k, k ≠ 4 → (sT (payA t c B).1 t).1 k = (sT B t).1 k) ∧ (sT (payA t c B).1 t).2 = (sT B t).2
  | 0, B => ⟨rfl, rfl, fun _ _ => rfl, fun _ _ => rfl, rfl⟩
  | c + 1, B => by
    by_cases h : sG B 4 ≤ fT B t 4
    · rw [pay_y h]
      obtain ⟨a1, a2, a3, a4, a5⟩ := pay_c t c (payS B t)
      obtain ⟨b1, b2, b3, b4, b5⟩ := payS_c B t
      exact ⟨a1.trans b1, a2.trans b2, fun k hk => (a3 k hk).trans (b3 k hk), fun k hk => (a4 k hk).trans (b4 k hk), a5.trans b5⟩
    · rw [pay_n h]; exact ⟨rfl, rfl, fun _ _ => rfl, fun _ _ => rfl, rfl⟩
theorem pay_add (t r2 : Nat) : ∀ (r1 : Nat) (B : Sta), payA t (r1 + r2) B = if (payA t r1 B).2 = 0 then payA t r2 (payA t r1 B).1 else ((payA t r1 B).1, (payA t r1 B).2 + r2)
  | 0, B => by rw [Nat.zero_add]; rfl
  | r1 + 1, B => by
    by_cases h : sG B 4 ≤ fT B t 4
    · rw [show r1 + 1 + r2 = r1 + r2 + 1 by omega, pay_y h, pay_y h, pay_add t r2 r1]
    · rw [pay_n h, pay_n h, if_neg (by show ¬ r1 + 1 = 0; omega)]
theorem pay_stop (t : Nat) : ∀ (r : Nat) (B : Sta), ¬ (payA t r B).2 = 0 → ¬ sG (payA t r B).1 4 ≤ fT (payA t r B).1 t 4
  | 0, B, h => absurd rfl h
  | r + 1, B, h => by
    by_cases c : sG B 4 ≤ fT B t 4
    · rw [pay_y c] at h ⊢; exact pay_stop t r _ h
    · rw [pay_n c]; exact c
theorem up_2 {f : Nat → Int32} {k : Nat} {a b : Int32} : upd (upd f k a) k b = upd f k b := by
  funext z
  by_cases e : z = k
  · rw [e, up_s, up_s]
  · rw [up_o e, up_o e, up_o e]
theorem up_c {f : Nat → Int32} {j k : Nat} {a b : Int32} (h : j ≠ k) : upd (upd f j a) k b = upd (upd f k b) j a := by
  funext z
  by_cases e : z = k
  · rw [e, up_s, up_o (Ne.symm h), up_s]
  · rw [up_o e]
    by_cases e2 : z = j
    · rw [e2, up_s, up_s]
    · rw [up_o e2, up_o e2, up_o e]
theorem wF_w (A : Sta) (t k : Nat) (a b : Int32) : wF (wF A t k a) t k b = wF A t k b := by
  unfold wF
  rw [wT_2, sT_wT, up_2]
theorem col2_0 (B : Sta) (t : Nat) : col2N B t 0 = B := rfl
theorem col2_c (B : Sta) (t r : Nat) : (col2N B t r).1 = B.1 ∧ sO (col2N B t r) = sO B ∧ (∀ k, k ≠ 6 → sG (col2N B t r) k = sG B k) ∧ (∀ k, k ≠ 4 → k ≠ 6 → (sT (col2N B t r) t).1 k = (sT B t).1 k) ∧ (sT (col2N B t r) t).2 = (sT B t).2 := by
  obtain ⟨a1, a2, a3, a4, a5⟩ := pay_c t r B
  unfold col2N
  by_cases h : (payA t r B).2 = 0
  · rw [if_pos h]; exact ⟨a1, a2, a3, fun k h4 _ => a4 k h4, a5⟩
  · rw [if_neg h]
    have e : sT (wF (payA t r B).1 t 6 (nI (sTi B) + 2 * nI (sTm B))) t = (upd (sT (payA t r B).1 t).1 6 (nI (sTi B) + 2 * nI (sTm B)), (sT (payA t r B).1 t).2) := u1_s
    exact ⟨a1, a2, a3, fun k h4 h6 => by rw [e]; exact (up_o h6).trans (a4 k h4), by rw [e]; exact a5⟩
theorem col2_add (B : Sta) (t r1 r2 : Nat) : col2N (col2N B t r1) t r2 = col2N B t (r1 + r2) := by
  obtain ⟨a1, a2, a3, a4, a5⟩ := pay_c t r1 B
  have ad := pay_add t r2 r1 B
  by_cases h : (payA t r1 B).2 = 0
  · have e : col2N B t r1 = (payA t r1 B).1 := by unfold col2N; rw [if_pos h]
    rw [if_pos h] at ad
    rw [e]
    unfold col2N
    rw [ad, show sTi (payA t r1 B).1 = sTi B by show (payA t r1 B).1.1.2.1 = _; rw [a1], show sTm (payA t r1 B).1 = sTm B by show (payA t r1 B).1.1.2.2 = _; rw [a1]]
  · have e : col2N B t r1 = wF (payA t r1 B).1 t 6 (nI (sTi B) + 2 * nI (sTm B)) := by unfold col2N; rw [if_neg h]
    rw [if_neg h] at ad
    have st := pay_stop t r1 B h
    have e2 : col2N B t (r1 + r2) = wF (payA t r1 B).1 t 6 (nI (sTi B) + 2 * nI (sTm B)) := by
      unfold col2N
      rw [ad, if_neg (by show ¬ (payA t r1 B).2 + r2 = 0; omega)]
    rw [e2, e]
    generalize hX : wF (payA t r1 B).1 t 6 (nI (sTi B) + 2 * nI (sTm B)) = X
    have s2 : ¬ sG X 4 ≤ fT X t 4 := by
      rw [← hX]
      have e9 : fT (wF (payA t r1 B).1 t 6 (nI (sTi B) + 2 * nI (sTm B))) t 4 = fT (payA t r1 B).1 t 4 := by
        show (u1 (sT (payA t r1 B).1) t _ t).1 4 = _
        rw [u1_s]; exact up_o (f := (sT (payA t r1 B).1 t).1) (k := 6) (j := 4) (v := nI (sTi B) + 2 * nI (sTm B)) (by decide)
      rw [e9]; exact st
    unfold col2N
    rw [pay_n s2]
    by_cases z : r2 = 0
    · rw [if_pos z]
    · rw [if_neg z]
      show wF X t 6 (nI (sTi X) + 2 * nI (sTm X)) = X
      have x1 : X.1 = B.1 := by rw [← hX]; exact a1
      rw [show sTi X = sTi B by show X.1.2.1 = _; rw [x1], show sTm X = sTm B by show X.1.2.2 = _; rw [x1], ← hX, wF_w]
/-! taking goes by itself -/
theorem tkF_up {f : Nat → Int32} {k : Nat} {v d : Int32} (h2 : k ≠ 2) (h3 : k ≠ 3) : tkF (upd f k v) d = upd (tkF f d) k v := by
  unfold tkF
  rw [up_o (Ne.symm h3), up_o (Ne.symm h2), up_c h3, up_c h2]
theorem take_w (A : Sta) (t k : Nat) (v d : Int32) (h2 : k ≠ 2) (h3 : k ≠ 3) : takeA (wF A t k v) t d = wF (takeA A t d) t k v := by
  unfold takeA wF
  rw [wT_2, wT_2, sT_wT, sT_wT, tkF_up h2 h3]
theorem tkF_k {f : Nat → Int32} {d : Int32} {k : Nat} (h2 : k ≠ 2) (h3 : k ≠ 3) : tkF f d k = f k := by unfold tkF; rw [up_o h2, up_o h3]
theorem take_f (A : Sta) (t : Nat) (d : Int32) {k : Nat} (h2 : k ≠ 2) (h3 : k ≠ 3) : fT (takeA A t d) t k = fT A t k := by
  show (u1 (sT A) t _ t).1 k = _
  rw [u1_s]; exact tkF_k h2 h3
theorem take_payS (B : Sta) (t : Nat) (d : Int32) : payS (takeA B t d) t = takeA (payS B t) t d := by
  have e : takeA (payS B t) t d = wG (takeA (wF B t 4 (fT B t 4 - sG B 4)) t d) 6 (sG B 6 + sG B 4) := rfl
  rw [e, take_w _ _ _ _ _ (by decide) (by decide)]
  unfold payS
  rw [take_f _ _ _ (by decide) (by decide)]; rfl
theorem take_pay (t : Nat) (d : Int32) : ∀ (r : Nat) (B : Sta), payA t r (takeA B t d) = (takeA (payA t r B).1 t d, (payA t r B).2)
  | 0, B => rfl
  | r + 1, B => by
    have e : (sG (takeA B t d) 4 ≤ fT (takeA B t d) t 4) ↔ (sG B 4 ≤ fT B t 4) := by rw [take_f _ _ _ (by decide) (by decide)]; exact Iff.rfl
    by_cases h : sG B 4 ≤ fT B t 4
    · rw [pay_y h, pay_y (e.mpr h), take_payS, take_pay t d r]
    · rw [pay_n h, pay_n (fun q => h (e.mp q))]
theorem take_col2 (B : Sta) (t r : Nat) (d : Int32) : takeA (col2N B t r) t d = col2N (takeA B t d) t r := by
  unfold col2N
  rw [take_pay]
  by_cases h : (payA t r B).2 = 0
  · rw [if_pos h, if_pos h]
  · rw [if_neg h, if_neg h, take_w _ _ _ _ _ (by decide) (by decide)]; rfl
theorem take_2 (A : Sta) (t : Nat) (d1 d2 d : Int32) (h2 : 0 ≤ (fT A t 2).toInt) (h3 : 0 ≤ (fT A t 3).toInt) (hd1 : 0 ≤ d1.toInt) (hd2 : 0 ≤ d2.toInt) (hd : d.toInt = d1.toInt + d2.toInt) : takeA (takeA A t d1) t d2 = takeA A t d := by
  obtain ⟨a1, a2, a3, a4⟩ := tk_i (f := (sT A t).1) (n := d1) h2 h3 hd1
  have g2 : 0 ≤ (tkF (sT A t).1 d1 2).toInt := by rw [a2]; have := h2; have := h3; omega
  have g3 : 0 ≤ (tkF (sT A t).1 d1 3).toInt := by rw [a1]; have := h3; omega
  obtain ⟨b1, b2, b3, b4⟩ := tk_i (f := tkF (sT A t).1 d1) (n := d2) g2 g3 hd2
  obtain ⟨c1, c2, c3, c4⟩ := tk_i (f := (sT A t).1) (n := d) h2 h3 (by omega)
  have h2' : 0 ≤ ((sT A t).1 2).toInt := h2
  have h3' : 0 ≤ ((sT A t).1 3).toInt := h3
  unfold takeA
  rw [wT_2, sT_wT]
  have e : tkF (tkF (sT A t).1 d1) d2 = tkF (sT A t).1 d := by
    funext k
    by_cases k3 : k = 3
    · rw [k3]; exact eqI.mpr (by rw [b1, c1, a1]; omega)
    · by_cases k2 : k = 2
      · rw [k2]; exact eqI.mpr (by rw [b2, c2, a1, a2]; omega)
      · rw [b3 k k2 k3, a3 k k2 k3, c3 k k2 k3]
  rw [e]
/-! the common form -/
noncomputable def c1S (A : Sta) (t : Nat) (d : Int32) : Sta × Int32 := if 0 < d - tkT (sT A t).1 d then (takeA (WDs (takeA A t d) t) t (d - tkT (sT A t).1 d), d - tkT (sT A t).1 d - tkT (sT (WDs (takeA A t d) t) t).1 (d - tkT (sT A t).1 d)) else (takeA A t d, d - tkT (sT A t).1 d)
noncomputable def colS (A : Sta) (t : Nat) (d : Int32) : Sta := col2N (c1S A t d).1 t (mis (c1S A t d).2)
theorem c1_R (A : Sta) (t : Nat) (d : Int32) : col1R A t d = c1S A t d := by
  unfold col1R c1S
  have e : wdR t (sO A).length 0 (takeA A t d) = WDs (takeA A t d) t := wdR_ok (takeA A t d) t
  rw [e]
theorem IW.takes {K lo : Nat} {w : Int} {A : Sta} {t : Nat} {d : Int32} (H : IW K lo w A) (ht : t < sN A) (hd : 0 ≤ d.toInt) : IW K lo w (takeA A t d) := H.one (Nat.le_refl K) ((H.ten t ht).take hd)
theorem c1_A {K lo : Nat} {A : Sta} {t : Nat} {d : Int32} (H : IW K lo 1 A) (ht : t < sN A) (hd : 0 ≤ d.toInt) : col1 A t d = c1S A t d := by
  unfold col1 c1S
  have e : remE (gvAll (takeA A t d) t (sO A).length) = WDs (takeA A t d) t := gvAll_ok (H.takes ht hd) t
  rw [e]
theorem colA_S {K lo : Nat} {A : Sta} {t : Nat} {d : Int32} (H : IW K lo 1 A) (ht : t < sN A) (hd : 0 ≤ d.toInt) : colA A t d = colS A t d := by
  unfold colA colS
  rw [c1_A H ht hd, col2_N]
/-- the credits -/
def crI (A : Sta) (t : Nat) : Int := (fT A t 2).toInt + (fT A t 3).toInt
/-- a state whose tenant t has good credits -/
def crO (A : Sta) (t : Nat) : Prop := 0 ≤ (fT A t 2).toInt ∧ 0 ≤ (fT A t 3).toInt ∧ (fT A t 2).toInt ≤ 100000000 ∧ (fT A t 3).toInt ≤ 100000000
theorem tkT_i {A : Sta} {t : Nat} {d : Int32} (h : crO A t) (hd : 0 ≤ d.toInt) : (tkT (sT A t).1 d).toInt = min (crI A t) d.toInt := by
  obtain ⟨h1, h2, h3, h4⟩ := h
  obtain ⟨a1, a2, a3, a4⟩ := tk_i (f := (sT A t).1) (n := d) h1 h2 hd
  unfold crI
  rw [a4]
  have e2 : fT A t 2 = (sT A t).1 2 := rfl
  have e3 : fT A t 3 = (sT A t).1 3 := rfl
  rw [e2] at h1 h3 ⊢
  rw [e3] at h2 h4 ⊢
  omega
theorem miss_i {A : Sta} {t : Nat} {d : Int32} (h : crO A t) (hd : 0 ≤ d.toInt) : (d - tkT (sT A t).1 d).toInt = d.toInt - min (crI A t) d.toInt := by
  have e := tkT_i h hd
  obtain ⟨h1, h2, h3, h4⟩ := h
  have b := Int32.toInt_lt d
  have c : 0 ≤ crI A t := by unfold crI; omega
  rw [sI (by omega) (by omega), e]
theorem col_le {A : Sta} {t : Nat} {d : Int32} (h : crO A t) (hd : 0 ≤ d.toInt) (hc : d.toInt ≤ crI A t) : colS A t d = takeA A t d := by
  have e := miss_i h hd
  have e0 : d - tkT (sT A t).1 d = 0 := eqI.mpr (by rw [e, tI0]; omega)
  unfold colS c1S
  rw [e0, if_neg (by decide)]; rfl
/-- nothing is left to take -/
theorem take_all {A : Sta} {t : Nat} {d d' : Int32} (h : crO A t) (hd : crI A t ≤ d.toInt) (hd' : crI A t ≤ d'.toInt) : takeA A t d = takeA A t d' := by
  obtain ⟨h1, h2, h3, h4⟩ := h
  have c : crI A t = ((sT A t).1 2).toInt + ((sT A t).1 3).toInt := rfl
  have h1' : 0 ≤ ((sT A t).1 2).toInt := h1
  have h2' : 0 ≤ ((sT A t).1 3).toInt := h2
  obtain ⟨a1, a2, a3, a4⟩ := tk_i (f := (sT A t).1) (n := d) h1 h2 (by omega)
  obtain ⟨b1, b2, b3, b4⟩ := tk_i (f := (sT A t).1) (n := d') h1 h2 (by omega)
  unfold takeA
  have e : tkF (sT A t).1 d = tkF (sT A t).1 d' := by
    funext k
    by_cases k3 : k = 3
    · rw [k3]; exact eqI.mpr (by rw [a1, b1]; omega)
    · by_cases k2 : k = 2
      · rw [k2]; exact eqI.mpr (by rw [a2, b2]; omega)
      · rw [a3 k k2 k3, b3 k k2 k3]
  rw [e]
theorem take_cr {A : Sta} {t : Nat} {d : Int32} (h : crO A t) (hd : 0 ≤ d.toInt) : crO (takeA A t d) t ∧ crI (takeA A t d) t = crI A t - min (crI A t) d.toInt := by
  obtain ⟨h1, h2, h3, h4⟩ := h
  obtain ⟨a1, a2, a3, a4⟩ := tk_i (f := (sT A t).1) (n := d) h1 h2 hd
  have e2 : fT (takeA A t d) t 2 = tkF (sT A t).1 d 2 := by show (u1 (sT A) t _ t).1 2 = _; rw [u1_s]
  have e3 : fT (takeA A t d) t 3 = tkF (sT A t).1 d 3 := by show (u1 (sT A) t _ t).1 3 = _; rw [u1_s]
  have h1' : 0 ≤ ((sT A t).1 2).toInt := h1
  have h2' : 0 ≤ ((sT A t).1 3).toInt := h2
  have h3' : ((sT A t).1 2).toInt ≤ 100000000 := h3
  have h4' : ((sT A t).1 3).toInt ≤ 100000000 := h4
  unfold crO crI
  rw [e2, e3, a1, a2]
  show _ ∧ _ = ((sT A t).1 2).toInt + ((sT A t).1 3).toInt - min (((sT A t).1 2).toInt + ((sT A t).1 3).toInt) d.toInt
  omega
theorem col_gt {A : Sta} {t : Nat} {d m : Int32} {W : Sta} (h : crO A t) (hd : 0 ≤ d.toInt) (hc : crI A t < d.toInt) (hm : m.toInt = d.toInt - crI A t) (hW : W = WDs (takeA A t d) t) (hO : crO W t) : colS A t d = col2N (takeA W t m) t (m.toInt - min (crI W t) m.toInt).toNat := by
  have e := miss_i h hd
  have e0 : d - tkT (sT A t).1 d = m := eqI.mpr (by rw [e, hm]; omega)
  have e1 := miss_i hO (d := m) (by omega)
  have c0 : 0 ≤ crI W t := by unfold crI; have := hO.1; have := hO.2.1; omega
  unfold colS c1S
  rw [e0, if_pos (ltI.mpr (by rw [tI0]; omega)), ← hW]
  show col2N (takeA W t m) t (mis (m - tkT (sT W t).1 m)) = _
  rw [mis_i (by rw [e1]; omega), e1]
set_option maxHeartbeats 1000000 in
/-- two sums, one after the other, are their sum at once -/
theorem col_add {A : Sta} {t : Nat} {d1 d2 d : Int32} (h : crO A t) (hd1 : 0 ≤ d1.toInt) (hd2 : 0 ≤ d2.toInt) (hd : d.toInt = d1.toInt + d2.toInt) (hW : ∀ e : Int32, 0 ≤ e.toInt → crO (WDs (takeA A t e) t) t ∧ (crI A t ≤ e.toInt → (fT (WDs (takeA A t e) t) t 2).toInt = 0)) : colS (colS A t d1) t d2 = colS A t d := by
  have bd := Int32.toInt_lt d
  have c0 : 0 ≤ crI A t := by unfold crI; have := h.1; have := h.2.1; omega
  by_cases c1 : d1.toInt ≤ crI A t
  · rw [col_le h hd1 c1]
    obtain ⟨o1, o2⟩ := take_cr h hd1
    have t2 := take_2 A t d1 d2 d h.1 h.2.1 hd1 hd2 hd
    by_cases c2 : d.toInt ≤ crI A t
    · rw [col_le h (by omega) c2, col_le o1 hd2 (by omega), t2]
    · obtain ⟨w1, w2⟩ := hW d (by omega)
      have em : ((d - tkT (sT A t).1 d)).toInt = d.toInt - crI A t := by rw [miss_i h (by omega)]; omega
      rw [col_gt h (by omega) (by omega) em rfl w1]
      exact col_gt o1 hd2 (by omega) (by rw [em]; omega) (by rw [t2]) w1
  · -- already the first was too much
    obtain ⟨w1, w2⟩ := hW d1 hd1
    have em1 : ((d1 - tkT (sT A t).1 d1)).toInt = d1.toInt - crI A t := by rw [miss_i h hd1]; omega
    have em : ((d - tkT (sT A t).1 d)).toInt = d.toInt - crI A t := by rw [miss_i h (by omega)]; omega
    have eW : takeA A t d = takeA A t d1 := take_all h (by omega) (by omega)
    rw [col_gt h hd1 (by omega) em1 rfl w1, col_gt h (by omega) (by omega) em (W := WDs (takeA A t d1) t) (by rw [eW]) w1]
    have nW := wds_no (A := takeA A t d1) (t := t)
    generalize WDs (takeA A t d1) t = W at *
    generalize d1 - tkT (sT A t).1 d1 = m1 at *
    generalize d - tkT (sT A t).1 d = m at *
    have a0 : 0 ≤ crI W t := by unfold crI; have := w1.1; have := w1.2.1; omega
    generalize hr : (m1.toInt - min (crI W t) m1.toInt).toNat = r1 at *
    obtain ⟨x1, x2⟩ := take_cr w1 (d := m1) (by omega)
    obtain ⟨k1, k2, k3, k4, k5⟩ := col2_c (takeA W t m1) t r1
    have t3 : ∀ e : Int32, takeA (col2N (takeA W t m1) t r1) t e = col2N (takeA (takeA W t m1) t e) t r1 := fun e => take_col2 _ _ _ _
    have f2 : fT (col2N (takeA W t m1) t r1) t 2 = fT (takeA W t m1) t 2 := k4 2 (by decide) (by decide)
    have f3 : fT (col2N (takeA W t m1) t r1) t 3 = fT (takeA W t m1) t 3 := k4 3 (by decide) (by decide)
    have oX : crO (col2N (takeA W t m1) t r1) t := by unfold crO; rw [f2, f3]; exact x1
    have cX : crI (col2N (takeA W t m1) t r1) t = crI W t - min (crI W t) m1.toInt := by rw [← x2]; unfold crI; rw [f2, f3]
    have nX : ∀ x ∈ sO (col2N (takeA W t m1) t r1), ¬ x.1 = t := by rw [k2]; exact nW
    have t4 := take_2 W t m1 d2 m w1.1 w1.2.1 (by omega) hd2 (by omega)
    have t5 := t3 d2
    rw [t4] at t5
    generalize col2N (takeA W t m1) t r1 = X at *
    by_cases c2 : d2.toInt ≤ crI X t
    · rw [col_le oX hd2 c2, t5]
      congr 1
      omega
    · obtain ⟨y1, y2⟩ := take_cr oX (d := d2) hd2
      have eX : WDs (takeA X t d2) t = takeA X t d2 := wds_id nX
      have em2 : ((d2 - tkT (sT X t).1 d2)).toInt = d2.toInt - crI X t := by rw [miss_i oX hd2]; omega
      rw [col_gt oX hd2 (by omega) em2 eX.symm y1]
      have t6 : takeA (takeA X t d2) t (d2 - tkT (sT X t).1 d2) = takeA X t d2 := by
        have z : takeA (takeA X t d2) t (d2 - tkT (sT X t).1 d2) = takeA (takeA X t d2) t 0 := take_all y1 (by omega) (by rw [tI0]; omega)
        rw [z]
        exact take_2 X t d2 0 d2 oX.1 oX.2.1 hd2 (by rw [tI0]; omega) (by rw [tI0]; omega)
      rw [y2, em2, t6, t5, col2_add]
      congr 1
      omega
end SP
