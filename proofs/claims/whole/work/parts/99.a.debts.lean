section SP
variable {E : Ev} {h : PH} {Q : Rt → PH → Prop}
/-! debts -/
def setD (A : Sta) (t : Nat) (ds : List (Int32 × Nat)) : Sta := wT A t ((sT A t).1, (sT A t).2.1, ds)
theorem setD_t (A : Sta) (t : Nat) (ds : List (Int32 × Nat)) : sT (setD A t ds) t = ((sT A t).1, (sT A t).2.1, ds) := u1_s
theorem setD_2 (A : Sta) (t : Nat) (a b : List (Int32 × Nat)) : setD (setD A t a) t b = setD A t b := by
  unfold setD
  rw [wT_2, sT_wT]
theorem setD_id (A : Sta) (t : Nat) : setD A t (sT A t).2.2 = A := wT_id A t
theorem take_sD (A : Sta) (t : Nat) (d : Int32) (ds : List (Int32 × Nat)) : takeA (setD A t ds) t d = setD (takeA A t d) t ds := by
  unfold takeA setD
  rw [wT_2, wT_2, sT_wT, sT_wT]
theorem wF_D (A : Sta) (t k : Nat) (v : Int32) (ds : List (Int32 × Nat)) : wF (setD A t ds) t k v = setD (wF A t k v) t ds := by
  unfold wF setD
  rw [wT_2, wT_2, sT_wT, sT_wT]
theorem wds_D (A : Sta) (t : Nat) (ds : List (Int32 × Nat)) : WDs (setD A t ds) t = setD (WDs A t) t ds := by
  have e : sT (WDs A t) t = ((sO A).foldl (gvx t) (sT A t).1, (sT A t).2) := u1_s
  have e2 : setD (WDs A t) t ds = wO (wT (wT A t ((sO A).foldl (gvx t) (sT A t).1, (sT A t).2)) t ((sO A).foldl (gvx t) (sT A t).1, (sT A t).2.1, ds)) ((sO A).filter (notT t)) := by
    show wT (WDs A t) t ((sT (WDs A t) t).1, (sT (WDs A t) t).2.1, ds) = _
    rw [e]; rfl
  rw [e2, wT_2]
  show wO (wT (setD A t ds) t ((sO A).foldl (gvx t) (sT (setD A t ds) t).1, (sT (setD A t ds) t).2)) ((sO A).filter (notT t)) = _
  rw [setD_t]
  unfold setD
  rw [wT_2]
theorem fT_D (A : Sta) (t k : Nat) (ds : List (Int32 × Nat)) : fT (setD A t ds) t k = fT A t k := by show (sT (setD A t ds) t).1 k = _; rw [setD_t]
theorem pay_D (t : Nat) (ds : List (Int32 × Nat)) : ∀ (r : Nat) (A : Sta), payA t r (setD A t ds) = (setD (payA t r A).1 t ds, (payA t r A).2)
  | 0, A => rfl
  | r + 1, A => by
    have e : (sG (setD A t ds) 4 ≤ fT (setD A t ds) t 4) ↔ (sG A 4 ≤ fT A t 4) := by rw [fT_D]; exact Iff.rfl
    have ep : payS (setD A t ds) t = setD (payS A t) t ds := by
      unfold payS
      rw [fT_D, wF_D]; rfl
    by_cases h : sG A 4 ≤ fT A t 4
    · rw [pay_y h, pay_y (e.mpr h), ep, pay_D t ds r]
    · rw [pay_n h, pay_n (fun q => h (e.mp q))]
theorem col2_sD (A : Sta) (t r : Nat) (ds : List (Int32 × Nat)) : col2N (setD A t ds) t r = setD (col2N A t r) t ds := by
  unfold col2N
  rw [pay_D]
  by_cases h : (payA t r A).2 = 0
  · rw [if_pos h, if_pos h]
  · rw [if_neg h, if_neg h]
    show wF (setD (payA t r A).1 t ds) t 6 _ = _
    rw [wF_D]; rfl
theorem colS_D (A : Sta) (t : Nat) (d : Int32) (ds : List (Int32 × Nat)) : colS (setD A t ds) t d = setD (colS A t d) t ds := by
  have e : (sT (setD A t ds) t).1 = (sT A t).1 := by rw [setD_t]
  have ew : (sT (WDs (takeA (setD A t ds) t d) t) t).1 = (sT (WDs (takeA A t d) t) t).1 := by rw [take_sD, wds_D, setD_t]
  unfold colS c1S
  rw [ew, e]
  by_cases h : 0 < d - tkT (sT A t).1 d
  · rw [if_pos h, if_pos h]
    show col2N (takeA (WDs (takeA (setD A t ds) t d) t) t (d - tkT (sT A t).1 d)) t (mis (d - tkT (sT A t).1 d - tkT (sT (WDs (takeA A t d) t) t).1 (d - tkT (sT A t).1 d))) = setD (col2N (takeA (WDs (takeA A t d) t) t (d - tkT (sT A t).1 d)) t (mis (d - tkT (sT A t).1 d - tkT (sT (WDs (takeA A t d) t) t).1 (d - tkT (sT A t).1 d)))) t ds
    rw [take_sD, wds_D, take_sD, col2_sD]
  · rw [if_neg h, if_neg h]
    show col2N (takeA (setD A t ds) t d) t (mis (d - tkT (sT A t).1 d)) = setD (col2N (takeA A t d) t (mis (d - tkT (sT A t).1 d))) t ds
    rw [take_sD, col2_sD]
/-! collecting keeps a state good -/
theorem IW.payS9 {K lo : Nat} {w : Int} {A : Sta} {t : Nat} (H : IW K lo w A) (ht : t < sN A) (h : sG A 4 ≤ fT A t 4) : IW K lo w (payS A t) := by
  have T := H.ten t ht
  have p := H.pen
  have c := T.csh
  have h' : (sG A 4).toInt ≤ ((sT A t).1 4).toInt := leI.mp h
  have b := Int32.toInt_lt ((sT A t).1 4)
  have e : (fT A t 4 - sG A 4).toInt = ((sT A t).1 4).toInt - (sG A 4).toInt := sI (by show _ ≤ ((sT A t).1 4).toInt - _; omega) (by show ((sT A t).1 4).toInt - _ < _; omega)
  exact IW.g9 (k := 6) (A := wF A t 4 (fT A t 4 - sG A 4)) (H.one (Nat.le_refl K) (T.cash (Nat.le_refl K) (by rw [e]; omega) (by rw [e]; omega) T.stk.2 T.dsm)) _ (Or.inr rfl)
theorem IW.pay9 {K lo : Nat} {w : Int} {t : Nat} : ∀ (r : Nat) (A : Sta), IW K lo w A → t < sN A → IW K lo w (payA t r A).1
  | 0, _, H, _ => H
  | r + 1, A, H, ht => by
    by_cases h : sG A 4 ≤ fT A t 4
    · rw [pay_y h]; exact IW.pay9 r _ (H.payS9 ht h) ht
    · rw [pay_n h]; exact H
theorem IW.col29 {K lo : Nat} {w : Int} {t : Nat} {A : Sta} (H : IW K lo w A) (ht : t < sN A) (r : Nat) : IW K lo w (col2N A t r) := by
  have P := IW.pay9 r A H ht
  unfold col2N
  by_cases h : (payA t r A).2 = 0
  · rw [if_pos h]; exact P
  · rw [if_neg h]
    have T := P.ten t (by show t < (payA t r A).1.1.1; rw [(pay_c t r A).1]; exact ht)
    refine P.one (Nat.le_refl K) (T.cg (up_o (by decide)) (up_o (by decide)) (by rw [up_o (by decide)]; exact T.lev) (by rw [up_o (by decide)]; exact T.stk) (by rw [up_o (by decide)]; exact T.csh) (by rw [up_o (by decide)]; exact T.snt))
theorem wds_c (A : Sta) (t : Nat) : (WDs A t).1 = A.1 ∧ sG (WDs A t) = sG A ∧ (∀ k, k ≠ 3 → k ≠ 4 → (sT (WDs A t) t).1 k = (sT A t).1 k) ∧ (sT (WDs A t) t).2 = (sT A t).2 := by
  have e : sT (WDs A t) t = ((sO A).foldl (gvx t) (sT A t).1, (sT A t).2) := u1_s
  exact ⟨rfl, rfl, fun k a b => by rw [e]; exact fold_k a b _ _, by rw [e]⟩
theorem IW.colS9 {K lo : Nat} {w : Int} {t : Nat} {A : Sta} {d : Int32} (H : IW K lo w A) (hK : K ≤ 100000) (hw : 0 ≤ w) (ht : t < sN A) (hd : 0 ≤ d.toInt) : IW K lo w (colS A t d) := by
  have H1 := H.takes (d := d) ht hd
  unfold colS c1S
  by_cases h : 0 < d - tkT (sT A t).1 d
  · rw [if_pos h]
    have H2 := H1.wds hK hw t
    exact IW.col29 (H2.takes ht (by rw [ltI, tI0] at h; omega)) ht _
  · rw [if_neg h]
    exact IW.col29 H1 ht _
theorem colS_c (A : Sta) (t : Nat) (d : Int32) : (colS A t d).1 = A.1 ∧ (∀ k, k ≠ 6 → sG (colS A t d) k = sG A k) ∧ (sT (colS A t d) t).2 = (sT A t).2 := by
  have tk : ∀ (B : Sta) (e : Int32), (sT (takeA B t e) t).2 = (sT B t).2 := fun B e => by show (u1 (sT B) t _ t).2 = _; rw [u1_s]
  unfold colS c1S
  by_cases h : 0 < d - tkT (sT A t).1 d
  · rw [if_pos h]
    obtain ⟨a1, a2, a3, a4, a5⟩ := col2_c (takeA (WDs (takeA A t d) t) t (d - tkT (sT A t).1 d)) t (mis (d - tkT (sT A t).1 d - tkT (sT (WDs (takeA A t d) t) t).1 (d - tkT (sT A t).1 d)))
    exact ⟨a1, a3, by rw [show (sT A t).2 = (sT (takeA (WDs (takeA A t d) t) t (d - tkT (sT A t).1 d)) t).2 by rw [tk, (wds_c _ t).2.2.2, tk]]; exact a5⟩
  · rw [if_neg h]
    obtain ⟨a1, a2, a3, a4, a5⟩ := col2_c (takeA A t d) t (mis (d - tkT (sT A t).1 d))
    exact ⟨a1, a3, by rw [← tk A d]; exact a5⟩
/-- only t changes -/
theorem payA_o {t u : Nat} (hu : u ≠ t) : ∀ (r : Nat) (B : Sta), sT (payA t r B).1 u = sT B u
  | 0, _ => rfl
  | r + 1, B => by
    by_cases h : sG B 4 ≤ fT B t 4
    · rw [pay_y h, payA_o hu r]; exact u1_o hu
    · rw [pay_n h]
theorem col2_o {t u : Nat} (hu : u ≠ t) (B : Sta) (r : Nat) : sT (col2N B t r) u = sT B u := by
  unfold col2N; split
  · exact payA_o hu r B
  · exact (u1_o hu).trans (payA_o hu r B)
theorem colS_o {t u : Nat} (hu : u ≠ t) (A : Sta) (d : Int32) : sT (colS A t d) u = sT A u := by
  unfold colS c1S; split
  · rw [col2_o hu]
    exact (u1_o hu).trans ((u1_o hu).trans (u1_o hu))
  · rw [col2_o hu]; exact u1_o hu
end SP
