section SP
variable {E : Ev} {h : PH} {Q : Rt → PH → Prop}
theorem dsI_sub {a b : List (Int32 × Nat)} (h : a.Sublist b) : (∀ x ∈ b, 1 ≤ x.1.toInt) → dsI a ≤ dsI b := by
  induction h with
  | slnil => exact fun _ => Int.le_refl _
  | cons x _ ih => intro hb; have := ih (fun y hy => hb y (List.mem_cons_of_mem _ hy)); have := hb x List.mem_cons_self; rw [dsI]; omega
  | cons_cons x _ ih => intro hb; have := ih (fun y hy => hb y (List.mem_cons_of_mem _ hy)); rw [dsI, dsI]; omega
theorem IW.subD {K lo : Nat} {w : Int} {A : Sta} {t : Nat} {ds : List (Int32 × Nat)} (H : IW K lo w A) (ht : t < sN A) (hs : ds.Sublist (sT A t).2.2) : IW K lo w (setD A t ds) := by
  have T := H.ten t ht
  have := dsI_sub hs (fun x hx => (T.deb x hx).1)
  have := T.dsm
  exact H.one (Nat.le_refl K) (T.gen rfl rfl rfl rfl T.stk T.csh (fun d hd => T.deb d (hs.mem hd)) (List.Pairwise.sublist hs T.srt) (by omega))
theorem IW.cr {K lo : Nat} {w : Int} {A : Sta} {t : Nat} (H : IW K lo w A) (hK : K ≤ 100000) (hw : 0 ≤ w) (ht : t < sN A) : crO A t := by
  have T := H.ten t ht
  have a := T.lev
  have b := T.stk
  have c := osum_nn (H.nn hw t).1
  refine ⟨a.1, b.1, ?_, ?_⟩
  · show ((sT A t).1 2).toInt ≤ _; omega
  · show ((sT A t).1 3).toInt ≤ _; omega
theorem IW.crW {K lo : Nat} {A : Sta} {t : Nat} (H : IW K lo 1 A) (hK : K ≤ 100000) (ht : t < sN A) : ∀ e : Int32, 0 ≤ e.toInt → crO (WDs (takeA A t e) t) t ∧ (crI A t ≤ e.toInt → (fT (WDs (takeA A t e) t) t 2).toInt = 0) := fun e he => by
  have H1 := H.takes (d := e) ht he
  refine ⟨(H1.wds hK (by decide) t).cr hK (by decide) ht, fun hc => ?_⟩
  have c := H.cr hK (by decide) ht
  obtain ⟨a1, a2, a3, a4⟩ := tk_i (f := (sT A t).1) (n := e) c.1 c.2.1 he
  have e1 : fT (WDs (takeA A t e) t) t 2 = tkF (sT A t).1 e 2 := by
    show (sT (WDs (takeA A t e) t) t).1 2 = _
    rw [(wds_c _ t).2.2.1 2 (by decide) (by decide)]
    show (u1 (sT A) t _ t).1 2 = _
    rw [u1_s]
  have c1 : 0 ≤ ((sT A t).1 2).toInt := c.1
  have c2 : 0 ≤ ((sT A t).1 3).toInt := c.2.1
  have c3 : ((sT A t).1 2).toInt + ((sT A t).1 3).toInt ≤ e.toInt := hc
  rw [e1, a2]; omega
theorem clR_e (A : Sta) (t : Nat) : clR A t = setD (colS A t ((sT A t).2.2.getD 0 (0, 0)).1) t (sT A t).2.2.tail := by
  unfold clR
  rw [c1_R, col2_N]
  show setD (colS A t ((sT A t).2.2.getD 0 (0, 0)).1) t (sT (colS A t ((sT A t).2.2.getD 0 (0, 0)).1) t).2.2.tail = _
  rw [(colS_c A t _).2.2]
theorem cdR_nn {t f : Nat} {A : Sta} (h : ¬ (0 < (sT A t).2.2.length ∧ ((sT A t).2.2.getD 0 (0, 0)).2 ≤ sTi A)) : cdR t f A = A := by
  cases f with
  | zero => rfl
  | succ f => rw [cdR, if_neg h]
theorem cdR_e {K : Nat} {t : Nat} {D2 : List (Int32 × Nat)} (hK : K ≤ 100000) : ∀ (D1 : List (Int32 × Nat)) (f lo : Nat) (A : Sta), IW K lo 1 A → t < sN A → (sT A t).2.2 = D1 ++ D2 → (∀ x ∈ D1, x.2 ≤ sTi A) → (∀ x ∈ D2, ¬ x.2 ≤ sTi A) → D1.length ≤ f → cdR t f A = if D1 = [] then A else setD (colS A t (dsum D1)) t D2
  | [], f, lo, A, _, _, hD, _, h2, _ => by
    rw [if_pos rfl]
    refine cdR_nn (fun q => ?_)
    rw [hD, List.nil_append] at q
    cases D2 with
    | nil => exact absurd q.1 (by simp)
    | cons y r => exact h2 y List.mem_cons_self q.2
  | x :: E, f, lo, A, H, ht, hD, h1, h2, hf => by
    obtain ⟨f0, rfl⟩ : ∃ f0, f = f0 + 1 := ⟨f - 1, by rw [List.length_cons] at hf; omega⟩
    have e0 : (sT A t).2.2.getD 0 (0, 0) = x := by rw [hD]; rfl
    have et : (sT A t).2.2.tail = E ++ D2 := by rw [hD]; rfl
    have T := H.ten t ht
    have pos : ∀ y ∈ x :: E, 1 ≤ y.1.toInt := fun y hy => (T.deb y (by rw [hD]; exact List.mem_append_left _ hy)).1
    have sub : (x :: E).Sublist (sT A t).2.2 := by rw [hD]; exact List.sublist_append_left _ _
    have ds99 : dsI (x :: E) ≤ 99 := by
      have a := dsI_sub sub (fun y hy => (T.deb y hy).1)
      have b := T.dsm
      have c := osum_nn (H.nn (by decide) t).2
      omega
    have dE := dsI_nn (l := E) (fun y hy => pos y (List.mem_cons_of_mem _ hy))
    have px := pos x List.mem_cons_self
    have dc : dsI (x :: E) = x.1.toInt + dsI E := rfl
    have iE := dsum_i (l := E) (fun y hy => pos y (List.mem_cons_of_mem _ hy)) (by omega)
    have iA := dsum_i (l := x :: E) pos ds99
    rw [cdR, if_pos ⟨by rw [hD]; simp, by rw [e0]; exact h1 x List.mem_cons_self⟩, clR_e, e0, et, if_neg (by simp)]
    have HS := H.colS9 (d := x.1) hK (by decide) ht (by omega)
    have HD : IW K lo 1 (setD (colS A t x.1) t (E ++ D2)) := HS.subD (by show t < (colS A t x.1).1.1; rw [(colS_c A t _).1]; exact ht) (by rw [(colS_c A t x.1).2.2, hD]; exact List.sublist_cons_self _ _)
    have e1 : (setD (colS A t x.1) t (E ++ D2)).1 = A.1 := (colS_c A t x.1).1
    have ih := cdR_e (t := t) (D2 := D2) hK E f0 lo _ HD (by show t < (setD (colS A t x.1) t (E ++ D2)).1.1; rw [e1]; exact ht) (by rw [setD_t]) (fun y hy => by show y.2 ≤ (setD (colS A t x.1) t (E ++ D2)).1.2.1; rw [e1]; exact h1 y (List.mem_cons_of_mem _ hy)) (fun y hy => by show ¬ y.2 ≤ (setD (colS A t x.1) t (E ++ D2)).1.2.1; rw [e1]; exact h2 y hy) (by rw [List.length_cons] at hf; omega)
    rw [ih]
    by_cases z : E = []
    · rw [if_pos z, z]
      have : dsum [x] = x.1 := by show x.1 + 0 = x.1; grind
      rw [this]; rfl
    · rw [if_neg z, colS_D, setD_2]
      rw [col_add (H.cr hK (by decide) ht) (d1 := x.1) (d2 := dsum E) (d := dsum (x :: E)) (by omega) (by omega) (by omega) (H.crW hK ht)]
theorem srt_split {ti : Nat} : ∀ D : List (Int32 × Nat), D.Pairwise (fun a b => a.2 ≤ b.2) → D = D.filter (fun x => decide (x.2 ≤ ti)) ++ D.filter (fun x => decide (¬ x.2 ≤ ti))
  | [], _ => rfl
  | x :: r, h => by
    have h' := List.pairwise_cons.mp h
    by_cases c : x.2 ≤ ti
    · rw [List.filter_cons_of_pos (p := fun x : Int32 × Nat => decide (x.2 ≤ ti)) (decide_eq_true c), List.filter_cons_of_neg (p := fun x : Int32 × Nat => decide (¬ x.2 ≤ ti)) (by simpa using c), List.cons_append, ← srt_split r h'.2]
    · have n1 : (x :: r).filter (fun x => decide (x.2 ≤ ti)) = [] := List.filter_eq_nil_iff.mpr (fun y hy => by
        rcases List.mem_cons.mp hy with q | q
        · rw [q]; simpa using c
        · have := h'.1 y q; simp; omega)
      rw [n1, List.nil_append, List.filter_eq_self.mpr (fun y hy => by
        rcases List.mem_cons.mp hy with q | q
        · rw [q]; simpa using c
        · have := h'.1 y q; simp; omega)]
theorem ring_e {ti : Nat} : ∀ D : List (Int32 × Nat), (∀ x ∈ D, ti ≤ x.2 ∧ x.2 ≤ ti + 50) → ring D (ti % 51) = dsum (D.filter (fun x => decide (x.2 ≤ ti)))
  | [], _ => rfl
  | x :: r, h => by
    have ih := ring_e r (fun y hy => h y (List.mem_cons_of_mem _ hy))
    have hx := h x List.mem_cons_self
    rw [ring, ih]
    by_cases c : x.2 ≤ ti
    · rw [if_pos (by rw [show x.2 = ti by omega]), List.filter_cons_of_pos (p := fun x : Int32 × Nat => decide (x.2 ≤ ti)) (decide_eq_true c)]; rfl
    · rw [if_neg (by omega), List.filter_cons_of_neg (p := fun x : Int32 × Nat => decide (x.2 ≤ ti)) (by simpa using c)]; grind
theorem cd_eq {K : Nat} {A : Sta} {t : Nat} (H : IW K (sTi A) 1 A) (hK : K ≤ 100000) (ht : t < sN A) : cdR t (sT A t).2.2.length A = cdA A t ∧ IW K (sTi A) 1 (cdA A t) ∧ (cdA A t).1 = A.1 ∧ (∀ k, k ≠ 6 → sG (cdA A t) k = sG A k) ∧ (∀ d ∈ (sT (cdA A t) t).2.2, sTi A < d.2) ∧ (∀ u, u ≠ t → sT (cdA A t) u = sT A u) := by
  have T := H.ten t ht
  have tm := H.tm
  have sp := srt_split (ti := sTi A) (sT A t).2.2 T.srt
  have rg := ring_e (ti := sTi A) (sT A t).2.2 (fun x hx => by have := (T.deb x hx).2; omega)
  have fl : (sT A t).2.2.filter (fun x => decide (¬ x.2 % 51 = sTi A % 51)) = (sT A t).2.2.filter (fun x => decide (¬ x.2 ≤ sTi A)) := List.filter_congr (fun x hx => by
    have := (T.deb x hx).2
    have e : (¬ x.2 % 51 = sTi A % 51) ↔ (¬ x.2 ≤ sTi A) := by omega
    exact decide_eq_decide.mpr e)
  have m1 : ∀ x ∈ (sT A t).2.2.filter (fun x => decide (x.2 ≤ sTi A)), x.2 ≤ sTi A := fun x hx => of_decide_eq_true (List.mem_filter.mp hx).2
  have m2 : ∀ x ∈ (sT A t).2.2.filter (fun x => decide (¬ x.2 ≤ sTi A)), ¬ x.2 ≤ sTi A := fun x hx => of_decide_eq_true (p := ¬ x.2 ≤ sTi A) (List.mem_filter.mp hx).2
  have key := cdR_e (t := t) hK _ (sT A t).2.2.length (sTi A) A H ht sp m1 m2 (List.length_filter_le _ _)
  have pos : ∀ y ∈ (sT A t).2.2.filter (fun x => decide (x.2 ≤ sTi A)), 1 ≤ y.1.toInt := fun y hy => (T.deb y (List.mem_filter.mp hy).1).1
  have s1 := dsI_sub (List.filter_sublist (l := (sT A t).2.2) (p := fun x => decide (x.2 ≤ sTi A))) (fun y hy => (T.deb y hy).1)
  have s2 := T.dsm
  have s3 := osum_nn (H.nn (by decide) t).2
  have si := dsum_i pos (by omega)
  have sn := dsI_nn pos
  rw [key]
  unfold cdA
  rw [rg]
  by_cases z : (sT A t).2.2.filter (fun x => decide (x.2 ≤ sTi A)) = []
  · rw [if_pos z, z, if_neg (by decide)]
    refine ⟨rfl, H, rfl, fun _ _ => rfl, fun d hd => ?_, fun _ _ => rfl⟩
    rw [sp, z, List.nil_append] at hd
    have := m2 d hd
    omega
  · have ln : 0 < ((sT A t).2.2.filter (fun x => decide (x.2 ≤ sTi A))).length := List.length_pos_iff.mpr z
    rw [if_neg z, if_pos (ltI.mpr (by rw [tI0, si]; omega))]
    have er : rmD A t = setD A t ((sT A t).2.2.filter (fun x => decide (¬ x.2 ≤ sTi A))) := by unfold rmD; rw [fl]; rfl
    have Hr : IW K (sTi A) 1 (rmD A t) := by rw [er]; exact H.subD ht List.filter_sublist
    have e2 : colA (rmD A t) t (dsum ((sT A t).2.2.filter (fun x => decide (x.2 ≤ sTi A)))) = setD (colS A t (dsum ((sT A t).2.2.filter (fun x => decide (x.2 ≤ sTi A))))) t ((sT A t).2.2.filter (fun x => decide (¬ x.2 ≤ sTi A))) := by
      rw [colA_S Hr ht (by rw [si]; omega), er, colS_D]
    rw [e2]
    have HS := H.colS9 (d := dsum ((sT A t).2.2.filter (fun x => decide (x.2 ≤ sTi A)))) hK (by decide) ht (by rw [si]; omega)
    obtain ⟨c1, c2, c3⟩ := colS_c A t (dsum ((sT A t).2.2.filter (fun x => decide (x.2 ≤ sTi A))))
    refine ⟨rfl, ?_, c1, c2, fun d hd => ?_, fun u hu => (u1_o hu).trans (colS_o hu A _)⟩
    · exact HS.subD (by show t < (colS A t _).1.1; rw [c1]; exact ht) (by rw [c3]; exact List.filter_sublist)
    · rw [setD_t] at hd
      have := m2 d hd
      omega
end SP
