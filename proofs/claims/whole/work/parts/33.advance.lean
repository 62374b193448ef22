section SP
variable {E : Ev} {h : PH} {Q : Rt → PH → Prop}
theorem ring_flt (r : Nat) : ∀ (ds : List (Int32 × Nat)) (j : Nat), ring (ds.filter (fun x => decide (¬ x.2 % 51 = r))) j = if j = r then 0 else ring ds j
  | [], j => by simp [ring]
  | x :: t, j => by
    by_cases h : x.2 % 51 = r
    · have e : (x :: t).filter (fun x => decide (¬ x.2 % 51 = r)) = t.filter (fun x => decide (¬ x.2 % 51 = r)) := by simp [List.filter_cons, h]
      rw [e, ring_flt r t j]
      by_cases hj : j = r
      · rw [if_pos hj, if_pos hj]
      · rw [if_neg hj, if_neg hj]
        show _ = (if x.2 % 51 = j then x.1 else 0) + ring t j
        rw [if_neg (fun q => hj (by rw [← q, h])), Int32.zero_add]
    · have e : (x :: t).filter (fun x => decide (¬ x.2 % 51 = r)) = x :: t.filter (fun x => decide (¬ x.2 % 51 = r)) := by simp [List.filter_cons, h]
      rw [e]
      show (if x.2 % 51 = j then x.1 else 0) + ring _ j = _
      rw [ring_flt r t j]
      by_cases hj : j = r
      · subst hj
        rw [if_pos rfl, if_pos rfl, if_neg h, Int32.zero_add]
      · rw [if_neg hj, if_neg hj]
        rfl
/-- the debts of a tenant that are due now leave the list -/
def rmD (A : Sta) (t : Nat) : Sta := wT A t ((sT A t).1, (sT A t).2.1, (sT A t).2.2.filter (fun x => decide (¬ x.2 % 51 = sTi A % 51)))
def cdA (A : Sta) (t : Nat) : Sta := if 0 < ring (sT A t).2.2 (sTi A % 51) then colA (rmD A t) t (ring (sT A t).2.2 (sTi A % 51)) else A
def cdAll (A : Sta) : Nat → Sta
  | 0 => A
  | i + 1 => cdA (cdAll A i) i
theorem colA_1 (A : Sta) (t : Nat) (d : Int32) : (colA A t d).1 = A.1 := by
  unfold colA col2
  split
  · exact (payA_1 t _ _).1.trans (col1_1 A t d)
  · exact (payA_1 t _ _).1.trans (col1_1 A t d)
theorem cdA_1 (A : Sta) (t : Nat) : (cdA A t).1 = A.1 := by
  unfold cdA
  split
  · exact colA_1 _ _ _
  · rfl
theorem cdAll_1 (A : Sta) : ∀ i, (cdAll A i).1 = A.1
  | 0 => rfl
  | i + 1 => (cdA_1 _ _).trans (cdAll_1 A i)
theorem RepC.rmD {h : PH} {q : Nat} {l : Lt} {A : Sta} (H : RepC h q l A) {t : Nat} (ht : t < sN A) : RepC (si h (lW l t) (sTi A % 51) (gi h (lW l t) (sTi A % 51) + -(gi h (lW l t) (sTi A % 51)))) q l (rmD A t) := by
  refine H.sOwe ht (fun j hj => ?_)
  rw [ring_flt]
  by_cases e : j = sTi A % 51
  · subst e; rw [upd_at, if_pos rfl]
    exact Int32.add_right_neg _
  · rw [upd_ne _ _ e, if_neg e]
set_option maxHeartbeats 4000000 in
set_option maxRecDepth 100000 in
theorem lp_X4_collectDebts {q : Nat} {A : Sta} {h0 : PH} {l0 : Lt} (hn6 : sN A ≤ 6) (hti : sTi A < 2 ^ 31) (k : ∀ h' l', sameL l0 l' → RepC h' q l' (cdAll A (sN A)) → Fr (fun x => x = q) h0 h' → Q (.inl none) h') : ∀ (m : Nat) (i : Nat) (h : PH) (l : Lt) (x2 : Option Value), sN A - i < m → (i ≤ sN A) → (RepC h q l (cdAll A i)) → (sameL l0 l) → (Fr (fun x => x = q) h0 h) → WPx E mX4_collectDebts 2 [some (.ref q), some (.int (nI i)), x2] [] (0, 0) h Q := by
  intro m
  induction m with
  | zero => intro i h l x2 hm; exact absurd hm (Nat.not_lt_zero _)
  | succ m ih =>
    intro i h l x2 hm hi hR hSl hF
    have hR2 := hR
    have g1 := cdAll_1 A i
    have gn : sN (cdAll A i) = sN A := congrArg (·.1) g1
    have gt : sTi (cdAll A i) = sTi A := congrArg (·.2.1) g1
    obtain ⟨hL, hN, hT, hO⟩ := hR
    obtain ⟨⟨kq, tq⟩, ⟨rT, kT, tT⟩, ⟨rO, kO, tO⟩, hLT, hLO, hinj⟩ := hL
    obtain ⟨⟨n2, n6⟩, ⟨n3, n12⟩, n4, n5, n6', n7, n8, n9, n10, n11⟩ := hN
    rw [gn] at n2
    rw [gt] at n8
    refine wp_iload_n (M := mX4_collectDebts) (pc := 2) dX4_collectDebts_2 rfl ?_
    refine wp_aload_n (M := mX4_collectDebts) (pc := 3) dX4_collectDebts_3 rfl ?_
    refine wp_getI (M := mX4_collectDebts) (pc := 4) fa_X4_38 rfl dX4_collectDebts_4 (by first | exact kq | exact kT | exact a2) ?_
    refine wp_icmp_ge (M := mX4_collectDebts) (pc := 7) (tgt := 55) dX4_collectDebts_7 rfl (fun t7 => ?_) (fun f7 => ?_)
    · rw [n2] at t7
      have hi2 := n_ge hi (by omega) t7
      subst hi2
      refine wp_return (M := mX4_collectDebts) (pc := 55) rfl dX4_collectDebts_55 ?_
      exact k h l hSl hR2 hF
    · rw [n2] at f7
      have hlt := n_lt hi (by omega) f7
      obtain ⟨a1, ⟨a2, a3⟩, ⟨a4, a5, a6⟩, a7, a8, a9⟩ := hLT i (by omega)
      have hin : i < sN (cdAll A i) := by rw [gn]; exact hlt
      have er := (hT i hin).2.2.2.2 (sTi A % 51) (Nat.mod_lt _ (by decide))
      refine wp_aload_n (M := mX4_collectDebts) (pc := 10) dX4_collectDebts_10 rfl ?_
      refine wp_getR (M := mX4_collectDebts) (pc := 11) fa_X4_11 rfl dX4_collectDebts_11 (by first | exact kq | exact kT | exact a2) (by first | exact rT | exact a1) ?_
      refine wp_iload_n (M := mX4_collectDebts) (pc := 14) dX4_collectDebts_14 rfl ?_
      refine wr_aaload (M := mX4_collectDebts) (pc := 15) dX4_collectDebts_15 (by first | exact kq | exact kT | exact a2) (by decide) rfl (by omega) (by decide) (by first | exact rT | exact a1) ?_
      refine wp_aload_n (M := mX4_collectDebts) (pc := 16) dX4_collectDebts_16 rfl ?_
      refine wp_getI (M := mX4_collectDebts) (pc := 17) fa_X4_44 rfl dX4_collectDebts_17 (by first | exact kq | exact kT | exact a2) ?_
      rw [n8]
      refine so_V1 (M := mX4_collectDebts) (pc := 20) cs_X4_collectDebts_127 rfl rfl (LE rfl) (LE rfl) dX4_collectDebts_20 (by first | exact kq | exact kT | exact a2) ?_
      refine sp_X5_owedAt a2 a7 a8 hti ?_
      refine kI ?_
      refine so_istore_n (M := mX4_collectDebts) (pc := 23) (lo' := [_, _, _]) dX4_collectDebts_23 (LE rfl) (LE rfl) (Or.inr rfl) rfl ?_
      refine wp_iload_n (M := mX4_collectDebts) (pc := 24) dX4_collectDebts_24 rfl ?_
      refine wp_if_le (M := mX4_collectDebts) (pc := 25) (tgt := 49) dX4_collectDebts_25 rfl (fun t25 => ?_) (fun f25 => ?_)
      · have hno : ¬ 0 < ring (sT (cdAll A i) i).2.2 (sTi (cdAll A i) % 51) := by rw [gt, ← er]; exact Int32.not_lt.mpr t25
        refine so_iinc (M := mX4_collectDebts) (pc := 49) (lo' := [_, _, _]) dX4_collectDebts_49 rfl ci_1 (LE rfl) rfl ?_
        refine wp_goto (M := mX4_collectDebts) (pc := 52) (tgt := 2) dX4_collectDebts_52 rfl ?_
        first
        | (rw [show nI i + 1 = nI (i + 1) from nI_1 i]
           exact ih (i + 1) _ l _ (by omega) (by omega) (by rw [cdAll, cdA, if_neg hno]; exact hR2) hSl hF)
        | (rw [show nI i + 1 = nI (i + 1) from nI_1 i]
           exact ih (i + 1) _ l2 _ (by omega) (by omega) (by rw [cdAll, cdA, if_pos hye, gt, ← er]; exact R2) (hSl.tr e2) (hF.tr ((Fr.si (hR2.ownW (by omega))).tr F2)))
        | fail "leaf"
      · have hye : 0 < ring (sT (cdAll A i) i).2.2 (sTi (cdAll A i) % 51) := by rw [gt, ← er]; exact Int32.not_le.mp f25
        have H1 := hR2.rmD hin
        rw [gt] at H1
        refine wp_aload_n (M := mX4_collectDebts) (pc := 28) dX4_collectDebts_28 rfl ?_
        refine wp_getR (M := mX4_collectDebts) (pc := 29) fa_X4_11 rfl dX4_collectDebts_29 (by first | exact kq | exact kT | exact a2) (by first | exact rT | exact a1) ?_
        refine wp_iload_n (M := mX4_collectDebts) (pc := 32) dX4_collectDebts_32 rfl ?_
        refine wr_aaload (M := mX4_collectDebts) (pc := 33) dX4_collectDebts_33 (by first | exact kq | exact kT | exact a2) (by decide) rfl (by omega) (by decide) (by first | exact rT | exact a1) ?_
        refine wp_iload_n (M := mX4_collectDebts) (pc := 34) dX4_collectDebts_34 rfl ?_
        refine wp_ineg (M := mX4_collectDebts) (pc := 35) dX4_collectDebts_35 ?_
        refine wp_aload_n (M := mX4_collectDebts) (pc := 36) dX4_collectDebts_36 rfl ?_
        refine wp_getI (M := mX4_collectDebts) (pc := 37) fa_X4_44 rfl dX4_collectDebts_37 (by first | exact kq | exact kT | exact a2) ?_
        rw [n8]
        refine so_V2 (M := mX4_collectDebts) (pc := 40) cs_X4_collectDebts_214 rfl rfl (LE rfl) (LE rfl) dX4_collectDebts_40 (by first | exact kq | exact kT | exact a2) ?_
        refine sp_X5_owe a2 a7 a8 hti ?_
        refine kV ?_
        refine wp_aload_n (M := mX4_collectDebts) (pc := 43) dX4_collectDebts_43 rfl ?_
        refine wp_iload_n (M := mX4_collectDebts) (pc := 44) dX4_collectDebts_44 rfl ?_
        refine wp_iload_n (M := mX4_collectDebts) (pc := 45) dX4_collectDebts_45 rfl ?_
        refine so_V2 (M := mX4_collectDebts) (pc := 46) cs_X4_collectDebts_218 rfl rfl (LE rfl) (LE rfl) dX4_collectDebts_46 (by first | exact kq | exact kT | exact a2) ?_
        refine sp_X4_collect H1 hin (fun h2 l2 e2 R2 F2 => ?_)
        refine kV ?_
        refine so_iinc (M := mX4_collectDebts) (pc := 49) (lo' := [_, _, _]) dX4_collectDebts_49 rfl ci_1 (LE rfl) rfl ?_
        refine wp_goto (M := mX4_collectDebts) (pc := 52) (tgt := 2) dX4_collectDebts_52 rfl ?_
        first
        | (rw [show nI i + 1 = nI (i + 1) from nI_1 i]
           exact ih (i + 1) _ l _ (by omega) (by omega) (by rw [cdAll, cdA, if_neg hno]; exact hR2) hSl hF)
        | (rw [show nI i + 1 = nI (i + 1) from nI_1 i]
           exact ih (i + 1) _ l2 _ (by omega) (by omega) (by rw [cdAll, cdA, if_pos hye, gt, ← er]; exact R2) (hSl.tr e2) (hF.tr ((Fr.si (hR2.ownW (by omega))).tr F2)))
        | fail "leaf"
set_option maxHeartbeats 4000000 in
set_option maxRecDepth 100000 in
theorem sp_X4_collectDebts {q : Nat} {l : Lt} {A : Sta} (hR : RepC h q l A) (hti : sTi A < 2 ^ 31) (k : ∀ h' l', sameL l l' → RepC h' q l' (cdAll A (sN A)) → Fr (fun x => x = q) h h' → Q (.inl none) h') : WPx E mX4_collectDebts 0 [some (.ref q), none, none] [] (0, 0) h Q := by
  refine wp_iconst (M := mX4_collectDebts) (pc := 0) (v := 0) dX4_collectDebts_0 ci_0 ?_
  refine so_istore_n (M := mX4_collectDebts) (pc := 1) (lo' := [_, _, _]) dX4_collectDebts_1 (LE rfl) (LE rfl) (Or.inr rfl) rfl ?_
  exact lp_X4_collectDebts (h0 := h) (l0 := l) hR.2.1.1.2 hti k (sN A + 1) 0 h l none (by omega) (by omega) hR sameL.rf Fr.rf
/-! a tick -/
noncomputable def tk1 (A : Sta) : Sta := srun 49 (wG (fbk (wTi A (sTi A + 1)) (sN A)) 9 0)
def isAu (A : Sta) : Prop := 0 < sG A 2 ∧ nI (sTi A) - nI (sTi A) / sG A 2 * sG A 2 = 0
noncomputable def tk2 (A : Sta) : Sta := @ite _ (isAu A) (Classical.propDecidable _) (auA A) A
noncomputable def tkA (A : Sta) : Sta := cdAll (tk2 (tk1 A)) (sN A)
theorem tk2_y {A : Sta} (h : isAu A) : tk2 A = auA A := by unfold tk2; exact @if_pos _ (Classical.propDecidable _) h _ _ _
theorem tk2_n {A : Sta} (h : ¬ isAu A) : tk2 A = A := by unfold tk2; exact @if_neg _ (Classical.propDecidable _) h _ _ _
theorem fbk_1 (A : Sta) : ∀ i, (fbk A i).1 = A.1
  | 0 => rfl
  | i + 1 => by
    show (fillB (fbk A i) i).1 = A.1
    by_cases h : susp (fbk A i) i
    · rw [fillB_y h]; exact fbk_1 A i
    · rw [fillB_n h]; exact fbk_1 A i
theorem tk1_1 (A : Sta) : (tk1 A).1 = (sN A, sTi A + 1, sTm A) := by
  unfold tk1
  rw [srun_1]
  exact fbk_1 _ _
theorem auA_1 (A : Sta) : (auA A).1 = A.1 := by
  unfold auA
  split
  · rfl
  · exact stl_1 _ _ _ _
theorem tk2_1 (A : Sta) : (tk2 A).1 = A.1 := by
  by_cases h : isAu A
  · rw [tk2_y h, auA_1]
  · rw [tk2_n h]
theorem tkA_1 (A : Sta) : (tkA A).1 = (sN A, sTi A + 1, sTm A) := by
  unfold tkA
  rw [cdAll_1, tk2_1, tk1_1]
/-- ticks, and the bytes of all of them -/
noncomputable def tks : Nat → Sta → Sta × Int32
  | 0, A => (A, 0)
  | k + 1, A => (tkA (tks k A).1, (tks k A).2 + sG (tk1 (tks k A).1) 9)
theorem tks_1 (A : Sta) : ∀ k, (tks k A).1.1 = (sN A, sTi A + k, sTm A)
  | 0 => rfl
  | k + 1 => by
    show (tkA (tks k A).1).1 = _
    have e := tks_1 A k
    rw [tkA_1]
    have e1 : sN (tks k A).1 = sN A := congrArg (·.1) e
    have e2 : sTi (tks k A).1 = sTi A + k := congrArg (·.2.1) e
    have e3 : sTm (tks k A).1 = sTm A := congrArg (·.2.2) e
    rw [e1, e2, e3]
    rfl
/-- what a state must be like for its auctions -/
def okF (A : Sta) : Prop := ∀ j, j < (sO A).length → ¬ (matchB (sO A)).1 j < 0
set_option maxHeartbeats 4000000 in
theorem cn_X4_advance {q : Nat} {u ka pa fa la : Nat} {l : Lt} {A : Sta} {h0 : PH} {n1 b i : Int32} (hR : RepC h q l A) (hq : u ≠ q) (hA : AuT h u ka pa fa la) (hti : sTi A < 2 ^ 30) (hF : Fr (fun x => x = q ∨ x = u) h0 h) (k : ∀ h' l', sameL l l' → RepC h' q l' (cdAll A (sN A)) → AuT h' u ka pa fa la → Fr (fun x => x = q ∨ x = u) h0 h' → WPx E mX4_advance 5 [some (.ref q), some (.int n1), some (.ref u), some (.int b), some (.int (i + 1))] [] (0, 0) h' Q) : WPx E mX4_advance 65 [some (.ref q), some (.int n1), some (.ref u), some (.int b), some (.int i)] [] (0, 0) h Q := by
  refine wp_aload_n (M := mX4_advance) (pc := 65) dX4_advance_65 rfl ?_
  refine so_V0 (M := mX4_advance) (pc := 66) cs_X4_advance_180 rfl rfl (LE rfl) (LE rfl) dX4_advance_66 hR.1.1.1 ?_
  refine sp_X4_collectDebts hR (by omega) (fun h' l' e a c => ?_)
  refine kV ?_
  refine so_iinc (M := mX4_advance) (pc := 69) (lo' := [_, _, _, _, _]) dX4_advance_69 rfl ci_1 (LE rfl) rfl ?_
  refine wp_goto (M := mX4_advance) (pc := 72) (tgt := 5) dX4_advance_72 rfl ?_
  exact k h' l' e a (hA.fr c hq) (hF.tr (c.mono (fun x hx => Or.inl hx)))
set_option maxHeartbeats 4000000 in
set_option maxRecDepth 100000 in
theorem lp_X4_advance {q n : Nat} {A : Sta} {h0 : PH} {l0 : Lt} {u ka pa fa la : Nat} (hq : u ≠ q) (hn0 : 0 < sN A) (hn31 : n < 2 ^ 31) (hti : sTi A + n + 100 < 2 ^ 30) (htm : sTm A ≤ 50) (hok : ∀ j, j < n → okF (tk1 (tks j A).1)) (k : ∀ h' l', sameL l0 l' → RepC h' q l' (tks n A).1 → AuT h' u ka pa fa la → Fr (fun x => x = q ∨ x = u) h0 h' → Q (.inl (some (.int (tks n A).2))) h') : ∀ (m : Nat) (i : Nat) (h : PH) (l : Lt), n - i < m → (i ≤ n) → (RepC h q l (tks i A).1) → (AuT h u ka pa fa la) → (sameL l0 l) → (Fr (fun x => x = q ∨ x = u) h0 h) → WPx E mX4_advance 5 [some (.ref q), some (.int (nI n)), some (.ref u), some (.int (tks i A).2), some (.int (nI i))] [] (0, 0) h Q := by
  intro m
  induction m with
  | zero => intro i h l hm; exact absurd hm (Nat.not_lt_zero _)
  | succ m ih =>
    intro i h l hm hi hR hA hSl hF
    have hR2 := hR
    have g1 := tks_1 A i
    have gn : sN (tks i A).1 = sN A := congrArg (·.1) g1
    have gt : sTi (tks i A).1 = sTi A + i := congrArg (·.2.1) g1
    have gu : sTm (tks i A).1 = sTm A := congrArg (·.2.2) g1
    have kq := hR.1.1.1
    have n8 := hR.2.1.2.2.2.2.2.2.1
    have w1 := tk1_1 (tks i A).1
    have wn : sN (tk1 (tks i A).1) = sN A := (congrArg (·.1) w1).trans gn
    have wt : sTi (tk1 (tks i A).1) = sTi A + i + 1 := (congrArg (·.2.1) w1).trans (by show sTi (tks i A).1 + 1 = _; rw [gt])
    have wu : sTm (tk1 (tks i A).1) = sTm A := (congrArg (·.2.2) w1).trans gu
    rw [gt] at n8
    refine wp_iload (M := mX4_advance) (pc := 5) dX4_advance_5 rfl ?_
    refine wp_iload_n (M := mX4_advance) (pc := 7) dX4_advance_7 rfl ?_
    refine wp_icmp_ge (M := mX4_advance) (pc := 8) (tgt := 75) dX4_advance_8 rfl (fun t8 => ?_) (fun f8 => ?_)
    · have hi2 := n_ge hi hn31 t8
      subst hi2
      refine wp_iload_n (M := mX4_advance) (pc := 75) dX4_advance_75 rfl ?_
      refine wp_ireturn (M := mX4_advance) (pc := 76) rfl dX4_advance_76 ?_
      exact k h l hSl hR2 hA hF
    · have hlt := n_lt hi hn31 f8
      refine wp_aload_n (M := mX4_advance) (pc := 11) dX4_advance_11 rfl ?_
      refine wp_dup (M := mX4_advance) (pc := 12) dX4_advance_12 rfl ?_
      refine wp_getI (M := mX4_advance) (pc := 13) fa_X4_44 rfl dX4_advance_13 kq ?_
      refine wp_iconst (M := mX4_advance) (pc := 16) (v := 1) dX4_advance_16 ci_1 ?_
      refine wp_iadd (M := mX4_advance) (pc := 17) dX4_advance_17 ?_
      refine wp_putI (M := mX4_advance) (pc := 18) fa_X4_44 (Or.inl rfl) dX4_advance_18 kq ?_
      refine wp_aload_n (M := mX4_advance) (pc := 21) dX4_advance_21 rfl ?_
      rw [n8, show nI (sTi A + i) + 1 = nI (sTi A + i + 1) from nI_1 _]
      have H0 := hR2.sTime (sTi A + i + 1)
      have F0 : Fr (fun x => x = q) h (si h q 8 (nI (sTi A + i + 1))) := Fr.si hR2.ownS
      refine so_V0 (M := mX4_advance) (pc := 22) cs_X4_advance_164 rfl rfl (LE rfl) (LE rfl) dX4_advance_22 kq ?_
      refine sp_X4_fillBuckets H0 (fun h1 R1 F1 => ?_)
      refine kV ?_
      refine wp_aload_n (M := mX4_advance) (pc := 25) dX4_advance_25 rfl ?_
      refine so_V0 (M := mX4_advance) (pc := 26) cs_X4_advance_167 rfl rfl (LE rfl) (LE rfl) dX4_advance_26 R1.1.1.1 ?_
      refine sp_X4_sendMessages R1 (by rw [fbk_N]; show 0 < sN (tks i A).1; omega) (by have := congrArg (·.2.1) (fbk_1 (wTi (tks i A).1 (sTi A + i + 1)) (sN (wTi (tks i A).1 (sTi A + i + 1)))); show sTi _ < _; rw [show sTi (fbk (wTi (tks i A).1 (sTi A + i + 1)) (sN (wTi (tks i A).1 (sTi A + i + 1)))) = sTi A + i + 1 from this]; omega) (fun h2 R2' F2 => ?_)
      refine kV ?_
      have R2 : RepC h2 q l (tk1 (tks i A).1) := by unfold tk1; rw [gt]; exact R2'
      have m5 := R2.2.1.2.2.2.1
      have m8 := R2.2.1.2.2.2.2.2.2.1
      have m11 := R2.2.1.2.2.2.2.2.2.2.2.2
      have A2 := ((hA.fr F0 (fun e => hq e)).fr F1 (fun e => hq e)).fr F2 (fun e => hq e)
      have F4 : Fr (fun x => x = q ∨ x = u) h0 h2 := hF.tr ((F0.tr (F1.tr F2)).mono (fun x hx => Or.inl hx))
      refine wp_iload_n (M := mX4_advance) (pc := 29) dX4_advance_29 rfl ?_
      refine wp_aload_n (M := mX4_advance) (pc := 30) dX4_advance_30 rfl ?_
      refine wp_getI (M := mX4_advance) (pc := 31) fa_X4_53 rfl dX4_advance_31 R2.1.1.1 ?_
      refine wp_iadd (M := mX4_advance) (pc := 34) dX4_advance_34 ?_
      refine so_istore_n (M := mX4_advance) (pc := 35) (lo' := [_, _, _, _, _]) dX4_advance_35 (LE rfl) (LE rfl) (Or.inr rfl) rfl ?_
      refine wp_aload_n (M := mX4_advance) (pc := 36) dX4_advance_36 rfl ?_
      refine wp_getI (M := mX4_advance) (pc := 37) fa_X4_29 rfl dX4_advance_37 R2.1.1.1 ?_
      refine wp_if_le (M := mX4_advance) (pc := 40) (tgt := 65) dX4_advance_40 rfl (fun t40 => ?_) (fun f40 => ?_)
      · rw [m5] at t40
        have hno : ¬ isAu (tk1 (tks i A).1) := fun c => absurd c.1 (Int32.not_lt.mpr t40)
        first
        | (rw [m11]
           exact cn_X4_advance R2 hq A2 (by omega) F4 (fun h' l' e a a3 c => by
             rw [show nI i + 1 = nI (i + 1) from nI_1 i]
             exact ih (i + 1) h' l' (by omega) (by omega) (by show RepC h' q l' (tkA (tks i A).1); rw [tkA, tk2_n hno, gn]; rw [wn] at a; exact a) a3 (hSl.tr e) c))
        | (rw [m11]
           have u1 := auA_1 (tk1 (tks i A).1)
           have un : sN (auA (tk1 (tks i A).1)) = sN A := (congrArg (·.1) u1).trans wn
           have ut : sTi (auA (tk1 (tks i A).1)) = sTi A + i + 1 := (congrArg (·.2.1) u1).trans wt
           exact cn_X4_advance R4 hq (A3.fr F5 (fun e => hq e)) (by omega) (F4.tr ((F3.fr.mono (fun x hx => Or.inr hx)).tr (F5.mono (fun x hx => Or.inl hx)))) (fun h' l' e a a3 c => by
             rw [show nI i + 1 = nI (i + 1) from nI_1 i]
             exact ih (i + 1) h' l' (by omega) (by omega) (by show RepC h' q l' (tkA (tks i A).1); rw [tkA, tk2_y hau, gn]; rw [un] at a; exact a) a3 (hSl.tr (e4.tr e)) c))
        | fail "leaf"
      · rw [m5] at f40
        have hpi := Int32.not_le.mp f40
        refine wp_aload_n (M := mX4_advance) (pc := 43) dX4_advance_43 rfl ?_
        refine wp_getI (M := mX4_advance) (pc := 44) fa_X4_44 rfl dX4_advance_44 R2.1.1.1 ?_
        refine wp_aload_n (M := mX4_advance) (pc := 47) dX4_advance_47 rfl ?_
        refine wp_getI (M := mX4_advance) (pc := 48) fa_X4_29 rfl dX4_advance_48 R2.1.1.1 ?_
        refine wp_irem (M := mX4_advance) (pc := 51) dX4_advance_51 (fun e => by rw [m5] at e; rw [e] at hpi; exact absurd hpi (by decide)) ?_
        refine wp_if_ne (M := mX4_advance) (pc := 52) (tgt := 65) dX4_advance_52 rfl (fun t52 => ?_) (fun f52 => ?_)
        · rw [m8, m5] at t52
          have hno : ¬ isAu (tk1 (tks i A).1) := fun c => t52 c.2
          first
          | (rw [m11]
             exact cn_X4_advance R2 hq A2 (by omega) F4 (fun h' l' e a a3 c => by
               rw [show nI i + 1 = nI (i + 1) from nI_1 i]
               exact ih (i + 1) h' l' (by omega) (by omega) (by show RepC h' q l' (tkA (tks i A).1); rw [tkA, tk2_n hno, gn]; rw [wn] at a; exact a) a3 (hSl.tr e) c))
          | (rw [m11]
             have u1 := auA_1 (tk1 (tks i A).1)
             have un : sN (auA (tk1 (tks i A).1)) = sN A := (congrArg (·.1) u1).trans wn
             have ut : sTi (auA (tk1 (tks i A).1)) = sTi A + i + 1 := (congrArg (·.2.1) u1).trans wt
             exact cn_X4_advance R4 hq (A3.fr F5 (fun e => hq e)) (by omega) (F4.tr ((F3.fr.mono (fun x hx => Or.inr hx)).tr (F5.mono (fun x hx => Or.inl hx)))) (fun h' l' e a a3 c => by
               rw [show nI i + 1 = nI (i + 1) from nI_1 i]
               exact ih (i + 1) h' l' (by omega) (by omega) (by show RepC h' q l' (tkA (tks i A).1); rw [tkA, tk2_y hau, gn]; rw [un] at a; exact a) a3 (hSl.tr (e4.tr e)) c))
          | fail "leaf"
        · rw [m8, m5] at f52
          have hau : isAu (tk1 (tks i A).1) := ⟨hpi, f52⟩
          refine wp_aload_n (M := mX4_advance) (pc := 55) dX4_advance_55 rfl ?_
          refine wp_aload_n (M := mX4_advance) (pc := 56) dX4_advance_56 rfl ?_
          refine so_V1 (M := mX4_advance) (pc := 57) cs_X4_advance_170 rfl rfl (LE rfl) (LE rfl) dX4_advance_57 A2.1.1 ?_
          refine sp_X0_hold R2 A2 hq (fun h3 M3 F3 => ?_)
          have R3 := R2.fr F3.fr (fun e => hq e.symm)
          have A3 := A2.mv F3
          refine kV ?_
          refine wp_aload_n (M := mX4_advance) (pc := 60) dX4_advance_60 rfl ?_
          refine wp_aload_n (M := mX4_advance) (pc := 61) dX4_advance_61 rfl ?_
          refine so_V1 (M := mX4_advance) (pc := 62) cs_X4_advance_176 rfl rfl (LE rfl) (LE rfl) dX4_advance_62 R3.1.1.1 ?_
          refine sp_X4_settle R3 A3 hq M3 (hok i hlt) (by rw [wt, wu]; omega) (fun h4 l4 e4 R4 F5 => ?_)
          refine kV ?_
          first
          | (rw [m11]
             exact cn_X4_advance R2 hq A2 (by omega) F4 (fun h' l' e a a3 c => by
               rw [show nI i + 1 = nI (i + 1) from nI_1 i]
               exact ih (i + 1) h' l' (by omega) (by omega) (by show RepC h' q l' (tkA (tks i A).1); rw [tkA, tk2_n hno, gn]; rw [wn] at a; exact a) a3 (hSl.tr e) c))
          | (rw [m11]
             have u1 := auA_1 (tk1 (tks i A).1)
             have un : sN (auA (tk1 (tks i A).1)) = sN A := (congrArg (·.1) u1).trans wn
             have ut : sTi (auA (tk1 (tks i A).1)) = sTi A + i + 1 := (congrArg (·.2.1) u1).trans wt
             exact cn_X4_advance R4 hq (A3.fr F5 (fun e => hq e)) (by omega) (F4.tr ((F3.fr.mono (fun x hx => Or.inr hx)).tr (F5.mono (fun x hx => Or.inl hx)))) (fun h' l' e a a3 c => by
               rw [show nI i + 1 = nI (i + 1) from nI_1 i]
               exact ih (i + 1) h' l' (by omega) (by omega) (by show RepC h' q l' (tkA (tks i A).1); rw [tkA, tk2_y hau, gn]; rw [un] at a; exact a) a3 (hSl.tr (e4.tr e)) c))
          | fail "leaf"
set_option maxHeartbeats 4000000 in
set_option maxRecDepth 100000 in
theorem sp_X4_advance {q : Nat} {l : Lt} {A : Sta} {n : Nat} {u ka pa fa la : Nat} (hR : RepC h q l A) (hA : AuT h u ka pa fa la) (hq : u ≠ q) (hn0 : 0 < sN A) (hn31 : n < 2 ^ 31) (hti : sTi A + n + 100 < 2 ^ 30) (htm : sTm A ≤ 50) (hok : ∀ j, j < n → okF (tk1 (tks j A).1)) (k : ∀ h' l', sameL l l' → RepC h' q l' (tks n A).1 → AuT h' u ka pa fa la → Fr (fun x => x = q ∨ x = u) h h' → Q (.inl (some (.int (tks n A).2))) h') : WPx E mX4_advance 0 [some (.ref q), some (.int (nI n)), some (.ref u), none, none] [] (0, 0) h Q := by
  refine wp_iconst (M := mX4_advance) (pc := 0) (v := 0) dX4_advance_0 ci_0 ?_
  refine so_istore_n (M := mX4_advance) (pc := 1) (lo' := [_, _, _, _, _]) dX4_advance_1 (LE rfl) (LE rfl) (Or.inr rfl) rfl ?_
  refine wp_iconst (M := mX4_advance) (pc := 2) (v := 0) dX4_advance_2 ci_0 ?_
  refine so_istore (M := mX4_advance) (pc := 3) (lo' := [_, _, _, _, _]) dX4_advance_3 (LE rfl) (LE rfl) (Or.inr rfl) rfl ?_
  exact lp_X4_advance (h0 := h) (l0 := l) hq hn0 hn31 hti htm hok k (n + 1) 0 h l (by omega) (by omega) hR hA sameL.rf Fr.rf
end SP
