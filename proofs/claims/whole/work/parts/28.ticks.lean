section SP
variable {E : Ev} {h : PH} {Q : Rt → PH → Prop}
theorem wT_N (A : Sta) (t : Nat) (x : Ten) : sN (wT A t x) = sN A := rfl
theorem giveA_len (A : Sta) (i : Nat) : (sO (giveA A i)).length = (sO A).length := by
  show ((sO (giveT A i)).set i _).length = _
  rw [List.length_set, giveT_O]
theorem giveA_N (A : Sta) (i : Nat) : sN (giveA A i) = sN A := giveT_N A i
/-- all orders of a tenant among the first i are given back -/
def gvAll (A : Sta) (t : Nat) : Nat → Sta
  | 0 => A
  | i + 1 => if (oA (gvAll A t i) i).1 = t then giveA (gvAll A t i) i else gvAll A t i
theorem gvAll_len (A : Sta) (t : Nat) : ∀ i, (sO (gvAll A t i)).length = (sO A).length
  | 0 => rfl
  | i + 1 => by
    unfold gvAll
    split
    · rw [giveA_len, gvAll_len A t i]
    · exact gvAll_len A t i
theorem gvAll_N (A : Sta) (t : Nat) : ∀ i, sN (gvAll A t i) = sN A
  | 0 => rfl
  | i + 1 => by
    unfold gvAll
    split
    · rw [giveA_N, gvAll_N A t i]
    · exact gvAll_N A t i
theorem gv_ye {A : Sta} {t i : Nat} (h : (oA (gvAll A t i) i).1 = t) : gvAll A t (i + 1) = giveA (gvAll A t i) i := if_pos h
theorem gv_no {A : Sta} {t i : Nat} (h : ¬ (oA (gvAll A t i) i).1 = t) : gvAll A t (i + 1) = gvAll A t i := if_neg h
/-- the buckets of the first i tenants are filled -/
noncomputable def fillB (A : Sta) (t : Nat) : Sta := @ite _ (susp A t) (Classical.propDecidable _) A (wF A t 2 (imin (fT A t 0) (fT A t 2 + fT A t 1)))
noncomputable def fbk (A : Sta) : Nat → Sta
  | 0 => A
  | i + 1 => fillB (fbk A i) i
theorem fillB_y {A : Sta} {t : Nat} (h : susp A t) : fillB A t = A := by unfold fillB; exact @if_pos _ (Classical.propDecidable _) h _ _ _
theorem fillB_n {A : Sta} {t : Nat} (h : ¬ susp A t) : fillB A t = wF A t 2 (imin (fT A t 0) (fT A t 2 + fT A t 1)) := by unfold fillB; exact @if_neg _ (Classical.propDecidable _) h _ _ _
theorem fillB_N (A : Sta) (t : Nat) : sN (fillB A t) = sN A := by
  by_cases h : susp A t
  · rw [fillB_y h]
  · rw [fillB_n h]; rfl
theorem fbk_N (A : Sta) : ∀ i, sN (fbk A i) = sN A
  | 0 => rfl
  | i + 1 => (fillB_N _ _).trans (fbk_N A i)
theorem ite_z {P : Prop} [Decidable P] (h : (if P then (1 : Int32) else 0) = 0) : ¬ P := fun p => by rw [if_pos p] at h; exact absurd h (by decide)
theorem ite_n {P : Prop} [Decidable P] (h : ¬ (if P then (1 : Int32) else 0) = 0) : P := by
  by_cases p : P
  · exact p
  · rw [if_neg p] at h; exact absurd rfl h
set_option maxHeartbeats 4000000 in
set_option maxRecDepth 100000 in
theorem sp_X4_withdrawOrder {q : Nat} {l : Lt} {A : Sta} {i : Nat} (hR : RepC h q l A) (hi : i < (sO A).length) (k : ∀ h' l', sameL l l' → RepC h' q l' (remE (giveA A i)) → Fr (fun x => x = q) h h' → Q (.inl (some (.int (oA A i).2.2.2))) h') : WPx E mX4_withdrawOrder 0 [some (.ref q), some (.int (nI i)), none] [] (0, 0) h Q := by
  have hR2 := hR
  obtain ⟨hL, hN, hT, hO⟩ := hR
  obtain ⟨⟨kq, tq⟩, ⟨rT, kT, tT⟩, ⟨rO, kO, tO⟩, hLT, hLO, hinj⟩ := hL
  obtain ⟨⟨n2, n6⟩, ⟨n3, n12⟩, n4, n5, n6', n7, n8, n9, n10, n11⟩ := hN
  obtain ⟨b1, b2, j9, b3⟩ := hLO i (by omega)
  obtain ⟨⟨o0, o1, o2, o3⟩, o4, o5⟩ := hO i hi
  obtain ⟨a1, ⟨a2, a3⟩, ⟨a4, a5, a6⟩, a7, a8, a9⟩ := hLT _ (Nat.lt_of_lt_of_le o4 n6)
  have e4 := hR2.tF o4 (k := 4) (by decide)
  have e3 := hR2.tF o4 (k := 3) (by decide)
  have ne1 : lO l i ≠ lT l (oA A i).1 := ne_tg b3 a3 (by simp)
  refine wp_aload_n (M := mX4_withdrawOrder) (pc := 0) dX4_withdrawOrder_0 rfl ?_
  refine wp_getR (M := mX4_withdrawOrder) (pc := 1) fa_X4_19 rfl dX4_withdrawOrder_1 (by first | exact kq | exact b2 | exact kO) (by first | exact rO | exact b1) ?_
  refine wp_iload_n (M := mX4_withdrawOrder) (pc := 4) dX4_withdrawOrder_4 rfl ?_
  refine wr_aaload (M := mX4_withdrawOrder) (pc := 5) dX4_withdrawOrder_5 (by first | exact kq | exact b2 | exact kO) (by decide) rfl (by omega) (by decide) (by first | exact rO | exact b1) ?_
  refine wp_getI (M := mX4_withdrawOrder) (pc := 6) fa_X4_73 rfl dX4_withdrawOrder_6 (by first | exact kq | exact b2 | exact kO) ?_
  refine so_istore_n (M := mX4_withdrawOrder) (pc := 9) (lo' := [_, _, _]) dX4_withdrawOrder_9 (LE rfl) (LE rfl) (Or.inr rfl) rfl ?_
  refine wp_aload_n (M := mX4_withdrawOrder) (pc := 10) dX4_withdrawOrder_10 rfl ?_
  refine wp_aload_n (M := mX4_withdrawOrder) (pc := 11) dX4_withdrawOrder_11 rfl ?_
  refine wp_getR (M := mX4_withdrawOrder) (pc := 12) fa_X4_19 rfl dX4_withdrawOrder_12 (by first | exact kq | exact b2 | exact kO) (by first | exact rO | exact b1) ?_
  refine wp_iload_n (M := mX4_withdrawOrder) (pc := 15) dX4_withdrawOrder_15 rfl ?_
  refine wr_aaload (M := mX4_withdrawOrder) (pc := 16) dX4_withdrawOrder_16 (by first | exact kq | exact b2 | exact kO) (by decide) rfl (by omega) (by decide) (by first | exact rO | exact b1) ?_
  refine so_V1 (M := mX4_withdrawOrder) (pc := 17) cs_X4_withdrawOrder_157 rfl rfl (LE rfl) (LE rfl) dX4_withdrawOrder_17 (by first | exact kq | exact b2 | exact kO) ?_
  refine sp_X4_giveBack hR2 hi (fun h1 a c => ?_)
  refine kV ?_
  refine wp_aload_n (M := mX4_withdrawOrder) (pc := 20) dX4_withdrawOrder_20 rfl ?_
  refine so_V0 (M := mX4_withdrawOrder) (pc := 21) cs_X4_withdrawOrder_161 rfl rfl (LE rfl) (LE rfl) dX4_withdrawOrder_21 a.1.1.1 ?_
  refine sp_X4_removeEmptyOrders a (fun h2 l2 b2' a' c' => ?_)
  refine kV ?_
  refine wp_iload_n (M := mX4_withdrawOrder) (pc := 24) dX4_withdrawOrder_24 rfl ?_
  refine wp_ireturn (M := mX4_withdrawOrder) (pc := 25) rfl dX4_withdrawOrder_25 ?_
  rw [o3]
  exact k h2 l2 b2' a' (c.tr c')
set_option maxHeartbeats 4000000 in
set_option maxRecDepth 100000 in
theorem lp_X4_withdrawAllOf {q t : Nat} {l : Lt} {A : Sta} {h0 : PH} (ht : t < 2 ^ 31) (hn6 : sN A ≤ 6) (k : ∀ h' l', sameL l l' → RepC h' q l' (remE (gvAll A t (sO A).length)) → Fr (fun x => x = q) h0 h' → Q (.inl none) h') : ∀ (m : Nat) (i : Nat) (h : PH), (sO A).length - i < m → (i ≤ (sO A).length) → (RepC h q l (gvAll A t i)) → (Fr (fun x => x = q) h0 h) → WPx E mX4_withdrawAllOf 2 [some (.ref q), some (.int (nI t)), some (.int (nI i))] [] (0, 0) h Q := by
  intro m
  induction m with
  | zero => intro i h hm; exact absurd hm (Nat.not_lt_zero _)
  | succ m ih =>
    intro i h hm hi hR hF
    have hR2 := hR
    have gl := gvAll_len A t i
    have gn := gvAll_N A t i
    obtain ⟨hL, hN, hT, hO⟩ := hR
    obtain ⟨⟨kq, tq⟩, ⟨rT, kT, tT⟩, ⟨rO, kO, tO⟩, hLT, hLO, hinj⟩ := hL
    obtain ⟨⟨n2, n6⟩, ⟨n3, n12⟩, n4, n5, n6', n7, n8, n9, n10, n11⟩ := hN
    rw [gl] at n3 n12
    refine wp_iload_n (M := mX4_withdrawAllOf) (pc := 2) dX4_withdrawAllOf_2 rfl ?_
    refine wp_aload_n (M := mX4_withdrawAllOf) (pc := 3) dX4_withdrawAllOf_3 rfl ?_
    refine wp_getI (M := mX4_withdrawAllOf) (pc := 4) fa_X4_41 rfl dX4_withdrawAllOf_4 (by first | exact kq | exact kO | exact (hLO i (by omega)).2.1) ?_
    refine wp_icmp_ge (M := mX4_withdrawAllOf) (pc := 7) (tgt := 39) dX4_withdrawAllOf_7 rfl (fun t7 => ?_) (fun f7 => ?_)
    · rw [n3] at t7
      have hi2 := n_ge hi (by omega) t7
      subst hi2
      refine wp_aload_n (M := mX4_withdrawAllOf) (pc := 39) dX4_withdrawAllOf_39 rfl ?_
      refine so_V0 (M := mX4_withdrawAllOf) (pc := 40) cs_X4_withdrawAllOf_161 rfl rfl (LE rfl) (LE rfl) dX4_withdrawAllOf_40 (by first | exact kq | exact kO | exact (hLO i (by omega)).2.1) ?_
      refine sp_X4_removeEmptyOrders hR2 (fun h2 l2 b2' a' c' => ?_)
      refine kV ?_
      refine wp_return (M := mX4_withdrawAllOf) (pc := 43) rfl dX4_withdrawAllOf_43 ?_
      exact k h2 l2 b2' a' (hF.tr c')
    · rw [n3] at f7
      have hlt := n_lt hi (by omega) f7
      obtain ⟨⟨o0, o1, o2, o3⟩, o4, o5⟩ := hO i (by rw [gl]; exact hlt)
      refine wp_aload_n (M := mX4_withdrawAllOf) (pc := 10) dX4_withdrawAllOf_10 rfl ?_
      refine wp_getR (M := mX4_withdrawAllOf) (pc := 11) fa_X4_19 rfl dX4_withdrawAllOf_11 (by first | exact kq | exact kO | exact (hLO i (by omega)).2.1) (by first | exact rO | exact (hLO i (by omega)).1) ?_
      refine wp_iload_n (M := mX4_withdrawAllOf) (pc := 14) dX4_withdrawAllOf_14 rfl ?_
      refine wr_aaload (M := mX4_withdrawAllOf) (pc := 15) dX4_withdrawAllOf_15 (by first | exact kq | exact kO | exact (hLO i (by omega)).2.1) (by decide) rfl (by omega) (by decide) (by first | exact rO | exact (hLO i (by omega)).1) ?_
      refine wp_getI (M := mX4_withdrawAllOf) (pc := 16) fa_X4_64 rfl dX4_withdrawAllOf_16 (by first | exact kq | exact kO | exact (hLO i (by omega)).2.1) ?_
      refine wp_iload_n (M := mX4_withdrawAllOf) (pc := 19) dX4_withdrawAllOf_19 rfl ?_
      refine wp_icmp_ne (M := mX4_withdrawAllOf) (pc := 20) (tgt := 33) dX4_withdrawAllOf_20 rfl (fun t20 => ?_) (fun f20 => ?_)
      · have hno : ¬ (oA (gvAll A t i) i).1 = t := fun q9 => t20 (by rw [o0]; show nI (oA (gvAll A t i) i).1 = _; rw [q9])
        refine so_iinc (M := mX4_withdrawAllOf) (pc := 33) (lo' := [_, _, _]) dX4_withdrawAllOf_33 rfl ci_1 (LE rfl) rfl ?_
        refine wp_goto (M := mX4_withdrawAllOf) (pc := 36) (tgt := 2) dX4_withdrawAllOf_36 rfl ?_
        first
        | (rw [show nI i + 1 = nI (i + 1) from nI_1 i]
           exact ih (i + 1) _ (by omega) (by omega) (by rw [gv_no hno]; exact hR2) hF)
        | (rw [show nI i + 1 = nI (i + 1) from nI_1 i]
           exact ih (i + 1) _ (by omega) (by omega) (by rw [gv_ye hye]; exact a) (hF.tr c))
        | fail "leaf"
      · have hye : (oA (gvAll A t i) i).1 = t := (i_eq (Nat.lt_of_lt_of_le o4 (by omega)) ht).mp (o0.symm.trans f20)
        refine wp_aload_n (M := mX4_withdrawAllOf) (pc := 23) dX4_withdrawAllOf_23 rfl ?_
        refine wp_aload_n (M := mX4_withdrawAllOf) (pc := 24) dX4_withdrawAllOf_24 rfl ?_
        refine wp_getR (M := mX4_withdrawAllOf) (pc := 25) fa_X4_19 rfl dX4_withdrawAllOf_25 (by first | exact kq | exact kO | exact (hLO i (by omega)).2.1) (by first | exact rO | exact (hLO i (by omega)).1) ?_
        refine wp_iload_n (M := mX4_withdrawAllOf) (pc := 28) dX4_withdrawAllOf_28 rfl ?_
        refine wr_aaload (M := mX4_withdrawAllOf) (pc := 29) dX4_withdrawAllOf_29 (by first | exact kq | exact kO | exact (hLO i (by omega)).2.1) (by decide) rfl (by omega) (by decide) (by first | exact rO | exact (hLO i (by omega)).1) ?_
        refine so_V1 (M := mX4_withdrawAllOf) (pc := 30) cs_X4_withdrawAllOf_157 rfl rfl (LE rfl) (LE rfl) dX4_withdrawAllOf_30 (by first | exact kq | exact kO | exact (hLO i (by omega)).2.1) ?_
        refine sp_X4_giveBack hR2 (by rw [gl]; exact hlt) (fun h1 a c => ?_)
        refine kV ?_
        refine so_iinc (M := mX4_withdrawAllOf) (pc := 33) (lo' := [_, _, _]) dX4_withdrawAllOf_33 rfl ci_1 (LE rfl) rfl ?_
        refine wp_goto (M := mX4_withdrawAllOf) (pc := 36) (tgt := 2) dX4_withdrawAllOf_36 rfl ?_
        first
        | (rw [show nI i + 1 = nI (i + 1) from nI_1 i]
           exact ih (i + 1) _ (by omega) (by omega) (by rw [gv_no hno]; exact hR2) hF)
        | (rw [show nI i + 1 = nI (i + 1) from nI_1 i]
           exact ih (i + 1) _ (by omega) (by omega) (by rw [gv_ye hye]; exact a) (hF.tr c))
        | fail "leaf"
set_option maxHeartbeats 4000000 in
set_option maxRecDepth 100000 in
theorem sp_X4_withdrawAllOf {q : Nat} {l : Lt} {A : Sta} {t : Nat} (hR : RepC h q l A) (ht : t < 2 ^ 31) (k : ∀ h' l', sameL l l' → RepC h' q l' (remE (gvAll A t (sO A).length)) → Fr (fun x => x = q) h h' → Q (.inl none) h') : WPx E mX4_withdrawAllOf 0 [some (.ref q), some (.int (nI t)), none] [] (0, 0) h Q := by
  refine wp_iconst (M := mX4_withdrawAllOf) (pc := 0) (v := 0) dX4_withdrawAllOf_0 ci_0 ?_
  refine so_istore_n (M := mX4_withdrawAllOf) (pc := 1) (lo' := [_, _, _]) dX4_withdrawAllOf_1 (LE rfl) (LE rfl) (Or.inr rfl) rfl ?_
  exact lp_X4_withdrawAllOf (h0 := h) ht hR.2.1.1.2 k ((sO A).length + 1) 0 h (by omega) (by omega) hR Fr.rf
set_option maxHeartbeats 4000000 in
set_option maxRecDepth 100000 in
theorem lp_X4_fillBuckets {q : Nat} {l : Lt} {A : Sta} {h0 : PH} (hn6 : sN A ≤ 6) (k : ∀ h', RepC h' q l (fbk A (sN A)) → Fr (fun x => x = q) h0 h' → Q (.inl none) h') : ∀ (m : Nat) (i : Nat) (h : PH) (x2 : Option Value), sN A - i < m → (i ≤ sN A) → (RepC h q l (fbk A i)) → (Fr (fun x => x = q) h0 h) → WPx E mX4_fillBuckets 2 [some (.ref q), some (.int (nI i)), x2] [] (0, 0) h Q := by
  intro m
  induction m with
  | zero => intro i h x2 hm; exact absurd hm (Nat.not_lt_zero _)
  | succ m ih =>
    intro i h x2 hm hi hR hF
    have hR2 := hR
    have gn := fbk_N A i
    obtain ⟨hL, hN, hT, hO⟩ := hR
    obtain ⟨⟨kq, tq⟩, ⟨rT, kT, tT⟩, ⟨rO, kO, tO⟩, hLT, hLO, hinj⟩ := hL
    have n2 := hN.1.1
    rw [gn] at n2
    refine wp_iload_n (M := mX4_fillBuckets) (pc := 2) dX4_fillBuckets_2 rfl ?_
    refine wp_aload_n (M := mX4_fillBuckets) (pc := 3) dX4_fillBuckets_3 rfl ?_
    refine wp_getI (M := mX4_fillBuckets) (pc := 4) fa_X4_38 rfl dX4_fillBuckets_4 (by first | exact kq | exact kT | exact (hLT i (by omega)).2.1.1) ?_
    refine wp_icmp_ge (M := mX4_fillBuckets) (pc := 7) (tgt := 51) dX4_fillBuckets_7 rfl (fun t7 => ?_) (fun f7 => ?_)
    · rw [n2] at t7
      have hi2 := n_ge hi (by omega) t7
      subst hi2
      refine wp_return (M := mX4_fillBuckets) (pc := 51) rfl dX4_fillBuckets_51 ?_
      exact k _ hR2 hF
    · rw [n2] at f7
      have hlt := n_lt hi (by omega) f7
      have e0 := hR2.tF (t := i) (by omega) (k := 0) (by decide)
      have e1 := hR2.tF (t := i) (by omega) (k := 1) (by decide)
      have e2 := hR2.tF (t := i) (by omega) (k := 2) (by decide)
      refine wp_aload_n (M := mX4_fillBuckets) (pc := 10) dX4_fillBuckets_10 rfl ?_
      refine wp_getR (M := mX4_fillBuckets) (pc := 11) fa_X4_11 rfl dX4_fillBuckets_11 (by first | exact kq | exact kT | exact (hLT i (by omega)).2.1.1) (by first | exact rT | exact (hLT i (by omega)).1) ?_
      refine wp_iload_n (M := mX4_fillBuckets) (pc := 14) dX4_fillBuckets_14 rfl ?_
      refine wr_aaload (M := mX4_fillBuckets) (pc := 15) dX4_fillBuckets_15 (by first | exact kq | exact kT | exact (hLT i (by omega)).2.1.1) (by decide) rfl (by omega) (by decide) (by first | exact rT | exact (hLT i (by omega)).1) ?_
      refine so_astore_n (M := mX4_fillBuckets) (pc := 16) (lo' := [_, _, _]) dX4_fillBuckets_16 (LE rfl) (LE rfl) (Or.inr rfl) rfl ?_
      refine wp_aload_n (M := mX4_fillBuckets) (pc := 17) dX4_fillBuckets_17 rfl ?_
      refine wp_aload_n (M := mX4_fillBuckets) (pc := 18) dX4_fillBuckets_18 rfl ?_
      refine so_V1 (M := mX4_fillBuckets) (pc := 19) cs_X4_fillBuckets_123 rfl rfl (LE rfl) (LE rfl) dX4_fillBuckets_19 (by first | exact kq | exact kT | exact (hLT i (by omega)).2.1.1) ?_
      refine sp_X4_isSuspended hR2 (by omega) ?_
      refine kI ?_
      refine wp_if_ne (M := mX4_fillBuckets) (pc := 22) (tgt := 45) dX4_fillBuckets_22 rfl (fun t22 => ?_) (fun f22 => ?_)
      · refine so_iinc (M := mX4_fillBuckets) (pc := 45) (lo' := [_, _, _]) dX4_fillBuckets_45 rfl ci_1 (LE rfl) rfl ?_
        refine wp_goto (M := mX4_fillBuckets) (pc := 48) (tgt := 2) dX4_fillBuckets_48 rfl ?_
        first
        | (rw [show nI i + 1 = nI (i + 1) from nI_1 i]
           exact ih (i + 1) _ _ (by omega) (by omega) (by rw [fbk, fillB_y (ite_n t22)]; exact hR2) hF)
        | (rw [show nI i + 1 = nI (i + 1) from nI_1 i, e0, e1, e2]
           exact ih (i + 1) _ _ (by omega) (by omega) (by rw [fbk, fillB_n (ite_z f22)]; exact hR2.sF (by omega) (by decide) _) (hF.tr (Fr.si (hR2.ownT (by omega)))))
        | fail "leaf"
      · refine wp_aload_n (M := mX4_fillBuckets) (pc := 25) dX4_fillBuckets_25 rfl ?_
        refine wp_aload_n (M := mX4_fillBuckets) (pc := 26) dX4_fillBuckets_26 rfl ?_
        refine wp_getI (M := mX4_fillBuckets) (pc := 27) fa_X4_86 rfl dX4_fillBuckets_27 (by first | exact kq | exact kT | exact (hLT i (by omega)).2.1.1) ?_
        refine wp_aload_n (M := mX4_fillBuckets) (pc := 30) dX4_fillBuckets_30 rfl ?_
        refine wp_getI (M := mX4_fillBuckets) (pc := 31) fa_X4_92 rfl dX4_fillBuckets_31 (by first | exact kq | exact kT | exact (hLT i (by omega)).2.1.1) ?_
        refine wp_aload_n (M := mX4_fillBuckets) (pc := 34) dX4_fillBuckets_34 rfl ?_
        refine wp_getI (M := mX4_fillBuckets) (pc := 35) fa_X4_89 rfl dX4_fillBuckets_35 (by first | exact kq | exact kT | exact (hLT i (by omega)).2.1.1) ?_
        refine wp_iadd (M := mX4_fillBuckets) (pc := 38) dX4_fillBuckets_38 ?_
        refine so_S2 (M := mX4_fillBuckets) (pc := 39) cs_X4_fillBuckets_183 rfl rfl (LE rfl) (LE rfl) dX4_fillBuckets_39 ?_
        refine sp_J9_min_7cf53 ?_
        refine kI ?_
        refine wp_putI (M := mX4_fillBuckets) (pc := 42) fa_X4_92 (Or.inl rfl) dX4_fillBuckets_42 (by first | exact kq | exact kT | exact (hLT i (by omega)).2.1.1) ?_
        refine so_iinc (M := mX4_fillBuckets) (pc := 45) (lo' := [_, _, _]) dX4_fillBuckets_45 rfl ci_1 (LE rfl) rfl ?_
        refine wp_goto (M := mX4_fillBuckets) (pc := 48) (tgt := 2) dX4_fillBuckets_48 rfl ?_
        first
        | (rw [show nI i + 1 = nI (i + 1) from nI_1 i]
           exact ih (i + 1) _ _ (by omega) (by omega) (by rw [fbk, fillB_y (ite_n t22)]; exact hR2) hF)
        | (rw [show nI i + 1 = nI (i + 1) from nI_1 i, e0, e1, e2]
           exact ih (i + 1) _ _ (by omega) (by omega) (by rw [fbk, fillB_n (ite_z f22)]; exact hR2.sF (by omega) (by decide) _) (hF.tr (Fr.si (hR2.ownT (by omega)))))
        | fail "leaf"
set_option maxHeartbeats 4000000 in
set_option maxRecDepth 100000 in
theorem sp_X4_fillBuckets {q : Nat} {l : Lt} {A : Sta} (hR : RepC h q l A) (k : ∀ h', RepC h' q l (fbk A (sN A)) → Fr (fun x => x = q) h h' → Q (.inl none) h') : WPx E mX4_fillBuckets 0 [some (.ref q), none, none] [] (0, 0) h Q := by
  refine wp_iconst (M := mX4_fillBuckets) (pc := 0) (v := 0) dX4_fillBuckets_0 ci_0 ?_
  refine so_istore_n (M := mX4_fillBuckets) (pc := 1) (lo' := [_, _, _]) dX4_fillBuckets_1 (LE rfl) (LE rfl) (Or.inr rfl) rfl ?_
  exact lp_X4_fillBuckets (h0 := h) hR.2.1.1.2 k (sN A + 1) 0 h none (by omega) (by omega) hR Fr.rf
end SP
