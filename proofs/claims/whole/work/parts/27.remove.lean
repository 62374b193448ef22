section SP
variable {E : Ev} {h : PH} {Q : Rt → PH → Prop}
def giveT (A : Sta) (i : Nat) : Sta := if (oA A i).2.1 = 0 then wF A (oA A i).1 4 (fT A (oA A i).1 4 + (oA A i).2.2.1 * (oA A i).2.2.2) else if (oA A i).2.1 = 1 then wF A (oA A i).1 3 (fT A (oA A i).1 3 + (oA A i).2.2.2) else A
def giveA (A : Sta) (i : Nat) : Sta := wQ (giveT A i) i 0
def remE (A : Sta) : Sta := wO A ((sO A).filter (fun x => decide (0 < x.2.2.2)))
theorem giveT_O (A : Sta) (i : Nat) : sO (giveT A i) = sO A := by unfold giveT; split; rfl; split <;> rfl
theorem giveT_N (A : Sta) (i : Nat) : sN (giveT A i) = sN A := by unfold giveT; split; rfl; split <;> rfl
set_option maxHeartbeats 4000000 in
set_option maxRecDepth 100000 in
theorem sp_X4_giveBack {q : Nat} {l : Lt} {A : Sta} {i : Nat} (hR : RepC h q l A) (hi : i < (sO A).length) (k : ∀ h', RepC h' q l (giveA A i) → Fr (fun x => x = q) h h' → Q (.inl none) h') : WPx E mX4_giveBack 0 [some (.ref q), some (.ref (lO l i)), none] [] (0, 0) h Q := by
  have hR2 := hR
  obtain ⟨hL, hN, hT, hO⟩ := hR
  obtain ⟨⟨kq, tq⟩, ⟨rT, kT, tT⟩, ⟨rO, kO, tO⟩, hLT, hLO, hinj⟩ := hL
  obtain ⟨⟨n2, n6⟩, ⟨n3, n12⟩, n4, n5, n6', n7, n8, n9, n10, n11⟩ := hN
  obtain ⟨b1, b2, j9, b3⟩ := hLO i (by omega)
  obtain ⟨⟨o0, o1, o2, o3⟩, o4, o5⟩ := hO i hi
  obtain ⟨a1, ⟨a2, a3⟩, ⟨a4, a5, a6⟩, a7, a8, a9⟩ := hLT _ (Nat.lt_of_lt_of_le o4 n6)
  have e4 := hR2.tF o4 (k := 4) (by decide)
  have e3 := hR2.tF o4 (k := 3) (by decide)
  have ne1 : lO l i ≠ lT l (oA A i).1 := ne_tg b3 a3 (by simp)
  refine wp_aload_n (M := mX4_giveBack) (pc := 0) dX4_giveBack_0 rfl ?_
  refine wp_getR (M := mX4_giveBack) (pc := 1) fa_X4_11 rfl dX4_giveBack_1 (by first | exact kq | exact b2 | exact a2 | exact kT) (by first | exact rT | exact a1) ?_
  refine wp_aload_n (M := mX4_giveBack) (pc := 4) dX4_giveBack_4 rfl ?_
  refine wp_getI (M := mX4_giveBack) (pc := 5) fa_X4_64 rfl dX4_giveBack_5 (by first | exact kq | exact b2 | exact a2 | exact kT) ?_
  refine wr_aaload (M := mX4_giveBack) (pc := 8) dX4_giveBack_8 (by first | exact kq | exact b2 | exact a2 | exact kT) (by decide) o0 (Nat.lt_of_lt_of_le o4 n6) (by decide) (by first | exact rT | exact a1) ?_
  refine so_astore_n (M := mX4_giveBack) (pc := 9) (lo' := [_, _, _]) dX4_giveBack_9 (LE rfl) (LE rfl) (Or.inr rfl) rfl ?_
  refine wp_aload_n (M := mX4_giveBack) (pc := 10) dX4_giveBack_10 rfl ?_
  refine wp_getI (M := mX4_giveBack) (pc := 11) fa_X4_67 rfl dX4_giveBack_11 (by first | exact kq | exact b2 | exact a2 | exact kT) ?_
  refine wp_if_ne (M := mX4_giveBack) (pc := 14) (tgt := 38) dX4_giveBack_14 rfl (fun t14 => ?_) (fun f14 => ?_)
  · have hk0 : ¬ (oA A i).2.1 = 0 := fun q9 => t14 (by rw [o1]; show nI (oA A i).2.1 = 0; rw [q9]; rfl)
    refine wp_aload_n (M := mX4_giveBack) (pc := 38) dX4_giveBack_38 rfl ?_
    refine wp_getI (M := mX4_giveBack) (pc := 39) fa_X4_67 rfl dX4_giveBack_39 (by first | exact kq | exact b2 | exact a2 | exact kT) ?_
    refine wp_iconst (M := mX4_giveBack) (pc := 42) (v := 1) dX4_giveBack_42 ci_1 ?_
    refine wp_icmp_ne (M := mX4_giveBack) (pc := 43) (tgt := 59) dX4_giveBack_43 rfl (fun t43 => ?_) (fun f43 => ?_)
    · have hk1 : ¬ (oA A i).2.1 = 1 := fun q9 => t43 (by rw [o1]; show nI (oA A i).2.1 = 1; rw [q9]; rfl)
      refine wp_aload_n (M := mX4_giveBack) (pc := 59) dX4_giveBack_59 rfl ?_
      refine wp_iconst (M := mX4_giveBack) (pc := 60) (v := 0) dX4_giveBack_60 ci_0 ?_
      refine wp_putI (M := mX4_giveBack) (pc := 61) fa_X4_73 (Or.inl rfl) dX4_giveBack_61 (by first | exact kq | exact b2 | exact a2 | exact kT) ?_
      refine wp_return (M := mX4_giveBack) (pc := 64) rfl dX4_giveBack_64 ?_
      first
      | (have e9 : giveT A i = wF A (oA A i).1 4 (fT A (oA A i).1 4 + (oA A i).2.2.1 * (oA A i).2.2.2) := by rw [giveT, if_pos hk0]
         have H1 := hR2.sF o4 (k := 4) (by decide) (fT A (oA A i).1 4 + (oA A i).2.2.1 * (oA A i).2.2.2)
         rw [e4, o2, o3]
         exact k _ (by rw [giveA, e9]; exact H1.sQty hi 0) ((Fr.si (hR2.ownT (Nat.lt_of_lt_of_le o4 n6))).tr (Fr.si (hR2.ownO (by omega)))))
      | (have e9 : giveT A i = wF A (oA A i).1 3 (fT A (oA A i).1 3 + (oA A i).2.2.2) := by rw [giveT, if_neg hk0, if_pos hk1]
         have H1 := hR2.sF o4 (k := 3) (by decide) (fT A (oA A i).1 3 + (oA A i).2.2.2)
         rw [e3, o3]
         exact k _ (by rw [giveA, e9]; exact H1.sQty hi 0) ((Fr.si (hR2.ownT (Nat.lt_of_lt_of_le o4 n6))).tr (Fr.si (hR2.ownO (by omega)))))
      | (have e9 : giveT A i = A := by rw [giveT, if_neg hk0, if_neg hk1]
         exact k _ (by rw [giveA, e9]; exact hR2.sQty hi 0) (Fr.si (hR2.ownO (by omega))))
      | fail "leaf"
    · have hk1 : (oA A i).2.1 = 1 := (i_eq (b := 1) (Nat.lt_trans o5 (by decide)) (by decide)).mp (o1.symm.trans f43)
      refine wp_aload_n (M := mX4_giveBack) (pc := 46) dX4_giveBack_46 rfl ?_
      refine wp_dup (M := mX4_giveBack) (pc := 47) dX4_giveBack_47 rfl ?_
      refine wp_getI (M := mX4_giveBack) (pc := 48) fa_X4_95 rfl dX4_giveBack_48 (by first | exact kq | exact b2 | exact a2 | exact kT) ?_
      refine wp_aload_n (M := mX4_giveBack) (pc := 51) dX4_giveBack_51 rfl ?_
      refine wp_getI (M := mX4_giveBack) (pc := 52) fa_X4_73 rfl dX4_giveBack_52 (by first | exact kq | exact b2 | exact a2 | exact kT) ?_
      refine wp_iadd (M := mX4_giveBack) (pc := 55) dX4_giveBack_55 ?_
      refine wp_putI (M := mX4_giveBack) (pc := 56) fa_X4_95 (Or.inl rfl) dX4_giveBack_56 (by first | exact kq | exact b2 | exact a2 | exact kT) ?_
      refine wp_aload_n (M := mX4_giveBack) (pc := 59) dX4_giveBack_59 rfl ?_
      refine wp_iconst (M := mX4_giveBack) (pc := 60) (v := 0) dX4_giveBack_60 ci_0 ?_
      refine wp_putI (M := mX4_giveBack) (pc := 61) fa_X4_73 (Or.inl rfl) dX4_giveBack_61 (by first | exact kq | exact b2 | exact a2 | exact kT) ?_
      refine wp_return (M := mX4_giveBack) (pc := 64) rfl dX4_giveBack_64 ?_
      first
      | (have e9 : giveT A i = wF A (oA A i).1 4 (fT A (oA A i).1 4 + (oA A i).2.2.1 * (oA A i).2.2.2) := by rw [giveT, if_pos hk0]
         have H1 := hR2.sF o4 (k := 4) (by decide) (fT A (oA A i).1 4 + (oA A i).2.2.1 * (oA A i).2.2.2)
         rw [e4, o2, o3]
         exact k _ (by rw [giveA, e9]; exact H1.sQty hi 0) ((Fr.si (hR2.ownT (Nat.lt_of_lt_of_le o4 n6))).tr (Fr.si (hR2.ownO (by omega)))))
      | (have e9 : giveT A i = wF A (oA A i).1 3 (fT A (oA A i).1 3 + (oA A i).2.2.2) := by rw [giveT, if_neg hk0, if_pos hk1]
         have H1 := hR2.sF o4 (k := 3) (by decide) (fT A (oA A i).1 3 + (oA A i).2.2.2)
         rw [e3, o3]
         exact k _ (by rw [giveA, e9]; exact H1.sQty hi 0) ((Fr.si (hR2.ownT (Nat.lt_of_lt_of_le o4 n6))).tr (Fr.si (hR2.ownO (by omega)))))
      | (have e9 : giveT A i = A := by rw [giveT, if_neg hk0, if_neg hk1]
         exact k _ (by rw [giveA, e9]; exact hR2.sQty hi 0) (Fr.si (hR2.ownO (by omega))))
      | fail "leaf"
  · have hk0 : (oA A i).2.1 = 0 := (i_eq (b := 0) (Nat.lt_trans o5 (by decide)) (by decide)).mp (o1.symm.trans f14)
    refine wp_aload_n (M := mX4_giveBack) (pc := 17) dX4_giveBack_17 rfl ?_
    refine wp_dup (M := mX4_giveBack) (pc := 18) dX4_giveBack_18 rfl ?_
    refine wp_getI (M := mX4_giveBack) (pc := 19) fa_X4_98 rfl dX4_giveBack_19 (by first | exact kq | exact b2 | exact a2 | exact kT) ?_
    refine wp_aload_n (M := mX4_giveBack) (pc := 22) dX4_giveBack_22 rfl ?_
    refine wp_getI (M := mX4_giveBack) (pc := 23) fa_X4_70 rfl dX4_giveBack_23 (by first | exact kq | exact b2 | exact a2 | exact kT) ?_
    refine wp_aload_n (M := mX4_giveBack) (pc := 26) dX4_giveBack_26 rfl ?_
    refine wp_getI (M := mX4_giveBack) (pc := 27) fa_X4_73 rfl dX4_giveBack_27 (by first | exact kq | exact b2 | exact a2 | exact kT) ?_
    refine wp_imul (M := mX4_giveBack) (pc := 30) dX4_giveBack_30 ?_
    refine wp_iadd (M := mX4_giveBack) (pc := 31) dX4_giveBack_31 ?_
    refine wp_putI (M := mX4_giveBack) (pc := 32) fa_X4_98 (Or.inl rfl) dX4_giveBack_32 (by first | exact kq | exact b2 | exact a2 | exact kT) ?_
    refine wp_goto (M := mX4_giveBack) (pc := 35) (tgt := 59) dX4_giveBack_35 rfl ?_
    refine wp_aload_n (M := mX4_giveBack) (pc := 59) dX4_giveBack_59 rfl ?_
    refine wp_iconst (M := mX4_giveBack) (pc := 60) (v := 0) dX4_giveBack_60 ci_0 ?_
    refine wp_putI (M := mX4_giveBack) (pc := 61) fa_X4_73 (Or.inl rfl) dX4_giveBack_61 (by first | exact kq | exact b2 | exact a2 | exact kT) ?_
    refine wp_return (M := mX4_giveBack) (pc := 64) rfl dX4_giveBack_64 ?_
    first
    | (have e9 : giveT A i = wF A (oA A i).1 4 (fT A (oA A i).1 4 + (oA A i).2.2.1 * (oA A i).2.2.2) := by rw [giveT, if_pos hk0]
       have H1 := hR2.sF o4 (k := 4) (by decide) (fT A (oA A i).1 4 + (oA A i).2.2.1 * (oA A i).2.2.2)
       rw [e4, o2, o3]
       exact k _ (by rw [giveA, e9]; exact H1.sQty hi 0) ((Fr.si (hR2.ownT (Nat.lt_of_lt_of_le o4 n6))).tr (Fr.si (hR2.ownO (by omega)))))
    | (have e9 : giveT A i = wF A (oA A i).1 3 (fT A (oA A i).1 3 + (oA A i).2.2.2) := by rw [giveT, if_neg hk0, if_pos hk1]
       have H1 := hR2.sF o4 (k := 3) (by decide) (fT A (oA A i).1 3 + (oA A i).2.2.2)
       rw [e3, o3]
       exact k _ (by rw [giveA, e9]; exact H1.sQty hi 0) ((Fr.si (hR2.ownT (Nat.lt_of_lt_of_le o4 n6))).tr (Fr.si (hR2.ownO (by omega)))))
    | (have e9 : giveT A i = A := by rw [giveT, if_neg hk0, if_neg hk1]
       exact k _ (by rw [giveA, e9]; exact hR2.sQty hi 0) (Fr.si (hR2.ownO (by omega))))
    | fail "leaf"
/-- two places of the book's row change what they hold -/
def swp (l : Lt) (i c : Nat) : Lt := (lTA l, lOA l, lT l, lM l, lW l, fun j => if j = c then lO l i else if j = i then lO l c else lO l j)
theorem Lay.swap {h : PH} {q : Nat} {l : Lt} (H : Lay h q l) {i c : Nat} (hi : i < 12) (hc : c < 12) : Lay (sr (sr h (lOA l) i (some (lO l c))) (lOA l) c (some (lO l i))) q (swp l i c) := by
  obtain ⟨⟨h1, h2⟩, ⟨h3, h4, h5⟩, ⟨h6, h7, h8⟩, h9, h10, h11⟩ := H
  have er : ∀ x, x ≠ lOA l → gr (sr (sr h (lOA l) i (some (lO l c))) (lOA l) c (some (lO l i))) x = gr h x := fun x hx => by
    rw [gr_sr, u2_row _ _ hx, gr_sr, u2_row _ _ hx]
  refine ⟨⟨h1, h2⟩, ⟨?_, h4, h5⟩, ⟨?_, h7, h8⟩, fun t ht => ?_, fun j hj => ?_, fun j j' hj hj' e => ?_⟩
  · rw [er _ (ne_tg h2 h8 (by simp))]; exact h3
  · rw [er _ (ne_tg h2 h8 (by simp))]; exact h6
  · obtain ⟨a1, ⟨a2, a3⟩, ⟨a4, a5, a6⟩, a7, a8, a9⟩ := h9 t ht
    refine ⟨?_, ⟨a2, a3⟩, ⟨?_, a5, a6⟩, ?_, a8, a9⟩
    · rw [show lTA (swp l i c) = lTA l from rfl, er _ (ne_tg h5 h8 (by simp))]; exact a1
    · rw [show lT (swp l i c) t = lT l t from rfl, er _ (ne_tg a3 h8 (by simp))]; exact a4
    · rw [show lT (swp l i c) t = lT l t from rfl, er _ (ne_tg a3 h8 (by simp))]; exact a7
  · show gr (sr (sr h (lOA l) i (some (lO l c))) (lOA l) c (some (lO l i))) (lOA l) j = some (if j = c then lO l i else if j = i then lO l c else lO l j) ∧ kd h (if j = c then lO l i else if j = i then lO l c else lO l j) = some (.inl 3) ∧ ∃ j2, tg h (if j = c then lO l i else if j = i then lO l c else lO l j) = (q, 6, j2)
    rw [gr_sr, gr_sr]
    by_cases e1 : j = c
    · subst e1
      rw [u2_at, if_pos rfl]
      exact ⟨rfl, (h10 i hi).2⟩
    · rw [u2_ne _ _ (Or.inr e1), if_neg e1]
      by_cases e2 : j = i
      · subst e2
        rw [u2_at, if_pos rfl]
        exact ⟨rfl, (h10 c hc).2⟩
      · rw [u2_ne _ _ (Or.inr e2), if_neg e2]
        exact h10 j hj
  · have e' : (if j = c then lO l i else if j = i then lO l c else lO l j) = (if j' = c then lO l i else if j' = i then lO l c else lO l j') := e
    have s1 : ∀ y, (if y = c then lO l i else if y = i then lO l c else lO l y) = lO l (if y = c then i else if y = i then c else y) := fun y => by
      split
      · rfl
      · split <;> rfl
    rw [s1, s1] at e'
    have hb : ∀ y, y < 12 → (if y = c then i else if y = i then c else y) < 12 := fun y hy => by
      split
      · exact hi
      · split
        · exact hc
        · exact hy
    have h12 := h11 _ _ (hb j hj) (hb j' hj') e'
    by_cases a : j = c <;> by_cases b : j' = c <;> by_cases a2 : j = i <;> by_cases b2 : j' = i <;> simp only [a, b, a2, b2, if_true, if_false] at h12 <;> first | omega | (split at h12 <;> omega)
/-- two layouts that differ in the orders' places alone -/
def sameL (l l' : Lt) : Prop := lTA l' = lTA l ∧ lOA l' = lOA l ∧ lT l' = lT l ∧ lM l' = lM l ∧ lW l' = lW l
theorem sameL.rf {l : Lt} : sameL l l := ⟨rfl, rfl, rfl, rfl, rfl⟩
theorem sameL.tr {l l1 l2 : Lt} (a : sameL l l1) (b : sameL l1 l2) : sameL l l2 := ⟨b.1.trans a.1, b.2.1.trans a.2.1, b.2.2.1.trans a.2.2.1, b.2.2.2.1.trans a.2.2.2.1, b.2.2.2.2.trans a.2.2.2.2⟩
/-- within removeEmptyOrders: the first i are looked at -/
abbrev kp (A : Sta) (i : Nat) : List Ord := ((sO A).take i).filter (fun x => decide (0 < x.2.2.2))
def RI (h : PH) (q : Nat) (l : Lt) (A : Sta) (i : Nat) : Prop := Lay h q l ∧ NumC h q A ∧ (∀ t, t < sN A → TenC h l t (sT A t)) ∧ (∀ j, j < (kp A i).length → OrdC h (lO l j) (sN A) ((kp A i).getD j (0, 0, 0, 0))) ∧ (∀ j, i ≤ j → j < (sO A).length → OrdC h (lO l j) (sN A) (oA A j))
theorem kp_len (A : Sta) (i : Nat) (hi : i ≤ (sO A).length) : (kp A i).length ≤ i := by
  have := List.length_filter_le (fun x : Ord => decide (0 < x.2.2.2)) ((sO A).take i)
  rw [List.length_take] at this
  show (((sO A).take i).filter (fun x : Ord => decide (0 < x.2.2.2))).length ≤ i
  omega
theorem kp_no {A : Sta} {i : Nat} (hi : i < (sO A).length) (h : ¬ 0 < (oA A i).2.2.2) : kp A (i + 1) = kp A i := by
  have e : oA A i = (sO A)[i] := by simp [oA, List.getD_eq_getElem?_getD, List.getElem?_eq_getElem hi]
  rw [e] at h
  unfold kp
  rw [List.take_succ_eq_append_getElem hi, List.filter_append]
  simp [h]
theorem kp_ye {A : Sta} {i : Nat} (hi : i < (sO A).length) (h : 0 < (oA A i).2.2.2) : kp A (i + 1) = kp A i ++ [oA A i] := by
  have e : oA A i = (sO A)[i] := by simp [oA, List.getD_eq_getElem?_getD, List.getElem?_eq_getElem hi]
  rw [e] at h ⊢
  unfold kp
  rw [List.take_succ_eq_append_getElem hi, List.filter_append]
  simp [h]
theorem RI.skip {h : PH} {q : Nat} {l : Lt} {A : Sta} {i : Nat} (H : RI h q l A i) (hi : i < (sO A).length) (hn : ¬ 0 < (oA A i).2.2.2) : RI h q l A (i + 1) := by
  obtain ⟨h1, h2, h3, h4, h5⟩ := H
  refine ⟨h1, h2, h3, ?_, fun j hj => h5 j (by omega)⟩
  rw [kp_no hi hn]; exact h4
theorem RI.swap {h : PH} {q : Nat} {l : Lt} {A : Sta} {i : Nat} (H : RI h q l A i) (hi : i < (sO A).length) (hy : 0 < (oA A i).2.2.2) : RI (sr (sr h (lOA l) i (some (lO l (kp A i).length))) (lOA l) (kp A i).length (some (lO l i))) q (swp l i (kp A i).length) A (i + 1) := by
  obtain ⟨h1, h2, h3, h4, h5⟩ := H
  have hcl := kp_len A i (by omega)
  have n12 := h2.2.1.2
  refine ⟨h1.swap (by omega) (by omega), h2, h3, fun j hj => ?_, fun j hj hj2 => ?_⟩
  · rw [kp_ye hi hy] at hj ⊢
    rw [List.length_append, List.length_singleton] at hj
    show OrdC h (if j = (kp A i).length then lO l i else if j = i then lO l (kp A i).length else lO l j) (sN A) _
    by_cases e1 : j = (kp A i).length
    · subst e1
      rw [if_pos rfl, List.getD_eq_getElem?_getD, List.getElem?_append_right (Nat.le_refl _), Nat.sub_self]
      exact h5 i (Nat.le_refl _) hi
    · have hj3 : j < (kp A i).length := by omega
      rw [if_neg e1, if_neg (by omega), List.getD_eq_getElem?_getD, List.getElem?_append_left hj3, ← List.getD_eq_getElem?_getD]
      exact h4 j hj3
  · show OrdC h (if j = (kp A i).length then lO l i else if j = i then lO l (kp A i).length else lO l j) (sN A) _
    rw [if_neg (by omega), if_neg (by omega)]
    exact h5 j (by omega) hj2
theorem RI.done {h : PH} {q : Nat} {l : Lt} {A : Sta} (H : RI h q l A (sO A).length) : RepC (si h q 3 (nI (kp A (sO A).length).length)) q l (remE A) := by
  obtain ⟨hL, hN, hT, h4, -⟩ := H
  have e : sO (remE A) = kp A (sO A).length := by unfold kp; rw [List.take_length]; rfl
  have hcl := kp_len A _ (Nat.le_refl (sO A).length)
  refine ⟨hL, ?_, fun t ht => ?_, fun i hi => ?_⟩
  · obtain ⟨⟨a1, a2⟩, ⟨b1, b2⟩, c4, c5, c6, c7, c8, c9, c10, c11⟩ := hN
    unfold NumC
    rw [gi_si_at, e]
    exact ⟨⟨(upd_ne _ _ (by decide)).trans a1, a2⟩, ⟨upd_at _ _ _, by omega⟩, (upd_ne _ _ (by decide)).trans c4, (upd_ne _ _ (by decide)).trans c5, (upd_ne _ _ (by decide)).trans c6, (upd_ne _ _ (by decide)).trans c7, (upd_ne _ _ (by decide)).trans c8, (upd_ne _ _ (by decide)).trans c9, (upd_ne _ _ (by decide)).trans c10, (upd_ne _ _ (by decide)).trans c11⟩
  · have h1' : t < sN A := ht
    obtain ⟨-, ⟨-, s1⟩, ⟨-, -, s2⟩, -, -, s3⟩ := hL.2.2.2.1 t (by have := hN.1.2; omega)
    have := hT t h1'
    show TenC _ l t (sT A t)
    unfold TenC at this ⊢
    rw [gi_si_ne _ _ _ (ne_tg s1 hL.1.2 (by simp)), gi_si_ne _ _ _ (ne_tg s2 hL.1.2 (by simp)), gi_si_ne _ _ _ (ne_tg s3 hL.1.2 (by simp))]
    exact this
  · rw [e] at hi ⊢
    obtain ⟨-, -, j, s1⟩ := hL.2.2.2.2.1 i (by have := hN.2.1.2; omega)
    have := h4 i hi
    show OrdC _ (lO l i) (sN A) _
    unfold OrdC at this ⊢
    rw [gi_si_ne _ _ _ (ne_tg s1 hL.1.2 (by simp))]
    exact this
set_option maxHeartbeats 4000000 in
set_option maxRecDepth 100000 in
theorem lp_X4_removeEmptyOrders {q : Nat} {A : Sta} {h0 : PH} {l0 : Lt} (k : ∀ h' l', sameL l0 l' → RepC h' q l' (remE A) → Fr (fun x => x = q) h0 h' → Q (.inl none) h') : ∀ (m : Nat) (i : Nat) (h : PH) (l : Lt) (x3 : Option Value), (sO A).length - i < m → (i ≤ (sO A).length) → (RI h q l A i) → (sameL l0 l) → (Fr (fun x => x = q) h0 h) → WPx E mX4_removeEmptyOrders 4 [some (.ref q), some (.int (nI (kp A i).length)), some (.int (nI i)), x3] [] (0, 0) h Q := by
  intro m
  induction m with
  | zero => intro i h l x3 hm; exact absurd hm (Nat.not_lt_zero _)
  | succ m ih =>
    intro i h l x3 hm hi hI hSl hF
    have hI2 := hI
    obtain ⟨hL, hN, hT, h4, h5⟩ := hI
    obtain ⟨⟨kq, tq⟩, ⟨rT, kT, tT⟩, ⟨rO, kO, tO⟩, hLT, hLO, hinj⟩ := hL
    obtain ⟨⟨n2, n6⟩, ⟨n3, n12⟩, n4, n5, n6', n7, n8, n9, n10, n11⟩ := hN
    have hcl := kp_len A i hi
    have own1 : (tg h (lOA l)).1 = q := by rw [tO]
    have own2 : (tg h q).1 = q := by rw [tq]
    refine wp_iload_n (M := mX4_removeEmptyOrders) (pc := 4) dX4_removeEmptyOrders_4 rfl ?_
    refine wp_aload_n (M := mX4_removeEmptyOrders) (pc := 5) dX4_removeEmptyOrders_5 rfl ?_
    refine wp_getI (M := mX4_removeEmptyOrders) (pc := 6) fa_X4_41 rfl dX4_removeEmptyOrders_6 (by first | exact kq | exact kO | exact (hLO i (by omega)).2.1) ?_
    refine wp_icmp_ge (M := mX4_removeEmptyOrders) (pc := 9) (tgt := 54) dX4_removeEmptyOrders_9 rfl (fun t9 => ?_) (fun f9 => ?_)
    · rw [n3] at t9
      have hi2 := n_ge hi (by omega) t9
      subst hi2
      refine wp_aload_n (M := mX4_removeEmptyOrders) (pc := 54) dX4_removeEmptyOrders_54 rfl ?_
      refine wp_iload_n (M := mX4_removeEmptyOrders) (pc := 55) dX4_removeEmptyOrders_55 rfl ?_
      refine wp_putI (M := mX4_removeEmptyOrders) (pc := 56) fa_X4_41 (Or.inl rfl) dX4_removeEmptyOrders_56 (by first | exact kq | exact kO | exact (hLO i (by omega)).2.1) ?_
      refine wp_return (M := mX4_removeEmptyOrders) (pc := 59) rfl dX4_removeEmptyOrders_59 ?_
      exact k _ l hSl hI2.done (hF.tr (Fr.si own2))
    · rw [n3] at f9
      have hlt := n_lt hi (by omega) f9
      obtain ⟨⟨o0, o1, o2, o3⟩, o4, o5⟩ := h5 i (Nat.le_refl _) hlt
      refine wp_aload_n (M := mX4_removeEmptyOrders) (pc := 12) dX4_removeEmptyOrders_12 rfl ?_
      refine wp_getR (M := mX4_removeEmptyOrders) (pc := 13) fa_X4_19 rfl dX4_removeEmptyOrders_13 (by first | exact kq | exact kO | exact (hLO i (by omega)).2.1) rO ?_
      refine wp_iload_n (M := mX4_removeEmptyOrders) (pc := 16) dX4_removeEmptyOrders_16 rfl ?_
      refine wr_aaload (M := mX4_removeEmptyOrders) (pc := 17) dX4_removeEmptyOrders_17 (by first | exact kq | exact kO | exact (hLO i (by omega)).2.1) (by decide) rfl (by omega) (by decide) (hLO i (by omega)).1 ?_
      refine so_astore_n (M := mX4_removeEmptyOrders) (pc := 18) (lo' := [_, _, _, _]) dX4_removeEmptyOrders_18 (LE rfl) (LE rfl) (Or.inr rfl) rfl ?_
      refine wp_aload_n (M := mX4_removeEmptyOrders) (pc := 19) dX4_removeEmptyOrders_19 rfl ?_
      refine wp_getI (M := mX4_removeEmptyOrders) (pc := 20) fa_X4_73 rfl dX4_removeEmptyOrders_20 (by first | exact kq | exact kO | exact (hLO i (by omega)).2.1) ?_
      refine wp_if_le (M := mX4_removeEmptyOrders) (pc := 23) (tgt := 48) dX4_removeEmptyOrders_23 rfl (fun t23 => ?_) (fun f23 => ?_)
      · rw [o3] at t23
        have hn : ¬ 0 < (oA A i).2.2.2 := Int32.not_lt.mpr t23
        refine so_iinc (M := mX4_removeEmptyOrders) (pc := 48) (lo' := [_, _, _, _]) dX4_removeEmptyOrders_48 rfl ci_1 (LE rfl) rfl ?_
        refine wp_goto (M := mX4_removeEmptyOrders) (pc := 51) (tgt := 4) dX4_removeEmptyOrders_51 rfl ?_
        first
        | (rw [show nI i + 1 = nI (i + 1) from nI_1 i]
           have hz := ih (i + 1) h l (some (.ref (lO l i))) (by omega) (by omega) (hI2.skip hlt hn) hSl hF
           rw [kp_no hlt hn] at hz
           exact hz)
        | (rw [show nI i + 1 = nI (i + 1) from nI_1 i, show nI (kp A i).length + 1 = nI ((kp A i).length + 1) from nI_1 _]
           have hz := ih (i + 1) _ _ (some (.ref (lO l i))) (by omega) (by omega) (hI2.swap hlt hy) hSl (hF.tr ((Fr.sr own1).tr (Fr.sr own1)))
           rw [kp_ye hlt hy, List.length_append, List.length_singleton] at hz
           exact hz)
        | fail "leaf"
      · rw [o3] at f23
        have hy : 0 < (oA A i).2.2.2 := Int32.not_le.mp f23
        refine wp_aload_n (M := mX4_removeEmptyOrders) (pc := 26) dX4_removeEmptyOrders_26 rfl ?_
        refine wp_getR (M := mX4_removeEmptyOrders) (pc := 27) fa_X4_19 rfl dX4_removeEmptyOrders_27 (by first | exact kq | exact kO | exact (hLO i (by omega)).2.1) rO ?_
        refine wp_iload_n (M := mX4_removeEmptyOrders) (pc := 30) dX4_removeEmptyOrders_30 rfl ?_
        refine wp_aload_n (M := mX4_removeEmptyOrders) (pc := 31) dX4_removeEmptyOrders_31 rfl ?_
        refine wp_getR (M := mX4_removeEmptyOrders) (pc := 32) fa_X4_19 rfl dX4_removeEmptyOrders_32 (by first | exact kq | exact kO | exact (hLO i (by omega)).2.1) rO ?_
        refine wp_iload_n (M := mX4_removeEmptyOrders) (pc := 35) dX4_removeEmptyOrders_35 rfl ?_
        refine wr_aaload (M := mX4_removeEmptyOrders) (pc := 36) dX4_removeEmptyOrders_36 (by first | exact kq | exact kO | exact (hLO i (by omega)).2.1) (by decide) rfl (by omega) (by decide) (hLO (kp A i).length (by omega)).1 ?_
        refine wr_aastore (M := mX4_removeEmptyOrders) (pc := 37) dX4_removeEmptyOrders_37 (by first | exact kq | exact kO | exact (hLO i (by omega)).2.1) (hLO (kp A i).length (by omega)).2.1 (by decide) rfl (by omega) (by decide) ?_
        refine wp_aload_n (M := mX4_removeEmptyOrders) (pc := 38) dX4_removeEmptyOrders_38 rfl ?_
        refine wp_getR (M := mX4_removeEmptyOrders) (pc := 39) fa_X4_19 rfl dX4_removeEmptyOrders_39 (by first | exact kq | exact kO | exact (hLO i (by omega)).2.1) (by rw [gr_sr, u2_row _ _ (ne_tg tq tO (by simp))]; exact rO) ?_
        refine wp_iload_n (M := mX4_removeEmptyOrders) (pc := 42) dX4_removeEmptyOrders_42 rfl ?_
        refine wp_aload_n (M := mX4_removeEmptyOrders) (pc := 43) dX4_removeEmptyOrders_43 rfl ?_
        refine wr_aastore (M := mX4_removeEmptyOrders) (pc := 44) dX4_removeEmptyOrders_44 (by first | exact kq | exact kO | exact (hLO i (by omega)).2.1) (hLO i (by omega)).2.1 (by decide) rfl (by omega) (by decide) ?_
        refine so_iinc (M := mX4_removeEmptyOrders) (pc := 45) (lo' := [_, _, _, _]) dX4_removeEmptyOrders_45 rfl ci_1 (LE rfl) rfl ?_
        refine so_iinc (M := mX4_removeEmptyOrders) (pc := 48) (lo' := [_, _, _, _]) dX4_removeEmptyOrders_48 rfl ci_1 (LE rfl) rfl ?_
        refine wp_goto (M := mX4_removeEmptyOrders) (pc := 51) (tgt := 4) dX4_removeEmptyOrders_51 rfl ?_
        first
        | (rw [show nI i + 1 = nI (i + 1) from nI_1 i]
           have hz := ih (i + 1) h l (some (.ref (lO l i))) (by omega) (by omega) (hI2.skip hlt hn) hSl hF
           rw [kp_no hlt hn] at hz
           exact hz)
        | (rw [show nI i + 1 = nI (i + 1) from nI_1 i, show nI (kp A i).length + 1 = nI ((kp A i).length + 1) from nI_1 _]
           have hz := ih (i + 1) _ _ (some (.ref (lO l i))) (by omega) (by omega) (hI2.swap hlt hy) hSl (hF.tr ((Fr.sr own1).tr (Fr.sr own1)))
           rw [kp_ye hlt hy, List.length_append, List.length_singleton] at hz
           exact hz)
        | fail "leaf"
set_option maxHeartbeats 4000000 in
set_option maxRecDepth 100000 in
theorem sp_X4_removeEmptyOrders {q : Nat} {l : Lt} {A : Sta} (hR : RepC h q l A) (k : ∀ h' l', sameL l l' → RepC h' q l' (remE A) → Fr (fun x => x = q) h h' → Q (.inl none) h') : WPx E mX4_removeEmptyOrders 0 [some (.ref q), none, none, none] [] (0, 0) h Q := by
  refine wp_iconst (M := mX4_removeEmptyOrders) (pc := 0) (v := 0) dX4_removeEmptyOrders_0 ci_0 ?_
  refine so_istore_n (M := mX4_removeEmptyOrders) (pc := 1) (lo' := [_, _, _, _]) dX4_removeEmptyOrders_1 (LE rfl) (LE rfl) (Or.inr rfl) rfl ?_
  refine wp_iconst (M := mX4_removeEmptyOrders) (pc := 2) (v := 0) dX4_removeEmptyOrders_2 ci_0 ?_
  refine so_istore_n (M := mX4_removeEmptyOrders) (pc := 3) (lo' := [_, _, _, _]) dX4_removeEmptyOrders_3 (LE rfl) (LE rfl) (Or.inr rfl) rfl ?_
  refine lp_X4_removeEmptyOrders (h0 := h) (l0 := l) k ((sO A).length + 1) 0 h l none (by omega) (by omega) ⟨hR.1, hR.2.1, hR.2.2.1, fun j hj => ?_, fun j _ hj => hR.2.2.2 j hj⟩ sameL.rf Fr.rf
  simp [kp] at hj
end SP
