section SP
variable {E : Ev} {h : PH} {Q : Rt → PH → Prop}
abbrev mis (x : Int32) : Nat := x.toNatClampNeg
theorem mis_nI {x : Int32} (h : ¬ x < 0) : x = nI (mis x) ∧ mis x < 2 ^ 31 := by
  obtain ⟨j, hj, e⟩ := nI_of h
  subst e
  show nI j = nI (nI j).toNatClampNeg ∧ (nI j).toNatClampNeg < 2 ^ 31
  rw [nI_clamp hj]; exact ⟨rfl, hj⟩
theorem mis_0 {x : Int32} (h : x ≤ 0) : mis x = 0 := by
  show x.toInt.toNat = 0
  have : x.toInt ≤ 0 := by simpa using Int32.le_iff_toInt_le.mp h
  omega
theorem mis_pos {x : Int32} (h : ¬ x ≤ 0) : ¬ x < 0 := Int32.not_lt.mpr (Int32.le_of_lt (Int32.not_le.mp h))
/-- penalties, at most c of them: what is left of the missing -/
def payA (t : Nat) : Nat → Sta → Sta × Nat
  | 0, A => (A, 0)
  | c + 1, A => if sG A 4 ≤ fT A t 4 then payA t c (wG (wF A t 4 (fT A t 4 - sG A 4)) 6 (sG A 6 + sG A 4)) else (A, c + 1)
theorem payA_y {t c : Nat} {A : Sta} (h : sG A 4 ≤ fT A t 4) : payA t (c + 1) A = payA t c (wG (wF A t 4 (fT A t 4 - sG A 4)) 6 (sG A 6 + sG A 4)) := if_pos h
theorem payA_n {t c : Nat} {A : Sta} (h : ¬ sG A 4 ≤ fT A t 4) : payA t (c + 1) A = (A, c + 1) := if_neg h
theorem payA_1 (t : Nat) : ∀ (c : Nat) (A : Sta), (payA t c A).1.1 = A.1 ∧ (payA t c A).2 ≤ c
  | 0, A => ⟨rfl, Nat.le_refl _⟩
  | c + 1, A => by
    by_cases h : sG A 4 ≤ fT A t 4
    · rw [payA_y h]; exact ⟨(payA_1 t c _).1, Nat.le_succ_of_le (payA_1 t c _).2⟩
    · rw [payA_n h]; exact ⟨rfl, Nat.le_refl _⟩
/-- first the credits; then the orders are withdrawn, and again -/
def col1 (A : Sta) (t : Nat) (d : Int32) : Sta × Int32 := if 0 < d - tkT (sT A t).1 d then (takeA (remE (gvAll (takeA A t d) t (sO A).length)) t (d - tkT (sT A t).1 d), d - tkT (sT A t).1 d - tkT (sT (remE (gvAll (takeA A t d) t (sO A).length)) t).1 (d - tkT (sT A t).1 d)) else (takeA A t d, d - tkT (sT A t).1 d)
def col2 (A : Sta) (t : Nat) (m : Int32) : Sta := if (payA t (mis m) A).2 = 0 then (payA t (mis m) A).1 else wF (payA t (mis m) A).1 t 6 (nI (sTi A) + 2 * nI (sTm A))
def colA (A : Sta) (t : Nat) (d : Int32) : Sta := col2 (col1 A t d).1 t (col1 A t d).2
theorem col1_1 (A : Sta) (t : Nat) (d : Int32) : (col1 A t d).1.1 = A.1 := by
  unfold col1
  split
  · show (gvAll (takeA A t d) t (sO A).length).1 = A.1
    have : ∀ i, (gvAll (takeA A t d) t i).1 = A.1 := by
      intro i
      induction i with
      | zero => rfl
      | succ i ih =>
        unfold gvAll
        split
        · have e : ∀ B j, (giveA B j).1 = B.1 := by intro B j; show (giveT B j).1 = B.1; unfold giveT; split; rfl; split <;> rfl
          rw [e]; exact ih
        · exact ih
    exact this _
  · rfl
set_option maxHeartbeats 4000000 in
set_option maxRecDepth 100000 in
theorem lp_X4_collect {q t : Nat} {l : Lt} {h0 : PH} {x2 : Option Value} {n T U : Nat} (ht : t < n) : ∀ (m : Nat) (c : Nat) (h : PH) (A : Sta), c < m → (RepC h q l A) → (c < 2 ^ 31) → (Fr (fun x => x = q) h0 h) → (A.1 = (n, T, U)) → (∀ h', RepC h' q l (if (payA t c A).2 = 0 then (payA t c A).1 else wF (payA t c A).1 t 6 (nI T + 2 * nI U)) → Fr (fun x => x = q) h0 h' → Q (.inl none) h') → WPx E mX4_collect 41 [some (.ref q), some (.int (nI t)), x2, some (.ref (lT l t)), some (.int (nI c)), some (.int (nI c))] [] (0, 0) h Q := by
  intro m
  induction m with
  | zero => intro c h A hm; exact absurd hm (Nat.not_lt_zero _)
  | succ m ih =>
    intro c h A hm hR hc hF e1 k
    have hR2 := hR
    have en : sN A = n := congrArg (·.1) e1
    have eT : sTi A = T := congrArg (·.2.1) e1
    have eU : sTm A = U := congrArg (·.2.2) e1
    obtain ⟨hL, hN, hT, hO⟩ := hR
    obtain ⟨⟨kq, tq⟩, ⟨rT, kT, tT⟩, ⟨rO, kO, tO⟩, hLT, hLO, hinj⟩ := hL
    obtain ⟨⟨n2, n6⟩, ⟨n3, n12⟩, n4, n5, n6', n7, n8, n9, n10, n11⟩ := hN
    obtain ⟨a1, ⟨a2, a3⟩, ⟨a4, a5, a6⟩, a7, a8, a9⟩ := hLT t (by omega)
    have e4 := hR2.tF (t := t) (by omega) (k := 4) (by decide)
    have ne2 : q ≠ lT l t := ne_tg tq a3 (by simp)
    refine wp_iload (M := mX4_collect) (pc := 41) dX4_collect_41 rfl ?_
    refine wp_if_le (M := mX4_collect) (pc := 43) (tgt := 92) dX4_collect_43 rfl (fun t43 => ?_) (fun f43 => ?_)
    · have hc0 : c = 0 := by
        rcases Nat.eq_zero_or_pos c with q9 | q9
        · exact q9
        · exact absurd t43 (nI_nle q9 hc)
      subst hc0
      have k2 := k h (by rw [show payA t 0 A = (A, 0) from rfl]; exact hR2) hF
      refine wp_iload (M := mX4_collect) (pc := 92) dX4_collect_92 rfl ?_
      refine wp_if_le (M := mX4_collect) (pc := 94) (tgt := 112) dX4_collect_94 rfl (fun t94 => ?_) (fun f94 => ?_)
      · skip
        refine wp_return (M := mX4_collect) (pc := 112) rfl dX4_collect_112 ?_
        first
        | exact k2
        | exact absurd (by decide) f94
        | exact absurd t94 (nI_nle (by omega) hc)
        | (rw [n8, n6', eT, eU]
           exact k _ (hR2.sF (t := t) (by omega) (k := 6) (by decide) _) (hF.tr (Fr.si (hR2.ownT (by omega)))))
        | fail "leaf"
      · skip
        refine wp_aload_n (M := mX4_collect) (pc := 97) dX4_collect_97 rfl ?_
        refine wp_aload_n (M := mX4_collect) (pc := 98) dX4_collect_98 rfl ?_
        refine wp_getI (M := mX4_collect) (pc := 99) fa_X4_44 rfl dX4_collect_99 (by first | exact kq | exact a2) ?_
        refine wp_iconst (M := mX4_collect) (pc := 102) (v := 2) dX4_collect_102 ci_2 ?_
        refine wp_aload_n (M := mX4_collect) (pc := 103) dX4_collect_103 rfl ?_
        refine wp_getI (M := mX4_collect) (pc := 104) fa_X4_32 rfl dX4_collect_104 (by first | exact kq | exact a2) ?_
        refine wp_imul (M := mX4_collect) (pc := 107) dX4_collect_107 ?_
        refine wp_iadd (M := mX4_collect) (pc := 108) dX4_collect_108 ?_
        refine wp_putI (M := mX4_collect) (pc := 109) fa_X4_79 (Or.inl rfl) dX4_collect_109 (by first | exact kq | exact a2) ?_
        refine wp_return (M := mX4_collect) (pc := 112) rfl dX4_collect_112 ?_
        first
        | exact k2
        | exact absurd (by decide) f94
        | exact absurd t94 (nI_nle (by omega) hc)
        | (rw [n8, n6', eT, eU]
           exact k _ (hR2.sF (t := t) (by omega) (k := 6) (by decide) _) (hF.tr (Fr.si (hR2.ownT (by omega)))))
        | fail "leaf"
    · obtain ⟨c', hc'⟩ : ∃ c', c = c' + 1 := by
        rcases Nat.eq_zero_or_pos c with q9 | q9
        · exact absurd (by rw [q9]; decide) f43
        · exact ⟨c - 1, by omega⟩
      subst hc' 
      refine wp_aload_n (M := mX4_collect) (pc := 46) dX4_collect_46 rfl ?_
      refine wp_getI (M := mX4_collect) (pc := 47) fa_X4_98 rfl dX4_collect_47 (by first | exact kq | exact a2) ?_
      refine wp_aload_n (M := mX4_collect) (pc := 50) dX4_collect_50 rfl ?_
      refine wp_getI (M := mX4_collect) (pc := 51) fa_X4_35 rfl dX4_collect_51 (by first | exact kq | exact a2) ?_
      refine wp_icmp_lt (M := mX4_collect) (pc := 54) (tgt := 92) dX4_collect_54 rfl (fun t54 => ?_) (fun f54 => ?_)
      · rw [e4, n7] at t54
        rw [payA_n (Int32.not_le.mpr t54), if_neg (Nat.succ_ne_zero _)] at k
        refine wp_iload (M := mX4_collect) (pc := 92) dX4_collect_92 rfl ?_
        refine wp_if_le (M := mX4_collect) (pc := 94) (tgt := 112) dX4_collect_94 rfl (fun t94 => ?_) (fun f94 => ?_)
        · skip
          refine wp_return (M := mX4_collect) (pc := 112) rfl dX4_collect_112 ?_
          first
          | exact k2
          | exact absurd (by decide) f94
          | exact absurd t94 (nI_nle (by omega) hc)
          | (rw [n8, n6', eT, eU]
             exact k _ (hR2.sF (t := t) (by omega) (k := 6) (by decide) _) (hF.tr (Fr.si (hR2.ownT (by omega)))))
          | fail "leaf"
        · skip
          refine wp_aload_n (M := mX4_collect) (pc := 97) dX4_collect_97 rfl ?_
          refine wp_aload_n (M := mX4_collect) (pc := 98) dX4_collect_98 rfl ?_
          refine wp_getI (M := mX4_collect) (pc := 99) fa_X4_44 rfl dX4_collect_99 (by first | exact kq | exact a2) ?_
          refine wp_iconst (M := mX4_collect) (pc := 102) (v := 2) dX4_collect_102 ci_2 ?_
          refine wp_aload_n (M := mX4_collect) (pc := 103) dX4_collect_103 rfl ?_
          refine wp_getI (M := mX4_collect) (pc := 104) fa_X4_32 rfl dX4_collect_104 (by first | exact kq | exact a2) ?_
          refine wp_imul (M := mX4_collect) (pc := 107) dX4_collect_107 ?_
          refine wp_iadd (M := mX4_collect) (pc := 108) dX4_collect_108 ?_
          refine wp_putI (M := mX4_collect) (pc := 109) fa_X4_79 (Or.inl rfl) dX4_collect_109 (by first | exact kq | exact a2) ?_
          refine wp_return (M := mX4_collect) (pc := 112) rfl dX4_collect_112 ?_
          first
          | exact k2
          | exact absurd (by decide) f94
          | exact absurd t94 (nI_nle (by omega) hc)
          | (rw [n8, n6', eT, eU]
             exact k _ (hR2.sF (t := t) (by omega) (k := 6) (by decide) _) (hF.tr (Fr.si (hR2.ownT (by omega)))))
          | fail "leaf"
      · rw [e4, n7] at f54
        rw [payA_y (Int32.not_lt.mp f54)] at k
        refine wp_aload_n (M := mX4_collect) (pc := 57) dX4_collect_57 rfl ?_
        refine wp_dup (M := mX4_collect) (pc := 58) dX4_collect_58 rfl ?_
        refine wp_getI (M := mX4_collect) (pc := 59) fa_X4_98 rfl dX4_collect_59 (by first | exact kq | exact a2) ?_
        refine wp_aload_n (M := mX4_collect) (pc := 62) dX4_collect_62 rfl ?_
        refine wp_getI (M := mX4_collect) (pc := 63) fa_X4_35 rfl dX4_collect_63 (by first | exact kq | exact a2) ?_
        refine wp_isub (M := mX4_collect) (pc := 66) dX4_collect_66 ?_
        refine wp_putI (M := mX4_collect) (pc := 67) fa_X4_98 (Or.inl rfl) dX4_collect_67 (by first | exact kq | exact a2) ?_
        refine wp_aload_n (M := mX4_collect) (pc := 70) dX4_collect_70 rfl ?_
        refine wp_dup (M := mX4_collect) (pc := 71) dX4_collect_71 rfl ?_
        refine wp_getI (M := mX4_collect) (pc := 72) fa_X4_47 rfl dX4_collect_72 (by first | exact kq | exact a2) ?_
        refine wp_aload_n (M := mX4_collect) (pc := 75) dX4_collect_75 rfl ?_
        refine wp_getI (M := mX4_collect) (pc := 76) fa_X4_35 rfl dX4_collect_76 (by first | exact kq | exact a2) ?_
        refine wp_iadd (M := mX4_collect) (pc := 79) dX4_collect_79 ?_
        refine wp_putI (M := mX4_collect) (pc := 80) fa_X4_47 (Or.inl rfl) dX4_collect_80 (by first | exact kq | exact a2) ?_
        refine so_iinc (M := mX4_collect) (pc := 83) (lo' := [_, _, _, _, _, _]) dX4_collect_83 rfl ci_m1 (LE rfl) rfl ?_
        refine so_iinc (M := mX4_collect) (pc := 86) (lo' := [_, _, _, _, _, _]) dX4_collect_86 rfl ci_m1 (LE rfl) rfl ?_
        refine wp_goto (M := mX4_collect) (pc := 89) (tgt := 41) dX4_collect_89 rfl ?_
        have H1 := (hR2.sF (t := t) (by omega) (k := 4) (by decide) (fT A t 4 - sG A 4)).sHouse (sG A 6 + sG A 4)
        simp only [gi_si_ne _ _ _ ne2]
        rw [e4, n7, n9, show nI (c' + 1) + -1 = nI c' from pk_m1 c']
        exact ih c' _ _ (by omega) H1 (by omega) (hF.tr ((Fr.si (hR2.ownT (by omega))).tr (Fr.si hR2.ownS))) e1 k
theorem cl_X4_collect {q t : Nat} {l : Lt} {A : Sta} {m : Int32} {x2 x5 : Option Value} {h0 : PH} (hR : RepC h q l A) (ht : t < sN A) (hF : Fr (fun x => x = q) h0 h) (k : ∀ h', RepC h' q l (col2 A t m) → Fr (fun x => x = q) h0 h' → Q (.inl none) h') : WPx E mX4_collect 37 [some (.ref q), some (.int (nI t)), x2, some (.ref (lT l t)), some (.int m), x5] [] (0, 0) h Q := by
  refine wp_iload (M := mX4_collect) (pc := 37) dX4_collect_37 rfl ?_
  refine so_istore (M := mX4_collect) (pc := 39) (lo' := [_, _, _, _, _, _]) dX4_collect_39 (LE rfl) (LE rfl) (Or.inr rfl) rfl ?_
  by_cases hm : m ≤ 0
  · have e0 := mis_0 hm
    have k2 := k h (by unfold col2; rw [e0]; exact hR) hF
    refine wp_iload (M := mX4_collect) (pc := 41) dX4_collect_41 rfl ?_
    refine wp_if_le (M := mX4_collect) (pc := 43) (tgt := 92) dX4_collect_43 rfl (fun _ => ?_) (fun c => absurd hm c)
    refine wp_iload (M := mX4_collect) (pc := 92) dX4_collect_92 rfl ?_
    refine wp_if_le (M := mX4_collect) (pc := 94) (tgt := 112) dX4_collect_94 rfl (fun _ => ?_) (fun c => absurd hm c)
    exact wp_return (M := mX4_collect) (pc := 112) rfl dX4_collect_112 k2
  · obtain ⟨em, hb⟩ := mis_nI (mis_pos hm)
    have k2 : ∀ h', RepC h' q l (if (payA t (mis m) A).2 = 0 then (payA t (mis m) A).1 else wF (payA t (mis m) A).1 t 6 (nI (sTi A) + 2 * nI (sTm A))) → Fr (fun x => x = q) h0 h' → Q (.inl none) h' := k
    generalize mis m = c at em hb k2
    subst em
    exact lp_X4_collect ht (c + 1) c h A (by omega) hR hb hF rfl k2
set_option maxHeartbeats 4000000 in
set_option maxRecDepth 100000 in
theorem sp_X4_collect {q : Nat} {l : Lt} {A : Sta} {t : Nat} {d : Int32} (hR : RepC h q l A) (ht : t < sN A) (k : ∀ h' l', sameL l l' → RepC h' q l' (colA A t d) → Fr (fun x => x = q) h h' → Q (.inl none) h') : WPx E mX4_collect 0 [some (.ref q), some (.int (nI t)), some (.int d), none, none, none] [] (0, 0) h Q := by
  have hR2 := hR
  obtain ⟨hL, hN, hT, hO⟩ := hR
  obtain ⟨⟨kq, tq⟩, ⟨rT, kT, tT⟩, ⟨rO, kO, tO⟩, hLT, hLO, hinj⟩ := hL
  obtain ⟨⟨n2, n6⟩, ⟨n3, n12⟩, n4, n5, n6', n7, n8, n9, n10, n11⟩ := hN
  obtain ⟨a1, ⟨a2, a3⟩, ⟨a4, a5, a6⟩, a7, a8, a9⟩ := hLT t (by omega)
  have et := tkT_7 (hT t ht).1 d
  have H1 := hR2.take ht d
  refine wp_aload_n (M := mX4_collect) (pc := 0) dX4_collect_0 rfl ?_
  refine wp_getR (M := mX4_collect) (pc := 1) fa_X4_11 rfl dX4_collect_1 (by first | exact kq | exact a2 | exact kT) (by first | exact rT | exact a1) ?_
  refine wp_iload_n (M := mX4_collect) (pc := 4) dX4_collect_4 rfl ?_
  refine wr_aaload (M := mX4_collect) (pc := 5) dX4_collect_5 (by first | exact kq | exact a2 | exact kT) (by decide) rfl (by omega) (by decide) (by first | exact rT | exact a1) ?_
  refine so_astore_n (M := mX4_collect) (pc := 6) (lo' := [_, _, _, _, _, _]) dX4_collect_6 (LE rfl) (LE rfl) (Or.inr rfl) rfl ?_
  refine wp_iload_n (M := mX4_collect) (pc := 7) dX4_collect_7 rfl ?_
  refine wp_aload_n (M := mX4_collect) (pc := 8) dX4_collect_8 rfl ?_
  refine wp_iload_n (M := mX4_collect) (pc := 9) dX4_collect_9 rfl ?_
  refine so_V1 (M := mX4_collect) (pc := 10) cs_X4_collect_136 rfl rfl (LE rfl) (LE rfl) dX4_collect_10 (by first | exact kq | exact a2 | exact kT) ?_
  refine sp_X5_takeUpTo a2 ?_
  refine kI ?_
  refine wp_isub (M := mX4_collect) (pc := 13) dX4_collect_13 ?_
  refine so_istore (M := mX4_collect) (pc := 14) (lo' := [_, _, _, _, _, _]) dX4_collect_14 (LE rfl) (LE rfl) (Or.inr rfl) rfl ?_
  refine wp_iload (M := mX4_collect) (pc := 16) dX4_collect_16 rfl ?_
  refine wp_if_le (M := mX4_collect) (pc := 18) (tgt := 37) dX4_collect_18 rfl (fun t18 => ?_) (fun f18 => ?_)
  · rw [et] at t18 ⊢
    have hneg : ¬ 0 < d - tkT (sT A t).1 d := Int32.not_lt.mpr t18
    first
    | (have e9 : col1 A t d = (takeA A t d, d - tkT (sT A t).1 d) := by rw [col1, if_neg hneg]
       exact cl_X4_collect (h0 := h) H1 ht (Fr.sw (hR2.ownT (by omega))) (fun h' a b => k h' l sameL.rf (by rw [colA, e9]; exact a) b))
    | (have e9 : col1 A t d = (takeA (remE (gvAll (takeA A t d) t (sO A).length)) t (d - tkT (sT A t).1 d), d - tkT (sT A t).1 d - tkT (sT (remE (gvAll (takeA A t d) t (sO A).length)) t).1 (d - tkT (sT A t).1 d)) := by rw [col1, if_pos hpos]
       rw [et2, ← el]
       rw [← el] at H3
       exact cl_X4_collect (h0 := h) H3 hn2 (((Fr.sw (hR2.ownT (by omega))).tr F2).tr (Fr.sw (R2.ownT (by omega)))) (fun h' a b => k h' l2 e2 (by rw [colA, e9]; exact a) b))
    | fail "leaf"
  · rw [et] at f18 ⊢
    have hpos : 0 < d - tkT (sT A t).1 d := Int32.not_le.mp f18
    refine wp_aload_n (M := mX4_collect) (pc := 21) dX4_collect_21 rfl ?_
    refine wp_iload_n (M := mX4_collect) (pc := 22) dX4_collect_22 rfl ?_
    refine so_V1 (M := mX4_collect) (pc := 23) cs_X4_collect_221 rfl rfl (LE rfl) (LE rfl) dX4_collect_23 (by first | exact kq | exact a2 | exact kT) ?_
    refine sp_X4_withdrawAllOf H1 (by omega) (fun h2 l2 e2 R2 F2 => ?_)
    refine kV ?_
    refine wp_iload (M := mX4_collect) (pc := 26) dX4_collect_26 rfl ?_
    refine wp_aload_n (M := mX4_collect) (pc := 28) dX4_collect_28 rfl ?_
    refine wp_iload (M := mX4_collect) (pc := 29) dX4_collect_29 rfl ?_
    have el : lT l2 t = lT l t := by rw [e2.2.2.1]
    have hn2 : t < sN (remE (gvAll (takeA A t d) t (sO A).length)) := by show t < sN (gvAll _ _ _); rw [gvAll_N]; exact ht
    have w2 : kd h2 (lT l t) = some (.inl 5) := by rw [← el]; exact (R2.1.2.2.2.1 t (by omega)).2.1.1
    have et2 := tkT_7 (R2.2.2.1 t hn2).1 (d - tkT (sT A t).1 d)
    have H3 := R2.take hn2 (d - tkT (sT A t).1 d)
    rw [el] at et2 H3
    refine so_V1 (M := mX4_collect) (pc := 31) cs_X4_collect_136 rfl rfl (LE rfl) (LE rfl) dX4_collect_31 w2 ?_
    refine sp_X5_takeUpTo w2 ?_
    refine kI ?_
    refine wp_isub (M := mX4_collect) (pc := 34) dX4_collect_34 ?_
    refine so_istore (M := mX4_collect) (pc := 35) (lo' := [_, _, _, _, _, _]) dX4_collect_35 (LE rfl) (LE rfl) (Or.inr rfl) rfl ?_
    first
    | (have e9 : col1 A t d = (takeA A t d, d - tkT (sT A t).1 d) := by rw [col1, if_neg hneg]
       exact cl_X4_collect (h0 := h) H1 ht (Fr.sw (hR2.ownT (by omega))) (fun h' a b => k h' l sameL.rf (by rw [colA, e9]; exact a) b))
    | (have e9 : col1 A t d = (takeA (remE (gvAll (takeA A t d) t (sO A).length)) t (d - tkT (sT A t).1 d), d - tkT (sT A t).1 d - tkT (sT (remE (gvAll (takeA A t d) t (sO A).length)) t).1 (d - tkT (sT A t).1 d)) := by rw [col1, if_pos hpos]
       rw [et2, ← el]
       rw [← el] at H3
       exact cl_X4_collect (h0 := h) H3 hn2 (((Fr.sw (hR2.ownT (by omega))).tr F2).tr (Fr.sw (R2.ownT (by omega)))) (fun h' a b => k h' l2 e2 (by rw [colA, e9]; exact a) b))
    | fail "leaf"
end SP
