section SP
variable {E : Ev} {h : PH} {Q : Rt → PH → Prop}
def stlT (A : Sta) (i : Nat) (f p : Int32) : Sta := if (oA A i).2.1 = 0 then wF (wF A (oA A i).1 3 (fT A (oA A i).1 3 + f)) (oA A i).1 4 (fT A (oA A i).1 4 + ((oA A i).2.2.1 - p) * f) else wF A (oA A i).1 4 (fT A (oA A i).1 4 + p * f)
def addD (A : Sta) (t : Nat) (f : Int32) : Sta := wT A t ((sT A t).1, (sT A t).2.1, (sT A t).2.2 ++ [(f, sTi A + sTm A)])
def stlD (A : Sta) (i : Nat) (f p : Int32) : Sta := if (oA A i).2.1 = 2 ∧ 0 < f then addD (stlT A i f p) (oA A i).1 f else stlT A i f p
def stlA (A : Sta) (i : Nat) (f p : Int32) : Sta := wQ (stlD A i f p) i ((oA A i).2.2.2 - f)
theorem stlT_O (A : Sta) (i : Nat) (f p : Int32) : sO (stlT A i f p) = sO A ∧ (stlT A i f p).1 = A.1 := by unfold stlT; split <;> exact ⟨rfl, rfl⟩
theorem stlD_O (A : Sta) (i : Nat) (f p : Int32) : sO (stlD A i f p) = sO A ∧ (stlD A i f p).1 = A.1 := by unfold stlD; split <;> exact stlT_O A i f p
theorem stlA_1 (A : Sta) (i : Nat) (f p : Int32) : (stlA A i f p).1 = A.1 := (stlD_O A i f p).2
theorem stlA_len (A : Sta) (i : Nat) (f p : Int32) : (sO (stlA A i f p)).length = (sO A).length := by
  show ((sO (stlD A i f p)).set i _).length = _
  rw [List.length_set, (stlD_O A i f p).1]
/-- a debt more -/
theorem RepC.owe {h : PH} {q : Nat} {l : Lt} {A : Sta} (H : RepC h q l A) {t : Nat} (ht : t < sN A) {f : Int32} (hf : ¬ f < 0) : RepC (si h (lW l t) ((sTi A + sTm A) % 51) (gi h (lW l t) ((sTi A + sTm A) % 51) + f)) q l (if 0 < f then addD A t f else A) := by
  have h51 : (sTi A + sTm A) % 51 < 51 := Nat.mod_lt _ (by decide)
  have e := (H.2.2.1 t ht).2.2.2.2 _ h51
  rw [e]
  by_cases p : 0 < f
  · rw [if_pos p]
    refine H.sOwe ht (fun j hj => ?_)
    rw [ring_app]
    by_cases q9 : j = (sTi A + sTm A) % 51
    · subst q9; rw [upd_at, if_pos rfl]
    · rw [upd_ne _ _ q9, if_neg (fun e => q9 e.symm), Int32.add_zero]
  · rw [if_neg p]
    have f0 : f = 0 := Int32.le_antisymm (Int32.not_lt.mp p) (Int32.not_lt.mp hf)
    rw [f0, Int32.add_zero, ← e]
    have e2 : si h (lW l t) ((sTi A + sTm A) % 51) (gi h (lW l t) ((sTi A + sTm A) % 51)) = h := by
      rw [si_is]
      have : upd (gi h (lW l t)) ((sTi A + sTm A) % 51) (gi h (lW l t) ((sTi A + sTm A) % 51)) = gi h (lW l t) := by
        funext j
        by_cases q9 : j = (sTi A + sTm A) % 51
        · subst q9; rw [upd_at]
        · rw [upd_ne _ _ q9]
      rw [this, sw_self]
    rw [e2]; exact H
set_option maxHeartbeats 4000000 in
set_option maxRecDepth 100000 in
theorem sp_X4_settleOrder {q : Nat} {l : Lt} {A : Sta} {i : Nat} {f p : Int32} (hR : RepC h q l A) (hi : i < (sO A).length) (hf : ¬ f < 0) (hti : sTi A + sTm A < 2 ^ 31) (k : ∀ h', RepC h' q l (stlA A i f p) → Fr (fun x => x = q) h h' → Q (.inl none) h') : WPx E mX4_settleOrder 0 [some (.ref q), some (.ref (lO l i)), some (.int f), some (.int p), none] [] (0, 0) h Q := by
  have hR2 := hR
  obtain ⟨hL, hN, hT, hO⟩ := hR
  obtain ⟨⟨kq, tq⟩, ⟨rT, kT, tT⟩, ⟨rO, kO, tO⟩, hLT, hLO, hinj⟩ := hL
  obtain ⟨⟨n2, n6⟩, ⟨n3, n12⟩, n4, n5, n6', n7, n8, n9, n10, n11⟩ := hN
  obtain ⟨b1, b2, j9, b3⟩ := hLO i (by omega)
  obtain ⟨⟨o0, o1, o2, o3⟩, o4, o5⟩ := hO i hi
  obtain ⟨a1, ⟨a2, a3⟩, ⟨a4, a5, a6⟩, a7, a8, a9⟩ := hLT _ (Nat.lt_of_lt_of_le o4 n6)
  have e4 := hR2.tF o4 (k := 4) (by decide)
  have e3 := hR2.tF o4 (k := 3) (by decide)
  have ne1 : lO l i ≠ lT l (oA A i).1 := ne_tg b3 a3 (by simp)
  have ne2 : q ≠ lT l (oA A i).1 := ne_tg tq a3 (by simp)
  have ne3 : lO l i ≠ lW l (oA A i).1 := ne_tg b3 a9 (by simp)
  have h6 : (oA A i).1 < 6 := Nat.lt_of_lt_of_le o4 n6
  refine wp_aload_n (M := mX4_settleOrder) (pc := 0) dX4_settleOrder_0 rfl ?_
  refine wp_getR (M := mX4_settleOrder) (pc := 1) fa_X4_11 rfl dX4_settleOrder_1 (by first | exact kq | exact b2 | exact a2 | exact kT) (by first | exact rT | exact a1) ?_
  refine wp_aload_n (M := mX4_settleOrder) (pc := 4) dX4_settleOrder_4 rfl ?_
  refine wp_getI (M := mX4_settleOrder) (pc := 5) fa_X4_64 rfl dX4_settleOrder_5 (by first | exact kq | exact b2 | exact a2 | exact kT) ?_
  refine wr_aaload (M := mX4_settleOrder) (pc := 8) dX4_settleOrder_8 (by first | exact kq | exact b2 | exact a2 | exact kT) (by decide) o0 h6 (by decide) (by first | exact rT | exact a1) ?_
  refine so_astore (M := mX4_settleOrder) (pc := 9) (lo' := [_, _, _, _, _]) dX4_settleOrder_9 (LE rfl) (LE rfl) (Or.inr rfl) rfl ?_
  refine wp_aload_n (M := mX4_settleOrder) (pc := 11) dX4_settleOrder_11 rfl ?_
  refine wp_getI (M := mX4_settleOrder) (pc := 12) fa_X4_67 rfl dX4_settleOrder_12 (by first | exact kq | exact b2 | exact a2 | exact kT) ?_
  refine wp_if_ne (M := mX4_settleOrder) (pc := 15) (tgt := 50) dX4_settleOrder_15 rfl (fun t15 => ?_) (fun f15 => ?_)
  · have hk0 : ¬ (oA A i).2.1 = 0 := fun q9 => t15 (by rw [o1]; show nI (oA A i).2.1 = 0; rw [q9]; rfl)
    refine wp_aload (M := mX4_settleOrder) (pc := 50) dX4_settleOrder_50 rfl ?_
    refine wp_dup (M := mX4_settleOrder) (pc := 52) dX4_settleOrder_52 rfl ?_
    refine wp_getI (M := mX4_settleOrder) (pc := 53) fa_X4_98 rfl dX4_settleOrder_53 (by first | exact kq | exact b2 | exact a2 | exact kT) ?_
    refine wp_iload_n (M := mX4_settleOrder) (pc := 56) dX4_settleOrder_56 rfl ?_
    refine wp_iload_n (M := mX4_settleOrder) (pc := 57) dX4_settleOrder_57 rfl ?_
    refine wp_imul (M := mX4_settleOrder) (pc := 58) dX4_settleOrder_58 ?_
    refine wp_iadd (M := mX4_settleOrder) (pc := 59) dX4_settleOrder_59 ?_
    refine wp_putI (M := mX4_settleOrder) (pc := 60) fa_X4_98 (Or.inl rfl) dX4_settleOrder_60 (by first | exact kq | exact b2 | exact a2 | exact kT) ?_
    refine wp_aload_n (M := mX4_settleOrder) (pc := 63) dX4_settleOrder_63 rfl ?_
    refine wp_getI (M := mX4_settleOrder) (pc := 64) fa_X4_67 rfl dX4_settleOrder_64 (by first | exact kq | exact b2 | exact a2 | exact kT) ?_
    refine wp_iconst (M := mX4_settleOrder) (pc := 67) (v := 2) dX4_settleOrder_67 ci_2 ?_
    refine wp_icmp_ne (M := mX4_settleOrder) (pc := 68) (tgt := 86) dX4_settleOrder_68 rfl (fun t68 => ?_) (fun f68 => ?_)
    · simp only [gi_si_ne _ _ _ ne1] at t68
      have hk2 : ¬ (oA A i).2.1 = 2 := fun q9 => t68 (by rw [o1]; show nI (oA A i).2.1 = 2; rw [q9]; rfl)
      refine wp_aload_n (M := mX4_settleOrder) (pc := 86) dX4_settleOrder_86 rfl ?_
      refine wp_dup (M := mX4_settleOrder) (pc := 87) dX4_settleOrder_87 rfl ?_
      refine wp_getI (M := mX4_settleOrder) (pc := 88) fa_X4_73 rfl dX4_settleOrder_88 (by first | exact kq | exact b2 | exact a2 | exact kT) ?_
      refine wp_iload_n (M := mX4_settleOrder) (pc := 91) dX4_settleOrder_91 rfl ?_
      refine wp_isub (M := mX4_settleOrder) (pc := 92) dX4_settleOrder_92 ?_
      refine wp_putI (M := mX4_settleOrder) (pc := 93) fa_X4_73 (Or.inl rfl) dX4_settleOrder_93 (by first | exact kq | exact b2 | exact a2 | exact kT) ?_
      refine wp_return (M := mX4_settleOrder) (pc := 96) rfl dX4_settleOrder_96 ?_
      first
      | exact absurd (hk0.symm.trans hk2) (by decide)
      | (have e9 : stlT A i f p = wF A (oA A i).1 4 (fT A (oA A i).1 4 + p * f) := by rw [stlT, if_neg hk0]
         have e8 : stlD A i f p = if 0 < f then addD (stlT A i f p) (oA A i).1 f else stlT A i f p := by
           unfold stlD
           by_cases q9 : 0 < f
           · rw [if_pos ⟨hk2, q9⟩, if_pos q9]
           · rw [if_neg (fun c => q9 c.2), if_neg q9]
         have H1 := hR2.sF o4 (k := 4) (by decide) (fT A (oA A i).1 4 + p * f)
         have H2 := H1.owe o4 hf
         simp only [gi_si_ne _ _ _ ne3, gi_si_ne _ _ _ ne1]
         rw [o3, e4]
         exact k _ (by rw [stlA, e8, e9]; exact H2.sQty (by split <;> exact hi) _) ((Fr.si (hR2.ownT h6)).tr ((Fr.si (H1.ownW h6)).tr (Fr.si (hR2.ownO (by omega))))))
      | (simp only [gi_si_ne _ _ _ ne1]
         have e9 : stlT A i f p = wF A (oA A i).1 4 (fT A (oA A i).1 4 + p * f) := by rw [stlT, if_neg hk0]
         have e8 : stlD A i f p = stlT A i f p := by unfold stlD; rw [if_neg (fun c => hk2 c.1)]
         have H1 := hR2.sF o4 (k := 4) (by decide) (fT A (oA A i).1 4 + p * f)
         rw [e4, o3]
         exact k _ (by rw [stlA, e8, e9]; exact H1.sQty hi _) ((Fr.si (hR2.ownT h6)).tr (Fr.si (hR2.ownO (by omega)))))
      | (simp only [gi_si_ne _ _ _ ne1]
         have e9 : stlT A i f p = wF (wF A (oA A i).1 3 (fT A (oA A i).1 3 + f)) (oA A i).1 4 (fT A (oA A i).1 4 + ((oA A i).2.2.1 - p) * f) := by rw [stlT, if_pos hk0]
         have e8 : stlD A i f p = stlT A i f p := by unfold stlD; rw [if_neg (fun c => hk2 c.1)]
         have H1 := hR2.sF o4 (k := 3) (by decide) (fT A (oA A i).1 3 + f)
         have H2 := H1.sF o4 (k := 4) (by decide) (fT A (oA A i).1 4 + ((oA A i).2.2.1 - p) * f)
         rw [e3, gi_si_at, upd_ne _ _ (by decide), e4, o2, o3]
         exact k _ (by rw [stlA, e8, e9]; exact H2.sQty hi _) ((Fr.si (hR2.ownT h6)).tr ((Fr.si (hR2.ownT h6)).tr (Fr.si (hR2.ownO (by omega))))))
      | fail "leaf"
    · simp only [gi_si_ne _ _ _ ne1] at f68
      have hk2 : (oA A i).2.1 = 2 := (i_eq (b := 2) (Nat.lt_trans o5 (by decide)) (by decide)).mp (o1.symm.trans f68)
      refine wp_aload (M := mX4_settleOrder) (pc := 71) dX4_settleOrder_71 rfl ?_
      refine wp_iload_n (M := mX4_settleOrder) (pc := 73) dX4_settleOrder_73 rfl ?_
      refine wp_aload_n (M := mX4_settleOrder) (pc := 74) dX4_settleOrder_74 rfl ?_
      refine wp_getI (M := mX4_settleOrder) (pc := 75) fa_X4_44 rfl dX4_settleOrder_75 (by first | exact kq | exact b2 | exact a2 | exact kT) ?_
      refine wp_aload_n (M := mX4_settleOrder) (pc := 78) dX4_settleOrder_78 rfl ?_
      refine wp_getI (M := mX4_settleOrder) (pc := 79) fa_X4_32 rfl dX4_settleOrder_79 (by first | exact kq | exact b2 | exact a2 | exact kT) ?_
      refine wp_iadd (M := mX4_settleOrder) (pc := 82) dX4_settleOrder_82 ?_
      simp only [gi_si_ne _ _ _ ne2, n8, n6', nI_add]
      refine so_V2 (M := mX4_settleOrder) (pc := 83) cs_X4_settleOrder_214 rfl rfl (LE rfl) (LE rfl) dX4_settleOrder_83 (by first | exact kq | exact b2 | exact a2 | exact kT) ?_
      refine sp_X5_owe a2 a7 a8 hti ?_
      refine kV ?_
      refine wp_aload_n (M := mX4_settleOrder) (pc := 86) dX4_settleOrder_86 rfl ?_
      refine wp_dup (M := mX4_settleOrder) (pc := 87) dX4_settleOrder_87 rfl ?_
      refine wp_getI (M := mX4_settleOrder) (pc := 88) fa_X4_73 rfl dX4_settleOrder_88 (by first | exact kq | exact b2 | exact a2 | exact kT) ?_
      refine wp_iload_n (M := mX4_settleOrder) (pc := 91) dX4_settleOrder_91 rfl ?_
      refine wp_isub (M := mX4_settleOrder) (pc := 92) dX4_settleOrder_92 ?_
      refine wp_putI (M := mX4_settleOrder) (pc := 93) fa_X4_73 (Or.inl rfl) dX4_settleOrder_93 (by first | exact kq | exact b2 | exact a2 | exact kT) ?_
      refine wp_return (M := mX4_settleOrder) (pc := 96) rfl dX4_settleOrder_96 ?_
      first
      | exact absurd (hk0.symm.trans hk2) (by decide)
      | (have e9 : stlT A i f p = wF A (oA A i).1 4 (fT A (oA A i).1 4 + p * f) := by rw [stlT, if_neg hk0]
         have e8 : stlD A i f p = if 0 < f then addD (stlT A i f p) (oA A i).1 f else stlT A i f p := by
           unfold stlD
           by_cases q9 : 0 < f
           · rw [if_pos ⟨hk2, q9⟩, if_pos q9]
           · rw [if_neg (fun c => q9 c.2), if_neg q9]
         have H1 := hR2.sF o4 (k := 4) (by decide) (fT A (oA A i).1 4 + p * f)
         have H2 := H1.owe o4 hf
         simp only [gi_si_ne _ _ _ ne3, gi_si_ne _ _ _ ne1]
         rw [o3, e4]
         exact k _ (by rw [stlA, e8, e9]; exact H2.sQty (by split <;> exact hi) _) ((Fr.si (hR2.ownT h6)).tr ((Fr.si (H1.ownW h6)).tr (Fr.si (hR2.ownO (by omega))))))
      | (simp only [gi_si_ne _ _ _ ne1]
         have e9 : stlT A i f p = wF A (oA A i).1 4 (fT A (oA A i).1 4 + p * f) := by rw [stlT, if_neg hk0]
         have e8 : stlD A i f p = stlT A i f p := by unfold stlD; rw [if_neg (fun c => hk2 c.1)]
         have H1 := hR2.sF o4 (k := 4) (by decide) (fT A (oA A i).1 4 + p * f)
         rw [e4, o3]
         exact k _ (by rw [stlA, e8, e9]; exact H1.sQty hi _) ((Fr.si (hR2.ownT h6)).tr (Fr.si (hR2.ownO (by omega)))))
      | (simp only [gi_si_ne _ _ _ ne1]
         have e9 : stlT A i f p = wF (wF A (oA A i).1 3 (fT A (oA A i).1 3 + f)) (oA A i).1 4 (fT A (oA A i).1 4 + ((oA A i).2.2.1 - p) * f) := by rw [stlT, if_pos hk0]
         have e8 : stlD A i f p = stlT A i f p := by unfold stlD; rw [if_neg (fun c => hk2 c.1)]
         have H1 := hR2.sF o4 (k := 3) (by decide) (fT A (oA A i).1 3 + f)
         have H2 := H1.sF o4 (k := 4) (by decide) (fT A (oA A i).1 4 + ((oA A i).2.2.1 - p) * f)
         rw [e3, gi_si_at, upd_ne _ _ (by decide), e4, o2, o3]
         exact k _ (by rw [stlA, e8, e9]; exact H2.sQty hi _) ((Fr.si (hR2.ownT h6)).tr ((Fr.si (hR2.ownT h6)).tr (Fr.si (hR2.ownO (by omega))))))
      | fail "leaf"
  · have hk0 : (oA A i).2.1 = 0 := (i_eq (b := 0) (Nat.lt_trans o5 (by decide)) (by decide)).mp (o1.symm.trans f15)
    refine wp_aload (M := mX4_settleOrder) (pc := 18) dX4_settleOrder_18 rfl ?_
    refine wp_dup (M := mX4_settleOrder) (pc := 20) dX4_settleOrder_20 rfl ?_
    refine wp_getI (M := mX4_settleOrder) (pc := 21) fa_X4_95 rfl dX4_settleOrder_21 (by first | exact kq | exact b2 | exact a2 | exact kT) ?_
    refine wp_iload_n (M := mX4_settleOrder) (pc := 24) dX4_settleOrder_24 rfl ?_
    refine wp_iadd (M := mX4_settleOrder) (pc := 25) dX4_settleOrder_25 ?_
    refine wp_putI (M := mX4_settleOrder) (pc := 26) fa_X4_95 (Or.inl rfl) dX4_settleOrder_26 (by first | exact kq | exact b2 | exact a2 | exact kT) ?_
    refine wp_aload (M := mX4_settleOrder) (pc := 29) dX4_settleOrder_29 rfl ?_
    refine wp_dup (M := mX4_settleOrder) (pc := 31) dX4_settleOrder_31 rfl ?_
    refine wp_getI (M := mX4_settleOrder) (pc := 32) fa_X4_98 rfl dX4_settleOrder_32 (by first | exact kq | exact b2 | exact a2 | exact kT) ?_
    refine wp_aload_n (M := mX4_settleOrder) (pc := 35) dX4_settleOrder_35 rfl ?_
    refine wp_getI (M := mX4_settleOrder) (pc := 36) fa_X4_70 rfl dX4_settleOrder_36 (by first | exact kq | exact b2 | exact a2 | exact kT) ?_
    refine wp_iload_n (M := mX4_settleOrder) (pc := 39) dX4_settleOrder_39 rfl ?_
    refine wp_isub (M := mX4_settleOrder) (pc := 40) dX4_settleOrder_40 ?_
    refine wp_iload_n (M := mX4_settleOrder) (pc := 41) dX4_settleOrder_41 rfl ?_
    refine wp_imul (M := mX4_settleOrder) (pc := 42) dX4_settleOrder_42 ?_
    refine wp_iadd (M := mX4_settleOrder) (pc := 43) dX4_settleOrder_43 ?_
    refine wp_putI (M := mX4_settleOrder) (pc := 44) fa_X4_98 (Or.inl rfl) dX4_settleOrder_44 (by first | exact kq | exact b2 | exact a2 | exact kT) ?_
    refine wp_goto (M := mX4_settleOrder) (pc := 47) (tgt := 63) dX4_settleOrder_47 rfl ?_
    refine wp_aload_n (M := mX4_settleOrder) (pc := 63) dX4_settleOrder_63 rfl ?_
    refine wp_getI (M := mX4_settleOrder) (pc := 64) fa_X4_67 rfl dX4_settleOrder_64 (by first | exact kq | exact b2 | exact a2 | exact kT) ?_
    refine wp_iconst (M := mX4_settleOrder) (pc := 67) (v := 2) dX4_settleOrder_67 ci_2 ?_
    refine wp_icmp_ne (M := mX4_settleOrder) (pc := 68) (tgt := 86) dX4_settleOrder_68 rfl (fun t68 => ?_) (fun f68 => ?_)
    · simp only [gi_si_ne _ _ _ ne1] at t68
      have hk2 : ¬ (oA A i).2.1 = 2 := fun q9 => t68 (by rw [o1]; show nI (oA A i).2.1 = 2; rw [q9]; rfl)
      refine wp_aload_n (M := mX4_settleOrder) (pc := 86) dX4_settleOrder_86 rfl ?_
      refine wp_dup (M := mX4_settleOrder) (pc := 87) dX4_settleOrder_87 rfl ?_
      refine wp_getI (M := mX4_settleOrder) (pc := 88) fa_X4_73 rfl dX4_settleOrder_88 (by first | exact kq | exact b2 | exact a2 | exact kT) ?_
      refine wp_iload_n (M := mX4_settleOrder) (pc := 91) dX4_settleOrder_91 rfl ?_
      refine wp_isub (M := mX4_settleOrder) (pc := 92) dX4_settleOrder_92 ?_
      refine wp_putI (M := mX4_settleOrder) (pc := 93) fa_X4_73 (Or.inl rfl) dX4_settleOrder_93 (by first | exact kq | exact b2 | exact a2 | exact kT) ?_
      refine wp_return (M := mX4_settleOrder) (pc := 96) rfl dX4_settleOrder_96 ?_
      first
      | exact absurd (hk0.symm.trans hk2) (by decide)
      | (have e9 : stlT A i f p = wF A (oA A i).1 4 (fT A (oA A i).1 4 + p * f) := by rw [stlT, if_neg hk0]
         have e8 : stlD A i f p = if 0 < f then addD (stlT A i f p) (oA A i).1 f else stlT A i f p := by
           unfold stlD
           by_cases q9 : 0 < f
           · rw [if_pos ⟨hk2, q9⟩, if_pos q9]
           · rw [if_neg (fun c => q9 c.2), if_neg q9]
         have H1 := hR2.sF o4 (k := 4) (by decide) (fT A (oA A i).1 4 + p * f)
         have H2 := H1.owe o4 hf
         simp only [gi_si_ne _ _ _ ne3, gi_si_ne _ _ _ ne1]
         rw [o3, e4]
         exact k _ (by rw [stlA, e8, e9]; exact H2.sQty (by split <;> exact hi) _) ((Fr.si (hR2.ownT h6)).tr ((Fr.si (H1.ownW h6)).tr (Fr.si (hR2.ownO (by omega))))))
      | (simp only [gi_si_ne _ _ _ ne1]
         have e9 : stlT A i f p = wF A (oA A i).1 4 (fT A (oA A i).1 4 + p * f) := by rw [stlT, if_neg hk0]
         have e8 : stlD A i f p = stlT A i f p := by unfold stlD; rw [if_neg (fun c => hk2 c.1)]
         have H1 := hR2.sF o4 (k := 4) (by decide) (fT A (oA A i).1 4 + p * f)
         rw [e4, o3]
         exact k _ (by rw [stlA, e8, e9]; exact H1.sQty hi _) ((Fr.si (hR2.ownT h6)).tr (Fr.si (hR2.ownO (by omega)))))
      | (simp only [gi_si_ne _ _ _ ne1]
         have e9 : stlT A i f p = wF (wF A (oA A i).1 3 (fT A (oA A i).1 3 + f)) (oA A i).1 4 (fT A (oA A i).1 4 + ((oA A i).2.2.1 - p) * f) := by rw [stlT, if_pos hk0]
         have e8 : stlD A i f p = stlT A i f p := by unfold stlD; rw [if_neg (fun c => hk2 c.1)]
         have H1 := hR2.sF o4 (k := 3) (by decide) (fT A (oA A i).1 3 + f)
         have H2 := H1.sF o4 (k := 4) (by decide) (fT A (oA A i).1 4 + ((oA A i).2.2.1 - p) * f)
         rw [e3, gi_si_at, upd_ne _ _ (by decide), e4, o2, o3]
         exact k _ (by rw [stlA, e8, e9]; exact H2.sQty hi _) ((Fr.si (hR2.ownT h6)).tr ((Fr.si (hR2.ownT h6)).tr (Fr.si (hR2.ownO (by omega))))))
      | fail "leaf"
    · simp only [gi_si_ne _ _ _ ne1] at f68
      have hk2 : (oA A i).2.1 = 2 := (i_eq (b := 2) (Nat.lt_trans o5 (by decide)) (by decide)).mp (o1.symm.trans f68)
      refine wp_aload (M := mX4_settleOrder) (pc := 71) dX4_settleOrder_71 rfl ?_
      refine wp_iload_n (M := mX4_settleOrder) (pc := 73) dX4_settleOrder_73 rfl ?_
      refine wp_aload_n (M := mX4_settleOrder) (pc := 74) dX4_settleOrder_74 rfl ?_
      refine wp_getI (M := mX4_settleOrder) (pc := 75) fa_X4_44 rfl dX4_settleOrder_75 (by first | exact kq | exact b2 | exact a2 | exact kT) ?_
      refine wp_aload_n (M := mX4_settleOrder) (pc := 78) dX4_settleOrder_78 rfl ?_
      refine wp_getI (M := mX4_settleOrder) (pc := 79) fa_X4_32 rfl dX4_settleOrder_79 (by first | exact kq | exact b2 | exact a2 | exact kT) ?_
      refine wp_iadd (M := mX4_settleOrder) (pc := 82) dX4_settleOrder_82 ?_
      simp only [gi_si_ne _ _ _ ne2, n8, n6', nI_add]
      refine so_V2 (M := mX4_settleOrder) (pc := 83) cs_X4_settleOrder_214 rfl rfl (LE rfl) (LE rfl) dX4_settleOrder_83 (by first | exact kq | exact b2 | exact a2 | exact kT) ?_
      refine sp_X5_owe a2 a7 a8 hti ?_
      refine kV ?_
      refine wp_aload_n (M := mX4_settleOrder) (pc := 86) dX4_settleOrder_86 rfl ?_
      refine wp_dup (M := mX4_settleOrder) (pc := 87) dX4_settleOrder_87 rfl ?_
      refine wp_getI (M := mX4_settleOrder) (pc := 88) fa_X4_73 rfl dX4_settleOrder_88 (by first | exact kq | exact b2 | exact a2 | exact kT) ?_
      refine wp_iload_n (M := mX4_settleOrder) (pc := 91) dX4_settleOrder_91 rfl ?_
      refine wp_isub (M := mX4_settleOrder) (pc := 92) dX4_settleOrder_92 ?_
      refine wp_putI (M := mX4_settleOrder) (pc := 93) fa_X4_73 (Or.inl rfl) dX4_settleOrder_93 (by first | exact kq | exact b2 | exact a2 | exact kT) ?_
      refine wp_return (M := mX4_settleOrder) (pc := 96) rfl dX4_settleOrder_96 ?_
      first
      | exact absurd (hk0.symm.trans hk2) (by decide)
      | (have e9 : stlT A i f p = wF A (oA A i).1 4 (fT A (oA A i).1 4 + p * f) := by rw [stlT, if_neg hk0]
         have e8 : stlD A i f p = if 0 < f then addD (stlT A i f p) (oA A i).1 f else stlT A i f p := by
           unfold stlD
           by_cases q9 : 0 < f
           · rw [if_pos ⟨hk2, q9⟩, if_pos q9]
           · rw [if_neg (fun c => q9 c.2), if_neg q9]
         have H1 := hR2.sF o4 (k := 4) (by decide) (fT A (oA A i).1 4 + p * f)
         have H2 := H1.owe o4 hf
         simp only [gi_si_ne _ _ _ ne3, gi_si_ne _ _ _ ne1]
         rw [o3, e4]
         exact k _ (by rw [stlA, e8, e9]; exact H2.sQty (by split <;> exact hi) _) ((Fr.si (hR2.ownT h6)).tr ((Fr.si (H1.ownW h6)).tr (Fr.si (hR2.ownO (by omega))))))
      | (simp only [gi_si_ne _ _ _ ne1]
         have e9 : stlT A i f p = wF A (oA A i).1 4 (fT A (oA A i).1 4 + p * f) := by rw [stlT, if_neg hk0]
         have e8 : stlD A i f p = stlT A i f p := by unfold stlD; rw [if_neg (fun c => hk2 c.1)]
         have H1 := hR2.sF o4 (k := 4) (by decide) (fT A (oA A i).1 4 + p * f)
         rw [e4, o3]
         exact k _ (by rw [stlA, e8, e9]; exact H1.sQty hi _) ((Fr.si (hR2.ownT h6)).tr (Fr.si (hR2.ownO (by omega)))))
      | (simp only [gi_si_ne _ _ _ ne1]
         have e9 : stlT A i f p = wF (wF A (oA A i).1 3 (fT A (oA A i).1 3 + f)) (oA A i).1 4 (fT A (oA A i).1 4 + ((oA A i).2.2.1 - p) * f) := by rw [stlT, if_pos hk0]
         have e8 : stlD A i f p = stlT A i f p := by unfold stlD; rw [if_neg (fun c => hk2 c.1)]
         have H1 := hR2.sF o4 (k := 3) (by decide) (fT A (oA A i).1 3 + f)
         have H2 := H1.sF o4 (k := 4) (by decide) (fT A (oA A i).1 4 + ((oA A i).2.2.1 - p) * f)
         rw [e3, gi_si_at, upd_ne _ _ (by decide), e4, o2, o3]
         exact k _ (by rw [stlA, e8, e9]; exact H2.sQty hi _) ((Fr.si (hR2.ownT h6)).tr ((Fr.si (hR2.ownT h6)).tr (Fr.si (hR2.ownO (by omega))))))
      | fail "leaf"
/-- the first i orders are settled -/
def stl (A : Sta) (F : Nat → Int32) (p : Int32) : Nat → Sta
  | 0 => A
  | i + 1 => stlA (stl A F p i) i (F i) p
theorem stl_1 (A : Sta) (F : Nat → Int32) (p : Int32) : ∀ i, (stl A F p i).1 = A.1
  | 0 => rfl
  | i + 1 => (stlA_1 _ _ _ _).trans (stl_1 A F p i)
theorem stl_len (A : Sta) (F : Nat → Int32) (p : Int32) : ∀ i, (sO (stl A F p i)).length = (sO A).length
  | 0 => rfl
  | i + 1 => (stlA_len _ _ _ _).trans (stl_len A F p i)
theorem stl_c {A : Sta} {F F' : Nat → Int32} {p : Int32} : ∀ i, (∀ j, j < i → F j = F' j) → stl A F p i = stl A F' p i
  | 0, _ => rfl
  | i + 1, h => by
    show stlA (stl A F p i) i (F i) p = stlA (stl A F' p i) i (F' i) p
    rw [stl_c i (fun j hj => h j (by omega)), h i (by omega)]
/-- what an auction does to a state -/
def auA (A : Sta) : Sta := if (matchB (sO A)).2.2.1 = 0 then A else remE (stl (wG A 7 (matchB (sO A)).2.2.2.1) (matchB (sO A)).1 (matchB (sO A)).2.2.2.1 (sO A).length)
set_option maxHeartbeats 4000000 in
set_option maxRecDepth 100000 in
theorem lp_X4_settle {q : Nat} {l : Lt} {A : Sta} {h0 : PH} {F : Nat → Int32} {p : Int32} {u ka pa fa la : Nat} (hA0 : AuT h0 u ka pa fa la) (hq : u ≠ q) (hn12 : (sO A).length ≤ 12) (hc0 : gi h0 u 4 = nI (sO A).length) (hp0 : gi h0 u 6 = p) (hF0 : ∀ j, j < (sO A).length → gi h0 fa j = F j ∧ ¬ F j < 0) (hti : sTi A + sTm A < 2 ^ 31) (k : ∀ h' l', sameL l l' → RepC h' q l' (remE (stl A F p (sO A).length)) → Fr (fun x => x = q) h0 h' → Q (.inl none) h') : ∀ (m : Nat) (i : Nat) (h : PH), (sO A).length - i < m → (i ≤ (sO A).length) → (RepC h q l (stl A F p i)) → (Fr (fun x => x = q) h0 h) → WPx E mX4_settle 18 [some (.ref q), some (.ref u), some (.int (nI i))] [] (0, 0) h Q := by
  intro m
  induction m with
  | zero => intro i h hm; exact absurd hm (Nat.not_lt_zero _)
  | succ m ih =>
    intro i h hm hi hR hF
    have hR2 := hR
    have gl := stl_len A F p i
    have g1 := stl_1 A F p i
    have hA := hA0.fr hF (fun e => hq e)
    have eU : gi h u = gi h0 u := (hF.2.2.2 u (by rw [hA0.2.1]; exact hq)).1
    have eF : gi h fa = gi h0 fa := (hF.2.2.2 fa (by rw [hA0.2.2.2.2.1]; exact hq)).1
    obtain ⟨hL, hN, hT, hO⟩ := hR
    obtain ⟨⟨kq, tq⟩, ⟨rT, kT, tT⟩, ⟨rO, kO, tO⟩, hLT, hLO, hinj⟩ := hL
    obtain ⟨⟨n2, n6⟩, ⟨n3, n12⟩, n4, n5, n6', n7, n8, n9, n10, n11⟩ := hN
    rw [gl] at n3 n12
    refine wp_iload_n (M := mX4_settle) (pc := 18) dX4_settle_18 rfl ?_
    refine wp_aload_n (M := mX4_settle) (pc := 19) dX4_settle_19 rfl ?_
    refine wp_getI (M := mX4_settle) (pc := 20) fa_X4_41 rfl dX4_settle_20 (by first | exact kq | exact kO | exact hA.1.1) ?_
    refine wp_icmp_ge (M := mX4_settle) (pc := 23) (tgt := 51) dX4_settle_23 rfl (fun t23 => ?_) (fun f23 => ?_)
    · rw [n3] at t23
      have hi2 := n_ge hi (by omega) t23
      subst hi2
      refine wp_aload_n (M := mX4_settle) (pc := 51) dX4_settle_51 rfl ?_
      refine so_V0 (M := mX4_settle) (pc := 52) cs_X4_settle_161 rfl rfl (LE rfl) (LE rfl) dX4_settle_52 (by first | exact kq | exact kO | exact hA.1.1) ?_
      refine sp_X4_removeEmptyOrders hR2 (fun h2 l2 b2' a' c' => ?_)
      refine kV ?_
      refine wp_return (M := mX4_settle) (pc := 55) rfl dX4_settle_55 ?_
      exact k h2 l2 b2' a' (hF.tr c')
    · rw [n3] at f23
      have hlt := n_lt hi (by omega) f23
      refine wp_aload_n (M := mX4_settle) (pc := 26) dX4_settle_26 rfl ?_
      refine wp_aload_n (M := mX4_settle) (pc := 27) dX4_settle_27 rfl ?_
      refine wp_getR (M := mX4_settle) (pc := 28) fa_X4_19 rfl dX4_settle_28 (by first | exact kq | exact kO | exact hA.1.1) (by first | exact rO | exact (hLO i (by omega)).1) ?_
      refine wp_iload_n (M := mX4_settle) (pc := 31) dX4_settle_31 rfl ?_
      refine wr_aaload (M := mX4_settle) (pc := 32) dX4_settle_32 (by first | exact kq | exact kO | exact hA.1.1) (by decide) rfl (by omega) (by decide) (by first | exact rO | exact (hLO i (by omega)).1) ?_
      refine wp_aload_n (M := mX4_settle) (pc := 33) dX4_settle_33 rfl ?_
      refine wp_iload_n (M := mX4_settle) (pc := 34) dX4_settle_34 rfl ?_
      refine so_V1 (M := mX4_settle) (pc := 35) cs_X4_settle_207 rfl rfl (LE rfl) (LE rfl) dX4_settle_35 (by first | exact kq | exact kO | exact hA.1.1) ?_
      refine sp_X0_fillOf (n := (sO A).length) hA.1 (by rw [eU]; exact hc0) hlt (by omega) ?_
      refine kI ?_
      refine wp_aload_n (M := mX4_settle) (pc := 38) dX4_settle_38 rfl ?_
      refine wp_getI (M := mX4_settle) (pc := 39) fa_X4_206 rfl dX4_settle_39 (by first | exact kq | exact kO | exact hA.1.1) ?_
      refine so_V3 (M := mX4_settle) (pc := 42) cs_X4_settle_210 rfl rfl (LE rfl) (LE rfl) dX4_settle_42 (by first | exact kq | exact kO | exact hA.1.1) ?_
      refine sp_X4_settleOrder hR2 (by rw [gl]; exact hlt) (by rw [eF, (hF0 i hlt).1]; exact (hF0 i hlt).2) (by have e1 : sTi (stl A F p i) = sTi A := congrArg (·.2.1) g1; have e2 : sTm (stl A F p i) = sTm A := congrArg (·.2.2) g1; rw [e1, e2]; exact hti) (fun h1 a c => ?_)
      refine kV ?_
      refine so_iinc (M := mX4_settle) (pc := 45) (lo' := [_, _, _]) dX4_settle_45 rfl ci_1 (LE rfl) rfl ?_
      refine wp_goto (M := mX4_settle) (pc := 48) (tgt := 18) dX4_settle_48 rfl ?_
      rw [show nI i + 1 = nI (i + 1) from nI_1 i]
      rw [eF, (hF0 i hlt).1, eU, hp0] at a
      exact ih (i + 1) _ (by omega) (by omega) a (hF.tr c)
set_option maxHeartbeats 4000000 in
set_option maxRecDepth 100000 in
theorem sp_X4_settle {q : Nat} {l : Lt} {A : Sta} {u ka pa fa la : Nat} (hR : RepC h q l A) (hA : AuT h u ka pa fa la) (hq : u ≠ q) (hM : MR h u fa la (sO A).length (matchB (sO A))) (hpos : ∀ j, j < (sO A).length → ¬ (matchB (sO A)).1 j < 0) (hti : sTi A + sTm A < 2 ^ 31) (k : ∀ h' l', sameL l l' → RepC h' q l' (auA A) → Fr (fun x => x = q) h h' → Q (.inl none) h') : WPx E mX4_settle 0 [some (.ref q), some (.ref u), none] [] (0, 0) h Q := by
  refine wp_aload_n (M := mX4_settle) (pc := 0) dX4_settle_0 rfl ?_
  refine wp_getI (M := mX4_settle) (pc := 1) fa_X4_203 rfl dX4_settle_1 (by first | exact hA.1.1 | exact hR.1.1.1) ?_
  refine wp_if_ne (M := mX4_settle) (pc := 4) (tgt := 8) dX4_settle_4 rfl (fun t4 => ?_) (fun f4 => ?_)
  · rw [hM.2.2.1] at t4
    refine wp_aload_n (M := mX4_settle) (pc := 8) dX4_settle_8 rfl ?_
    refine wp_aload_n (M := mX4_settle) (pc := 9) dX4_settle_9 rfl ?_
    refine wp_getI (M := mX4_settle) (pc := 10) fa_X4_206 rfl dX4_settle_10 (by first | exact hA.1.1 | exact hR.1.1.1) ?_
    refine wp_putI (M := mX4_settle) (pc := 13) fa_X4_50 (Or.inl rfl) dX4_settle_13 (by first | exact hA.1.1 | exact hR.1.1.1) ?_
    refine wp_iconst (M := mX4_settle) (pc := 16) (v := 0) dX4_settle_16 ci_0 ?_
    refine so_istore_n (M := mX4_settle) (pc := 17) (lo' := [_, _, _]) dX4_settle_17 (LE rfl) (LE rfl) (Or.inr rfl) rfl ?_
    have hU : gi (si h q 10 (gi h u 6)) u = gi h u := gi_si_ne _ _ _ hq
    have hFa : gi (si h q 10 (gi h u 6)) fa = gi h fa := gi_si_ne _ _ _ (fun e => hq (by rw [← hA.2.2.2.2.1, e, hR.1.1.2]))
    rw [hM.2.2.2.1] at *
    exact lp_X4_settle (h0 := si h q 10 (matchB (sO A)).2.2.2.1) (A := wG A 7 (matchB (sO A)).2.2.2.1) (F := (matchB (sO A)).1) (p := (matchB (sO A)).2.2.2.1) hA hq hR.2.1.2.1.2 (by rw [hU]; exact hM.1) (by rw [hU]; exact hM.2.2.2.1) (fun j hj => ⟨by rw [hFa]; exact (hM.2.1 j hj).1, hpos j hj⟩) hti (fun h' l' e' a b => k h' l' e' (by rw [auA, if_neg t4]; exact a) ((Fr.si hR.ownS).tr b)) ((sO A).length + 1) 0 _ (by show (sO A).length - 0 < _; omega) (Nat.zero_le _) (hR.sLast _) Fr.rf
  · rw [hM.2.2.1] at f4
    refine wp_return (M := mX4_settle) (pc := 7) rfl dX4_settle_7 ?_
    exact k h l sameL.rf (by rw [auA, if_pos f4]; exact hR) Fr.rf
end SP
