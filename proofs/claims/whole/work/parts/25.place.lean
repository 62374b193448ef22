section SP
variable {E : Ev} {h : PH} {Q : Rt → PH → Prop}
def canP (A : Sta) (kd t : Nat) (p z : Int32) : Prop := (sO A).length < 12 ∧ ¬ susp A t ∧ (if kd = 0 then p * z ≤ fT A t 4 else if kd = 1 then z ≤ fT A t 2 + fT A t 3 else dsum (sT A t).2.2 + qtyOf A t 2 + z ≤ 99)
def placeT (A : Sta) (kd t : Nat) (p z : Int32) : Sta := if kd = 0 then wF A t 4 (fT A t 4 - p * z) else if kd = 1 then takeA A t z else A
def addO (A : Sta) (x : Ord) : Sta := wO A (sO A ++ [x])
def placeA (A : Sta) (kd t : Nat) (p z : Int32) : Sta := addO (placeT A kd t p z) (t, kd, p, z)
theorem RepC.sNew {h : PH} {q : Nat} {l : Lt} {A : Sta} (H : RepC h q l A) {t kd : Nat} {p z : Int32} (ht : t < sN A) (hk : kd < 3) (h12 : (sO A).length < 12) :
    RepC (si (si (si (si (si h (lO l (sO A).length) 0 (nI t)) (lO l (sO A).length) 1 (nI kd)) (lO l (sO A).length) 2 p) (lO l (sO A).length) 3 z) q 3 (nI ((sO A).length + 1))) q l (addO A (t, kd, p, z)) := by
  obtain ⟨hL, hN0, hT0, hO0⟩ := H
  obtain ⟨-, -, j, t1⟩ := hL.2.2.2.2.1 _ h12
  have hq : q ≠ lO l (sO A).length := ne_tg hL.1.2 t1 (by simp)
  have ex : ∀ x, x ≠ q → x ≠ lO l (sO A).length → gi (si (si (si (si (si h (lO l (sO A).length) 0 (nI t)) (lO l (sO A).length) 1 (nI kd)) (lO l (sO A).length) 2 p) (lO l (sO A).length) 3 z) q 3 (nI ((sO A).length + 1))) x = gi h x := fun x h1 h2 => by
    rw [gi_si_ne _ _ _ h1, gi_si_ne _ _ _ h2, gi_si_ne _ _ _ h2, gi_si_ne _ _ _ h2, gi_si_ne _ _ _ h2]
  have eq : gi (si (si (si (si (si h (lO l (sO A).length) 0 (nI t)) (lO l (sO A).length) 1 (nI kd)) (lO l (sO A).length) 2 p) (lO l (sO A).length) 3 z) q 3 (nI ((sO A).length + 1))) q = upd (gi h q) 3 (nI ((sO A).length + 1)) := by
    rw [gi_si_at, gi_si_ne _ _ _ hq, gi_si_ne _ _ _ hq, gi_si_ne _ _ _ hq, gi_si_ne _ _ _ hq]
  have eo : gi (si (si (si (si (si h (lO l (sO A).length) 0 (nI t)) (lO l (sO A).length) 1 (nI kd)) (lO l (sO A).length) 2 p) (lO l (sO A).length) 3 z) q 3 (nI ((sO A).length + 1))) (lO l (sO A).length) = upd (upd (upd (upd (gi h (lO l (sO A).length)) 0 (nI t)) 1 (nI kd)) 2 p) 3 z := by
    rw [gi_si_ne _ _ _ hq.symm, gi_si_at, gi_si_at, gi_si_at, gi_si_at]
  refine ⟨hL, ?_, fun t' h1 => ?_, fun i' h1 => ?_⟩
  · obtain ⟨⟨a1, a2⟩, ⟨b1, b2⟩, c4, c5, c6, c7, c8, c9, c10, c11⟩ := hN0
    unfold NumC
    rw [eq]
    refine ⟨⟨(upd_ne _ _ (by decide)).trans a1, a2⟩, ⟨?_, ?_⟩, (upd_ne _ _ (by decide)).trans c4, (upd_ne _ _ (by decide)).trans c5, (upd_ne _ _ (by decide)).trans c6, (upd_ne _ _ (by decide)).trans c7, (upd_ne _ _ (by decide)).trans c8, (upd_ne _ _ (by decide)).trans c9, (upd_ne _ _ (by decide)).trans c10, (upd_ne _ _ (by decide)).trans c11⟩
    · rw [upd_at]; simp [addO, wO, sO]
    · show (sO A ++ [(t, kd, p, z)]).length ≤ 12
      rw [List.length_append]; exact h12
  · have hn := hN0.1.2
    have h1' : t' < sN A := h1
    obtain ⟨-, ⟨-, s1⟩, ⟨-, -, s2⟩, -, -, s3⟩ := hL.2.2.2.1 t' (by omega)
    have := hT0 t' h1'
    show TenC _ l t' (sT A t')
    unfold TenC at this ⊢
    rw [ex _ (ne_tg s1 hL.1.2 (by simp)) (ne_tg s1 t1 (by simp)), ex _ (ne_tg s2 hL.1.2 (by simp)) (ne_tg s2 t1 (by simp)), ex _ (ne_tg s3 hL.1.2 (by simp)) (ne_tg s3 t1 (by simp))]
    exact this
  · have h2 : i' < (sO A).length + 1 := by simpa [addO, wO, sO] using h1
    show OrdC _ (lO l i') (sN A) ((sO A ++ [(t, kd, p, z)]).getD i' (0, 0, 0, 0))
    by_cases e : i' = (sO A).length
    · subst e
      rw [List.getD_eq_getElem?_getD, List.getElem?_append_right (Nat.le_refl _), Nat.sub_self]
      refine ⟨⟨?_, ?_, ?_, ?_⟩, ht, hk⟩
      · rw [eo, upd_ne _ _ (by decide), upd_ne _ _ (by decide), upd_ne _ _ (by decide), upd_at]; rfl
      · rw [eo, upd_ne _ _ (by decide), upd_ne _ _ (by decide), upd_at]; rfl
      · rw [eo, upd_ne _ _ (by decide), upd_at]; rfl
      · rw [eo, upd_at]; rfl
    · have h3 : i' < (sO A).length := by omega
      rw [List.getD_eq_getElem?_getD, List.getElem?_append_left h3, ← List.getD_eq_getElem?_getD]
      obtain ⟨-, -, j2, s1⟩ := hL.2.2.2.2.1 i' (by omega)
      have := hO0 i' h3
      unfold OrdC at this ⊢
      rw [ex _ (ne_tg s1 hL.1.2 (by simp)) (fun q9 => e (hL.2.2.2.2.2 i' _ (by omega) h12 q9))]
      exact this
theorem RepC.debt {h : PH} {q : Nat} {l : Lt} {A : Sta} (H : RepC h q l A) {t : Nat} (ht : t < sN A) : sm (gi h (lW l t)) 51 = dsum (sT A t).2.2 := by
  rw [← ring_sum]
  exact sm_congr 51 (fun j hj => (H.2.2.1 t ht).2.2.2.2 j hj)
set_option maxHeartbeats 4000000 in
set_option maxRecDepth 100000 in
theorem sp_X4_canPlace {q : Nat} {l : Lt} {A : Sta} {kd t : Nat} {p z : Int32} (hR : RepC h q l A) (ht : t < sN A) (hkd : kd < 3) (k1 : canP A kd t p z → Q (.inl (some (.int 1))) h) (k0 : ¬ canP A kd t p z → Q (.inl (some (.int 0))) h) : WPx E mX4_canPlace 0 [some (.ref q), some (.int (nI kd)), some (.int (nI t)), some (.int p), some (.int z), none] [] (0, 0) h Q := by
  have hR2 := hR
  obtain ⟨hL, hN, hT, hO⟩ := hR
  obtain ⟨⟨kq, tq⟩, ⟨rT, kT, tT⟩, ⟨rO, kO, tO⟩, hLT, hLO, hinj⟩ := hL
  obtain ⟨⟨n2, n6⟩, ⟨n3, n12⟩, n4, n5, n6', n7, n8, n9, n10, n11⟩ := hN
  obtain ⟨a1, ⟨a2, a3⟩, ⟨a4, a5, a6⟩, a7, a8, a9⟩ := hLT t (by omega)
  have e4 := hR2.tF ht (k := 4) (by decide)
  have e2 := hR2.tF ht (k := 2) (by decide)
  have e3 := hR2.tF ht (k := 3) (by decide)
  have ed := hR2.debt ht
  refine wp_aload_n (M := mX4_canPlace) (pc := 0) dX4_canPlace_0 rfl ?_
  refine wp_getR (M := mX4_canPlace) (pc := 1) fa_X4_11 rfl dX4_canPlace_1 (by first | exact kq | exact a2 | exact kO | exact kT) (by first | exact rT | exact rO | exact a1) ?_
  refine wp_iload_n (M := mX4_canPlace) (pc := 4) dX4_canPlace_4 rfl ?_
  refine wr_aaload (M := mX4_canPlace) (pc := 5) dX4_canPlace_5 (by first | exact kq | exact a2 | exact kO | exact kT) (by decide) rfl (by omega) (by decide) (by first | exact rT | exact rO | exact a1) ?_
  refine so_astore (M := mX4_canPlace) (pc := 6) (lo' := [_, _, _, _, _, _]) dX4_canPlace_6 (LE rfl) (LE rfl) (Or.inr rfl) rfl ?_
  refine wp_aload_n (M := mX4_canPlace) (pc := 8) dX4_canPlace_8 rfl ?_
  refine wp_getI (M := mX4_canPlace) (pc := 9) fa_X4_41 rfl dX4_canPlace_9 (by first | exact kq | exact a2 | exact kO | exact kT) ?_
  refine wp_aload_n (M := mX4_canPlace) (pc := 12) dX4_canPlace_12 rfl ?_
  refine wp_getR (M := mX4_canPlace) (pc := 13) fa_X4_19 rfl dX4_canPlace_13 (by first | exact kq | exact a2 | exact kO | exact kT) (by first | exact rT | exact rO | exact a1) ?_
  refine wp_alen (M := mX4_canPlace) (pc := 16) dX4_canPlace_16 (by first | exact kq | exact a2 | exact kO | exact kT) (by decide) ?_
  refine wp_icmp_ge (M := mX4_canPlace) (pc := 17) (tgt := 29) dX4_canPlace_17 rfl (fun t17 => ?_) (fun f17 => ?_)
  · rw [n3] at t17
    refine wp_iconst (M := mX4_canPlace) (pc := 29) (v := 0) dX4_canPlace_29 ci_0 ?_
    refine wp_zreturn (M := mX4_canPlace) (pc := 30) rfl (by decide) dX4_canPlace_30 ?_
    first
    | exact k0 (fun c => absurd c.1 (by have := n_ge n12 (by decide) t17; omega))
    | exact k0 (fun c => c.2.1 hsu)
    | fail "leaf"
  · rw [n3] at f17
    have hlen := n_lt n12 (by decide) f17
    refine wp_aload_n (M := mX4_canPlace) (pc := 20) dX4_canPlace_20 rfl ?_
    refine wp_aload (M := mX4_canPlace) (pc := 21) dX4_canPlace_21 rfl ?_
    refine so_V1 (M := mX4_canPlace) (pc := 23) cs_X4_canPlace_123 rfl rfl (LE rfl) (LE rfl) dX4_canPlace_23 (by first | exact kq | exact a2 | exact kO | exact kT) ?_
    refine sp_X4_isSuspended hR2 ht ?_
    refine kI ?_
    refine wp_if_eq (M := mX4_canPlace) (pc := 26) (tgt := 31) dX4_canPlace_26 rfl (fun t26 => ?_) (fun f26 => ?_)
    · have hsu : ¬ susp A t := fun q9 => by rw [if_pos q9] at t26; exact absurd t26 (by decide)
      refine wp_iload_n (M := mX4_canPlace) (pc := 31) dX4_canPlace_31 rfl ?_
      refine wp_if_ne (M := mX4_canPlace) (pc := 32) (tgt := 53) dX4_canPlace_32 rfl (fun t32 => ?_) (fun f32 => ?_)
      · have hk0 : ¬ kd = 0 := fun q9 => t32 (by rw [q9]; rfl)
        refine wp_iload_n (M := mX4_canPlace) (pc := 53) dX4_canPlace_53 rfl ?_
        refine wp_iconst (M := mX4_canPlace) (pc := 54) (v := 1) dX4_canPlace_54 ci_1 ?_
        refine wp_icmp_ne (M := mX4_canPlace) (pc := 55) (tgt := 74) dX4_canPlace_55 rfl (fun t55 => ?_) (fun f55 => ?_)
        · have hk1 : ¬ kd = 1 := fun q9 => t55 (by rw [q9]; rfl)
          refine wp_aload (M := mX4_canPlace) (pc := 74) dX4_canPlace_74 rfl ?_
          refine so_V0 (M := mX4_canPlace) (pc := 76) cs_X4_canPlace_109 rfl rfl (LE rfl) (LE rfl) dX4_canPlace_76 (by first | exact kq | exact a2 | exact kO | exact kT) ?_
          refine sp_X5_owedInAll a2 a7 a8 ?_
          refine kI ?_
          refine wp_aload_n (M := mX4_canPlace) (pc := 79) dX4_canPlace_79 rfl ?_
          refine wp_iload_n (M := mX4_canPlace) (pc := 80) dX4_canPlace_80 rfl ?_
          refine wp_iconst (M := mX4_canPlace) (pc := 81) (v := 2) dX4_canPlace_81 ci_2 ?_
          refine so_V2 (M := mX4_canPlace) (pc := 82) cs_X4_canPlace_101 rfl rfl (LE rfl) (LE rfl) dX4_canPlace_82 (by first | exact kq | exact a2 | exact kO | exact kT) ?_
          refine sp_X4_quantityOf (kd := 2) hR2 (by omega) (by decide) ?_
          refine kI ?_
          refine wp_iadd (M := mX4_canPlace) (pc := 85) dX4_canPlace_85 ?_
          refine wp_iload (M := mX4_canPlace) (pc := 86) dX4_canPlace_86 rfl ?_
          refine wp_iadd (M := mX4_canPlace) (pc := 88) dX4_canPlace_88 ?_
          refine wp_bipush (M := mX4_canPlace) (pc := 89) (v := 99) dX4_canPlace_89 cb_99 ?_
          refine wp_icmp_gt (M := mX4_canPlace) (pc := 91) (tgt := 98) dX4_canPlace_91 rfl (fun t91 => ?_) (fun f91 => ?_)
          · rw [ed] at t91
            refine wp_iconst (M := mX4_canPlace) (pc := 98) (v := 0) dX4_canPlace_98 ci_0 ?_
            refine wp_zreturn (M := mX4_canPlace) (pc := 99) rfl (by decide) dX4_canPlace_99 ?_
            first
            | exact k0 (fun c => by have := c.2.2; rw [if_neg hk0, if_neg hk1] at this; exact absurd t91 (Int32.not_lt.mpr this))
            | exact k1 ⟨hlen, hsu, by rw [if_neg hk0, if_neg hk1]; exact Int32.not_lt.mp f91⟩
            | fail "leaf"
          · rw [ed] at f91
            refine wp_iconst (M := mX4_canPlace) (pc := 94) (v := 1) dX4_canPlace_94 ci_1 ?_
            refine wp_goto (M := mX4_canPlace) (pc := 95) (tgt := 99) dX4_canPlace_95 rfl ?_
            refine wp_zreturn (M := mX4_canPlace) (pc := 99) rfl (by decide) dX4_canPlace_99 ?_
            first
            | exact k0 (fun c => by have := c.2.2; rw [if_neg hk0, if_neg hk1] at this; exact absurd t91 (Int32.not_lt.mpr this))
            | exact k1 ⟨hlen, hsu, by rw [if_neg hk0, if_neg hk1]; exact Int32.not_lt.mp f91⟩
            | fail "leaf"
        · have hk1 : kd = 1 := (i_eq (b := 1) (by omega) (by decide)).mp f55
          refine wp_aload (M := mX4_canPlace) (pc := 58) dX4_canPlace_58 rfl ?_
          refine so_V0 (M := mX4_canPlace) (pc := 60) cs_X4_canPlace_130 rfl rfl (LE rfl) (LE rfl) dX4_canPlace_60 (by first | exact kq | exact a2 | exact kO | exact kT) ?_
          refine sp_X5_credits a2 ?_
          refine kI ?_
          refine wp_iload (M := mX4_canPlace) (pc := 63) dX4_canPlace_63 rfl ?_
          refine wp_icmp_lt (M := mX4_canPlace) (pc := 65) (tgt := 72) dX4_canPlace_65 rfl (fun t65 => ?_) (fun f65 => ?_)
          · rw [e2, e3] at t65
            refine wp_iconst (M := mX4_canPlace) (pc := 72) (v := 0) dX4_canPlace_72 ci_0 ?_
            refine wp_zreturn (M := mX4_canPlace) (pc := 73) rfl (by decide) dX4_canPlace_73 ?_
            first
            | exact k0 (fun c => by have := c.2.2; rw [if_neg hk0, if_pos hk1] at this; exact absurd t65 (Int32.not_lt.mpr this))
            | exact k1 ⟨hlen, hsu, by rw [if_neg hk0, if_pos hk1]; exact Int32.not_lt.mp f65⟩
            | fail "leaf"
          · rw [e2, e3] at f65
            refine wp_iconst (M := mX4_canPlace) (pc := 68) (v := 1) dX4_canPlace_68 ci_1 ?_
            refine wp_goto (M := mX4_canPlace) (pc := 69) (tgt := 73) dX4_canPlace_69 rfl ?_
            refine wp_zreturn (M := mX4_canPlace) (pc := 73) rfl (by decide) dX4_canPlace_73 ?_
            first
            | exact k0 (fun c => by have := c.2.2; rw [if_neg hk0, if_pos hk1] at this; exact absurd t65 (Int32.not_lt.mpr this))
            | exact k1 ⟨hlen, hsu, by rw [if_neg hk0, if_pos hk1]; exact Int32.not_lt.mp f65⟩
            | fail "leaf"
      · have hk0 : kd = 0 := (i_eq (b := 0) (by omega) (by decide)).mp f32
        refine wp_aload (M := mX4_canPlace) (pc := 35) dX4_canPlace_35 rfl ?_
        refine wp_getI (M := mX4_canPlace) (pc := 37) fa_X4_98 rfl dX4_canPlace_37 (by first | exact kq | exact a2 | exact kO | exact kT) ?_
        refine wp_iload_n (M := mX4_canPlace) (pc := 40) dX4_canPlace_40 rfl ?_
        refine wp_iload (M := mX4_canPlace) (pc := 41) dX4_canPlace_41 rfl ?_
        refine wp_imul (M := mX4_canPlace) (pc := 43) dX4_canPlace_43 ?_
        refine wp_icmp_lt (M := mX4_canPlace) (pc := 44) (tgt := 51) dX4_canPlace_44 rfl (fun t44 => ?_) (fun f44 => ?_)
        · rw [e4] at t44
          refine wp_iconst (M := mX4_canPlace) (pc := 51) (v := 0) dX4_canPlace_51 ci_0 ?_
          refine wp_zreturn (M := mX4_canPlace) (pc := 52) rfl (by decide) dX4_canPlace_52 ?_
          first
          | exact k0 (fun c => by have := c.2.2; rw [if_pos hk0] at this; exact absurd t44 (Int32.not_lt.mpr this))
          | exact k1 ⟨hlen, hsu, by rw [if_pos hk0]; exact Int32.not_lt.mp f44⟩
          | fail "leaf"
        · rw [e4] at f44
          refine wp_iconst (M := mX4_canPlace) (pc := 47) (v := 1) dX4_canPlace_47 ci_1 ?_
          refine wp_goto (M := mX4_canPlace) (pc := 48) (tgt := 52) dX4_canPlace_48 rfl ?_
          refine wp_zreturn (M := mX4_canPlace) (pc := 52) rfl (by decide) dX4_canPlace_52 ?_
          first
          | exact k0 (fun c => by have := c.2.2; rw [if_pos hk0] at this; exact absurd t44 (Int32.not_lt.mpr this))
          | exact k1 ⟨hlen, hsu, by rw [if_pos hk0]; exact Int32.not_lt.mp f44⟩
          | fail "leaf"
    · have hsu : susp A t := by
        by_cases q9 : susp A t
        · exact q9
        · rw [if_neg q9] at f26; exact absurd rfl f26
      refine wp_iconst (M := mX4_canPlace) (pc := 29) (v := 0) dX4_canPlace_29 ci_0 ?_
      refine wp_zreturn (M := mX4_canPlace) (pc := 30) rfl (by decide) dX4_canPlace_30 ?_
      first
      | exact k0 (fun c => absurd c.1 (by have := n_ge n12 (by decide) t17; omega))
      | exact k0 (fun c => c.2.1 hsu)
      | fail "leaf"
set_option maxHeartbeats 4000000 in
theorem pl_X4_place {q : Nat} {l : Lt} {A : Sta} {kd t : Nat} {p z : Int32} (hR : RepC h q l A) (ht : t < sN A) (hkd : kd < 3) (h12 : (sO A).length < 12) {x1 x2 x3 x4 : Option Value} (e1 : x1 = some (.int (nI kd))) (e2 : x2 = some (.int (nI t))) (e3 : x3 = some (.int p)) (e4 : x4 = some (.int z)) (k : ∀ h', RepC h' q l (addO A (t, kd, p, z)) → Fr (fun x => x = q) h h' → Q (.inl (some (.int (nI (sO A).length)))) h') : WPx E mX4_place 42 [some (.ref q), x1, x2, x3, x4] [] (0, 0) h Q := by
  subst e1 e2 e3 e4
  have hR2 := hR
  obtain ⟨hL, hN, hT, hO⟩ := hR
  obtain ⟨⟨kq, tq⟩, ⟨rT, kT, tT⟩, ⟨rO, kO, tO⟩, hLT, hLO, hinj⟩ := hL
  obtain ⟨⟨n2, n6⟩, ⟨n3, n12⟩, n4, n5, n6', n7, n8, n9, n10, n11⟩ := hN
  obtain ⟨a1, ⟨a2, a3⟩, ⟨a4, a5, a6⟩, a7, a8, a9⟩ := hLT t (by omega)
  obtain ⟨b1, b2, j9, b3⟩ := hLO _ h12
  have hq : q ≠ lO l (sO A).length := ne_tg tq b3 (by simp)
  refine wp_aload_n (M := mX4_place) (pc := 42) dX4_place_42 rfl ?_
  refine wp_getR (M := mX4_place) (pc := 43) fa_X4_19 rfl dX4_place_43 (by first | exact kq | exact kO | exact b2) (by first | exact rO | exact b1) ?_
  refine wp_aload_n (M := mX4_place) (pc := 46) dX4_place_46 rfl ?_
  refine wp_getI (M := mX4_place) (pc := 47) fa_X4_41 rfl dX4_place_47 (by first | exact kq | exact kO | exact b2) ?_
  refine wr_aaload (M := mX4_place) (pc := 50) dX4_place_50 (by first | exact kq | exact kO | exact b2) (by decide) n3 h12 (by decide) (by first | exact rO | exact b1) ?_
  refine wp_iload_n (M := mX4_place) (pc := 51) dX4_place_51 rfl ?_
  refine wp_iload_n (M := mX4_place) (pc := 52) dX4_place_52 rfl ?_
  refine wp_iload_n (M := mX4_place) (pc := 53) dX4_place_53 rfl ?_
  refine wp_iload (M := mX4_place) (pc := 54) dX4_place_54 rfl ?_
  refine so_V4 (M := mX4_place) (pc := 56) cs_X4_place_76 rfl rfl (LE rfl) (LE rfl) dX4_place_56 (by first | exact kq | exact kO | exact b2) ?_
  refine sp_X3_begin b2 ?_
  refine kV ?_
  refine wp_aload_n (M := mX4_place) (pc := 59) dX4_place_59 rfl ?_
  refine wp_dup (M := mX4_place) (pc := 60) dX4_place_60 rfl ?_
  refine wp_getI (M := mX4_place) (pc := 61) fa_X4_41 rfl dX4_place_61 (by first | exact kq | exact kO | exact b2) ?_
  refine wp_iconst (M := mX4_place) (pc := 64) (v := 1) dX4_place_64 ci_1 ?_
  refine wp_iadd (M := mX4_place) (pc := 65) dX4_place_65 ?_
  refine wp_putI (M := mX4_place) (pc := 66) fa_X4_41 (Or.inl rfl) dX4_place_66 (by first | exact kq | exact kO | exact b2) ?_
  refine wp_aload_n (M := mX4_place) (pc := 69) dX4_place_69 rfl ?_
  refine wp_getI (M := mX4_place) (pc := 70) fa_X4_41 rfl dX4_place_70 (by first | exact kq | exact kO | exact b2) ?_
  refine wp_iconst (M := mX4_place) (pc := 73) (v := 1) dX4_place_73 ci_1 ?_
  refine wp_isub (M := mX4_place) (pc := 74) dX4_place_74 ?_
  refine wp_ireturn (M := mX4_place) (pc := 75) rfl dX4_place_75 ?_
  simp only [gi_si_ne _ _ _ hq, n3]
  rw [show nI (sO A).length + 1 = nI ((sO A).length + 1) from nI_1 _]
  rw [gi_si_at, upd_at, nI_pred]
  have F1 : Fr (fun x => x = q) h (si (si (si (si h (lO l (sO A).length) 0 (nI t)) (lO l (sO A).length) 1 (nI kd)) (lO l (sO A).length) 2 p) (lO l (sO A).length) 3 z) := ((Fr.si (hR2.ownO h12)).tr (Fr.si (hR2.ownO h12))).tr ((Fr.si (hR2.ownO h12)).tr (Fr.si (hR2.ownO h12)))
  exact k _ (hR2.sNew ht hkd h12) (F1.tr (Fr.si hR2.ownS))
set_option maxHeartbeats 4000000 in
set_option maxRecDepth 100000 in
theorem sp_X4_place {q : Nat} {l : Lt} {A : Sta} {kd t : Nat} {p z : Int32} (hR : RepC h q l A) (ht : t < sN A) (hkd : kd < 3) (h12 : (sO A).length < 12) (k : ∀ h', RepC h' q l (placeA A kd t p z) → Fr (fun x => x = q) h h' → Q (.inl (some (.int (nI (sO A).length)))) h') : WPx E mX4_place 0 [some (.ref q), some (.int (nI kd)), some (.int (nI t)), some (.int p), some (.int z)] [] (0, 0) h Q := by
  have hR2 := hR
  obtain ⟨hL, hN, hT, hO⟩ := hR
  obtain ⟨⟨kq, tq⟩, ⟨rT, kT, tT⟩, ⟨rO, kO, tO⟩, hLT, hLO, hinj⟩ := hL
  obtain ⟨⟨n2, n6⟩, ⟨n3, n12⟩, n4, n5, n6', n7, n8, n9, n10, n11⟩ := hN
  obtain ⟨a1, ⟨a2, a3⟩, ⟨a4, a5, a6⟩, a7, a8, a9⟩ := hLT t (by omega)
  have e4 := hR2.tF ht (k := 4) (by decide)
  refine wp_iload_n (M := mX4_place) (pc := 0) dX4_place_0 rfl ?_
  refine wp_if_ne (M := mX4_place) (pc := 1) (tgt := 25) dX4_place_1 rfl (fun t1 => ?_) (fun f1 => ?_)
  · have hk0 : ¬ kd = 0 := fun q9 => t1 (by rw [q9]; rfl)
    refine wp_iload_n (M := mX4_place) (pc := 25) dX4_place_25 rfl ?_
    refine wp_iconst (M := mX4_place) (pc := 26) (v := 1) dX4_place_26 ci_1 ?_
    refine wp_icmp_ne (M := mX4_place) (pc := 27) (tgt := 42) dX4_place_27 rfl (fun t27 => ?_) (fun f27 => ?_)
    · have hk1 : ¬ kd = 1 := fun q9 => t27 (by rw [q9]; rfl)
      first
      | (have e9 : placeT A kd t p z = A := by rw [placeT, if_neg hk0, if_neg hk1]
         exact pl_X4_place hR2 ht hkd h12 rfl rfl rfl rfl (fun h' a b => k h' (by rw [placeA, e9]; exact a) b))
      | (have e9 : placeT A kd t p z = takeA A t z := by rw [placeT, if_neg hk0, if_pos hk1]
         exact pl_X4_place (A := takeA A t z) (hR2.take ht z) ht hkd h12 rfl rfl rfl rfl (fun h' a b => k h' (by rw [placeA, e9]; exact a) ((Fr.sw (hR2.ownT (by omega))).tr b)))
      | (have e9 : placeT A kd t p z = wF A t 4 (fT A t 4 - p * z) := by rw [placeT, if_pos hk0]
         rw [e4]
         exact pl_X4_place (A := wF A t 4 (fT A t 4 - p * z)) (hR2.sF ht (by decide) _) ht hkd h12 rfl rfl rfl rfl (fun h' a b => k h' (by rw [placeA, e9]; exact a) ((Fr.si (hR2.ownT (by omega))).tr b)))
      | fail "leaf"
    · have hk1 : kd = 1 := (i_eq (b := 1) (by omega) (by decide)).mp f27
      refine wp_aload_n (M := mX4_place) (pc := 30) dX4_place_30 rfl ?_
      refine wp_getR (M := mX4_place) (pc := 31) fa_X4_11 rfl dX4_place_31 (by first | exact kq | exact a2 | exact kO | exact kT) (by first | exact rT | exact a1) ?_
      refine wp_iload_n (M := mX4_place) (pc := 34) dX4_place_34 rfl ?_
      refine wr_aaload (M := mX4_place) (pc := 35) dX4_place_35 (by first | exact kq | exact a2 | exact kO | exact kT) (by decide) rfl (by omega) (by decide) (by first | exact rT | exact a1) ?_
      refine wp_iload (M := mX4_place) (pc := 36) dX4_place_36 rfl ?_
      refine so_V1 (M := mX4_place) (pc := 38) cs_X4_place_136 rfl rfl (LE rfl) (LE rfl) dX4_place_38 (by first | exact kq | exact a2 | exact kO | exact kT) ?_
      refine sp_X5_takeUpTo a2 ?_
      refine kI ?_
      refine wp_pop (M := mX4_place) (pc := 41) dX4_place_41 rfl ?_
      first
      | (have e9 : placeT A kd t p z = A := by rw [placeT, if_neg hk0, if_neg hk1]
         exact pl_X4_place hR2 ht hkd h12 rfl rfl rfl rfl (fun h' a b => k h' (by rw [placeA, e9]; exact a) b))
      | (have e9 : placeT A kd t p z = takeA A t z := by rw [placeT, if_neg hk0, if_pos hk1]
         exact pl_X4_place (A := takeA A t z) (hR2.take ht z) ht hkd h12 rfl rfl rfl rfl (fun h' a b => k h' (by rw [placeA, e9]; exact a) ((Fr.sw (hR2.ownT (by omega))).tr b)))
      | (have e9 : placeT A kd t p z = wF A t 4 (fT A t 4 - p * z) := by rw [placeT, if_pos hk0]
         rw [e4]
         exact pl_X4_place (A := wF A t 4 (fT A t 4 - p * z)) (hR2.sF ht (by decide) _) ht hkd h12 rfl rfl rfl rfl (fun h' a b => k h' (by rw [placeA, e9]; exact a) ((Fr.si (hR2.ownT (by omega))).tr b)))
      | fail "leaf"
  · have hk0 : kd = 0 := (i_eq (b := 0) (by omega) (by decide)).mp f1
    refine wp_aload_n (M := mX4_place) (pc := 4) dX4_place_4 rfl ?_
    refine wp_getR (M := mX4_place) (pc := 5) fa_X4_11 rfl dX4_place_5 (by first | exact kq | exact a2 | exact kO | exact kT) (by first | exact rT | exact a1) ?_
    refine wp_iload_n (M := mX4_place) (pc := 8) dX4_place_8 rfl ?_
    refine wr_aaload (M := mX4_place) (pc := 9) dX4_place_9 (by first | exact kq | exact a2 | exact kO | exact kT) (by decide) rfl (by omega) (by decide) (by first | exact rT | exact a1) ?_
    refine wp_dup (M := mX4_place) (pc := 10) dX4_place_10 rfl ?_
    refine wp_getI (M := mX4_place) (pc := 11) fa_X4_98 rfl dX4_place_11 (by first | exact kq | exact a2 | exact kO | exact kT) ?_
    refine wp_iload_n (M := mX4_place) (pc := 14) dX4_place_14 rfl ?_
    refine wp_iload (M := mX4_place) (pc := 15) dX4_place_15 rfl ?_
    refine wp_imul (M := mX4_place) (pc := 17) dX4_place_17 ?_
    refine wp_isub (M := mX4_place) (pc := 18) dX4_place_18 ?_
    refine wp_putI (M := mX4_place) (pc := 19) fa_X4_98 (Or.inl rfl) dX4_place_19 (by first | exact kq | exact a2 | exact kO | exact kT) ?_
    refine wp_goto (M := mX4_place) (pc := 22) (tgt := 42) dX4_place_22 rfl ?_
    first
    | (have e9 : placeT A kd t p z = A := by rw [placeT, if_neg hk0, if_neg hk1]
       exact pl_X4_place hR2 ht hkd h12 rfl rfl rfl rfl (fun h' a b => k h' (by rw [placeA, e9]; exact a) b))
    | (have e9 : placeT A kd t p z = takeA A t z := by rw [placeT, if_neg hk0, if_pos hk1]
       exact pl_X4_place (A := takeA A t z) (hR2.take ht z) ht hkd h12 rfl rfl rfl rfl (fun h' a b => k h' (by rw [placeA, e9]; exact a) ((Fr.sw (hR2.ownT (by omega))).tr b)))
    | (have e9 : placeT A kd t p z = wF A t 4 (fT A t 4 - p * z) := by rw [placeT, if_pos hk0]
       rw [e4]
       exact pl_X4_place (A := wF A t 4 (fT A t 4 - p * z)) (hR2.sF ht (by decide) _) ht hkd h12 rfl rfl rfl rfl (fun h' a b => k h' (by rw [placeA, e9]; exact a) ((Fr.si (hR2.ownT (by omega))).tr b)))
    | fail "leaf"
end SP
