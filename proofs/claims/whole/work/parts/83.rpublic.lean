section SP
variable {E : Ev} {h : PH} {Q : Rt → PH → Prop}
theorem num_f {f : Nat → Int32} {A : Sta} (H : RepR f A) {j : Nat} (hj : j ≤ 9) : f j = numA A j := by
  rcases (show j = 0 ∨ j = 1 ∨ j = 2 ∨ j = 3 ∨ j = 4 ∨ j = 5 ∨ j = 6 ∨ j = 7 ∨ j = 8 ∨ j = 9 by omega) with rfl | rfl | rfl | rfl | rfl | rfl | rfl | rfl | rfl | rfl
  · exact H.f0
  · exact H.f1
  · exact H.f2
  · exact H.f3
  · exact H.f4
  · exact H.f5
  · exact H.f6
  · exact H.f7
  · exact H.f8
  · exact H.f9
set_option maxHeartbeats 4000000 in
set_option maxRecDepth 100000 in
theorem sp_X7_append {me : Nat} {ad : Nat → Nat} {X : Abs} {w : Int32} (H : WM h me ad X)  (k1 : ∀ j, j ≤ 255 → w = nI j → xn X < 160 → ∀ h', WM h' me ad (xA X, xH X, xS X, u1 (xs X) (xn X) j, xn X + 1) → gi h' me 0 = 0 → Ow me h h' → Q (.inl (some (.int (nI (xn X + 1))))) h') (k2 : ¬ wth w 0 255 → ∀ h', WM h' me ad X → gi h' me 0 = 1 → Ow me h h' → Q (.inl (some (.int 0))) h') (k3 : wth w 0 255 → 160 ≤ xn X → ∀ h', WM h' me ad X → gi h' me 0 = 2 → Ow me h h' → Q (.inl (some (.int 0))) h') : WPx E mX7_append 0 [some (.ref me), some (.int w)] [] (0, 0) h Q := by
  have Hm := H.1
  have hR := H.2.1
  have n6 := hR.n6
  have n12 := hR.n12
  refine wp_aload_n (M := mX7_append) (pc := 0) dX7_append_0 rfl ?_
  refine wp_iload_n (M := mX7_append) (pc := 1) dX7_append_1 rfl ?_
  refine wp_i2l (M := mX7_append) (pc := 2) dX7_append_2 ?_
  refine wp_lconst (M := mX7_append) (pc := 3) (v := 0) dX7_append_3 cl_0 ?_
  refine wp_ldc2_w (M := mX7_append) (pc := 4) wv_X7_69 dX7_append_4 ?_
  refine so_S3 (M := mX7_append) (pc := 7) cs_X7_append_65 rfl rfl (LE rfl) (LE rfl) dX7_append_7 ?_
  refine sp_X7_in ?_
  rw [b01_iff (wl (x := w) (a := 0) (b := 255) (a' := 0) (b' := 255) (by decide) (by decide))]
  refine kI ?_
  refine wp_if_ne (M := mX7_append) (pc := 10) (tgt := 17) dX7_append_10 rfl (fun t10 => ?_) (fun f10 => ?_)
  · refine wp_aload_n (M := mX7_append) (pc := 17) dX7_append_17 rfl ?_
    refine wp_getI (M := mX7_append) (pc := 18) fa_X7_71 rfl dX7_append_18 (by first | exact Hm.k | exact Hm.a rfl | fail "kd") ?_
    refine wp_sipush (M := mX7_append) (pc := 21) (v := 160) dX7_append_21 ch_160 ?_
    refine wp_icmp_ne (M := mX7_append) (pc := 24) (tgt := 31) dX7_append_24 rfl (fun t24 => ?_) (fun f24 => ?_)
    · rw [H.2.2.2.2.2.1.1] at t24
      have hle := H.2.2.2.2.2.1.2
      have hlt : xn X < 160 := Nat.lt_of_le_of_ne hle (fun e => t24 (by rw [e]; rfl))
      refine wp_iconst (M := mX7_append) (pc := 31) (v := 0) dX7_append_31 ci_0 ?_
      refine so_V1 (M := mX7_append) (pc := 32) cs_X7_append_74 rfl rfl (LE rfl) (LE rfl) dX7_append_32 Hm.k ?_
      refine sp_X7_refused0 Hm.k ?_
      refine kI ?_
      refine wp_if_eq (M := mX7_append) (pc := 35) (tgt := 40) dX7_append_35 rfl (fun t35 => ?_) (fun f35 => ?_)
      · refine wp_gen (P := fun hX => WM hX me ad X ∧ gi hX me 0 = 0 ∧ Ow me h hX) ⟨H.ref, gi_si_same, Fr.si Hm.t⟩ (fun h0 HX => ?_)
        obtain ⟨H, z0, F0⟩ := HX
        have Hm := H.1
        have hR := H.2.1
        have hl := H.2.2.2.2.2.1.1
        refine wp_aload_n (M := mX7_append) (pc := 40) dX7_append_40 rfl ?_
        refine wp_getR (M := mX7_append) (pc := 41) fa_X7_26 rfl dX7_append_41 (by first | exact Hm.k | exact Hm.a rfl | fail "kd") (Hm.r rfl) ?_
        refine wp_aload_n (M := mX7_append) (pc := 44) dX7_append_44 rfl ?_
        refine wp_getI (M := mX7_append) (pc := 45) fa_X7_71 rfl dX7_append_45 (by first | exact Hm.k | exact Hm.a rfl | fail "kd") ?_
        refine wp_iload_n (M := mX7_append) (pc := 48) dX7_append_48 rfl ?_
        refine wr_iastore (M := mX7_append) (pc := 49) dX7_append_49 (by first | exact Hm.k | exact Hm.a rfl | fail "kd") hl (by omega) (by decide) ?_
        refine wp_aload_n (M := mX7_append) (pc := 50) dX7_append_50 rfl ?_
        refine wp_dup (M := mX7_append) (pc := 51) dX7_append_51 rfl ?_
        refine wp_getI (M := mX7_append) (pc := 52) fa_X7_71 rfl dX7_append_52 (by first | exact Hm.k | exact Hm.a rfl | fail "kd") ?_
        refine wp_iconst (M := mX7_append) (pc := 55) (v := 1) dX7_append_55 ci_1 ?_
        refine wp_iadd (M := mX7_append) (pc := 56) dX7_append_56 ?_
        refine wp_putI (M := mX7_append) (pc := 57) fa_X7_71 (Or.inl rfl) dX7_append_57 (by first | exact Hm.k | exact Hm.a rfl | fail "kd") ?_
        refine wp_aload_n (M := mX7_append) (pc := 60) dX7_append_60 rfl ?_
        refine wp_getI (M := mX7_append) (pc := 61) fa_X7_71 rfl dX7_append_61 (by first | exact Hm.k | exact Hm.a rfl | fail "kd") ?_
        refine wp_ireturn (M := mX7_append) (pc := 64) rfl dX7_append_64 ?_
        obtain ⟨j, hj, rfl⟩ := wth_nI (b := 255) (by decide) (b01_n t10)
        have n8 := (Hm.ne (k := 8) rfl).symm
        have e9 : gi (si h0 (ad 8) (xn X) (nI j)) me 9 = nI (xn X) := by rw [gi_si_ne _ _ _ n8]; exact hl
        rw [e9, gi_si_same, show nI (xn X) + 1 = nI (xn X + 1) from nI_1 _]
        have e : ∀ j' y, j' ≠ 8 → fsz j' = some y → gi (si (si h0 (ad 8) (xn X) (nI j)) me 9 (nI (xn X + 1))) (ad j') = gi h0 (ad j') := fun j' y q1 e => by rw [gi_si_ne _ _ _ (Hm.ne e), gi_si_ne _ _ _ (Hm.nn (k := 8) e rfl q1)]
        have F1 : Ow me h0 (si (si h0 (ad 8) (xn X) (nI j)) me 9 (nI (xn X + 1))) := (Fr.si (Hm.ta (k := 8) rfl)).tr (Fr.si (show (tg h0 me).1 = me from Hm.t))
        refine k1 j hj rfl hlt _ ?_ (by rw [gi_si_oth (by decide), gi_si_ne _ _ _ n8]; exact z0) (F0.tr F1)
        obtain ⟨g1, g2, ⟨x, g3, g4, g5⟩, ⟨g6, g7⟩, g8, g9⟩ := H
        refine ⟨Hm, by rw [e 1 _ (by decide) rfl]; exact g2, ⟨x, g3, by rw [gi_si_oth (by decide), gi_si_ne _ _ _ n8]; exact g4, by unfold HiR; rw [e 3 _ (by decide) rfl]; exact g5⟩, ⟨by rw [gi_si_oth (by decide), gi_si_ne _ _ _ n8]; exact g6, g7⟩, by unfold SlR; rw [e 6 _ (by decide) rfl, e 7 _ (by decide) rfl]; exact g8, ⟨gi_si_same, by show xn X + 1 ≤ 160; omega⟩, fun y hy => ?_⟩
        have hy' : y < xn X + 1 := hy
        show gi _ (ad 8) y = nI (u1 (xs X) (xn X) j y) ∧ u1 (xs X) (xn X) j y ≤ 255
        rw [gi_si_ne _ _ _ n8.symm, gi_si_at]
        by_cases ey : y = xn X
        · rw [ey, upd_at, u1_at]; exact ⟨rfl, hj⟩
        · rw [upd_ne _ _ ey, u1_ne _ _ ey]; exact g9.2 y (by omega)
      · exact absurd rfl f35
    · rw [H.2.2.2.2.2.1.1] at f24
      have hle := H.2.2.2.2.2.1.2
      have heq : xn X = 160 := (i_eq (b := 160) (by omega) (by decide)).mp f24
      refine wp_iconst (M := mX7_append) (pc := 27) (v := 2) dX7_append_27 ci_2 ?_
      refine wp_goto (M := mX7_append) (pc := 28) (tgt := 32) dX7_append_28 rfl ?_
      refine so_V1 (M := mX7_append) (pc := 32) cs_X7_append_74 rfl rfl (LE rfl) (LE rfl) dX7_append_32 Hm.k ?_
      refine sp_X7_refused1 (v := 2) Hm.k (by decide) ?_
      refine kI ?_
      refine wp_if_eq (M := mX7_append) (pc := 35) (tgt := 40) dX7_append_35 rfl (fun t35 => ?_) (fun f35 => ?_)
      · exact absurd t35 (by decide)
      · refine wp_iconst (M := mX7_append) (pc := 38) (v := 0) dX7_append_38 ci_0 ?_
        refine wp_ireturn (M := mX7_append) (pc := 39) rfl dX7_append_39 ?_
        exact k3 (b01_n t10) (by omega) _ H.ref gi_si_same (Fr.si Hm.t)
  · refine wp_iconst (M := mX7_append) (pc := 13) (v := 1) dX7_append_13 ci_1 ?_
    refine wp_goto (M := mX7_append) (pc := 14) (tgt := 32) dX7_append_14 rfl ?_
    refine so_V1 (M := mX7_append) (pc := 32) cs_X7_append_74 rfl rfl (LE rfl) (LE rfl) dX7_append_32 Hm.k ?_
    refine sp_X7_refused1 (v := 1) Hm.k (by decide) ?_
    refine kI ?_
    refine wp_if_eq (M := mX7_append) (pc := 35) (tgt := 40) dX7_append_35 rfl (fun t35 => ?_) (fun f35 => ?_)
    · exact absurd t35 (by decide)
    · refine wp_iconst (M := mX7_append) (pc := 38) (v := 0) dX7_append_38 ci_0 ?_
      refine wp_ireturn (M := mX7_append) (pc := 39) rfl dX7_append_39 ?_
      exact k2 (b01_z f10) _ H.ref gi_si_same (Fr.si Hm.t)
set_option maxHeartbeats 4000000 in
set_option maxRecDepth 100000 in
theorem sp_X7_clearText {me : Nat} {ad : Nat → Nat} {X : Abs} (H : WM h me ad X) (k1 : ∀ h', WM h' me ad (xA X, xH X, xS X, xs X, 0) → gi h' me 0 = 0 → Ow me h h' → Q (.inl (some (.int (nI (xn X))))) h') : WPx E mX7_clearText 0 [some (.ref me), none] [] (0, 0) h Q := by
  have Hm := H.1
  have hR := H.2.1
  have n6 := hR.n6
  have n12 := hR.n12
  refine wp_aload_n (M := mX7_clearText) (pc := 0) dX7_clearText_0 rfl ?_
  refine wp_iconst (M := mX7_clearText) (pc := 1) (v := 0) dX7_clearText_1 ci_0 ?_
  refine wp_putI (M := mX7_clearText) (pc := 2) fa_X7_51 (Or.inl rfl) dX7_clearText_2 Hm.k ?_
  refine wp_aload_n (M := mX7_clearText) (pc := 5) dX7_clearText_5 rfl ?_
  refine wp_getI (M := mX7_clearText) (pc := 6) fa_X7_71 rfl dX7_clearText_6 Hm.k ?_
  refine so_istore_n (M := mX7_clearText) (pc := 9) (lo' := [_, _]) dX7_clearText_9 (LE rfl) (LE rfl) (Or.inr rfl) rfl ?_
  refine wp_aload_n (M := mX7_clearText) (pc := 10) dX7_clearText_10 rfl ?_
  refine wp_iconst (M := mX7_clearText) (pc := 11) (v := 0) dX7_clearText_11 ci_0 ?_
  refine wp_putI (M := mX7_clearText) (pc := 12) fa_X7_71 (Or.inl rfl) dX7_clearText_12 Hm.k ?_
  refine wp_iload_n (M := mX7_clearText) (pc := 15) dX7_clearText_15 rfl ?_
  refine wp_ireturn (M := mX7_clearText) (pc := 16) rfl dX7_clearText_16 ?_
  have hl := H.2.2.2.2.2.1.1
  rw [gi_si_oth (by decide), hl]
  refine k1 _ ?_ (by rw [gi_si_oth (by decide)]; exact gi_si_same) ((Fr.si Hm.t).tr (Fr.si (show (tg h me).1 = me from Hm.t)))
  have e : ∀ j' y, fsz j' = some y → gi (si (si h me 0 0) me 9 0) (ad j') = gi h (ad j') := fun j' y e => by rw [gi_si_ne _ _ _ (Hm.ne e), gi_si_ne _ _ _ (Hm.ne e)]
  obtain ⟨g1, g2, ⟨x, g3, g4, g5⟩, ⟨g6, g7⟩, g8, g9⟩ := H
  exact ⟨Hm, by rw [e 1 _ rfl]; exact g2, ⟨x, g3, by rw [gi_si_oth (by decide), gi_si_oth (by decide)]; exact g4, by unfold HiR; rw [e 3 _ rfl]; exact g5⟩, ⟨by rw [gi_si_oth (by decide), gi_si_oth (by decide)]; exact g6, g7⟩, by unfold SlR; rw [e 6 _ rfl, e 7 _ rfl]; exact g8, ⟨by rw [gi_si_same]; rfl, Nat.zero_le _⟩, fun y hy => absurd hy (Nat.not_lt_zero _)⟩
set_option maxHeartbeats 4000000 in
set_option maxRecDepth 100000 in
theorem sp_X7_errorPosition {me : Nat} {ad : Nat → Nat} {X : Abs} (H : WM h me ad X) (k1 : ∀ h', WM h' me ad X → gi h' me 0 = 0 → Ow me h h' → Q (.inl (some (.int (rdE (xs X) (xn X))))) h') : WPx E mX7_errorPosition 0 [some (.ref me)] [] (0, 0) h Q := by
  have Hm := H.1
  have hR := H.2.1
  have n6 := hR.n6
  have n12 := hR.n12
  refine wp_aload_n (M := mX7_errorPosition) (pc := 0) dX7_errorPosition_0 rfl ?_
  refine wp_iconst (M := mX7_errorPosition) (pc := 1) (v := 0) dX7_errorPosition_1 ci_0 ?_
  refine wp_putI (M := mX7_errorPosition) (pc := 2) fa_X7_51 (Or.inl rfl) dX7_errorPosition_2 Hm.k ?_
  refine wp_aload_n (M := mX7_errorPosition) (pc := 5) dX7_errorPosition_5 rfl ?_
  refine so_V0 (M := mX7_errorPosition) (pc := 6) cs_X7_errorPosition_111 rfl rfl (LE rfl) (LE rfl) dX7_errorPosition_6 Hm.k ?_
  have H0 := H.ref (v := 0)
  refine sp_X7_readText H0.1 H0.2.2.2.2.2 (fun h1 F1 R1 => ?_)
  refine kI ?_
  refine wp_ireturn (M := mX7_errorPosition) (pc := 9) rfl dX7_errorPosition_9 ?_
  exact k1 h1 (H0.D F1) (by rw [F1.2.2 0 (by decide)]; exact gi_si_same) ((Fr.si Hm.t).tr (FrD.ow H0.1 F1))
set_option maxHeartbeats 4000000 in
set_option maxRecDepth 100000 in
theorem sp_X7_about {me : Nat} {ad : Nat → Nat} {X : Abs} {w : Int32} (H : WM h me ad X)  (k1 : ∀ j, j ≤ 9 → w = nI j → ∀ h', WM h' me ad X → gi h' me 0 = 0 → Ow me h h' → Q (.inl (some (.int (numA (xA X) j)))) h') (k2 : ¬ wth w 0 9 → ∀ h', WM h' me ad X → gi h' me 0 = 1 → Ow me h h' → Q (.inl (some (.int 0))) h') : WPx E mX7_about 0 [some (.ref me), some (.int w)] [] (0, 0) h Q := by
  have Hm := H.1
  have hR := H.2.1
  have n6 := hR.n6
  have n12 := hR.n12
  refine wp_aload_n (M := mX7_about) (pc := 0) dX7_about_0 rfl ?_
  refine wp_iload_n (M := mX7_about) (pc := 1) dX7_about_1 rfl ?_
  refine wp_i2l (M := mX7_about) (pc := 2) dX7_about_2 ?_
  refine wp_lconst (M := mX7_about) (pc := 3) (v := 0) dX7_about_3 cl_0 ?_
  refine wp_ldc2_w (M := mX7_about) (pc := 4) wv_X7_81 dX7_about_4 ?_
  refine so_S3 (M := mX7_about) (pc := 7) cs_X7_about_65 rfl rfl (LE rfl) (LE rfl) dX7_about_7 ?_
  refine sp_X7_in ?_
  rw [b01_iff (wl (x := w) (a := 0) (b := 9) (a' := 0) (b' := 9) (by decide) (by decide))]
  refine kI ?_
  refine wp_if_eq (M := mX7_about) (pc := 10) (tgt := 17) dX7_about_10 rfl (fun t10 => ?_) (fun f10 => ?_)
  · refine wp_iconst (M := mX7_about) (pc := 17) (v := 1) dX7_about_17 ci_1 ?_
    refine so_V1 (M := mX7_about) (pc := 18) cs_X7_about_74 rfl rfl (LE rfl) (LE rfl) dX7_about_18 Hm.k ?_
    refine sp_X7_refused1 (v := 1) Hm.k (by decide) ?_
    refine kI ?_
    refine wp_if_eq (M := mX7_about) (pc := 21) (tgt := 26) dX7_about_21 rfl (fun t21 => ?_) (fun f21 => ?_)
    · exact absurd t21 (by decide)
    · refine wp_iconst (M := mX7_about) (pc := 24) (v := 0) dX7_about_24 ci_0 ?_
      refine wp_ireturn (M := mX7_about) (pc := 25) rfl dX7_about_25 ?_
      exact k2 (b01_z t10) _ H.ref gi_si_same (Fr.si Hm.t)
  · refine wp_iconst (M := mX7_about) (pc := 13) (v := 0) dX7_about_13 ci_0 ?_
    refine wp_goto (M := mX7_about) (pc := 14) (tgt := 18) dX7_about_14 rfl ?_
    refine so_V1 (M := mX7_about) (pc := 18) cs_X7_about_74 rfl rfl (LE rfl) (LE rfl) dX7_about_18 Hm.k ?_
    refine sp_X7_refused0 Hm.k ?_
    refine kI ?_
    refine wp_if_eq (M := mX7_about) (pc := 21) (tgt := 26) dX7_about_21 rfl (fun t21 => ?_) (fun f21 => ?_)
    · refine wp_gen (P := fun hX => WM hX me ad X ∧ gi hX me 0 = 0 ∧ Ow me h hX) ⟨H.ref, gi_si_same, Fr.si Hm.t⟩ (fun h0 HX => ?_)
      obtain ⟨H, z0, F0⟩ := HX
      have Hm := H.1
      have hR := H.2.1
      obtain ⟨j, hj, rfl⟩ := wth_nI (b := 9) (by decide) (b01_n f10)
      refine wp_aload_n (M := mX7_about) (pc := 26) dX7_about_26 rfl ?_
      refine wp_getR (M := mX7_about) (pc := 27) fa_X7_7 rfl dX7_about_27 (by first | exact Hm.k | exact Hm.a rfl | fail "kd") (Hm.r rfl) ?_
      refine wp_iload_n (M := mX7_about) (pc := 30) dX7_about_30 rfl ?_
      refine wr_iaload (M := mX7_about) (pc := 31) dX7_about_31 (by first | exact Hm.k | exact Hm.a rfl | fail "kd") rfl (by omega) (by decide) ?_
      refine wp_ireturn (M := mX7_about) (pc := 32) rfl dX7_about_32 ?_
      rw [num_f hR hj]
      exact k1 j hj rfl h0 H z0 F0
    · exact absurd rfl f21
set_option maxHeartbeats 4000000 in
set_option maxRecDepth 100000 in
theorem sp_X7_tenant {me : Nat} {ad : Nat → Nat} {X : Abs} {t w : Int32} (H : WM h me ad X)  (k1 : ∀ i j, i < sN (xA X) → t = nI i → j ≤ 11 → w = nI j → ∀ h', WM h' me ad X → gi h' me 0 = 0 → Ow me h h' → Q (.inl (some (.int (tnumR (xA X) i j)))) h') (k2 : ¬ isT (xA X) t → ∀ h', WM h' me ad X → gi h' me 0 = 1 → Ow me h h' → Q (.inl (some (.int 0))) h') (k3 : isT (xA X) t → ¬ wth w 0 11 → ∀ h', WM h' me ad X → gi h' me 0 = 2 → Ow me h h' → Q (.inl (some (.int 0))) h') : WPx E mX7_tenant 0 [some (.ref me), some (.int t), some (.int w)] [] (0, 0) h Q := by
  have Hm := H.1
  have hR := H.2.1
  have n6 := hR.n6
  have n12 := hR.n12
  refine wp_aload_n (M := mX7_tenant) (pc := 0) dX7_tenant_0 rfl ?_
  refine wp_aload_n (M := mX7_tenant) (pc := 1) dX7_tenant_1 rfl ?_
  refine wp_getR (M := mX7_tenant) (pc := 2) fa_X7_7 rfl dX7_tenant_2 (by first | exact Hm.k | exact Hm.a rfl | fail "kd") (Hm.r rfl) ?_
  refine wp_iload_n (M := mX7_tenant) (pc := 5) dX7_tenant_5 rfl ?_
  refine so_S2 (M := mX7_tenant) (pc := 6) cs_X7_tenant_94 rfl rfl (LE rfl) (LE rfl) dX7_tenant_6 ?_
  refine sp_X7_isTenant (Hm.a rfl) hR ?_
  refine kI ?_
  refine wp_if_ne (M := mX7_tenant) (pc := 9) (tgt := 16) dX7_tenant_9 rfl (fun t9 => ?_) (fun f9 => ?_)
  · refine wp_iload_n (M := mX7_tenant) (pc := 16) dX7_tenant_16 rfl ?_
    refine wp_i2l (M := mX7_tenant) (pc := 17) dX7_tenant_17 ?_
    refine wp_lconst (M := mX7_tenant) (pc := 18) (v := 0) dX7_tenant_18 cl_0 ?_
    refine wp_ldc2_w (M := mX7_tenant) (pc := 19) wv_X7_133 dX7_tenant_19 ?_
    refine so_S3 (M := mX7_tenant) (pc := 22) cs_X7_tenant_65 rfl rfl (LE rfl) (LE rfl) dX7_tenant_22 ?_
    refine sp_X7_in ?_
    rw [b01_iff (wl (x := w) (a := 0) (b := 11) (a' := 0) (b' := 11) (by decide) (by decide))]
    refine kI ?_
    refine wp_if_ne (M := mX7_tenant) (pc := 25) (tgt := 32) dX7_tenant_25 rfl (fun t25 => ?_) (fun f25 => ?_)
    · refine wp_iconst (M := mX7_tenant) (pc := 32) (v := 0) dX7_tenant_32 ci_0 ?_
      refine so_V1 (M := mX7_tenant) (pc := 33) cs_X7_tenant_74 rfl rfl (LE rfl) (LE rfl) dX7_tenant_33 Hm.k ?_
      refine sp_X7_refused0 Hm.k ?_
      refine kI ?_
      refine wp_if_eq (M := mX7_tenant) (pc := 36) (tgt := 41) dX7_tenant_36 rfl (fun t36 => ?_) (fun f36 => ?_)
      · refine wp_gen (P := fun hX => WM hX me ad X ∧ gi hX me 0 = 0 ∧ Ow me h hX) ⟨H.ref, gi_si_same, Fr.si Hm.t⟩ (fun h0 HX => ?_)
        obtain ⟨H, z0, F0⟩ := HX
        have Hm := H.1
        have hR := H.2.1
        obtain ⟨i, hi9, rfl⟩ := b01_n t9
        obtain ⟨j, hj, rfl⟩ := wth_nI (b := 11) (by decide) (b01_n t25)
        refine wp_aload_n (M := mX7_tenant) (pc := 41) dX7_tenant_41 rfl ?_
        refine wp_getR (M := mX7_tenant) (pc := 42) fa_X7_7 rfl dX7_tenant_42 (by first | exact Hm.k | exact Hm.a rfl | fail "kd") (Hm.r rfl) ?_
        refine wp_iload_n (M := mX7_tenant) (pc := 45) dX7_tenant_45 rfl ?_
        refine wp_iload_n (M := mX7_tenant) (pc := 46) dX7_tenant_46 rfl ?_
        refine so_S3 (M := mX7_tenant) (pc := 47) cs_X7_tenant_135 rfl rfl (LE rfl) (LE rfl) dX7_tenant_47 ?_
        refine sp_X7_tell (Hm.a rfl) hR hi9 (by omega) ?_
        refine kI ?_
        refine wp_ireturn (M := mX7_tenant) (pc := 50) rfl dX7_tenant_50 ?_
        exact k1 i j hi9 rfl hj rfl h0 H z0 F0
      · exact absurd rfl f36
    · refine wp_iconst (M := mX7_tenant) (pc := 28) (v := 2) dX7_tenant_28 ci_2 ?_
      refine wp_goto (M := mX7_tenant) (pc := 29) (tgt := 33) dX7_tenant_29 rfl ?_
      refine so_V1 (M := mX7_tenant) (pc := 33) cs_X7_tenant_74 rfl rfl (LE rfl) (LE rfl) dX7_tenant_33 Hm.k ?_
      refine sp_X7_refused1 (v := 2) Hm.k (by decide) ?_
      refine kI ?_
      refine wp_if_eq (M := mX7_tenant) (pc := 36) (tgt := 41) dX7_tenant_36 rfl (fun t36 => ?_) (fun f36 => ?_)
      · exact absurd t36 (by decide)
      · refine wp_iconst (M := mX7_tenant) (pc := 39) (v := 0) dX7_tenant_39 ci_0 ?_
        refine wp_ireturn (M := mX7_tenant) (pc := 40) rfl dX7_tenant_40 ?_
        exact k3 (b01_n t9) (b01_z f25) _ H.ref gi_si_same (Fr.si Hm.t)
  · refine wp_iconst (M := mX7_tenant) (pc := 12) (v := 1) dX7_tenant_12 ci_1 ?_
    refine wp_goto (M := mX7_tenant) (pc := 13) (tgt := 33) dX7_tenant_13 rfl ?_
    refine so_V1 (M := mX7_tenant) (pc := 33) cs_X7_tenant_74 rfl rfl (LE rfl) (LE rfl) dX7_tenant_33 Hm.k ?_
    refine sp_X7_refused1 (v := 1) Hm.k (by decide) ?_
    refine kI ?_
    refine wp_if_eq (M := mX7_tenant) (pc := 36) (tgt := 41) dX7_tenant_36 rfl (fun t36 => ?_) (fun f36 => ?_)
    · exact absurd t36 (by decide)
    · refine wp_iconst (M := mX7_tenant) (pc := 39) (v := 0) dX7_tenant_39 ci_0 ?_
      refine wp_ireturn (M := mX7_tenant) (pc := 40) rfl dX7_tenant_40 ?_
      exact k2 (b01_z f9) _ H.ref gi_si_same (Fr.si Hm.t)
set_option maxHeartbeats 4000000 in
set_option maxRecDepth 100000 in
theorem sp_X7_message {me : Nat} {ad : Nat → Nat} {X : Abs} {t w : Int32} (H : WM h me ad X)  (k1 : ∀ i j, i < sN (xA X) → t = nI i → j ≤ 7 → w = nI j → ∀ h', WM h' me ad X → gi h' me 0 = 0 → Ow me h h' → Q (.inl (some (.int (msgA (xA X) i j)))) h') (k2 : ¬ isT (xA X) t → ∀ h', WM h' me ad X → gi h' me 0 = 1 → Ow me h h' → Q (.inl (some (.int 0))) h') (k3 : isT (xA X) t → ¬ wth w 0 7 → ∀ h', WM h' me ad X → gi h' me 0 = 2 → Ow me h h' → Q (.inl (some (.int 0))) h') : WPx E mX7_message 0 [some (.ref me), some (.int t), some (.int w)] [] (0, 0) h Q := by
  have Hm := H.1
  have hR := H.2.1
  have n6 := hR.n6
  have n12 := hR.n12
  refine wp_aload_n (M := mX7_message) (pc := 0) dX7_message_0 rfl ?_
  refine wp_aload_n (M := mX7_message) (pc := 1) dX7_message_1 rfl ?_
  refine wp_getR (M := mX7_message) (pc := 2) fa_X7_7 rfl dX7_message_2 (by first | exact Hm.k | exact Hm.a rfl | fail "kd") (Hm.r rfl) ?_
  refine wp_iload_n (M := mX7_message) (pc := 5) dX7_message_5 rfl ?_
  refine so_S2 (M := mX7_message) (pc := 6) cs_X7_message_94 rfl rfl (LE rfl) (LE rfl) dX7_message_6 ?_
  refine sp_X7_isTenant (Hm.a rfl) hR ?_
  refine kI ?_
  refine wp_if_ne (M := mX7_message) (pc := 9) (tgt := 16) dX7_message_9 rfl (fun t9 => ?_) (fun f9 => ?_)
  · refine wp_iload_n (M := mX7_message) (pc := 16) dX7_message_16 rfl ?_
    refine wp_i2l (M := mX7_message) (pc := 17) dX7_message_17 ?_
    refine wp_lconst (M := mX7_message) (pc := 18) (v := 0) dX7_message_18 cl_0 ?_
    refine wp_ldc2_w (M := mX7_message) (pc := 19) wv_X7_139 dX7_message_19 ?_
    refine so_S3 (M := mX7_message) (pc := 22) cs_X7_message_65 rfl rfl (LE rfl) (LE rfl) dX7_message_22 ?_
    refine sp_X7_in ?_
    rw [b01_iff (wl (x := w) (a := 0) (b := 7) (a' := 0) (b' := 7) (by decide) (by decide))]
    refine kI ?_
    refine wp_if_ne (M := mX7_message) (pc := 25) (tgt := 32) dX7_message_25 rfl (fun t25 => ?_) (fun f25 => ?_)
    · refine wp_iconst (M := mX7_message) (pc := 32) (v := 0) dX7_message_32 ci_0 ?_
      refine so_V1 (M := mX7_message) (pc := 33) cs_X7_message_74 rfl rfl (LE rfl) (LE rfl) dX7_message_33 Hm.k ?_
      refine sp_X7_refused0 Hm.k ?_
      refine kI ?_
      refine wp_if_eq (M := mX7_message) (pc := 36) (tgt := 41) dX7_message_36 rfl (fun t36 => ?_) (fun f36 => ?_)
      · refine wp_gen (P := fun hX => WM hX me ad X ∧ gi hX me 0 = 0 ∧ Ow me h hX) ⟨H.ref, gi_si_same, Fr.si Hm.t⟩ (fun h0 HX => ?_)
        obtain ⟨H, z0, F0⟩ := HX
        have Hm := H.1
        have hR := H.2.1
        obtain ⟨i, hi9, rfl⟩ := b01_n t9
        obtain ⟨j, hj, rfl⟩ := wth_nI (b := 7) (by decide) (b01_n t25)
        have h88 := (hR.tM hi9).2
        refine wp_iload_n (M := mX7_message) (pc := 41) dX7_message_41 rfl ?_
        refine wp_aload_n (M := mX7_message) (pc := 42) dX7_message_42 rfl ?_
        refine wp_getR (M := mX7_message) (pc := 43) fa_X7_7 rfl dX7_message_43 (by first | exact Hm.k | exact Hm.a rfl | fail "kd") (Hm.r rfl) ?_
        refine wp_iload_n (M := mX7_message) (pc := 46) dX7_message_46 rfl ?_
        refine so_S1 (M := mX7_message) (pc := 47) cs_X7_message_90 rfl rfl (LE rfl) (LE rfl) dX7_message_47 ?_
        refine sp_X7_at ?_
        refine kI ?_
        refine wp_bipush (M := mX7_message) (pc := 50) (v := 7) dX7_message_50 cb_7 ?_
        refine wp_iadd (M := mX7_message) (pc := 52) dX7_message_52 ?_
        refine wr_iaload (M := mX7_message) (pc := 53) dX7_message_53 (by first | exact Hm.k | exact Hm.a rfl | fail "kd") (ia rfl (show (7 : Int32) = nI 7 from rfl)) (by omega) (by decide) ?_
        refine wp_icmp_ge (M := mX7_message) (pc := 54) (tgt := 74) dX7_message_54 rfl (fun t54 => ?_) (fun f54 => ?_)
        · rw [(hR.tM hi9).1] at t54
          have hge : ¬ j < (sT (xA X) i).2.1.length := fun e => absurd ((i_le (by omega) (by omega)).mp t54) (by omega)
          refine wp_bipush (M := mX7_message) (pc := 74) (v := -9) dX7_message_74 cb_m9 ?_
          refine wp_ireturn (M := mX7_message) (pc := 76) rfl dX7_message_76 ?_
          first
          | (have kk := k1 i j hi9 rfl hj rfl h0 H z0 F0
             rw [msgA, if_neg hge] at kk
             exact kk)
          | (have kk := k1 i j hi9 rfl hj rfl h0 H z0 F0
             rw [msgA, if_pos hlt] at kk
             rw [hR.tm hi9 hlt]
             exact kk)
          | fail "leaf"
        · rw [(hR.tM hi9).1] at f54
          have hlt : j < (sT (xA X) i).2.1.length := Nat.lt_of_not_le (fun e => f54 ((i_le (by omega) (by omega)).mpr e))
          refine wp_aload_n (M := mX7_message) (pc := 57) dX7_message_57 rfl ?_
          refine wp_getR (M := mX7_message) (pc := 58) fa_X7_7 rfl dX7_message_58 (by first | exact Hm.k | exact Hm.a rfl | fail "kd") (Hm.r rfl) ?_
          refine wp_iload_n (M := mX7_message) (pc := 61) dX7_message_61 rfl ?_
          refine so_S1 (M := mX7_message) (pc := 62) cs_X7_message_90 rfl rfl (LE rfl) (LE rfl) dX7_message_62 ?_
          refine sp_X7_at ?_
          refine kI ?_
          refine wp_bipush (M := mX7_message) (pc := 65) (v := 8) dX7_message_65 cb_8 ?_
          refine wp_iadd (M := mX7_message) (pc := 67) dX7_message_67 ?_
          refine wp_iload_n (M := mX7_message) (pc := 68) dX7_message_68 rfl ?_
          refine wp_iadd (M := mX7_message) (pc := 69) dX7_message_69 ?_
          refine wr_iaload (M := mX7_message) (pc := 70) dX7_message_70 (by first | exact Hm.k | exact Hm.a rfl | fail "kd") (ia (ia rfl (show (8 : Int32) = nI 8 from rfl)) rfl) (by omega) (by decide) ?_
          refine wp_goto (M := mX7_message) (pc := 71) (tgt := 76) dX7_message_71 rfl ?_
          refine wp_ireturn (M := mX7_message) (pc := 76) rfl dX7_message_76 ?_
          first
          | (have kk := k1 i j hi9 rfl hj rfl h0 H z0 F0
             rw [msgA, if_neg hge] at kk
             exact kk)
          | (have kk := k1 i j hi9 rfl hj rfl h0 H z0 F0
             rw [msgA, if_pos hlt] at kk
             rw [hR.tm hi9 hlt]
             exact kk)
          | fail "leaf"
      · exact absurd rfl f36
    · refine wp_iconst (M := mX7_message) (pc := 28) (v := 2) dX7_message_28 ci_2 ?_
      refine wp_goto (M := mX7_message) (pc := 29) (tgt := 33) dX7_message_29 rfl ?_
      refine so_V1 (M := mX7_message) (pc := 33) cs_X7_message_74 rfl rfl (LE rfl) (LE rfl) dX7_message_33 Hm.k ?_
      refine sp_X7_refused1 (v := 2) Hm.k (by decide) ?_
      refine kI ?_
      refine wp_if_eq (M := mX7_message) (pc := 36) (tgt := 41) dX7_message_36 rfl (fun t36 => ?_) (fun f36 => ?_)
      · exact absurd t36 (by decide)
      · refine wp_iconst (M := mX7_message) (pc := 39) (v := 0) dX7_message_39 ci_0 ?_
        refine wp_ireturn (M := mX7_message) (pc := 40) rfl dX7_message_40 ?_
        exact k3 (b01_n t9) (b01_z f25) _ H.ref gi_si_same (Fr.si Hm.t)
  · refine wp_iconst (M := mX7_message) (pc := 12) (v := 1) dX7_message_12 ci_1 ?_
    refine wp_goto (M := mX7_message) (pc := 13) (tgt := 33) dX7_message_13 rfl ?_
    refine so_V1 (M := mX7_message) (pc := 33) cs_X7_message_74 rfl rfl (LE rfl) (LE rfl) dX7_message_33 Hm.k ?_
    refine sp_X7_refused1 (v := 1) Hm.k (by decide) ?_
    refine kI ?_
    refine wp_if_eq (M := mX7_message) (pc := 36) (tgt := 41) dX7_message_36 rfl (fun t36 => ?_) (fun f36 => ?_)
    · exact absurd t36 (by decide)
    · refine wp_iconst (M := mX7_message) (pc := 39) (v := 0) dX7_message_39 ci_0 ?_
      refine wp_ireturn (M := mX7_message) (pc := 40) rfl dX7_message_40 ?_
      exact k2 (b01_z f9) _ H.ref gi_si_same (Fr.si Hm.t)
/-- what order(i, what) answers in the reference -/
noncomputable def ordR (A : Sta) (i : Nat) : Nat → Int32
  | 0 => nI (oA A i).1
  | 1 => nI (oA A i).2.1
  | 2 => (oA A i).2.2.1
  | 3 => (oA A i).2.2.2
  | _ => (mtB (sO A)).1 i
theorem bn_all {f : Nat → Int32} {A : Sta} (hR : RepR f A) : bn A 63 (sO A).length = sO A := bn_63 hR.n6 (fun i hi => (hR.o hi).2.1)
set_option maxHeartbeats 4000000 in
set_option maxRecDepth 100000 in
theorem sp_X7_order {me : Nat} {ad : Nat → Nat} {X : Abs} {t w : Int32} (H : WM h me ad X)  (k1 : ∀ i j, i < (sO (xA X)).length → t = nI i → j ≤ 4 → w = nI j → ∀ h', WM h' me ad X → gi h' me 0 = 0 → Ow me h h' → Q (.inl (some (.int (ordR (xA X) i j)))) h') (k2 : ¬ isO (xA X) t → ∀ h', WM h' me ad X → gi h' me 0 = 1 → Ow me h h' → Q (.inl (some (.int 0))) h') (k3 : isO (xA X) t → ¬ wth w 0 4 → ∀ h', WM h' me ad X → gi h' me 0 = 2 → Ow me h h' → Q (.inl (some (.int 0))) h') : WPx E mX7_order 0 [some (.ref me), some (.int t), some (.int w)] [] (0, 0) h Q := by
  have Hm := H.1
  have hR := H.2.1
  have n6 := hR.n6
  have n12 := hR.n12
  refine wp_aload_n (M := mX7_order) (pc := 0) dX7_order_0 rfl ?_
  refine wp_aload_n (M := mX7_order) (pc := 1) dX7_order_1 rfl ?_
  refine wp_iload_n (M := mX7_order) (pc := 2) dX7_order_2 rfl ?_
  refine so_V1 (M := mX7_order) (pc := 3) cs_X7_order_141 rfl rfl (LE rfl) (LE rfl) dX7_order_3 (by first | exact Hm.k | exact Hm.a rfl | fail "kd") ?_
  refine sp_X7_isOrder Hm hR ?_
  refine kI ?_
  refine wp_if_ne (M := mX7_order) (pc := 6) (tgt := 13) dX7_order_6 rfl (fun t6 => ?_) (fun f6 => ?_)
  · refine wp_iload_n (M := mX7_order) (pc := 13) dX7_order_13 rfl ?_
    refine wp_i2l (M := mX7_order) (pc := 14) dX7_order_14 ?_
    refine wp_lconst (M := mX7_order) (pc := 15) (v := 0) dX7_order_15 cl_0 ?_
    refine wp_ldc2_w (M := mX7_order) (pc := 16) wv_X7_144 dX7_order_16 ?_
    refine so_S3 (M := mX7_order) (pc := 19) cs_X7_order_65 rfl rfl (LE rfl) (LE rfl) dX7_order_19 ?_
    refine sp_X7_in ?_
    rw [b01_iff (wl (x := w) (a := 0) (b := 4) (a' := 0) (b' := 4) (by decide) (by decide))]
    refine kI ?_
    refine wp_if_ne (M := mX7_order) (pc := 22) (tgt := 29) dX7_order_22 rfl (fun t22 => ?_) (fun f22 => ?_)
    · refine wp_iconst (M := mX7_order) (pc := 29) (v := 0) dX7_order_29 ci_0 ?_
      refine so_V1 (M := mX7_order) (pc := 30) cs_X7_order_74 rfl rfl (LE rfl) (LE rfl) dX7_order_30 Hm.k ?_
      refine sp_X7_refused0 Hm.k ?_
      refine kI ?_
      refine wp_if_eq (M := mX7_order) (pc := 33) (tgt := 38) dX7_order_33 rfl (fun t33 => ?_) (fun f33 => ?_)
      · refine wp_gen (P := fun hX => WM hX me ad X ∧ gi hX me 0 = 0 ∧ Ow me h hX) ⟨H.ref, gi_si_same, Fr.si Hm.t⟩ (fun h0 HX => ?_)
        obtain ⟨H, z0, F0⟩ := HX
        have Hm := H.1
        have hR := H.2.1
        obtain ⟨i, hi9, rfl⟩ := b01_n t6
        obtain ⟨j, hj, rfl⟩ := wth_nI (b := 4) (by decide) (b01_n t22)
        refine wp_iload_n (M := mX7_order) (pc := 38) dX7_order_38 rfl ?_
        refine wp_iconst (M := mX7_order) (pc := 39) (v := 4) dX7_order_39 ci_4 ?_
        refine wp_icmp_ge (M := mX7_order) (pc := 40) (tgt := 55) dX7_order_40 rfl (fun t40 => ?_) (fun f40 => ?_)
        · have ej : j = 4 := Nat.le_antisymm hj ((i_le (a := 4) (by decide) (by omega)).mp t40)
          subst ej
          refine wp_aload_n (M := mX7_order) (pc := 55) dX7_order_55 rfl ?_
          refine wp_aload_n (M := mX7_order) (pc := 56) dX7_order_56 rfl ?_
          refine wp_getR (M := mX7_order) (pc := 57) fa_X7_7 rfl dX7_order_57 (by first | exact Hm2.k | exact Hm2.a rfl | exact Hm1.k | exact Hm.k | exact Hm.a rfl | fail "kd") (by first | exact Hm2.r rfl | exact Hm.r rfl) ?_
          refine wp_bipush (M := mX7_order) (pc := 60) (v := 63) dX7_order_60 cb_63 ?_
          refine so_V2 (M := mX7_order) (pc := 62) cs_X7_order_146 rfl rfl (LE rfl) (LE rfl) dX7_order_62 (by first | exact Hm2.k | exact Hm2.a rfl | exact Hm1.k | exact Hm.k | exact Hm.a rfl | fail "kd") ?_
          refine sp_X7_layBench Hm (Hm.a rfl) hR (Hm.na (j := 1) rfl (by decide) (by decide) (by decide) (by decide)) (fun h1 Hm1 B1 F1 => ?_)
          rw [bn_all hR] at B1
          refine kV ?_
          refine wp_aload_n (M := mX7_order) (pc := 65) dX7_order_65 rfl ?_
          refine so_V0 (M := mX7_order) (pc := 66) cs_X7_order_150 rfl rfl (LE rfl) (LE rfl) dX7_order_66 (by first | exact Hm2.k | exact Hm2.a rfl | exact Hm1.k | exact Hm.k | exact Hm.a rfl | fail "kd") ?_
          refine sp_X7_match Hm1 B1 (fun h2 Hm2 B2 F2 M2 => ?_)
          have F12 : FrB me ad (fun x => x = ad 2) h0 h2 := (F1.tr F2).mono (fun _ q => absurd q id)
          have H2 := H.B F12
          have z2 : gi h2 me 0 = 0 := by rw [F12.2.2 0 (by decide) (by decide) (by decide) (by decide)]; exact z0
          have O2 := F0.tr (FrB.ow Hm F12 (fun x e => by rw [e]; exact Hm.ta (k := 2) rfl))
          refine kV ?_
          refine wp_aload_n (M := mX7_order) (pc := 69) dX7_order_69 rfl ?_
          refine wp_getR (M := mX7_order) (pc := 70) fa_X7_41 rfl dX7_order_70 (by first | exact Hm2.k | exact Hm2.a rfl | exact Hm1.k | exact Hm.k | exact Hm.a rfl | fail "kd") (by first | exact Hm2.r rfl | exact Hm.r rfl) ?_
          refine wp_iload_n (M := mX7_order) (pc := 73) dX7_order_73 rfl ?_
          refine wr_iaload (M := mX7_order) (pc := 74) dX7_order_74 (by first | exact Hm2.k | exact Hm2.a rfl | exact Hm1.k | exact Hm.k | exact Hm.a rfl | fail "kd") rfl (by omega) (by decide) ?_
          refine wp_ireturn (M := mX7_order) (pc := 75) rfl dX7_order_75 ?_
          rw [M2.1 i hi9]
          exact k1 i 4 hi9 rfl hj rfl h2 H2 z2 O2
        · have hlt : j < 4 := Nat.lt_of_not_le (fun e => f40 ((i_le (a := 4) (by decide) (by omega)).mpr e))
          obtain ⟨⟨o0, o1, o2, o3⟩, o4, o5⟩ := hR.o hi9
          refine wp_aload_n (M := mX7_order) (pc := 43) dX7_order_43 rfl ?_
          refine wp_getR (M := mX7_order) (pc := 44) fa_X7_7 rfl dX7_order_44 (by first | exact Hm2.k | exact Hm2.a rfl | exact Hm1.k | exact Hm.k | exact Hm.a rfl | fail "kd") (by first | exact Hm2.r rfl | exact Hm.r rfl) ?_
          refine wp_iload_n (M := mX7_order) (pc := 47) dX7_order_47 rfl ?_
          refine so_S1 (M := mX7_order) (pc := 48) cs_X7_order_119 rfl rfl (LE rfl) (LE rfl) dX7_order_48 ?_
          refine sp_X7_orderAt ?_
          refine kI ?_
          refine wp_iload_n (M := mX7_order) (pc := 51) dX7_order_51 rfl ?_
          refine wp_iadd (M := mX7_order) (pc := 52) dX7_order_52 ?_
          refine wr_iaload (M := mX7_order) (pc := 53) dX7_order_53 (by first | exact Hm2.k | exact Hm2.a rfl | exact Hm1.k | exact Hm.k | exact Hm.a rfl | fail "kd") (ia rfl rfl) (by omega) (by decide) ?_
          refine wp_ireturn (M := mX7_order) (pc := 54) rfl dX7_order_54 ?_
          have kk := k1 i j hi9 rfl hj rfl h0 H z0 F0
          rcases (show j = 0 ∨ j = 1 ∨ j = 2 ∨ j = 3 by omega) with rfl | rfl | rfl | rfl
          · rw [o0]; exact kk
          · rw [o1]; exact kk
          · rw [o2]; exact kk
          · rw [o3]; exact kk
      · exact absurd rfl f33
    · refine wp_iconst (M := mX7_order) (pc := 25) (v := 2) dX7_order_25 ci_2 ?_
      refine wp_goto (M := mX7_order) (pc := 26) (tgt := 30) dX7_order_26 rfl ?_
      refine so_V1 (M := mX7_order) (pc := 30) cs_X7_order_74 rfl rfl (LE rfl) (LE rfl) dX7_order_30 Hm.k ?_
      refine sp_X7_refused1 (v := 2) Hm.k (by decide) ?_
      refine kI ?_
      refine wp_if_eq (M := mX7_order) (pc := 33) (tgt := 38) dX7_order_33 rfl (fun t33 => ?_) (fun f33 => ?_)
      · exact absurd t33 (by decide)
      · refine wp_iconst (M := mX7_order) (pc := 36) (v := 0) dX7_order_36 ci_0 ?_
        refine wp_ireturn (M := mX7_order) (pc := 37) rfl dX7_order_37 ?_
        exact k3 (b01_n t6) (b01_z f22) _ H.ref gi_si_same (Fr.si Hm.t)
  · refine wp_iconst (M := mX7_order) (pc := 9) (v := 1) dX7_order_9 ci_1 ?_
    refine wp_goto (M := mX7_order) (pc := 10) (tgt := 30) dX7_order_10 rfl ?_
    refine so_V1 (M := mX7_order) (pc := 30) cs_X7_order_74 rfl rfl (LE rfl) (LE rfl) dX7_order_30 Hm.k ?_
    refine sp_X7_refused1 (v := 1) Hm.k (by decide) ?_
    refine kI ?_
    refine wp_if_eq (M := mX7_order) (pc := 33) (tgt := 38) dX7_order_33 rfl (fun t33 => ?_) (fun f33 => ?_)
    · exact absurd t33 (by decide)
    · refine wp_iconst (M := mX7_order) (pc := 36) (v := 0) dX7_order_36 ci_0 ?_
      refine wp_ireturn (M := mX7_order) (pc := 37) rfl dX7_order_37 ?_
      exact k2 (b01_z f6) _ H.ref gi_si_same (Fr.si Hm.t)
end SP
