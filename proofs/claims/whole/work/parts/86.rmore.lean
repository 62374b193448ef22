section SP
variable {E : Ev} {h : PH} {Q : Rt → PH → Prop}
section
variable {h h' : PH} {me : Nat} {ad : Nat → Nat} {X : Abs}
theorem WM.save {j : Nat} (H : WM h me ad X) (hj : j < 2) : WM (sw (si h (ad 7) j 1) (ad 6) (va_cpy (gi h (ad 1)) (gi h (ad 6)) 0 (1360 * j) 1360)) me ad (xA X, xH X, u1 (xS X) j (some (xA X)), X.2.2.2) := by
  have Hm := H.1
  obtain ⟨h1, h2, ⟨x, h3, h4, h5⟩, ⟨h6, h7⟩, h8, h9⟩ := H
  have e : ∀ k y, k ≠ 6 → k ≠ 7 → fsz k = some y → gi (sw (si h (ad 7) j 1) (ad 6) (va_cpy (gi h (ad 1)) (gi h (ad 6)) 0 (1360 * j) 1360)) (ad k) = gi h (ad k) := fun k y q1 q2 e => by rw [gi_sw_ne _ _ (Hm.nn (k := 6) e rfl q1), gi_si_ne _ _ _ (Hm.nn (k := 7) e rfl q2)]
  have em : gi (sw (si h (ad 7) j 1) (ad 6) (va_cpy (gi h (ad 1)) (gi h (ad 6)) 0 (1360 * j) 1360)) me = gi h me := by rw [gi_sw_ne _ _ (Hm.ne (k := 6) rfl).symm, gi_si_ne _ _ _ (Hm.ne (k := 7) rfl).symm]
  refine ⟨Hm, by rw [e 1 _ (by decide) (by decide) rfl]; exact h2, ⟨x, h3, by rw [em]; exact h4, by unfold HiR; rw [e 3 _ (by decide) (by decide) rfl]; exact h5⟩, ⟨by rw [em]; exact h6, h7⟩, fun i hi => ?_, h9.co (by rw [em]) (e 8 _ (by decide) (by decide) rfl)⟩
  rw [gi_sw_at, gi_sw_ne _ _ (Hm.nn (j := 7) (k := 6) rfl rfl (by decide)), gi_si_at]
  show (_ ∧ u1 (xS X) j (some (xA X)) i = none) ∨ (_ ∧ ∃ B, u1 (xS X) j (some (xA X)) i = some B ∧ _)
  by_cases e9 : i = j
  · refine Or.inr ⟨by rw [e9, upd_at], xA X, by rw [e9, u1_at], ?_⟩
    rw [e9]
    exact h2.congr (fun y hy => by rw [pk_cpy_in (by omega) (by omega)]; congr 1; omega)
  · rw [upd_ne _ _ e9, u1_ne _ _ e9]
    rcases h8 i hi with q | ⟨q1, B, q2, q3⟩
    · exact Or.inl q
    · exact Or.inr ⟨q1, B, q2, q3.congr (fun y hy => by rw [pk_cpy_out (by omega)])⟩
theorem WM.rest {j : Nat} {B : Sta} {g : Nat → Int32} (H : WM h me ad X) (hR : RepR g B) : WM (si (sw h (ad 1) g) me 4 0) me ad (B, [], X.2.2) := by
  have Hm := H.1
  obtain ⟨h1, h2, ⟨x, h3, h4, h5⟩, ⟨h6, h7⟩, h8, h9⟩ := H
  have e : ∀ k y, k ≠ 1 → fsz k = some y → gi (si (sw h (ad 1) g) me 4 0) (ad k) = gi h (ad k) := fun k y q1 e => by rw [gi_si_ne _ _ _ (Hm.ne e), gi_sw_ne _ _ (Hm.nn (k := 1) e rfl q1)]
  have nm := (Hm.ne (k := 1) rfl).symm
  exact ⟨Hm, by rw [gi_si_ne _ _ _ nm.symm, gi_sw_at]; exact hR, ⟨x, h3, by rw [gi_si_oth (by decide), gi_sw_ne _ _ nm]; exact h4, fun i C hC => by cases hC⟩, ⟨by rw [gi_si_same]; rfl, Nat.zero_le _⟩, by unfold SlR; rw [e 6 _ (by decide) rfl, e 7 _ (by decide) rfl]; exact h8, h9.co (by rw [gi_si_oth (by decide), gi_sw_ne _ _ nm]) (e 8 _ (by decide) rfl)⟩
end
def facR : Nat → Int32
  | 0 => 1
  | n + 1 => if n = 0 then 1 else facR n * nI (n + 1)
theorem facR_v : ∀ n : Nat, n < 7 → facR n = facv n := by decide
/-- ones by shifts -/
def onS (x : Int32) : Nat → Int32
  | 0 => 0
  | k + 1 => onS x k + ((x >>> (nI k &&& 31)) &&& 1)
theorem onS_n : ∀ c : Nat, c < 64 → onS (nI c) 6 = nI (ones c) := by decide +kernel
theorem l_abs (x : Int64) : (if x < 0 then -x else x) = labs x := rfl
theorem gcd_step {a b : Int64} (ha : 0 ≤ a) (hb : 0 < b) : 0 ≤ a - a / b * b ∧ a - a / b * b < b := by
  obtain ⟨n, hn, rfl⟩ := pk_lOf (Int64.not_lt.mpr ha)
  obtain ⟨m, hm, rfl⟩ := pk_lOf (Int64.not_lt.mpr (Int64.le_of_lt hb))
  have hm0 : 0 < m := (pk_lLT (a := 0) (by decide) hm).mp hb
  rw [pk_lRem hn hm0 hm]
  have := Nat.mod_lt n hm0
  exact ⟨(pk_lLE (a := 0) (by decide) (by omega)).mpr (Nat.zero_le _), (pk_lLT (by omega) hm).mpr this⟩
noncomputable def gcR : Nat → Int64 → Int64 → Int64
  | 0, a, _ => a
  | f + 1, a, b => if b = 0 then a else gcR f b (a - a / b * b)
theorem gcR_0 {f : Nat} {a b : Int64} (h : b = 0) : gcR f a b = a := by
  cases f
  · rfl
  · exact if_pos h
theorem gcR_s {f : Nat} {a b : Int64} (h : ¬ b = 0) : gcR (f + 1) a b = gcR f b (a - a / b * b) := if_neg h
set_option maxHeartbeats 4000000 in
set_option maxRecDepth 100000 in
theorem sp_X7_save {me : Nat} {ad : Nat → Nat} {X : Abs} {w : Int32} (H : WM h me ad X)  (k1 : ∀ j, j < 2 → w = nI j → ∀ h', WM h' me ad (xA X, xH X, u1 (xS X) j (some (xA X)), X.2.2.2) → gi h' me 0 = 0 → Ow me h h' → Q (.inl (some (.int (nI (sTi (xA X)))))) h') (k2 : ¬ wth w 0 1 → ∀ h', WM h' me ad X → gi h' me 0 = 1 → Ow me h h' → Q (.inl (some (.int 0))) h') : WPx E mX7_save 0 [some (.ref me), some (.int w)] [] (0, 0) h Q := by
  have Hm := H.1
  have hR := H.2.1
  have n6 := hR.n6
  have n12 := hR.n12
  refine wp_aload_n (M := mX7_save) (pc := 0) dX7_save_0 rfl ?_
  refine wp_iload_n (M := mX7_save) (pc := 1) dX7_save_1 rfl ?_
  refine wp_i2l (M := mX7_save) (pc := 2) dX7_save_2 ?_
  refine wp_lconst (M := mX7_save) (pc := 3) (v := 0) dX7_save_3 cl_0 ?_
  refine wp_lconst (M := mX7_save) (pc := 4) (v := 1) dX7_save_4 cl_1 ?_
  refine so_S3 (M := mX7_save) (pc := 5) cs_X7_save_65 rfl rfl (LE rfl) (LE rfl) dX7_save_5 ?_
  refine sp_X7_in ?_
  rw [b01_iff (wl (x := w) (a := 0) (b := 1) (a' := 0) (b' := 1) (by decide) (by decide))]
  refine kI ?_
  refine wp_if_eq (M := mX7_save) (pc := 8) (tgt := 15) dX7_save_8 rfl (fun t8 => ?_) (fun f8 => ?_)
  · refine wp_iconst (M := mX7_save) (pc := 15) (v := 1) dX7_save_15 ci_1 ?_
    refine so_V1 (M := mX7_save) (pc := 16) cs_X7_save_74 rfl rfl (LE rfl) (LE rfl) dX7_save_16 Hm.k ?_
    refine sp_X7_refused1 (v := 1) Hm.k (by decide) ?_
    refine kI ?_
    refine wp_if_eq (M := mX7_save) (pc := 19) (tgt := 24) dX7_save_19 rfl (fun t19 => ?_) (fun f19 => ?_)
    · exact absurd t19 (by decide)
    · refine wp_iconst (M := mX7_save) (pc := 22) (v := 0) dX7_save_22 ci_0 ?_
      refine wp_ireturn (M := mX7_save) (pc := 23) rfl dX7_save_23 ?_
      exact k2 (b01_z t8) _ H.ref gi_si_same (Fr.si Hm.t)
  · refine wp_iconst (M := mX7_save) (pc := 11) (v := 0) dX7_save_11 ci_0 ?_
    refine wp_goto (M := mX7_save) (pc := 12) (tgt := 16) dX7_save_12 rfl ?_
    refine so_V1 (M := mX7_save) (pc := 16) cs_X7_save_74 rfl rfl (LE rfl) (LE rfl) dX7_save_16 Hm.k ?_
    refine sp_X7_refused0 Hm.k ?_
    refine kI ?_
    refine wp_if_eq (M := mX7_save) (pc := 19) (tgt := 24) dX7_save_19 rfl (fun t19 => ?_) (fun f19 => ?_)
    · refine wp_gen (P := fun hX => WM hX me ad X ∧ gi hX me 0 = 0 ∧ Ow me h hX) ⟨H.ref, gi_si_same, Fr.si Hm.t⟩ (fun h0 HX => ?_)
      obtain ⟨H, z0, F0⟩ := HX
      have Hm := H.1
      have hR := H.2.1
      obtain ⟨j, hj, rfl⟩ := wth_nI (b := 1) (by decide) (b01_n f8)
      refine wp_aload_n (M := mX7_save) (pc := 24) dX7_save_24 rfl ?_
      refine wp_getR (M := mX7_save) (pc := 25) fa_X7_22 rfl dX7_save_25 (by first | exact Hm.k | exact Hm.a rfl | fail "kd") (Hm.r rfl) ?_
      refine wp_iload_n (M := mX7_save) (pc := 28) dX7_save_28 rfl ?_
      refine wp_iconst (M := mX7_save) (pc := 29) (v := 1) dX7_save_29 ci_1 ?_
      refine wr_bastore (M := mX7_save) (pc := 30) (by decide) dX7_save_30 (by first | exact Hm.k | exact Hm.a rfl | fail "kd") rfl (by omega) (by decide) ?_
      refine wp_aload_n (M := mX7_save) (pc := 31) dX7_save_31 rfl ?_
      refine wp_getR (M := mX7_save) (pc := 32) fa_X7_7 rfl dX7_save_32 (by first | exact Hm.k | exact Hm.a rfl | fail "kd") (Hm.r rfl) ?_
      refine wp_iconst (M := mX7_save) (pc := 35) (v := 0) dX7_save_35 ci_0 ?_
      refine wp_aload_n (M := mX7_save) (pc := 36) dX7_save_36 rfl ?_
      refine wp_getR (M := mX7_save) (pc := 37) fa_X7_19 rfl dX7_save_37 (by first | exact Hm.k | exact Hm.a rfl | fail "kd") (Hm.r rfl) ?_
      refine wp_sipush (M := mX7_save) (pc := 40) (v := 1360) dX7_save_40 ch_1360 ?_
      refine wp_iload_n (M := mX7_save) (pc := 43) dX7_save_43 rfl ?_
      refine wp_imul (M := mX7_save) (pc := 44) dX7_save_44 ?_
      refine so_S4 (M := mX7_save) (pc := 45) cs_X7_save_58 rfl rfl (LE rfl) (LE rfl) dX7_save_45 ?_
      rw [show (1360 : Int32) * nI j = nI (1360 * j) from im (show (1360 : Int32) = nI 1360 from rfl) rfl]
      refine sp_X7_copy (N1 := 1360) (N2 := 2720) (x := 0) (Hm.a (k := 1) rfl) (Hm.a (k := 6) rfl) (Hm.nn (j := 1) (k := 6) rfl rfl (by decide)) (by decide) (by decide) (by decide) (by omega) ?_
      rw [gi_si_ne _ _ _ (Hm.nn (j := 1) (k := 7) rfl rfl (by decide)), gi_si_ne _ _ _ (Hm.nn (j := 6) (k := 7) rfl rfl (by decide))]
      refine kV ?_
      refine wp_aload_n (M := mX7_save) (pc := 48) dX7_save_48 rfl ?_
      refine wp_getR (M := mX7_save) (pc := 49) fa_X7_7 rfl dX7_save_49 (by first | exact Hm.k | exact Hm.a rfl | fail "kd") (Hm.r rfl) ?_
      refine wp_iconst (M := mX7_save) (pc := 52) (v := 5) dX7_save_52 ci_5 ?_
      refine wr_iaload (M := mX7_save) (pc := 53) dX7_save_53 (by first | exact Hm.k | exact Hm.a rfl | fail "kd") (show (5 : Int32) = nI 5 from rfl) (by omega) (by decide) ?_
      refine wp_ireturn (M := mX7_save) (pc := 54) rfl dX7_save_54 ?_
      have H2 := H.save (j := j) (by omega)
      rw [H2.2.1.f5]
      exact k1 j (by omega) rfl _ H2 (by rw [gi_sw_ne _ _ (Hm.ne (k := 6) rfl).symm, gi_si_ne _ _ _ (Hm.ne (k := 7) rfl).symm]; exact z0) (F0.tr ((Fr.si (Hm.ta (k := 7) rfl)).tr (Fr.sw (show (tg h0 (ad 6)).1 = me from Hm.ta (k := 6) rfl))))
    · exact absurd rfl f19
set_option maxHeartbeats 4000000 in
set_option maxRecDepth 100000 in
theorem sp_X7_restore {me : Nat} {ad : Nat → Nat} {X : Abs} {w : Int32} (H : WM h me ad X)  (k1 : ∀ j A, j < 2 → w = nI j → xS X j = some A → ∀ h', WM h' me ad (A, [], X.2.2) → gi h' me 0 = 0 → Ow me h h' → Q (.inl (some (.int (nI (sTi A))))) h') (k2 : ¬ wth w 0 1 → ∀ h', WM h' me ad X → gi h' me 0 = 1 → Ow me h h' → Q (.inl (some (.int 0))) h') (k3 : ∀ j, j < 2 → w = nI j → xS X j = none → ∀ h', WM h' me ad X → gi h' me 0 = 2 → Ow me h h' → Q (.inl (some (.int 0))) h') : WPx E mX7_restore 0 [some (.ref me), some (.int w)] [] (0, 0) h Q := by
  have Hm := H.1
  have hR := H.2.1
  have n6 := hR.n6
  have n12 := hR.n12
  refine wp_aload_n (M := mX7_restore) (pc := 0) dX7_restore_0 rfl ?_
  refine wp_iload_n (M := mX7_restore) (pc := 1) dX7_restore_1 rfl ?_
  refine wp_i2l (M := mX7_restore) (pc := 2) dX7_restore_2 ?_
  refine wp_lconst (M := mX7_restore) (pc := 3) (v := 0) dX7_restore_3 cl_0 ?_
  refine wp_lconst (M := mX7_restore) (pc := 4) (v := 1) dX7_restore_4 cl_1 ?_
  refine so_S3 (M := mX7_restore) (pc := 5) cs_X7_restore_65 rfl rfl (LE rfl) (LE rfl) dX7_restore_5 ?_
  refine sp_X7_in ?_
  rw [b01_iff (wl (x := w) (a := 0) (b := 1) (a' := 0) (b' := 1) (by decide) (by decide))]
  refine kI ?_
  refine wp_if_ne (M := mX7_restore) (pc := 8) (tgt := 15) dX7_restore_8 rfl (fun t8 => ?_) (fun f8 => ?_)
  · obtain ⟨j, hj, rfl⟩ := wth_nI (b := 1) (by decide) (b01_n t8)
    have hsl := H.2.2.2.2.1 j (by omega)
    refine wp_aload_n (M := mX7_restore) (pc := 15) dX7_restore_15 rfl ?_
    refine wp_getR (M := mX7_restore) (pc := 16) fa_X7_22 rfl dX7_restore_16 (by first | exact Hm.k | exact Hm.a rfl | fail "kd") (Hm.r rfl) ?_
    refine wp_iload_n (M := mX7_restore) (pc := 19) dX7_restore_19 rfl ?_
    refine wr_baload (M := mX7_restore) (pc := 20) dX7_restore_20 (by first | exact Hm.k | exact Hm.a rfl | fail "kd") rfl (by omega) (by decide) ?_
    refine wp_if_ne (M := mX7_restore) (pc := 21) (tgt := 28) dX7_restore_21 rfl (fun t21 => ?_) (fun f21 => ?_)
    · refine wp_iconst (M := mX7_restore) (pc := 28) (v := 0) dX7_restore_28 ci_0 ?_
      refine so_V1 (M := mX7_restore) (pc := 29) cs_X7_restore_74 rfl rfl (LE rfl) (LE rfl) dX7_restore_29 Hm.k ?_
      refine sp_X7_refused0 Hm.k ?_
      refine kI ?_
      refine wp_if_eq (M := mX7_restore) (pc := 32) (tgt := 37) dX7_restore_32 rfl (fun t32 => ?_) (fun f32 => ?_)
      · refine wp_gen (P := fun hX => WM hX me ad X ∧ gi hX me 0 = 0 ∧ Ow me h hX) ⟨H.ref, gi_si_same, Fr.si Hm.t⟩ (fun h0 HX => ?_)
        obtain ⟨H, z0, F0⟩ := HX
        have Hm := H.1
        have hR := H.2.1
        obtain ⟨A, eA, RA⟩ : ∃ A, xS X j = some A ∧ RepR (fun k => gi h0 (ad 6) (1360 * j + k)) A := by
          rcases hsl with q | q
          · exact absurd q.1 t21
          · rcases H.2.2.2.2.1 j (by omega) with q2 | ⟨-, B, q3, q4⟩
            · obtain ⟨B, q5, -⟩ := q.2; rw [q2.2] at q5; cases q5
            · exact ⟨B, q3, q4⟩
        refine wp_aload_n (M := mX7_restore) (pc := 37) dX7_restore_37 rfl ?_
        refine wp_getR (M := mX7_restore) (pc := 38) fa_X7_19 rfl dX7_restore_38 (by first | exact Hm.k | exact Hm.a rfl | fail "kd") (Hm.r rfl) ?_
        refine wp_sipush (M := mX7_restore) (pc := 41) (v := 1360) dX7_restore_41 ch_1360 ?_
        refine wp_iload_n (M := mX7_restore) (pc := 44) dX7_restore_44 rfl ?_
        refine wp_imul (M := mX7_restore) (pc := 45) dX7_restore_45 ?_
        refine wp_aload_n (M := mX7_restore) (pc := 46) dX7_restore_46 rfl ?_
        refine wp_getR (M := mX7_restore) (pc := 47) fa_X7_7 rfl dX7_restore_47 (by first | exact Hm.k | exact Hm.a rfl | fail "kd") (Hm.r rfl) ?_
        refine wp_iconst (M := mX7_restore) (pc := 50) (v := 0) dX7_restore_50 ci_0 ?_
        refine so_S4 (M := mX7_restore) (pc := 51) cs_X7_restore_58 rfl rfl (LE rfl) (LE rfl) dX7_restore_51 ?_
        rw [show (1360 : Int32) * nI j = nI (1360 * j) from im (show (1360 : Int32) = nI 1360 from rfl) rfl]
        refine sp_X7_copy (N1 := 2720) (N2 := 1360) (y := 0) (Hm.a (k := 6) rfl) (Hm.a (k := 1) rfl) (Hm.nn (j := 6) (k := 1) rfl rfl (by decide)) (by decide) (by decide) (by omega) (by decide) ?_
        refine kV ?_
        refine wp_aload_n (M := mX7_restore) (pc := 54) dX7_restore_54 rfl ?_
        refine wp_iconst (M := mX7_restore) (pc := 55) (v := 0) dX7_restore_55 ci_0 ?_
        refine wp_putI (M := mX7_restore) (pc := 56) fa_X7_62 (Or.inl rfl) dX7_restore_56 (by first | exact Hm.k | exact Hm.a rfl | fail "kd") ?_
        refine wp_aload_n (M := mX7_restore) (pc := 59) dX7_restore_59 rfl ?_
        refine wp_getR (M := mX7_restore) (pc := 60) fa_X7_7 rfl dX7_restore_60 (by first | exact Hm.k | exact Hm.a rfl | fail "kd") (Hm.r rfl) ?_
        refine wp_iconst (M := mX7_restore) (pc := 63) (v := 5) dX7_restore_63 ci_5 ?_
        refine wr_iaload (M := mX7_restore) (pc := 64) dX7_restore_64 (by first | exact Hm.k | exact Hm.a rfl | fail "kd") (show (5 : Int32) = nI 5 from rfl) (by omega) (by decide) ?_
        refine wp_ireturn (M := mX7_restore) (pc := 65) rfl dX7_restore_65 ?_
        have RB : RepR (va_cpy (gi h0 (ad 6)) (gi h0 (ad 1)) (1360 * j) 0 1360) A := RA.congr (fun y hy => by rw [pk_cpy_in (by omega) (by omega)]; congr 1)
        have H2 := H.rest (j := j) RB
        rw [H2.2.1.f5]
        exact k1 j A (by omega) rfl eA _ H2 (by rw [gi_si_oth (by decide), gi_sw_ne _ _ (Hm.ne (k := 1) rfl).symm]; exact z0) (F0.tr ((Fr.sw (Hm.ta (k := 1) rfl)).tr (Fr.si (show (tg h0 me).1 = me from Hm.t))))
      · exact absurd rfl f32
    · refine wp_iconst (M := mX7_restore) (pc := 24) (v := 2) dX7_restore_24 ci_2 ?_
      refine wp_goto (M := mX7_restore) (pc := 25) (tgt := 29) dX7_restore_25 rfl ?_
      refine so_V1 (M := mX7_restore) (pc := 29) cs_X7_restore_74 rfl rfl (LE rfl) (LE rfl) dX7_restore_29 Hm.k ?_
      refine sp_X7_refused1 (v := 2) Hm.k (by decide) ?_
      refine kI ?_
      refine wp_if_eq (M := mX7_restore) (pc := 32) (tgt := 37) dX7_restore_32 rfl (fun t32 => ?_) (fun f32 => ?_)
      · exact absurd t32 (by decide)
      · refine wp_iconst (M := mX7_restore) (pc := 35) (v := 0) dX7_restore_35 ci_0 ?_
        refine wp_ireturn (M := mX7_restore) (pc := 36) rfl dX7_restore_36 ?_
        exact k3 j (by omega) rfl (by
          rcases hsl with q | q
          · exact q.2
          · exact absurd (q.1.symm.trans f21) (by decide)) _ H.ref gi_si_same (Fr.si Hm.t)
  · refine wp_iconst (M := mX7_restore) (pc := 11) (v := 1) dX7_restore_11 ci_1 ?_
    refine wp_goto (M := mX7_restore) (pc := 12) (tgt := 29) dX7_restore_12 rfl ?_
    refine so_V1 (M := mX7_restore) (pc := 29) cs_X7_restore_74 rfl rfl (LE rfl) (LE rfl) dX7_restore_29 Hm.k ?_
    refine sp_X7_refused1 (v := 1) Hm.k (by decide) ?_
    refine kI ?_
    refine wp_if_eq (M := mX7_restore) (pc := 32) (tgt := 37) dX7_restore_32 rfl (fun t32 => ?_) (fun f32 => ?_)
    · exact absurd t32 (by decide)
    · refine wp_iconst (M := mX7_restore) (pc := 35) (v := 0) dX7_restore_35 ci_0 ?_
      refine wp_ireturn (M := mX7_restore) (pc := 36) rfl dX7_restore_36 ?_
      exact k2 (b01_z f8) _ H.ref gi_si_same (Fr.si Hm.t)
set_option maxHeartbeats 4000000 in
set_option maxRecDepth 100000 in
theorem lp_X7_ones {x : Int32} (k : Q (.inl (some (.int (onS x 6)))) h) : ∀ (m : Nat) (i : Nat), 6 - i < m → (i ≤ 6) → WPx E mX7_ones 4 [some (.int x), some (.int (onS x i)), some (.int (nI i))] [] (0, 0) h Q := by
  intro m
  induction m with
  | zero => intro i hm; exact absurd hm (Nat.not_lt_zero _)
  | succ m ih =>
    intro i hm hi
    refine wp_iload_n (M := mX7_ones) (pc := 4) dX7_ones_4 rfl ?_
    refine wp_bipush (M := mX7_ones) (pc := 5) (v := 6) dX7_ones_5 cb_6 ?_
    refine wp_icmp_ge (M := mX7_ones) (pc := 7) (tgt := 24) dX7_ones_7 rfl (fun t7 => ?_) (fun f7 => ?_)
    · have hi2 := n_ge (n := 6) hi (by decide) t7
      subst hi2
      refine wp_iload_n (M := mX7_ones) (pc := 24) dX7_ones_24 rfl ?_
      refine wp_ireturn (M := mX7_ones) (pc := 25) rfl dX7_ones_25 ?_
      exact k
    · have hlt := n_lt (n := 6) hi (by decide) f7
      refine wp_iload_n (M := mX7_ones) (pc := 10) dX7_ones_10 rfl ?_
      refine wp_iload_n (M := mX7_ones) (pc := 11) dX7_ones_11 rfl ?_
      refine wp_iload_n (M := mX7_ones) (pc := 12) dX7_ones_12 rfl ?_
      refine wp_ishr (M := mX7_ones) (pc := 13) dX7_ones_13 ?_
      refine wp_iconst (M := mX7_ones) (pc := 14) (v := 1) dX7_ones_14 ci_1 ?_
      refine wp_iand (M := mX7_ones) (pc := 15) dX7_ones_15 ?_
      refine wp_iadd (M := mX7_ones) (pc := 16) dX7_ones_16 ?_
      refine so_istore_n (M := mX7_ones) (pc := 17) (lo' := [_, _, _]) dX7_ones_17 (LE rfl) (LE rfl) (Or.inr rfl) rfl ?_
      refine so_iinc (M := mX7_ones) (pc := 18) (lo' := [_, _, _]) dX7_ones_18 rfl ci_1 (LE rfl) rfl ?_
      refine wp_goto (M := mX7_ones) (pc := 21) (tgt := 4) dX7_ones_21 rfl ?_
      rw [show nI i + 1 = nI (i + 1) from nI_1 i]
      exact ih (i + 1) (by omega) (by omega)
set_option maxHeartbeats 4000000 in
set_option maxRecDepth 100000 in
theorem sp_X7_ones {x : Int32}  (k : Q (.inl (some (.int (onS x 6)))) h) : WPx E mX7_ones 0 [some (.int x), none, none] [] (0, 0) h Q := by
  refine wp_iconst (M := mX7_ones) (pc := 0) (v := 0) dX7_ones_0 ci_0 ?_
  refine so_istore_n (M := mX7_ones) (pc := 1) (lo' := [_, _, _]) dX7_ones_1 (LE rfl) (LE rfl) (Or.inr rfl) rfl ?_
  refine wp_iconst (M := mX7_ones) (pc := 2) (v := 0) dX7_ones_2 ci_0 ?_
  refine so_istore_n (M := mX7_ones) (pc := 3) (lo' := [_, _, _]) dX7_ones_3 (LE rfl) (LE rfl) (Or.inr rfl) rfl ?_
  exact lp_X7_ones k 7 0 (by omega) (by omega)
set_option maxHeartbeats 4000000 in
set_option maxRecDepth 100000 in
theorem lp_X7_factorial {n : Nat} (hn : n < 7) (k : Q (.inl (some (.int (facR n)))) h) : ∀ (m : Nat) (i : Nat), n + 1 - i < m → (2 ≤ i) → (i ≤ n + 1 ∨ i = 2) → (i ≤ n + 1 → True) → WPx E mX7_factorial 4 [some (.int (nI n)), some (.int (facR (i - 1))), some (.int (nI i))] [] (0, 0) h Q := by
  intro m
  induction m with
  | zero => intro i hm; exact absurd hm (Nat.not_lt_zero _)
  | succ m ih =>
    intro i hm h2 hi hv
    refine wp_iload_n (M := mX7_factorial) (pc := 4) dX7_factorial_4 rfl ?_
    refine wp_iload_n (M := mX7_factorial) (pc := 5) dX7_factorial_5 rfl ?_
    refine wp_icmp_gt (M := mX7_factorial) (pc := 6) (tgt := 19) dX7_factorial_6 rfl (fun t6 => ?_) (fun f6 => ?_)
    · have hgt := (i_lt (by omega) (by omega)).mp t6
      have ef : facR (i - 1) = facR n := by
        rcases Nat.lt_or_ge n 1 with e | e
        · have e1 : n = 0 := by omega
          have e2 : i = 2 := by omega
          rw [e1, e2]; rfl
        · rw [show i - 1 = n by omega]
      refine wp_iload_n (M := mX7_factorial) (pc := 19) dX7_factorial_19 rfl ?_
      refine wp_ireturn (M := mX7_factorial) (pc := 20) rfl dX7_factorial_20 ?_
      rw [ef]
      exact k
    · have hle : i ≤ n := Nat.le_of_not_lt (fun e => f6 ((i_lt (by omega) (by omega)).mpr e))
      refine wp_iload_n (M := mX7_factorial) (pc := 9) dX7_factorial_9 rfl ?_
      refine wp_iload_n (M := mX7_factorial) (pc := 10) dX7_factorial_10 rfl ?_
      refine wp_imul (M := mX7_factorial) (pc := 11) dX7_factorial_11 ?_
      refine so_istore_n (M := mX7_factorial) (pc := 12) (lo' := [_, _, _]) dX7_factorial_12 (LE rfl) (LE rfl) (Or.inr rfl) rfl ?_
      refine so_iinc (M := mX7_factorial) (pc := 13) (lo' := [_, _, _]) dX7_factorial_13 rfl ci_1 (LE rfl) rfl ?_
      refine wp_goto (M := mX7_factorial) (pc := 16) (tgt := 4) dX7_factorial_16 rfl ?_
      rw [show nI i + 1 = nI (i + 1) from nI_1 i, show facR (i - 1) * nI i = facR (i + 1 - 1) by
        obtain ⟨j, rfl⟩ : ∃ j, i = j + 1 := ⟨i - 1, by omega⟩
        show facR j * nI (j + 1) = if j = 0 then 1 else facR j * nI (j + 1)
        rw [if_neg (by omega)]]
      exact ih (i + 1) (by omega) (by omega) (by omega) (fun _ => trivial)
set_option maxHeartbeats 4000000 in
set_option maxRecDepth 100000 in
theorem sp_X7_factorial {n : Nat} (hn : n < 7) (k : Q (.inl (some (.int (facR n)))) h) : WPx E mX7_factorial 0 [some (.int (nI n)), none, none] [] (0, 0) h Q := by
  refine wp_iconst (M := mX7_factorial) (pc := 0) (v := 1) dX7_factorial_0 ci_1 ?_
  refine so_istore_n (M := mX7_factorial) (pc := 1) (lo' := [_, _, _]) dX7_factorial_1 (LE rfl) (LE rfl) (Or.inr rfl) rfl ?_
  refine wp_iconst (M := mX7_factorial) (pc := 2) (v := 2) dX7_factorial_2 ci_2 ?_
  refine so_istore_n (M := mX7_factorial) (pc := 3) (lo' := [_, _, _]) dX7_factorial_3 (LE rfl) (LE rfl) (Or.inr rfl) rfl ?_
  exact lp_X7_factorial hn k (n + 2) 2 (by omega) (by omega) (by omega) (fun _ => trivial)
set_option maxHeartbeats 4000000 in
set_option maxRecDepth 100000 in
theorem lp_X7_divisor {a0 b0 res : Int64} (k : Q (.inl (some (.long res))) h) : ∀ (m : Nat) (fu : Nat) (a : Int64) (b : Int64) (x8 : Option Value), fu < m → (0 ≤ a) → (0 ≤ b) → (b.toInt.toNat < fu) → (gcR fu a b = res) → WPx E mX7_divisor 17 [some (.long a0), none, some (.long b0), none, some (.long a), none, some (.long b), none, x8, none] [] (0, 0) h Q := by
  intro m
  induction m with
  | zero => intro fu a b x8 hm; exact absurd hm (Nat.not_lt_zero _)
  | succ m ih =>
    intro fu a b x8 hm ha hb hf he
    refine wp_lload (M := mX7_divisor) (pc := 17) dX7_divisor_17 rfl ?_
    refine wp_lconst (M := mX7_divisor) (pc := 19) (v := 0) dX7_divisor_19 cl_0 ?_
    refine wp_lcmp (M := mX7_divisor) (pc := 20) dX7_divisor_20 ?_
    refine wp_if_eq (M := mX7_divisor) (pc := 21) (tgt := 42) dX7_divisor_21 rfl (fun t21 => ?_) (fun f21 => ?_)
    · have e0 : b = 0 := (lg_cmp_eq _ _).mp t21
      rw [gcR_0 e0] at he
      subst he
      refine wp_lload (M := mX7_divisor) (pc := 42) dX7_divisor_42 rfl ?_
      refine wp_lreturn (M := mX7_divisor) (pc := 44) rfl dX7_divisor_44 ?_
      exact k
    · have hb0 : ¬ b = 0 := fun e => f21 ((lg_cmp_eq _ _).mpr e)
      have hbp : 0 < b := Int64.lt_of_le_of_ne hb (fun e => hb0 e.symm)
      obtain ⟨fu1, rfl⟩ : ∃ fu1, fu = fu1 + 1 := ⟨fu - 1, by omega⟩
      rw [gcR_s hb0] at he
      obtain ⟨s1, s2⟩ := gcd_step ha hbp
      refine wp_lload (M := mX7_divisor) (pc := 24) dX7_divisor_24 rfl ?_
      refine wp_lload (M := mX7_divisor) (pc := 26) dX7_divisor_26 rfl ?_
      refine wp_lrem (M := mX7_divisor) (pc := 28) dX7_divisor_28 (by exact hb0) ?_
      refine so_lstore (M := mX7_divisor) (pc := 29) (lo' := [_, _, _, _, _, _, _, _, _, _]) dX7_divisor_29 (LE rfl) (LE rfl) (Or.inr rfl) rfl ?_
      refine wp_lload (M := mX7_divisor) (pc := 31) dX7_divisor_31 rfl ?_
      refine so_lstore (M := mX7_divisor) (pc := 33) (lo' := [_, _, _, _, _, _, _, _, _, _]) dX7_divisor_33 (LE rfl) (LE rfl) (Or.inr rfl) rfl ?_
      refine wp_lload (M := mX7_divisor) (pc := 35) dX7_divisor_35 rfl ?_
      refine so_lstore (M := mX7_divisor) (pc := 37) (lo' := [_, _, _, _, _, _, _, _, _, _]) dX7_divisor_37 (LE rfl) (LE rfl) (Or.inr rfl) rfl ?_
      refine wp_goto (M := mX7_divisor) (pc := 39) (tgt := 17) dX7_divisor_39 rfl ?_
      refine ih fu1 b (a - a / b * b) _ (by omega) hb s1 ?_ he
      have q1 := Int64.lt_iff_toInt_lt.mp s2
      have q2 := Int64.le_iff_toInt_le.mp s1
      have q3 : (0 : Int64).toInt = 0 := rfl
      omega
set_option maxHeartbeats 4000000 in
set_option maxRecDepth 100000 in
theorem sp_X7_divisor {x y : Int64} (hx : 0 ≤ labs x) (hy : 0 ≤ y) (k : Q (.inl (some (.long (gcR (y.toInt.toNat + 1) (labs x) y)))) h) : WPx E mX7_divisor 0 [some (.long x), none, some (.long y), none, none, none, none, none, none, none] [] (0, 0) h Q := by
  refine wp_lload_n (M := mX7_divisor) (pc := 0) dX7_divisor_0 rfl ?_
  refine wp_lconst (M := mX7_divisor) (pc := 1) (v := 0) dX7_divisor_1 cl_0 ?_
  refine wp_lcmp (M := mX7_divisor) (pc := 2) dX7_divisor_2 ?_
  refine wp_if_ge (M := mX7_divisor) (pc := 3) (tgt := 11) dX7_divisor_3 rfl (fun t3 => ?_) (fun f3 => ?_)
  · refine wp_lload_n (M := mX7_divisor) (pc := 11) dX7_divisor_11 rfl ?_
    refine so_lstore (M := mX7_divisor) (pc := 12) (lo' := [_, _, _, _, _, _, _, _, _, _]) dX7_divisor_12 (LE rfl) (LE rfl) (Or.inr rfl) rfl ?_
    refine wp_lload_n (M := mX7_divisor) (pc := 14) dX7_divisor_14 rfl ?_
    refine so_lstore (M := mX7_divisor) (pc := 15) (lo' := [_, _, _, _, _, _, _, _, _, _]) dX7_divisor_15 (LE rfl) (LE rfl) (Or.inr rfl) rfl ?_
    first
    | (have e : labs x = x := if_neg (Int64.not_lt.mpr ((lg_cmp_ge _ _).mp t3))
       rw [e] at k hx
       exact lp_X7_divisor k (y.toInt.toNat + 2) (y.toInt.toNat + 1) x y none (by omega) hx hy (by omega) rfl)
    | (have e : labs x = -x := if_pos (Int64.not_le.mp (fun q => f3 ((lg_cmp_ge _ _).mpr q)))
       rw [e] at k hx
       exact lp_X7_divisor k (y.toInt.toNat + 2) (y.toInt.toNat + 1) (-x) y none (by omega) hx hy (by omega) rfl)
    | fail "leaf"
  · refine wp_lload_n (M := mX7_divisor) (pc := 6) dX7_divisor_6 rfl ?_
    refine wp_lneg (M := mX7_divisor) (pc := 7) dX7_divisor_7 ?_
    refine wp_goto (M := mX7_divisor) (pc := 8) (tgt := 12) dX7_divisor_8 rfl ?_
    refine so_lstore (M := mX7_divisor) (pc := 12) (lo' := [_, _, _, _, _, _, _, _, _, _]) dX7_divisor_12 (LE rfl) (LE rfl) (Or.inr rfl) rfl ?_
    refine wp_lload_n (M := mX7_divisor) (pc := 14) dX7_divisor_14 rfl ?_
    refine so_lstore (M := mX7_divisor) (pc := 15) (lo' := [_, _, _, _, _, _, _, _, _, _]) dX7_divisor_15 (LE rfl) (LE rfl) (Or.inr rfl) rfl ?_
    first
    | (have e : labs x = x := if_neg (Int64.not_lt.mpr ((lg_cmp_ge _ _).mp t3))
       rw [e] at k hx
       exact lp_X7_divisor k (y.toInt.toNat + 2) (y.toInt.toNat + 1) x y none (by omega) hx hy (by omega) rfl)
    | (have e : labs x = -x := if_pos (Int64.not_le.mp (fun q => f3 ((lg_cmp_ge _ _).mpr q)))
       rw [e] at k hx
       exact lp_X7_divisor k (y.toInt.toNat + 2) (y.toInt.toNat + 1) (-x) y none (by omega) hx hy (by omega) rfl)
    | fail "leaf"
end SP
