section SP
variable {E : Ev} {h : PH} {Q : Rt → PH → Prop}
set_option maxHeartbeats 4000000 in
set_option maxRecDepth 100000 in
theorem sp_X7_withdraw {me : Nat} {ad : Nat → Nat} {X : Abs} {w : Int32} (H : WM h me ad X)  (k1 : ∀ i, i < (sO (xA X)).length → w = nI i → ∀ h', WM h' me ad (actX X (wd1 (xA X) i)) → gi h' me 0 = 0 → Ow me h h' → Q (.inl (some (.int (oA (xA X) i).2.2.2))) h') (k2 : ¬ isO (xA X) w → ∀ h', WM h' me ad X → gi h' me 0 = 1 → Ow me h h' → Q (.inl (some (.int 0))) h') : WPx E mX7_withdraw 0 [some (.ref me), some (.int w), none] [] (0, 0) h Q := by
  have Hm := H.1
  have hR := H.2.1
  have n6 := hR.n6
  have n12 := hR.n12
  refine wp_aload_n (M := mX7_withdraw) (pc := 0) dX7_withdraw_0 rfl ?_
  refine wp_aload_n (M := mX7_withdraw) (pc := 1) dX7_withdraw_1 rfl ?_
  refine wp_iload_n (M := mX7_withdraw) (pc := 2) dX7_withdraw_2 rfl ?_
  refine so_V1 (M := mX7_withdraw) (pc := 3) cs_X7_withdraw_141 rfl rfl (LE rfl) (LE rfl) dX7_withdraw_3 (by first | exact Hm.k | exact Hm.a rfl | fail "kd") ?_
  refine sp_X7_isOrder Hm hR ?_
  refine kI ?_
  refine wp_if_eq (M := mX7_withdraw) (pc := 6) (tgt := 13) dX7_withdraw_6 rfl (fun t6 => ?_) (fun f6 => ?_)
  · refine wp_iconst (M := mX7_withdraw) (pc := 13) (v := 1) dX7_withdraw_13 ci_1 ?_
    refine so_V1 (M := mX7_withdraw) (pc := 14) cs_X7_withdraw_74 rfl rfl (LE rfl) (LE rfl) dX7_withdraw_14 Hm.k ?_
    refine sp_X7_refused1 (v := 1) Hm.k (by decide) ?_
    refine kI ?_
    refine wp_if_eq (M := mX7_withdraw) (pc := 17) (tgt := 22) dX7_withdraw_17 rfl (fun t17 => ?_) (fun f17 => ?_)
    · exact absurd t17 (by decide)
    · refine wp_iconst (M := mX7_withdraw) (pc := 20) (v := 0) dX7_withdraw_20 ci_0 ?_
      refine wp_ireturn (M := mX7_withdraw) (pc := 21) rfl dX7_withdraw_21 ?_
      exact k2 (b01_z t6) _ H.ref gi_si_same (Fr.si Hm.t)
  · refine wp_iconst (M := mX7_withdraw) (pc := 9) (v := 0) dX7_withdraw_9 ci_0 ?_
    refine wp_goto (M := mX7_withdraw) (pc := 10) (tgt := 14) dX7_withdraw_10 rfl ?_
    refine so_V1 (M := mX7_withdraw) (pc := 14) cs_X7_withdraw_74 rfl rfl (LE rfl) (LE rfl) dX7_withdraw_14 Hm.k ?_
    refine sp_X7_refused0 Hm.k ?_
    refine kI ?_
    refine wp_if_eq (M := mX7_withdraw) (pc := 17) (tgt := 22) dX7_withdraw_17 rfl (fun t17 => ?_) (fun f17 => ?_)
    · refine wp_gen (P := fun hX => WM hX me ad X ∧ gi hX me 0 = 0 ∧ Ow me h hX) ⟨H.ref, gi_si_same, Fr.si Hm.t⟩ (fun h0 HX => ?_)
      obtain ⟨H, z0, F0⟩ := HX
      have Hm := H.1
      have hR := H.2.1
      obtain ⟨i, hi9, rfl⟩ := b01_n f6
      refine wp_aload_n (M := mX7_withdraw) (pc := 22) dX7_withdraw_22 rfl ?_
      refine so_V0 (M := mX7_withdraw) (pc := 23) cs_X7_withdraw_212 rfl rfl (LE rfl) (LE rfl) dX7_withdraw_23 (by first | exact Hm.k | exact Hm.a rfl | fail "kd") ?_
      refine sp_X7_note H (fun h1 H z1 F1 => ?_)
      have Hm := H.1
      have hR := H.2.1
      refine kV ?_
      refine wp_aload_n (M := mX7_withdraw) (pc := 26) dX7_withdraw_26 rfl ?_
      refine wp_getR (M := mX7_withdraw) (pc := 27) fa_X7_7 rfl dX7_withdraw_27 (by first | exact Hm.k | exact Hm.a rfl | fail "kd") (Hm.r rfl) ?_
      refine wp_iload_n (M := mX7_withdraw) (pc := 30) dX7_withdraw_30 rfl ?_
      refine so_S1 (M := mX7_withdraw) (pc := 31) cs_X7_withdraw_119 rfl rfl (LE rfl) (LE rfl) dX7_withdraw_31 ?_
      refine sp_X7_orderAt ?_
      refine kI ?_
      refine wp_iconst (M := mX7_withdraw) (pc := 34) (v := 3) dX7_withdraw_34 ci_3 ?_
      refine wp_iadd (M := mX7_withdraw) (pc := 35) dX7_withdraw_35 ?_
      refine wr_iaload (M := mX7_withdraw) (pc := 36) dX7_withdraw_36 (by first | exact Hm.k | exact Hm.a rfl | fail "kd") (ia rfl (show (3 : Int32) = nI 3 from rfl)) (by omega) (by decide) ?_
      refine so_istore_n (M := mX7_withdraw) (pc := 37) (lo' := [_, _, _]) dX7_withdraw_37 (LE rfl) (LE rfl) (Or.inr rfl) rfl ?_
      refine wp_aload_n (M := mX7_withdraw) (pc := 38) dX7_withdraw_38 rfl ?_
      refine wp_getR (M := mX7_withdraw) (pc := 39) fa_X7_7 rfl dX7_withdraw_39 (by first | exact Hm.k | exact Hm.a rfl | fail "kd") (Hm.r rfl) ?_
      refine wp_iload_n (M := mX7_withdraw) (pc := 42) dX7_withdraw_42 rfl ?_
      refine so_S2 (M := mX7_withdraw) (pc := 43) cs_X7_withdraw_188 rfl rfl (LE rfl) (LE rfl) dX7_withdraw_43 ?_
      have o3 := (hR.o hi9).1.2.2.2
      rw [o3]
      refine sp_X7_withdrawFrom (Hm.a rfl) hR hi9 (fun h2 R2 F2 => ?_)
      refine kV ?_
      refine wp_iload_n (M := mX7_withdraw) (pc := 46) dX7_withdraw_46 rfl ?_
      refine wp_ireturn (M := mX7_withdraw) (pc := 47) rfl dX7_withdraw_47 ?_
      exact k1 i hi9 rfl h2 (H.n (F2.B rfl (Hm.ne (k := 1) rfl)) R2) (by rw [F2.gi (Hm.ne (k := 1) rfl).symm, z1]; exact z0) (F0.tr (F1.tr (rf_ow F2 (Hm.ta (k := 1) rfl))))
    · exact absurd rfl f17
set_option maxHeartbeats 4000000 in
set_option maxRecDepth 100000 in
theorem sp_X7_deposit {me : Nat} {ad : Nat → Nat} {X : Abs} {t z : Int32} (H : WM h me ad X)  (k1 : ∀ i, i < sN (xA X) → t = nI i → wth z 1 9999 → fT (xA X) i 4 + z ≤ 99999 → ∀ h', WM h' me ad (actX X (wF (xA X) i 4 (fT (xA X) i 4 + z))) → gi h' me 0 = 0 → Ow me h h' → Q (.inl (some (.int (fT (xA X) i 4 + z)))) h') (k2 : ¬ isT (xA X) t → ∀ h', WM h' me ad X → gi h' me 0 = 1 → Ow me h h' → Q (.inl (some (.int 0))) h') (k3 : isT (xA X) t → ¬ wth z 1 9999 → ∀ h', WM h' me ad X → gi h' me 0 = 2 → Ow me h h' → Q (.inl (some (.int 0))) h') (k4 : ∀ i, i < sN (xA X) → t = nI i → wth z 1 9999 → ¬ fT (xA X) i 4 + z ≤ 99999 → ∀ h', WM h' me ad X → gi h' me 0 = 3 → Ow me h h' → Q (.inl (some (.int 0))) h') : WPx E mX7_deposit 0 [some (.ref me), some (.int t), some (.int z)] [] (0, 0) h Q := by
  have Hm := H.1
  have hR := H.2.1
  have n6 := hR.n6
  have n12 := hR.n12
  refine wp_aload_n (M := mX7_deposit) (pc := 0) dX7_deposit_0 rfl ?_
  refine wp_aload_n (M := mX7_deposit) (pc := 1) dX7_deposit_1 rfl ?_
  refine wp_getR (M := mX7_deposit) (pc := 2) fa_X7_7 rfl dX7_deposit_2 (by first | exact Hm.k | exact Hm.a rfl | fail "kd") (Hm.r rfl) ?_
  refine wp_iload_n (M := mX7_deposit) (pc := 5) dX7_deposit_5 rfl ?_
  refine so_S2 (M := mX7_deposit) (pc := 6) cs_X7_deposit_94 rfl rfl (LE rfl) (LE rfl) dX7_deposit_6 ?_
  refine sp_X7_isTenant (Hm.a rfl) hR ?_
  refine kI ?_
  refine wp_if_ne (M := mX7_deposit) (pc := 9) (tgt := 16) dX7_deposit_9 rfl (fun t9 => ?_) (fun f9 => ?_)
  · obtain ⟨i, hi9, rfl⟩ := b01_n t9
    refine wp_iload_n (M := mX7_deposit) (pc := 16) dX7_deposit_16 rfl ?_
    refine wp_i2l (M := mX7_deposit) (pc := 17) dX7_deposit_17 ?_
    refine wp_lconst (M := mX7_deposit) (pc := 18) (v := 1) dX7_deposit_18 cl_1 ?_
    refine wp_ldc2_w (M := mX7_deposit) (pc := 19) wv_X7_228 dX7_deposit_19 ?_
    refine so_S3 (M := mX7_deposit) (pc := 22) cs_X7_deposit_65 rfl rfl (LE rfl) (LE rfl) dX7_deposit_22 ?_
    refine sp_X7_in ?_
    rw [b01_iff (wl (x := z) (a := 1) (b := 9999) (a' := 1) (b' := 9999) (by decide) (by decide))]
    refine kI ?_
    refine wp_if_ne (M := mX7_deposit) (pc := 25) (tgt := 32) dX7_deposit_25 rfl (fun t25 => ?_) (fun f25 => ?_)
    · refine wp_aload_n (M := mX7_deposit) (pc := 32) dX7_deposit_32 rfl ?_
      refine wp_getR (M := mX7_deposit) (pc := 33) fa_X7_7 rfl dX7_deposit_33 (by first | exact Hm.k | exact Hm.a rfl | fail "kd") (Hm.r rfl) ?_
      refine wp_iload_n (M := mX7_deposit) (pc := 36) dX7_deposit_36 rfl ?_
      refine so_S1 (M := mX7_deposit) (pc := 37) cs_X7_deposit_90 rfl rfl (LE rfl) (LE rfl) dX7_deposit_37 ?_
      refine sp_X7_at ?_
      refine kI ?_
      refine wp_iconst (M := mX7_deposit) (pc := 40) (v := 4) dX7_deposit_40 ci_4 ?_
      refine wp_iadd (M := mX7_deposit) (pc := 41) dX7_deposit_41 ?_
      refine wr_iaload (M := mX7_deposit) (pc := 42) dX7_deposit_42 (by first | exact Hm.k | exact Hm.a rfl | fail "kd") (ia rfl (show (4 : Int32) = nI 4 from rfl)) (by omega) (by decide) ?_
      refine wp_iload_n (M := mX7_deposit) (pc := 43) dX7_deposit_43 rfl ?_
      refine wp_iadd (M := mX7_deposit) (pc := 44) dX7_deposit_44 ?_
      refine wp_ldc (M := mX7_deposit) (pc := 45) wv_X7_230 dX7_deposit_45 ?_
      refine wp_icmp_le (M := mX7_deposit) (pc := 47) (tgt := 54) dX7_deposit_47 rfl (fun t47 => ?_) (fun f47 => ?_)
      · rw [hR.tF hi9 (by decide)] at t47
        refine wp_iconst (M := mX7_deposit) (pc := 54) (v := 0) dX7_deposit_54 ci_0 ?_
        refine so_V1 (M := mX7_deposit) (pc := 55) cs_X7_deposit_74 rfl rfl (LE rfl) (LE rfl) dX7_deposit_55 Hm.k ?_
        refine sp_X7_refused0 Hm.k ?_
        refine kI ?_
        refine wp_if_eq (M := mX7_deposit) (pc := 58) (tgt := 63) dX7_deposit_58 rfl (fun t58 => ?_) (fun f58 => ?_)
        · refine wp_gen (P := fun hX => WM hX me ad X ∧ gi hX me 0 = 0 ∧ Ow me h hX) ⟨H.ref, gi_si_same, Fr.si Hm.t⟩ (fun h0 HX => ?_)
          obtain ⟨H, z0, F0⟩ := HX
          have Hm := H.1
          have hR := H.2.1
          refine wp_aload_n (M := mX7_deposit) (pc := 63) dX7_deposit_63 rfl ?_
          refine so_V0 (M := mX7_deposit) (pc := 64) cs_X7_deposit_212 rfl rfl (LE rfl) (LE rfl) dX7_deposit_64 (by first | exact Hm.k | exact Hm.a rfl | fail "kd") ?_
          refine sp_X7_note H (fun h1 H z1 F1 => ?_)
          have Hm := H.1
          have hR := H.2.1
          refine kV ?_
          refine wp_aload_n (M := mX7_deposit) (pc := 67) dX7_deposit_67 rfl ?_
          refine wp_getR (M := mX7_deposit) (pc := 68) fa_X7_7 rfl dX7_deposit_68 (by first | exact Hm.k | exact Hm.a rfl | fail "kd") (Hm.r rfl) ?_
          refine wp_iload_n (M := mX7_deposit) (pc := 71) dX7_deposit_71 rfl ?_
          refine so_S1 (M := mX7_deposit) (pc := 72) cs_X7_deposit_90 rfl rfl (LE rfl) (LE rfl) dX7_deposit_72 ?_
          refine sp_X7_at ?_
          refine kI ?_
          refine wp_iconst (M := mX7_deposit) (pc := 75) (v := 4) dX7_deposit_75 ci_4 ?_
          refine wp_iadd (M := mX7_deposit) (pc := 76) dX7_deposit_76 ?_
          refine wp_dup2 (M := mX7_deposit) (pc := 77) dX7_deposit_77 rfl rfl ?_
          refine wr_iaload (M := mX7_deposit) (pc := 78) dX7_deposit_78 (by first | exact Hm.k | exact Hm.a rfl | fail "kd") (ia rfl (show (4 : Int32) = nI 4 from rfl)) (by omega) (by decide) ?_
          refine wp_iload_n (M := mX7_deposit) (pc := 79) dX7_deposit_79 rfl ?_
          refine wp_iadd (M := mX7_deposit) (pc := 80) dX7_deposit_80 ?_
          refine wr_iastore (M := mX7_deposit) (pc := 81) dX7_deposit_81 (by first | exact Hm.k | exact Hm.a rfl | fail "kd") (ia rfl (show (4 : Int32) = nI 4 from rfl)) (by omega) (by decide) ?_
          refine wp_aload_n (M := mX7_deposit) (pc := 82) dX7_deposit_82 rfl ?_
          refine wp_getR (M := mX7_deposit) (pc := 83) fa_X7_7 rfl dX7_deposit_83 (by first | exact Hm.k | exact Hm.a rfl | fail "kd") (Hm.r rfl) ?_
          refine wp_iload_n (M := mX7_deposit) (pc := 86) dX7_deposit_86 rfl ?_
          refine so_S1 (M := mX7_deposit) (pc := 87) cs_X7_deposit_90 rfl rfl (LE rfl) (LE rfl) dX7_deposit_87 ?_
          refine sp_X7_at ?_
          refine kI ?_
          refine wp_iconst (M := mX7_deposit) (pc := 90) (v := 4) dX7_deposit_90 ci_4 ?_
          refine wp_iadd (M := mX7_deposit) (pc := 91) dX7_deposit_91 ?_
          refine wr_iaload (M := mX7_deposit) (pc := 92) dX7_deposit_92 (by first | exact Hm.k | exact Hm.a rfl | fail "kd") (ia rfl (show (4 : Int32) = nI 4 from rfl)) (by omega) (by decide) ?_
          refine wp_ireturn (M := mX7_deposit) (pc := 93) rfl dX7_deposit_93 ?_
          rw [gi_si_same, hR.tF hi9 (by decide)]
          have F2 : RF (ad 1) h1 (si h1 (ad 1) (58 + 217 * i + 4) (fT (remX X).1 i 4 + z)) := RF.si
          have R2 := hR.sF hi9 (k := 4) (by decide) (fT (remX X).1 i 4 + z)
          rw [← gi_si_at] at R2
          exact k1 i hi9 rfl (b01_n t25) t47 _ (H.n (F2.B rfl (Hm.ne (k := 1) rfl)) R2) (by rw [F2.gi (Hm.ne (k := 1) rfl).symm, z1]; exact z0) (F0.tr (F1.tr (rf_ow F2 (Hm.ta (k := 1) rfl))))
        · exact absurd rfl f58
      · rw [hR.tF hi9 (by decide)] at f47
        refine wp_iconst (M := mX7_deposit) (pc := 50) (v := 3) dX7_deposit_50 ci_3 ?_
        refine wp_goto (M := mX7_deposit) (pc := 51) (tgt := 55) dX7_deposit_51 rfl ?_
        refine so_V1 (M := mX7_deposit) (pc := 55) cs_X7_deposit_74 rfl rfl (LE rfl) (LE rfl) dX7_deposit_55 Hm.k ?_
        refine sp_X7_refused1 (v := 3) Hm.k (by decide) ?_
        refine kI ?_
        refine wp_if_eq (M := mX7_deposit) (pc := 58) (tgt := 63) dX7_deposit_58 rfl (fun t58 => ?_) (fun f58 => ?_)
        · exact absurd t58 (by decide)
        · refine wp_iconst (M := mX7_deposit) (pc := 61) (v := 0) dX7_deposit_61 ci_0 ?_
          refine wp_ireturn (M := mX7_deposit) (pc := 62) rfl dX7_deposit_62 ?_
          exact k4 i hi9 rfl (b01_n t25) f47 _ H.ref gi_si_same (Fr.si Hm.t)
    · refine wp_iconst (M := mX7_deposit) (pc := 28) (v := 2) dX7_deposit_28 ci_2 ?_
      refine wp_goto (M := mX7_deposit) (pc := 29) (tgt := 55) dX7_deposit_29 rfl ?_
      refine so_V1 (M := mX7_deposit) (pc := 55) cs_X7_deposit_74 rfl rfl (LE rfl) (LE rfl) dX7_deposit_55 Hm.k ?_
      refine sp_X7_refused1 (v := 2) Hm.k (by decide) ?_
      refine kI ?_
      refine wp_if_eq (M := mX7_deposit) (pc := 58) (tgt := 63) dX7_deposit_58 rfl (fun t58 => ?_) (fun f58 => ?_)
      · exact absurd t58 (by decide)
      · refine wp_iconst (M := mX7_deposit) (pc := 61) (v := 0) dX7_deposit_61 ci_0 ?_
        refine wp_ireturn (M := mX7_deposit) (pc := 62) rfl dX7_deposit_62 ?_
        exact k3 ⟨i, hi9, rfl⟩ (b01_z f25) _ H.ref gi_si_same (Fr.si Hm.t)
  · refine wp_iconst (M := mX7_deposit) (pc := 12) (v := 1) dX7_deposit_12 ci_1 ?_
    refine wp_goto (M := mX7_deposit) (pc := 13) (tgt := 55) dX7_deposit_13 rfl ?_
    refine so_V1 (M := mX7_deposit) (pc := 55) cs_X7_deposit_74 rfl rfl (LE rfl) (LE rfl) dX7_deposit_55 Hm.k ?_
    refine sp_X7_refused1 (v := 1) Hm.k (by decide) ?_
    refine kI ?_
    refine wp_if_eq (M := mX7_deposit) (pc := 58) (tgt := 63) dX7_deposit_58 rfl (fun t58 => ?_) (fun f58 => ?_)
    · exact absurd t58 (by decide)
    · refine wp_iconst (M := mX7_deposit) (pc := 61) (v := 0) dX7_deposit_61 ci_0 ?_
      refine wp_ireturn (M := mX7_deposit) (pc := 62) rfl dX7_deposit_62 ?_
      exact k2 (b01_z f9) _ H.ref gi_si_same (Fr.si Hm.t)
set_option maxHeartbeats 4000000 in
set_option maxRecDepth 100000 in
theorem sp_X7_setRate {me : Nat} {ad : Nat → Nat} {X : Abs} {t z : Int32} (H : WM h me ad X)  (k1 : ∀ i, i < sN (xA X) → t = nI i → wth z 0 99 → ∀ h', WM h' me ad (actX X (wF (xA X) i 1 z)) → gi h' me 0 = 0 → Ow me h h' → Q (.inl (some (.int (fT (xA X) i 1)))) h') (k2 : ¬ isT (xA X) t → ∀ h', WM h' me ad X → gi h' me 0 = 1 → Ow me h h' → Q (.inl (some (.int 0))) h') (k3 : isT (xA X) t → ¬ wth z 0 99 → ∀ h', WM h' me ad X → gi h' me 0 = 2 → Ow me h h' → Q (.inl (some (.int 0))) h') : WPx E mX7_setRate 0 [some (.ref me), some (.int t), some (.int z), none] [] (0, 0) h Q := by
  have Hm := H.1
  have hR := H.2.1
  have n6 := hR.n6
  have n12 := hR.n12
  refine wp_aload_n (M := mX7_setRate) (pc := 0) dX7_setRate_0 rfl ?_
  refine wp_aload_n (M := mX7_setRate) (pc := 1) dX7_setRate_1 rfl ?_
  refine wp_getR (M := mX7_setRate) (pc := 2) fa_X7_7 rfl dX7_setRate_2 (by first | exact Hm.k | exact Hm.a rfl | fail "kd") (Hm.r rfl) ?_
  refine wp_iload_n (M := mX7_setRate) (pc := 5) dX7_setRate_5 rfl ?_
  refine so_S2 (M := mX7_setRate) (pc := 6) cs_X7_setRate_94 rfl rfl (LE rfl) (LE rfl) dX7_setRate_6 ?_
  refine sp_X7_isTenant (Hm.a rfl) hR ?_
  refine kI ?_
  refine wp_if_ne (M := mX7_setRate) (pc := 9) (tgt := 16) dX7_setRate_9 rfl (fun t9 => ?_) (fun f9 => ?_)
  · obtain ⟨i, hi9, rfl⟩ := b01_n t9
    refine wp_iload_n (M := mX7_setRate) (pc := 16) dX7_setRate_16 rfl ?_
    refine wp_i2l (M := mX7_setRate) (pc := 17) dX7_setRate_17 ?_
    refine wp_lconst (M := mX7_setRate) (pc := 18) (v := 0) dX7_setRate_18 cl_0 ?_
    refine wp_ldc2_w (M := mX7_setRate) (pc := 19) wv_X7_206 dX7_setRate_19 ?_
    refine so_S3 (M := mX7_setRate) (pc := 22) cs_X7_setRate_65 rfl rfl (LE rfl) (LE rfl) dX7_setRate_22 ?_
    refine sp_X7_in ?_
    rw [b01_iff (wl (x := z) (a := 0) (b := 99) (a' := 0) (b' := 99) (by decide) (by decide))]
    refine kI ?_
    refine wp_if_ne (M := mX7_setRate) (pc := 25) (tgt := 32) dX7_setRate_25 rfl (fun t25 => ?_) (fun f25 => ?_)
    · refine wp_iconst (M := mX7_setRate) (pc := 32) (v := 0) dX7_setRate_32 ci_0 ?_
      refine so_V1 (M := mX7_setRate) (pc := 33) cs_X7_setRate_74 rfl rfl (LE rfl) (LE rfl) dX7_setRate_33 Hm.k ?_
      refine sp_X7_refused0 Hm.k ?_
      refine kI ?_
      refine wp_if_eq (M := mX7_setRate) (pc := 36) (tgt := 41) dX7_setRate_36 rfl (fun t36 => ?_) (fun f36 => ?_)
      · refine wp_gen (P := fun hX => WM hX me ad X ∧ gi hX me 0 = 0 ∧ Ow me h hX) ⟨H.ref, gi_si_same, Fr.si Hm.t⟩ (fun h0 HX => ?_)
        obtain ⟨H, z0, F0⟩ := HX
        have Hm := H.1
        have hR := H.2.1
        refine wp_aload_n (M := mX7_setRate) (pc := 41) dX7_setRate_41 rfl ?_
        refine so_V0 (M := mX7_setRate) (pc := 42) cs_X7_setRate_212 rfl rfl (LE rfl) (LE rfl) dX7_setRate_42 (by first | exact Hm.k | exact Hm.a rfl | fail "kd") ?_
        refine sp_X7_note H (fun h1 H z1 F1 => ?_)
        have Hm := H.1
        have hR := H.2.1
        refine kV ?_
        refine wp_aload_n (M := mX7_setRate) (pc := 45) dX7_setRate_45 rfl ?_
        refine wp_getR (M := mX7_setRate) (pc := 46) fa_X7_7 rfl dX7_setRate_46 (by first | exact Hm.k | exact Hm.a rfl | fail "kd") (Hm.r rfl) ?_
        refine wp_iload_n (M := mX7_setRate) (pc := 49) dX7_setRate_49 rfl ?_
        refine so_S1 (M := mX7_setRate) (pc := 50) cs_X7_setRate_90 rfl rfl (LE rfl) (LE rfl) dX7_setRate_50 ?_
        refine sp_X7_at ?_
        refine kI ?_
        refine wp_iconst (M := mX7_setRate) (pc := 53) (v := 1) dX7_setRate_53 ci_1 ?_
        refine wp_iadd (M := mX7_setRate) (pc := 54) dX7_setRate_54 ?_
        refine wr_iaload (M := mX7_setRate) (pc := 55) dX7_setRate_55 (by first | exact Hm.k | exact Hm.a rfl | fail "kd") (ia rfl (show (1 : Int32) = nI 1 from rfl)) (by omega) (by decide) ?_
        refine so_istore_n (M := mX7_setRate) (pc := 56) (lo' := [_, _, _, _]) dX7_setRate_56 (LE rfl) (LE rfl) (Or.inr rfl) rfl ?_
        refine wp_aload_n (M := mX7_setRate) (pc := 57) dX7_setRate_57 rfl ?_
        refine wp_getR (M := mX7_setRate) (pc := 58) fa_X7_7 rfl dX7_setRate_58 (by first | exact Hm.k | exact Hm.a rfl | fail "kd") (Hm.r rfl) ?_
        refine wp_iload_n (M := mX7_setRate) (pc := 61) dX7_setRate_61 rfl ?_
        refine so_S1 (M := mX7_setRate) (pc := 62) cs_X7_setRate_90 rfl rfl (LE rfl) (LE rfl) dX7_setRate_62 ?_
        refine sp_X7_at ?_
        refine kI ?_
        refine wp_iconst (M := mX7_setRate) (pc := 65) (v := 1) dX7_setRate_65 ci_1 ?_
        refine wp_iadd (M := mX7_setRate) (pc := 66) dX7_setRate_66 ?_
        refine wp_iload_n (M := mX7_setRate) (pc := 67) dX7_setRate_67 rfl ?_
        refine wr_iastore (M := mX7_setRate) (pc := 68) dX7_setRate_68 (by first | exact Hm.k | exact Hm.a rfl | fail "kd") (ia rfl (show (1 : Int32) = nI 1 from rfl)) (by omega) (by decide) ?_
        refine wp_iload_n (M := mX7_setRate) (pc := 69) dX7_setRate_69 rfl ?_
        refine wp_ireturn (M := mX7_setRate) (pc := 70) rfl dX7_setRate_70 ?_
        rw [hR.tF hi9 (by decide)]
        have F2 : RF (ad 1) h1 (si h1 (ad 1) (58 + 217 * i + 1) z) := RF.si
        have R2 := hR.sF hi9 (k := 1) (by decide) z
        rw [← gi_si_at] at R2
        exact k1 i hi9 rfl (b01_n t25) _ (H.n (F2.B rfl (Hm.ne (k := 1) rfl)) R2) (by rw [F2.gi (Hm.ne (k := 1) rfl).symm, z1]; exact z0) (F0.tr (F1.tr (rf_ow F2 (Hm.ta (k := 1) rfl))))
      · exact absurd rfl f36
    · refine wp_iconst (M := mX7_setRate) (pc := 28) (v := 2) dX7_setRate_28 ci_2 ?_
      refine wp_goto (M := mX7_setRate) (pc := 29) (tgt := 33) dX7_setRate_29 rfl ?_
      refine so_V1 (M := mX7_setRate) (pc := 33) cs_X7_setRate_74 rfl rfl (LE rfl) (LE rfl) dX7_setRate_33 Hm.k ?_
      refine sp_X7_refused1 (v := 2) Hm.k (by decide) ?_
      refine kI ?_
      refine wp_if_eq (M := mX7_setRate) (pc := 36) (tgt := 41) dX7_setRate_36 rfl (fun t36 => ?_) (fun f36 => ?_)
      · exact absurd t36 (by decide)
      · refine wp_iconst (M := mX7_setRate) (pc := 39) (v := 0) dX7_setRate_39 ci_0 ?_
        refine wp_ireturn (M := mX7_setRate) (pc := 40) rfl dX7_setRate_40 ?_
        exact k3 ⟨i, hi9, rfl⟩ (b01_z f25) _ H.ref gi_si_same (Fr.si Hm.t)
  · refine wp_iconst (M := mX7_setRate) (pc := 12) (v := 1) dX7_setRate_12 ci_1 ?_
    refine wp_goto (M := mX7_setRate) (pc := 13) (tgt := 33) dX7_setRate_13 rfl ?_
    refine so_V1 (M := mX7_setRate) (pc := 33) cs_X7_setRate_74 rfl rfl (LE rfl) (LE rfl) dX7_setRate_33 Hm.k ?_
    refine sp_X7_refused1 (v := 1) Hm.k (by decide) ?_
    refine kI ?_
    refine wp_if_eq (M := mX7_setRate) (pc := 36) (tgt := 41) dX7_setRate_36 rfl (fun t36 => ?_) (fun f36 => ?_)
    · exact absurd t36 (by decide)
    · refine wp_iconst (M := mX7_setRate) (pc := 39) (v := 0) dX7_setRate_39 ci_0 ?_
      refine wp_ireturn (M := mX7_setRate) (pc := 40) rfl dX7_setRate_40 ?_
      exact k2 (b01_z f9) _ H.ref gi_si_same (Fr.si Hm.t)
set_option maxHeartbeats 4000000 in
set_option maxRecDepth 100000 in
theorem sp_X7_setWidth {me : Nat} {ad : Nat → Nat} {X : Abs} {z : Int32} (H : WM h me ad X)  (k1 : wth z 1 999 → ∀ h', WM h' me ad (actX X (wG (xA X) 1 z)) → gi h' me 0 = 0 → Ow me h h' → Q (.inl (some (.int (sG (xA X) 1)))) h') (k2 : ¬ wth z 1 999 → ∀ h', WM h' me ad X → gi h' me 0 = 1 → Ow me h h' → Q (.inl (some (.int 0))) h') : WPx E mX7_setWidth 0 [some (.ref me), some (.int z), none] [] (0, 0) h Q := by
  have Hm := H.1
  have hR := H.2.1
  have n6 := hR.n6
  have n12 := hR.n12
  refine wp_aload_n (M := mX7_setWidth) (pc := 0) dX7_setWidth_0 rfl ?_
  refine wp_iload_n (M := mX7_setWidth) (pc := 1) dX7_setWidth_1 rfl ?_
  refine wp_i2l (M := mX7_setWidth) (pc := 2) dX7_setWidth_2 ?_
  refine wp_lconst (M := mX7_setWidth) (pc := 3) (v := 1) dX7_setWidth_3 cl_1 ?_
  refine wp_ldc2_w (M := mX7_setWidth) (pc := 4) wv_X7_236 dX7_setWidth_4 ?_
  refine so_S3 (M := mX7_setWidth) (pc := 7) cs_X7_setWidth_65 rfl rfl (LE rfl) (LE rfl) dX7_setWidth_7 ?_
  refine sp_X7_in ?_
  rw [b01_iff (wl (x := z) (a := 1) (b := 999) (a' := 1) (b' := 999) (by decide) (by decide))]
  refine kI ?_
  refine wp_if_eq (M := mX7_setWidth) (pc := 10) (tgt := 17) dX7_setWidth_10 rfl (fun t10 => ?_) (fun f10 => ?_)
  · refine wp_iconst (M := mX7_setWidth) (pc := 17) (v := 1) dX7_setWidth_17 ci_1 ?_
    refine so_V1 (M := mX7_setWidth) (pc := 18) cs_X7_setWidth_74 rfl rfl (LE rfl) (LE rfl) dX7_setWidth_18 Hm.k ?_
    refine sp_X7_refused1 (v := 1) Hm.k (by decide) ?_
    refine kI ?_
    refine wp_if_eq (M := mX7_setWidth) (pc := 21) (tgt := 26) dX7_setWidth_21 rfl (fun t21 => ?_) (fun f21 => ?_)
    · exact absurd t21 (by decide)
    · refine wp_iconst (M := mX7_setWidth) (pc := 24) (v := 0) dX7_setWidth_24 ci_0 ?_
      refine wp_ireturn (M := mX7_setWidth) (pc := 25) rfl dX7_setWidth_25 ?_
      exact k2 (b01_z t10) _ H.ref gi_si_same (Fr.si Hm.t)
  · refine wp_iconst (M := mX7_setWidth) (pc := 13) (v := 0) dX7_setWidth_13 ci_0 ?_
    refine wp_goto (M := mX7_setWidth) (pc := 14) (tgt := 18) dX7_setWidth_14 rfl ?_
    refine so_V1 (M := mX7_setWidth) (pc := 18) cs_X7_setWidth_74 rfl rfl (LE rfl) (LE rfl) dX7_setWidth_18 Hm.k ?_
    refine sp_X7_refused0 Hm.k ?_
    refine kI ?_
    refine wp_if_eq (M := mX7_setWidth) (pc := 21) (tgt := 26) dX7_setWidth_21 rfl (fun t21 => ?_) (fun f21 => ?_)
    · refine wp_gen (P := fun hX => WM hX me ad X ∧ gi hX me 0 = 0 ∧ Ow me h hX) ⟨H.ref, gi_si_same, Fr.si Hm.t⟩ (fun h0 HX => ?_)
      obtain ⟨H, z0, F0⟩ := HX
      have Hm := H.1
      have hR := H.2.1
      refine wp_aload_n (M := mX7_setWidth) (pc := 26) dX7_setWidth_26 rfl ?_
      refine so_V0 (M := mX7_setWidth) (pc := 27) cs_X7_setWidth_212 rfl rfl (LE rfl) (LE rfl) dX7_setWidth_27 (by first | exact Hm.k | exact Hm.a rfl | fail "kd") ?_
      refine sp_X7_note H (fun h1 H z1 F1 => ?_)
      have Hm := H.1
      have hR := H.2.1
      refine kV ?_
      refine wp_aload_n (M := mX7_setWidth) (pc := 30) dX7_setWidth_30 rfl ?_
      refine wp_getR (M := mX7_setWidth) (pc := 31) fa_X7_7 rfl dX7_setWidth_31 (by first | exact Hm.k | exact Hm.a rfl | fail "kd") (Hm.r rfl) ?_
      refine wp_iconst (M := mX7_setWidth) (pc := 34) (v := 1) dX7_setWidth_34 ci_1 ?_
      refine wr_iaload (M := mX7_setWidth) (pc := 35) dX7_setWidth_35 (by first | exact Hm.k | exact Hm.a rfl | fail "kd") (show (1 : Int32) = nI 1 from rfl) (by omega) (by decide) ?_
      refine so_istore_n (M := mX7_setWidth) (pc := 36) (lo' := [_, _, _]) dX7_setWidth_36 (LE rfl) (LE rfl) (Or.inr rfl) rfl ?_
      refine wp_aload_n (M := mX7_setWidth) (pc := 37) dX7_setWidth_37 rfl ?_
      refine wp_getR (M := mX7_setWidth) (pc := 38) fa_X7_7 rfl dX7_setWidth_38 (by first | exact Hm.k | exact Hm.a rfl | fail "kd") (Hm.r rfl) ?_
      refine wp_iconst (M := mX7_setWidth) (pc := 41) (v := 1) dX7_setWidth_41 ci_1 ?_
      refine wp_iload_n (M := mX7_setWidth) (pc := 42) dX7_setWidth_42 rfl ?_
      refine wr_iastore (M := mX7_setWidth) (pc := 43) dX7_setWidth_43 (by first | exact Hm.k | exact Hm.a rfl | fail "kd") (show (1 : Int32) = nI 1 from rfl) (by omega) (by decide) ?_
      refine wp_iload_n (M := mX7_setWidth) (pc := 44) dX7_setWidth_44 rfl ?_
      refine wp_ireturn (M := mX7_setWidth) (pc := 45) rfl dX7_setWidth_45 ?_
      rw [hR.f1]
      have F2 : RF (ad 1) h1 (si h1 (ad 1) 1 z) := RF.si
      have R2 := hR.sG (k := 1) (by decide) z
      rw [← gi_si_at] at R2
      exact k1 (b01_n f10) _ (H.n (F2.B rfl (Hm.ne (k := 1) rfl)) R2) (by rw [F2.gi (Hm.ne (k := 1) rfl).symm, z1]; exact z0) (F0.tr (F1.tr (rf_ow F2 (Hm.ta (k := 1) rfl))))
    · exact absurd rfl f21
set_option maxHeartbeats 4000000 in
set_option maxRecDepth 100000 in
theorem sp_X7_tick {me : Nat} {ad : Nat → Nat} {X : Abs} {w : Int32} (H : WM h me ad X) (hn0 : 0 < sN (xA X)) (hti : sTi (xA X) + 150 < 2 ^ 30) (hok : ∀ j, j < 50 → okU (tksR j (xA X)).1) (k1 : ∀ n, 1 ≤ n → n ≤ 50 → w = nI n → ∀ h', WM h' me ad (actX X (tksR n (xA X)).1) → gi h' me 0 = 0 → Ow me h h' → Q (.inl (some (.int (tksR n (xA X)).2))) h') (k2 : ¬ wth w 1 50 → ∀ h', WM h' me ad X → gi h' me 0 = 1 → Ow me h h' → Q (.inl (some (.int 0))) h') : WPx E mX7_tick 0 [some (.ref me), some (.int w)] [] (0, 0) h Q := by
  have Hm := H.1
  have hR := H.2.1
  have n6 := hR.n6
  have n12 := hR.n12
  refine wp_aload_n (M := mX7_tick) (pc := 0) dX7_tick_0 rfl ?_
  refine wp_iload_n (M := mX7_tick) (pc := 1) dX7_tick_1 rfl ?_
  refine wp_i2l (M := mX7_tick) (pc := 2) dX7_tick_2 ?_
  refine wp_lconst (M := mX7_tick) (pc := 3) (v := 1) dX7_tick_3 cl_1 ?_
  refine wp_ldc2_w (M := mX7_tick) (pc := 4) wv_X7_231 dX7_tick_4 ?_
  refine so_S3 (M := mX7_tick) (pc := 7) cs_X7_tick_65 rfl rfl (LE rfl) (LE rfl) dX7_tick_7 ?_
  refine sp_X7_in ?_
  rw [b01_iff (wl (x := w) (a := 1) (b := 50) (a' := 1) (b' := 50) (by decide) (by decide))]
  refine kI ?_
  refine wp_if_eq (M := mX7_tick) (pc := 10) (tgt := 17) dX7_tick_10 rfl (fun t10 => ?_) (fun f10 => ?_)
  · refine wp_iconst (M := mX7_tick) (pc := 17) (v := 1) dX7_tick_17 ci_1 ?_
    refine so_V1 (M := mX7_tick) (pc := 18) cs_X7_tick_74 rfl rfl (LE rfl) (LE rfl) dX7_tick_18 Hm.k ?_
    refine sp_X7_refused1 (v := 1) Hm.k (by decide) ?_
    refine kI ?_
    refine wp_if_eq (M := mX7_tick) (pc := 21) (tgt := 26) dX7_tick_21 rfl (fun t21 => ?_) (fun f21 => ?_)
    · exact absurd t21 (by decide)
    · refine wp_iconst (M := mX7_tick) (pc := 24) (v := 0) dX7_tick_24 ci_0 ?_
      refine wp_ireturn (M := mX7_tick) (pc := 25) rfl dX7_tick_25 ?_
      exact k2 (b01_z t10) _ H.ref gi_si_same (Fr.si Hm.t)
  · refine wp_iconst (M := mX7_tick) (pc := 13) (v := 0) dX7_tick_13 ci_0 ?_
    refine wp_goto (M := mX7_tick) (pc := 14) (tgt := 18) dX7_tick_14 rfl ?_
    refine so_V1 (M := mX7_tick) (pc := 18) cs_X7_tick_74 rfl rfl (LE rfl) (LE rfl) dX7_tick_18 Hm.k ?_
    refine sp_X7_refused0 Hm.k ?_
    refine kI ?_
    refine wp_if_eq (M := mX7_tick) (pc := 21) (tgt := 26) dX7_tick_21 rfl (fun t21 => ?_) (fun f21 => ?_)
    · refine wp_gen (P := fun hX => WM hX me ad X ∧ gi hX me 0 = 0 ∧ Ow me h hX) ⟨H.ref, gi_si_same, Fr.si Hm.t⟩ (fun h0 HX => ?_)
      obtain ⟨H, z0, F0⟩ := HX
      have Hm := H.1
      have hR := H.2.1
      obtain ⟨n, hn1, hn2, rfl⟩ := wth_1 (b := 50) (by decide) (b01_n f10)
      refine wp_aload_n (M := mX7_tick) (pc := 26) dX7_tick_26 rfl ?_
      refine so_V0 (M := mX7_tick) (pc := 27) cs_X7_tick_212 rfl rfl (LE rfl) (LE rfl) dX7_tick_27 (by first | exact Hm.k | exact Hm.a rfl | fail "kd") ?_
      refine sp_X7_note H (fun h1 H z1 F1 => ?_)
      have Hm := H.1
      have hR := H.2.1
      refine kV ?_
      refine wp_aload_n (M := mX7_tick) (pc := 30) dX7_tick_30 rfl ?_
      refine wp_aload_n (M := mX7_tick) (pc := 31) dX7_tick_31 rfl ?_
      refine wp_getR (M := mX7_tick) (pc := 32) fa_X7_7 rfl dX7_tick_32 (by first | exact Hm.k | exact Hm.a rfl | fail "kd") (Hm.r rfl) ?_
      refine wp_iload_n (M := mX7_tick) (pc := 35) dX7_tick_35 rfl ?_
      refine so_V2 (M := mX7_tick) (pc := 36) cs_X7_tick_233 rfl rfl (LE rfl) (LE rfl) dX7_tick_36 (by first | exact Hm.k | exact Hm.a rfl | fail "kd") ?_
      refine sp_X7_ticksOn Hm (Hm.a rfl) hR (Hm.na (j := 1) rfl (by decide) (by decide) (by decide) (by decide)) (by omega) hn0 (by show sTi (xA X) + n + 100 < 2 ^ 30; omega) (fun j hj => hok j (by omega)) (fun h2 Hm2 R2 F2 => ?_)
      refine kI ?_
      refine wp_ireturn (M := mX7_tick) (pc := 39) rfl dX7_tick_39 ?_
      exact k1 n hn1 hn2 rfl h2 (H.n F2 R2) (by rw [F2.2.2 0 (by decide) (by decide) (by decide) (by decide), z1]; exact z0) (F0.tr (F1.tr (FrB.ow Hm F2 (fun x e => by rw [e]; exact Hm.ta (k := 1) rfl))))
    · exact absurd rfl f21
set_option maxHeartbeats 4000000 in
set_option maxRecDepth 100000 in
theorem sp_X7_orderBy {me : Nat} {ad : Nat → Nat} {X : Abs} {kn : Nat} {t p z : Int32} (H : WM h me ad X) (hkn : kn < 3) (k1 : ∀ i, i < sN (xA X) → t = nI i → wth p 1 99 → wth z 1 99 → canP (xA X) kn i p z → ∀ h', WM h' me ad (actX X (placeA (xA X) kn i p z)) → gi h' me 0 = 0 → Ow me h h' → Q (.inl (some (.int (nI (sO (xA X)).length)))) h') (k2 : ¬ isT (xA X) t → ∀ h', WM h' me ad X → gi h' me 0 = 1 → Ow me h h' → Q (.inl (some (.int 0))) h') (k3 : isT (xA X) t → ¬ (wth p 1 99 ∧ wth z 1 99) → ∀ h', WM h' me ad X → gi h' me 0 = 2 → Ow me h h' → Q (.inl (some (.int 0))) h') (k4 : ∀ i, i < sN (xA X) → t = nI i → wth p 1 99 → wth z 1 99 → ¬ canP (xA X) kn i p z → ∀ h', WM h' me ad X → gi h' me 0 = 3 → Ow me h h' → Q (.inl (some (.int 0))) h') : WPx E mX7_orderBy 0 [some (.ref me), some (.int t), some (.int (nI kn)), some (.int p), some (.int z)] [] (0, 0) h Q := by
  have Hm := H.1
  have hR := H.2.1
  have n6 := hR.n6
  have n12 := hR.n12
  refine wp_aload_n (M := mX7_orderBy) (pc := 0) dX7_orderBy_0 rfl ?_
  refine wp_aload_n (M := mX7_orderBy) (pc := 1) dX7_orderBy_1 rfl ?_
  refine wp_getR (M := mX7_orderBy) (pc := 2) fa_X7_7 rfl dX7_orderBy_2 (by first | exact Hm.k | exact Hm.a rfl | fail "kd") (Hm.r rfl) ?_
  refine wp_iload_n (M := mX7_orderBy) (pc := 5) dX7_orderBy_5 rfl ?_
  refine wp_iload_n (M := mX7_orderBy) (pc := 6) dX7_orderBy_6 rfl ?_
  refine wp_iload_n (M := mX7_orderBy) (pc := 7) dX7_orderBy_7 rfl ?_
  refine wp_iload (M := mX7_orderBy) (pc := 8) dX7_orderBy_8 rfl ?_
  refine so_S5 (M := mX7_orderBy) (pc := 10) cs_X7_orderBy_208 rfl rfl (LE rfl) (LE rfl) dX7_orderBy_10 ?_
  refine sp_X7_whyNot (Hm.a rfl) hR hkn (fun i hi9 et hp hz hc => ?_) (fun hn => ?_) (fun ht hn => ?_) (fun i hi9 et hp hz hc => ?_)
  · refine kI ?_
    subst et
    refine so_V1 (M := mX7_orderBy) (pc := 13) cs_X7_orderBy_74 rfl rfl (LE rfl) (LE rfl) dX7_orderBy_13 Hm.k ?_
    refine sp_X7_refused0 Hm.k ?_
    refine kI ?_
    refine wp_if_eq (M := mX7_orderBy) (pc := 16) (tgt := 21) dX7_orderBy_16 rfl (fun t16 => ?_) (fun f16 => ?_)
    · refine wp_gen (P := fun hX => WM hX me ad X ∧ gi hX me 0 = 0 ∧ Ow me h hX) ⟨H.ref, gi_si_same, Fr.si Hm.t⟩ (fun h0 HX => ?_)
      obtain ⟨H, z0, F0⟩ := HX
      have Hm := H.1
      have hR := H.2.1
      refine wp_aload_n (M := mX7_orderBy) (pc := 21) dX7_orderBy_21 rfl ?_
      refine so_V0 (M := mX7_orderBy) (pc := 22) cs_X7_orderBy_212 rfl rfl (LE rfl) (LE rfl) dX7_orderBy_22 (by first | exact Hm.k | exact Hm.a rfl | fail "kd") ?_
      refine sp_X7_note H (fun h1 H z1 F1 => ?_)
      have Hm := H.1
      have hR := H.2.1
      refine kV ?_
      refine wp_aload_n (M := mX7_orderBy) (pc := 25) dX7_orderBy_25 rfl ?_
      refine wp_getR (M := mX7_orderBy) (pc := 26) fa_X7_7 rfl dX7_orderBy_26 (by first | exact Hm.k | exact Hm.a rfl | fail "kd") (Hm.r rfl) ?_
      refine wp_iload_n (M := mX7_orderBy) (pc := 29) dX7_orderBy_29 rfl ?_
      refine wp_iload_n (M := mX7_orderBy) (pc := 30) dX7_orderBy_30 rfl ?_
      refine wp_iload_n (M := mX7_orderBy) (pc := 31) dX7_orderBy_31 rfl ?_
      refine wp_iload (M := mX7_orderBy) (pc := 32) dX7_orderBy_32 rfl ?_
      refine so_S5 (M := mX7_orderBy) (pc := 34) cs_X7_orderBy_215 rfl rfl (LE rfl) (LE rfl) dX7_orderBy_34 ?_
      refine sp_X7_addOrder (Hm.a rfl) hR hi9 hkn hc.1 (fun h2 R2 F2 => ?_)
      refine kI ?_
      refine wp_ireturn (M := mX7_orderBy) (pc := 37) rfl dX7_orderBy_37 ?_
      exact k1 i hi9 rfl hp hz hc h2 (H.n (F2.B rfl (Hm.ne (k := 1) rfl)) R2) (by rw [F2.gi (Hm.ne (k := 1) rfl).symm, z1]; exact z0) (F0.tr (F1.tr (rf_ow F2 (Hm.ta (k := 1) rfl))))
    · exact absurd rfl f16
  · refine kI ?_
    refine so_V1 (M := mX7_orderBy) (pc := 13) cs_X7_orderBy_74 rfl rfl (LE rfl) (LE rfl) dX7_orderBy_13 Hm.k ?_
    refine sp_X7_refused1 (v := 1) Hm.k (by decide) ?_
    refine kI ?_
    refine wp_if_eq (M := mX7_orderBy) (pc := 16) (tgt := 21) dX7_orderBy_16 rfl (fun t16 => ?_) (fun f16 => ?_)
    · exact absurd t16 (by decide)
    · refine wp_iconst (M := mX7_orderBy) (pc := 19) (v := 0) dX7_orderBy_19 ci_0 ?_
      refine wp_ireturn (M := mX7_orderBy) (pc := 20) rfl dX7_orderBy_20 ?_
      exact k2 hn _ H.ref gi_si_same (Fr.si Hm.t)
  · refine kI ?_
    refine so_V1 (M := mX7_orderBy) (pc := 13) cs_X7_orderBy_74 rfl rfl (LE rfl) (LE rfl) dX7_orderBy_13 Hm.k ?_
    refine sp_X7_refused1 (v := 2) Hm.k (by decide) ?_
    refine kI ?_
    refine wp_if_eq (M := mX7_orderBy) (pc := 16) (tgt := 21) dX7_orderBy_16 rfl (fun t16 => ?_) (fun f16 => ?_)
    · exact absurd t16 (by decide)
    · refine wp_iconst (M := mX7_orderBy) (pc := 19) (v := 0) dX7_orderBy_19 ci_0 ?_
      refine wp_ireturn (M := mX7_orderBy) (pc := 20) rfl dX7_orderBy_20 ?_
      exact k3 ht hn _ H.ref gi_si_same (Fr.si Hm.t)
  · refine kI ?_
    refine so_V1 (M := mX7_orderBy) (pc := 13) cs_X7_orderBy_74 rfl rfl (LE rfl) (LE rfl) dX7_orderBy_13 Hm.k ?_
    refine sp_X7_refused1 (v := 3) Hm.k (by decide) ?_
    refine kI ?_
    refine wp_if_eq (M := mX7_orderBy) (pc := 16) (tgt := 21) dX7_orderBy_16 rfl (fun t16 => ?_) (fun f16 => ?_)
    · exact absurd t16 (by decide)
    · refine wp_iconst (M := mX7_orderBy) (pc := 19) (v := 0) dX7_orderBy_19 ci_0 ?_
      refine wp_ireturn (M := mX7_orderBy) (pc := 20) rfl dX7_orderBy_20 ?_
      exact k4 i hi9 et hp hz hc _ H.ref gi_si_same (Fr.si Hm.t)
set_option maxHeartbeats 4000000 in
set_option maxRecDepth 100000 in
theorem sp_X7_bid {me : Nat} {ad : Nat → Nat} {X : Abs} {t p z : Int32} (H : WM h me ad X) (k1 : ∀ i, i < sN (xA X) → t = nI i → wth p 1 99 → wth z 1 99 → canP (xA X) 0 i p z → ∀ h', WM h' me ad (actX X (placeA (xA X) 0 i p z)) → gi h' me 0 = 0 → Ow me h h' → Q (.inl (some (.int (nI (sO (xA X)).length)))) h') (k2 : ¬ isT (xA X) t → ∀ h', WM h' me ad X → gi h' me 0 = 1 → Ow me h h' → Q (.inl (some (.int 0))) h') (k3 : isT (xA X) t → ¬ (wth p 1 99 ∧ wth z 1 99) → ∀ h', WM h' me ad X → gi h' me 0 = 2 → Ow me h h' → Q (.inl (some (.int 0))) h') (k4 : ∀ i, i < sN (xA X) → t = nI i → wth p 1 99 → wth z 1 99 → ¬ canP (xA X) 0 i p z → ∀ h', WM h' me ad X → gi h' me 0 = 3 → Ow me h h' → Q (.inl (some (.int 0))) h') : WPx E mX7_bid 0 [some (.ref me), some (.int t), some (.int p), some (.int z)] [] (0, 0) h Q := by
  refine wp_aload_n (M := mX7_bid) (pc := 0) dX7_bid_0 rfl ?_
  refine wp_iload_n (M := mX7_bid) (pc := 1) dX7_bid_1 rfl ?_
  refine wp_iconst (M := mX7_bid) (pc := 2) (v := 0) dX7_bid_2 ci_0 ?_
  refine wp_iload_n (M := mX7_bid) (pc := 3) dX7_bid_3 rfl ?_
  refine wp_iload_n (M := mX7_bid) (pc := 4) dX7_bid_4 rfl ?_
  refine so_V4 (M := mX7_bid) (pc := 5) cs_X7_bid_218 rfl rfl (LE rfl) (LE rfl) dX7_bid_5 H.1.k ?_
  exact sp_X7_orderBy (kn := 0) H (by decide) (fun i a1 a2 a3 a4 a5 h' a6 a7 a8 => kI (wp_ireturn (M := mX7_bid) (pc := 8) rfl dX7_bid_8 (k1 i a1 a2 a3 a4 a5 h' a6 a7 a8))) (fun a1 h' a2 a3 a4 => kI (wp_ireturn (M := mX7_bid) (pc := 8) rfl dX7_bid_8 (k2 a1 h' a2 a3 a4))) (fun a1 a0 h' a2 a3 a4 => kI (wp_ireturn (M := mX7_bid) (pc := 8) rfl dX7_bid_8 (k3 a1 a0 h' a2 a3 a4))) (fun i a1 a2 a3 a4 a5 h' a6 a7 a8 => kI (wp_ireturn (M := mX7_bid) (pc := 8) rfl dX7_bid_8 (k4 i a1 a2 a3 a4 a5 h' a6 a7 a8)))
set_option maxHeartbeats 4000000 in
set_option maxRecDepth 100000 in
theorem sp_X7_ask {me : Nat} {ad : Nat → Nat} {X : Abs} {t p z : Int32} (H : WM h me ad X) (k1 : ∀ i, i < sN (xA X) → t = nI i → wth p 1 99 → wth z 1 99 → canP (xA X) 1 i p z → ∀ h', WM h' me ad (actX X (placeA (xA X) 1 i p z)) → gi h' me 0 = 0 → Ow me h h' → Q (.inl (some (.int (nI (sO (xA X)).length)))) h') (k2 : ¬ isT (xA X) t → ∀ h', WM h' me ad X → gi h' me 0 = 1 → Ow me h h' → Q (.inl (some (.int 0))) h') (k3 : isT (xA X) t → ¬ (wth p 1 99 ∧ wth z 1 99) → ∀ h', WM h' me ad X → gi h' me 0 = 2 → Ow me h h' → Q (.inl (some (.int 0))) h') (k4 : ∀ i, i < sN (xA X) → t = nI i → wth p 1 99 → wth z 1 99 → ¬ canP (xA X) 1 i p z → ∀ h', WM h' me ad X → gi h' me 0 = 3 → Ow me h h' → Q (.inl (some (.int 0))) h') : WPx E mX7_ask 0 [some (.ref me), some (.int t), some (.int p), some (.int z)] [] (0, 0) h Q := by
  refine wp_aload_n (M := mX7_ask) (pc := 0) dX7_ask_0 rfl ?_
  refine wp_iload_n (M := mX7_ask) (pc := 1) dX7_ask_1 rfl ?_
  refine wp_iconst (M := mX7_ask) (pc := 2) (v := 1) dX7_ask_2 ci_1 ?_
  refine wp_iload_n (M := mX7_ask) (pc := 3) dX7_ask_3 rfl ?_
  refine wp_iload_n (M := mX7_ask) (pc := 4) dX7_ask_4 rfl ?_
  refine so_V4 (M := mX7_ask) (pc := 5) cs_X7_ask_218 rfl rfl (LE rfl) (LE rfl) dX7_ask_5 H.1.k ?_
  exact sp_X7_orderBy (kn := 1) H (by decide) (fun i a1 a2 a3 a4 a5 h' a6 a7 a8 => kI (wp_ireturn (M := mX7_ask) (pc := 8) rfl dX7_ask_8 (k1 i a1 a2 a3 a4 a5 h' a6 a7 a8))) (fun a1 h' a2 a3 a4 => kI (wp_ireturn (M := mX7_ask) (pc := 8) rfl dX7_ask_8 (k2 a1 h' a2 a3 a4))) (fun a1 a0 h' a2 a3 a4 => kI (wp_ireturn (M := mX7_ask) (pc := 8) rfl dX7_ask_8 (k3 a1 a0 h' a2 a3 a4))) (fun i a1 a2 a3 a4 a5 h' a6 a7 a8 => kI (wp_ireturn (M := mX7_ask) (pc := 8) rfl dX7_ask_8 (k4 i a1 a2 a3 a4 a5 h' a6 a7 a8)))
set_option maxHeartbeats 4000000 in
set_option maxRecDepth 100000 in
theorem sp_X7_askShort {me : Nat} {ad : Nat → Nat} {X : Abs} {t p z : Int32} (H : WM h me ad X) (k1 : ∀ i, i < sN (xA X) → t = nI i → wth p 1 99 → wth z 1 99 → canP (xA X) 2 i p z → ∀ h', WM h' me ad (actX X (placeA (xA X) 2 i p z)) → gi h' me 0 = 0 → Ow me h h' → Q (.inl (some (.int (nI (sO (xA X)).length)))) h') (k2 : ¬ isT (xA X) t → ∀ h', WM h' me ad X → gi h' me 0 = 1 → Ow me h h' → Q (.inl (some (.int 0))) h') (k3 : isT (xA X) t → ¬ (wth p 1 99 ∧ wth z 1 99) → ∀ h', WM h' me ad X → gi h' me 0 = 2 → Ow me h h' → Q (.inl (some (.int 0))) h') (k4 : ∀ i, i < sN (xA X) → t = nI i → wth p 1 99 → wth z 1 99 → ¬ canP (xA X) 2 i p z → ∀ h', WM h' me ad X → gi h' me 0 = 3 → Ow me h h' → Q (.inl (some (.int 0))) h') : WPx E mX7_askShort 0 [some (.ref me), some (.int t), some (.int p), some (.int z)] [] (0, 0) h Q := by
  refine wp_aload_n (M := mX7_askShort) (pc := 0) dX7_askShort_0 rfl ?_
  refine wp_iload_n (M := mX7_askShort) (pc := 1) dX7_askShort_1 rfl ?_
  refine wp_iconst (M := mX7_askShort) (pc := 2) (v := 2) dX7_askShort_2 ci_2 ?_
  refine wp_iload_n (M := mX7_askShort) (pc := 3) dX7_askShort_3 rfl ?_
  refine wp_iload_n (M := mX7_askShort) (pc := 4) dX7_askShort_4 rfl ?_
  refine so_V4 (M := mX7_askShort) (pc := 5) cs_X7_askShort_218 rfl rfl (LE rfl) (LE rfl) dX7_askShort_5 H.1.k ?_
  exact sp_X7_orderBy (kn := 2) H (by decide) (fun i a1 a2 a3 a4 a5 h' a6 a7 a8 => kI (wp_ireturn (M := mX7_askShort) (pc := 8) rfl dX7_askShort_8 (k1 i a1 a2 a3 a4 a5 h' a6 a7 a8))) (fun a1 h' a2 a3 a4 => kI (wp_ireturn (M := mX7_askShort) (pc := 8) rfl dX7_askShort_8 (k2 a1 h' a2 a3 a4))) (fun a1 a0 h' a2 a3 a4 => kI (wp_ireturn (M := mX7_askShort) (pc := 8) rfl dX7_askShort_8 (k3 a1 a0 h' a2 a3 a4))) (fun i a1 a2 a3 a4 a5 h' a6 a7 a8 => kI (wp_ireturn (M := mX7_askShort) (pc := 8) rfl dX7_askShort_8 (k4 i a1 a2 a3 a4 a5 h' a6 a7 a8)))
set_option maxHeartbeats 4000000 in
set_option maxRecDepth 100000 in
theorem sp_X7_push {me : Nat} {ad : Nat → Nat} {X : Abs} {t z : Int32} (H : WM h me ad X) (k1 : ∀ i, i < sN (xA X) → t = nI i → wth z 1 99 → (sT (xA X) i).2.1.length < 8 → ∀ h', WM h' me ad (actX X (pushA (xA X) i z)) → gi h' me 0 = 0 → Ow me h h' → Q (.inl (some (.int (nI ((sT (xA X) i).2.1.length + 1))))) h') (k2 : ¬ isT (xA X) t → ∀ h', WM h' me ad X → gi h' me 0 = 1 → Ow me h h' → Q (.inl (some (.int 0))) h') (k3 : isT (xA X) t → ¬ wth z 1 99 → ∀ h', WM h' me ad X → gi h' me 0 = 2 → Ow me h h' → Q (.inl (some (.int 0))) h') (k4 : ∀ i, i < sN (xA X) → t = nI i → wth z 1 99 → ¬ (sT (xA X) i).2.1.length < 8 → ∀ h', WM h' me ad X → gi h' me 0 = 3 → Ow me h h' → Q (.inl (some (.int 0))) h') : WPx E mX7_push 0 [some (.ref me), some (.int t), some (.int z)] [] (0, 0) h Q := by
  have Hm := H.1
  have hR := H.2.1
  have n6 := hR.n6
  have n12 := hR.n12
  refine wp_aload_n (M := mX7_push) (pc := 0) dX7_push_0 rfl ?_
  refine wp_aload_n (M := mX7_push) (pc := 1) dX7_push_1 rfl ?_
  refine wp_getR (M := mX7_push) (pc := 2) fa_X7_7 rfl dX7_push_2 (by first | exact Hm.k | exact Hm.a rfl | fail "kd") (Hm.r rfl) ?_
  refine wp_iload_n (M := mX7_push) (pc := 5) dX7_push_5 rfl ?_
  refine wp_iload_n (M := mX7_push) (pc := 6) dX7_push_6 rfl ?_
  refine so_S3 (M := mX7_push) (pc := 7) cs_X7_push_222 rfl rfl (LE rfl) (LE rfl) dX7_push_7 ?_
  refine sp_X7_whyNotPushed (Hm.a rfl) hR (fun i hi9 et hz hc => ?_) (fun hn => ?_) (fun ht hn => ?_) (fun i hi9 et hz hc => ?_)
  · refine kI ?_
    subst et
    refine so_V1 (M := mX7_push) (pc := 10) cs_X7_push_74 rfl rfl (LE rfl) (LE rfl) dX7_push_10 Hm.k ?_
    refine sp_X7_refused0 Hm.k ?_
    refine kI ?_
    refine wp_if_eq (M := mX7_push) (pc := 13) (tgt := 18) dX7_push_13 rfl (fun t13 => ?_) (fun f13 => ?_)
    · refine wp_gen (P := fun hX => WM hX me ad X ∧ gi hX me 0 = 0 ∧ Ow me h hX) ⟨H.ref, gi_si_same, Fr.si Hm.t⟩ (fun h0 HX => ?_)
      obtain ⟨H, z0, F0⟩ := HX
      have Hm := H.1
      have hR := H.2.1
      refine wp_aload_n (M := mX7_push) (pc := 18) dX7_push_18 rfl ?_
      refine so_V0 (M := mX7_push) (pc := 19) cs_X7_push_212 rfl rfl (LE rfl) (LE rfl) dX7_push_19 (by first | exact Hm.k | exact Hm.a rfl | fail "kd") ?_
      refine sp_X7_note H (fun h1 H z1 F1 => ?_)
      have Hm := H.1
      have hR := H.2.1
      refine kV ?_
      refine wp_aload_n (M := mX7_push) (pc := 22) dX7_push_22 rfl ?_
      refine wp_getR (M := mX7_push) (pc := 23) fa_X7_7 rfl dX7_push_23 (by first | exact Hm.k | exact Hm.a rfl | fail "kd") (Hm.r rfl) ?_
      refine wp_iload_n (M := mX7_push) (pc := 26) dX7_push_26 rfl ?_
      refine wp_iload_n (M := mX7_push) (pc := 27) dX7_push_27 rfl ?_
      refine so_S3 (M := mX7_push) (pc := 28) cs_X7_push_225 rfl rfl (LE rfl) (LE rfl) dX7_push_28 ?_
      refine sp_X7_pushOn (Hm.a rfl) hR hi9 hc (fun h2 R2 F2 => ?_)
      refine kI ?_
      refine wp_ireturn (M := mX7_push) (pc := 31) rfl dX7_push_31 ?_
      exact k1 i hi9 rfl hz hc h2 (H.n (F2.B rfl (Hm.ne (k := 1) rfl)) R2) (by rw [F2.gi (Hm.ne (k := 1) rfl).symm, z1]; exact z0) (F0.tr (F1.tr (rf_ow F2 (Hm.ta (k := 1) rfl))))
    · exact absurd rfl f13
  · refine kI ?_
    refine so_V1 (M := mX7_push) (pc := 10) cs_X7_push_74 rfl rfl (LE rfl) (LE rfl) dX7_push_10 Hm.k ?_
    refine sp_X7_refused1 (v := 1) Hm.k (by decide) ?_
    refine kI ?_
    refine wp_if_eq (M := mX7_push) (pc := 13) (tgt := 18) dX7_push_13 rfl (fun t13 => ?_) (fun f13 => ?_)
    · exact absurd t13 (by decide)
    · refine wp_iconst (M := mX7_push) (pc := 16) (v := 0) dX7_push_16 ci_0 ?_
      refine wp_ireturn (M := mX7_push) (pc := 17) rfl dX7_push_17 ?_
      exact k2 hn _ H.ref gi_si_same (Fr.si Hm.t)
  · refine kI ?_
    refine so_V1 (M := mX7_push) (pc := 10) cs_X7_push_74 rfl rfl (LE rfl) (LE rfl) dX7_push_10 Hm.k ?_
    refine sp_X7_refused1 (v := 2) Hm.k (by decide) ?_
    refine kI ?_
    refine wp_if_eq (M := mX7_push) (pc := 13) (tgt := 18) dX7_push_13 rfl (fun t13 => ?_) (fun f13 => ?_)
    · exact absurd t13 (by decide)
    · refine wp_iconst (M := mX7_push) (pc := 16) (v := 0) dX7_push_16 ci_0 ?_
      refine wp_ireturn (M := mX7_push) (pc := 17) rfl dX7_push_17 ?_
      exact k3 ht hn _ H.ref gi_si_same (Fr.si Hm.t)
  · refine kI ?_
    refine so_V1 (M := mX7_push) (pc := 10) cs_X7_push_74 rfl rfl (LE rfl) (LE rfl) dX7_push_10 Hm.k ?_
    refine sp_X7_refused1 (v := 3) Hm.k (by decide) ?_
    refine kI ?_
    refine wp_if_eq (M := mX7_push) (pc := 13) (tgt := 18) dX7_push_13 rfl (fun t13 => ?_) (fun f13 => ?_)
    · exact absurd t13 (by decide)
    · refine wp_iconst (M := mX7_push) (pc := 16) (v := 0) dX7_push_16 ci_0 ?_
      refine wp_ireturn (M := mX7_push) (pc := 17) rfl dX7_push_17 ?_
      exact k4 i hi9 et hz hc _ H.ref gi_si_same (Fr.si Hm.t)
section
variable {h h' : PH} {me : Nat} {ad : Nat → Nat} {X : Abs}
/-- the newest noted state comes back -/
theorem WM.undo {x : Nat} {B : Sta} {hs : List Sta} (H : WM h me ad X) (hx : gi h me 5 = nI x) (hx14 : x < 14) (hH : HiR h ad x (xH X)) (eB : xH X = B :: hs) : WM (sw (si (si h me 4 (nI hs.length)) me 5 (nI ((x + 13) % 14))) (ad 1) (va_cpy (gi h (ad 3)) (gi h (ad 1)) (1360 * ((x + 13) % 14)) 0 1360)) me ad (B, hs, X.2.2) := by
  have Hm := H.1
  obtain ⟨h1, h2, -, ⟨h6, h7⟩, h8, h9⟩ := H
  have nm := (Hm.ne (k := 1) rfl).symm
  have e : ∀ j y, j ≠ 1 → fsz j = some y → gi (sw (si (si h me 4 (nI hs.length)) me 5 (nI ((x + 13) % 14))) (ad 1) (va_cpy (gi h (ad 3)) (gi h (ad 1)) (1360 * ((x + 13) % 14)) 0 1360)) (ad j) = gi h (ad j) := fun j y q1 e => by rw [gi_sw_ne _ _ (Hm.nn (k := 1) e rfl q1), gi_si_ne _ _ _ (Hm.ne e), gi_si_ne _ _ _ (Hm.ne e)]
  rw [eB] at h7 hH
  have hl : hs.length + 1 ≤ 14 := h7
  refine ⟨Hm, ?_, ⟨(x + 13) % 14, Nat.mod_lt _ (by decide), by rw [gi_sw_ne _ _ nm, gi_si_same], ?_⟩, ⟨by rw [gi_sw_ne _ _ nm, gi_si_oth (by decide), gi_si_same], by show hs.length ≤ 14; omega⟩, by unfold SlR; rw [e 6 _ (by decide) rfl, e 7 _ (by decide) rfl]; exact h8, h9.co (by rw [gi_sw_ne _ _ nm, gi_si_oth (by decide), gi_si_oth (by decide)]) (e 8 _ (by decide) rfl)⟩
  · rw [gi_sw_at]
    refine (hH 0 B rfl).congr (fun j hj => ?_)
    rw [pk_cpy_in (by omega) (by omega)]
    congr 1
  · unfold HiR
    rw [e 3 _ (by decide) rfl]
    intro i C hC
    have := hH (i + 1) C (by rw [List.getElem?_cons_succ]; exact hC)
    have hi : i < hs.length := by
      rcases Nat.lt_or_ge i hs.length with q | q
      · exact q
      · have hC' : hs[i]? = some C := hC
        rw [List.getElem?_eq_none q] at hC'; cases hC'
    rw [show (x + 13 - (i + 1)) % 14 = ((x + 13) % 14 + 13 - i) % 14 by omega] at this
    exact this
end
set_option maxHeartbeats 4000000 in
set_option maxRecDepth 100000 in
theorem sp_X7_undo {me : Nat} {ad : Nat → Nat} {X : Abs}  (H : WM h me ad X)  (k1 : ∀ B hs, xH X = B :: hs → ∀ h', WM h' me ad (B, hs, X.2.2) → gi h' me 0 = 0 → Ow me h h' → Q (.inl (some (.int (nI hs.length)))) h') (k2 : xH X = [] → ∀ h', WM h' me ad X → gi h' me 0 = 1 → Ow me h h' → Q (.inl (some (.int 0))) h') : WPx E mX7_undo 0 [some (.ref me)] [] (0, 0) h Q := by
  have Hm := H.1
  have hR := H.2.1
  have n6 := hR.n6
  have n12 := hR.n12
  refine wp_aload_n (M := mX7_undo) (pc := 0) dX7_undo_0 rfl ?_
  refine wp_aload_n (M := mX7_undo) (pc := 1) dX7_undo_1 rfl ?_
  refine wp_getI (M := mX7_undo) (pc := 2) fa_X7_62 rfl dX7_undo_2 (by first | exact Hm.k | exact Hm.a rfl | fail "kd") ?_
  refine wp_if_ne (M := mX7_undo) (pc := 5) (tgt := 12) dX7_undo_5 rfl (fun t5 => ?_) (fun f5 => ?_)
  · rw [H.2.2.2.1.1] at t5
    refine wp_iconst (M := mX7_undo) (pc := 12) (v := 0) dX7_undo_12 ci_0 ?_
    refine so_V1 (M := mX7_undo) (pc := 13) cs_X7_undo_74 rfl rfl (LE rfl) (LE rfl) dX7_undo_13 Hm.k ?_
    refine sp_X7_refused0 Hm.k ?_
    refine kI ?_
    refine wp_if_eq (M := mX7_undo) (pc := 16) (tgt := 21) dX7_undo_16 rfl (fun t16 => ?_) (fun f16 => ?_)
    · refine wp_gen (P := fun hX => WM hX me ad X ∧ gi hX me 0 = 0 ∧ Ow me h hX) ⟨H.ref, gi_si_same, Fr.si Hm.t⟩ (fun h0 HX => ?_)
      obtain ⟨H, z0, F0⟩ := HX
      have Hm := H.1
      have hR := H.2.1
      obtain ⟨B, hs, eB⟩ : ∃ B hs, xH X = B :: hs := by
        cases e9 : xH X with
        | nil => exact absurd (by rw [e9]; rfl) t5
        | cons B hs => exact ⟨B, hs, rfl⟩
      obtain ⟨x, hx14, hx, hH⟩ := H.2.2.1
      have h4 := H.2.2.2.1.1
      have h7 := H.2.2.2.1.2
      rw [eB] at h4 h7
      have h7' : hs.length + 1 ≤ 14 := h7
      have e4 : gi h0 me 4 - 1 = nI hs.length := by rw [h4]; exact nI_pred _
      refine wp_aload_n (M := mX7_undo) (pc := 21) dX7_undo_21 rfl ?_
      refine wp_dup (M := mX7_undo) (pc := 22) dX7_undo_22 rfl ?_
      refine wp_getI (M := mX7_undo) (pc := 23) fa_X7_62 rfl dX7_undo_23 (by first | exact Hm.k | exact Hm.a rfl | fail "kd") ?_
      refine wp_iconst (M := mX7_undo) (pc := 26) (v := 1) dX7_undo_26 ci_1 ?_
      refine wp_isub (M := mX7_undo) (pc := 27) dX7_undo_27 ?_
      refine wp_putI (M := mX7_undo) (pc := 28) fa_X7_62 (Or.inl rfl) dX7_undo_28 (by first | exact Hm.k | exact Hm.a rfl | fail "kd") ?_
      refine wp_aload_n (M := mX7_undo) (pc := 31) dX7_undo_31 rfl ?_
      refine wp_aload_n (M := mX7_undo) (pc := 32) dX7_undo_32 rfl ?_
      refine wp_getI (M := mX7_undo) (pc := 33) fa_X7_55 rfl dX7_undo_33 (by first | exact Hm.k | exact Hm.a rfl | fail "kd") ?_
      refine wp_bipush (M := mX7_undo) (pc := 36) (v := 14) dX7_undo_36 cb_14 ?_
      refine wp_iadd (M := mX7_undo) (pc := 38) dX7_undo_38 ?_
      refine wp_iconst (M := mX7_undo) (pc := 39) (v := 1) dX7_undo_39 ci_1 ?_
      refine wp_isub (M := mX7_undo) (pc := 40) dX7_undo_40 ?_
      refine wp_bipush (M := mX7_undo) (pc := 41) (v := 14) dX7_undo_41 cb_14 ?_
      refine wp_irem (M := mX7_undo) (pc := 43) dX7_undo_43 (by decide) ?_
      refine wp_putI (M := mX7_undo) (pc := 44) fa_X7_55 (Or.inl rfl) dX7_undo_44 (by first | exact Hm.k | exact Hm.a rfl | fail "kd") ?_
      refine wp_aload_n (M := mX7_undo) (pc := 47) dX7_undo_47 rfl ?_
      refine wp_getR (M := mX7_undo) (pc := 48) fa_X7_16 rfl dX7_undo_48 (by first | exact Hm.k | exact Hm.a rfl | fail "kd") (Hm.r rfl) ?_
      refine wp_sipush (M := mX7_undo) (pc := 51) (v := 1360) dX7_undo_51 ch_1360 ?_
      refine wp_aload_n (M := mX7_undo) (pc := 54) dX7_undo_54 rfl ?_
      refine wp_getI (M := mX7_undo) (pc := 55) fa_X7_55 rfl dX7_undo_55 (by first | exact Hm.k | exact Hm.a rfl | fail "kd") ?_
      refine wp_imul (M := mX7_undo) (pc := 58) dX7_undo_58 ?_
      refine wp_aload_n (M := mX7_undo) (pc := 59) dX7_undo_59 rfl ?_
      refine wp_getR (M := mX7_undo) (pc := 60) fa_X7_7 rfl dX7_undo_60 (by first | exact Hm.k | exact Hm.a rfl | fail "kd") (Hm.r rfl) ?_
      refine wp_iconst (M := mX7_undo) (pc := 63) (v := 0) dX7_undo_63 ci_0 ?_
      refine so_S4 (M := mX7_undo) (pc := 64) cs_X7_undo_58 rfl rfl (LE rfl) (LE rfl) dX7_undo_64 ?_
      have e5 : gi (si h0 me 4 (nI hs.length)) me 5 = nI x := by rw [gi_si_oth (by decide)]; exact hx
      rw [e4, gi_si_same, e5, hi_new x hx14, show (1360 : Int32) * nI ((x + 13) % 14) = nI (1360 * ((x + 13) % 14)) from im (show (1360 : Int32) = nI 1360 from rfl) rfl]
      have hm14 : (x + 13) % 14 < 14 := Nat.mod_lt _ (by decide)
      refine sp_X7_copy (N1 := 19040) (N2 := 1360) (y := 0) (Hm.a (k := 3) rfl) (Hm.a (k := 1) rfl) (Hm.nn (j := 3) (k := 1) rfl rfl (by decide)) (by decide) (by decide) (by omega) (by decide) ?_
      rw [gi_si_ne _ _ _ (Hm.ne (k := 3) rfl), gi_si_ne _ _ _ (Hm.ne (k := 3) rfl), gi_si_ne _ _ _ (Hm.ne (k := 1) rfl), gi_si_ne _ _ _ (Hm.ne (k := 1) rfl)]
      refine kV ?_
      refine wp_aload_n (M := mX7_undo) (pc := 67) dX7_undo_67 rfl ?_
      refine wp_getI (M := mX7_undo) (pc := 68) fa_X7_62 rfl dX7_undo_68 (by first | exact Hm.k | exact Hm.a rfl | fail "kd") ?_
      refine wp_ireturn (M := mX7_undo) (pc := 71) rfl dX7_undo_71 ?_
      have nm := (Hm.ne (k := 1) rfl).symm
      rw [gi_sw_ne _ _ nm, gi_si_oth (by decide), gi_si_same]
      exact k1 B hs eB _ (H.undo hx hx14 hH eB) (by rw [gi_sw_ne _ _ nm, gi_si_oth (by decide), gi_si_oth (by decide)]; exact z0) (F0.tr (((Fr.si Hm.t).tr (Fr.si (show (tg h0 me).1 = me from Hm.t))).tr (Fr.sw (show (tg h0 (ad 1)).1 = me from Hm.ta (k := 1) rfl))))
    · exact absurd rfl f16
  · rw [H.2.2.2.1.1] at f5
    refine wp_iconst (M := mX7_undo) (pc := 8) (v := 1) dX7_undo_8 ci_1 ?_
    refine wp_goto (M := mX7_undo) (pc := 9) (tgt := 13) dX7_undo_9 rfl ?_
    refine so_V1 (M := mX7_undo) (pc := 13) cs_X7_undo_74 rfl rfl (LE rfl) (LE rfl) dX7_undo_13 Hm.k ?_
    refine sp_X7_refused1 (v := 1) Hm.k (by decide) ?_
    refine kI ?_
    refine wp_if_eq (M := mX7_undo) (pc := 16) (tgt := 21) dX7_undo_16 rfl (fun t16 => ?_) (fun f16 => ?_)
    · exact absurd t16 (by decide)
    · refine wp_iconst (M := mX7_undo) (pc := 19) (v := 0) dX7_undo_19 ci_0 ?_
      refine wp_ireturn (M := mX7_undo) (pc := 20) rfl dX7_undo_20 ?_
      exact k2 (List.eq_nil_of_length_eq_zero ((i_eq (b := 0) (by have := H.2.2.2.1.2; omega) (by decide)).mp f5)) _ H.ref gi_si_same (Fr.si Hm.t)
end SP
