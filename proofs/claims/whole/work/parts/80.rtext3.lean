section SP
variable {E : Ev} {h : PH} {Q : Rt → PH → Prop}
theorem qgen {r : Rt} {P : PH → Prop} (hP : P h) (kk : ∀ hX, P hX → Q r hX) : Q r h := kk h hP
set_option maxHeartbeats 4000000 in
set_option maxRecDepth 100000 in
theorem ft2 {me : Nat} {ad : Nat → Nat} {t : Nat} (Hm : MoL h me ad) (ht : t < 6) (k0 : ∀ h', FrD me ad h h' → gi h' me 10 = gi h me 10 → Q (.inl (some (.int 0))) h') : WPx E mX7_readTenant 95 [some (.ref me), some (.int (nI (58 + 217 * t)))] [.int (-9), .int (nI (58 + 217 * t) + 4), .ref (ad 11)] (0, 0) h Q := by
  refine wr_iastore (M := mX7_readTenant) (pc := 95) dX7_readTenant_95 (by first | exact Hm.k | exact Hm.a rfl | fail "kd") (ia rfl (show (4 : Int32) = nI 4 from rfl)) (by omega) (by decide) ?_
  refine wp_aload_n (M := mX7_readTenant) (pc := 96) dX7_readTenant_96 rfl ?_
  refine wp_getR (M := mX7_readTenant) (pc := 97) fa_X7_29 rfl dX7_readTenant_97 (by first | exact Hm.k | exact Hm.a rfl | fail "kd") (Hm.r rfl) ?_
  refine wp_iload_n (M := mX7_readTenant) (pc := 100) dX7_readTenant_100 rfl ?_
  refine wp_iconst (M := mX7_readTenant) (pc := 101) (v := 2) dX7_readTenant_101 ci_2 ?_
  refine wp_iadd (M := mX7_readTenant) (pc := 102) dX7_readTenant_102 ?_
  refine wp_aload_n (M := mX7_readTenant) (pc := 103) dX7_readTenant_103 rfl ?_
  refine wp_getR (M := mX7_readTenant) (pc := 104) fa_X7_29 rfl dX7_readTenant_104 (by first | exact Hm.k | exact Hm.a rfl | fail "kd") (Hm.r rfl) ?_
  refine wp_iload_n (M := mX7_readTenant) (pc := 107) dX7_readTenant_107 rfl ?_
  refine wp_iconst (M := mX7_readTenant) (pc := 108) (v := 0) dX7_readTenant_108 ci_0 ?_
  refine wp_iadd (M := mX7_readTenant) (pc := 109) dX7_readTenant_109 ?_
  refine wr_iaload (M := mX7_readTenant) (pc := 110) dX7_readTenant_110 (by first | exact Hm.k | exact Hm.a rfl | fail "kd") (ia rfl (show (0 : Int32) = nI 0 from rfl)) (by omega) (by decide) ?_
  refine wr_iastore (M := mX7_readTenant) (pc := 111) dX7_readTenant_111 (by first | exact Hm.k | exact Hm.a rfl | fail "kd") (ia rfl (show (2 : Int32) = nI 2 from rfl)) (by omega) (by decide) ?_
  refine wp_aload_n (M := mX7_readTenant) (pc := 112) dX7_readTenant_112 rfl ?_
  refine wp_getR (M := mX7_readTenant) (pc := 113) fa_X7_29 rfl dX7_readTenant_113 (by first | exact Hm.k | exact Hm.a rfl | fail "kd") (Hm.r rfl) ?_
  refine wp_iconst (M := mX7_readTenant) (pc := 116) (v := 0) dX7_readTenant_116 ci_0 ?_
  refine wp_dup2 (M := mX7_readTenant) (pc := 117) dX7_readTenant_117 rfl rfl ?_
  refine wr_iaload (M := mX7_readTenant) (pc := 118) dX7_readTenant_118 (by first | exact Hm.k | exact Hm.a rfl | fail "kd") (show (0 : Int32) = nI 0 from rfl) (by omega) (by decide) ?_
  refine wp_iconst (M := mX7_readTenant) (pc := 119) (v := 1) dX7_readTenant_119 ci_1 ?_
  refine wp_iadd (M := mX7_readTenant) (pc := 120) dX7_readTenant_120 ?_
  refine wr_iastore (M := mX7_readTenant) (pc := 121) dX7_readTenant_121 (by first | exact Hm.k | exact Hm.a rfl | fail "kd") (show (0 : Int32) = nI 0 from rfl) (by omega) (by decide) ?_
  refine wp_aload_n (M := mX7_readTenant) (pc := 122) dX7_readTenant_122 rfl ?_
  refine wp_getR (M := mX7_readTenant) (pc := 123) fa_X7_29 rfl dX7_readTenant_123 (by first | exact Hm.k | exact Hm.a rfl | fail "kd") (Hm.r rfl) ?_
  refine wp_iload_n (M := mX7_readTenant) (pc := 126) dX7_readTenant_126 rfl ?_
  refine wp_iconst (M := mX7_readTenant) (pc := 127) (v := 4) dX7_readTenant_127 ci_4 ?_
  refine wp_iadd (M := mX7_readTenant) (pc := 128) dX7_readTenant_128 ?_
  refine wr_iaload (M := mX7_readTenant) (pc := 129) dX7_readTenant_129 (by first | exact Hm.k | exact Hm.a rfl | fail "kd") (ia rfl (show (4 : Int32) = nI 4 from rfl)) (by omega) (by decide) ?_
  refine wp_bipush (M := mX7_readTenant) (pc := 130) (v := -9) dX7_readTenant_130 cb_m9 ?_
  refine wp_icmp_eq (M := mX7_readTenant) (pc := 132) (tgt := 139) dX7_readTenant_132 rfl (fun t132 => ?_) (fun f132 => ?_)
  · refine wp_iconst (M := mX7_readTenant) (pc := 139) (v := 0) dX7_readTenant_139 ci_0 ?_
    refine wp_zreturn (M := mX7_readTenant) (pc := 140) rfl (by decide) dX7_readTenant_140 ?_
    refine k0 _ ((FrD.sb Hm).tr ((FrD.sb (h := si h (ad 11) (58 + 217 * t + 4) (-9)) Hm).tr (FrD.sb (h := si (si h (ad 11) (58 + 217 * t + 4) (-9)) (ad 11) _ _) Hm))) ?_
    rw [gi_si_ne _ _ _ (Hm.ne (k := 11) rfl).symm, gi_si_ne _ _ _ (Hm.ne (k := 11) rfl).symm, gi_si_ne _ _ _ (Hm.ne (k := 11) rfl).symm]
  · refine absurd ?_ f132
    rw [gi_si_at, upd_ne _ _ (by omega), gi_si_at, upd_ne _ _ (by omega), gi_si_at, upd_at]
set_option maxHeartbeats 4000000 in
set_option maxRecDepth 100000 in
theorem ft1 {me : Nat} {ad : Nat → Nat} {t : Nat} (Hm : MoL h me ad) (ht : t < 6) (k0 : ∀ h', FrD me ad h h' → gi h' me 10 = gi h me 10 → Q (.inl (some (.int 0))) h') : WPx E mX7_readTenant 60 [some (.ref me), some (.int (nI (58 + 217 * t)))] [.int (-9), .int (nI (58 + 217 * t) + 1), .ref (ad 11)] (0, 0) h Q := by
  refine wr_iastore (M := mX7_readTenant) (pc := 60) dX7_readTenant_60 (by first | exact Hm.k | exact Hm.a rfl | fail "kd") (ia rfl (show (1 : Int32) = nI 1 from rfl)) (by omega) (by decide) ?_
  refine wp_aload_n (M := mX7_readTenant) (pc := 61) dX7_readTenant_61 rfl ?_
  refine wp_getR (M := mX7_readTenant) (pc := 62) fa_X7_29 rfl dX7_readTenant_62 (by first | exact Hm.k | exact Hm.a rfl | fail "kd") (Hm.r rfl) ?_
  refine wp_iload_n (M := mX7_readTenant) (pc := 65) dX7_readTenant_65 rfl ?_
  refine wp_iconst (M := mX7_readTenant) (pc := 66) (v := 4) dX7_readTenant_66 ci_4 ?_
  refine wp_iadd (M := mX7_readTenant) (pc := 67) dX7_readTenant_67 ?_
  refine wp_aload_n (M := mX7_readTenant) (pc := 68) dX7_readTenant_68 rfl ?_
  refine wp_getR (M := mX7_readTenant) (pc := 69) fa_X7_29 rfl dX7_readTenant_69 (by first | exact Hm.k | exact Hm.a rfl | fail "kd") (Hm.r rfl) ?_
  refine wp_iload_n (M := mX7_readTenant) (pc := 72) dX7_readTenant_72 rfl ?_
  refine wp_iconst (M := mX7_readTenant) (pc := 73) (v := 1) dX7_readTenant_73 ci_1 ?_
  refine wp_iadd (M := mX7_readTenant) (pc := 74) dX7_readTenant_74 ?_
  refine wr_iaload (M := mX7_readTenant) (pc := 75) dX7_readTenant_75 (by first | exact Hm.k | exact Hm.a rfl | fail "kd") (ia rfl (show (1 : Int32) = nI 1 from rfl)) (by omega) (by decide) ?_
  refine wp_bipush (M := mX7_readTenant) (pc := 76) (v := -9) dX7_readTenant_76 cb_m9 ?_
  refine wp_icmp_ne (M := mX7_readTenant) (pc := 78) (tgt := 86) dX7_readTenant_78 rfl (fun t78 => ?_) (fun f78 => ?_)
  · exact absurd gi_si_same t78
  · refine wp_bipush (M := mX7_readTenant) (pc := 81) (v := -9) dX7_readTenant_81 cb_m9 ?_
    refine wp_goto (M := mX7_readTenant) (pc := 83) (tgt := 95) dX7_readTenant_83 rfl ?_
    exact ft2 (h := si h (ad 11) (58 + 217 * t + 1) (-9)) Hm ht (fun h1 F1 e1 => k0 h1 ((FrD.sb Hm).tr F1) (by rw [e1, gi_si_ne _ _ _ (Hm.ne (k := 11) rfl).symm]))
set_option maxHeartbeats 4000000 in
set_option maxRecDepth 100000 in
theorem ft0 {me : Nat} {ad : Nat → Nat} {t : Nat} (Hm : MoL h me ad) (ht : t < 6) (k0 : ∀ h', FrD me ad h h' → gi h' me 10 = gi h me 10 → Q (.inl (some (.int 0))) h') : WPx E mX7_readTenant 26 [some (.ref me), some (.int (nI (58 + 217 * t)))] [.int (-9), .int (nI (58 + 217 * t) + 0), .ref (ad 11)] (0, 0) h Q := by
  refine wr_iastore (M := mX7_readTenant) (pc := 26) dX7_readTenant_26 (by first | exact Hm.k | exact Hm.a rfl | fail "kd") (ia rfl (show (0 : Int32) = nI 0 from rfl)) (by omega) (by decide) ?_
  refine wp_aload_n (M := mX7_readTenant) (pc := 27) dX7_readTenant_27 rfl ?_
  refine wp_getR (M := mX7_readTenant) (pc := 28) fa_X7_29 rfl dX7_readTenant_28 (by first | exact Hm.k | exact Hm.a rfl | fail "kd") (Hm.r rfl) ?_
  refine wp_iload_n (M := mX7_readTenant) (pc := 31) dX7_readTenant_31 rfl ?_
  refine wp_iconst (M := mX7_readTenant) (pc := 32) (v := 1) dX7_readTenant_32 ci_1 ?_
  refine wp_iadd (M := mX7_readTenant) (pc := 33) dX7_readTenant_33 ?_
  refine wp_aload_n (M := mX7_readTenant) (pc := 34) dX7_readTenant_34 rfl ?_
  refine wp_getR (M := mX7_readTenant) (pc := 35) fa_X7_29 rfl dX7_readTenant_35 (by first | exact Hm.k | exact Hm.a rfl | fail "kd") (Hm.r rfl) ?_
  refine wp_iload_n (M := mX7_readTenant) (pc := 38) dX7_readTenant_38 rfl ?_
  refine wp_iconst (M := mX7_readTenant) (pc := 39) (v := 0) dX7_readTenant_39 ci_0 ?_
  refine wp_iadd (M := mX7_readTenant) (pc := 40) dX7_readTenant_40 ?_
  refine wr_iaload (M := mX7_readTenant) (pc := 41) dX7_readTenant_41 (by first | exact Hm.k | exact Hm.a rfl | fail "kd") (ia rfl (show (0 : Int32) = nI 0 from rfl)) (by omega) (by decide) ?_
  refine wp_bipush (M := mX7_readTenant) (pc := 42) (v := -9) dX7_readTenant_42 cb_m9 ?_
  refine wp_icmp_ne (M := mX7_readTenant) (pc := 44) (tgt := 52) dX7_readTenant_44 rfl (fun t44 => ?_) (fun f44 => ?_)
  · exact absurd gi_si_same t44
  · refine wp_bipush (M := mX7_readTenant) (pc := 47) (v := -9) dX7_readTenant_47 cb_m9 ?_
    refine wp_goto (M := mX7_readTenant) (pc := 49) (tgt := 60) dX7_readTenant_49 rfl ?_
    exact ft1 (h := si h (ad 11) (58 + 217 * t + 0) (-9)) Hm ht (fun h1 F1 e1 => k0 h1 ((FrD.sb Hm).tr F1) (by rw [e1, gi_si_ne _ _ _ (Hm.ne (k := 11) rfl).symm]))
set_option maxHeartbeats 4000000 in
set_option maxRecDepth 100000 in
theorem sp_X7_readTenant {me : Nat} {ad : Nat → Nat} {s : Nat → Nat} {n p : Nat} {A : Sta} (Hm : MoL h me ad) (hX : TxR h me ad s n) (hp : gi h me 10 = nI (p + 1)) (hp2 : p + 1 ≤ 160) (hlt : p < n) (hc : s p = 116) (hR : RepR (gi h (ad 11)) A) (hZ : ZrR (gi h (ad 11)) (sN A)) (h6 : sN A < 6) (k1 : (rtM s n (p, false)).2.2 = false → ∀ h', FrD me ad h h' → gi h' me 10 = nI (rtM s n (p, false)).2.1 → RepR (gi h' (ad 11)) (addT A (nI (rtC s n (p, false)).1) (nI (rtR s n (p, false)).1) (nI (rtM s n (p, false)).1)) → ZrR (gi h' (ad 11)) (sN A + 1) → Q (.inl (some (.int 1))) h') (k0 : (rtM s n (p, false)).2.2 = true → ∀ h', FrD me ad h h' → gi h' me 10 = nI (rtM s n (p, false)).2.1 → Q (.inl (some (.int 0))) h') : WPx E mX7_readTenant 0 [some (.ref me), none] [] (0, 0) h Q := by
  have n160 := hX.1.2
  have nm := (Hm.ne (k := 11) rfl).symm
  have eL : ltX s n 116 (p, false) = (p + 1, false) := lt1_y ⟨rfl, hlt, hc⟩
  have eW : rtC s n (p, false) = rdN s n 1 999 3 0 (p + 1) := by unfold rtC rdX; rw [eL]; exact rdB_f rfl
  have lW := rdN_le (s := s) (lo := 1) (hi := 999) n160 3 0 (p + 1) (by omega)
  refine wp_aload_n (M := mX7_readTenant) (pc := 0) dX7_readTenant_0 rfl ?_
  refine wp_getR (M := mX7_readTenant) (pc := 1) fa_X7_29 rfl dX7_readTenant_1 (by first | exact Hm.k | exact Hm.a rfl | fail "kd") (Hm.r rfl) ?_
  refine wp_iconst (M := mX7_readTenant) (pc := 4) (v := 0) dX7_readTenant_4 ci_0 ?_
  refine wr_iaload (M := mX7_readTenant) (pc := 5) dX7_readTenant_5 (by first | exact Hm.k | exact Hm.a rfl | fail "kd") (show (0 : Int32) = nI 0 from rfl) (by omega) (by decide) ?_
  refine so_S1 (M := mX7_readTenant) (pc := 6) cs_X7_readTenant_90 rfl rfl (LE rfl) (LE rfl) dX7_readTenant_6 ?_
  rw [hR.f0]
  refine sp_X7_at ?_
  refine kI ?_
  refine so_istore_n (M := mX7_readTenant) (pc := 9) (lo' := [_, _]) dX7_readTenant_9 (LE rfl) (LE rfl) (Or.inr rfl) rfl ?_
  refine wp_aload_n (M := mX7_readTenant) (pc := 10) dX7_readTenant_10 rfl ?_
  refine wp_getR (M := mX7_readTenant) (pc := 11) fa_X7_29 rfl dX7_readTenant_11 (by first | exact Hm.k | exact Hm.a rfl | fail "kd") (Hm.r rfl) ?_
  refine wp_iload_n (M := mX7_readTenant) (pc := 14) dX7_readTenant_14 rfl ?_
  refine wp_iconst (M := mX7_readTenant) (pc := 15) (v := 0) dX7_readTenant_15 ci_0 ?_
  refine wp_iadd (M := mX7_readTenant) (pc := 16) dX7_readTenant_16 ?_
  refine wp_aload_n (M := mX7_readTenant) (pc := 17) dX7_readTenant_17 rfl ?_
  refine wp_iconst (M := mX7_readTenant) (pc := 18) (v := 3) dX7_readTenant_18 ci_3 ?_
  refine wp_iconst (M := mX7_readTenant) (pc := 19) (v := 1) dX7_readTenant_19 ci_1 ?_
  refine wp_sipush (M := mX7_readTenant) (pc := 20) (v := 999) dX7_readTenant_20 ch_999 ?_
  refine so_V3 (M := mX7_readTenant) (pc := 23) cs_X7_readTenant_86 rfl rfl (LE rfl) (LE rfl) dX7_readTenant_23 (by first | exact Hm.k | exact Hm.a rfl | fail "kd") ?_
  refine sp_X7_number (d := 3) (lo := 1) (hi := 999) (p := p + 1) Hm hX (by decide) (by decide) (by decide) (by decide) hp (by omega) ?_
  rw [← eW]
  refine kI ?_
  by_cases hb : (rtC s n (p, false)).2.2 = true
  · rw [if_pos hb]
    have e9 : (rtM s n (p, false)).2 = ((rtC s n (p, false)).2.1, true) := by
      have e2 : rtR s n (p, false) = (0, (rtC s n (p, false)).2.1, true) := by unfold rtR rdX; exact rdB_t hb
      unfold rtM rdX; rw [e2]; rfl
    exact ft0 Hm h6 (fun h1 F1 e1 => k0 (by rw [e9]) h1 (FrD.sp.tr F1) (by rw [e1, e9]; exact gi_si_same))
  rw [if_neg hb]
  rw [← eW] at lW
  have bW : (rtC s n (p, false)).1 ≤ 9999 := by rw [eW]; exact rdN_b (by decide) 3 0 _ (by rw [← eW]; simpa using hb) (by omega)
  have G1 : FrD me ad h (si (si h me 10 (nI (rtC s n (p, false)).2.1)) (ad 11) (58 + 217 * sN A + 0) (nI (rtC s n (p, false)).1)) := FrD.sp.tr (FrD.sb Hm)
  have X1 := hX.D Hm G1
  have q1 : gi (si (si h me 10 (nI (rtC s n (p, false)).2.1)) (ad 11) (58 + 217 * sN A + 0) (nI (rtC s n (p, false)).1)) me 10 = nI (rtC s n (p, false)).2.1 := by rw [gi_si_ne _ _ _ nm]; exact gi_si_same
  have eI : rtR s n (p, false) = rdN s n 0 99 2 0 (rtC s n (p, false)).2.1 := by unfold rtR rdX; exact rdB_f (by simpa using hb)
  have lI := rdN_le (s := s) (lo := 0) (hi := 99) n160 2 0 (rtC s n (p, false)).2.1 (by omega)
  refine wr_iastore (M := mX7_readTenant) (pc := 26) dX7_readTenant_26 (by first | exact Hm.k | exact Hm.a rfl | fail "kd") (ia rfl (show (0 : Int32) = nI 0 from rfl)) (by omega) (by decide) ?_
  refine wp_aload_n (M := mX7_readTenant) (pc := 27) dX7_readTenant_27 rfl ?_
  refine wp_getR (M := mX7_readTenant) (pc := 28) fa_X7_29 rfl dX7_readTenant_28 (by first | exact Hm.k | exact Hm.a rfl | fail "kd") (Hm.r rfl) ?_
  refine wp_iload_n (M := mX7_readTenant) (pc := 31) dX7_readTenant_31 rfl ?_
  refine wp_iconst (M := mX7_readTenant) (pc := 32) (v := 1) dX7_readTenant_32 ci_1 ?_
  refine wp_iadd (M := mX7_readTenant) (pc := 33) dX7_readTenant_33 ?_
  refine wp_aload_n (M := mX7_readTenant) (pc := 34) dX7_readTenant_34 rfl ?_
  refine wp_getR (M := mX7_readTenant) (pc := 35) fa_X7_29 rfl dX7_readTenant_35 (by first | exact Hm.k | exact Hm.a rfl | fail "kd") (Hm.r rfl) ?_
  refine wp_iload_n (M := mX7_readTenant) (pc := 38) dX7_readTenant_38 rfl ?_
  refine wp_iconst (M := mX7_readTenant) (pc := 39) (v := 0) dX7_readTenant_39 ci_0 ?_
  refine wp_iadd (M := mX7_readTenant) (pc := 40) dX7_readTenant_40 ?_
  refine wr_iaload (M := mX7_readTenant) (pc := 41) dX7_readTenant_41 (by first | exact Hm.k | exact Hm.a rfl | fail "kd") (ia rfl (show (0 : Int32) = nI 0 from rfl)) (by omega) (by decide) ?_
  refine wp_bipush (M := mX7_readTenant) (pc := 42) (v := -9) dX7_readTenant_42 cb_m9 ?_
  refine wp_icmp_ne (M := mX7_readTenant) (pc := 44) (tgt := 52) dX7_readTenant_44 rfl (fun t44 => ?_) (fun f44 => ?_)
  · refine wp_aload_n (M := mX7_readTenant) (pc := 52) dX7_readTenant_52 rfl ?_
    refine wp_iconst (M := mX7_readTenant) (pc := 53) (v := 2) dX7_readTenant_53 ci_2 ?_
    refine wp_iconst (M := mX7_readTenant) (pc := 54) (v := 0) dX7_readTenant_54 ci_0 ?_
    refine wp_bipush (M := mX7_readTenant) (pc := 55) (v := 99) dX7_readTenant_55 cb_99 ?_
    refine so_V3 (M := mX7_readTenant) (pc := 57) cs_X7_readTenant_86 rfl rfl (LE rfl) (LE rfl) dX7_readTenant_57 (by first | exact Hm.k | exact Hm.a rfl | fail "kd") ?_
    refine sp_X7_number (d := 2) (lo := 0) (hi := 99) (p := (rtC s n (p, false)).2.1) Hm X1 (by decide) (by decide) (by decide) (by decide) q1 (by omega) ?_
    rw [← eI]
    refine kI ?_
    by_cases hb2 : (rtR s n (p, false)).2.2 = true
    · rw [if_pos hb2]
      have e9 : (rtM s n (p, false)).2 = ((rtR s n (p, false)).2.1, true) := by
        unfold rtM rdX; rw [rdB_t hb2]
      exact ft1 Hm h6 (fun h1 F1 e1 => k0 (by rw [e9]) h1 (G1.tr (FrD.sp.tr F1)) (by rw [e1, e9]; exact gi_si_same))
    rw [if_neg hb2]
    rw [← eI] at lI
    have bI1 : (rtR s n (p, false)).1 ≤ 9999 := by rw [eI]; exact rdN_b (by decide) 2 0 _ (by rw [← eI]; simpa using hb2) (by omega)
    have G2 := G1.tr ((FrD.sp (v := nI (rtR s n (p, false)).2.1)).tr (FrD.sb (j := 58 + 217 * sN A + 1) (v := nI (rtR s n (p, false)).1) Hm))
    have X2 := hX.D Hm G2
    have q2 : gi (si (si (si (si h me 10 (nI (rtC s n (p, false)).2.1)) (ad 11) (58 + 217 * sN A + 0) (nI (rtC s n (p, false)).1)) me 10 (nI (rtR s n (p, false)).2.1)) (ad 11) (58 + 217 * sN A + 1) (nI (rtR s n (p, false)).1)) me 10 = nI (rtR s n (p, false)).2.1 := by rw [gi_si_ne _ _ _ nm]; exact gi_si_same
    have eT : rtM s n (p, false) = rdN s n 0 9999 4 0 (rtR s n (p, false)).2.1 := by unfold rtM rdX; exact rdB_f (by simpa using hb2)
    refine wr_iastore (M := mX7_readTenant) (pc := 60) dX7_readTenant_60 (by first | exact Hm.k | exact Hm.a rfl | fail "kd") (ia rfl (show (1 : Int32) = nI 1 from rfl)) (by omega) (by decide) ?_
    refine wp_aload_n (M := mX7_readTenant) (pc := 61) dX7_readTenant_61 rfl ?_
    refine wp_getR (M := mX7_readTenant) (pc := 62) fa_X7_29 rfl dX7_readTenant_62 (by first | exact Hm.k | exact Hm.a rfl | fail "kd") (Hm.r rfl) ?_
    refine wp_iload_n (M := mX7_readTenant) (pc := 65) dX7_readTenant_65 rfl ?_
    refine wp_iconst (M := mX7_readTenant) (pc := 66) (v := 4) dX7_readTenant_66 ci_4 ?_
    refine wp_iadd (M := mX7_readTenant) (pc := 67) dX7_readTenant_67 ?_
    refine wp_aload_n (M := mX7_readTenant) (pc := 68) dX7_readTenant_68 rfl ?_
    refine wp_getR (M := mX7_readTenant) (pc := 69) fa_X7_29 rfl dX7_readTenant_69 (by first | exact Hm.k | exact Hm.a rfl | fail "kd") (Hm.r rfl) ?_
    refine wp_iload_n (M := mX7_readTenant) (pc := 72) dX7_readTenant_72 rfl ?_
    refine wp_iconst (M := mX7_readTenant) (pc := 73) (v := 1) dX7_readTenant_73 ci_1 ?_
    refine wp_iadd (M := mX7_readTenant) (pc := 74) dX7_readTenant_74 ?_
    refine wr_iaload (M := mX7_readTenant) (pc := 75) dX7_readTenant_75 (by first | exact Hm.k | exact Hm.a rfl | fail "kd") (ia rfl (show (1 : Int32) = nI 1 from rfl)) (by omega) (by decide) ?_
    refine wp_bipush (M := mX7_readTenant) (pc := 76) (v := -9) dX7_readTenant_76 cb_m9 ?_
    refine wp_icmp_ne (M := mX7_readTenant) (pc := 78) (tgt := 86) dX7_readTenant_78 rfl (fun t78 => ?_) (fun f78 => ?_)
    · refine wp_aload_n (M := mX7_readTenant) (pc := 86) dX7_readTenant_86 rfl ?_
      refine wp_iconst (M := mX7_readTenant) (pc := 87) (v := 4) dX7_readTenant_87 ci_4 ?_
      refine wp_iconst (M := mX7_readTenant) (pc := 88) (v := 0) dX7_readTenant_88 ci_0 ?_
      refine wp_sipush (M := mX7_readTenant) (pc := 89) (v := 9999) dX7_readTenant_89 ch_9999 ?_
      refine so_V3 (M := mX7_readTenant) (pc := 92) cs_X7_readTenant_86 rfl rfl (LE rfl) (LE rfl) dX7_readTenant_92 (by first | exact Hm.k | exact Hm.a rfl | fail "kd") ?_
      refine sp_X7_number (d := 4) (lo := 0) (hi := 9999) (p := (rtR s n (p, false)).2.1) Hm X2 (by decide) (by decide) (by decide) (by decide) q2 (by omega) ?_
      rw [← eT]
      refine kI ?_
      by_cases hb3 : (rtM s n (p, false)).2.2 = true
      · rw [if_pos hb3]
        exact ft2 Hm h6 (fun h1 F1 e1 => k0 hb3 h1 (G2.tr (FrD.sp.tr F1)) (by rw [e1]; exact gi_si_same))
      rw [if_neg hb3]
      have bT : (rtM s n (p, false)).1 ≤ 9999 := by rw [eT]; exact rdN_b (by decide) 4 0 _ (by rw [← eT]; simpa using hb3) (by omega)
      have G3 := G2.tr ((FrD.sp (v := nI (rtM s n (p, false)).2.1)).tr (FrD.sb (j := 58 + 217 * sN A + 4) (v := nI (rtM s n (p, false)).1) Hm))
      have ga : gi (si (si (si (si (si (si h me 10 (nI (rtC s n (p, false)).2.1)) (ad 11) (58 + 217 * sN A + 0) (nI (rtC s n (p, false)).1)) me 10 (nI (rtR s n (p, false)).2.1)) (ad 11) (58 + 217 * sN A + 1) (nI (rtR s n (p, false)).1)) me 10 (nI (rtM s n (p, false)).2.1)) (ad 11) (58 + 217 * sN A + 4) (nI (rtM s n (p, false)).1)) (ad 11) = upd (upd (upd (gi h (ad 11)) (58 + 217 * sN A + 0) (nI (rtC s n (p, false)).1)) (58 + 217 * sN A + 1) (nI (rtR s n (p, false)).1)) (58 + 217 * sN A + 4) (nI (rtM s n (p, false)).1) := by
        rw [gi_si_at, gi_si_ne _ _ _ nm.symm, gi_si_at, gi_si_ne _ _ _ nm.symm, gi_si_at, gi_si_ne _ _ _ nm.symm]
      refine wr_iastore (M := mX7_readTenant) (pc := 95) dX7_readTenant_95 (by first | exact Hm.k | exact Hm.a rfl | fail "kd") (ia rfl (show (4 : Int32) = nI 4 from rfl)) (by omega) (by decide) ?_
      refine wp_aload_n (M := mX7_readTenant) (pc := 96) dX7_readTenant_96 rfl ?_
      refine wp_getR (M := mX7_readTenant) (pc := 97) fa_X7_29 rfl dX7_readTenant_97 (by first | exact Hm.k | exact Hm.a rfl | fail "kd") (Hm.r rfl) ?_
      refine wp_iload_n (M := mX7_readTenant) (pc := 100) dX7_readTenant_100 rfl ?_
      refine wp_iconst (M := mX7_readTenant) (pc := 101) (v := 2) dX7_readTenant_101 ci_2 ?_
      refine wp_iadd (M := mX7_readTenant) (pc := 102) dX7_readTenant_102 ?_
      refine wp_aload_n (M := mX7_readTenant) (pc := 103) dX7_readTenant_103 rfl ?_
      refine wp_getR (M := mX7_readTenant) (pc := 104) fa_X7_29 rfl dX7_readTenant_104 (by first | exact Hm.k | exact Hm.a rfl | fail "kd") (Hm.r rfl) ?_
      refine wp_iload_n (M := mX7_readTenant) (pc := 107) dX7_readTenant_107 rfl ?_
      refine wp_iconst (M := mX7_readTenant) (pc := 108) (v := 0) dX7_readTenant_108 ci_0 ?_
      refine wp_iadd (M := mX7_readTenant) (pc := 109) dX7_readTenant_109 ?_
      refine wr_iaload (M := mX7_readTenant) (pc := 110) dX7_readTenant_110 (by first | exact Hm.k | exact Hm.a rfl | fail "kd") (ia rfl (show (0 : Int32) = nI 0 from rfl)) (by omega) (by decide) ?_
      refine wr_iastore (M := mX7_readTenant) (pc := 111) dX7_readTenant_111 (by first | exact Hm.k | exact Hm.a rfl | fail "kd") (ia rfl (show (2 : Int32) = nI 2 from rfl)) (by omega) (by decide) ?_
      refine wp_aload_n (M := mX7_readTenant) (pc := 112) dX7_readTenant_112 rfl ?_
      refine wp_getR (M := mX7_readTenant) (pc := 113) fa_X7_29 rfl dX7_readTenant_113 (by first | exact Hm.k | exact Hm.a rfl | fail "kd") (Hm.r rfl) ?_
      refine wp_iconst (M := mX7_readTenant) (pc := 116) (v := 0) dX7_readTenant_116 ci_0 ?_
      refine wp_dup2 (M := mX7_readTenant) (pc := 117) dX7_readTenant_117 rfl rfl ?_
      refine wr_iaload (M := mX7_readTenant) (pc := 118) dX7_readTenant_118 (by first | exact Hm.k | exact Hm.a rfl | fail "kd") (show (0 : Int32) = nI 0 from rfl) (by omega) (by decide) ?_
      refine wp_iconst (M := mX7_readTenant) (pc := 119) (v := 1) dX7_readTenant_119 ci_1 ?_
      refine wp_iadd (M := mX7_readTenant) (pc := 120) dX7_readTenant_120 ?_
      refine wr_iastore (M := mX7_readTenant) (pc := 121) dX7_readTenant_121 (by first | exact Hm.k | exact Hm.a rfl | fail "kd") (show (0 : Int32) = nI 0 from rfl) (by omega) (by decide) ?_
      refine wp_aload_n (M := mX7_readTenant) (pc := 122) dX7_readTenant_122 rfl ?_
      refine wp_getR (M := mX7_readTenant) (pc := 123) fa_X7_29 rfl dX7_readTenant_123 (by first | exact Hm.k | exact Hm.a rfl | fail "kd") (Hm.r rfl) ?_
      refine wp_iload_n (M := mX7_readTenant) (pc := 126) dX7_readTenant_126 rfl ?_
      refine wp_iconst (M := mX7_readTenant) (pc := 127) (v := 4) dX7_readTenant_127 ci_4 ?_
      refine wp_iadd (M := mX7_readTenant) (pc := 128) dX7_readTenant_128 ?_
      refine wr_iaload (M := mX7_readTenant) (pc := 129) dX7_readTenant_129 (by first | exact Hm.k | exact Hm.a rfl | fail "kd") (ia rfl (show (4 : Int32) = nI 4 from rfl)) (by omega) (by decide) ?_
      refine wp_bipush (M := mX7_readTenant) (pc := 130) (v := -9) dX7_readTenant_130 cb_m9 ?_
      refine wp_icmp_eq (M := mX7_readTenant) (pc := 132) (tgt := 139) dX7_readTenant_132 rfl (fun t132 => ?_) (fun f132 => ?_)
      · refine absurd ?_ (not9 bT)
        rw [← t132, gi_si_at, upd_ne _ _ (by omega), gi_si_at, upd_ne _ _ (by omega), gi_si_at, upd_at]
      · refine wp_iconst (M := mX7_readTenant) (pc := 135) (v := 1) dX7_readTenant_135 ci_1 ?_
        refine wp_goto (M := mX7_readTenant) (pc := 136) (tgt := 140) dX7_readTenant_136 rfl ?_
        refine wp_zreturn (M := mX7_readTenant) (pc := 140) rfl (by decide) dX7_readTenant_140 ?_
        have e1 : ∀ v, (v = gi (si (si (si (si (si (si h me 10 (nI (rtC s n (p, false)).2.1)) (ad 11) (58 + 217 * sN A + 0) (nI (rtC s n (p, false)).1)) me 10 (nI (rtR s n (p, false)).2.1)) (ad 11) (58 + 217 * sN A + 1) (nI (rtR s n (p, false)).1)) me 10 (nI (rtM s n (p, false)).2.1)) (ad 11) (58 + 217 * sN A + 4) (nI (rtM s n (p, false)).1)) (ad 11) (58 + 217 * sN A + 0)) → v = nI (rtC s n (p, false)).1 := fun v e => by
          rw [e, ga, upd_ne _ _ (by omega), upd_ne _ _ (by omega), upd_at]
        have hrep := rep_addT (g := upd (upd (upd (upd (upd (gi h (ad 11)) (58 + 217 * sN A + 0) (nI (rtC s n (p, false)).1)) (58 + 217 * sN A + 1) (nI (rtR s n (p, false)).1)) (58 + 217 * sN A + 4) (nI (rtM s n (p, false)).1)) (58 + 217 * sN A + 2) (nI (rtC s n (p, false)).1)) 0 (nI (sN A + 1))) hR hZ h6 (upd_at _ _ _) (by rw [upd_ne _ _ (by omega), upd_ne _ _ (by omega), upd_ne _ _ (by omega), upd_ne _ _ (by omega), upd_at]) (by rw [upd_ne _ _ (by omega), upd_ne _ _ (by omega), upd_ne _ _ (by omega), upd_at]) (by rw [upd_ne _ _ (by omega), upd_ne _ _ (by omega), upd_at]) (by rw [upd_ne _ _ (by omega), upd_at]) (fun j j0 j1 j2 j3 j4 => by rw [upd_ne _ _ j0, upd_ne _ _ j4, upd_ne _ _ j3, upd_ne _ _ j2, upd_ne _ _ j1])
        refine qgen (P := fun hX => FrD me ad h hX ∧ gi hX me 10 = nI (rtM s n (p, false)).2.1 ∧ gi hX (ad 11) = upd (upd (upd (upd (upd (gi h (ad 11)) (58 + 217 * sN A + 0) (nI (rtC s n (p, false)).1)) (58 + 217 * sN A + 1) (nI (rtR s n (p, false)).1)) (58 + 217 * sN A + 4) (nI (rtM s n (p, false)).1)) (58 + 217 * sN A + 2) (nI (rtC s n (p, false)).1)) 0 (nI (sN A + 1))) ⟨?_, ?_, ?_⟩ (fun hX HX => k1 (by simpa using hb3) hX HX.1 HX.2.1 (by rw [HX.2.2]; exact hrep.1) (by rw [HX.2.2]; exact hrep.2))
        · have Hm3 := Hm.D G3
          exact G3.tr ((FrD.sb Hm3).tr (FrD.sb (Hm3.D (FrD.sb Hm3))))
        · rw [gi_si_ne _ _ _ nm, gi_si_ne _ _ _ nm, gi_si_ne _ _ _ nm]; exact gi_si_same
        · rw [gi_si_at, gi_si_at, ga, upd_ne _ _ (show 58 + 217 * sN A + 0 ≠ 58 + 217 * sN A + 4 by omega), upd_ne _ _ (show 58 + 217 * sN A + 0 ≠ 58 + 217 * sN A + 1 by omega), upd_at, upd_ne _ _ (show 0 ≠ 58 + 217 * sN A + 2 by omega), upd_ne _ _ (show 0 ≠ 58 + 217 * sN A + 4 by omega), upd_ne _ _ (show 0 ≠ 58 + 217 * sN A + 1 by omega), upd_ne _ _ (show 0 ≠ 58 + 217 * sN A + 0 by omega), hR.f0, show nI (sN A) + 1 = nI (sN A + 1) from nI_1 _]
    · exact absurd (gi_si_same.symm.trans f78) (not9 bI1)
  · exact absurd (gi_si_same.symm.trans f44) (not9 bW)
set_option maxHeartbeats 4000000 in
set_option maxRecDepth 100000 in
theorem lp_X7_isRoomLeft {me : Nat} {ad : Nat → Nat} {A : Sta} (Hm : MoL h me ad) (hR : RepR (gi h (ad 11)) A) (k : Q (.inl (some (.int (b01 (¬ fullU A (sN A)))))) h) : ∀ (m : Nat) (i : Nat), sN A - i < m → (i ≤ sN A) → WPx E mX7_isRoomLeft 4 [some (.ref me), some (.int (b01 (¬ fullU A i))), some (.int (nI i))] [] (0, 0) h Q := by
  intro m
  induction m with
  | zero => intro i hm; exact absurd hm (Nat.not_lt_zero _)
  | succ m ih =>
    intro i hm hi
    have n6 := hR.n6
    refine wp_iload_n (M := mX7_isRoomLeft) (pc := 4) dX7_isRoomLeft_4 rfl ?_
    refine wp_aload_n (M := mX7_isRoomLeft) (pc := 5) dX7_isRoomLeft_5 rfl ?_
    refine wp_getR (M := mX7_isRoomLeft) (pc := 6) fa_X7_29 rfl dX7_isRoomLeft_6 (by first | exact Hm.k | exact Hm.a rfl | fail "kd") (Hm.r rfl) ?_
    refine wp_iconst (M := mX7_isRoomLeft) (pc := 9) (v := 0) dX7_isRoomLeft_9 ci_0 ?_
    refine wr_iaload (M := mX7_isRoomLeft) (pc := 10) dX7_isRoomLeft_10 (by first | exact Hm.k | exact Hm.a rfl | fail "kd") (show (0 : Int32) = nI 0 from rfl) (by omega) (by decide) ?_
    refine wp_icmp_ge (M := mX7_isRoomLeft) (pc := 11) (tgt := 47) dX7_isRoomLeft_11 rfl (fun t11 => ?_) (fun f11 => ?_)
    · rw [hR.f0] at t11
      have hi2 := n_ge hi (by omega) t11
      subst hi2
      refine wp_iload_n (M := mX7_isRoomLeft) (pc := 47) dX7_isRoomLeft_47 rfl ?_
      refine wp_zreturn (M := mX7_isRoomLeft) (pc := 48) rfl b01_or dX7_isRoomLeft_48 ?_
      exact k
    · rw [hR.f0] at f11
      have hlt := n_lt hi (by omega) f11
      have h88 := (hR.tM hlt).2
      refine wp_iload_n (M := mX7_isRoomLeft) (pc := 14) dX7_isRoomLeft_14 rfl ?_
      refine wp_if_ne (M := mX7_isRoomLeft) (pc := 15) (tgt := 35) dX7_isRoomLeft_15 rfl (fun t15 => ?_) (fun f15 => ?_)
      · refine wp_iconst (M := mX7_isRoomLeft) (pc := 35) (v := 1) dX7_isRoomLeft_35 ci_1 ?_
        refine wp_goto (M := mX7_isRoomLeft) (pc := 36) (tgt := 40) dX7_isRoomLeft_36 rfl ?_
        refine so_istore_n (M := mX7_isRoomLeft) (pc := 40) (lo' := [_, _, _]) dX7_isRoomLeft_40 (LE rfl) (LE rfl) (Or.inr rfl) rfl ?_
        refine so_iinc (M := mX7_isRoomLeft) (pc := 41) (lo' := [_, _, _]) dX7_isRoomLeft_41 rfl ci_1 (LE rfl) rfl ?_
        refine wp_goto (M := mX7_isRoomLeft) (pc := 44) (tgt := 4) dX7_isRoomLeft_44 rfl ?_
        first
        | (rw [show nI i + 1 = nI (i + 1) from nI_1 i]
           have hz := ih (i + 1) (by omega) (by omega)
           rw [b01_t (show ¬ fullU A (i + 1) from fun q => (b01_n t15) (fun t ht => q t (by omega)))] at hz
           exact hz)
        | (rw [show nI i + 1 = nI (i + 1) from nI_1 i]
           have hz := ih (i + 1) (by omega) (by omega)
           rw [b01_t (show ¬ fullU A (i + 1) from fun q => h8 (q i (by omega)))] at hz
           exact hz)
        | (rw [show nI i + 1 = nI (i + 1) from nI_1 i]
           have hz := ih (i + 1) (by omega) (by omega)
           rw [b01_f (show ¬ ¬ fullU A (i + 1) from fun q => q (fun t ht => by
             by_cases e : t = i
             · rw [e]; exact h8
             · exact hfl t (by omega)))] at hz
           exact hz)
        | fail "leaf"
      · have hfl : fullU A i := Classical.byContradiction (b01_z f15)
        refine wp_aload_n (M := mX7_isRoomLeft) (pc := 18) dX7_isRoomLeft_18 rfl ?_
        refine wp_getR (M := mX7_isRoomLeft) (pc := 19) fa_X7_29 rfl dX7_isRoomLeft_19 (by first | exact Hm.k | exact Hm.a rfl | fail "kd") (Hm.r rfl) ?_
        refine wp_iload_n (M := mX7_isRoomLeft) (pc := 22) dX7_isRoomLeft_22 rfl ?_
        refine so_S1 (M := mX7_isRoomLeft) (pc := 23) cs_X7_isRoomLeft_90 rfl rfl (LE rfl) (LE rfl) dX7_isRoomLeft_23 ?_
        refine sp_X7_at ?_
        refine kI ?_
        refine wp_bipush (M := mX7_isRoomLeft) (pc := 26) (v := 7) dX7_isRoomLeft_26 cb_7 ?_
        refine wp_iadd (M := mX7_isRoomLeft) (pc := 28) dX7_isRoomLeft_28 ?_
        refine wr_iaload (M := mX7_isRoomLeft) (pc := 29) dX7_isRoomLeft_29 (by first | exact Hm.k | exact Hm.a rfl | fail "kd") (ia rfl (show (7 : Int32) = nI 7 from rfl)) (by omega) (by decide) ?_
        refine wp_bipush (M := mX7_isRoomLeft) (pc := 30) (v := 8) dX7_isRoomLeft_30 cb_8 ?_
        refine wp_icmp_ge (M := mX7_isRoomLeft) (pc := 32) (tgt := 39) dX7_isRoomLeft_32 rfl (fun t32 => ?_) (fun f32 => ?_)
        · rw [(hR.tM hlt).1] at t32
          have h8 : 8 ≤ (sT A i).2.1.length := (i_le (a := 8) (by decide) (by omega)).mp t32
          refine wp_iconst (M := mX7_isRoomLeft) (pc := 39) (v := 0) dX7_isRoomLeft_39 ci_0 ?_
          refine so_istore_n (M := mX7_isRoomLeft) (pc := 40) (lo' := [_, _, _]) dX7_isRoomLeft_40 (LE rfl) (LE rfl) (Or.inr rfl) rfl ?_
          refine so_iinc (M := mX7_isRoomLeft) (pc := 41) (lo' := [_, _, _]) dX7_isRoomLeft_41 rfl ci_1 (LE rfl) rfl ?_
          refine wp_goto (M := mX7_isRoomLeft) (pc := 44) (tgt := 4) dX7_isRoomLeft_44 rfl ?_
          first
          | (rw [show nI i + 1 = nI (i + 1) from nI_1 i]
             have hz := ih (i + 1) (by omega) (by omega)
             rw [b01_t (show ¬ fullU A (i + 1) from fun q => (b01_n t15) (fun t ht => q t (by omega)))] at hz
             exact hz)
          | (rw [show nI i + 1 = nI (i + 1) from nI_1 i]
             have hz := ih (i + 1) (by omega) (by omega)
             rw [b01_t (show ¬ fullU A (i + 1) from fun q => h8 (q i (by omega)))] at hz
             exact hz)
          | (rw [show nI i + 1 = nI (i + 1) from nI_1 i]
             have hz := ih (i + 1) (by omega) (by omega)
             rw [b01_f (show ¬ ¬ fullU A (i + 1) from fun q => q (fun t ht => by
               by_cases e : t = i
               · rw [e]; exact h8
               · exact hfl t (by omega)))] at hz
             exact hz)
          | fail "leaf"
        · rw [(hR.tM hlt).1] at f32
          have h8 : ¬ 8 ≤ (sT A i).2.1.length := fun e => f32 ((i_le (a := 8) (by decide) (by omega)).mpr e)
          refine wp_iconst (M := mX7_isRoomLeft) (pc := 35) (v := 1) dX7_isRoomLeft_35 ci_1 ?_
          refine wp_goto (M := mX7_isRoomLeft) (pc := 36) (tgt := 40) dX7_isRoomLeft_36 rfl ?_
          refine so_istore_n (M := mX7_isRoomLeft) (pc := 40) (lo' := [_, _, _]) dX7_isRoomLeft_40 (LE rfl) (LE rfl) (Or.inr rfl) rfl ?_
          refine so_iinc (M := mX7_isRoomLeft) (pc := 41) (lo' := [_, _, _]) dX7_isRoomLeft_41 rfl ci_1 (LE rfl) rfl ?_
          refine wp_goto (M := mX7_isRoomLeft) (pc := 44) (tgt := 4) dX7_isRoomLeft_44 rfl ?_
          first
          | (rw [show nI i + 1 = nI (i + 1) from nI_1 i]
             have hz := ih (i + 1) (by omega) (by omega)
             rw [b01_t (show ¬ fullU A (i + 1) from fun q => (b01_n t15) (fun t ht => q t (by omega)))] at hz
             exact hz)
          | (rw [show nI i + 1 = nI (i + 1) from nI_1 i]
             have hz := ih (i + 1) (by omega) (by omega)
             rw [b01_t (show ¬ fullU A (i + 1) from fun q => h8 (q i (by omega)))] at hz
             exact hz)
          | (rw [show nI i + 1 = nI (i + 1) from nI_1 i]
             have hz := ih (i + 1) (by omega) (by omega)
             rw [b01_f (show ¬ ¬ fullU A (i + 1) from fun q => q (fun t ht => by
               by_cases e : t = i
               · rw [e]; exact h8
               · exact hfl t (by omega)))] at hz
             exact hz)
          | fail "leaf"
set_option maxHeartbeats 4000000 in
set_option maxRecDepth 100000 in
theorem sp_X7_isRoomLeft {me : Nat} {ad : Nat → Nat} {A : Sta} (Hm : MoL h me ad) (hR : RepR (gi h (ad 11)) A) (k : Q (.inl (some (.int (b01 (¬ fullU A (sN A)))))) h) : WPx E mX7_isRoomLeft 0 [some (.ref me), none, none] [] (0, 0) h Q := by
  refine wp_iconst (M := mX7_isRoomLeft) (pc := 0) (v := 0) dX7_isRoomLeft_0 ci_0 ?_
  refine so_istore_n (M := mX7_isRoomLeft) (pc := 1) (lo' := [_, _, _]) dX7_isRoomLeft_1 (LE rfl) (LE rfl) (Or.inr rfl) rfl ?_
  refine wp_iconst (M := mX7_isRoomLeft) (pc := 2) (v := 0) dX7_isRoomLeft_2 ci_0 ?_
  refine so_istore_n (M := mX7_isRoomLeft) (pc := 3) (lo' := [_, _, _]) dX7_isRoomLeft_3 (LE rfl) (LE rfl) (Or.inr rfl) rfl ?_
  have hz := lp_X7_isRoomLeft (E := E) (Q := Q) Hm hR k (sN A + 1) 0 (by omega) (by omega)
  rw [b01_f (show ¬ ¬ fullU A 0 from fun q => q (fun t ht => absurd ht (Nat.not_lt_zero _)))] at hz
  exact hz
set_option maxHeartbeats 4000000 in
set_option maxRecDepth 100000 in
theorem sp_X7_readMessage {me : Nat} {ad : Nat → Nat} {s : Nat → Nat} {n p : Nat} {A : Sta} (Hm : MoL h me ad) (hX : TxR h me ad s n) (hp : gi h me 10 = nI p) (hp2 : p ≤ 160) (hR : RepR (gi h (ad 11)) A) (k1 : (rdX s n 1 99 2 (rqX A s n (p, false))).2.2 = false → ∀ h', FrD me ad h h' → gi h' me 10 = nI (rdX s n 1 99 2 (rqX A s n (p, false))).2.1 → RepR (gi h' (ad 11)) (pushA A (s p - 48) (nI (rdX s n 1 99 2 (rqX A s n (p, false))).1)) → Q (.inl (some (.int 1))) h') (k0 : (rdX s n 1 99 2 (rqX A s n (p, false))).2.2 = true → ∀ h', FrD me ad h h' → gi h' me 10 = nI (rdX s n 1 99 2 (rqX A s n (p, false))).2.1 → Q (.inl (some (.int 0))) h') : WPx E mX7_readMessage 0 [some (.ref me), none, none] [] (0, 0) h Q := by
  have n160 := hX.1.2
  have n6 := hR.n6
  have nm := (Hm.ne (k := 11) rfl).symm
  have hbad : rqX A s n (p, false) = (p, true) → Q (.inl (some (.int 0))) h := fun e => by
    have e9 : rdX s n 1 99 2 (rqX A s n (p, false)) = (0, p, true) := by unfold rdX; rw [e]; exact rdB_t rfl
    exact k0 (by rw [e9]) h FrD.rf (by rw [e9]; exact hp)
  refine wp_aload_n (M := mX7_readMessage) (pc := 0) dX7_readMessage_0 rfl ?_
  refine wp_getI (M := mX7_readMessage) (pc := 1) fa_X7_78 rfl dX7_readMessage_1 (by first | exact Hm.k | exact Hm.a rfl | fail "kd") ?_
  refine wp_aload_n (M := mX7_readMessage) (pc := 4) dX7_readMessage_4 rfl ?_
  refine wp_getI (M := mX7_readMessage) (pc := 5) fa_X7_71 rfl dX7_readMessage_5 (by first | exact Hm.k | exact Hm.a rfl | fail "kd") ?_
  refine wp_icmp_ge (M := mX7_readMessage) (pc := 8) (tgt := 26) dX7_readMessage_8 rfl (fun t8 => ?_) (fun f8 => ?_)
  · rw [hp, hX.1.1] at t8
    have hno : ¬ p < n := fun e => absurd ((i_le (by omega) (by omega)).mp t8) (by omega)
    refine wp_bipush (M := mX7_readMessage) (pc := 26) (v := -9) dX7_readMessage_26 cb_m9 ?_
    refine so_istore_n (M := mX7_readMessage) (pc := 28) (lo' := [_, _, _]) dX7_readMessage_28 (LE rfl) (LE rfl) (Or.inr rfl) rfl ?_
    refine wp_aload_n (M := mX7_readMessage) (pc := 29) dX7_readMessage_29 rfl ?_
    refine wp_getR (M := mX7_readMessage) (pc := 30) fa_X7_29 rfl dX7_readMessage_30 (by first | exact Hm.k | exact Hm.a rfl | fail "kd") (Hm.r rfl) ?_
    refine wp_iload_n (M := mX7_readMessage) (pc := 33) dX7_readMessage_33 rfl ?_
    refine so_S2 (M := mX7_readMessage) (pc := 34) cs_X7_readMessage_94 rfl rfl (LE rfl) (LE rfl) dX7_readMessage_34 ?_
    refine sp_X7_isTenant (Hm.a rfl) hR ?_
    refine kI ?_
    refine wp_if_eq (M := mX7_readMessage) (pc := 37) (tgt := 57) dX7_readMessage_37 rfl (fun t37 => ?_) (fun f37 => ?_)
    · refine wp_iconst (M := mX7_readMessage) (pc := 57) (v := 0) dX7_readMessage_57 ci_0 ?_
      refine wp_zreturn (M := mX7_readMessage) (pc := 58) rfl (by decide) dX7_readMessage_58 ?_
      exact hbad (rqX_n (fun q => hno q.2.1.1))
    · obtain ⟨j, hj, ej⟩ := b01_n f37
      exact absurd (show (-9 : Int32) < 0 by decide) (by rw [ej]; exact nI_pos (by omega))
  · rw [hp, hX.1.1] at f8
    have hlt : p < n := Nat.lt_of_not_le (fun e => f8 ((i_le (by omega) (by omega)).mpr e))
    obtain ⟨es, e255⟩ := hX.2 p hlt
    refine wp_aload_n (M := mX7_readMessage) (pc := 11) dX7_readMessage_11 rfl ?_
    refine wp_getR (M := mX7_readMessage) (pc := 12) fa_X7_26 rfl dX7_readMessage_12 (by first | exact Hm.k | exact Hm.a rfl | fail "kd") (Hm.r rfl) ?_
    refine wp_aload_n (M := mX7_readMessage) (pc := 15) dX7_readMessage_15 rfl ?_
    refine wp_getI (M := mX7_readMessage) (pc := 16) fa_X7_78 rfl dX7_readMessage_16 (by first | exact Hm.k | exact Hm.a rfl | fail "kd") ?_
    refine wr_iaload (M := mX7_readMessage) (pc := 19) dX7_readMessage_19 (by first | exact Hm.k | exact Hm.a rfl | fail "kd") hp (by omega) (by decide) ?_
    refine wp_bipush (M := mX7_readMessage) (pc := 20) (v := 48) dX7_readMessage_20 cb_48 ?_
    refine wp_isub (M := mX7_readMessage) (pc := 22) dX7_readMessage_22 ?_
    refine wp_goto (M := mX7_readMessage) (pc := 23) (tgt := 28) dX7_readMessage_23 rfl ?_
    refine so_istore_n (M := mX7_readMessage) (pc := 28) (lo' := [_, _, _]) dX7_readMessage_28 (LE rfl) (LE rfl) (Or.inr rfl) rfl ?_
    rw [es]
    refine wp_aload_n (M := mX7_readMessage) (pc := 29) dX7_readMessage_29 rfl ?_
    refine wp_getR (M := mX7_readMessage) (pc := 30) fa_X7_29 rfl dX7_readMessage_30 (by first | exact Hm.k | exact Hm.a rfl | fail "kd") (Hm.r rfl) ?_
    refine wp_iload_n (M := mX7_readMessage) (pc := 33) dX7_readMessage_33 rfl ?_
    refine so_S2 (M := mX7_readMessage) (pc := 34) cs_X7_readMessage_94 rfl rfl (LE rfl) (LE rfl) dX7_readMessage_34 ?_
    refine sp_X7_isTenant (Hm.a rfl) hR ?_
    refine kI ?_
    refine wp_if_eq (M := mX7_readMessage) (pc := 37) (tgt := 57) dX7_readMessage_37 rfl (fun t37 => ?_) (fun f37 => ?_)
    · have hnt : ¬ (48 ≤ s p ∧ s p - 48 < sN A) := fun q => b01_z t37 ⟨s p - 48, q.2, pk_sub (b := 48) q.1⟩
      refine wp_iconst (M := mX7_readMessage) (pc := 57) (v := 0) dX7_readMessage_57 ci_0 ?_
      refine wp_zreturn (M := mX7_readMessage) (pc := 58) rfl (by decide) dX7_readMessage_58 ?_
      first
      | exact hbad (rqX_n (fun q => hnt ⟨q.2.1.2.1, q.2.1.2.2⟩))
      | exact hbad (rqX_n (fun q => h8 (by have := q.2.2; rw [hsp.2] at this; exact this)))
      | fail "leaf"
    · obtain ⟨j, hj, ej⟩ := b01_n f37
      have hsp : 48 ≤ s p ∧ s p - 48 = j := by
        rcases Nat.lt_or_ge (s p) 48 with e | e
        · have := lt_neg (s p) e; rw [ej] at this; exact absurd this (nI_pos (by omega))
        · rw [show nI (s p) - 48 = nI (s p - 48) from pk_sub (b := 48) e] at ej; exact ⟨e, (i_eq (by omega) (by omega)).mp ej⟩
      rw [ej]
      have h88 := (hR.tM hj).2
      have eL := (hR.tM hj).1
      refine wp_aload_n (M := mX7_readMessage) (pc := 40) dX7_readMessage_40 rfl ?_
      refine wp_getR (M := mX7_readMessage) (pc := 41) fa_X7_29 rfl dX7_readMessage_41 (by first | exact Hm.k | exact Hm.a rfl | fail "kd") (Hm.r rfl) ?_
      refine wp_iload_n (M := mX7_readMessage) (pc := 44) dX7_readMessage_44 rfl ?_
      refine so_S1 (M := mX7_readMessage) (pc := 45) cs_X7_readMessage_90 rfl rfl (LE rfl) (LE rfl) dX7_readMessage_45 ?_
      refine sp_X7_at ?_
      refine kI ?_
      refine wp_bipush (M := mX7_readMessage) (pc := 48) (v := 7) dX7_readMessage_48 cb_7 ?_
      refine wp_iadd (M := mX7_readMessage) (pc := 50) dX7_readMessage_50 ?_
      refine wr_iaload (M := mX7_readMessage) (pc := 51) dX7_readMessage_51 (by first | exact Hm.k | exact Hm.a rfl | fail "kd") (ia rfl (show (7 : Int32) = nI 7 from rfl)) (by omega) (by decide) ?_
      refine wp_bipush (M := mX7_readMessage) (pc := 52) (v := 8) dX7_readMessage_52 cb_8 ?_
      refine wp_icmp_ne (M := mX7_readMessage) (pc := 54) (tgt := 59) dX7_readMessage_54 rfl (fun t54 => ?_) (fun f54 => ?_)
      · rw [eL] at t54
        have h8 : (sT A j).2.1.length < 8 := Nat.lt_of_le_of_ne h88 (fun e => t54 (by rw [e]; rfl))
        have eq : rqX A s n (p, false) = (p + 1, false) := rqX_y ⟨rfl, ⟨hlt, hsp.1, by rw [hsp.2]; exact hj⟩, by rw [hsp.2]; exact h8⟩
        have eZ : rdX s n 1 99 2 (rqX A s n (p, false)) = rdN s n 1 99 2 0 (p + 1) := by unfold rdX; rw [eq]; exact rdB_f rfl
        refine wp_aload_n (M := mX7_readMessage) (pc := 59) dX7_readMessage_59 rfl ?_
        refine wp_dup (M := mX7_readMessage) (pc := 60) dX7_readMessage_60 rfl ?_
        refine wp_getI (M := mX7_readMessage) (pc := 61) fa_X7_78 rfl dX7_readMessage_61 (by first | exact Hm.k | exact Hm.a rfl | fail "kd") ?_
        refine wp_iconst (M := mX7_readMessage) (pc := 64) (v := 1) dX7_readMessage_64 ci_1 ?_
        refine wp_iadd (M := mX7_readMessage) (pc := 65) dX7_readMessage_65 ?_
        refine wp_putI (M := mX7_readMessage) (pc := 66) fa_X7_78 (Or.inl rfl) dX7_readMessage_66 (by first | exact Hm.k | exact Hm.a rfl | fail "kd") ?_
        rw [hp, show nI p + 1 = nI (p + 1) from nI_1 p]
        refine wp_aload_n (M := mX7_readMessage) (pc := 69) dX7_readMessage_69 rfl ?_
        refine wp_iconst (M := mX7_readMessage) (pc := 70) (v := 2) dX7_readMessage_70 ci_2 ?_
        refine wp_iconst (M := mX7_readMessage) (pc := 71) (v := 1) dX7_readMessage_71 ci_1 ?_
        refine wp_bipush (M := mX7_readMessage) (pc := 72) (v := 99) dX7_readMessage_72 cb_99 ?_
        refine so_V3 (M := mX7_readMessage) (pc := 74) cs_X7_readMessage_86 rfl rfl (LE rfl) (LE rfl) dX7_readMessage_74 (by first | exact Hm.k | exact Hm.a rfl | fail "kd") ?_
        refine sp_X7_number (d := 2) (lo := 1) (hi := 99) (p := p + 1) Hm (hX.sp Hm) (by decide) (by decide) (by decide) (by decide) gi_si_same (by omega) ?_
        rw [si_si, ← eZ]
        refine kI ?_
        refine so_istore_n (M := mX7_readMessage) (pc := 77) (lo' := [_, _, _]) dX7_readMessage_77 (LE rfl) (LE rfl) (Or.inr rfl) rfl ?_
        refine wp_iload_n (M := mX7_readMessage) (pc := 78) dX7_readMessage_78 rfl ?_
        refine wp_bipush (M := mX7_readMessage) (pc := 79) (v := -9) dX7_readMessage_79 cb_m9 ?_
        refine wp_icmp_ne (M := mX7_readMessage) (pc := 81) (tgt := 86) dX7_readMessage_81 rfl (fun t81 => ?_) (fun f81 => ?_)
        · by_cases hb : (rdX s n 1 99 2 (rqX A s n (p, false))).2.2 = true
          · exact absurd (if_pos hb) t81
          rw [if_neg hb]
          have bW : (rdX s n 1 99 2 (rqX A s n (p, false))).1 ≤ 9999 := by rw [eZ]; exact rdN_b (by decide) 2 0 _ (by rw [← eZ]; simpa using hb) (by omega)
          have R1 : RepR (gi (si h me 10 (nI (rdX s n 1 99 2 (rqX A s n (p, false))).2.1)) (ad 11)) A := by rw [gi_si_ne _ _ _ nm.symm]; exact hR
          have eL2 : gi (si h me 10 (nI (rdX s n 1 99 2 (rqX A s n (p, false))).2.1)) (ad 11) (58 + 217 * j + 7) = nI (sT A j).2.1.length := (R1.tM hj).1
          refine wp_aload_n (M := mX7_readMessage) (pc := 86) dX7_readMessage_86 rfl ?_
          refine wp_getR (M := mX7_readMessage) (pc := 87) fa_X7_29 rfl dX7_readMessage_87 (by first | exact Hm.k | exact Hm.a rfl | fail "kd") (Hm.r rfl) ?_
          refine wp_iload_n (M := mX7_readMessage) (pc := 90) dX7_readMessage_90 rfl ?_
          refine so_S1 (M := mX7_readMessage) (pc := 91) cs_X7_readMessage_90 rfl rfl (LE rfl) (LE rfl) dX7_readMessage_91 ?_
          refine sp_X7_at ?_
          refine kI ?_
          refine wp_bipush (M := mX7_readMessage) (pc := 94) (v := 8) dX7_readMessage_94 cb_8 ?_
          refine wp_iadd (M := mX7_readMessage) (pc := 96) dX7_readMessage_96 ?_
          refine wp_aload_n (M := mX7_readMessage) (pc := 97) dX7_readMessage_97 rfl ?_
          refine wp_getR (M := mX7_readMessage) (pc := 98) fa_X7_29 rfl dX7_readMessage_98 (by first | exact Hm.k | exact Hm.a rfl | fail "kd") (Hm.r rfl) ?_
          refine wp_iload_n (M := mX7_readMessage) (pc := 101) dX7_readMessage_101 rfl ?_
          refine so_S1 (M := mX7_readMessage) (pc := 102) cs_X7_readMessage_90 rfl rfl (LE rfl) (LE rfl) dX7_readMessage_102 ?_
          refine sp_X7_at ?_
          refine kI ?_
          refine wp_bipush (M := mX7_readMessage) (pc := 105) (v := 7) dX7_readMessage_105 cb_7 ?_
          refine wp_iadd (M := mX7_readMessage) (pc := 107) dX7_readMessage_107 ?_
          refine wr_iaload (M := mX7_readMessage) (pc := 108) dX7_readMessage_108 (by first | exact Hm.k | exact Hm.a rfl | fail "kd") (ia rfl (show (7 : Int32) = nI 7 from rfl)) (by omega) (by decide) ?_
          refine wp_iadd (M := mX7_readMessage) (pc := 109) dX7_readMessage_109 ?_
          refine wp_iload_n (M := mX7_readMessage) (pc := 110) dX7_readMessage_110 rfl ?_
          refine wr_iastore (M := mX7_readMessage) (pc := 111) dX7_readMessage_111 (by first | exact Hm.k | exact Hm.a rfl | fail "kd") (ia (ia rfl (show (8 : Int32) = nI 8 from rfl)) eL2) (by omega) (by decide) ?_
          refine wp_aload_n (M := mX7_readMessage) (pc := 112) dX7_readMessage_112 rfl ?_
          refine wp_getR (M := mX7_readMessage) (pc := 113) fa_X7_29 rfl dX7_readMessage_113 (by first | exact Hm.k | exact Hm.a rfl | fail "kd") (Hm.r rfl) ?_
          refine wp_iload_n (M := mX7_readMessage) (pc := 116) dX7_readMessage_116 rfl ?_
          refine so_S1 (M := mX7_readMessage) (pc := 117) cs_X7_readMessage_90 rfl rfl (LE rfl) (LE rfl) dX7_readMessage_117 ?_
          refine sp_X7_at ?_
          refine kI ?_
          refine wp_bipush (M := mX7_readMessage) (pc := 120) (v := 7) dX7_readMessage_120 cb_7 ?_
          refine wp_iadd (M := mX7_readMessage) (pc := 122) dX7_readMessage_122 ?_
          refine wp_dup2 (M := mX7_readMessage) (pc := 123) dX7_readMessage_123 rfl rfl ?_
          refine wr_iaload (M := mX7_readMessage) (pc := 124) dX7_readMessage_124 (by first | exact Hm.k | exact Hm.a rfl | fail "kd") (ia rfl (show (7 : Int32) = nI 7 from rfl)) (by omega) (by decide) ?_
          refine wp_iconst (M := mX7_readMessage) (pc := 125) (v := 1) dX7_readMessage_125 ci_1 ?_
          refine wp_iadd (M := mX7_readMessage) (pc := 126) dX7_readMessage_126 ?_
          refine wr_iastore (M := mX7_readMessage) (pc := 127) dX7_readMessage_127 (by first | exact Hm.k | exact Hm.a rfl | fail "kd") (ia rfl (show (7 : Int32) = nI 7 from rfl)) (by omega) (by decide) ?_
          refine wp_iconst (M := mX7_readMessage) (pc := 128) (v := 1) dX7_readMessage_128 ci_1 ?_
          refine wp_zreturn (M := mX7_readMessage) (pc := 129) rfl (by decide) dX7_readMessage_129 ?_
          rw [gi_si_at, upd_ne _ _ (by omega), eL2, show nI (sT A j).2.1.length + 1 = nI ((sT A j).2.1.length + 1) from nI_1 _]
          refine k1 (by simpa using hb) _ ((FrD.sp (v := nI (rdX s n 1 99 2 (rqX A s n (p, false))).2.1)).tr ((FrD.sb (h := si h me 10 (nI (rdX s n 1 99 2 (rqX A s n (p, false))).2.1)) Hm).tr (FrD.sb (h := si (si h me 10 (nI (rdX s n 1 99 2 (rqX A s n (p, false))).2.1)) (ad 11) _ _) Hm))) (by rw [gi_si_ne _ _ _ nm, gi_si_ne _ _ _ nm]; exact gi_si_same) ?_
          rw [gi_si_at, gi_si_at, hsp.2]
          exact R1.sPush hj h8
        · have hb : (rdX s n 1 99 2 (rqX A s n (p, false))).2.2 = true := Classical.byContradiction (fun hb => by
            rw [if_neg hb] at f81
            exact absurd f81 (not9 (by rw [eZ]; exact rdN_b (by decide) 2 0 _ (by rw [← eZ]; simpa using hb) (by omega))))
          refine wp_iconst (M := mX7_readMessage) (pc := 84) (v := 0) dX7_readMessage_84 ci_0 ?_
          refine wp_zreturn (M := mX7_readMessage) (pc := 85) rfl (by decide) dX7_readMessage_85 ?_
          exact k0 hb _ FrD.sp gi_si_same
      · rw [eL] at f54
        have h8 : ¬ (sT A j).2.1.length < 8 := fun e => absurd ((i_eq (b := 8) (by omega) (by decide)).mp f54) (by omega)
        refine wp_iconst (M := mX7_readMessage) (pc := 57) (v := 0) dX7_readMessage_57 ci_0 ?_
        refine wp_zreturn (M := mX7_readMessage) (pc := 58) rfl (by decide) dX7_readMessage_58 ?_
        first
        | exact hbad (rqX_n (fun q => hnt ⟨q.2.1.2.1, q.2.1.2.2⟩))
        | exact hbad (rqX_n (fun q => h8 (by have := q.2.2; rw [hsp.2] at this; exact this)))
        | fail "leaf"
end SP
