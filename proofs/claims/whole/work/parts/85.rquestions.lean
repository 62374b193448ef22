section SP
variable {E : Ev} {h : PH} {Q : Rt → PH → Prop}
noncomputable def aucR (A : Sta) : Nat → Int32
  | 0 => (mtB (sO A)).2.1
  | 1 => (mtB (sO A)).2.2.1
  | 2 => (mtB (sO A)).2.2.2
  | _ => nI (cntG (sO A) (mtB (sO A)) (sO A).length)
noncomputable def volR (A : Sta) (kn : Nat) (p z : Int32) : Int32 := (mtB (sO A ++ [(0, kn, p, z)])).2.1
noncomputable def filR (A : Sta) (p z : Int32) : Int32 := (mtB (sO A ++ [(0, 0, p, z)])).1 (sO A).length
noncomputable def pfR (A : Sta) (z : Int32) : Nat → Nat → Int32
  | 0, _ => -9
  | f + 1, p => if filR A (nI p) z = z then nI p else pfR A z f (p + 1)
theorem pfR_y {A : Sta} {z : Int32} {f p : Nat} (h : filR A (nI p) z = z) : pfR A z (f + 1) p = nI p := if_pos h
theorem pfR_n {A : Sta} {z : Int32} {f p : Nat} (h : ¬ filR A (nI p) z = z) : pfR A z (f + 1) p = pfR A z f (p + 1) := if_neg h
noncomputable def aftR (A : Sta) (i j : Nat) : Nat → Nat → Int32
  | 0, _ => -9
  | f + 1, k => if nI j < nI (lnM A i) - nI (lnM (tksR k A).1 i) then nI k else aftR A i j f (k + 1)
theorem aftR_y {A : Sta} {i j f k : Nat} (h : nI j < nI (lnM A i) - nI (lnM (tksR k A).1 i)) : aftR A i j (f + 1) k = nI k := if_pos h
theorem aftR_n {A : Sta} {i j f k : Nat} (h : ¬ nI j < nI (lnM A i) - nI (lnM (tksR k A).1 i)) : aftR A i j (f + 1) k = aftR A i j f (k + 1) := if_neg h
noncomputable def sntR (A : Sta) (i j : Nat) : Int32 := if j < lnM A i then aftR A i j 99 1 else -9
theorem rep_cpy {f g : Nat → Int32} {A : Sta} (H : RepR f A) : RepR (va_cpy f g 0 0 1360) A := H.congr (fun j hj => by rw [pk_cpy_in (by omega) (by omega)]; congr 1; omega)
section
variable {h h' : PH} {me : Nat} {ad : Nat → Nat} {X : Abs}
theorem WM.tri {g : Nat → Int32} (H : WM h me ad X) : WM (sw h (ad 2) g) me ad X := H.B (RF.B (Z := fun x => x = ad 2) RF.sw rfl (H.1.ne (k := 2) rfl))
theorem WM.zB {Z : Nat → Prop} (F : FrB me ad Z h h') (z : gi h me 0 = 0) : gi h' me 0 = 0 := by rw [F.2.2 0 (by decide) (by decide) (by decide) (by decide)]; exact z
end
theorem qgen9 {r : Rt} {P : PH → Prop} (hP : P h) (kk : ∀ hX, P hX → Q r hX) : Q r h := kk h hP
set_option maxHeartbeats 4000000 in
set_option maxRecDepth 100000 in
theorem sp_X7_load {me : Nat} {ad : Nat → Nat} {X : Abs} (H : WM h me ad X) (k1 : rdE (xs X) (xn X) = -9 → ∀ h', WM h' me ad ((rdA (xs X) (xn X)).1, [], (fun _ => none), xs X, xn X) → gi h' me 0 = 0 → Ow me h h' → Q (.inl (some (.int (nI (sN (rdA (xs X) (xn X)).1))))) h') (k2 : ¬ rdE (xs X) (xn X) = -9 → ∀ h', WM h' me ad X → gi h' me 0 = 1 → Ow me h h' → Q (.inl (some (.int 0))) h') : WPx E mX7_load 0 [some (.ref me)] [] (0, 0) h Q := by
  have Hm := H.1
  have hR := H.2.1
  have n6 := hR.n6
  have n12 := hR.n12
  refine wp_aload_n (M := mX7_load) (pc := 0) dX7_load_0 rfl ?_
  refine wp_aload_n (M := mX7_load) (pc := 1) dX7_load_1 rfl ?_
  refine so_V0 (M := mX7_load) (pc := 2) cs_X7_load_111 rfl rfl (LE rfl) (LE rfl) dX7_load_2 (by first | exact Hm.k | exact Hm.a rfl | fail "kd") ?_
  refine sp_X7_readText Hm H.2.2.2.2.2 (fun h1 F1 R1 => ?_)
  have H1 := H.D F1
  have Hm1 := H1.1
  have O1 := FrD.ow Hm F1
  refine kI ?_
  refine wp_bipush (M := mX7_load) (pc := 5) (v := -9) dX7_load_5 cb_m9 ?_
  refine wp_icmp_ne (M := mX7_load) (pc := 7) (tgt := 14) dX7_load_7 rfl (fun t7 => ?_) (fun f7 => ?_)
  · refine wp_iconst (M := mX7_load) (pc := 14) (v := 1) dX7_load_14 ci_1 ?_
    refine so_V1 (M := mX7_load) (pc := 15) cs_X7_load_74 rfl rfl (LE rfl) (LE rfl) dX7_load_15 Hm1.k ?_
    refine sp_X7_refused1 (v := 1) Hm1.k (by decide) ?_
    refine kI ?_
    refine wp_if_eq (M := mX7_load) (pc := 18) (tgt := 23) dX7_load_18 rfl (fun t18 => ?_) (fun f18 => ?_)
    · exact absurd t18 (by decide)
    · refine wp_iconst (M := mX7_load) (pc := 21) (v := 0) dX7_load_21 ci_0 ?_
      refine wp_ireturn (M := mX7_load) (pc := 22) rfl dX7_load_22 ?_
      exact k2 t7 _ H1.ref gi_si_same (O1.tr (Fr.si Hm1.t))
  · refine wp_iconst (M := mX7_load) (pc := 10) (v := 0) dX7_load_10 ci_0 ?_
    refine wp_goto (M := mX7_load) (pc := 11) (tgt := 15) dX7_load_11 rfl ?_
    refine so_V1 (M := mX7_load) (pc := 15) cs_X7_load_74 rfl rfl (LE rfl) (LE rfl) dX7_load_15 (by first | exact Hm1.k | exact Hm1.a rfl) ?_
    refine sp_X7_refused0 Hm1.k ?_
    refine kI ?_
    refine wp_if_eq (M := mX7_load) (pc := 18) (tgt := 23) dX7_load_18 rfl (fun t18 => ?_) (fun f18 => ?_)
    · refine wp_aload_n (M := mX7_load) (pc := 23) dX7_load_23 rfl ?_
      refine wp_getR (M := mX7_load) (pc := 24) fa_X7_29 rfl dX7_load_24 (by first | exact Hm1.k | exact Hm1.a rfl) (Hm1.r rfl) ?_
      refine wp_iconst (M := mX7_load) (pc := 27) (v := 0) dX7_load_27 ci_0 ?_
      refine wp_aload_n (M := mX7_load) (pc := 28) dX7_load_28 rfl ?_
      refine wp_getR (M := mX7_load) (pc := 29) fa_X7_7 rfl dX7_load_29 (by first | exact Hm1.k | exact Hm1.a rfl) (Hm1.r rfl) ?_
      refine wp_iconst (M := mX7_load) (pc := 32) (v := 0) dX7_load_32 ci_0 ?_
      refine so_S4 (M := mX7_load) (pc := 33) cs_X7_load_58 rfl rfl (LE rfl) (LE rfl) dX7_load_33 ?_
      have n11 := Hm1.ne (k := 11) rfl
      have n1 := Hm1.ne (k := 1) rfl
      refine sp_X7_copy (N1 := 1360) (N2 := 1360) (x := 0) (y := 0) (Hm1.a (k := 11) rfl) (Hm1.a (k := 1) rfl) (Hm1.nn (j := 11) (k := 1) rfl rfl (by decide)) (by decide) (by decide) (by decide) (by decide) ?_
      rw [gi_si_ne _ _ _ n11, gi_si_ne _ _ _ n1]
      refine kV ?_
      refine wp_aload_n (M := mX7_load) (pc := 36) dX7_load_36 rfl ?_
      refine wp_iconst (M := mX7_load) (pc := 37) (v := 0) dX7_load_37 ci_0 ?_
      refine wp_putI (M := mX7_load) (pc := 38) fa_X7_62 (Or.inl rfl) dX7_load_38 (by first | exact Hm1.k | exact Hm1.a rfl) ?_
      refine wp_aload_n (M := mX7_load) (pc := 41) dX7_load_41 rfl ?_
      refine wp_getR (M := mX7_load) (pc := 42) fa_X7_22 rfl dX7_load_42 (by first | exact Hm1.k | exact Hm1.a rfl) (Hm1.r rfl) ?_
      refine wp_iconst (M := mX7_load) (pc := 45) (v := 0) dX7_load_45 ci_0 ?_
      refine wp_iconst (M := mX7_load) (pc := 46) (v := 0) dX7_load_46 ci_0 ?_
      refine wr_bastore (M := mX7_load) (pc := 47) (by decide) dX7_load_47 (by first | exact Hm1.k | exact Hm1.a rfl) (show (0 : Int32) = nI 0 from rfl) (by omega) (by decide) ?_
      refine wp_aload_n (M := mX7_load) (pc := 48) dX7_load_48 rfl ?_
      refine wp_getR (M := mX7_load) (pc := 49) fa_X7_22 rfl dX7_load_49 (by first | exact Hm1.k | exact Hm1.a rfl) (Hm1.r rfl) ?_
      refine wp_iconst (M := mX7_load) (pc := 52) (v := 1) dX7_load_52 ci_1 ?_
      refine wp_iconst (M := mX7_load) (pc := 53) (v := 0) dX7_load_53 ci_0 ?_
      refine wr_bastore (M := mX7_load) (pc := 54) (by decide) dX7_load_54 (by first | exact Hm1.k | exact Hm1.a rfl) (show (1 : Int32) = nI 1 from rfl) (by omega) (by decide) ?_
      refine wp_aload_n (M := mX7_load) (pc := 55) dX7_load_55 rfl ?_
      refine wp_getR (M := mX7_load) (pc := 56) fa_X7_7 rfl dX7_load_56 (by first | exact Hm1.k | exact Hm1.a rfl) (Hm1.r rfl) ?_
      refine wp_iconst (M := mX7_load) (pc := 59) (v := 0) dX7_load_59 ci_0 ?_
      refine wr_iaload (M := mX7_load) (pc := 60) dX7_load_60 (by first | exact Hm1.k | exact Hm1.a rfl) (show (0 : Int32) = nI 0 from rfl) (by omega) (by decide) ?_
      refine wp_ireturn (M := mX7_load) (pc := 61) rfl dX7_load_61 ?_
      have n7 := Hm1.ne (k := 7) rfl
      have m17 := Hm1.nn (j := 1) (k := 7) rfl rfl (by decide)
      refine qgen9 (P := fun hX => WM hX me ad ((rdA (xs X) (xn X)).1, [], (fun _ => none), xs X, xn X) ∧ gi hX me 0 = 0 ∧ Ow me h1 hX) ⟨?_, ?_, ?_⟩ (fun hX HX => ?_)
      · obtain ⟨g1, g2, ⟨x, g3, g4, g5⟩, ⟨g6, g7⟩, g8, g9⟩ := H1
        refine ⟨Hm1, ?_, ⟨x, g3, ?_, fun i B hB => by cases hB⟩, ⟨?_, Nat.zero_le _⟩, fun j hj => Or.inl ⟨?_, rfl⟩, g9.co ?_ ?_⟩
        · rw [gi_si_ne _ _ _ m17, gi_si_ne _ _ _ m17, gi_si_ne _ _ _ n1, gi_sw_at]; exact rep_cpy (R1 f7)
        · rw [gi_si_ne _ _ _ n7.symm, gi_si_ne _ _ _ n7.symm, gi_si_oth (by decide), gi_sw_ne _ _ n1.symm, gi_si_oth (by decide)]; exact g4
        · rw [gi_si_ne _ _ _ n7.symm, gi_si_ne _ _ _ n7.symm, gi_si_same]; rfl
        · rw [gi_si_at, gi_si_at]
          rcases (show j = 0 ∨ j = 1 by omega) with rfl | rfl
          · rw [upd_ne _ _ (by decide), upd_at]
          · rw [upd_at]
        · rw [gi_si_ne _ _ _ n7.symm, gi_si_ne _ _ _ n7.symm, gi_si_oth (by decide), gi_sw_ne _ _ n1.symm, gi_si_oth (by decide)]
        · rw [gi_si_ne _ _ _ (Hm1.nn (j := 8) (k := 7) rfl rfl (by decide)), gi_si_ne _ _ _ (Hm1.nn (j := 8) (k := 7) rfl rfl (by decide)), gi_si_ne _ _ _ (Hm1.ne (k := 8) rfl), gi_sw_ne _ _ (Hm1.nn (j := 8) (k := 1) rfl rfl (by decide)), gi_si_ne _ _ _ (Hm1.ne (k := 8) rfl)]
      · rw [gi_si_ne _ _ _ n7.symm, gi_si_ne _ _ _ n7.symm, gi_si_oth (by decide), gi_sw_ne _ _ n1.symm]; exact gi_si_same
      · exact (Fr.si Hm1.t).tr ((Fr.sw (show (tg h1 (ad 1)).1 = me from Hm1.ta (k := 1) rfl)).tr ((Fr.si (show (tg h1 me).1 = me from Hm1.t)).tr ((Fr.si (show (tg h1 (ad 7)).1 = me from Hm1.ta (k := 7) rfl)).tr (Fr.si (show (tg h1 (ad 7)).1 = me from Hm1.ta (k := 7) rfl)))))
      · rw [gi_si_ne _ _ _ m17, gi_si_ne _ _ _ m17, gi_si_ne _ _ _ n1, gi_sw_at, (rep_cpy (R1 f7)).f0]
        exact k1 f7 hX HX.1 HX.2.1 (O1.tr HX.2.2)
    · exact absurd rfl f18
set_option maxHeartbeats 4000000 in
set_option maxRecDepth 100000 in
theorem lp_X7_atLeast1 {me : Nat} {ad : Nat → Nat} {A : Sta} {p : Int32} (Hm : MoL h me ad) (hR : RepR (gi h (ad 1)) A) (k : Q (.inl (some (.int (osm (gw p) A (sO A).length)))) h) : ∀ (m : Nat) (i : Nat) (x5 : Option Value) (x6 : Option Value), (sO A).length - i < m → (i ≤ (sO A).length) → WPx E mX7_atLeast 5 [some (.ref me), some (.int 1), some (.int p), some (.int (osm (gw p) A i)), some (.int (nI i)), x5, x6] [] (0, 0) h Q := by
  intro m
  induction m with
  | zero => intro i x5 x6 hm; exact absurd hm (Nat.not_lt_zero _)
  | succ m ih =>
    intro i x5 x6 hm hi
    have n6 := hR.n6
    have n12 := hR.n12
    refine wp_iload (M := mX7_atLeast) (pc := 5) dX7_atLeast_5 rfl ?_
    refine wp_aload_n (M := mX7_atLeast) (pc := 7) dX7_atLeast_7 rfl ?_
    refine wp_getR (M := mX7_atLeast) (pc := 8) fa_X7_7 rfl dX7_atLeast_8 (by first | exact Hm.k | exact Hm.a rfl | fail "kd") (Hm.r rfl) ?_
    refine wp_bipush (M := mX7_atLeast) (pc := 11) (v := 8) dX7_atLeast_11 cb_8 ?_
    refine wr_iaload (M := mX7_atLeast) (pc := 13) dX7_atLeast_13 (by first | exact Hm.k | exact Hm.a rfl | fail "kd") (show (8 : Int32) = nI 8 from rfl) (by omega) (by decide) ?_
    refine wp_icmp_ge (M := mX7_atLeast) (pc := 14) (tgt := 112) dX7_atLeast_14 rfl (fun t14 => ?_) (fun f14 => ?_)
    · rw [hR.f8] at t14
      have hi2 := n_ge hi (by omega) t14
      subst hi2
      refine wp_iload_n (M := mX7_atLeast) (pc := 112) dX7_atLeast_112 rfl ?_
      refine wp_ireturn (M := mX7_atLeast) (pc := 113) rfl dX7_atLeast_113 ?_
      exact k
    · rw [hR.f8] at f14
      have hlt := n_lt hi (by omega) f14
      obtain ⟨⟨o0, o1, o2, o3⟩, o4, o5⟩ := hR.o hlt
      refine wp_iload (M := mX7_atLeast) (pc := 17) dX7_atLeast_17 rfl ?_
      refine so_S1 (M := mX7_atLeast) (pc := 19) cs_X7_atLeast_119 rfl rfl (LE rfl) (LE rfl) dX7_atLeast_19 ?_
      refine sp_X7_orderAt ?_
      refine kI ?_
      refine so_istore (M := mX7_atLeast) (pc := 22) (lo' := [_, _, _, _, _, _, _]) dX7_atLeast_22 (LE rfl) (LE rfl) (Or.inr rfl) rfl ?_
      refine wp_aload_n (M := mX7_atLeast) (pc := 24) dX7_atLeast_24 rfl ?_
      refine wp_getR (M := mX7_atLeast) (pc := 25) fa_X7_7 rfl dX7_atLeast_25 (by first | exact Hm.k | exact Hm.a rfl | fail "kd") (Hm.r rfl) ?_
      refine wp_iload (M := mX7_atLeast) (pc := 28) dX7_atLeast_28 rfl ?_
      refine wp_iconst (M := mX7_atLeast) (pc := 30) (v := 1) dX7_atLeast_30 ci_1 ?_
      refine wp_iadd (M := mX7_atLeast) (pc := 31) dX7_atLeast_31 ?_
      refine wr_iaload (M := mX7_atLeast) (pc := 32) dX7_atLeast_32 (by first | exact Hm.k | exact Hm.a rfl | fail "kd") (ia rfl (show (1 : Int32) = nI 1 from rfl)) (by omega) (by decide) ?_
      refine wp_if_ne (M := mX7_atLeast) (pc := 33) (tgt := 40) dX7_atLeast_33 rfl (fun t33 => ?_) (fun f33 => ?_)
      · refine wp_iconst (M := mX7_atLeast) (pc := 40) (v := 0) dX7_atLeast_40 ci_0 ?_
        refine wp_iload_n (M := mX7_atLeast) (pc := 41) dX7_atLeast_41 rfl ?_
        refine wp_icmp_ne (M := mX7_atLeast) (pc := 42) (tgt := 82) dX7_atLeast_42 rfl (fun t42 => ?_) (fun f42 => ?_)
        · refine wp_iconst (M := mX7_atLeast) (pc := 82) (v := 0) dX7_atLeast_82 ci_0 ?_
          refine so_istore (M := mX7_atLeast) (pc := 83) (lo' := [_, _, _, _, _, _, _]) dX7_atLeast_83 (LE rfl) (LE rfl) (Or.inr rfl) rfl ?_
          refine wp_iload_n (M := mX7_atLeast) (pc := 85) dX7_atLeast_85 rfl ?_
          refine wp_iload (M := mX7_atLeast) (pc := 86) dX7_atLeast_86 rfl ?_
          refine wp_if_eq (M := mX7_atLeast) (pc := 88) (tgt := 103) dX7_atLeast_88 rfl (fun t88 => ?_) (fun f88 => ?_)
          · refine wp_iconst (M := mX7_atLeast) (pc := 103) (v := 0) dX7_atLeast_103 ci_0 ?_
            refine wp_iadd (M := mX7_atLeast) (pc := 104) dX7_atLeast_104 ?_
            refine so_istore_n (M := mX7_atLeast) (pc := 105) (lo' := [_, _, _, _, _, _, _]) dX7_atLeast_105 (LE rfl) (LE rfl) (Or.inr rfl) rfl ?_
            refine so_iinc (M := mX7_atLeast) (pc := 106) (lo' := [_, _, _, _, _, _, _]) dX7_atLeast_106 rfl ci_1 (LE rfl) rfl ?_
            refine wp_goto (M := mX7_atLeast) (pc := 109) (tgt := 5) dX7_atLeast_109 rfl ?_
            rw [show nI i + 1 = nI (i + 1) from nI_1 i]
            have hz := fun y z => ih (i + 1) y z (by omega) (by omega)
            first
            | exact absurd t42 (by decide)
            | exact absurd rfl t42
            | exact absurd f42 (by decide)
            | exact absurd t46 (by decide)
            | exact absurd rfl f46
            | exact absurd t88 (by decide)
            | exact absurd rfl f88
            | (rw [osm_no (gw_n1 o1 t33)] at hz; rw [Int32.add_zero]; exact hz _ _)
            | (rw [osm_no (gw_n2 o2 t59)] at hz; rw [Int32.add_zero]; exact hz _ _)
            | (rw [osm_ye (gw_y o1 f33 o2 f59 o5)] at hz; rw [o3]; exact hz _ _)
            | fail "leaf"
          · refine wp_aload_n (M := mX7_atLeast) (pc := 91) dX7_atLeast_91 rfl ?_
            refine wp_getR (M := mX7_atLeast) (pc := 92) fa_X7_7 rfl dX7_atLeast_92 (by first | exact Hm.k | exact Hm.a rfl | fail "kd") (Hm.r rfl) ?_
            refine wp_iload (M := mX7_atLeast) (pc := 95) dX7_atLeast_95 rfl ?_
            refine wp_iconst (M := mX7_atLeast) (pc := 97) (v := 3) dX7_atLeast_97 ci_3 ?_
            refine wp_iadd (M := mX7_atLeast) (pc := 98) dX7_atLeast_98 ?_
            refine wr_iaload (M := mX7_atLeast) (pc := 99) dX7_atLeast_99 (by first | exact Hm.k | exact Hm.a rfl | fail "kd") (ia rfl (show (3 : Int32) = nI 3 from rfl)) (by omega) (by decide) ?_
            refine wp_goto (M := mX7_atLeast) (pc := 100) (tgt := 104) dX7_atLeast_100 rfl ?_
            refine wp_iadd (M := mX7_atLeast) (pc := 104) dX7_atLeast_104 ?_
            refine so_istore_n (M := mX7_atLeast) (pc := 105) (lo' := [_, _, _, _, _, _, _]) dX7_atLeast_105 (LE rfl) (LE rfl) (Or.inr rfl) rfl ?_
            refine so_iinc (M := mX7_atLeast) (pc := 106) (lo' := [_, _, _, _, _, _, _]) dX7_atLeast_106 rfl ci_1 (LE rfl) rfl ?_
            refine wp_goto (M := mX7_atLeast) (pc := 109) (tgt := 5) dX7_atLeast_109 rfl ?_
            rw [show nI i + 1 = nI (i + 1) from nI_1 i]
            have hz := fun y z => ih (i + 1) y z (by omega) (by omega)
            first
            | exact absurd t42 (by decide)
            | exact absurd rfl t42
            | exact absurd f42 (by decide)
            | exact absurd t46 (by decide)
            | exact absurd rfl f46
            | exact absurd t88 (by decide)
            | exact absurd rfl f88
            | (rw [osm_no (gw_n1 o1 t33)] at hz; rw [Int32.add_zero]; exact hz _ _)
            | (rw [osm_no (gw_n2 o2 t59)] at hz; rw [Int32.add_zero]; exact hz _ _)
            | (rw [osm_ye (gw_y o1 f33 o2 f59 o5)] at hz; rw [o3]; exact hz _ _)
            | fail "leaf"
        · refine wp_iload_n (M := mX7_atLeast) (pc := 45) dX7_atLeast_45 rfl ?_
          refine wp_if_eq (M := mX7_atLeast) (pc := 46) (tgt := 65) dX7_atLeast_46 rfl (fun t46 => ?_) (fun f46 => ?_)
          · refine wp_aload_n (M := mX7_atLeast) (pc := 65) dX7_atLeast_65 rfl ?_
            refine wp_getR (M := mX7_atLeast) (pc := 66) fa_X7_7 rfl dX7_atLeast_66 (by first | exact Hm.k | exact Hm.a rfl | fail "kd") (Hm.r rfl) ?_
            refine wp_iload (M := mX7_atLeast) (pc := 69) dX7_atLeast_69 rfl ?_
            refine wp_iconst (M := mX7_atLeast) (pc := 71) (v := 2) dX7_atLeast_71 ci_2 ?_
            refine wp_iadd (M := mX7_atLeast) (pc := 72) dX7_atLeast_72 ?_
            refine wr_iaload (M := mX7_atLeast) (pc := 73) dX7_atLeast_73 (by first | exact Hm.k | exact Hm.a rfl | fail "kd") (ia rfl (show (2 : Int32) = nI 2 from rfl)) (by omega) (by decide) ?_
            refine wp_iload_n (M := mX7_atLeast) (pc := 74) dX7_atLeast_74 rfl ?_
            refine wp_icmp_gt (M := mX7_atLeast) (pc := 75) (tgt := 82) dX7_atLeast_75 rfl (fun t75 => ?_) (fun f75 => ?_)
            · refine wp_iconst (M := mX7_atLeast) (pc := 82) (v := 0) dX7_atLeast_82 ci_0 ?_
              refine so_istore (M := mX7_atLeast) (pc := 83) (lo' := [_, _, _, _, _, _, _]) dX7_atLeast_83 (LE rfl) (LE rfl) (Or.inr rfl) rfl ?_
              refine wp_iload_n (M := mX7_atLeast) (pc := 85) dX7_atLeast_85 rfl ?_
              refine wp_iload (M := mX7_atLeast) (pc := 86) dX7_atLeast_86 rfl ?_
              refine wp_if_eq (M := mX7_atLeast) (pc := 88) (tgt := 103) dX7_atLeast_88 rfl (fun t88 => ?_) (fun f88 => ?_)
              · refine wp_iconst (M := mX7_atLeast) (pc := 103) (v := 0) dX7_atLeast_103 ci_0 ?_
                refine wp_iadd (M := mX7_atLeast) (pc := 104) dX7_atLeast_104 ?_
                refine so_istore_n (M := mX7_atLeast) (pc := 105) (lo' := [_, _, _, _, _, _, _]) dX7_atLeast_105 (LE rfl) (LE rfl) (Or.inr rfl) rfl ?_
                refine so_iinc (M := mX7_atLeast) (pc := 106) (lo' := [_, _, _, _, _, _, _]) dX7_atLeast_106 rfl ci_1 (LE rfl) rfl ?_
                refine wp_goto (M := mX7_atLeast) (pc := 109) (tgt := 5) dX7_atLeast_109 rfl ?_
                rw [show nI i + 1 = nI (i + 1) from nI_1 i]
                have hz := fun y z => ih (i + 1) y z (by omega) (by omega)
                first
                | exact absurd t42 (by decide)
                | exact absurd rfl t42
                | exact absurd f42 (by decide)
                | exact absurd t46 (by decide)
                | exact absurd rfl f46
                | exact absurd t88 (by decide)
                | exact absurd rfl f88
                | (rw [osm_no (gw_n1 o1 t33)] at hz; rw [Int32.add_zero]; exact hz _ _)
                | (rw [osm_no (gw_n2 o2 t59)] at hz; rw [Int32.add_zero]; exact hz _ _)
                | (rw [osm_ye (gw_y o1 f33 o2 f59 o5)] at hz; rw [o3]; exact hz _ _)
                | fail "leaf"
              · refine wp_aload_n (M := mX7_atLeast) (pc := 91) dX7_atLeast_91 rfl ?_
                refine wp_getR (M := mX7_atLeast) (pc := 92) fa_X7_7 rfl dX7_atLeast_92 (by first | exact Hm.k | exact Hm.a rfl | fail "kd") (Hm.r rfl) ?_
                refine wp_iload (M := mX7_atLeast) (pc := 95) dX7_atLeast_95 rfl ?_
                refine wp_iconst (M := mX7_atLeast) (pc := 97) (v := 3) dX7_atLeast_97 ci_3 ?_
                refine wp_iadd (M := mX7_atLeast) (pc := 98) dX7_atLeast_98 ?_
                refine wr_iaload (M := mX7_atLeast) (pc := 99) dX7_atLeast_99 (by first | exact Hm.k | exact Hm.a rfl | fail "kd") (ia rfl (show (3 : Int32) = nI 3 from rfl)) (by omega) (by decide) ?_
                refine wp_goto (M := mX7_atLeast) (pc := 100) (tgt := 104) dX7_atLeast_100 rfl ?_
                refine wp_iadd (M := mX7_atLeast) (pc := 104) dX7_atLeast_104 ?_
                refine so_istore_n (M := mX7_atLeast) (pc := 105) (lo' := [_, _, _, _, _, _, _]) dX7_atLeast_105 (LE rfl) (LE rfl) (Or.inr rfl) rfl ?_
                refine so_iinc (M := mX7_atLeast) (pc := 106) (lo' := [_, _, _, _, _, _, _]) dX7_atLeast_106 rfl ci_1 (LE rfl) rfl ?_
                refine wp_goto (M := mX7_atLeast) (pc := 109) (tgt := 5) dX7_atLeast_109 rfl ?_
                rw [show nI i + 1 = nI (i + 1) from nI_1 i]
                have hz := fun y z => ih (i + 1) y z (by omega) (by omega)
                first
                | exact absurd t42 (by decide)
                | exact absurd rfl t42
                | exact absurd f42 (by decide)
                | exact absurd t46 (by decide)
                | exact absurd rfl f46
                | exact absurd t88 (by decide)
                | exact absurd rfl f88
                | (rw [osm_no (gw_n1 o1 t33)] at hz; rw [Int32.add_zero]; exact hz _ _)
                | (rw [osm_no (gw_n2 o2 t59)] at hz; rw [Int32.add_zero]; exact hz _ _)
                | (rw [osm_ye (gw_y o1 f33 o2 f59 o5)] at hz; rw [o3]; exact hz _ _)
                | fail "leaf"
            · refine wp_iconst (M := mX7_atLeast) (pc := 78) (v := 1) dX7_atLeast_78 ci_1 ?_
              refine wp_goto (M := mX7_atLeast) (pc := 79) (tgt := 83) dX7_atLeast_79 rfl ?_
              refine so_istore (M := mX7_atLeast) (pc := 83) (lo' := [_, _, _, _, _, _, _]) dX7_atLeast_83 (LE rfl) (LE rfl) (Or.inr rfl) rfl ?_
              refine wp_iload_n (M := mX7_atLeast) (pc := 85) dX7_atLeast_85 rfl ?_
              refine wp_iload (M := mX7_atLeast) (pc := 86) dX7_atLeast_86 rfl ?_
              refine wp_if_eq (M := mX7_atLeast) (pc := 88) (tgt := 103) dX7_atLeast_88 rfl (fun t88 => ?_) (fun f88 => ?_)
              · refine wp_iconst (M := mX7_atLeast) (pc := 103) (v := 0) dX7_atLeast_103 ci_0 ?_
                refine wp_iadd (M := mX7_atLeast) (pc := 104) dX7_atLeast_104 ?_
                refine so_istore_n (M := mX7_atLeast) (pc := 105) (lo' := [_, _, _, _, _, _, _]) dX7_atLeast_105 (LE rfl) (LE rfl) (Or.inr rfl) rfl ?_
                refine so_iinc (M := mX7_atLeast) (pc := 106) (lo' := [_, _, _, _, _, _, _]) dX7_atLeast_106 rfl ci_1 (LE rfl) rfl ?_
                refine wp_goto (M := mX7_atLeast) (pc := 109) (tgt := 5) dX7_atLeast_109 rfl ?_
                rw [show nI i + 1 = nI (i + 1) from nI_1 i]
                have hz := fun y z => ih (i + 1) y z (by omega) (by omega)
                first
                | exact absurd t42 (by decide)
                | exact absurd rfl t42
                | exact absurd f42 (by decide)
                | exact absurd t46 (by decide)
                | exact absurd rfl f46
                | exact absurd t88 (by decide)
                | exact absurd rfl f88
                | (rw [osm_no (gw_n1 o1 t33)] at hz; rw [Int32.add_zero]; exact hz _ _)
                | (rw [osm_no (gw_n2 o2 t59)] at hz; rw [Int32.add_zero]; exact hz _ _)
                | (rw [osm_ye (gw_y o1 f33 o2 f59 o5)] at hz; rw [o3]; exact hz _ _)
                | fail "leaf"
              · refine wp_aload_n (M := mX7_atLeast) (pc := 91) dX7_atLeast_91 rfl ?_
                refine wp_getR (M := mX7_atLeast) (pc := 92) fa_X7_7 rfl dX7_atLeast_92 (by first | exact Hm.k | exact Hm.a rfl | fail "kd") (Hm.r rfl) ?_
                refine wp_iload (M := mX7_atLeast) (pc := 95) dX7_atLeast_95 rfl ?_
                refine wp_iconst (M := mX7_atLeast) (pc := 97) (v := 3) dX7_atLeast_97 ci_3 ?_
                refine wp_iadd (M := mX7_atLeast) (pc := 98) dX7_atLeast_98 ?_
                refine wr_iaload (M := mX7_atLeast) (pc := 99) dX7_atLeast_99 (by first | exact Hm.k | exact Hm.a rfl | fail "kd") (ia rfl (show (3 : Int32) = nI 3 from rfl)) (by omega) (by decide) ?_
                refine wp_goto (M := mX7_atLeast) (pc := 100) (tgt := 104) dX7_atLeast_100 rfl ?_
                refine wp_iadd (M := mX7_atLeast) (pc := 104) dX7_atLeast_104 ?_
                refine so_istore_n (M := mX7_atLeast) (pc := 105) (lo' := [_, _, _, _, _, _, _]) dX7_atLeast_105 (LE rfl) (LE rfl) (Or.inr rfl) rfl ?_
                refine so_iinc (M := mX7_atLeast) (pc := 106) (lo' := [_, _, _, _, _, _, _]) dX7_atLeast_106 rfl ci_1 (LE rfl) rfl ?_
                refine wp_goto (M := mX7_atLeast) (pc := 109) (tgt := 5) dX7_atLeast_109 rfl ?_
                rw [show nI i + 1 = nI (i + 1) from nI_1 i]
                have hz := fun y z => ih (i + 1) y z (by omega) (by omega)
                first
                | exact absurd t42 (by decide)
                | exact absurd rfl t42
                | exact absurd f42 (by decide)
                | exact absurd t46 (by decide)
                | exact absurd rfl f46
                | exact absurd t88 (by decide)
                | exact absurd rfl f88
                | (rw [osm_no (gw_n1 o1 t33)] at hz; rw [Int32.add_zero]; exact hz _ _)
                | (rw [osm_no (gw_n2 o2 t59)] at hz; rw [Int32.add_zero]; exact hz _ _)
                | (rw [osm_ye (gw_y o1 f33 o2 f59 o5)] at hz; rw [o3]; exact hz _ _)
                | fail "leaf"
          · refine wp_aload_n (M := mX7_atLeast) (pc := 49) dX7_atLeast_49 rfl ?_
            refine wp_getR (M := mX7_atLeast) (pc := 50) fa_X7_7 rfl dX7_atLeast_50 (by first | exact Hm.k | exact Hm.a rfl | fail "kd") (Hm.r rfl) ?_
            refine wp_iload (M := mX7_atLeast) (pc := 53) dX7_atLeast_53 rfl ?_
            refine wp_iconst (M := mX7_atLeast) (pc := 55) (v := 2) dX7_atLeast_55 ci_2 ?_
            refine wp_iadd (M := mX7_atLeast) (pc := 56) dX7_atLeast_56 ?_
            refine wr_iaload (M := mX7_atLeast) (pc := 57) dX7_atLeast_57 (by first | exact Hm.k | exact Hm.a rfl | fail "kd") (ia rfl (show (2 : Int32) = nI 2 from rfl)) (by omega) (by decide) ?_
            refine wp_iload_n (M := mX7_atLeast) (pc := 58) dX7_atLeast_58 rfl ?_
            refine wp_icmp_lt (M := mX7_atLeast) (pc := 59) (tgt := 82) dX7_atLeast_59 rfl (fun t59 => ?_) (fun f59 => ?_)
            · refine wp_iconst (M := mX7_atLeast) (pc := 82) (v := 0) dX7_atLeast_82 ci_0 ?_
              refine so_istore (M := mX7_atLeast) (pc := 83) (lo' := [_, _, _, _, _, _, _]) dX7_atLeast_83 (LE rfl) (LE rfl) (Or.inr rfl) rfl ?_
              refine wp_iload_n (M := mX7_atLeast) (pc := 85) dX7_atLeast_85 rfl ?_
              refine wp_iload (M := mX7_atLeast) (pc := 86) dX7_atLeast_86 rfl ?_
              refine wp_if_eq (M := mX7_atLeast) (pc := 88) (tgt := 103) dX7_atLeast_88 rfl (fun t88 => ?_) (fun f88 => ?_)
              · refine wp_iconst (M := mX7_atLeast) (pc := 103) (v := 0) dX7_atLeast_103 ci_0 ?_
                refine wp_iadd (M := mX7_atLeast) (pc := 104) dX7_atLeast_104 ?_
                refine so_istore_n (M := mX7_atLeast) (pc := 105) (lo' := [_, _, _, _, _, _, _]) dX7_atLeast_105 (LE rfl) (LE rfl) (Or.inr rfl) rfl ?_
                refine so_iinc (M := mX7_atLeast) (pc := 106) (lo' := [_, _, _, _, _, _, _]) dX7_atLeast_106 rfl ci_1 (LE rfl) rfl ?_
                refine wp_goto (M := mX7_atLeast) (pc := 109) (tgt := 5) dX7_atLeast_109 rfl ?_
                rw [show nI i + 1 = nI (i + 1) from nI_1 i]
                have hz := fun y z => ih (i + 1) y z (by omega) (by omega)
                first
                | exact absurd t42 (by decide)
                | exact absurd rfl t42
                | exact absurd f42 (by decide)
                | exact absurd t46 (by decide)
                | exact absurd rfl f46
                | exact absurd t88 (by decide)
                | exact absurd rfl f88
                | (rw [osm_no (gw_n1 o1 t33)] at hz; rw [Int32.add_zero]; exact hz _ _)
                | (rw [osm_no (gw_n2 o2 t59)] at hz; rw [Int32.add_zero]; exact hz _ _)
                | (rw [osm_ye (gw_y o1 f33 o2 f59 o5)] at hz; rw [o3]; exact hz _ _)
                | fail "leaf"
              · refine wp_aload_n (M := mX7_atLeast) (pc := 91) dX7_atLeast_91 rfl ?_
                refine wp_getR (M := mX7_atLeast) (pc := 92) fa_X7_7 rfl dX7_atLeast_92 (by first | exact Hm.k | exact Hm.a rfl | fail "kd") (Hm.r rfl) ?_
                refine wp_iload (M := mX7_atLeast) (pc := 95) dX7_atLeast_95 rfl ?_
                refine wp_iconst (M := mX7_atLeast) (pc := 97) (v := 3) dX7_atLeast_97 ci_3 ?_
                refine wp_iadd (M := mX7_atLeast) (pc := 98) dX7_atLeast_98 ?_
                refine wr_iaload (M := mX7_atLeast) (pc := 99) dX7_atLeast_99 (by first | exact Hm.k | exact Hm.a rfl | fail "kd") (ia rfl (show (3 : Int32) = nI 3 from rfl)) (by omega) (by decide) ?_
                refine wp_goto (M := mX7_atLeast) (pc := 100) (tgt := 104) dX7_atLeast_100 rfl ?_
                refine wp_iadd (M := mX7_atLeast) (pc := 104) dX7_atLeast_104 ?_
                refine so_istore_n (M := mX7_atLeast) (pc := 105) (lo' := [_, _, _, _, _, _, _]) dX7_atLeast_105 (LE rfl) (LE rfl) (Or.inr rfl) rfl ?_
                refine so_iinc (M := mX7_atLeast) (pc := 106) (lo' := [_, _, _, _, _, _, _]) dX7_atLeast_106 rfl ci_1 (LE rfl) rfl ?_
                refine wp_goto (M := mX7_atLeast) (pc := 109) (tgt := 5) dX7_atLeast_109 rfl ?_
                rw [show nI i + 1 = nI (i + 1) from nI_1 i]
                have hz := fun y z => ih (i + 1) y z (by omega) (by omega)
                first
                | exact absurd t42 (by decide)
                | exact absurd rfl t42
                | exact absurd f42 (by decide)
                | exact absurd t46 (by decide)
                | exact absurd rfl f46
                | exact absurd t88 (by decide)
                | exact absurd rfl f88
                | (rw [osm_no (gw_n1 o1 t33)] at hz; rw [Int32.add_zero]; exact hz _ _)
                | (rw [osm_no (gw_n2 o2 t59)] at hz; rw [Int32.add_zero]; exact hz _ _)
                | (rw [osm_ye (gw_y o1 f33 o2 f59 o5)] at hz; rw [o3]; exact hz _ _)
                | fail "leaf"
            · refine wp_goto (M := mX7_atLeast) (pc := 62) (tgt := 78) dX7_atLeast_62 rfl ?_
              refine wp_iconst (M := mX7_atLeast) (pc := 78) (v := 1) dX7_atLeast_78 ci_1 ?_
              refine wp_goto (M := mX7_atLeast) (pc := 79) (tgt := 83) dX7_atLeast_79 rfl ?_
              refine so_istore (M := mX7_atLeast) (pc := 83) (lo' := [_, _, _, _, _, _, _]) dX7_atLeast_83 (LE rfl) (LE rfl) (Or.inr rfl) rfl ?_
              refine wp_iload_n (M := mX7_atLeast) (pc := 85) dX7_atLeast_85 rfl ?_
              refine wp_iload (M := mX7_atLeast) (pc := 86) dX7_atLeast_86 rfl ?_
              refine wp_if_eq (M := mX7_atLeast) (pc := 88) (tgt := 103) dX7_atLeast_88 rfl (fun t88 => ?_) (fun f88 => ?_)
              · refine wp_iconst (M := mX7_atLeast) (pc := 103) (v := 0) dX7_atLeast_103 ci_0 ?_
                refine wp_iadd (M := mX7_atLeast) (pc := 104) dX7_atLeast_104 ?_
                refine so_istore_n (M := mX7_atLeast) (pc := 105) (lo' := [_, _, _, _, _, _, _]) dX7_atLeast_105 (LE rfl) (LE rfl) (Or.inr rfl) rfl ?_
                refine so_iinc (M := mX7_atLeast) (pc := 106) (lo' := [_, _, _, _, _, _, _]) dX7_atLeast_106 rfl ci_1 (LE rfl) rfl ?_
                refine wp_goto (M := mX7_atLeast) (pc := 109) (tgt := 5) dX7_atLeast_109 rfl ?_
                rw [show nI i + 1 = nI (i + 1) from nI_1 i]
                have hz := fun y z => ih (i + 1) y z (by omega) (by omega)
                first
                | exact absurd t42 (by decide)
                | exact absurd rfl t42
                | exact absurd f42 (by decide)
                | exact absurd t46 (by decide)
                | exact absurd rfl f46
                | exact absurd t88 (by decide)
                | exact absurd rfl f88
                | (rw [osm_no (gw_n1 o1 t33)] at hz; rw [Int32.add_zero]; exact hz _ _)
                | (rw [osm_no (gw_n2 o2 t59)] at hz; rw [Int32.add_zero]; exact hz _ _)
                | (rw [osm_ye (gw_y o1 f33 o2 f59 o5)] at hz; rw [o3]; exact hz _ _)
                | fail "leaf"
              · refine wp_aload_n (M := mX7_atLeast) (pc := 91) dX7_atLeast_91 rfl ?_
                refine wp_getR (M := mX7_atLeast) (pc := 92) fa_X7_7 rfl dX7_atLeast_92 (by first | exact Hm.k | exact Hm.a rfl | fail "kd") (Hm.r rfl) ?_
                refine wp_iload (M := mX7_atLeast) (pc := 95) dX7_atLeast_95 rfl ?_
                refine wp_iconst (M := mX7_atLeast) (pc := 97) (v := 3) dX7_atLeast_97 ci_3 ?_
                refine wp_iadd (M := mX7_atLeast) (pc := 98) dX7_atLeast_98 ?_
                refine wr_iaload (M := mX7_atLeast) (pc := 99) dX7_atLeast_99 (by first | exact Hm.k | exact Hm.a rfl | fail "kd") (ia rfl (show (3 : Int32) = nI 3 from rfl)) (by omega) (by decide) ?_
                refine wp_goto (M := mX7_atLeast) (pc := 100) (tgt := 104) dX7_atLeast_100 rfl ?_
                refine wp_iadd (M := mX7_atLeast) (pc := 104) dX7_atLeast_104 ?_
                refine so_istore_n (M := mX7_atLeast) (pc := 105) (lo' := [_, _, _, _, _, _, _]) dX7_atLeast_105 (LE rfl) (LE rfl) (Or.inr rfl) rfl ?_
                refine so_iinc (M := mX7_atLeast) (pc := 106) (lo' := [_, _, _, _, _, _, _]) dX7_atLeast_106 rfl ci_1 (LE rfl) rfl ?_
                refine wp_goto (M := mX7_atLeast) (pc := 109) (tgt := 5) dX7_atLeast_109 rfl ?_
                rw [show nI i + 1 = nI (i + 1) from nI_1 i]
                have hz := fun y z => ih (i + 1) y z (by omega) (by omega)
                first
                | exact absurd t42 (by decide)
                | exact absurd rfl t42
                | exact absurd f42 (by decide)
                | exact absurd t46 (by decide)
                | exact absurd rfl f46
                | exact absurd t88 (by decide)
                | exact absurd rfl f88
                | (rw [osm_no (gw_n1 o1 t33)] at hz; rw [Int32.add_zero]; exact hz _ _)
                | (rw [osm_no (gw_n2 o2 t59)] at hz; rw [Int32.add_zero]; exact hz _ _)
                | (rw [osm_ye (gw_y o1 f33 o2 f59 o5)] at hz; rw [o3]; exact hz _ _)
                | fail "leaf"
      · refine wp_iconst (M := mX7_atLeast) (pc := 36) (v := 1) dX7_atLeast_36 ci_1 ?_
        refine wp_goto (M := mX7_atLeast) (pc := 37) (tgt := 41) dX7_atLeast_37 rfl ?_
        refine wp_iload_n (M := mX7_atLeast) (pc := 41) dX7_atLeast_41 rfl ?_
        refine wp_icmp_ne (M := mX7_atLeast) (pc := 42) (tgt := 82) dX7_atLeast_42 rfl (fun t42 => ?_) (fun f42 => ?_)
        · refine wp_iconst (M := mX7_atLeast) (pc := 82) (v := 0) dX7_atLeast_82 ci_0 ?_
          refine so_istore (M := mX7_atLeast) (pc := 83) (lo' := [_, _, _, _, _, _, _]) dX7_atLeast_83 (LE rfl) (LE rfl) (Or.inr rfl) rfl ?_
          refine wp_iload_n (M := mX7_atLeast) (pc := 85) dX7_atLeast_85 rfl ?_
          refine wp_iload (M := mX7_atLeast) (pc := 86) dX7_atLeast_86 rfl ?_
          refine wp_if_eq (M := mX7_atLeast) (pc := 88) (tgt := 103) dX7_atLeast_88 rfl (fun t88 => ?_) (fun f88 => ?_)
          · refine wp_iconst (M := mX7_atLeast) (pc := 103) (v := 0) dX7_atLeast_103 ci_0 ?_
            refine wp_iadd (M := mX7_atLeast) (pc := 104) dX7_atLeast_104 ?_
            refine so_istore_n (M := mX7_atLeast) (pc := 105) (lo' := [_, _, _, _, _, _, _]) dX7_atLeast_105 (LE rfl) (LE rfl) (Or.inr rfl) rfl ?_
            refine so_iinc (M := mX7_atLeast) (pc := 106) (lo' := [_, _, _, _, _, _, _]) dX7_atLeast_106 rfl ci_1 (LE rfl) rfl ?_
            refine wp_goto (M := mX7_atLeast) (pc := 109) (tgt := 5) dX7_atLeast_109 rfl ?_
            rw [show nI i + 1 = nI (i + 1) from nI_1 i]
            have hz := fun y z => ih (i + 1) y z (by omega) (by omega)
            first
            | exact absurd t42 (by decide)
            | exact absurd rfl t42
            | exact absurd f42 (by decide)
            | exact absurd t46 (by decide)
            | exact absurd rfl f46
            | exact absurd t88 (by decide)
            | exact absurd rfl f88
            | (rw [osm_no (gw_n1 o1 t33)] at hz; rw [Int32.add_zero]; exact hz _ _)
            | (rw [osm_no (gw_n2 o2 t59)] at hz; rw [Int32.add_zero]; exact hz _ _)
            | (rw [osm_ye (gw_y o1 f33 o2 f59 o5)] at hz; rw [o3]; exact hz _ _)
            | fail "leaf"
          · refine wp_aload_n (M := mX7_atLeast) (pc := 91) dX7_atLeast_91 rfl ?_
            refine wp_getR (M := mX7_atLeast) (pc := 92) fa_X7_7 rfl dX7_atLeast_92 (by first | exact Hm.k | exact Hm.a rfl | fail "kd") (Hm.r rfl) ?_
            refine wp_iload (M := mX7_atLeast) (pc := 95) dX7_atLeast_95 rfl ?_
            refine wp_iconst (M := mX7_atLeast) (pc := 97) (v := 3) dX7_atLeast_97 ci_3 ?_
            refine wp_iadd (M := mX7_atLeast) (pc := 98) dX7_atLeast_98 ?_
            refine wr_iaload (M := mX7_atLeast) (pc := 99) dX7_atLeast_99 (by first | exact Hm.k | exact Hm.a rfl | fail "kd") (ia rfl (show (3 : Int32) = nI 3 from rfl)) (by omega) (by decide) ?_
            refine wp_goto (M := mX7_atLeast) (pc := 100) (tgt := 104) dX7_atLeast_100 rfl ?_
            refine wp_iadd (M := mX7_atLeast) (pc := 104) dX7_atLeast_104 ?_
            refine so_istore_n (M := mX7_atLeast) (pc := 105) (lo' := [_, _, _, _, _, _, _]) dX7_atLeast_105 (LE rfl) (LE rfl) (Or.inr rfl) rfl ?_
            refine so_iinc (M := mX7_atLeast) (pc := 106) (lo' := [_, _, _, _, _, _, _]) dX7_atLeast_106 rfl ci_1 (LE rfl) rfl ?_
            refine wp_goto (M := mX7_atLeast) (pc := 109) (tgt := 5) dX7_atLeast_109 rfl ?_
            rw [show nI i + 1 = nI (i + 1) from nI_1 i]
            have hz := fun y z => ih (i + 1) y z (by omega) (by omega)
            first
            | exact absurd t42 (by decide)
            | exact absurd rfl t42
            | exact absurd f42 (by decide)
            | exact absurd t46 (by decide)
            | exact absurd rfl f46
            | exact absurd t88 (by decide)
            | exact absurd rfl f88
            | (rw [osm_no (gw_n1 o1 t33)] at hz; rw [Int32.add_zero]; exact hz _ _)
            | (rw [osm_no (gw_n2 o2 t59)] at hz; rw [Int32.add_zero]; exact hz _ _)
            | (rw [osm_ye (gw_y o1 f33 o2 f59 o5)] at hz; rw [o3]; exact hz _ _)
            | fail "leaf"
        · refine wp_iload_n (M := mX7_atLeast) (pc := 45) dX7_atLeast_45 rfl ?_
          refine wp_if_eq (M := mX7_atLeast) (pc := 46) (tgt := 65) dX7_atLeast_46 rfl (fun t46 => ?_) (fun f46 => ?_)
          · refine wp_aload_n (M := mX7_atLeast) (pc := 65) dX7_atLeast_65 rfl ?_
            refine wp_getR (M := mX7_atLeast) (pc := 66) fa_X7_7 rfl dX7_atLeast_66 (by first | exact Hm.k | exact Hm.a rfl | fail "kd") (Hm.r rfl) ?_
            refine wp_iload (M := mX7_atLeast) (pc := 69) dX7_atLeast_69 rfl ?_
            refine wp_iconst (M := mX7_atLeast) (pc := 71) (v := 2) dX7_atLeast_71 ci_2 ?_
            refine wp_iadd (M := mX7_atLeast) (pc := 72) dX7_atLeast_72 ?_
            refine wr_iaload (M := mX7_atLeast) (pc := 73) dX7_atLeast_73 (by first | exact Hm.k | exact Hm.a rfl | fail "kd") (ia rfl (show (2 : Int32) = nI 2 from rfl)) (by omega) (by decide) ?_
            refine wp_iload_n (M := mX7_atLeast) (pc := 74) dX7_atLeast_74 rfl ?_
            refine wp_icmp_gt (M := mX7_atLeast) (pc := 75) (tgt := 82) dX7_atLeast_75 rfl (fun t75 => ?_) (fun f75 => ?_)
            · refine wp_iconst (M := mX7_atLeast) (pc := 82) (v := 0) dX7_atLeast_82 ci_0 ?_
              refine so_istore (M := mX7_atLeast) (pc := 83) (lo' := [_, _, _, _, _, _, _]) dX7_atLeast_83 (LE rfl) (LE rfl) (Or.inr rfl) rfl ?_
              refine wp_iload_n (M := mX7_atLeast) (pc := 85) dX7_atLeast_85 rfl ?_
              refine wp_iload (M := mX7_atLeast) (pc := 86) dX7_atLeast_86 rfl ?_
              refine wp_if_eq (M := mX7_atLeast) (pc := 88) (tgt := 103) dX7_atLeast_88 rfl (fun t88 => ?_) (fun f88 => ?_)
              · refine wp_iconst (M := mX7_atLeast) (pc := 103) (v := 0) dX7_atLeast_103 ci_0 ?_
                refine wp_iadd (M := mX7_atLeast) (pc := 104) dX7_atLeast_104 ?_
                refine so_istore_n (M := mX7_atLeast) (pc := 105) (lo' := [_, _, _, _, _, _, _]) dX7_atLeast_105 (LE rfl) (LE rfl) (Or.inr rfl) rfl ?_
                refine so_iinc (M := mX7_atLeast) (pc := 106) (lo' := [_, _, _, _, _, _, _]) dX7_atLeast_106 rfl ci_1 (LE rfl) rfl ?_
                refine wp_goto (M := mX7_atLeast) (pc := 109) (tgt := 5) dX7_atLeast_109 rfl ?_
                rw [show nI i + 1 = nI (i + 1) from nI_1 i]
                have hz := fun y z => ih (i + 1) y z (by omega) (by omega)
                first
                | exact absurd t42 (by decide)
                | exact absurd rfl t42
                | exact absurd f42 (by decide)
                | exact absurd t46 (by decide)
                | exact absurd rfl f46
                | exact absurd t88 (by decide)
                | exact absurd rfl f88
                | (rw [osm_no (gw_n1 o1 t33)] at hz; rw [Int32.add_zero]; exact hz _ _)
                | (rw [osm_no (gw_n2 o2 t59)] at hz; rw [Int32.add_zero]; exact hz _ _)
                | (rw [osm_ye (gw_y o1 f33 o2 f59 o5)] at hz; rw [o3]; exact hz _ _)
                | fail "leaf"
              · refine wp_aload_n (M := mX7_atLeast) (pc := 91) dX7_atLeast_91 rfl ?_
                refine wp_getR (M := mX7_atLeast) (pc := 92) fa_X7_7 rfl dX7_atLeast_92 (by first | exact Hm.k | exact Hm.a rfl | fail "kd") (Hm.r rfl) ?_
                refine wp_iload (M := mX7_atLeast) (pc := 95) dX7_atLeast_95 rfl ?_
                refine wp_iconst (M := mX7_atLeast) (pc := 97) (v := 3) dX7_atLeast_97 ci_3 ?_
                refine wp_iadd (M := mX7_atLeast) (pc := 98) dX7_atLeast_98 ?_
                refine wr_iaload (M := mX7_atLeast) (pc := 99) dX7_atLeast_99 (by first | exact Hm.k | exact Hm.a rfl | fail "kd") (ia rfl (show (3 : Int32) = nI 3 from rfl)) (by omega) (by decide) ?_
                refine wp_goto (M := mX7_atLeast) (pc := 100) (tgt := 104) dX7_atLeast_100 rfl ?_
                refine wp_iadd (M := mX7_atLeast) (pc := 104) dX7_atLeast_104 ?_
                refine so_istore_n (M := mX7_atLeast) (pc := 105) (lo' := [_, _, _, _, _, _, _]) dX7_atLeast_105 (LE rfl) (LE rfl) (Or.inr rfl) rfl ?_
                refine so_iinc (M := mX7_atLeast) (pc := 106) (lo' := [_, _, _, _, _, _, _]) dX7_atLeast_106 rfl ci_1 (LE rfl) rfl ?_
                refine wp_goto (M := mX7_atLeast) (pc := 109) (tgt := 5) dX7_atLeast_109 rfl ?_
                rw [show nI i + 1 = nI (i + 1) from nI_1 i]
                have hz := fun y z => ih (i + 1) y z (by omega) (by omega)
                first
                | exact absurd t42 (by decide)
                | exact absurd rfl t42
                | exact absurd f42 (by decide)
                | exact absurd t46 (by decide)
                | exact absurd rfl f46
                | exact absurd t88 (by decide)
                | exact absurd rfl f88
                | (rw [osm_no (gw_n1 o1 t33)] at hz; rw [Int32.add_zero]; exact hz _ _)
                | (rw [osm_no (gw_n2 o2 t59)] at hz; rw [Int32.add_zero]; exact hz _ _)
                | (rw [osm_ye (gw_y o1 f33 o2 f59 o5)] at hz; rw [o3]; exact hz _ _)
                | fail "leaf"
            · refine wp_iconst (M := mX7_atLeast) (pc := 78) (v := 1) dX7_atLeast_78 ci_1 ?_
              refine wp_goto (M := mX7_atLeast) (pc := 79) (tgt := 83) dX7_atLeast_79 rfl ?_
              refine so_istore (M := mX7_atLeast) (pc := 83) (lo' := [_, _, _, _, _, _, _]) dX7_atLeast_83 (LE rfl) (LE rfl) (Or.inr rfl) rfl ?_
              refine wp_iload_n (M := mX7_atLeast) (pc := 85) dX7_atLeast_85 rfl ?_
              refine wp_iload (M := mX7_atLeast) (pc := 86) dX7_atLeast_86 rfl ?_
              refine wp_if_eq (M := mX7_atLeast) (pc := 88) (tgt := 103) dX7_atLeast_88 rfl (fun t88 => ?_) (fun f88 => ?_)
              · refine wp_iconst (M := mX7_atLeast) (pc := 103) (v := 0) dX7_atLeast_103 ci_0 ?_
                refine wp_iadd (M := mX7_atLeast) (pc := 104) dX7_atLeast_104 ?_
                refine so_istore_n (M := mX7_atLeast) (pc := 105) (lo' := [_, _, _, _, _, _, _]) dX7_atLeast_105 (LE rfl) (LE rfl) (Or.inr rfl) rfl ?_
                refine so_iinc (M := mX7_atLeast) (pc := 106) (lo' := [_, _, _, _, _, _, _]) dX7_atLeast_106 rfl ci_1 (LE rfl) rfl ?_
                refine wp_goto (M := mX7_atLeast) (pc := 109) (tgt := 5) dX7_atLeast_109 rfl ?_
                rw [show nI i + 1 = nI (i + 1) from nI_1 i]
                have hz := fun y z => ih (i + 1) y z (by omega) (by omega)
                first
                | exact absurd t42 (by decide)
                | exact absurd rfl t42
                | exact absurd f42 (by decide)
                | exact absurd t46 (by decide)
                | exact absurd rfl f46
                | exact absurd t88 (by decide)
                | exact absurd rfl f88
                | (rw [osm_no (gw_n1 o1 t33)] at hz; rw [Int32.add_zero]; exact hz _ _)
                | (rw [osm_no (gw_n2 o2 t59)] at hz; rw [Int32.add_zero]; exact hz _ _)
                | (rw [osm_ye (gw_y o1 f33 o2 f59 o5)] at hz; rw [o3]; exact hz _ _)
                | fail "leaf"
              · refine wp_aload_n (M := mX7_atLeast) (pc := 91) dX7_atLeast_91 rfl ?_
                refine wp_getR (M := mX7_atLeast) (pc := 92) fa_X7_7 rfl dX7_atLeast_92 (by first | exact Hm.k | exact Hm.a rfl | fail "kd") (Hm.r rfl) ?_
                refine wp_iload (M := mX7_atLeast) (pc := 95) dX7_atLeast_95 rfl ?_
                refine wp_iconst (M := mX7_atLeast) (pc := 97) (v := 3) dX7_atLeast_97 ci_3 ?_
                refine wp_iadd (M := mX7_atLeast) (pc := 98) dX7_atLeast_98 ?_
                refine wr_iaload (M := mX7_atLeast) (pc := 99) dX7_atLeast_99 (by first | exact Hm.k | exact Hm.a rfl | fail "kd") (ia rfl (show (3 : Int32) = nI 3 from rfl)) (by omega) (by decide) ?_
                refine wp_goto (M := mX7_atLeast) (pc := 100) (tgt := 104) dX7_atLeast_100 rfl ?_
                refine wp_iadd (M := mX7_atLeast) (pc := 104) dX7_atLeast_104 ?_
                refine so_istore_n (M := mX7_atLeast) (pc := 105) (lo' := [_, _, _, _, _, _, _]) dX7_atLeast_105 (LE rfl) (LE rfl) (Or.inr rfl) rfl ?_
                refine so_iinc (M := mX7_atLeast) (pc := 106) (lo' := [_, _, _, _, _, _, _]) dX7_atLeast_106 rfl ci_1 (LE rfl) rfl ?_
                refine wp_goto (M := mX7_atLeast) (pc := 109) (tgt := 5) dX7_atLeast_109 rfl ?_
                rw [show nI i + 1 = nI (i + 1) from nI_1 i]
                have hz := fun y z => ih (i + 1) y z (by omega) (by omega)
                first
                | exact absurd t42 (by decide)
                | exact absurd rfl t42
                | exact absurd f42 (by decide)
                | exact absurd t46 (by decide)
                | exact absurd rfl f46
                | exact absurd t88 (by decide)
                | exact absurd rfl f88
                | (rw [osm_no (gw_n1 o1 t33)] at hz; rw [Int32.add_zero]; exact hz _ _)
                | (rw [osm_no (gw_n2 o2 t59)] at hz; rw [Int32.add_zero]; exact hz _ _)
                | (rw [osm_ye (gw_y o1 f33 o2 f59 o5)] at hz; rw [o3]; exact hz _ _)
                | fail "leaf"
          · refine wp_aload_n (M := mX7_atLeast) (pc := 49) dX7_atLeast_49 rfl ?_
            refine wp_getR (M := mX7_atLeast) (pc := 50) fa_X7_7 rfl dX7_atLeast_50 (by first | exact Hm.k | exact Hm.a rfl | fail "kd") (Hm.r rfl) ?_
            refine wp_iload (M := mX7_atLeast) (pc := 53) dX7_atLeast_53 rfl ?_
            refine wp_iconst (M := mX7_atLeast) (pc := 55) (v := 2) dX7_atLeast_55 ci_2 ?_
            refine wp_iadd (M := mX7_atLeast) (pc := 56) dX7_atLeast_56 ?_
            refine wr_iaload (M := mX7_atLeast) (pc := 57) dX7_atLeast_57 (by first | exact Hm.k | exact Hm.a rfl | fail "kd") (ia rfl (show (2 : Int32) = nI 2 from rfl)) (by omega) (by decide) ?_
            refine wp_iload_n (M := mX7_atLeast) (pc := 58) dX7_atLeast_58 rfl ?_
            refine wp_icmp_lt (M := mX7_atLeast) (pc := 59) (tgt := 82) dX7_atLeast_59 rfl (fun t59 => ?_) (fun f59 => ?_)
            · refine wp_iconst (M := mX7_atLeast) (pc := 82) (v := 0) dX7_atLeast_82 ci_0 ?_
              refine so_istore (M := mX7_atLeast) (pc := 83) (lo' := [_, _, _, _, _, _, _]) dX7_atLeast_83 (LE rfl) (LE rfl) (Or.inr rfl) rfl ?_
              refine wp_iload_n (M := mX7_atLeast) (pc := 85) dX7_atLeast_85 rfl ?_
              refine wp_iload (M := mX7_atLeast) (pc := 86) dX7_atLeast_86 rfl ?_
              refine wp_if_eq (M := mX7_atLeast) (pc := 88) (tgt := 103) dX7_atLeast_88 rfl (fun t88 => ?_) (fun f88 => ?_)
              · refine wp_iconst (M := mX7_atLeast) (pc := 103) (v := 0) dX7_atLeast_103 ci_0 ?_
                refine wp_iadd (M := mX7_atLeast) (pc := 104) dX7_atLeast_104 ?_
                refine so_istore_n (M := mX7_atLeast) (pc := 105) (lo' := [_, _, _, _, _, _, _]) dX7_atLeast_105 (LE rfl) (LE rfl) (Or.inr rfl) rfl ?_
                refine so_iinc (M := mX7_atLeast) (pc := 106) (lo' := [_, _, _, _, _, _, _]) dX7_atLeast_106 rfl ci_1 (LE rfl) rfl ?_
                refine wp_goto (M := mX7_atLeast) (pc := 109) (tgt := 5) dX7_atLeast_109 rfl ?_
                rw [show nI i + 1 = nI (i + 1) from nI_1 i]
                have hz := fun y z => ih (i + 1) y z (by omega) (by omega)
                first
                | exact absurd t42 (by decide)
                | exact absurd rfl t42
                | exact absurd f42 (by decide)
                | exact absurd t46 (by decide)
                | exact absurd rfl f46
                | exact absurd t88 (by decide)
                | exact absurd rfl f88
                | (rw [osm_no (gw_n1 o1 t33)] at hz; rw [Int32.add_zero]; exact hz _ _)
                | (rw [osm_no (gw_n2 o2 t59)] at hz; rw [Int32.add_zero]; exact hz _ _)
                | (rw [osm_ye (gw_y o1 f33 o2 f59 o5)] at hz; rw [o3]; exact hz _ _)
                | fail "leaf"
              · refine wp_aload_n (M := mX7_atLeast) (pc := 91) dX7_atLeast_91 rfl ?_
                refine wp_getR (M := mX7_atLeast) (pc := 92) fa_X7_7 rfl dX7_atLeast_92 (by first | exact Hm.k | exact Hm.a rfl | fail "kd") (Hm.r rfl) ?_
                refine wp_iload (M := mX7_atLeast) (pc := 95) dX7_atLeast_95 rfl ?_
                refine wp_iconst (M := mX7_atLeast) (pc := 97) (v := 3) dX7_atLeast_97 ci_3 ?_
                refine wp_iadd (M := mX7_atLeast) (pc := 98) dX7_atLeast_98 ?_
                refine wr_iaload (M := mX7_atLeast) (pc := 99) dX7_atLeast_99 (by first | exact Hm.k | exact Hm.a rfl | fail "kd") (ia rfl (show (3 : Int32) = nI 3 from rfl)) (by omega) (by decide) ?_
                refine wp_goto (M := mX7_atLeast) (pc := 100) (tgt := 104) dX7_atLeast_100 rfl ?_
                refine wp_iadd (M := mX7_atLeast) (pc := 104) dX7_atLeast_104 ?_
                refine so_istore_n (M := mX7_atLeast) (pc := 105) (lo' := [_, _, _, _, _, _, _]) dX7_atLeast_105 (LE rfl) (LE rfl) (Or.inr rfl) rfl ?_
                refine so_iinc (M := mX7_atLeast) (pc := 106) (lo' := [_, _, _, _, _, _, _]) dX7_atLeast_106 rfl ci_1 (LE rfl) rfl ?_
                refine wp_goto (M := mX7_atLeast) (pc := 109) (tgt := 5) dX7_atLeast_109 rfl ?_
                rw [show nI i + 1 = nI (i + 1) from nI_1 i]
                have hz := fun y z => ih (i + 1) y z (by omega) (by omega)
                first
                | exact absurd t42 (by decide)
                | exact absurd rfl t42
                | exact absurd f42 (by decide)
                | exact absurd t46 (by decide)
                | exact absurd rfl f46
                | exact absurd t88 (by decide)
                | exact absurd rfl f88
                | (rw [osm_no (gw_n1 o1 t33)] at hz; rw [Int32.add_zero]; exact hz _ _)
                | (rw [osm_no (gw_n2 o2 t59)] at hz; rw [Int32.add_zero]; exact hz _ _)
                | (rw [osm_ye (gw_y o1 f33 o2 f59 o5)] at hz; rw [o3]; exact hz _ _)
                | fail "leaf"
            · refine wp_goto (M := mX7_atLeast) (pc := 62) (tgt := 78) dX7_atLeast_62 rfl ?_
              refine wp_iconst (M := mX7_atLeast) (pc := 78) (v := 1) dX7_atLeast_78 ci_1 ?_
              refine wp_goto (M := mX7_atLeast) (pc := 79) (tgt := 83) dX7_atLeast_79 rfl ?_
              refine so_istore (M := mX7_atLeast) (pc := 83) (lo' := [_, _, _, _, _, _, _]) dX7_atLeast_83 (LE rfl) (LE rfl) (Or.inr rfl) rfl ?_
              refine wp_iload_n (M := mX7_atLeast) (pc := 85) dX7_atLeast_85 rfl ?_
              refine wp_iload (M := mX7_atLeast) (pc := 86) dX7_atLeast_86 rfl ?_
              refine wp_if_eq (M := mX7_atLeast) (pc := 88) (tgt := 103) dX7_atLeast_88 rfl (fun t88 => ?_) (fun f88 => ?_)
              · refine wp_iconst (M := mX7_atLeast) (pc := 103) (v := 0) dX7_atLeast_103 ci_0 ?_
                refine wp_iadd (M := mX7_atLeast) (pc := 104) dX7_atLeast_104 ?_
                refine so_istore_n (M := mX7_atLeast) (pc := 105) (lo' := [_, _, _, _, _, _, _]) dX7_atLeast_105 (LE rfl) (LE rfl) (Or.inr rfl) rfl ?_
                refine so_iinc (M := mX7_atLeast) (pc := 106) (lo' := [_, _, _, _, _, _, _]) dX7_atLeast_106 rfl ci_1 (LE rfl) rfl ?_
                refine wp_goto (M := mX7_atLeast) (pc := 109) (tgt := 5) dX7_atLeast_109 rfl ?_
                rw [show nI i + 1 = nI (i + 1) from nI_1 i]
                have hz := fun y z => ih (i + 1) y z (by omega) (by omega)
                first
                | exact absurd t42 (by decide)
                | exact absurd rfl t42
                | exact absurd f42 (by decide)
                | exact absurd t46 (by decide)
                | exact absurd rfl f46
                | exact absurd t88 (by decide)
                | exact absurd rfl f88
                | (rw [osm_no (gw_n1 o1 t33)] at hz; rw [Int32.add_zero]; exact hz _ _)
                | (rw [osm_no (gw_n2 o2 t59)] at hz; rw [Int32.add_zero]; exact hz _ _)
                | (rw [osm_ye (gw_y o1 f33 o2 f59 o5)] at hz; rw [o3]; exact hz _ _)
                | fail "leaf"
              · refine wp_aload_n (M := mX7_atLeast) (pc := 91) dX7_atLeast_91 rfl ?_
                refine wp_getR (M := mX7_atLeast) (pc := 92) fa_X7_7 rfl dX7_atLeast_92 (by first | exact Hm.k | exact Hm.a rfl | fail "kd") (Hm.r rfl) ?_
                refine wp_iload (M := mX7_atLeast) (pc := 95) dX7_atLeast_95 rfl ?_
                refine wp_iconst (M := mX7_atLeast) (pc := 97) (v := 3) dX7_atLeast_97 ci_3 ?_
                refine wp_iadd (M := mX7_atLeast) (pc := 98) dX7_atLeast_98 ?_
                refine wr_iaload (M := mX7_atLeast) (pc := 99) dX7_atLeast_99 (by first | exact Hm.k | exact Hm.a rfl | fail "kd") (ia rfl (show (3 : Int32) = nI 3 from rfl)) (by omega) (by decide) ?_
                refine wp_goto (M := mX7_atLeast) (pc := 100) (tgt := 104) dX7_atLeast_100 rfl ?_
                refine wp_iadd (M := mX7_atLeast) (pc := 104) dX7_atLeast_104 ?_
                refine so_istore_n (M := mX7_atLeast) (pc := 105) (lo' := [_, _, _, _, _, _, _]) dX7_atLeast_105 (LE rfl) (LE rfl) (Or.inr rfl) rfl ?_
                refine so_iinc (M := mX7_atLeast) (pc := 106) (lo' := [_, _, _, _, _, _, _]) dX7_atLeast_106 rfl ci_1 (LE rfl) rfl ?_
                refine wp_goto (M := mX7_atLeast) (pc := 109) (tgt := 5) dX7_atLeast_109 rfl ?_
                rw [show nI i + 1 = nI (i + 1) from nI_1 i]
                have hz := fun y z => ih (i + 1) y z (by omega) (by omega)
                first
                | exact absurd t42 (by decide)
                | exact absurd rfl t42
                | exact absurd f42 (by decide)
                | exact absurd t46 (by decide)
                | exact absurd rfl f46
                | exact absurd t88 (by decide)
                | exact absurd rfl f88
                | (rw [osm_no (gw_n1 o1 t33)] at hz; rw [Int32.add_zero]; exact hz _ _)
                | (rw [osm_no (gw_n2 o2 t59)] at hz; rw [Int32.add_zero]; exact hz _ _)
                | (rw [osm_ye (gw_y o1 f33 o2 f59 o5)] at hz; rw [o3]; exact hz _ _)
                | fail "leaf"
set_option maxHeartbeats 4000000 in
set_option maxRecDepth 100000 in
theorem sp_X7_atLeast1 {me : Nat} {ad : Nat → Nat} {A : Sta} {p : Int32} (Hm : MoL h me ad) (hR : RepR (gi h (ad 1)) A) (k : Q (.inl (some (.int (osm (gw p) A (sO A).length)))) h) : WPx E mX7_atLeast 0 [some (.ref me), some (.int 1), some (.int p), none, none, none, none] [] (0, 0) h Q := by
  refine wp_iconst (M := mX7_atLeast) (pc := 0) (v := 0) dX7_atLeast_0 ci_0 ?_
  refine so_istore_n (M := mX7_atLeast) (pc := 1) (lo' := [_, _, _, _, _, _, _]) dX7_atLeast_1 (LE rfl) (LE rfl) (Or.inr rfl) rfl ?_
  refine wp_iconst (M := mX7_atLeast) (pc := 2) (v := 0) dX7_atLeast_2 ci_0 ?_
  refine so_istore (M := mX7_atLeast) (pc := 3) (lo' := [_, _, _, _, _, _, _]) dX7_atLeast_3 (LE rfl) (LE rfl) (Or.inr rfl) rfl ?_
  exact lp_X7_atLeast1 Hm hR k ((sO A).length + 1) 0 none none (by omega) (by omega)
set_option maxHeartbeats 4000000 in
set_option maxRecDepth 100000 in
theorem lp_X7_atLeast0 {me : Nat} {ad : Nat → Nat} {A : Sta} {p : Int32} (Hm : MoL h me ad) (hR : RepR (gi h (ad 1)) A) (k : Q (.inl (some (.int (osm (gf p) A (sO A).length)))) h) : ∀ (m : Nat) (i : Nat) (x5 : Option Value) (x6 : Option Value), (sO A).length - i < m → (i ≤ (sO A).length) → WPx E mX7_atLeast 5 [some (.ref me), some (.int 0), some (.int p), some (.int (osm (gf p) A i)), some (.int (nI i)), x5, x6] [] (0, 0) h Q := by
  intro m
  induction m with
  | zero => intro i x5 x6 hm; exact absurd hm (Nat.not_lt_zero _)
  | succ m ih =>
    intro i x5 x6 hm hi
    have n6 := hR.n6
    have n12 := hR.n12
    refine wp_iload (M := mX7_atLeast) (pc := 5) dX7_atLeast_5 rfl ?_
    refine wp_aload_n (M := mX7_atLeast) (pc := 7) dX7_atLeast_7 rfl ?_
    refine wp_getR (M := mX7_atLeast) (pc := 8) fa_X7_7 rfl dX7_atLeast_8 (by first | exact Hm.k | exact Hm.a rfl | fail "kd") (Hm.r rfl) ?_
    refine wp_bipush (M := mX7_atLeast) (pc := 11) (v := 8) dX7_atLeast_11 cb_8 ?_
    refine wr_iaload (M := mX7_atLeast) (pc := 13) dX7_atLeast_13 (by first | exact Hm.k | exact Hm.a rfl | fail "kd") (show (8 : Int32) = nI 8 from rfl) (by omega) (by decide) ?_
    refine wp_icmp_ge (M := mX7_atLeast) (pc := 14) (tgt := 112) dX7_atLeast_14 rfl (fun t14 => ?_) (fun f14 => ?_)
    · rw [hR.f8] at t14
      have hi2 := n_ge hi (by omega) t14
      subst hi2
      refine wp_iload_n (M := mX7_atLeast) (pc := 112) dX7_atLeast_112 rfl ?_
      refine wp_ireturn (M := mX7_atLeast) (pc := 113) rfl dX7_atLeast_113 ?_
      exact k
    · rw [hR.f8] at f14
      have hlt := n_lt hi (by omega) f14
      obtain ⟨⟨o0, o1, o2, o3⟩, o4, o5⟩ := hR.o hlt
      refine wp_iload (M := mX7_atLeast) (pc := 17) dX7_atLeast_17 rfl ?_
      refine so_S1 (M := mX7_atLeast) (pc := 19) cs_X7_atLeast_119 rfl rfl (LE rfl) (LE rfl) dX7_atLeast_19 ?_
      refine sp_X7_orderAt ?_
      refine kI ?_
      refine so_istore (M := mX7_atLeast) (pc := 22) (lo' := [_, _, _, _, _, _, _]) dX7_atLeast_22 (LE rfl) (LE rfl) (Or.inr rfl) rfl ?_
      refine wp_aload_n (M := mX7_atLeast) (pc := 24) dX7_atLeast_24 rfl ?_
      refine wp_getR (M := mX7_atLeast) (pc := 25) fa_X7_7 rfl dX7_atLeast_25 (by first | exact Hm.k | exact Hm.a rfl | fail "kd") (Hm.r rfl) ?_
      refine wp_iload (M := mX7_atLeast) (pc := 28) dX7_atLeast_28 rfl ?_
      refine wp_iconst (M := mX7_atLeast) (pc := 30) (v := 1) dX7_atLeast_30 ci_1 ?_
      refine wp_iadd (M := mX7_atLeast) (pc := 31) dX7_atLeast_31 ?_
      refine wr_iaload (M := mX7_atLeast) (pc := 32) dX7_atLeast_32 (by first | exact Hm.k | exact Hm.a rfl | fail "kd") (ia rfl (show (1 : Int32) = nI 1 from rfl)) (by omega) (by decide) ?_
      refine wp_if_ne (M := mX7_atLeast) (pc := 33) (tgt := 40) dX7_atLeast_33 rfl (fun t33 => ?_) (fun f33 => ?_)
      · refine wp_iconst (M := mX7_atLeast) (pc := 40) (v := 0) dX7_atLeast_40 ci_0 ?_
        refine wp_iload_n (M := mX7_atLeast) (pc := 41) dX7_atLeast_41 rfl ?_
        refine wp_icmp_ne (M := mX7_atLeast) (pc := 42) (tgt := 82) dX7_atLeast_42 rfl (fun t42 => ?_) (fun f42 => ?_)
        · refine wp_iconst (M := mX7_atLeast) (pc := 82) (v := 0) dX7_atLeast_82 ci_0 ?_
          refine so_istore (M := mX7_atLeast) (pc := 83) (lo' := [_, _, _, _, _, _, _]) dX7_atLeast_83 (LE rfl) (LE rfl) (Or.inr rfl) rfl ?_
          refine wp_iload_n (M := mX7_atLeast) (pc := 85) dX7_atLeast_85 rfl ?_
          refine wp_iload (M := mX7_atLeast) (pc := 86) dX7_atLeast_86 rfl ?_
          refine wp_if_eq (M := mX7_atLeast) (pc := 88) (tgt := 103) dX7_atLeast_88 rfl (fun t88 => ?_) (fun f88 => ?_)
          · refine wp_iconst (M := mX7_atLeast) (pc := 103) (v := 0) dX7_atLeast_103 ci_0 ?_
            refine wp_iadd (M := mX7_atLeast) (pc := 104) dX7_atLeast_104 ?_
            refine so_istore_n (M := mX7_atLeast) (pc := 105) (lo' := [_, _, _, _, _, _, _]) dX7_atLeast_105 (LE rfl) (LE rfl) (Or.inr rfl) rfl ?_
            refine so_iinc (M := mX7_atLeast) (pc := 106) (lo' := [_, _, _, _, _, _, _]) dX7_atLeast_106 rfl ci_1 (LE rfl) rfl ?_
            refine wp_goto (M := mX7_atLeast) (pc := 109) (tgt := 5) dX7_atLeast_109 rfl ?_
            rw [show nI i + 1 = nI (i + 1) from nI_1 i]
            have hz := fun y z => ih (i + 1) y z (by omega) (by omega)
            first
            | exact absurd t42 (by decide)
            | exact absurd rfl t42
            | exact absurd f42 (by decide)
            | exact absurd t46 (by decide)
            | exact absurd rfl f46
            | exact absurd t88 (by decide)
            | exact absurd rfl f88
            | (rw [osm_no (gf_n1 o1 f33 o5)] at hz; rw [Int32.add_zero]; exact hz _ _)
            | (rw [osm_no (gf_n2 o2 t75)] at hz; rw [Int32.add_zero]; exact hz _ _)
            | (rw [osm_ye (gf_y o1 t33 o2 f75)] at hz; rw [o3]; exact hz _ _)
            | fail "leaf"
          · refine wp_aload_n (M := mX7_atLeast) (pc := 91) dX7_atLeast_91 rfl ?_
            refine wp_getR (M := mX7_atLeast) (pc := 92) fa_X7_7 rfl dX7_atLeast_92 (by first | exact Hm.k | exact Hm.a rfl | fail "kd") (Hm.r rfl) ?_
            refine wp_iload (M := mX7_atLeast) (pc := 95) dX7_atLeast_95 rfl ?_
            refine wp_iconst (M := mX7_atLeast) (pc := 97) (v := 3) dX7_atLeast_97 ci_3 ?_
            refine wp_iadd (M := mX7_atLeast) (pc := 98) dX7_atLeast_98 ?_
            refine wr_iaload (M := mX7_atLeast) (pc := 99) dX7_atLeast_99 (by first | exact Hm.k | exact Hm.a rfl | fail "kd") (ia rfl (show (3 : Int32) = nI 3 from rfl)) (by omega) (by decide) ?_
            refine wp_goto (M := mX7_atLeast) (pc := 100) (tgt := 104) dX7_atLeast_100 rfl ?_
            refine wp_iadd (M := mX7_atLeast) (pc := 104) dX7_atLeast_104 ?_
            refine so_istore_n (M := mX7_atLeast) (pc := 105) (lo' := [_, _, _, _, _, _, _]) dX7_atLeast_105 (LE rfl) (LE rfl) (Or.inr rfl) rfl ?_
            refine so_iinc (M := mX7_atLeast) (pc := 106) (lo' := [_, _, _, _, _, _, _]) dX7_atLeast_106 rfl ci_1 (LE rfl) rfl ?_
            refine wp_goto (M := mX7_atLeast) (pc := 109) (tgt := 5) dX7_atLeast_109 rfl ?_
            rw [show nI i + 1 = nI (i + 1) from nI_1 i]
            have hz := fun y z => ih (i + 1) y z (by omega) (by omega)
            first
            | exact absurd t42 (by decide)
            | exact absurd rfl t42
            | exact absurd f42 (by decide)
            | exact absurd t46 (by decide)
            | exact absurd rfl f46
            | exact absurd t88 (by decide)
            | exact absurd rfl f88
            | (rw [osm_no (gf_n1 o1 f33 o5)] at hz; rw [Int32.add_zero]; exact hz _ _)
            | (rw [osm_no (gf_n2 o2 t75)] at hz; rw [Int32.add_zero]; exact hz _ _)
            | (rw [osm_ye (gf_y o1 t33 o2 f75)] at hz; rw [o3]; exact hz _ _)
            | fail "leaf"
        · refine wp_iload_n (M := mX7_atLeast) (pc := 45) dX7_atLeast_45 rfl ?_
          refine wp_if_eq (M := mX7_atLeast) (pc := 46) (tgt := 65) dX7_atLeast_46 rfl (fun t46 => ?_) (fun f46 => ?_)
          · refine wp_aload_n (M := mX7_atLeast) (pc := 65) dX7_atLeast_65 rfl ?_
            refine wp_getR (M := mX7_atLeast) (pc := 66) fa_X7_7 rfl dX7_atLeast_66 (by first | exact Hm.k | exact Hm.a rfl | fail "kd") (Hm.r rfl) ?_
            refine wp_iload (M := mX7_atLeast) (pc := 69) dX7_atLeast_69 rfl ?_
            refine wp_iconst (M := mX7_atLeast) (pc := 71) (v := 2) dX7_atLeast_71 ci_2 ?_
            refine wp_iadd (M := mX7_atLeast) (pc := 72) dX7_atLeast_72 ?_
            refine wr_iaload (M := mX7_atLeast) (pc := 73) dX7_atLeast_73 (by first | exact Hm.k | exact Hm.a rfl | fail "kd") (ia rfl (show (2 : Int32) = nI 2 from rfl)) (by omega) (by decide) ?_
            refine wp_iload_n (M := mX7_atLeast) (pc := 74) dX7_atLeast_74 rfl ?_
            refine wp_icmp_gt (M := mX7_atLeast) (pc := 75) (tgt := 82) dX7_atLeast_75 rfl (fun t75 => ?_) (fun f75 => ?_)
            · refine wp_iconst (M := mX7_atLeast) (pc := 82) (v := 0) dX7_atLeast_82 ci_0 ?_
              refine so_istore (M := mX7_atLeast) (pc := 83) (lo' := [_, _, _, _, _, _, _]) dX7_atLeast_83 (LE rfl) (LE rfl) (Or.inr rfl) rfl ?_
              refine wp_iload_n (M := mX7_atLeast) (pc := 85) dX7_atLeast_85 rfl ?_
              refine wp_iload (M := mX7_atLeast) (pc := 86) dX7_atLeast_86 rfl ?_
              refine wp_if_eq (M := mX7_atLeast) (pc := 88) (tgt := 103) dX7_atLeast_88 rfl (fun t88 => ?_) (fun f88 => ?_)
              · refine wp_iconst (M := mX7_atLeast) (pc := 103) (v := 0) dX7_atLeast_103 ci_0 ?_
                refine wp_iadd (M := mX7_atLeast) (pc := 104) dX7_atLeast_104 ?_
                refine so_istore_n (M := mX7_atLeast) (pc := 105) (lo' := [_, _, _, _, _, _, _]) dX7_atLeast_105 (LE rfl) (LE rfl) (Or.inr rfl) rfl ?_
                refine so_iinc (M := mX7_atLeast) (pc := 106) (lo' := [_, _, _, _, _, _, _]) dX7_atLeast_106 rfl ci_1 (LE rfl) rfl ?_
                refine wp_goto (M := mX7_atLeast) (pc := 109) (tgt := 5) dX7_atLeast_109 rfl ?_
                rw [show nI i + 1 = nI (i + 1) from nI_1 i]
                have hz := fun y z => ih (i + 1) y z (by omega) (by omega)
                first
                | exact absurd t42 (by decide)
                | exact absurd rfl t42
                | exact absurd f42 (by decide)
                | exact absurd t46 (by decide)
                | exact absurd rfl f46
                | exact absurd t88 (by decide)
                | exact absurd rfl f88
                | (rw [osm_no (gf_n1 o1 f33 o5)] at hz; rw [Int32.add_zero]; exact hz _ _)
                | (rw [osm_no (gf_n2 o2 t75)] at hz; rw [Int32.add_zero]; exact hz _ _)
                | (rw [osm_ye (gf_y o1 t33 o2 f75)] at hz; rw [o3]; exact hz _ _)
                | fail "leaf"
              · refine wp_aload_n (M := mX7_atLeast) (pc := 91) dX7_atLeast_91 rfl ?_
                refine wp_getR (M := mX7_atLeast) (pc := 92) fa_X7_7 rfl dX7_atLeast_92 (by first | exact Hm.k | exact Hm.a rfl | fail "kd") (Hm.r rfl) ?_
                refine wp_iload (M := mX7_atLeast) (pc := 95) dX7_atLeast_95 rfl ?_
                refine wp_iconst (M := mX7_atLeast) (pc := 97) (v := 3) dX7_atLeast_97 ci_3 ?_
                refine wp_iadd (M := mX7_atLeast) (pc := 98) dX7_atLeast_98 ?_
                refine wr_iaload (M := mX7_atLeast) (pc := 99) dX7_atLeast_99 (by first | exact Hm.k | exact Hm.a rfl | fail "kd") (ia rfl (show (3 : Int32) = nI 3 from rfl)) (by omega) (by decide) ?_
                refine wp_goto (M := mX7_atLeast) (pc := 100) (tgt := 104) dX7_atLeast_100 rfl ?_
                refine wp_iadd (M := mX7_atLeast) (pc := 104) dX7_atLeast_104 ?_
                refine so_istore_n (M := mX7_atLeast) (pc := 105) (lo' := [_, _, _, _, _, _, _]) dX7_atLeast_105 (LE rfl) (LE rfl) (Or.inr rfl) rfl ?_
                refine so_iinc (M := mX7_atLeast) (pc := 106) (lo' := [_, _, _, _, _, _, _]) dX7_atLeast_106 rfl ci_1 (LE rfl) rfl ?_
                refine wp_goto (M := mX7_atLeast) (pc := 109) (tgt := 5) dX7_atLeast_109 rfl ?_
                rw [show nI i + 1 = nI (i + 1) from nI_1 i]
                have hz := fun y z => ih (i + 1) y z (by omega) (by omega)
                first
                | exact absurd t42 (by decide)
                | exact absurd rfl t42
                | exact absurd f42 (by decide)
                | exact absurd t46 (by decide)
                | exact absurd rfl f46
                | exact absurd t88 (by decide)
                | exact absurd rfl f88
                | (rw [osm_no (gf_n1 o1 f33 o5)] at hz; rw [Int32.add_zero]; exact hz _ _)
                | (rw [osm_no (gf_n2 o2 t75)] at hz; rw [Int32.add_zero]; exact hz _ _)
                | (rw [osm_ye (gf_y o1 t33 o2 f75)] at hz; rw [o3]; exact hz _ _)
                | fail "leaf"
            · refine wp_iconst (M := mX7_atLeast) (pc := 78) (v := 1) dX7_atLeast_78 ci_1 ?_
              refine wp_goto (M := mX7_atLeast) (pc := 79) (tgt := 83) dX7_atLeast_79 rfl ?_
              refine so_istore (M := mX7_atLeast) (pc := 83) (lo' := [_, _, _, _, _, _, _]) dX7_atLeast_83 (LE rfl) (LE rfl) (Or.inr rfl) rfl ?_
              refine wp_iload_n (M := mX7_atLeast) (pc := 85) dX7_atLeast_85 rfl ?_
              refine wp_iload (M := mX7_atLeast) (pc := 86) dX7_atLeast_86 rfl ?_
              refine wp_if_eq (M := mX7_atLeast) (pc := 88) (tgt := 103) dX7_atLeast_88 rfl (fun t88 => ?_) (fun f88 => ?_)
              · refine wp_iconst (M := mX7_atLeast) (pc := 103) (v := 0) dX7_atLeast_103 ci_0 ?_
                refine wp_iadd (M := mX7_atLeast) (pc := 104) dX7_atLeast_104 ?_
                refine so_istore_n (M := mX7_atLeast) (pc := 105) (lo' := [_, _, _, _, _, _, _]) dX7_atLeast_105 (LE rfl) (LE rfl) (Or.inr rfl) rfl ?_
                refine so_iinc (M := mX7_atLeast) (pc := 106) (lo' := [_, _, _, _, _, _, _]) dX7_atLeast_106 rfl ci_1 (LE rfl) rfl ?_
                refine wp_goto (M := mX7_atLeast) (pc := 109) (tgt := 5) dX7_atLeast_109 rfl ?_
                rw [show nI i + 1 = nI (i + 1) from nI_1 i]
                have hz := fun y z => ih (i + 1) y z (by omega) (by omega)
                first
                | exact absurd t42 (by decide)
                | exact absurd rfl t42
                | exact absurd f42 (by decide)
                | exact absurd t46 (by decide)
                | exact absurd rfl f46
                | exact absurd t88 (by decide)
                | exact absurd rfl f88
                | (rw [osm_no (gf_n1 o1 f33 o5)] at hz; rw [Int32.add_zero]; exact hz _ _)
                | (rw [osm_no (gf_n2 o2 t75)] at hz; rw [Int32.add_zero]; exact hz _ _)
                | (rw [osm_ye (gf_y o1 t33 o2 f75)] at hz; rw [o3]; exact hz _ _)
                | fail "leaf"
              · refine wp_aload_n (M := mX7_atLeast) (pc := 91) dX7_atLeast_91 rfl ?_
                refine wp_getR (M := mX7_atLeast) (pc := 92) fa_X7_7 rfl dX7_atLeast_92 (by first | exact Hm.k | exact Hm.a rfl | fail "kd") (Hm.r rfl) ?_
                refine wp_iload (M := mX7_atLeast) (pc := 95) dX7_atLeast_95 rfl ?_
                refine wp_iconst (M := mX7_atLeast) (pc := 97) (v := 3) dX7_atLeast_97 ci_3 ?_
                refine wp_iadd (M := mX7_atLeast) (pc := 98) dX7_atLeast_98 ?_
                refine wr_iaload (M := mX7_atLeast) (pc := 99) dX7_atLeast_99 (by first | exact Hm.k | exact Hm.a rfl | fail "kd") (ia rfl (show (3 : Int32) = nI 3 from rfl)) (by omega) (by decide) ?_
                refine wp_goto (M := mX7_atLeast) (pc := 100) (tgt := 104) dX7_atLeast_100 rfl ?_
                refine wp_iadd (M := mX7_atLeast) (pc := 104) dX7_atLeast_104 ?_
                refine so_istore_n (M := mX7_atLeast) (pc := 105) (lo' := [_, _, _, _, _, _, _]) dX7_atLeast_105 (LE rfl) (LE rfl) (Or.inr rfl) rfl ?_
                refine so_iinc (M := mX7_atLeast) (pc := 106) (lo' := [_, _, _, _, _, _, _]) dX7_atLeast_106 rfl ci_1 (LE rfl) rfl ?_
                refine wp_goto (M := mX7_atLeast) (pc := 109) (tgt := 5) dX7_atLeast_109 rfl ?_
                rw [show nI i + 1 = nI (i + 1) from nI_1 i]
                have hz := fun y z => ih (i + 1) y z (by omega) (by omega)
                first
                | exact absurd t42 (by decide)
                | exact absurd rfl t42
                | exact absurd f42 (by decide)
                | exact absurd t46 (by decide)
                | exact absurd rfl f46
                | exact absurd t88 (by decide)
                | exact absurd rfl f88
                | (rw [osm_no (gf_n1 o1 f33 o5)] at hz; rw [Int32.add_zero]; exact hz _ _)
                | (rw [osm_no (gf_n2 o2 t75)] at hz; rw [Int32.add_zero]; exact hz _ _)
                | (rw [osm_ye (gf_y o1 t33 o2 f75)] at hz; rw [o3]; exact hz _ _)
                | fail "leaf"
          · refine wp_aload_n (M := mX7_atLeast) (pc := 49) dX7_atLeast_49 rfl ?_
            refine wp_getR (M := mX7_atLeast) (pc := 50) fa_X7_7 rfl dX7_atLeast_50 (by first | exact Hm.k | exact Hm.a rfl | fail "kd") (Hm.r rfl) ?_
            refine wp_iload (M := mX7_atLeast) (pc := 53) dX7_atLeast_53 rfl ?_
            refine wp_iconst (M := mX7_atLeast) (pc := 55) (v := 2) dX7_atLeast_55 ci_2 ?_
            refine wp_iadd (M := mX7_atLeast) (pc := 56) dX7_atLeast_56 ?_
            refine wr_iaload (M := mX7_atLeast) (pc := 57) dX7_atLeast_57 (by first | exact Hm.k | exact Hm.a rfl | fail "kd") (ia rfl (show (2 : Int32) = nI 2 from rfl)) (by omega) (by decide) ?_
            refine wp_iload_n (M := mX7_atLeast) (pc := 58) dX7_atLeast_58 rfl ?_
            refine wp_icmp_lt (M := mX7_atLeast) (pc := 59) (tgt := 82) dX7_atLeast_59 rfl (fun t59 => ?_) (fun f59 => ?_)
            · refine wp_iconst (M := mX7_atLeast) (pc := 82) (v := 0) dX7_atLeast_82 ci_0 ?_
              refine so_istore (M := mX7_atLeast) (pc := 83) (lo' := [_, _, _, _, _, _, _]) dX7_atLeast_83 (LE rfl) (LE rfl) (Or.inr rfl) rfl ?_
              refine wp_iload_n (M := mX7_atLeast) (pc := 85) dX7_atLeast_85 rfl ?_
              refine wp_iload (M := mX7_atLeast) (pc := 86) dX7_atLeast_86 rfl ?_
              refine wp_if_eq (M := mX7_atLeast) (pc := 88) (tgt := 103) dX7_atLeast_88 rfl (fun t88 => ?_) (fun f88 => ?_)
              · refine wp_iconst (M := mX7_atLeast) (pc := 103) (v := 0) dX7_atLeast_103 ci_0 ?_
                refine wp_iadd (M := mX7_atLeast) (pc := 104) dX7_atLeast_104 ?_
                refine so_istore_n (M := mX7_atLeast) (pc := 105) (lo' := [_, _, _, _, _, _, _]) dX7_atLeast_105 (LE rfl) (LE rfl) (Or.inr rfl) rfl ?_
                refine so_iinc (M := mX7_atLeast) (pc := 106) (lo' := [_, _, _, _, _, _, _]) dX7_atLeast_106 rfl ci_1 (LE rfl) rfl ?_
                refine wp_goto (M := mX7_atLeast) (pc := 109) (tgt := 5) dX7_atLeast_109 rfl ?_
                rw [show nI i + 1 = nI (i + 1) from nI_1 i]
                have hz := fun y z => ih (i + 1) y z (by omega) (by omega)
                first
                | exact absurd t42 (by decide)
                | exact absurd rfl t42
                | exact absurd f42 (by decide)
                | exact absurd t46 (by decide)
                | exact absurd rfl f46
                | exact absurd t88 (by decide)
                | exact absurd rfl f88
                | (rw [osm_no (gf_n1 o1 f33 o5)] at hz; rw [Int32.add_zero]; exact hz _ _)
                | (rw [osm_no (gf_n2 o2 t75)] at hz; rw [Int32.add_zero]; exact hz _ _)
                | (rw [osm_ye (gf_y o1 t33 o2 f75)] at hz; rw [o3]; exact hz _ _)
                | fail "leaf"
              · refine wp_aload_n (M := mX7_atLeast) (pc := 91) dX7_atLeast_91 rfl ?_
                refine wp_getR (M := mX7_atLeast) (pc := 92) fa_X7_7 rfl dX7_atLeast_92 (by first | exact Hm.k | exact Hm.a rfl | fail "kd") (Hm.r rfl) ?_
                refine wp_iload (M := mX7_atLeast) (pc := 95) dX7_atLeast_95 rfl ?_
                refine wp_iconst (M := mX7_atLeast) (pc := 97) (v := 3) dX7_atLeast_97 ci_3 ?_
                refine wp_iadd (M := mX7_atLeast) (pc := 98) dX7_atLeast_98 ?_
                refine wr_iaload (M := mX7_atLeast) (pc := 99) dX7_atLeast_99 (by first | exact Hm.k | exact Hm.a rfl | fail "kd") (ia rfl (show (3 : Int32) = nI 3 from rfl)) (by omega) (by decide) ?_
                refine wp_goto (M := mX7_atLeast) (pc := 100) (tgt := 104) dX7_atLeast_100 rfl ?_
                refine wp_iadd (M := mX7_atLeast) (pc := 104) dX7_atLeast_104 ?_
                refine so_istore_n (M := mX7_atLeast) (pc := 105) (lo' := [_, _, _, _, _, _, _]) dX7_atLeast_105 (LE rfl) (LE rfl) (Or.inr rfl) rfl ?_
                refine so_iinc (M := mX7_atLeast) (pc := 106) (lo' := [_, _, _, _, _, _, _]) dX7_atLeast_106 rfl ci_1 (LE rfl) rfl ?_
                refine wp_goto (M := mX7_atLeast) (pc := 109) (tgt := 5) dX7_atLeast_109 rfl ?_
                rw [show nI i + 1 = nI (i + 1) from nI_1 i]
                have hz := fun y z => ih (i + 1) y z (by omega) (by omega)
                first
                | exact absurd t42 (by decide)
                | exact absurd rfl t42
                | exact absurd f42 (by decide)
                | exact absurd t46 (by decide)
                | exact absurd rfl f46
                | exact absurd t88 (by decide)
                | exact absurd rfl f88
                | (rw [osm_no (gf_n1 o1 f33 o5)] at hz; rw [Int32.add_zero]; exact hz _ _)
                | (rw [osm_no (gf_n2 o2 t75)] at hz; rw [Int32.add_zero]; exact hz _ _)
                | (rw [osm_ye (gf_y o1 t33 o2 f75)] at hz; rw [o3]; exact hz _ _)
                | fail "leaf"
            · refine wp_goto (M := mX7_atLeast) (pc := 62) (tgt := 78) dX7_atLeast_62 rfl ?_
              refine wp_iconst (M := mX7_atLeast) (pc := 78) (v := 1) dX7_atLeast_78 ci_1 ?_
              refine wp_goto (M := mX7_atLeast) (pc := 79) (tgt := 83) dX7_atLeast_79 rfl ?_
              refine so_istore (M := mX7_atLeast) (pc := 83) (lo' := [_, _, _, _, _, _, _]) dX7_atLeast_83 (LE rfl) (LE rfl) (Or.inr rfl) rfl ?_
              refine wp_iload_n (M := mX7_atLeast) (pc := 85) dX7_atLeast_85 rfl ?_
              refine wp_iload (M := mX7_atLeast) (pc := 86) dX7_atLeast_86 rfl ?_
              refine wp_if_eq (M := mX7_atLeast) (pc := 88) (tgt := 103) dX7_atLeast_88 rfl (fun t88 => ?_) (fun f88 => ?_)
              · refine wp_iconst (M := mX7_atLeast) (pc := 103) (v := 0) dX7_atLeast_103 ci_0 ?_
                refine wp_iadd (M := mX7_atLeast) (pc := 104) dX7_atLeast_104 ?_
                refine so_istore_n (M := mX7_atLeast) (pc := 105) (lo' := [_, _, _, _, _, _, _]) dX7_atLeast_105 (LE rfl) (LE rfl) (Or.inr rfl) rfl ?_
                refine so_iinc (M := mX7_atLeast) (pc := 106) (lo' := [_, _, _, _, _, _, _]) dX7_atLeast_106 rfl ci_1 (LE rfl) rfl ?_
                refine wp_goto (M := mX7_atLeast) (pc := 109) (tgt := 5) dX7_atLeast_109 rfl ?_
                rw [show nI i + 1 = nI (i + 1) from nI_1 i]
                have hz := fun y z => ih (i + 1) y z (by omega) (by omega)
                first
                | exact absurd t42 (by decide)
                | exact absurd rfl t42
                | exact absurd f42 (by decide)
                | exact absurd t46 (by decide)
                | exact absurd rfl f46
                | exact absurd t88 (by decide)
                | exact absurd rfl f88
                | (rw [osm_no (gf_n1 o1 f33 o5)] at hz; rw [Int32.add_zero]; exact hz _ _)
                | (rw [osm_no (gf_n2 o2 t75)] at hz; rw [Int32.add_zero]; exact hz _ _)
                | (rw [osm_ye (gf_y o1 t33 o2 f75)] at hz; rw [o3]; exact hz _ _)
                | fail "leaf"
              · refine wp_aload_n (M := mX7_atLeast) (pc := 91) dX7_atLeast_91 rfl ?_
                refine wp_getR (M := mX7_atLeast) (pc := 92) fa_X7_7 rfl dX7_atLeast_92 (by first | exact Hm.k | exact Hm.a rfl | fail "kd") (Hm.r rfl) ?_
                refine wp_iload (M := mX7_atLeast) (pc := 95) dX7_atLeast_95 rfl ?_
                refine wp_iconst (M := mX7_atLeast) (pc := 97) (v := 3) dX7_atLeast_97 ci_3 ?_
                refine wp_iadd (M := mX7_atLeast) (pc := 98) dX7_atLeast_98 ?_
                refine wr_iaload (M := mX7_atLeast) (pc := 99) dX7_atLeast_99 (by first | exact Hm.k | exact Hm.a rfl | fail "kd") (ia rfl (show (3 : Int32) = nI 3 from rfl)) (by omega) (by decide) ?_
                refine wp_goto (M := mX7_atLeast) (pc := 100) (tgt := 104) dX7_atLeast_100 rfl ?_
                refine wp_iadd (M := mX7_atLeast) (pc := 104) dX7_atLeast_104 ?_
                refine so_istore_n (M := mX7_atLeast) (pc := 105) (lo' := [_, _, _, _, _, _, _]) dX7_atLeast_105 (LE rfl) (LE rfl) (Or.inr rfl) rfl ?_
                refine so_iinc (M := mX7_atLeast) (pc := 106) (lo' := [_, _, _, _, _, _, _]) dX7_atLeast_106 rfl ci_1 (LE rfl) rfl ?_
                refine wp_goto (M := mX7_atLeast) (pc := 109) (tgt := 5) dX7_atLeast_109 rfl ?_
                rw [show nI i + 1 = nI (i + 1) from nI_1 i]
                have hz := fun y z => ih (i + 1) y z (by omega) (by omega)
                first
                | exact absurd t42 (by decide)
                | exact absurd rfl t42
                | exact absurd f42 (by decide)
                | exact absurd t46 (by decide)
                | exact absurd rfl f46
                | exact absurd t88 (by decide)
                | exact absurd rfl f88
                | (rw [osm_no (gf_n1 o1 f33 o5)] at hz; rw [Int32.add_zero]; exact hz _ _)
                | (rw [osm_no (gf_n2 o2 t75)] at hz; rw [Int32.add_zero]; exact hz _ _)
                | (rw [osm_ye (gf_y o1 t33 o2 f75)] at hz; rw [o3]; exact hz _ _)
                | fail "leaf"
      · refine wp_iconst (M := mX7_atLeast) (pc := 36) (v := 1) dX7_atLeast_36 ci_1 ?_
        refine wp_goto (M := mX7_atLeast) (pc := 37) (tgt := 41) dX7_atLeast_37 rfl ?_
        refine wp_iload_n (M := mX7_atLeast) (pc := 41) dX7_atLeast_41 rfl ?_
        refine wp_icmp_ne (M := mX7_atLeast) (pc := 42) (tgt := 82) dX7_atLeast_42 rfl (fun t42 => ?_) (fun f42 => ?_)
        · refine wp_iconst (M := mX7_atLeast) (pc := 82) (v := 0) dX7_atLeast_82 ci_0 ?_
          refine so_istore (M := mX7_atLeast) (pc := 83) (lo' := [_, _, _, _, _, _, _]) dX7_atLeast_83 (LE rfl) (LE rfl) (Or.inr rfl) rfl ?_
          refine wp_iload_n (M := mX7_atLeast) (pc := 85) dX7_atLeast_85 rfl ?_
          refine wp_iload (M := mX7_atLeast) (pc := 86) dX7_atLeast_86 rfl ?_
          refine wp_if_eq (M := mX7_atLeast) (pc := 88) (tgt := 103) dX7_atLeast_88 rfl (fun t88 => ?_) (fun f88 => ?_)
          · refine wp_iconst (M := mX7_atLeast) (pc := 103) (v := 0) dX7_atLeast_103 ci_0 ?_
            refine wp_iadd (M := mX7_atLeast) (pc := 104) dX7_atLeast_104 ?_
            refine so_istore_n (M := mX7_atLeast) (pc := 105) (lo' := [_, _, _, _, _, _, _]) dX7_atLeast_105 (LE rfl) (LE rfl) (Or.inr rfl) rfl ?_
            refine so_iinc (M := mX7_atLeast) (pc := 106) (lo' := [_, _, _, _, _, _, _]) dX7_atLeast_106 rfl ci_1 (LE rfl) rfl ?_
            refine wp_goto (M := mX7_atLeast) (pc := 109) (tgt := 5) dX7_atLeast_109 rfl ?_
            rw [show nI i + 1 = nI (i + 1) from nI_1 i]
            have hz := fun y z => ih (i + 1) y z (by omega) (by omega)
            first
            | exact absurd t42 (by decide)
            | exact absurd rfl t42
            | exact absurd f42 (by decide)
            | exact absurd t46 (by decide)
            | exact absurd rfl f46
            | exact absurd t88 (by decide)
            | exact absurd rfl f88
            | (rw [osm_no (gf_n1 o1 f33 o5)] at hz; rw [Int32.add_zero]; exact hz _ _)
            | (rw [osm_no (gf_n2 o2 t75)] at hz; rw [Int32.add_zero]; exact hz _ _)
            | (rw [osm_ye (gf_y o1 t33 o2 f75)] at hz; rw [o3]; exact hz _ _)
            | fail "leaf"
          · refine wp_aload_n (M := mX7_atLeast) (pc := 91) dX7_atLeast_91 rfl ?_
            refine wp_getR (M := mX7_atLeast) (pc := 92) fa_X7_7 rfl dX7_atLeast_92 (by first | exact Hm.k | exact Hm.a rfl | fail "kd") (Hm.r rfl) ?_
            refine wp_iload (M := mX7_atLeast) (pc := 95) dX7_atLeast_95 rfl ?_
            refine wp_iconst (M := mX7_atLeast) (pc := 97) (v := 3) dX7_atLeast_97 ci_3 ?_
            refine wp_iadd (M := mX7_atLeast) (pc := 98) dX7_atLeast_98 ?_
            refine wr_iaload (M := mX7_atLeast) (pc := 99) dX7_atLeast_99 (by first | exact Hm.k | exact Hm.a rfl | fail "kd") (ia rfl (show (3 : Int32) = nI 3 from rfl)) (by omega) (by decide) ?_
            refine wp_goto (M := mX7_atLeast) (pc := 100) (tgt := 104) dX7_atLeast_100 rfl ?_
            refine wp_iadd (M := mX7_atLeast) (pc := 104) dX7_atLeast_104 ?_
            refine so_istore_n (M := mX7_atLeast) (pc := 105) (lo' := [_, _, _, _, _, _, _]) dX7_atLeast_105 (LE rfl) (LE rfl) (Or.inr rfl) rfl ?_
            refine so_iinc (M := mX7_atLeast) (pc := 106) (lo' := [_, _, _, _, _, _, _]) dX7_atLeast_106 rfl ci_1 (LE rfl) rfl ?_
            refine wp_goto (M := mX7_atLeast) (pc := 109) (tgt := 5) dX7_atLeast_109 rfl ?_
            rw [show nI i + 1 = nI (i + 1) from nI_1 i]
            have hz := fun y z => ih (i + 1) y z (by omega) (by omega)
            first
            | exact absurd t42 (by decide)
            | exact absurd rfl t42
            | exact absurd f42 (by decide)
            | exact absurd t46 (by decide)
            | exact absurd rfl f46
            | exact absurd t88 (by decide)
            | exact absurd rfl f88
            | (rw [osm_no (gf_n1 o1 f33 o5)] at hz; rw [Int32.add_zero]; exact hz _ _)
            | (rw [osm_no (gf_n2 o2 t75)] at hz; rw [Int32.add_zero]; exact hz _ _)
            | (rw [osm_ye (gf_y o1 t33 o2 f75)] at hz; rw [o3]; exact hz _ _)
            | fail "leaf"
        · refine wp_iload_n (M := mX7_atLeast) (pc := 45) dX7_atLeast_45 rfl ?_
          refine wp_if_eq (M := mX7_atLeast) (pc := 46) (tgt := 65) dX7_atLeast_46 rfl (fun t46 => ?_) (fun f46 => ?_)
          · refine wp_aload_n (M := mX7_atLeast) (pc := 65) dX7_atLeast_65 rfl ?_
            refine wp_getR (M := mX7_atLeast) (pc := 66) fa_X7_7 rfl dX7_atLeast_66 (by first | exact Hm.k | exact Hm.a rfl | fail "kd") (Hm.r rfl) ?_
            refine wp_iload (M := mX7_atLeast) (pc := 69) dX7_atLeast_69 rfl ?_
            refine wp_iconst (M := mX7_atLeast) (pc := 71) (v := 2) dX7_atLeast_71 ci_2 ?_
            refine wp_iadd (M := mX7_atLeast) (pc := 72) dX7_atLeast_72 ?_
            refine wr_iaload (M := mX7_atLeast) (pc := 73) dX7_atLeast_73 (by first | exact Hm.k | exact Hm.a rfl | fail "kd") (ia rfl (show (2 : Int32) = nI 2 from rfl)) (by omega) (by decide) ?_
            refine wp_iload_n (M := mX7_atLeast) (pc := 74) dX7_atLeast_74 rfl ?_
            refine wp_icmp_gt (M := mX7_atLeast) (pc := 75) (tgt := 82) dX7_atLeast_75 rfl (fun t75 => ?_) (fun f75 => ?_)
            · refine wp_iconst (M := mX7_atLeast) (pc := 82) (v := 0) dX7_atLeast_82 ci_0 ?_
              refine so_istore (M := mX7_atLeast) (pc := 83) (lo' := [_, _, _, _, _, _, _]) dX7_atLeast_83 (LE rfl) (LE rfl) (Or.inr rfl) rfl ?_
              refine wp_iload_n (M := mX7_atLeast) (pc := 85) dX7_atLeast_85 rfl ?_
              refine wp_iload (M := mX7_atLeast) (pc := 86) dX7_atLeast_86 rfl ?_
              refine wp_if_eq (M := mX7_atLeast) (pc := 88) (tgt := 103) dX7_atLeast_88 rfl (fun t88 => ?_) (fun f88 => ?_)
              · refine wp_iconst (M := mX7_atLeast) (pc := 103) (v := 0) dX7_atLeast_103 ci_0 ?_
                refine wp_iadd (M := mX7_atLeast) (pc := 104) dX7_atLeast_104 ?_
                refine so_istore_n (M := mX7_atLeast) (pc := 105) (lo' := [_, _, _, _, _, _, _]) dX7_atLeast_105 (LE rfl) (LE rfl) (Or.inr rfl) rfl ?_
                refine so_iinc (M := mX7_atLeast) (pc := 106) (lo' := [_, _, _, _, _, _, _]) dX7_atLeast_106 rfl ci_1 (LE rfl) rfl ?_
                refine wp_goto (M := mX7_atLeast) (pc := 109) (tgt := 5) dX7_atLeast_109 rfl ?_
                rw [show nI i + 1 = nI (i + 1) from nI_1 i]
                have hz := fun y z => ih (i + 1) y z (by omega) (by omega)
                first
                | exact absurd t42 (by decide)
                | exact absurd rfl t42
                | exact absurd f42 (by decide)
                | exact absurd t46 (by decide)
                | exact absurd rfl f46
                | exact absurd t88 (by decide)
                | exact absurd rfl f88
                | (rw [osm_no (gf_n1 o1 f33 o5)] at hz; rw [Int32.add_zero]; exact hz _ _)
                | (rw [osm_no (gf_n2 o2 t75)] at hz; rw [Int32.add_zero]; exact hz _ _)
                | (rw [osm_ye (gf_y o1 t33 o2 f75)] at hz; rw [o3]; exact hz _ _)
                | fail "leaf"
              · refine wp_aload_n (M := mX7_atLeast) (pc := 91) dX7_atLeast_91 rfl ?_
                refine wp_getR (M := mX7_atLeast) (pc := 92) fa_X7_7 rfl dX7_atLeast_92 (by first | exact Hm.k | exact Hm.a rfl | fail "kd") (Hm.r rfl) ?_
                refine wp_iload (M := mX7_atLeast) (pc := 95) dX7_atLeast_95 rfl ?_
                refine wp_iconst (M := mX7_atLeast) (pc := 97) (v := 3) dX7_atLeast_97 ci_3 ?_
                refine wp_iadd (M := mX7_atLeast) (pc := 98) dX7_atLeast_98 ?_
                refine wr_iaload (M := mX7_atLeast) (pc := 99) dX7_atLeast_99 (by first | exact Hm.k | exact Hm.a rfl | fail "kd") (ia rfl (show (3 : Int32) = nI 3 from rfl)) (by omega) (by decide) ?_
                refine wp_goto (M := mX7_atLeast) (pc := 100) (tgt := 104) dX7_atLeast_100 rfl ?_
                refine wp_iadd (M := mX7_atLeast) (pc := 104) dX7_atLeast_104 ?_
                refine so_istore_n (M := mX7_atLeast) (pc := 105) (lo' := [_, _, _, _, _, _, _]) dX7_atLeast_105 (LE rfl) (LE rfl) (Or.inr rfl) rfl ?_
                refine so_iinc (M := mX7_atLeast) (pc := 106) (lo' := [_, _, _, _, _, _, _]) dX7_atLeast_106 rfl ci_1 (LE rfl) rfl ?_
                refine wp_goto (M := mX7_atLeast) (pc := 109) (tgt := 5) dX7_atLeast_109 rfl ?_
                rw [show nI i + 1 = nI (i + 1) from nI_1 i]
                have hz := fun y z => ih (i + 1) y z (by omega) (by omega)
                first
                | exact absurd t42 (by decide)
                | exact absurd rfl t42
                | exact absurd f42 (by decide)
                | exact absurd t46 (by decide)
                | exact absurd rfl f46
                | exact absurd t88 (by decide)
                | exact absurd rfl f88
                | (rw [osm_no (gf_n1 o1 f33 o5)] at hz; rw [Int32.add_zero]; exact hz _ _)
                | (rw [osm_no (gf_n2 o2 t75)] at hz; rw [Int32.add_zero]; exact hz _ _)
                | (rw [osm_ye (gf_y o1 t33 o2 f75)] at hz; rw [o3]; exact hz _ _)
                | fail "leaf"
            · refine wp_iconst (M := mX7_atLeast) (pc := 78) (v := 1) dX7_atLeast_78 ci_1 ?_
              refine wp_goto (M := mX7_atLeast) (pc := 79) (tgt := 83) dX7_atLeast_79 rfl ?_
              refine so_istore (M := mX7_atLeast) (pc := 83) (lo' := [_, _, _, _, _, _, _]) dX7_atLeast_83 (LE rfl) (LE rfl) (Or.inr rfl) rfl ?_
              refine wp_iload_n (M := mX7_atLeast) (pc := 85) dX7_atLeast_85 rfl ?_
              refine wp_iload (M := mX7_atLeast) (pc := 86) dX7_atLeast_86 rfl ?_
              refine wp_if_eq (M := mX7_atLeast) (pc := 88) (tgt := 103) dX7_atLeast_88 rfl (fun t88 => ?_) (fun f88 => ?_)
              · refine wp_iconst (M := mX7_atLeast) (pc := 103) (v := 0) dX7_atLeast_103 ci_0 ?_
                refine wp_iadd (M := mX7_atLeast) (pc := 104) dX7_atLeast_104 ?_
                refine so_istore_n (M := mX7_atLeast) (pc := 105) (lo' := [_, _, _, _, _, _, _]) dX7_atLeast_105 (LE rfl) (LE rfl) (Or.inr rfl) rfl ?_
                refine so_iinc (M := mX7_atLeast) (pc := 106) (lo' := [_, _, _, _, _, _, _]) dX7_atLeast_106 rfl ci_1 (LE rfl) rfl ?_
                refine wp_goto (M := mX7_atLeast) (pc := 109) (tgt := 5) dX7_atLeast_109 rfl ?_
                rw [show nI i + 1 = nI (i + 1) from nI_1 i]
                have hz := fun y z => ih (i + 1) y z (by omega) (by omega)
                first
                | exact absurd t42 (by decide)
                | exact absurd rfl t42
                | exact absurd f42 (by decide)
                | exact absurd t46 (by decide)
                | exact absurd rfl f46
                | exact absurd t88 (by decide)
                | exact absurd rfl f88
                | (rw [osm_no (gf_n1 o1 f33 o5)] at hz; rw [Int32.add_zero]; exact hz _ _)
                | (rw [osm_no (gf_n2 o2 t75)] at hz; rw [Int32.add_zero]; exact hz _ _)
                | (rw [osm_ye (gf_y o1 t33 o2 f75)] at hz; rw [o3]; exact hz _ _)
                | fail "leaf"
              · refine wp_aload_n (M := mX7_atLeast) (pc := 91) dX7_atLeast_91 rfl ?_
                refine wp_getR (M := mX7_atLeast) (pc := 92) fa_X7_7 rfl dX7_atLeast_92 (by first | exact Hm.k | exact Hm.a rfl | fail "kd") (Hm.r rfl) ?_
                refine wp_iload (M := mX7_atLeast) (pc := 95) dX7_atLeast_95 rfl ?_
                refine wp_iconst (M := mX7_atLeast) (pc := 97) (v := 3) dX7_atLeast_97 ci_3 ?_
                refine wp_iadd (M := mX7_atLeast) (pc := 98) dX7_atLeast_98 ?_
                refine wr_iaload (M := mX7_atLeast) (pc := 99) dX7_atLeast_99 (by first | exact Hm.k | exact Hm.a rfl | fail "kd") (ia rfl (show (3 : Int32) = nI 3 from rfl)) (by omega) (by decide) ?_
                refine wp_goto (M := mX7_atLeast) (pc := 100) (tgt := 104) dX7_atLeast_100 rfl ?_
                refine wp_iadd (M := mX7_atLeast) (pc := 104) dX7_atLeast_104 ?_
                refine so_istore_n (M := mX7_atLeast) (pc := 105) (lo' := [_, _, _, _, _, _, _]) dX7_atLeast_105 (LE rfl) (LE rfl) (Or.inr rfl) rfl ?_
                refine so_iinc (M := mX7_atLeast) (pc := 106) (lo' := [_, _, _, _, _, _, _]) dX7_atLeast_106 rfl ci_1 (LE rfl) rfl ?_
                refine wp_goto (M := mX7_atLeast) (pc := 109) (tgt := 5) dX7_atLeast_109 rfl ?_
                rw [show nI i + 1 = nI (i + 1) from nI_1 i]
                have hz := fun y z => ih (i + 1) y z (by omega) (by omega)
                first
                | exact absurd t42 (by decide)
                | exact absurd rfl t42
                | exact absurd f42 (by decide)
                | exact absurd t46 (by decide)
                | exact absurd rfl f46
                | exact absurd t88 (by decide)
                | exact absurd rfl f88
                | (rw [osm_no (gf_n1 o1 f33 o5)] at hz; rw [Int32.add_zero]; exact hz _ _)
                | (rw [osm_no (gf_n2 o2 t75)] at hz; rw [Int32.add_zero]; exact hz _ _)
                | (rw [osm_ye (gf_y o1 t33 o2 f75)] at hz; rw [o3]; exact hz _ _)
                | fail "leaf"
          · refine wp_aload_n (M := mX7_atLeast) (pc := 49) dX7_atLeast_49 rfl ?_
            refine wp_getR (M := mX7_atLeast) (pc := 50) fa_X7_7 rfl dX7_atLeast_50 (by first | exact Hm.k | exact Hm.a rfl | fail "kd") (Hm.r rfl) ?_
            refine wp_iload (M := mX7_atLeast) (pc := 53) dX7_atLeast_53 rfl ?_
            refine wp_iconst (M := mX7_atLeast) (pc := 55) (v := 2) dX7_atLeast_55 ci_2 ?_
            refine wp_iadd (M := mX7_atLeast) (pc := 56) dX7_atLeast_56 ?_
            refine wr_iaload (M := mX7_atLeast) (pc := 57) dX7_atLeast_57 (by first | exact Hm.k | exact Hm.a rfl | fail "kd") (ia rfl (show (2 : Int32) = nI 2 from rfl)) (by omega) (by decide) ?_
            refine wp_iload_n (M := mX7_atLeast) (pc := 58) dX7_atLeast_58 rfl ?_
            refine wp_icmp_lt (M := mX7_atLeast) (pc := 59) (tgt := 82) dX7_atLeast_59 rfl (fun t59 => ?_) (fun f59 => ?_)
            · refine wp_iconst (M := mX7_atLeast) (pc := 82) (v := 0) dX7_atLeast_82 ci_0 ?_
              refine so_istore (M := mX7_atLeast) (pc := 83) (lo' := [_, _, _, _, _, _, _]) dX7_atLeast_83 (LE rfl) (LE rfl) (Or.inr rfl) rfl ?_
              refine wp_iload_n (M := mX7_atLeast) (pc := 85) dX7_atLeast_85 rfl ?_
              refine wp_iload (M := mX7_atLeast) (pc := 86) dX7_atLeast_86 rfl ?_
              refine wp_if_eq (M := mX7_atLeast) (pc := 88) (tgt := 103) dX7_atLeast_88 rfl (fun t88 => ?_) (fun f88 => ?_)
              · refine wp_iconst (M := mX7_atLeast) (pc := 103) (v := 0) dX7_atLeast_103 ci_0 ?_
                refine wp_iadd (M := mX7_atLeast) (pc := 104) dX7_atLeast_104 ?_
                refine so_istore_n (M := mX7_atLeast) (pc := 105) (lo' := [_, _, _, _, _, _, _]) dX7_atLeast_105 (LE rfl) (LE rfl) (Or.inr rfl) rfl ?_
                refine so_iinc (M := mX7_atLeast) (pc := 106) (lo' := [_, _, _, _, _, _, _]) dX7_atLeast_106 rfl ci_1 (LE rfl) rfl ?_
                refine wp_goto (M := mX7_atLeast) (pc := 109) (tgt := 5) dX7_atLeast_109 rfl ?_
                rw [show nI i + 1 = nI (i + 1) from nI_1 i]
                have hz := fun y z => ih (i + 1) y z (by omega) (by omega)
                first
                | exact absurd t42 (by decide)
                | exact absurd rfl t42
                | exact absurd f42 (by decide)
                | exact absurd t46 (by decide)
                | exact absurd rfl f46
                | exact absurd t88 (by decide)
                | exact absurd rfl f88
                | (rw [osm_no (gf_n1 o1 f33 o5)] at hz; rw [Int32.add_zero]; exact hz _ _)
                | (rw [osm_no (gf_n2 o2 t75)] at hz; rw [Int32.add_zero]; exact hz _ _)
                | (rw [osm_ye (gf_y o1 t33 o2 f75)] at hz; rw [o3]; exact hz _ _)
                | fail "leaf"
              · refine wp_aload_n (M := mX7_atLeast) (pc := 91) dX7_atLeast_91 rfl ?_
                refine wp_getR (M := mX7_atLeast) (pc := 92) fa_X7_7 rfl dX7_atLeast_92 (by first | exact Hm.k | exact Hm.a rfl | fail "kd") (Hm.r rfl) ?_
                refine wp_iload (M := mX7_atLeast) (pc := 95) dX7_atLeast_95 rfl ?_
                refine wp_iconst (M := mX7_atLeast) (pc := 97) (v := 3) dX7_atLeast_97 ci_3 ?_
                refine wp_iadd (M := mX7_atLeast) (pc := 98) dX7_atLeast_98 ?_
                refine wr_iaload (M := mX7_atLeast) (pc := 99) dX7_atLeast_99 (by first | exact Hm.k | exact Hm.a rfl | fail "kd") (ia rfl (show (3 : Int32) = nI 3 from rfl)) (by omega) (by decide) ?_
                refine wp_goto (M := mX7_atLeast) (pc := 100) (tgt := 104) dX7_atLeast_100 rfl ?_
                refine wp_iadd (M := mX7_atLeast) (pc := 104) dX7_atLeast_104 ?_
                refine so_istore_n (M := mX7_atLeast) (pc := 105) (lo' := [_, _, _, _, _, _, _]) dX7_atLeast_105 (LE rfl) (LE rfl) (Or.inr rfl) rfl ?_
                refine so_iinc (M := mX7_atLeast) (pc := 106) (lo' := [_, _, _, _, _, _, _]) dX7_atLeast_106 rfl ci_1 (LE rfl) rfl ?_
                refine wp_goto (M := mX7_atLeast) (pc := 109) (tgt := 5) dX7_atLeast_109 rfl ?_
                rw [show nI i + 1 = nI (i + 1) from nI_1 i]
                have hz := fun y z => ih (i + 1) y z (by omega) (by omega)
                first
                | exact absurd t42 (by decide)
                | exact absurd rfl t42
                | exact absurd f42 (by decide)
                | exact absurd t46 (by decide)
                | exact absurd rfl f46
                | exact absurd t88 (by decide)
                | exact absurd rfl f88
                | (rw [osm_no (gf_n1 o1 f33 o5)] at hz; rw [Int32.add_zero]; exact hz _ _)
                | (rw [osm_no (gf_n2 o2 t75)] at hz; rw [Int32.add_zero]; exact hz _ _)
                | (rw [osm_ye (gf_y o1 t33 o2 f75)] at hz; rw [o3]; exact hz _ _)
                | fail "leaf"
            · refine wp_goto (M := mX7_atLeast) (pc := 62) (tgt := 78) dX7_atLeast_62 rfl ?_
              refine wp_iconst (M := mX7_atLeast) (pc := 78) (v := 1) dX7_atLeast_78 ci_1 ?_
              refine wp_goto (M := mX7_atLeast) (pc := 79) (tgt := 83) dX7_atLeast_79 rfl ?_
              refine so_istore (M := mX7_atLeast) (pc := 83) (lo' := [_, _, _, _, _, _, _]) dX7_atLeast_83 (LE rfl) (LE rfl) (Or.inr rfl) rfl ?_
              refine wp_iload_n (M := mX7_atLeast) (pc := 85) dX7_atLeast_85 rfl ?_
              refine wp_iload (M := mX7_atLeast) (pc := 86) dX7_atLeast_86 rfl ?_
              refine wp_if_eq (M := mX7_atLeast) (pc := 88) (tgt := 103) dX7_atLeast_88 rfl (fun t88 => ?_) (fun f88 => ?_)
              · refine wp_iconst (M := mX7_atLeast) (pc := 103) (v := 0) dX7_atLeast_103 ci_0 ?_
                refine wp_iadd (M := mX7_atLeast) (pc := 104) dX7_atLeast_104 ?_
                refine so_istore_n (M := mX7_atLeast) (pc := 105) (lo' := [_, _, _, _, _, _, _]) dX7_atLeast_105 (LE rfl) (LE rfl) (Or.inr rfl) rfl ?_
                refine so_iinc (M := mX7_atLeast) (pc := 106) (lo' := [_, _, _, _, _, _, _]) dX7_atLeast_106 rfl ci_1 (LE rfl) rfl ?_
                refine wp_goto (M := mX7_atLeast) (pc := 109) (tgt := 5) dX7_atLeast_109 rfl ?_
                rw [show nI i + 1 = nI (i + 1) from nI_1 i]
                have hz := fun y z => ih (i + 1) y z (by omega) (by omega)
                first
                | exact absurd t42 (by decide)
                | exact absurd rfl t42
                | exact absurd f42 (by decide)
                | exact absurd t46 (by decide)
                | exact absurd rfl f46
                | exact absurd t88 (by decide)
                | exact absurd rfl f88
                | (rw [osm_no (gf_n1 o1 f33 o5)] at hz; rw [Int32.add_zero]; exact hz _ _)
                | (rw [osm_no (gf_n2 o2 t75)] at hz; rw [Int32.add_zero]; exact hz _ _)
                | (rw [osm_ye (gf_y o1 t33 o2 f75)] at hz; rw [o3]; exact hz _ _)
                | fail "leaf"
              · refine wp_aload_n (M := mX7_atLeast) (pc := 91) dX7_atLeast_91 rfl ?_
                refine wp_getR (M := mX7_atLeast) (pc := 92) fa_X7_7 rfl dX7_atLeast_92 (by first | exact Hm.k | exact Hm.a rfl | fail "kd") (Hm.r rfl) ?_
                refine wp_iload (M := mX7_atLeast) (pc := 95) dX7_atLeast_95 rfl ?_
                refine wp_iconst (M := mX7_atLeast) (pc := 97) (v := 3) dX7_atLeast_97 ci_3 ?_
                refine wp_iadd (M := mX7_atLeast) (pc := 98) dX7_atLeast_98 ?_
                refine wr_iaload (M := mX7_atLeast) (pc := 99) dX7_atLeast_99 (by first | exact Hm.k | exact Hm.a rfl | fail "kd") (ia rfl (show (3 : Int32) = nI 3 from rfl)) (by omega) (by decide) ?_
                refine wp_goto (M := mX7_atLeast) (pc := 100) (tgt := 104) dX7_atLeast_100 rfl ?_
                refine wp_iadd (M := mX7_atLeast) (pc := 104) dX7_atLeast_104 ?_
                refine so_istore_n (M := mX7_atLeast) (pc := 105) (lo' := [_, _, _, _, _, _, _]) dX7_atLeast_105 (LE rfl) (LE rfl) (Or.inr rfl) rfl ?_
                refine so_iinc (M := mX7_atLeast) (pc := 106) (lo' := [_, _, _, _, _, _, _]) dX7_atLeast_106 rfl ci_1 (LE rfl) rfl ?_
                refine wp_goto (M := mX7_atLeast) (pc := 109) (tgt := 5) dX7_atLeast_109 rfl ?_
                rw [show nI i + 1 = nI (i + 1) from nI_1 i]
                have hz := fun y z => ih (i + 1) y z (by omega) (by omega)
                first
                | exact absurd t42 (by decide)
                | exact absurd rfl t42
                | exact absurd f42 (by decide)
                | exact absurd t46 (by decide)
                | exact absurd rfl f46
                | exact absurd t88 (by decide)
                | exact absurd rfl f88
                | (rw [osm_no (gf_n1 o1 f33 o5)] at hz; rw [Int32.add_zero]; exact hz _ _)
                | (rw [osm_no (gf_n2 o2 t75)] at hz; rw [Int32.add_zero]; exact hz _ _)
                | (rw [osm_ye (gf_y o1 t33 o2 f75)] at hz; rw [o3]; exact hz _ _)
                | fail "leaf"
set_option maxHeartbeats 4000000 in
set_option maxRecDepth 100000 in
theorem sp_X7_atLeast0 {me : Nat} {ad : Nat → Nat} {A : Sta} {p : Int32} (Hm : MoL h me ad) (hR : RepR (gi h (ad 1)) A) (k : Q (.inl (some (.int (osm (gf p) A (sO A).length)))) h) : WPx E mX7_atLeast 0 [some (.ref me), some (.int 0), some (.int p), none, none, none, none] [] (0, 0) h Q := by
  refine wp_iconst (M := mX7_atLeast) (pc := 0) (v := 0) dX7_atLeast_0 ci_0 ?_
  refine so_istore_n (M := mX7_atLeast) (pc := 1) (lo' := [_, _, _, _, _, _, _]) dX7_atLeast_1 (LE rfl) (LE rfl) (Or.inr rfl) rfl ?_
  refine wp_iconst (M := mX7_atLeast) (pc := 2) (v := 0) dX7_atLeast_2 ci_0 ?_
  refine so_istore (M := mX7_atLeast) (pc := 3) (lo' := [_, _, _, _, _, _, _]) dX7_atLeast_3 (LE rfl) (LE rfl) (Or.inr rfl) rfl ?_
  exact lp_X7_atLeast0 Hm hR k ((sO A).length + 1) 0 none none (by omega) (by omega)
set_option maxHeartbeats 4000000 in
set_option maxRecDepth 100000 in
theorem sp_X7_demand {me : Nat} {ad : Nat → Nat} {X : Abs} {w : Int32} (H : WM h me ad X)  (k1 : wth w 1 99 → ∀ h', WM h' me ad X → gi h' me 0 = 0 → Ow me h h' → Q (.inl (some (.int (wantA (xA X) w)))) h') (k2 : ¬ wth w 1 99 → ∀ h', WM h' me ad X → gi h' me 0 = 1 → Ow me h h' → Q (.inl (some (.int 0))) h') : WPx E mX7_demand 0 [some (.ref me), some (.int w)] [] (0, 0) h Q := by
  have Hm := H.1
  have hR := H.2.1
  have n6 := hR.n6
  have n12 := hR.n12
  refine wp_aload_n (M := mX7_demand) (pc := 0) dX7_demand_0 rfl ?_
  refine wp_iload_n (M := mX7_demand) (pc := 1) dX7_demand_1 rfl ?_
  refine wp_i2l (M := mX7_demand) (pc := 2) dX7_demand_2 ?_
  refine wp_lconst (M := mX7_demand) (pc := 3) (v := 1) dX7_demand_3 cl_1 ?_
  refine wp_ldc2_w (M := mX7_demand) (pc := 4) wv_X7_206 dX7_demand_4 ?_
  refine so_S3 (M := mX7_demand) (pc := 7) cs_X7_demand_65 rfl rfl (LE rfl) (LE rfl) dX7_demand_7 ?_
  refine sp_X7_in ?_
  rw [b01_iff (wl (x := w) (a := 1) (b := 99) (a' := 1) (b' := 99) (by decide) (by decide))]
  refine kI ?_
  refine wp_if_eq (M := mX7_demand) (pc := 10) (tgt := 17) dX7_demand_10 rfl (fun t10 => ?_) (fun f10 => ?_)
  · refine wp_iconst (M := mX7_demand) (pc := 17) (v := 1) dX7_demand_17 ci_1 ?_
    refine so_V1 (M := mX7_demand) (pc := 18) cs_X7_demand_74 rfl rfl (LE rfl) (LE rfl) dX7_demand_18 Hm.k ?_
    refine sp_X7_refused1 (v := 1) Hm.k (by decide) ?_
    refine kI ?_
    refine wp_if_eq (M := mX7_demand) (pc := 21) (tgt := 26) dX7_demand_21 rfl (fun t21 => ?_) (fun f21 => ?_)
    · exact absurd t21 (by decide)
    · refine wp_iconst (M := mX7_demand) (pc := 24) (v := 0) dX7_demand_24 ci_0 ?_
      refine wp_ireturn (M := mX7_demand) (pc := 25) rfl dX7_demand_25 ?_
      exact k2 (b01_z t10) _ H.ref gi_si_same (Fr.si Hm.t)
  · refine wp_iconst (M := mX7_demand) (pc := 13) (v := 0) dX7_demand_13 ci_0 ?_
    refine wp_goto (M := mX7_demand) (pc := 14) (tgt := 18) dX7_demand_14 rfl ?_
    refine so_V1 (M := mX7_demand) (pc := 18) cs_X7_demand_74 rfl rfl (LE rfl) (LE rfl) dX7_demand_18 Hm.k ?_
    refine sp_X7_refused0 Hm.k ?_
    refine kI ?_
    refine wp_if_eq (M := mX7_demand) (pc := 21) (tgt := 26) dX7_demand_21 rfl (fun t21 => ?_) (fun f21 => ?_)
    · refine wp_gen (P := fun hX => WM hX me ad X ∧ gi hX me 0 = 0 ∧ Ow me h hX) ⟨H.ref, gi_si_same, Fr.si Hm.t⟩ (fun h0 HX => ?_)
      obtain ⟨H, z0, F0⟩ := HX
      have Hm := H.1
      have hR := H.2.1
      refine wp_aload_n (M := mX7_demand) (pc := 26) dX7_demand_26 rfl ?_
      refine wp_iconst (M := mX7_demand) (pc := 27) (v := 1) dX7_demand_27 ci_1 ?_
      refine wp_iload_n (M := mX7_demand) (pc := 28) dX7_demand_28 rfl ?_
      refine so_V2 (M := mX7_demand) (pc := 29) cs_X7_demand_238 rfl rfl (LE rfl) (LE rfl) dX7_demand_29 (by first | exact Hm.k | exact Hm.a rfl | fail "kd") ?_
      refine sp_X7_atLeast1 Hm hR ?_
      refine kI ?_
      refine wp_ireturn (M := mX7_demand) (pc := 32) rfl dX7_demand_32 ?_
      exact k1 (b01_n f10) h0 H z0 F0
    · exact absurd rfl f21
set_option maxHeartbeats 4000000 in
set_option maxRecDepth 100000 in
theorem sp_X7_supply {me : Nat} {ad : Nat → Nat} {X : Abs} {w : Int32} (H : WM h me ad X)  (k1 : wth w 1 99 → ∀ h', WM h' me ad X → gi h' me 0 = 0 → Ow me h h' → Q (.inl (some (.int (offA (xA X) w)))) h') (k2 : ¬ wth w 1 99 → ∀ h', WM h' me ad X → gi h' me 0 = 1 → Ow me h h' → Q (.inl (some (.int 0))) h') : WPx E mX7_supply 0 [some (.ref me), some (.int w)] [] (0, 0) h Q := by
  have Hm := H.1
  have hR := H.2.1
  have n6 := hR.n6
  have n12 := hR.n12
  refine wp_aload_n (M := mX7_supply) (pc := 0) dX7_supply_0 rfl ?_
  refine wp_iload_n (M := mX7_supply) (pc := 1) dX7_supply_1 rfl ?_
  refine wp_i2l (M := mX7_supply) (pc := 2) dX7_supply_2 ?_
  refine wp_lconst (M := mX7_supply) (pc := 3) (v := 1) dX7_supply_3 cl_1 ?_
  refine wp_ldc2_w (M := mX7_supply) (pc := 4) wv_X7_206 dX7_supply_4 ?_
  refine so_S3 (M := mX7_supply) (pc := 7) cs_X7_supply_65 rfl rfl (LE rfl) (LE rfl) dX7_supply_7 ?_
  refine sp_X7_in ?_
  rw [b01_iff (wl (x := w) (a := 1) (b := 99) (a' := 1) (b' := 99) (by decide) (by decide))]
  refine kI ?_
  refine wp_if_eq (M := mX7_supply) (pc := 10) (tgt := 17) dX7_supply_10 rfl (fun t10 => ?_) (fun f10 => ?_)
  · refine wp_iconst (M := mX7_supply) (pc := 17) (v := 1) dX7_supply_17 ci_1 ?_
    refine so_V1 (M := mX7_supply) (pc := 18) cs_X7_supply_74 rfl rfl (LE rfl) (LE rfl) dX7_supply_18 Hm.k ?_
    refine sp_X7_refused1 (v := 1) Hm.k (by decide) ?_
    refine kI ?_
    refine wp_if_eq (M := mX7_supply) (pc := 21) (tgt := 26) dX7_supply_21 rfl (fun t21 => ?_) (fun f21 => ?_)
    · exact absurd t21 (by decide)
    · refine wp_iconst (M := mX7_supply) (pc := 24) (v := 0) dX7_supply_24 ci_0 ?_
      refine wp_ireturn (M := mX7_supply) (pc := 25) rfl dX7_supply_25 ?_
      exact k2 (b01_z t10) _ H.ref gi_si_same (Fr.si Hm.t)
  · refine wp_iconst (M := mX7_supply) (pc := 13) (v := 0) dX7_supply_13 ci_0 ?_
    refine wp_goto (M := mX7_supply) (pc := 14) (tgt := 18) dX7_supply_14 rfl ?_
    refine so_V1 (M := mX7_supply) (pc := 18) cs_X7_supply_74 rfl rfl (LE rfl) (LE rfl) dX7_supply_18 Hm.k ?_
    refine sp_X7_refused0 Hm.k ?_
    refine kI ?_
    refine wp_if_eq (M := mX7_supply) (pc := 21) (tgt := 26) dX7_supply_21 rfl (fun t21 => ?_) (fun f21 => ?_)
    · refine wp_gen (P := fun hX => WM hX me ad X ∧ gi hX me 0 = 0 ∧ Ow me h hX) ⟨H.ref, gi_si_same, Fr.si Hm.t⟩ (fun h0 HX => ?_)
      obtain ⟨H, z0, F0⟩ := HX
      have Hm := H.1
      have hR := H.2.1
      refine wp_aload_n (M := mX7_supply) (pc := 26) dX7_supply_26 rfl ?_
      refine wp_iconst (M := mX7_supply) (pc := 27) (v := 0) dX7_supply_27 ci_0 ?_
      refine wp_iload_n (M := mX7_supply) (pc := 28) dX7_supply_28 rfl ?_
      refine so_V2 (M := mX7_supply) (pc := 29) cs_X7_supply_238 rfl rfl (LE rfl) (LE rfl) dX7_supply_29 (by first | exact Hm.k | exact Hm.a rfl | fail "kd") ?_
      refine sp_X7_atLeast0 Hm hR ?_
      refine kI ?_
      refine wp_ireturn (M := mX7_supply) (pc := 32) rfl dX7_supply_32 ?_
      exact k1 (b01_n f10) h0 H z0 F0
    · exact absurd rfl f21
set_option maxHeartbeats 4000000 in
set_option maxRecDepth 100000 in
theorem sp_X7_auction {me : Nat} {ad : Nat → Nat} {X : Abs} {w : Int32} (H : WM h me ad X)  (k1 : ∀ j, j ≤ 3 → w = nI j → ∀ h', WM h' me ad X → gi h' me 0 = 0 → Ow me h h' → Q (.inl (some (.int (aucR (xA X) j)))) h') (k2 : ¬ wth w 0 3 → ∀ h', WM h' me ad X → gi h' me 0 = 1 → Ow me h h' → Q (.inl (some (.int 0))) h') : WPx E mX7_auction 0 [some (.ref me), some (.int w)] [] (0, 0) h Q := by
  have Hm := H.1
  have hR := H.2.1
  have n6 := hR.n6
  have n12 := hR.n12
  refine wp_aload_n (M := mX7_auction) (pc := 0) dX7_auction_0 rfl ?_
  refine wp_iload_n (M := mX7_auction) (pc := 1) dX7_auction_1 rfl ?_
  refine wp_i2l (M := mX7_auction) (pc := 2) dX7_auction_2 ?_
  refine wp_lconst (M := mX7_auction) (pc := 3) (v := 0) dX7_auction_3 cl_0 ?_
  refine wp_ldc2_w (M := mX7_auction) (pc := 4) wv_X7_242 dX7_auction_4 ?_
  refine so_S3 (M := mX7_auction) (pc := 7) cs_X7_auction_65 rfl rfl (LE rfl) (LE rfl) dX7_auction_7 ?_
  refine sp_X7_in ?_
  rw [b01_iff (wl (x := w) (a := 0) (b := 3) (a' := 0) (b' := 3) (by decide) (by decide))]
  refine kI ?_
  refine wp_if_eq (M := mX7_auction) (pc := 10) (tgt := 17) dX7_auction_10 rfl (fun t10 => ?_) (fun f10 => ?_)
  · refine wp_iconst (M := mX7_auction) (pc := 17) (v := 1) dX7_auction_17 ci_1 ?_
    refine so_V1 (M := mX7_auction) (pc := 18) cs_X7_auction_74 rfl rfl (LE rfl) (LE rfl) dX7_auction_18 Hm.k ?_
    refine sp_X7_refused1 (v := 1) Hm.k (by decide) ?_
    refine kI ?_
    refine wp_if_eq (M := mX7_auction) (pc := 21) (tgt := 26) dX7_auction_21 rfl (fun t21 => ?_) (fun f21 => ?_)
    · exact absurd t21 (by decide)
    · refine wp_iconst (M := mX7_auction) (pc := 24) (v := 0) dX7_auction_24 ci_0 ?_
      refine wp_ireturn (M := mX7_auction) (pc := 25) rfl dX7_auction_25 ?_
      exact k2 (b01_z t10) _ H.ref gi_si_same (Fr.si Hm.t)
  · refine wp_iconst (M := mX7_auction) (pc := 13) (v := 0) dX7_auction_13 ci_0 ?_
    refine wp_goto (M := mX7_auction) (pc := 14) (tgt := 18) dX7_auction_14 rfl ?_
    refine so_V1 (M := mX7_auction) (pc := 18) cs_X7_auction_74 rfl rfl (LE rfl) (LE rfl) dX7_auction_18 Hm.k ?_
    refine sp_X7_refused0 Hm.k ?_
    refine kI ?_
    refine wp_if_eq (M := mX7_auction) (pc := 21) (tgt := 26) dX7_auction_21 rfl (fun t21 => ?_) (fun f21 => ?_)
    · refine wp_gen (P := fun hX => WM hX me ad X ∧ gi hX me 0 = 0 ∧ Ow me h hX) ⟨H.ref, gi_si_same, Fr.si Hm.t⟩ (fun h0 HX => ?_)
      obtain ⟨H, z0, F0⟩ := HX
      have Hm := H.1
      have hR := H.2.1
      obtain ⟨j, hj, rfl⟩ := wth_nI (b := 3) (by decide) (b01_n f10)
      refine wp_aload_n (M := mX7_auction) (pc := 26) dX7_auction_26 rfl ?_
      refine wp_aload_n (M := mX7_auction) (pc := 27) dX7_auction_27 rfl ?_
      refine wp_getR (M := mX7_auction) (pc := 28) fa_X7_7 rfl dX7_auction_28 (by first | exact Hm2.k | exact Hm2.a rfl | exact Hm1.k | exact Hm.k | exact Hm.a rfl | fail "kd") (by first | exact Hm2.r rfl | exact Hm.r rfl) ?_
      refine wp_bipush (M := mX7_auction) (pc := 31) (v := 63) dX7_auction_31 cb_63 ?_
      refine so_V2 (M := mX7_auction) (pc := 33) cs_X7_auction_146 rfl rfl (LE rfl) (LE rfl) dX7_auction_33 (by first | exact Hm2.k | exact Hm2.a rfl | exact Hm1.k | exact Hm.k | exact Hm.a rfl | fail "kd") ?_
      refine sp_X7_layBench Hm (Hm.a rfl) hR (Hm.na (j := 1) rfl (by decide) (by decide) (by decide) (by decide)) (fun h1 Hm1 B1 F1 => ?_)
      rw [bn_all hR] at B1
      refine kV ?_
      refine wp_aload_n (M := mX7_auction) (pc := 36) dX7_auction_36 rfl ?_
      refine so_V0 (M := mX7_auction) (pc := 37) cs_X7_auction_150 rfl rfl (LE rfl) (LE rfl) dX7_auction_37 (by first | exact Hm2.k | exact Hm2.a rfl | exact Hm1.k | exact Hm.k | exact Hm.a rfl | fail "kd") ?_
      refine sp_X7_match Hm1 B1 (fun h2 Hm2 B2 F2 M2 => ?_)
      have F12 : FrB me ad (fun x => x = ad 2) h0 h2 := (F1.tr F2).mono (fun _ q => absurd q id)
      have H2 := H.B F12
      have z2 : gi h2 me 0 = 0 := by rw [F12.2.2 0 (by decide) (by decide) (by decide) (by decide)]; exact z0
      have O2 := F0.tr (FrB.ow Hm F12 (fun x e => by rw [e]; exact Hm.ta (k := 2) rfl))
      refine kV ?_
      refine wp_iload_n (M := mX7_auction) (pc := 40) dX7_auction_40 rfl ?_
      refine wp_if_ne (M := mX7_auction) (pc := 41) (tgt := 51) dX7_auction_41 rfl (fun t41 => ?_) (fun f41 => ?_)
      · have j0 : j ≠ 0 := fun e => t41 (by rw [e]; rfl)
        refine wp_iload_n (M := mX7_auction) (pc := 51) dX7_auction_51 rfl ?_
        refine wp_iconst (M := mX7_auction) (pc := 52) (v := 1) dX7_auction_52 ci_1 ?_
        refine wp_icmp_ne (M := mX7_auction) (pc := 53) (tgt := 63) dX7_auction_53 rfl (fun t53 => ?_) (fun f53 => ?_)
        · have j1 : j ≠ 1 := fun e => t53 (by rw [e]; rfl)
          refine wp_iload_n (M := mX7_auction) (pc := 63) dX7_auction_63 rfl ?_
          refine wp_iconst (M := mX7_auction) (pc := 64) (v := 2) dX7_auction_64 ci_2 ?_
          refine wp_icmp_ne (M := mX7_auction) (pc := 65) (tgt := 75) dX7_auction_65 rfl (fun t65 => ?_) (fun f65 => ?_)
          · have j2 : j ≠ 2 := fun e => t65 (by rw [e]; rfl)
            have j3 : j = 3 := by omega
            subst j3
            refine wp_aload_n (M := mX7_auction) (pc := 75) dX7_auction_75 rfl ?_
            refine so_V0 (M := mX7_auction) (pc := 76) cs_X7_auction_244 rfl rfl (LE rfl) (LE rfl) dX7_auction_76 (by first | exact Hm2.k | exact Hm2.a rfl | exact Hm1.k | exact Hm.k | exact Hm.a rfl | fail "kd") ?_
            refine sp_X7_goneBy Hm2 B2 M2 ?_
            refine kI ?_
            refine wp_ireturn (M := mX7_auction) (pc := 79) rfl dX7_auction_79 ?_
            first
            | rw [M2.2.1]; exact k1 0 hj rfl h2 H2 z2 O2
            | rw [M2.2.2.1]; exact k1 1 hj rfl h2 H2 z2 O2
            | rw [M2.2.2.2]; exact k1 2 hj rfl h2 H2 z2 O2
            | exact k1 3 hj rfl h2 H2 z2 O2
            | fail "leaf"
          · have j2 : j = 2 := (i_eq (b := 2) (by omega) (by decide)).mp f65
            subst j2
            refine wp_aload_n (M := mX7_auction) (pc := 68) dX7_auction_68 rfl ?_
            refine wp_getI (M := mX7_auction) (pc := 69) fa_X7_170 rfl dX7_auction_69 (by first | exact Hm2.k | exact Hm2.a rfl | exact Hm1.k | exact Hm.k | exact Hm.a rfl | fail "kd") ?_
            refine wp_goto (M := mX7_auction) (pc := 72) (tgt := 79) dX7_auction_72 rfl ?_
            refine wp_ireturn (M := mX7_auction) (pc := 79) rfl dX7_auction_79 ?_
            first
            | rw [M2.2.1]; exact k1 0 hj rfl h2 H2 z2 O2
            | rw [M2.2.2.1]; exact k1 1 hj rfl h2 H2 z2 O2
            | rw [M2.2.2.2]; exact k1 2 hj rfl h2 H2 z2 O2
            | exact k1 3 hj rfl h2 H2 z2 O2
            | fail "leaf"
        · have j1 : j = 1 := (i_eq (b := 1) (by omega) (by decide)).mp f53
          subst j1
          refine wp_aload_n (M := mX7_auction) (pc := 56) dX7_auction_56 rfl ?_
          refine wp_getI (M := mX7_auction) (pc := 57) fa_X7_167 rfl dX7_auction_57 (by first | exact Hm2.k | exact Hm2.a rfl | exact Hm1.k | exact Hm.k | exact Hm.a rfl | fail "kd") ?_
          refine wp_goto (M := mX7_auction) (pc := 60) (tgt := 79) dX7_auction_60 rfl ?_
          refine wp_ireturn (M := mX7_auction) (pc := 79) rfl dX7_auction_79 ?_
          first
          | rw [M2.2.1]; exact k1 0 hj rfl h2 H2 z2 O2
          | rw [M2.2.2.1]; exact k1 1 hj rfl h2 H2 z2 O2
          | rw [M2.2.2.2]; exact k1 2 hj rfl h2 H2 z2 O2
          | exact k1 3 hj rfl h2 H2 z2 O2
          | fail "leaf"
      · have j0 : j = 0 := (i_eq (b := 0) (by omega) (by decide)).mp f41
        subst j0
        refine wp_aload_n (M := mX7_auction) (pc := 44) dX7_auction_44 rfl ?_
        refine wp_getI (M := mX7_auction) (pc := 45) fa_X7_164 rfl dX7_auction_45 (by first | exact Hm2.k | exact Hm2.a rfl | exact Hm1.k | exact Hm.k | exact Hm.a rfl | fail "kd") ?_
        refine wp_goto (M := mX7_auction) (pc := 48) (tgt := 79) dX7_auction_48 rfl ?_
        refine wp_ireturn (M := mX7_auction) (pc := 79) rfl dX7_auction_79 ?_
        first
        | rw [M2.2.1]; exact k1 0 hj rfl h2 H2 z2 O2
        | rw [M2.2.2.1]; exact k1 1 hj rfl h2 H2 z2 O2
        | rw [M2.2.2.2]; exact k1 2 hj rfl h2 H2 z2 O2
        | exact k1 3 hj rfl h2 H2 z2 O2
        | fail "leaf"
    · exact absurd rfl f21
set_option maxHeartbeats 4000000 in
set_option maxRecDepth 100000 in
theorem sp_X7_volumeIf {me : Nat} {ad : Nat → Nat} {X : Abs} {t y p z : Int32} (H : WM h me ad X)  (k1 : ∀ j, isT (xA X) t → j ≤ 2 → y = nI j → wth p 1 99 → wth z 1 99 → ∀ h', WM h' me ad X → gi h' me 0 = 0 → Ow me h h' → Q (.inl (some (.int (volR (xA X) j p z)))) h') (k2 : ¬ isT (xA X) t → ∀ h', WM h' me ad X → gi h' me 0 = 1 → Ow me h h' → Q (.inl (some (.int 0))) h') (k3 : isT (xA X) t → ¬ (wth y 0 2 ∧ wth p 1 99 ∧ wth z 1 99) → ∀ h', WM h' me ad X → gi h' me 0 = 2 → Ow me h h' → Q (.inl (some (.int 0))) h') : WPx E mX7_volumeIf 0 [some (.ref me), some (.int t), some (.int y), some (.int p), some (.int z), none] [] (0, 0) h Q := by
  have Hm := H.1
  have hR := H.2.1
  have n6 := hR.n6
  have n12 := hR.n12
  refine wp_iload_n (M := mX7_volumeIf) (pc := 0) dX7_volumeIf_0 rfl ?_
  refine wp_i2l (M := mX7_volumeIf) (pc := 1) dX7_volumeIf_1 ?_
  refine wp_lconst (M := mX7_volumeIf) (pc := 2) (v := 0) dX7_volumeIf_2 cl_0 ?_
  refine wp_ldc2_w (M := mX7_volumeIf) (pc := 3) wv_X7_247 dX7_volumeIf_3 ?_
  refine so_S3 (M := mX7_volumeIf) (pc := 6) cs_X7_volumeIf_65 rfl rfl (LE rfl) (LE rfl) dX7_volumeIf_6 ?_
  refine sp_X7_in ?_
  rw [b01_iff (wl (x := y) (a := 0) (b := 2) (a' := 0) (b' := 2) (by decide) (by decide))]
  refine kI ?_
  refine wp_if_eq (M := mX7_volumeIf) (pc := 9) (tgt := 41) dX7_volumeIf_9 rfl (fun t9 => ?_) (fun f9 => ?_)
  · refine wp_iconst (M := mX7_volumeIf) (pc := 41) (v := 0) dX7_volumeIf_41 ci_0 ?_
    refine so_istore (M := mX7_volumeIf) (pc := 42) (lo' := [_, _, _, _, _, _]) dX7_volumeIf_42 (LE rfl) (LE rfl) (Or.inr rfl) rfl ?_
    refine wp_aload_n (M := mX7_volumeIf) (pc := 44) dX7_volumeIf_44 rfl ?_
    refine wp_aload_n (M := mX7_volumeIf) (pc := 45) dX7_volumeIf_45 rfl ?_
    refine wp_getR (M := mX7_volumeIf) (pc := 46) fa_X7_7 rfl dX7_volumeIf_46 (by first | exact Hm.k | exact Hm.a rfl | fail "kd") (Hm.r rfl) ?_
    refine wp_iload_n (M := mX7_volumeIf) (pc := 49) dX7_volumeIf_49 rfl ?_
    refine so_S2 (M := mX7_volumeIf) (pc := 50) cs_X7_volumeIf_94 rfl rfl (LE rfl) (LE rfl) dX7_volumeIf_50 ?_
    refine sp_X7_isTenant (Hm.a rfl) hR ?_
    refine kI ?_
    refine wp_if_ne (M := mX7_volumeIf) (pc := 53) (tgt := 60) dX7_volumeIf_53 rfl (fun t53 => ?_) (fun f53 => ?_)
    · refine wp_iload (M := mX7_volumeIf) (pc := 60) dX7_volumeIf_60 rfl ?_
      refine wp_if_ne (M := mX7_volumeIf) (pc := 62) (tgt := 69) dX7_volumeIf_62 rfl (fun t62 => ?_) (fun f62 => ?_)
      · refine wp_iconst (M := mX7_volumeIf) (pc := 69) (v := 0) dX7_volumeIf_69 ci_0 ?_
        refine so_V1 (M := mX7_volumeIf) (pc := 70) cs_X7_volumeIf_74 rfl rfl (LE rfl) (LE rfl) dX7_volumeIf_70 Hm.k ?_
        refine sp_X7_refused0 Hm.k ?_
        refine kI ?_
        refine wp_if_eq (M := mX7_volumeIf) (pc := 73) (tgt := 78) dX7_volumeIf_73 rfl (fun t73 => ?_) (fun f73 => ?_)
        · refine wp_gen (P := fun hX => WM hX me ad X ∧ gi hX me 0 = 0 ∧ Ow me h hX) ⟨H.ref, gi_si_same, Fr.si Hm.t⟩ (fun h0 HX => ?_)
          obtain ⟨H, z0, F0⟩ := HX
          have Hm := H.1
          have hR := H.2.1
          first
          | exact absurd rfl t62
          | (obtain ⟨j, hj, rfl⟩ := wth_nI (b := 2) (by decide) (b01_n f9)
             refine wp_aload_n (M := mX7_volumeIf) (pc := 78) dX7_volumeIf_78 rfl ?_
             refine wp_aload_n (M := mX7_volumeIf) (pc := 79) dX7_volumeIf_79 rfl ?_
             refine wp_getR (M := mX7_volumeIf) (pc := 80) fa_X7_7 rfl dX7_volumeIf_80 (by first | exact Hm3.k | exact Hm2.k | exact Hm1.k | exact Hm.k | fail "kd") (Hm.r rfl) ?_
             refine wp_bipush (M := mX7_volumeIf) (pc := 83) (v := 63) dX7_volumeIf_83 cb_63 ?_
             refine so_V2 (M := mX7_volumeIf) (pc := 85) cs_X7_volumeIf_146 rfl rfl (LE rfl) (LE rfl) dX7_volumeIf_85 (by first | exact Hm3.k | exact Hm2.k | exact Hm1.k | exact Hm.k | fail "kd") ?_
             refine sp_X7_layBench Hm (Hm.a rfl) hR (Hm.na (j := 1) rfl (by decide) (by decide) (by decide) (by decide)) (fun h1 Hm1 B1 F1 => ?_)
             rw [bn_all hR] at B1
             refine kV ?_
             refine wp_aload_n (M := mX7_volumeIf) (pc := 88) dX7_volumeIf_88 rfl ?_
             refine wp_iload_n (M := mX7_volumeIf) (pc := 89) dX7_volumeIf_89 rfl ?_
             refine wp_iload_n (M := mX7_volumeIf) (pc := 90) dX7_volumeIf_90 rfl ?_
             refine wp_iload_n (M := mX7_volumeIf) (pc := 91) dX7_volumeIf_91 rfl ?_
             refine wp_iload (M := mX7_volumeIf) (pc := 92) dX7_volumeIf_92 rfl ?_
             refine so_V4 (M := mX7_volumeIf) (pc := 94) cs_X7_volumeIf_249 rfl rfl (LE rfl) (LE rfl) dX7_volumeIf_94 (by first | exact Hm3.k | exact Hm2.k | exact Hm1.k | exact Hm.k | fail "kd") ?_
             refine sp_X7_benchMore (w := 0) Hm1 B1 (by have := hR.n12; omega) (fun h2 Hm2 B2 F2 => ?_)
             refine kV ?_
             refine wp_aload_n (M := mX7_volumeIf) (pc := 97) dX7_volumeIf_97 rfl ?_
             refine so_V0 (M := mX7_volumeIf) (pc := 98) cs_X7_volumeIf_150 rfl rfl (LE rfl) (LE rfl) dX7_volumeIf_98 (by first | exact Hm3.k | exact Hm2.k | exact Hm1.k | exact Hm.k | fail "kd") ?_
             refine sp_X7_match Hm2 B2 (fun h3 Hm3 B3 F3 M3 => ?_)
             have F13 : FrB me ad (fun x => x = ad 2) h0 h3 := ((F1.tr F2).tr F3).mono (fun _ q => absurd q id)
             have H3 := H.B F13
             have z3 : gi h3 me 0 = 0 := WM.zB F13 z0
             have O3 := F0.tr (FrB.ow Hm F13 (fun x e => by rw [e]; exact Hm.ta (k := 2) rfl))
             refine kV ?_
             refine wp_aload_n (M := mX7_volumeIf) (pc := 101) dX7_volumeIf_101 rfl ?_
             refine wp_getI (M := mX7_volumeIf) (pc := 102) fa_X7_164 rfl dX7_volumeIf_102 (by first | exact Hm3.k | exact Hm2.k | exact Hm1.k | exact Hm.k | fail "kd") ?_
             refine wp_ireturn (M := mX7_volumeIf) (pc := 105) rfl dX7_volumeIf_105 ?_
             rw [M3.2.1]
             exact k1 j (b01_n t53) hj rfl (b01_n f21) (b01_n f34) h3 H3 z3 O3)
          | fail "leaf"
        · exact absurd rfl f73
      · refine wp_iconst (M := mX7_volumeIf) (pc := 65) (v := 2) dX7_volumeIf_65 ci_2 ?_
        refine wp_goto (M := mX7_volumeIf) (pc := 66) (tgt := 70) dX7_volumeIf_66 rfl ?_
        refine so_V1 (M := mX7_volumeIf) (pc := 70) cs_X7_volumeIf_74 rfl rfl (LE rfl) (LE rfl) dX7_volumeIf_70 Hm.k ?_
        refine sp_X7_refused1 (v := 2) Hm.k (by decide) ?_
        refine kI ?_
        refine wp_if_eq (M := mX7_volumeIf) (pc := 73) (tgt := 78) dX7_volumeIf_73 rfl (fun t73 => ?_) (fun f73 => ?_)
        · exact absurd t73 (by decide)
        · refine wp_iconst (M := mX7_volumeIf) (pc := 76) (v := 0) dX7_volumeIf_76 ci_0 ?_
          refine wp_ireturn (M := mX7_volumeIf) (pc := 77) rfl dX7_volumeIf_77 ?_
          first
          | exact k3 (b01_n t53) (fun e => b01_z t9 e.1) _ H.ref gi_si_same (Fr.si Hm.t)
          | exact k3 (b01_n t53) (fun e => b01_z t21 e.2.1) _ H.ref gi_si_same (Fr.si Hm.t)
          | exact k3 (b01_n t53) (fun e => b01_z t34 e.2.2) _ H.ref gi_si_same (Fr.si Hm.t)
          | exact absurd f62 (by decide)
          | fail "leaf"
    · refine wp_iconst (M := mX7_volumeIf) (pc := 56) (v := 1) dX7_volumeIf_56 ci_1 ?_
      refine wp_goto (M := mX7_volumeIf) (pc := 57) (tgt := 70) dX7_volumeIf_57 rfl ?_
      refine so_V1 (M := mX7_volumeIf) (pc := 70) cs_X7_volumeIf_74 rfl rfl (LE rfl) (LE rfl) dX7_volumeIf_70 Hm.k ?_
      refine sp_X7_refused1 (v := 1) Hm.k (by decide) ?_
      refine kI ?_
      refine wp_if_eq (M := mX7_volumeIf) (pc := 73) (tgt := 78) dX7_volumeIf_73 rfl (fun t73 => ?_) (fun f73 => ?_)
      · exact absurd t73 (by decide)
      · refine wp_iconst (M := mX7_volumeIf) (pc := 76) (v := 0) dX7_volumeIf_76 ci_0 ?_
        refine wp_ireturn (M := mX7_volumeIf) (pc := 77) rfl dX7_volumeIf_77 ?_
        exact k2 (b01_z f53) _ H.ref gi_si_same (Fr.si Hm.t)
  · refine wp_iload_n (M := mX7_volumeIf) (pc := 12) dX7_volumeIf_12 rfl ?_
    refine wp_i2l (M := mX7_volumeIf) (pc := 13) dX7_volumeIf_13 ?_
    refine wp_lconst (M := mX7_volumeIf) (pc := 14) (v := 1) dX7_volumeIf_14 cl_1 ?_
    refine wp_ldc2_w (M := mX7_volumeIf) (pc := 15) wv_X7_206 dX7_volumeIf_15 ?_
    refine so_S3 (M := mX7_volumeIf) (pc := 18) cs_X7_volumeIf_65 rfl rfl (LE rfl) (LE rfl) dX7_volumeIf_18 ?_
    refine sp_X7_in ?_
    rw [b01_iff (wl (x := p) (a := 1) (b := 99) (a' := 1) (b' := 99) (by decide) (by decide))]
    refine kI ?_
    refine wp_if_eq (M := mX7_volumeIf) (pc := 21) (tgt := 41) dX7_volumeIf_21 rfl (fun t21 => ?_) (fun f21 => ?_)
    · refine wp_iconst (M := mX7_volumeIf) (pc := 41) (v := 0) dX7_volumeIf_41 ci_0 ?_
      refine so_istore (M := mX7_volumeIf) (pc := 42) (lo' := [_, _, _, _, _, _]) dX7_volumeIf_42 (LE rfl) (LE rfl) (Or.inr rfl) rfl ?_
      refine wp_aload_n (M := mX7_volumeIf) (pc := 44) dX7_volumeIf_44 rfl ?_
      refine wp_aload_n (M := mX7_volumeIf) (pc := 45) dX7_volumeIf_45 rfl ?_
      refine wp_getR (M := mX7_volumeIf) (pc := 46) fa_X7_7 rfl dX7_volumeIf_46 (by first | exact Hm.k | exact Hm.a rfl | fail "kd") (Hm.r rfl) ?_
      refine wp_iload_n (M := mX7_volumeIf) (pc := 49) dX7_volumeIf_49 rfl ?_
      refine so_S2 (M := mX7_volumeIf) (pc := 50) cs_X7_volumeIf_94 rfl rfl (LE rfl) (LE rfl) dX7_volumeIf_50 ?_
      refine sp_X7_isTenant (Hm.a rfl) hR ?_
      refine kI ?_
      refine wp_if_ne (M := mX7_volumeIf) (pc := 53) (tgt := 60) dX7_volumeIf_53 rfl (fun t53 => ?_) (fun f53 => ?_)
      · refine wp_iload (M := mX7_volumeIf) (pc := 60) dX7_volumeIf_60 rfl ?_
        refine wp_if_ne (M := mX7_volumeIf) (pc := 62) (tgt := 69) dX7_volumeIf_62 rfl (fun t62 => ?_) (fun f62 => ?_)
        · refine wp_iconst (M := mX7_volumeIf) (pc := 69) (v := 0) dX7_volumeIf_69 ci_0 ?_
          refine so_V1 (M := mX7_volumeIf) (pc := 70) cs_X7_volumeIf_74 rfl rfl (LE rfl) (LE rfl) dX7_volumeIf_70 Hm.k ?_
          refine sp_X7_refused0 Hm.k ?_
          refine kI ?_
          refine wp_if_eq (M := mX7_volumeIf) (pc := 73) (tgt := 78) dX7_volumeIf_73 rfl (fun t73 => ?_) (fun f73 => ?_)
          · refine wp_gen (P := fun hX => WM hX me ad X ∧ gi hX me 0 = 0 ∧ Ow me h hX) ⟨H.ref, gi_si_same, Fr.si Hm.t⟩ (fun h0 HX => ?_)
            obtain ⟨H, z0, F0⟩ := HX
            have Hm := H.1
            have hR := H.2.1
            first
            | exact absurd rfl t62
            | (obtain ⟨j, hj, rfl⟩ := wth_nI (b := 2) (by decide) (b01_n f9)
               refine wp_aload_n (M := mX7_volumeIf) (pc := 78) dX7_volumeIf_78 rfl ?_
               refine wp_aload_n (M := mX7_volumeIf) (pc := 79) dX7_volumeIf_79 rfl ?_
               refine wp_getR (M := mX7_volumeIf) (pc := 80) fa_X7_7 rfl dX7_volumeIf_80 (by first | exact Hm3.k | exact Hm2.k | exact Hm1.k | exact Hm.k | fail "kd") (Hm.r rfl) ?_
               refine wp_bipush (M := mX7_volumeIf) (pc := 83) (v := 63) dX7_volumeIf_83 cb_63 ?_
               refine so_V2 (M := mX7_volumeIf) (pc := 85) cs_X7_volumeIf_146 rfl rfl (LE rfl) (LE rfl) dX7_volumeIf_85 (by first | exact Hm3.k | exact Hm2.k | exact Hm1.k | exact Hm.k | fail "kd") ?_
               refine sp_X7_layBench Hm (Hm.a rfl) hR (Hm.na (j := 1) rfl (by decide) (by decide) (by decide) (by decide)) (fun h1 Hm1 B1 F1 => ?_)
               rw [bn_all hR] at B1
               refine kV ?_
               refine wp_aload_n (M := mX7_volumeIf) (pc := 88) dX7_volumeIf_88 rfl ?_
               refine wp_iload_n (M := mX7_volumeIf) (pc := 89) dX7_volumeIf_89 rfl ?_
               refine wp_iload_n (M := mX7_volumeIf) (pc := 90) dX7_volumeIf_90 rfl ?_
               refine wp_iload_n (M := mX7_volumeIf) (pc := 91) dX7_volumeIf_91 rfl ?_
               refine wp_iload (M := mX7_volumeIf) (pc := 92) dX7_volumeIf_92 rfl ?_
               refine so_V4 (M := mX7_volumeIf) (pc := 94) cs_X7_volumeIf_249 rfl rfl (LE rfl) (LE rfl) dX7_volumeIf_94 (by first | exact Hm3.k | exact Hm2.k | exact Hm1.k | exact Hm.k | fail "kd") ?_
               refine sp_X7_benchMore (w := 0) Hm1 B1 (by have := hR.n12; omega) (fun h2 Hm2 B2 F2 => ?_)
               refine kV ?_
               refine wp_aload_n (M := mX7_volumeIf) (pc := 97) dX7_volumeIf_97 rfl ?_
               refine so_V0 (M := mX7_volumeIf) (pc := 98) cs_X7_volumeIf_150 rfl rfl (LE rfl) (LE rfl) dX7_volumeIf_98 (by first | exact Hm3.k | exact Hm2.k | exact Hm1.k | exact Hm.k | fail "kd") ?_
               refine sp_X7_match Hm2 B2 (fun h3 Hm3 B3 F3 M3 => ?_)
               have F13 : FrB me ad (fun x => x = ad 2) h0 h3 := ((F1.tr F2).tr F3).mono (fun _ q => absurd q id)
               have H3 := H.B F13
               have z3 : gi h3 me 0 = 0 := WM.zB F13 z0
               have O3 := F0.tr (FrB.ow Hm F13 (fun x e => by rw [e]; exact Hm.ta (k := 2) rfl))
               refine kV ?_
               refine wp_aload_n (M := mX7_volumeIf) (pc := 101) dX7_volumeIf_101 rfl ?_
               refine wp_getI (M := mX7_volumeIf) (pc := 102) fa_X7_164 rfl dX7_volumeIf_102 (by first | exact Hm3.k | exact Hm2.k | exact Hm1.k | exact Hm.k | fail "kd") ?_
               refine wp_ireturn (M := mX7_volumeIf) (pc := 105) rfl dX7_volumeIf_105 ?_
               rw [M3.2.1]
               exact k1 j (b01_n t53) hj rfl (b01_n f21) (b01_n f34) h3 H3 z3 O3)
            | fail "leaf"
          · exact absurd rfl f73
        · refine wp_iconst (M := mX7_volumeIf) (pc := 65) (v := 2) dX7_volumeIf_65 ci_2 ?_
          refine wp_goto (M := mX7_volumeIf) (pc := 66) (tgt := 70) dX7_volumeIf_66 rfl ?_
          refine so_V1 (M := mX7_volumeIf) (pc := 70) cs_X7_volumeIf_74 rfl rfl (LE rfl) (LE rfl) dX7_volumeIf_70 Hm.k ?_
          refine sp_X7_refused1 (v := 2) Hm.k (by decide) ?_
          refine kI ?_
          refine wp_if_eq (M := mX7_volumeIf) (pc := 73) (tgt := 78) dX7_volumeIf_73 rfl (fun t73 => ?_) (fun f73 => ?_)
          · exact absurd t73 (by decide)
          · refine wp_iconst (M := mX7_volumeIf) (pc := 76) (v := 0) dX7_volumeIf_76 ci_0 ?_
            refine wp_ireturn (M := mX7_volumeIf) (pc := 77) rfl dX7_volumeIf_77 ?_
            first
            | exact k3 (b01_n t53) (fun e => b01_z t9 e.1) _ H.ref gi_si_same (Fr.si Hm.t)
            | exact k3 (b01_n t53) (fun e => b01_z t21 e.2.1) _ H.ref gi_si_same (Fr.si Hm.t)
            | exact k3 (b01_n t53) (fun e => b01_z t34 e.2.2) _ H.ref gi_si_same (Fr.si Hm.t)
            | exact absurd f62 (by decide)
            | fail "leaf"
      · refine wp_iconst (M := mX7_volumeIf) (pc := 56) (v := 1) dX7_volumeIf_56 ci_1 ?_
        refine wp_goto (M := mX7_volumeIf) (pc := 57) (tgt := 70) dX7_volumeIf_57 rfl ?_
        refine so_V1 (M := mX7_volumeIf) (pc := 70) cs_X7_volumeIf_74 rfl rfl (LE rfl) (LE rfl) dX7_volumeIf_70 Hm.k ?_
        refine sp_X7_refused1 (v := 1) Hm.k (by decide) ?_
        refine kI ?_
        refine wp_if_eq (M := mX7_volumeIf) (pc := 73) (tgt := 78) dX7_volumeIf_73 rfl (fun t73 => ?_) (fun f73 => ?_)
        · exact absurd t73 (by decide)
        · refine wp_iconst (M := mX7_volumeIf) (pc := 76) (v := 0) dX7_volumeIf_76 ci_0 ?_
          refine wp_ireturn (M := mX7_volumeIf) (pc := 77) rfl dX7_volumeIf_77 ?_
          exact k2 (b01_z f53) _ H.ref gi_si_same (Fr.si Hm.t)
    · refine wp_iload (M := mX7_volumeIf) (pc := 24) dX7_volumeIf_24 rfl ?_
      refine wp_i2l (M := mX7_volumeIf) (pc := 26) dX7_volumeIf_26 ?_
      refine wp_lconst (M := mX7_volumeIf) (pc := 27) (v := 1) dX7_volumeIf_27 cl_1 ?_
      refine wp_ldc2_w (M := mX7_volumeIf) (pc := 28) wv_X7_206 dX7_volumeIf_28 ?_
      refine so_S3 (M := mX7_volumeIf) (pc := 31) cs_X7_volumeIf_65 rfl rfl (LE rfl) (LE rfl) dX7_volumeIf_31 ?_
      refine sp_X7_in ?_
      rw [b01_iff (wl (x := z) (a := 1) (b := 99) (a' := 1) (b' := 99) (by decide) (by decide))]
      refine kI ?_
      refine wp_if_eq (M := mX7_volumeIf) (pc := 34) (tgt := 41) dX7_volumeIf_34 rfl (fun t34 => ?_) (fun f34 => ?_)
      · refine wp_iconst (M := mX7_volumeIf) (pc := 41) (v := 0) dX7_volumeIf_41 ci_0 ?_
        refine so_istore (M := mX7_volumeIf) (pc := 42) (lo' := [_, _, _, _, _, _]) dX7_volumeIf_42 (LE rfl) (LE rfl) (Or.inr rfl) rfl ?_
        refine wp_aload_n (M := mX7_volumeIf) (pc := 44) dX7_volumeIf_44 rfl ?_
        refine wp_aload_n (M := mX7_volumeIf) (pc := 45) dX7_volumeIf_45 rfl ?_
        refine wp_getR (M := mX7_volumeIf) (pc := 46) fa_X7_7 rfl dX7_volumeIf_46 (by first | exact Hm.k | exact Hm.a rfl | fail "kd") (Hm.r rfl) ?_
        refine wp_iload_n (M := mX7_volumeIf) (pc := 49) dX7_volumeIf_49 rfl ?_
        refine so_S2 (M := mX7_volumeIf) (pc := 50) cs_X7_volumeIf_94 rfl rfl (LE rfl) (LE rfl) dX7_volumeIf_50 ?_
        refine sp_X7_isTenant (Hm.a rfl) hR ?_
        refine kI ?_
        refine wp_if_ne (M := mX7_volumeIf) (pc := 53) (tgt := 60) dX7_volumeIf_53 rfl (fun t53 => ?_) (fun f53 => ?_)
        · refine wp_iload (M := mX7_volumeIf) (pc := 60) dX7_volumeIf_60 rfl ?_
          refine wp_if_ne (M := mX7_volumeIf) (pc := 62) (tgt := 69) dX7_volumeIf_62 rfl (fun t62 => ?_) (fun f62 => ?_)
          · refine wp_iconst (M := mX7_volumeIf) (pc := 69) (v := 0) dX7_volumeIf_69 ci_0 ?_
            refine so_V1 (M := mX7_volumeIf) (pc := 70) cs_X7_volumeIf_74 rfl rfl (LE rfl) (LE rfl) dX7_volumeIf_70 Hm.k ?_
            refine sp_X7_refused0 Hm.k ?_
            refine kI ?_
            refine wp_if_eq (M := mX7_volumeIf) (pc := 73) (tgt := 78) dX7_volumeIf_73 rfl (fun t73 => ?_) (fun f73 => ?_)
            · refine wp_gen (P := fun hX => WM hX me ad X ∧ gi hX me 0 = 0 ∧ Ow me h hX) ⟨H.ref, gi_si_same, Fr.si Hm.t⟩ (fun h0 HX => ?_)
              obtain ⟨H, z0, F0⟩ := HX
              have Hm := H.1
              have hR := H.2.1
              first
              | exact absurd rfl t62
              | (obtain ⟨j, hj, rfl⟩ := wth_nI (b := 2) (by decide) (b01_n f9)
                 refine wp_aload_n (M := mX7_volumeIf) (pc := 78) dX7_volumeIf_78 rfl ?_
                 refine wp_aload_n (M := mX7_volumeIf) (pc := 79) dX7_volumeIf_79 rfl ?_
                 refine wp_getR (M := mX7_volumeIf) (pc := 80) fa_X7_7 rfl dX7_volumeIf_80 (by first | exact Hm3.k | exact Hm2.k | exact Hm1.k | exact Hm.k | fail "kd") (Hm.r rfl) ?_
                 refine wp_bipush (M := mX7_volumeIf) (pc := 83) (v := 63) dX7_volumeIf_83 cb_63 ?_
                 refine so_V2 (M := mX7_volumeIf) (pc := 85) cs_X7_volumeIf_146 rfl rfl (LE rfl) (LE rfl) dX7_volumeIf_85 (by first | exact Hm3.k | exact Hm2.k | exact Hm1.k | exact Hm.k | fail "kd") ?_
                 refine sp_X7_layBench Hm (Hm.a rfl) hR (Hm.na (j := 1) rfl (by decide) (by decide) (by decide) (by decide)) (fun h1 Hm1 B1 F1 => ?_)
                 rw [bn_all hR] at B1
                 refine kV ?_
                 refine wp_aload_n (M := mX7_volumeIf) (pc := 88) dX7_volumeIf_88 rfl ?_
                 refine wp_iload_n (M := mX7_volumeIf) (pc := 89) dX7_volumeIf_89 rfl ?_
                 refine wp_iload_n (M := mX7_volumeIf) (pc := 90) dX7_volumeIf_90 rfl ?_
                 refine wp_iload_n (M := mX7_volumeIf) (pc := 91) dX7_volumeIf_91 rfl ?_
                 refine wp_iload (M := mX7_volumeIf) (pc := 92) dX7_volumeIf_92 rfl ?_
                 refine so_V4 (M := mX7_volumeIf) (pc := 94) cs_X7_volumeIf_249 rfl rfl (LE rfl) (LE rfl) dX7_volumeIf_94 (by first | exact Hm3.k | exact Hm2.k | exact Hm1.k | exact Hm.k | fail "kd") ?_
                 refine sp_X7_benchMore (w := 0) Hm1 B1 (by have := hR.n12; omega) (fun h2 Hm2 B2 F2 => ?_)
                 refine kV ?_
                 refine wp_aload_n (M := mX7_volumeIf) (pc := 97) dX7_volumeIf_97 rfl ?_
                 refine so_V0 (M := mX7_volumeIf) (pc := 98) cs_X7_volumeIf_150 rfl rfl (LE rfl) (LE rfl) dX7_volumeIf_98 (by first | exact Hm3.k | exact Hm2.k | exact Hm1.k | exact Hm.k | fail "kd") ?_
                 refine sp_X7_match Hm2 B2 (fun h3 Hm3 B3 F3 M3 => ?_)
                 have F13 : FrB me ad (fun x => x = ad 2) h0 h3 := ((F1.tr F2).tr F3).mono (fun _ q => absurd q id)
                 have H3 := H.B F13
                 have z3 : gi h3 me 0 = 0 := WM.zB F13 z0
                 have O3 := F0.tr (FrB.ow Hm F13 (fun x e => by rw [e]; exact Hm.ta (k := 2) rfl))
                 refine kV ?_
                 refine wp_aload_n (M := mX7_volumeIf) (pc := 101) dX7_volumeIf_101 rfl ?_
                 refine wp_getI (M := mX7_volumeIf) (pc := 102) fa_X7_164 rfl dX7_volumeIf_102 (by first | exact Hm3.k | exact Hm2.k | exact Hm1.k | exact Hm.k | fail "kd") ?_
                 refine wp_ireturn (M := mX7_volumeIf) (pc := 105) rfl dX7_volumeIf_105 ?_
                 rw [M3.2.1]
                 exact k1 j (b01_n t53) hj rfl (b01_n f21) (b01_n f34) h3 H3 z3 O3)
              | fail "leaf"
            · exact absurd rfl f73
          · refine wp_iconst (M := mX7_volumeIf) (pc := 65) (v := 2) dX7_volumeIf_65 ci_2 ?_
            refine wp_goto (M := mX7_volumeIf) (pc := 66) (tgt := 70) dX7_volumeIf_66 rfl ?_
            refine so_V1 (M := mX7_volumeIf) (pc := 70) cs_X7_volumeIf_74 rfl rfl (LE rfl) (LE rfl) dX7_volumeIf_70 Hm.k ?_
            refine sp_X7_refused1 (v := 2) Hm.k (by decide) ?_
            refine kI ?_
            refine wp_if_eq (M := mX7_volumeIf) (pc := 73) (tgt := 78) dX7_volumeIf_73 rfl (fun t73 => ?_) (fun f73 => ?_)
            · exact absurd t73 (by decide)
            · refine wp_iconst (M := mX7_volumeIf) (pc := 76) (v := 0) dX7_volumeIf_76 ci_0 ?_
              refine wp_ireturn (M := mX7_volumeIf) (pc := 77) rfl dX7_volumeIf_77 ?_
              first
              | exact k3 (b01_n t53) (fun e => b01_z t9 e.1) _ H.ref gi_si_same (Fr.si Hm.t)
              | exact k3 (b01_n t53) (fun e => b01_z t21 e.2.1) _ H.ref gi_si_same (Fr.si Hm.t)
              | exact k3 (b01_n t53) (fun e => b01_z t34 e.2.2) _ H.ref gi_si_same (Fr.si Hm.t)
              | exact absurd f62 (by decide)
              | fail "leaf"
        · refine wp_iconst (M := mX7_volumeIf) (pc := 56) (v := 1) dX7_volumeIf_56 ci_1 ?_
          refine wp_goto (M := mX7_volumeIf) (pc := 57) (tgt := 70) dX7_volumeIf_57 rfl ?_
          refine so_V1 (M := mX7_volumeIf) (pc := 70) cs_X7_volumeIf_74 rfl rfl (LE rfl) (LE rfl) dX7_volumeIf_70 Hm.k ?_
          refine sp_X7_refused1 (v := 1) Hm.k (by decide) ?_
          refine kI ?_
          refine wp_if_eq (M := mX7_volumeIf) (pc := 73) (tgt := 78) dX7_volumeIf_73 rfl (fun t73 => ?_) (fun f73 => ?_)
          · exact absurd t73 (by decide)
          · refine wp_iconst (M := mX7_volumeIf) (pc := 76) (v := 0) dX7_volumeIf_76 ci_0 ?_
            refine wp_ireturn (M := mX7_volumeIf) (pc := 77) rfl dX7_volumeIf_77 ?_
            exact k2 (b01_z f53) _ H.ref gi_si_same (Fr.si Hm.t)
      · refine wp_iconst (M := mX7_volumeIf) (pc := 37) (v := 1) dX7_volumeIf_37 ci_1 ?_
        refine wp_goto (M := mX7_volumeIf) (pc := 38) (tgt := 42) dX7_volumeIf_38 rfl ?_
        refine so_istore (M := mX7_volumeIf) (pc := 42) (lo' := [_, _, _, _, _, _]) dX7_volumeIf_42 (LE rfl) (LE rfl) (Or.inr rfl) rfl ?_
        refine wp_aload_n (M := mX7_volumeIf) (pc := 44) dX7_volumeIf_44 rfl ?_
        refine wp_aload_n (M := mX7_volumeIf) (pc := 45) dX7_volumeIf_45 rfl ?_
        refine wp_getR (M := mX7_volumeIf) (pc := 46) fa_X7_7 rfl dX7_volumeIf_46 (by first | exact Hm.k | exact Hm.a rfl | fail "kd") (Hm.r rfl) ?_
        refine wp_iload_n (M := mX7_volumeIf) (pc := 49) dX7_volumeIf_49 rfl ?_
        refine so_S2 (M := mX7_volumeIf) (pc := 50) cs_X7_volumeIf_94 rfl rfl (LE rfl) (LE rfl) dX7_volumeIf_50 ?_
        refine sp_X7_isTenant (Hm.a rfl) hR ?_
        refine kI ?_
        refine wp_if_ne (M := mX7_volumeIf) (pc := 53) (tgt := 60) dX7_volumeIf_53 rfl (fun t53 => ?_) (fun f53 => ?_)
        · refine wp_iload (M := mX7_volumeIf) (pc := 60) dX7_volumeIf_60 rfl ?_
          refine wp_if_ne (M := mX7_volumeIf) (pc := 62) (tgt := 69) dX7_volumeIf_62 rfl (fun t62 => ?_) (fun f62 => ?_)
          · refine wp_iconst (M := mX7_volumeIf) (pc := 69) (v := 0) dX7_volumeIf_69 ci_0 ?_
            refine so_V1 (M := mX7_volumeIf) (pc := 70) cs_X7_volumeIf_74 rfl rfl (LE rfl) (LE rfl) dX7_volumeIf_70 Hm.k ?_
            refine sp_X7_refused0 Hm.k ?_
            refine kI ?_
            refine wp_if_eq (M := mX7_volumeIf) (pc := 73) (tgt := 78) dX7_volumeIf_73 rfl (fun t73 => ?_) (fun f73 => ?_)
            · refine wp_gen (P := fun hX => WM hX me ad X ∧ gi hX me 0 = 0 ∧ Ow me h hX) ⟨H.ref, gi_si_same, Fr.si Hm.t⟩ (fun h0 HX => ?_)
              obtain ⟨H, z0, F0⟩ := HX
              have Hm := H.1
              have hR := H.2.1
              first
              | exact absurd rfl t62
              | (obtain ⟨j, hj, rfl⟩ := wth_nI (b := 2) (by decide) (b01_n f9)
                 refine wp_aload_n (M := mX7_volumeIf) (pc := 78) dX7_volumeIf_78 rfl ?_
                 refine wp_aload_n (M := mX7_volumeIf) (pc := 79) dX7_volumeIf_79 rfl ?_
                 refine wp_getR (M := mX7_volumeIf) (pc := 80) fa_X7_7 rfl dX7_volumeIf_80 (by first | exact Hm3.k | exact Hm2.k | exact Hm1.k | exact Hm.k | fail "kd") (Hm.r rfl) ?_
                 refine wp_bipush (M := mX7_volumeIf) (pc := 83) (v := 63) dX7_volumeIf_83 cb_63 ?_
                 refine so_V2 (M := mX7_volumeIf) (pc := 85) cs_X7_volumeIf_146 rfl rfl (LE rfl) (LE rfl) dX7_volumeIf_85 (by first | exact Hm3.k | exact Hm2.k | exact Hm1.k | exact Hm.k | fail "kd") ?_
                 refine sp_X7_layBench Hm (Hm.a rfl) hR (Hm.na (j := 1) rfl (by decide) (by decide) (by decide) (by decide)) (fun h1 Hm1 B1 F1 => ?_)
                 rw [bn_all hR] at B1
                 refine kV ?_
                 refine wp_aload_n (M := mX7_volumeIf) (pc := 88) dX7_volumeIf_88 rfl ?_
                 refine wp_iload_n (M := mX7_volumeIf) (pc := 89) dX7_volumeIf_89 rfl ?_
                 refine wp_iload_n (M := mX7_volumeIf) (pc := 90) dX7_volumeIf_90 rfl ?_
                 refine wp_iload_n (M := mX7_volumeIf) (pc := 91) dX7_volumeIf_91 rfl ?_
                 refine wp_iload (M := mX7_volumeIf) (pc := 92) dX7_volumeIf_92 rfl ?_
                 refine so_V4 (M := mX7_volumeIf) (pc := 94) cs_X7_volumeIf_249 rfl rfl (LE rfl) (LE rfl) dX7_volumeIf_94 (by first | exact Hm3.k | exact Hm2.k | exact Hm1.k | exact Hm.k | fail "kd") ?_
                 refine sp_X7_benchMore (w := 0) Hm1 B1 (by have := hR.n12; omega) (fun h2 Hm2 B2 F2 => ?_)
                 refine kV ?_
                 refine wp_aload_n (M := mX7_volumeIf) (pc := 97) dX7_volumeIf_97 rfl ?_
                 refine so_V0 (M := mX7_volumeIf) (pc := 98) cs_X7_volumeIf_150 rfl rfl (LE rfl) (LE rfl) dX7_volumeIf_98 (by first | exact Hm3.k | exact Hm2.k | exact Hm1.k | exact Hm.k | fail "kd") ?_
                 refine sp_X7_match Hm2 B2 (fun h3 Hm3 B3 F3 M3 => ?_)
                 have F13 : FrB me ad (fun x => x = ad 2) h0 h3 := ((F1.tr F2).tr F3).mono (fun _ q => absurd q id)
                 have H3 := H.B F13
                 have z3 : gi h3 me 0 = 0 := WM.zB F13 z0
                 have O3 := F0.tr (FrB.ow Hm F13 (fun x e => by rw [e]; exact Hm.ta (k := 2) rfl))
                 refine kV ?_
                 refine wp_aload_n (M := mX7_volumeIf) (pc := 101) dX7_volumeIf_101 rfl ?_
                 refine wp_getI (M := mX7_volumeIf) (pc := 102) fa_X7_164 rfl dX7_volumeIf_102 (by first | exact Hm3.k | exact Hm2.k | exact Hm1.k | exact Hm.k | fail "kd") ?_
                 refine wp_ireturn (M := mX7_volumeIf) (pc := 105) rfl dX7_volumeIf_105 ?_
                 rw [M3.2.1]
                 exact k1 j (b01_n t53) hj rfl (b01_n f21) (b01_n f34) h3 H3 z3 O3)
              | fail "leaf"
            · exact absurd rfl f73
          · refine wp_iconst (M := mX7_volumeIf) (pc := 65) (v := 2) dX7_volumeIf_65 ci_2 ?_
            refine wp_goto (M := mX7_volumeIf) (pc := 66) (tgt := 70) dX7_volumeIf_66 rfl ?_
            refine so_V1 (M := mX7_volumeIf) (pc := 70) cs_X7_volumeIf_74 rfl rfl (LE rfl) (LE rfl) dX7_volumeIf_70 Hm.k ?_
            refine sp_X7_refused1 (v := 2) Hm.k (by decide) ?_
            refine kI ?_
            refine wp_if_eq (M := mX7_volumeIf) (pc := 73) (tgt := 78) dX7_volumeIf_73 rfl (fun t73 => ?_) (fun f73 => ?_)
            · exact absurd t73 (by decide)
            · refine wp_iconst (M := mX7_volumeIf) (pc := 76) (v := 0) dX7_volumeIf_76 ci_0 ?_
              refine wp_ireturn (M := mX7_volumeIf) (pc := 77) rfl dX7_volumeIf_77 ?_
              first
              | exact k3 (b01_n t53) (fun e => b01_z t9 e.1) _ H.ref gi_si_same (Fr.si Hm.t)
              | exact k3 (b01_n t53) (fun e => b01_z t21 e.2.1) _ H.ref gi_si_same (Fr.si Hm.t)
              | exact k3 (b01_n t53) (fun e => b01_z t34 e.2.2) _ H.ref gi_si_same (Fr.si Hm.t)
              | exact absurd f62 (by decide)
              | fail "leaf"
        · refine wp_iconst (M := mX7_volumeIf) (pc := 56) (v := 1) dX7_volumeIf_56 ci_1 ?_
          refine wp_goto (M := mX7_volumeIf) (pc := 57) (tgt := 70) dX7_volumeIf_57 rfl ?_
          refine so_V1 (M := mX7_volumeIf) (pc := 70) cs_X7_volumeIf_74 rfl rfl (LE rfl) (LE rfl) dX7_volumeIf_70 Hm.k ?_
          refine sp_X7_refused1 (v := 1) Hm.k (by decide) ?_
          refine kI ?_
          refine wp_if_eq (M := mX7_volumeIf) (pc := 73) (tgt := 78) dX7_volumeIf_73 rfl (fun t73 => ?_) (fun f73 => ?_)
          · exact absurd t73 (by decide)
          · refine wp_iconst (M := mX7_volumeIf) (pc := 76) (v := 0) dX7_volumeIf_76 ci_0 ?_
            refine wp_ireturn (M := mX7_volumeIf) (pc := 77) rfl dX7_volumeIf_77 ?_
            exact k2 (b01_z f53) _ H.ref gi_si_same (Fr.si Hm.t)
set_option maxHeartbeats 4000000 in
set_option maxRecDepth 100000 in
theorem lp_X7_priceFor {me : Nat} {ad : Nat → Nat} {X : Abs} {z : Int32} {hA : PH} (k : ∀ h', WM h' me ad X → gi h' me 0 = 0 → Ow me hA h' → Q (.inl (some (.int (pfR (xA X) z 99 1)))) h') : ∀ (m : Nat) (p : Nat) (h0 : PH), 100 - p < m → (1 ≤ p) → (p ≤ 100) → (WM h0 me ad X) → (gi h0 me 0 = 0) → (Ow me hA h0) → (pfR (xA X) z 99 1 = pfR (xA X) z (100 - p) p) → WPx E mX7_priceFor 28 [some (.ref me), some (.int z), some (.int (nI p))] [] (0, 0) h0 Q := by
  intro m
  induction m with
  | zero => intro p h0 hm; exact absurd hm (Nat.not_lt_zero _)
  | succ m ih =>
    intro p h0 hm hp1 hp H z0 F0 he
    have Hm := H.1
    have hR := H.2.1
    have n12 := hR.n12
    refine wp_iload_n (M := mX7_priceFor) (pc := 28) dX7_priceFor_28 rfl ?_
    refine wp_bipush (M := mX7_priceFor) (pc := 29) (v := 100) dX7_priceFor_29 cb_100 ?_
    refine wp_icmp_ge (M := mX7_priceFor) (pc := 31) (tgt := 79) dX7_priceFor_31 rfl (fun t31 => ?_) (fun f31 => ?_)
    · have e100 : p = 100 := n_ge (n := 100) hp (by decide) t31
      refine wp_bipush (M := mX7_priceFor) (pc := 79) (v := -9) dX7_priceFor_79 cb_m9 ?_
      refine wp_ireturn (M := mX7_priceFor) (pc := 81) rfl dX7_priceFor_81 ?_
      subst e100
      rw [he] at k
      exact k h0 H z0 F0
    · have hlt := n_lt (n := 100) hp (by decide) f31
      rw [show 100 - p = (100 - (p + 1)) + 1 by omega] at he
      refine wp_aload_n (M := mX7_priceFor) (pc := 34) dX7_priceFor_34 rfl ?_
      refine wp_aload_n (M := mX7_priceFor) (pc := 35) dX7_priceFor_35 rfl ?_
      refine wp_getR (M := mX7_priceFor) (pc := 36) fa_X7_7 rfl dX7_priceFor_36 (by first | exact Hm3.k | exact Hm3.a rfl | exact Hm2.k | exact Hm1.k | exact Hm.k | fail "kd") (by first | exact Hm3.r rfl | exact Hm.r rfl) ?_
      refine wp_bipush (M := mX7_priceFor) (pc := 39) (v := 63) dX7_priceFor_39 cb_63 ?_
      refine so_V2 (M := mX7_priceFor) (pc := 41) cs_X7_priceFor_146 rfl rfl (LE rfl) (LE rfl) dX7_priceFor_41 (by first | exact Hm3.k | exact Hm3.a rfl | exact Hm2.k | exact Hm1.k | exact Hm.k | fail "kd") ?_
      refine sp_X7_layBench Hm (Hm.a rfl) hR (Hm.na (j := 1) rfl (by decide) (by decide) (by decide) (by decide)) (fun h1 Hm1 B1 F1 => ?_)
      rw [bn_all hR] at B1
      refine kV ?_
      refine wp_aload_n (M := mX7_priceFor) (pc := 44) dX7_priceFor_44 rfl ?_
      refine wp_iconst (M := mX7_priceFor) (pc := 45) (v := 0) dX7_priceFor_45 ci_0 ?_
      refine wp_iconst (M := mX7_priceFor) (pc := 46) (v := 0) dX7_priceFor_46 ci_0 ?_
      refine wp_iload_n (M := mX7_priceFor) (pc := 47) dX7_priceFor_47 rfl ?_
      refine wp_iload_n (M := mX7_priceFor) (pc := 48) dX7_priceFor_48 rfl ?_
      refine so_V4 (M := mX7_priceFor) (pc := 49) cs_X7_priceFor_249 rfl rfl (LE rfl) (LE rfl) dX7_priceFor_49 (by first | exact Hm3.k | exact Hm3.a rfl | exact Hm2.k | exact Hm1.k | exact Hm.k | fail "kd") ?_
      refine sp_X7_benchMore (w := 0) (kn := 0) Hm1 B1 (by omega) (fun h2 Hm2 B2 F2 => ?_)
      refine kV ?_
      refine wp_aload_n (M := mX7_priceFor) (pc := 52) dX7_priceFor_52 rfl ?_
      refine so_V0 (M := mX7_priceFor) (pc := 53) cs_X7_priceFor_150 rfl rfl (LE rfl) (LE rfl) dX7_priceFor_53 (by first | exact Hm3.k | exact Hm3.a rfl | exact Hm2.k | exact Hm1.k | exact Hm.k | fail "kd") ?_
      refine sp_X7_match Hm2 B2 (fun h3 Hm3 B3 F3 M3 => ?_)
      have F13 : FrB me ad (fun x => x = ad 2) h0 h3 := ((F1.tr F2).tr F3).mono (fun _ q => absurd q id)
      have H3 := H.B F13
      have z3 : gi h3 me 0 = 0 := WM.zB F13 z0
      have O3 := F0.tr (FrB.ow Hm F13 (fun x e => by rw [e]; exact Hm.ta (k := 2) rfl))
      have el : (sO (xA X) ++ [(0, 0, nI p, z)]).length = (sO (xA X)).length + 1 := by rw [List.length_append]; rfl
      refine kV ?_
      refine wp_aload_n (M := mX7_priceFor) (pc := 56) dX7_priceFor_56 rfl ?_
      refine wp_getR (M := mX7_priceFor) (pc := 57) fa_X7_41 rfl dX7_priceFor_57 (by first | exact Hm3.k | exact Hm3.a rfl | exact Hm2.k | exact Hm1.k | exact Hm.k | fail "kd") (by first | exact Hm3.r rfl | exact Hm.r rfl) ?_
      refine wp_aload_n (M := mX7_priceFor) (pc := 60) dX7_priceFor_60 rfl ?_
      refine wp_getI (M := mX7_priceFor) (pc := 61) fa_X7_153 rfl dX7_priceFor_61 (by first | exact Hm3.k | exact Hm3.a rfl | exact Hm2.k | exact Hm1.k | exact Hm.k | fail "kd") ?_
      refine wp_iconst (M := mX7_priceFor) (pc := 64) (v := 1) dX7_priceFor_64 ci_1 ?_
      refine wp_isub (M := mX7_priceFor) (pc := 65) dX7_priceFor_65 ?_
      refine wr_iaload (M := mX7_priceFor) (pc := 66) dX7_priceFor_66 (by first | exact Hm3.k | exact Hm3.a rfl | exact Hm2.k | exact Hm1.k | exact Hm.k | fail "kd") (isb B3.1.1 (show (1 : Int32) = nI 1 from rfl) (by omega)) (by omega) (by decide) ?_
      refine wp_iload_n (M := mX7_priceFor) (pc := 67) dX7_priceFor_67 rfl ?_
      refine wp_icmp_ne (M := mX7_priceFor) (pc := 68) (tgt := 73) dX7_priceFor_68 rfl (fun t68 => ?_) (fun f68 => ?_)
      · rw [M3.1 _ (by omega), el, Nat.add_sub_cancel] at t68
        rw [pfR_n t68] at he
        refine so_iinc (M := mX7_priceFor) (pc := 73) (lo' := [_, _, _]) dX7_priceFor_73 rfl ci_1 (LE rfl) rfl ?_
        refine wp_goto (M := mX7_priceFor) (pc := 76) (tgt := 28) dX7_priceFor_76 rfl ?_
        rw [show nI p + 1 = nI (p + 1) from nI_1 p]
        exact ih (p + 1) h3 (by omega) (by omega) (by omega) H3 z3 O3 he
      · rw [M3.1 _ (by omega), el, Nat.add_sub_cancel] at f68
        rw [pfR_y f68] at he
        refine wp_iload_n (M := mX7_priceFor) (pc := 71) dX7_priceFor_71 rfl ?_
        refine wp_ireturn (M := mX7_priceFor) (pc := 72) rfl dX7_priceFor_72 ?_
        rw [he] at k
        exact k h3 H3 z3 O3
set_option maxHeartbeats 4000000 in
set_option maxRecDepth 100000 in
theorem sp_X7_priceFor {me : Nat} {ad : Nat → Nat} {X : Abs} {w : Int32} (H : WM h me ad X)  (k1 : wth w 1 99 → ∀ h', WM h' me ad X → gi h' me 0 = 0 → Ow me h h' → Q (.inl (some (.int (pfR (xA X) w 99 1)))) h') (k2 : ¬ wth w 1 99 → ∀ h', WM h' me ad X → gi h' me 0 = 1 → Ow me h h' → Q (.inl (some (.int 0))) h') : WPx E mX7_priceFor 0 [some (.ref me), some (.int w), none] [] (0, 0) h Q := by
  have Hm := H.1
  have hR := H.2.1
  have n6 := hR.n6
  have n12 := hR.n12
  refine wp_aload_n (M := mX7_priceFor) (pc := 0) dX7_priceFor_0 rfl ?_
  refine wp_iload_n (M := mX7_priceFor) (pc := 1) dX7_priceFor_1 rfl ?_
  refine wp_i2l (M := mX7_priceFor) (pc := 2) dX7_priceFor_2 ?_
  refine wp_lconst (M := mX7_priceFor) (pc := 3) (v := 1) dX7_priceFor_3 cl_1 ?_
  refine wp_ldc2_w (M := mX7_priceFor) (pc := 4) wv_X7_206 dX7_priceFor_4 ?_
  refine so_S3 (M := mX7_priceFor) (pc := 7) cs_X7_priceFor_65 rfl rfl (LE rfl) (LE rfl) dX7_priceFor_7 ?_
  refine sp_X7_in ?_
  rw [b01_iff (wl (x := w) (a := 1) (b := 99) (a' := 1) (b' := 99) (by decide) (by decide))]
  refine kI ?_
  refine wp_if_eq (M := mX7_priceFor) (pc := 10) (tgt := 17) dX7_priceFor_10 rfl (fun t10 => ?_) (fun f10 => ?_)
  · refine wp_iconst (M := mX7_priceFor) (pc := 17) (v := 1) dX7_priceFor_17 ci_1 ?_
    refine so_V1 (M := mX7_priceFor) (pc := 18) cs_X7_priceFor_74 rfl rfl (LE rfl) (LE rfl) dX7_priceFor_18 Hm.k ?_
    refine sp_X7_refused1 (v := 1) Hm.k (by decide) ?_
    refine kI ?_
    refine wp_if_eq (M := mX7_priceFor) (pc := 21) (tgt := 26) dX7_priceFor_21 rfl (fun t21 => ?_) (fun f21 => ?_)
    · exact absurd t21 (by decide)
    · refine wp_iconst (M := mX7_priceFor) (pc := 24) (v := 0) dX7_priceFor_24 ci_0 ?_
      refine wp_ireturn (M := mX7_priceFor) (pc := 25) rfl dX7_priceFor_25 ?_
      exact k2 (b01_z t10) _ H.ref gi_si_same (Fr.si Hm.t)
  · refine wp_iconst (M := mX7_priceFor) (pc := 13) (v := 0) dX7_priceFor_13 ci_0 ?_
    refine wp_goto (M := mX7_priceFor) (pc := 14) (tgt := 18) dX7_priceFor_14 rfl ?_
    refine so_V1 (M := mX7_priceFor) (pc := 18) cs_X7_priceFor_74 rfl rfl (LE rfl) (LE rfl) dX7_priceFor_18 Hm.k ?_
    refine sp_X7_refused0 Hm.k ?_
    refine kI ?_
    refine wp_if_eq (M := mX7_priceFor) (pc := 21) (tgt := 26) dX7_priceFor_21 rfl (fun t21 => ?_) (fun f21 => ?_)
    · refine wp_gen (P := fun hX => WM hX me ad X ∧ gi hX me 0 = 0 ∧ Ow me h hX) ⟨H.ref, gi_si_same, Fr.si Hm.t⟩ (fun h0 HX => ?_)
      obtain ⟨H, z0, F0⟩ := HX
      have Hm := H.1
      have hR := H.2.1
      refine wp_iconst (M := mX7_priceFor) (pc := 26) (v := 1) dX7_priceFor_26 ci_1 ?_
      refine so_istore_n (M := mX7_priceFor) (pc := 27) (lo' := [_, _, _]) dX7_priceFor_27 (LE rfl) (LE rfl) (Or.inr rfl) rfl ?_
      exact lp_X7_priceFor (k1 (b01_n f10)) 100 1 h0 (by omega) (by omega) (by omega) H z0 F0 rfl
    · exact absurd rfl f21
set_option maxHeartbeats 4000000 in
set_option maxRecDepth 100000 in
theorem sp_X7_unused {me : Nat} {ad : Nat → Nat} {X : Abs} {w : Int32} (H : WM h me ad X) (hn0 : 0 < sN (xA X)) (hti : sTi (xA X) + 250 < 2 ^ 30) (hok : ∀ j, j < 99 → okU (tksR j (xA X)).1) (k1 : ∀ n, 1 ≤ n → n ≤ 99 → w = nI n → ∀ h', WM h' me ad X → gi h' me 0 = 0 → Ow me h h' → Q (.inl (some (.int (nI n * sG (xA X) 1 - (tksR n (xA X)).2)))) h') (k2 : ¬ wth w 1 99 → ∀ h', WM h' me ad X → gi h' me 0 = 1 → Ow me h h' → Q (.inl (some (.int 0))) h') : WPx E mX7_unused 0 [some (.ref me), some (.int w)] [] (0, 0) h Q := by
  have Hm := H.1
  have hR := H.2.1
  have n6 := hR.n6
  have n12 := hR.n12
  refine wp_aload_n (M := mX7_unused) (pc := 0) dX7_unused_0 rfl ?_
  refine wp_iload_n (M := mX7_unused) (pc := 1) dX7_unused_1 rfl ?_
  refine wp_i2l (M := mX7_unused) (pc := 2) dX7_unused_2 ?_
  refine wp_lconst (M := mX7_unused) (pc := 3) (v := 1) dX7_unused_3 cl_1 ?_
  refine wp_ldc2_w (M := mX7_unused) (pc := 4) wv_X7_206 dX7_unused_4 ?_
  refine so_S3 (M := mX7_unused) (pc := 7) cs_X7_unused_65 rfl rfl (LE rfl) (LE rfl) dX7_unused_7 ?_
  refine sp_X7_in ?_
  rw [b01_iff (wl (x := w) (a := 1) (b := 99) (a' := 1) (b' := 99) (by decide) (by decide))]
  refine kI ?_
  refine wp_if_eq (M := mX7_unused) (pc := 10) (tgt := 17) dX7_unused_10 rfl (fun t10 => ?_) (fun f10 => ?_)
  · refine wp_iconst (M := mX7_unused) (pc := 17) (v := 1) dX7_unused_17 ci_1 ?_
    refine so_V1 (M := mX7_unused) (pc := 18) cs_X7_unused_74 rfl rfl (LE rfl) (LE rfl) dX7_unused_18 Hm.k ?_
    refine sp_X7_refused1 (v := 1) Hm.k (by decide) ?_
    refine kI ?_
    refine wp_if_eq (M := mX7_unused) (pc := 21) (tgt := 26) dX7_unused_21 rfl (fun t21 => ?_) (fun f21 => ?_)
    · exact absurd t21 (by decide)
    · refine wp_iconst (M := mX7_unused) (pc := 24) (v := 0) dX7_unused_24 ci_0 ?_
      refine wp_ireturn (M := mX7_unused) (pc := 25) rfl dX7_unused_25 ?_
      exact k2 (b01_z t10) _ H.ref gi_si_same (Fr.si Hm.t)
  · refine wp_iconst (M := mX7_unused) (pc := 13) (v := 0) dX7_unused_13 ci_0 ?_
    refine wp_goto (M := mX7_unused) (pc := 14) (tgt := 18) dX7_unused_14 rfl ?_
    refine so_V1 (M := mX7_unused) (pc := 18) cs_X7_unused_74 rfl rfl (LE rfl) (LE rfl) dX7_unused_18 Hm.k ?_
    refine sp_X7_refused0 Hm.k ?_
    refine kI ?_
    refine wp_if_eq (M := mX7_unused) (pc := 21) (tgt := 26) dX7_unused_21 rfl (fun t21 => ?_) (fun f21 => ?_)
    · refine wp_gen (P := fun hX => WM hX me ad X ∧ gi hX me 0 = 0 ∧ Ow me h hX) ⟨H.ref, gi_si_same, Fr.si Hm.t⟩ (fun h0 HX => ?_)
      obtain ⟨H, z0, F0⟩ := HX
      have Hm := H.1
      have hR := H.2.1
      obtain ⟨n, hn1, hn2, rfl⟩ := wth_1 (b := 99) (by decide) (b01_n f10)
      refine wp_aload_n (M := mX7_unused) (pc := 26) dX7_unused_26 rfl ?_
      refine wp_getR (M := mX7_unused) (pc := 27) fa_X7_7 rfl dX7_unused_27 (by first | exact Hm1.k | exact Hm1.a rfl | exact Hm.k | exact Hm.a rfl) (by first | exact Hm1.r rfl | exact Hm.r rfl) ?_
      refine wp_iconst (M := mX7_unused) (pc := 30) (v := 0) dX7_unused_30 ci_0 ?_
      refine wp_aload_n (M := mX7_unused) (pc := 31) dX7_unused_31 rfl ?_
      refine wp_getR (M := mX7_unused) (pc := 32) fa_X7_13 rfl dX7_unused_32 (by first | exact Hm1.k | exact Hm1.a rfl | exact Hm.k | exact Hm.a rfl) (by first | exact Hm1.r rfl | exact Hm.r rfl) ?_
      refine wp_iconst (M := mX7_unused) (pc := 35) (v := 0) dX7_unused_35 ci_0 ?_
      refine so_S4 (M := mX7_unused) (pc := 36) cs_X7_unused_58 rfl rfl (LE rfl) (LE rfl) dX7_unused_36 ?_
      refine sp_X7_copy (N1 := 1360) (N2 := 1360) (x := 0) (y := 0) (Hm.a (k := 1) rfl) (Hm.a (k := 2) rfl) (Hm.nn (j := 1) (k := 2) rfl rfl (by decide)) (by decide) (by decide) (by decide) (by decide) ?_
      refine qgen9 (P := fun hX => WM hX me ad X ∧ RepR (gi hX (ad 2)) (xA X) ∧ FrB me ad (fun x => x = ad 2) h0 hX) ⟨H.tri, by rw [gi_sw_at]; exact rep_cpy hR, RF.B RF.sw rfl (Hm.ne (k := 2) rfl)⟩ (fun h1 HX => ?_)
      obtain ⟨H1, R1, F1⟩ := HX
      have Hm1 := H1.1
      refine kV ?_
      refine wp_iload_n (M := mX7_unused) (pc := 39) dX7_unused_39 rfl ?_
      refine wp_aload_n (M := mX7_unused) (pc := 40) dX7_unused_40 rfl ?_
      refine wp_getR (M := mX7_unused) (pc := 41) fa_X7_7 rfl dX7_unused_41 (by first | exact Hm1.k | exact Hm1.a rfl | exact Hm.k | exact Hm.a rfl) (by first | exact Hm1.r rfl | exact Hm.r rfl) ?_
      refine wp_iconst (M := mX7_unused) (pc := 44) (v := 1) dX7_unused_44 ci_1 ?_
      refine wr_iaload (M := mX7_unused) (pc := 45) dX7_unused_45 (by first | exact Hm1.k | exact Hm1.a rfl | exact Hm.k | exact Hm.a rfl) (show (1 : Int32) = nI 1 from rfl) (by omega) (by decide) ?_
      refine wp_imul (M := mX7_unused) (pc := 46) dX7_unused_46 ?_
      refine wp_aload_n (M := mX7_unused) (pc := 47) dX7_unused_47 rfl ?_
      refine wp_aload_n (M := mX7_unused) (pc := 48) dX7_unused_48 rfl ?_
      refine wp_getR (M := mX7_unused) (pc := 49) fa_X7_13 rfl dX7_unused_49 (by first | exact Hm1.k | exact Hm1.a rfl | exact Hm.k | exact Hm.a rfl) (by first | exact Hm1.r rfl | exact Hm.r rfl) ?_
      refine wp_iload_n (M := mX7_unused) (pc := 52) dX7_unused_52 rfl ?_
      refine so_V2 (M := mX7_unused) (pc := 53) cs_X7_unused_233 rfl rfl (LE rfl) (LE rfl) dX7_unused_53 (by first | exact Hm1.k | exact Hm1.a rfl | exact Hm.k | exact Hm.a rfl) ?_
      refine sp_X7_ticksOn Hm1 (Hm1.a rfl) R1 (Hm1.na (j := 2) rfl (by decide) (by decide) (by decide) (by decide)) (by omega) hn0 (by show sTi (xA X) + n + 100 < 2 ^ 30; omega) (fun j hj => hok j (by omega)) (fun h2 Hm2 R2 F2 => ?_)
      have F12 := F1.tr F2
      have H2 := H.B F12
      have z2 : gi h2 me 0 = 0 := WM.zB F12 z0
      have O2 := F0.tr (FrB.ow Hm F12 (fun x e => by rw [e]; exact Hm.ta (k := 2) rfl))
      refine kI ?_
      refine wp_isub (M := mX7_unused) (pc := 56) dX7_unused_56 ?_
      refine wp_ireturn (M := mX7_unused) (pc := 57) rfl dX7_unused_57 ?_
      rw [H1.2.1.f1]
      exact k1 n hn1 hn2 rfl h2 H2 z2 O2
    · exact absurd rfl f21
set_option maxHeartbeats 4000000 in
set_option maxRecDepth 100000 in
theorem sp_X7_ahead {me : Nat} {ad : Nat → Nat} {X : Abs} {y t w : Int32} (H : WM h me ad X) (hn0 : 0 < sN (xA X)) (hti : sTi (xA X) + 250 < 2 ^ 30) (hok : ∀ j, j < 99 → okU (tksR j (xA X)).1) (k1 : ∀ n i j, n ≤ 99 → y = nI n → i < sN (xA X) → t = nI i → j ≤ 11 → w = nI j → ∀ h', WM h' me ad X → gi h' me 0 = 0 → Ow me h h' → Q (.inl (some (.int (tnumR (tksR n (xA X)).1 i j)))) h') (k2 : ¬ isT (xA X) t → ∀ h', WM h' me ad X → gi h' me 0 = 1 → Ow me h h' → Q (.inl (some (.int 0))) h') (k3 : isT (xA X) t → ¬ (wth y 0 99 ∧ wth w 0 11) → ∀ h', WM h' me ad X → gi h' me 0 = 2 → Ow me h h' → Q (.inl (some (.int 0))) h') : WPx E mX7_ahead 0 [some (.ref me), some (.int y), some (.int t), some (.int w)] [] (0, 0) h Q := by
  have Hm := H.1
  have hR := H.2.1
  have n6 := hR.n6
  have n12 := hR.n12
  refine wp_aload_n (M := mX7_ahead) (pc := 0) dX7_ahead_0 rfl ?_
  refine wp_aload_n (M := mX7_ahead) (pc := 1) dX7_ahead_1 rfl ?_
  refine wp_getR (M := mX7_ahead) (pc := 2) fa_X7_7 rfl dX7_ahead_2 (by first | exact Hm.k | exact Hm.a rfl | fail "kd") (Hm.r rfl) ?_
  refine wp_iload_n (M := mX7_ahead) (pc := 5) dX7_ahead_5 rfl ?_
  refine so_S2 (M := mX7_ahead) (pc := 6) cs_X7_ahead_94 rfl rfl (LE rfl) (LE rfl) dX7_ahead_6 ?_
  refine sp_X7_isTenant (Hm.a rfl) hR ?_
  refine kI ?_
  refine wp_if_ne (M := mX7_ahead) (pc := 9) (tgt := 16) dX7_ahead_9 rfl (fun t9 => ?_) (fun f9 => ?_)
  · refine wp_iload_n (M := mX7_ahead) (pc := 16) dX7_ahead_16 rfl ?_
    refine wp_i2l (M := mX7_ahead) (pc := 17) dX7_ahead_17 ?_
    refine wp_lconst (M := mX7_ahead) (pc := 18) (v := 0) dX7_ahead_18 cl_0 ?_
    refine wp_ldc2_w (M := mX7_ahead) (pc := 19) wv_X7_206 dX7_ahead_19 ?_
    refine so_S3 (M := mX7_ahead) (pc := 22) cs_X7_ahead_65 rfl rfl (LE rfl) (LE rfl) dX7_ahead_22 ?_
    refine sp_X7_in ?_
    rw [b01_iff (wl (x := y) (a := 0) (b := 99) (a' := 0) (b' := 99) (by decide) (by decide))]
    refine kI ?_
    refine wp_if_eq (M := mX7_ahead) (pc := 25) (tgt := 40) dX7_ahead_25 rfl (fun t25 => ?_) (fun f25 => ?_)
    · refine wp_iconst (M := mX7_ahead) (pc := 40) (v := 2) dX7_ahead_40 ci_2 ?_
      refine wp_goto (M := mX7_ahead) (pc := 41) (tgt := 45) dX7_ahead_41 rfl ?_
      refine so_V1 (M := mX7_ahead) (pc := 45) cs_X7_ahead_74 rfl rfl (LE rfl) (LE rfl) dX7_ahead_45 Hm.k ?_
      refine sp_X7_refused1 (v := 2) Hm.k (by decide) ?_
      refine kI ?_
      refine wp_if_eq (M := mX7_ahead) (pc := 48) (tgt := 53) dX7_ahead_48 rfl (fun t48 => ?_) (fun f48 => ?_)
      · exact absurd t48 (by decide)
      · refine wp_iconst (M := mX7_ahead) (pc := 51) (v := 0) dX7_ahead_51 ci_0 ?_
        refine wp_ireturn (M := mX7_ahead) (pc := 52) rfl dX7_ahead_52 ?_
        first
        | exact k3 (b01_n t9) (fun e => b01_z t25 e.1) _ H.ref gi_si_same (Fr.si Hm.t)
        | exact k3 (b01_n t9) (fun e => b01_z f37 e.2) _ H.ref gi_si_same (Fr.si Hm.t)
        | fail "leaf"
    · refine wp_iload_n (M := mX7_ahead) (pc := 28) dX7_ahead_28 rfl ?_
      refine wp_i2l (M := mX7_ahead) (pc := 29) dX7_ahead_29 ?_
      refine wp_lconst (M := mX7_ahead) (pc := 30) (v := 0) dX7_ahead_30 cl_0 ?_
      refine wp_ldc2_w (M := mX7_ahead) (pc := 31) wv_X7_133 dX7_ahead_31 ?_
      refine so_S3 (M := mX7_ahead) (pc := 34) cs_X7_ahead_65 rfl rfl (LE rfl) (LE rfl) dX7_ahead_34 ?_
      refine sp_X7_in ?_
      rw [b01_iff (wl (x := w) (a := 0) (b := 11) (a' := 0) (b' := 11) (by decide) (by decide))]
      refine kI ?_
      refine wp_if_ne (M := mX7_ahead) (pc := 37) (tgt := 44) dX7_ahead_37 rfl (fun t37 => ?_) (fun f37 => ?_)
      · refine wp_iconst (M := mX7_ahead) (pc := 44) (v := 0) dX7_ahead_44 ci_0 ?_
        refine so_V1 (M := mX7_ahead) (pc := 45) cs_X7_ahead_74 rfl rfl (LE rfl) (LE rfl) dX7_ahead_45 Hm.k ?_
        refine sp_X7_refused0 Hm.k ?_
        refine kI ?_
        refine wp_if_eq (M := mX7_ahead) (pc := 48) (tgt := 53) dX7_ahead_48 rfl (fun t48 => ?_) (fun f48 => ?_)
        · refine wp_gen (P := fun hX => WM hX me ad X ∧ gi hX me 0 = 0 ∧ Ow me h hX) ⟨H.ref, gi_si_same, Fr.si Hm.t⟩ (fun h0 HX => ?_)
          obtain ⟨H, z0, F0⟩ := HX
          have Hm := H.1
          have hR := H.2.1
          obtain ⟨i, hi9, rfl⟩ := b01_n t9
          obtain ⟨n, hn2, rfl⟩ := wth_nI (b := 99) (by decide) (b01_n f25)
          obtain ⟨j, hj, rfl⟩ := wth_nI (b := 11) (by decide) (b01_n t37)
          refine wp_aload_n (M := mX7_ahead) (pc := 53) dX7_ahead_53 rfl ?_
          refine wp_getR (M := mX7_ahead) (pc := 54) fa_X7_7 rfl dX7_ahead_54 (by first | exact Hm2.k | exact Hm1.k | exact Hm.k) (by first | exact Hm2.r rfl | exact Hm1.r rfl | exact Hm.r rfl) ?_
          refine wp_iconst (M := mX7_ahead) (pc := 57) (v := 0) dX7_ahead_57 ci_0 ?_
          refine wp_aload_n (M := mX7_ahead) (pc := 58) dX7_ahead_58 rfl ?_
          refine wp_getR (M := mX7_ahead) (pc := 59) fa_X7_13 rfl dX7_ahead_59 (by first | exact Hm2.k | exact Hm1.k | exact Hm.k) (by first | exact Hm2.r rfl | exact Hm1.r rfl | exact Hm.r rfl) ?_
          refine wp_iconst (M := mX7_ahead) (pc := 62) (v := 0) dX7_ahead_62 ci_0 ?_
          refine so_S4 (M := mX7_ahead) (pc := 63) cs_X7_ahead_58 rfl rfl (LE rfl) (LE rfl) dX7_ahead_63 ?_
          refine sp_X7_copy (N1 := 1360) (N2 := 1360) (x := 0) (y := 0) (Hm.a (k := 1) rfl) (Hm.a (k := 2) rfl) (Hm.nn (j := 1) (k := 2) rfl rfl (by decide)) (by decide) (by decide) (by decide) (by decide) ?_
          refine qgen9 (P := fun hX => WM hX me ad X ∧ RepR (gi hX (ad 2)) (xA X) ∧ FrB me ad (fun x => x = ad 2) h0 hX) ⟨H.tri, by rw [gi_sw_at]; exact rep_cpy hR, RF.B RF.sw rfl (Hm.ne (k := 2) rfl)⟩ (fun h1 HX => ?_)
          obtain ⟨H1, R1, F1⟩ := HX
          have Hm1 := H1.1
          refine kV ?_
          refine wp_aload_n (M := mX7_ahead) (pc := 66) dX7_ahead_66 rfl ?_
          refine wp_aload_n (M := mX7_ahead) (pc := 67) dX7_ahead_67 rfl ?_
          refine wp_getR (M := mX7_ahead) (pc := 68) fa_X7_13 rfl dX7_ahead_68 (by first | exact Hm2.k | exact Hm1.k | exact Hm.k) (by first | exact Hm2.r rfl | exact Hm1.r rfl | exact Hm.r rfl) ?_
          refine wp_iload_n (M := mX7_ahead) (pc := 71) dX7_ahead_71 rfl ?_
          refine so_V2 (M := mX7_ahead) (pc := 72) cs_X7_ahead_233 rfl rfl (LE rfl) (LE rfl) dX7_ahead_72 (by first | exact Hm2.k | exact Hm1.k | exact Hm.k) ?_
          refine sp_X7_ticksOn Hm1 (Hm1.a rfl) R1 (Hm1.na (j := 2) rfl (by decide) (by decide) (by decide) (by decide)) (by omega) hn0 (by show sTi (xA X) + n + 100 < 2 ^ 30; omega) (fun j hj => hok j (by omega)) (fun h2 Hm2 R2 F2 => ?_)
          have F12 := F1.tr F2
          have H2 := H.B F12
          have z2 : gi h2 me 0 = 0 := WM.zB F12 z0
          have O2 := F0.tr (FrB.ow Hm F12 (fun x e => by rw [e]; exact Hm.ta (k := 2) rfl))
          refine kI ?_
          refine wp_pop (M := mX7_ahead) (pc := 75) dX7_ahead_75 rfl ?_
          refine wp_aload_n (M := mX7_ahead) (pc := 76) dX7_ahead_76 rfl ?_
          refine wp_getR (M := mX7_ahead) (pc := 77) fa_X7_13 rfl dX7_ahead_77 (by first | exact Hm2.k | exact Hm1.k | exact Hm.k) (by first | exact Hm2.r rfl | exact Hm1.r rfl | exact Hm.r rfl) ?_
          refine wp_iload_n (M := mX7_ahead) (pc := 80) dX7_ahead_80 rfl ?_
          refine wp_iload_n (M := mX7_ahead) (pc := 81) dX7_ahead_81 rfl ?_
          refine so_S3 (M := mX7_ahead) (pc := 82) cs_X7_ahead_135 rfl rfl (LE rfl) (LE rfl) dX7_ahead_82 ?_
          refine sp_X7_tell (Hm2.a rfl) R2 (by show i < (tksR n (xA X)).1.1.1; rw [tksR_1]; exact hi9) (by omega) ?_
          refine kI ?_
          refine wp_ireturn (M := mX7_ahead) (pc := 85) rfl dX7_ahead_85 ?_
          exact k1 n i j hn2 rfl hi9 rfl hj rfl h2 H2 z2 O2
        · exact absurd rfl f48
      · refine wp_iconst (M := mX7_ahead) (pc := 40) (v := 2) dX7_ahead_40 ci_2 ?_
        refine wp_goto (M := mX7_ahead) (pc := 41) (tgt := 45) dX7_ahead_41 rfl ?_
        refine so_V1 (M := mX7_ahead) (pc := 45) cs_X7_ahead_74 rfl rfl (LE rfl) (LE rfl) dX7_ahead_45 Hm.k ?_
        refine sp_X7_refused1 (v := 2) Hm.k (by decide) ?_
        refine kI ?_
        refine wp_if_eq (M := mX7_ahead) (pc := 48) (tgt := 53) dX7_ahead_48 rfl (fun t48 => ?_) (fun f48 => ?_)
        · exact absurd t48 (by decide)
        · refine wp_iconst (M := mX7_ahead) (pc := 51) (v := 0) dX7_ahead_51 ci_0 ?_
          refine wp_ireturn (M := mX7_ahead) (pc := 52) rfl dX7_ahead_52 ?_
          first
          | exact k3 (b01_n t9) (fun e => b01_z t25 e.1) _ H.ref gi_si_same (Fr.si Hm.t)
          | exact k3 (b01_n t9) (fun e => b01_z f37 e.2) _ H.ref gi_si_same (Fr.si Hm.t)
          | fail "leaf"
  · refine wp_iconst (M := mX7_ahead) (pc := 12) (v := 1) dX7_ahead_12 ci_1 ?_
    refine wp_goto (M := mX7_ahead) (pc := 13) (tgt := 45) dX7_ahead_13 rfl ?_
    refine so_V1 (M := mX7_ahead) (pc := 45) cs_X7_ahead_74 rfl rfl (LE rfl) (LE rfl) dX7_ahead_45 Hm.k ?_
    refine sp_X7_refused1 (v := 1) Hm.k (by decide) ?_
    refine kI ?_
    refine wp_if_eq (M := mX7_ahead) (pc := 48) (tgt := 53) dX7_ahead_48 rfl (fun t48 => ?_) (fun f48 => ?_)
    · exact absurd t48 (by decide)
    · refine wp_iconst (M := mX7_ahead) (pc := 51) (v := 0) dX7_ahead_51 ci_0 ?_
      refine wp_ireturn (M := mX7_ahead) (pc := 52) rfl dX7_ahead_52 ?_
      exact k2 (b01_z f9) _ H.ref gi_si_same (Fr.si Hm.t)
set_option maxHeartbeats 4000000 in
set_option maxRecDepth 100000 in
theorem lp_X7_sentAfter {me : Nat} {ad : Nat → Nat} {X : Abs} {i j : Nat} {hA : PH} (hn0 : 0 < sN (xA X)) (hti : sTi (xA X) + 250 < 2 ^ 30) (hok : ∀ j, j < 99 → okU (tksR j (xA X)).1) (hi9 : i < sN (xA X)) (k : ∀ h', WM h' me ad X → gi h' me 0 = 0 → Ow me hA h' → Q (.inl (some (.int (aftR (xA X) i j 99 1)))) h') : ∀ (m : Nat) (n : Nat) (h0 : PH), 100 - n < m → (1 ≤ n) → (n ≤ 100) → (WM h0 me ad X) → (gi h0 me 0 = 0) → (Ow me hA h0) → (RepR (gi h0 (ad 2)) (tksR (n - 1) (xA X)).1) → (aftR (xA X) i j 99 1 = aftR (xA X) i j (100 - n) n) → WPx E mX7_sentAfter 78 [some (.ref me), some (.int (nI i)), some (.int (nI j)), some (.int (nI (lnM (xA X) i))), some (.int (nI n))] [] (0, 0) h0 Q := by
  intro m
  induction m with
  | zero => intro n h0 hm; exact absurd hm (Nat.not_lt_zero _)
  | succ m ih =>
    intro n h0 hm hn1 hn H z0 F0 R1 he
    have Hm := H.1
    refine wp_iload (M := mX7_sentAfter) (pc := 78) dX7_sentAfter_78 rfl ?_
    refine wp_bipush (M := mX7_sentAfter) (pc := 80) (v := 100) dX7_sentAfter_80 cb_100 ?_
    refine wp_icmp_ge (M := mX7_sentAfter) (pc := 82) (tgt := 120) dX7_sentAfter_82 rfl (fun t82 => ?_) (fun f82 => ?_)
    · have e100 : n = 100 := n_ge (n := 100) hn (by decide) t82
      refine wp_bipush (M := mX7_sentAfter) (pc := 120) (v := -9) dX7_sentAfter_120 cb_m9 ?_
      refine wp_ireturn (M := mX7_sentAfter) (pc := 122) rfl dX7_sentAfter_122 ?_
      subst e100
      rw [he] at k
      exact k h0 H z0 F0
    · have hlt := n_lt (n := 100) hn (by decide) f82
      rw [show 100 - n = (100 - (n + 1)) + 1 by omega] at he
      refine wp_aload_n (M := mX7_sentAfter) (pc := 85) dX7_sentAfter_85 rfl ?_
      refine wp_aload_n (M := mX7_sentAfter) (pc := 86) dX7_sentAfter_86 rfl ?_
      refine wp_getR (M := mX7_sentAfter) (pc := 87) fa_X7_13 rfl dX7_sentAfter_87 (by first | exact Hm2.k | exact Hm2.a rfl | exact Hm.k | fail "kd") (by first | exact Hm2.r rfl | exact Hm.r rfl) ?_
      refine so_V1 (M := mX7_sentAfter) (pc := 90) cs_X7_sentAfter_203 rfl rfl (LE rfl) (LE rfl) dX7_sentAfter_90 (by first | exact Hm2.k | exact Hm2.a rfl | exact Hm.k | fail "kd") ?_
      have e1 := tksR_1 (xA X) (n - 1)
      obtain ⟨q1, q2, q3⟩ := hok (n - 1) (by omega)
      refine sp_X7_tickOn Hm (Hm.a rfl) R1 (Hm.na (j := 2) rfl (by decide) (by decide) (by decide) (by decide)) (by show 0 < (tksR (n - 1) (xA X)).1.1.1; rw [e1]; exact hn0) (by show (tksR (n - 1) (xA X)).1.1.2.1 + 1 < _; rw [e1]; show sTi (xA X) + (n - 1) + 1 < _; omega) q1 q2 q3 (fun h2 Hm2 R2' F2 => ?_)
      have R2 : RepR (gi h2 (ad 2)) (tksR n (xA X)).1 := by
        have e9 : n - 1 + 1 = n := by omega
        rw [← e9]; exact R2'
      have H2 := H.B F2
      have z2 : gi h2 me 0 = 0 := WM.zB F2 z0
      have O2 := F0.tr (FrB.ow Hm F2 (fun x e => by rw [e]; exact Hm.ta (k := 2) rfl))
      have hi3 : i < sN (tksR n (xA X)).1 := by show i < (tksR n (xA X)).1.1.1; rw [tksR_1]; exact hi9
      have n6 := R2.n6
      have v2 := (R2.tM hi3).1
      refine kV ?_
      refine wp_iload_n (M := mX7_sentAfter) (pc := 93) dX7_sentAfter_93 rfl ?_
      refine wp_aload_n (M := mX7_sentAfter) (pc := 94) dX7_sentAfter_94 rfl ?_
      refine wp_getR (M := mX7_sentAfter) (pc := 95) fa_X7_13 rfl dX7_sentAfter_95 (by first | exact Hm2.k | exact Hm2.a rfl | exact Hm.k | fail "kd") (by first | exact Hm2.r rfl | exact Hm.r rfl) ?_
      refine wp_iload_n (M := mX7_sentAfter) (pc := 98) dX7_sentAfter_98 rfl ?_
      refine so_S1 (M := mX7_sentAfter) (pc := 99) cs_X7_sentAfter_90 rfl rfl (LE rfl) (LE rfl) dX7_sentAfter_99 ?_
      refine sp_X7_at ?_
      refine kI ?_
      refine wp_bipush (M := mX7_sentAfter) (pc := 102) (v := 7) dX7_sentAfter_102 cb_7 ?_
      refine wp_iadd (M := mX7_sentAfter) (pc := 104) dX7_sentAfter_104 ?_
      refine wr_iaload (M := mX7_sentAfter) (pc := 105) dX7_sentAfter_105 (by first | exact Hm2.k | exact Hm2.a rfl | exact Hm.k | fail "kd") (ia rfl (show (7 : Int32) = nI 7 from rfl)) (by omega) (by decide) ?_
      refine wp_isub (M := mX7_sentAfter) (pc := 106) dX7_sentAfter_106 ?_
      refine wp_iload_n (M := mX7_sentAfter) (pc := 107) dX7_sentAfter_107 rfl ?_
      refine wp_icmp_le (M := mX7_sentAfter) (pc := 108) (tgt := 114) dX7_sentAfter_108 rfl (fun t108 => ?_) (fun f108 => ?_)
      · rw [v2] at t108
        rw [aftR_n (Int32.not_lt.mpr t108)] at he
        refine so_iinc (M := mX7_sentAfter) (pc := 114) (lo' := [_, _, _, _, _]) dX7_sentAfter_114 rfl ci_1 (LE rfl) rfl ?_
        refine wp_goto (M := mX7_sentAfter) (pc := 117) (tgt := 78) dX7_sentAfter_117 rfl ?_
        rw [show nI n + 1 = nI (n + 1) from nI_1 n]
        exact ih (n + 1) h2 (by omega) (by omega) (by omega) H2 z2 O2 R2 he
      · rw [v2] at f108
        rw [aftR_y (Int32.not_le.mp f108)] at he
        refine wp_iload (M := mX7_sentAfter) (pc := 111) dX7_sentAfter_111 rfl ?_
        refine wp_ireturn (M := mX7_sentAfter) (pc := 113) rfl dX7_sentAfter_113 ?_
        rw [he] at k
        exact k h2 H2 z2 O2
set_option maxHeartbeats 4000000 in
set_option maxRecDepth 100000 in
theorem sp_X7_sentAfter {me : Nat} {ad : Nat → Nat} {X : Abs} {t w : Int32} (H : WM h me ad X) (hn0 : 0 < sN (xA X)) (hti : sTi (xA X) + 250 < 2 ^ 30) (hok : ∀ j, j < 99 → okU (tksR j (xA X)).1) (k1 : ∀ i j, i < sN (xA X) → t = nI i → j ≤ 7 → w = nI j → ∀ h', WM h' me ad X → gi h' me 0 = 0 → Ow me h h' → Q (.inl (some (.int (sntR (xA X) i j)))) h') (k2 : ¬ isT (xA X) t → ∀ h', WM h' me ad X → gi h' me 0 = 1 → Ow me h h' → Q (.inl (some (.int 0))) h') (k3 : isT (xA X) t → ¬ wth w 0 7 → ∀ h', WM h' me ad X → gi h' me 0 = 2 → Ow me h h' → Q (.inl (some (.int 0))) h') : WPx E mX7_sentAfter 0 [some (.ref me), some (.int t), some (.int w), none, none] [] (0, 0) h Q := by
  have Hm := H.1
  have hR := H.2.1
  have n6 := hR.n6
  have n12 := hR.n12
  refine wp_aload_n (M := mX7_sentAfter) (pc := 0) dX7_sentAfter_0 rfl ?_
  refine wp_aload_n (M := mX7_sentAfter) (pc := 1) dX7_sentAfter_1 rfl ?_
  refine wp_getR (M := mX7_sentAfter) (pc := 2) fa_X7_7 rfl dX7_sentAfter_2 (by first | exact Hm.k | exact Hm.a rfl | fail "kd") (Hm.r rfl) ?_
  refine wp_iload_n (M := mX7_sentAfter) (pc := 5) dX7_sentAfter_5 rfl ?_
  refine so_S2 (M := mX7_sentAfter) (pc := 6) cs_X7_sentAfter_94 rfl rfl (LE rfl) (LE rfl) dX7_sentAfter_6 ?_
  refine sp_X7_isTenant (Hm.a rfl) hR ?_
  refine kI ?_
  refine wp_if_ne (M := mX7_sentAfter) (pc := 9) (tgt := 16) dX7_sentAfter_9 rfl (fun t9 => ?_) (fun f9 => ?_)
  · refine wp_iload_n (M := mX7_sentAfter) (pc := 16) dX7_sentAfter_16 rfl ?_
    refine wp_i2l (M := mX7_sentAfter) (pc := 17) dX7_sentAfter_17 ?_
    refine wp_lconst (M := mX7_sentAfter) (pc := 18) (v := 0) dX7_sentAfter_18 cl_0 ?_
    refine wp_ldc2_w (M := mX7_sentAfter) (pc := 19) wv_X7_139 dX7_sentAfter_19 ?_
    refine so_S3 (M := mX7_sentAfter) (pc := 22) cs_X7_sentAfter_65 rfl rfl (LE rfl) (LE rfl) dX7_sentAfter_22 ?_
    refine sp_X7_in ?_
    rw [b01_iff (wl (x := w) (a := 0) (b := 7) (a' := 0) (b' := 7) (by decide) (by decide))]
    refine kI ?_
    refine wp_if_ne (M := mX7_sentAfter) (pc := 25) (tgt := 32) dX7_sentAfter_25 rfl (fun t25 => ?_) (fun f25 => ?_)
    · refine wp_iconst (M := mX7_sentAfter) (pc := 32) (v := 0) dX7_sentAfter_32 ci_0 ?_
      refine so_V1 (M := mX7_sentAfter) (pc := 33) cs_X7_sentAfter_74 rfl rfl (LE rfl) (LE rfl) dX7_sentAfter_33 Hm.k ?_
      refine sp_X7_refused0 Hm.k ?_
      refine kI ?_
      refine wp_if_eq (M := mX7_sentAfter) (pc := 36) (tgt := 41) dX7_sentAfter_36 rfl (fun t36 => ?_) (fun f36 => ?_)
      · refine wp_gen (P := fun hX => WM hX me ad X ∧ gi hX me 0 = 0 ∧ Ow me h hX) ⟨H.ref, gi_si_same, Fr.si Hm.t⟩ (fun h0 HX => ?_)
        obtain ⟨H, z0, F0⟩ := HX
        have Hm := H.1
        have hR := H.2.1
        obtain ⟨i, hi9, rfl⟩ := b01_n t9
        obtain ⟨j, hj, rfl⟩ := wth_nI (b := 7) (by decide) (b01_n t25)
        have h88 : lnM (xA X) i ≤ 8 := (hR.tM hi9).2
        have v2 : gi h0 (ad 1) (58 + 217 * i + 7) = nI (lnM (xA X) i) := (hR.tM hi9).1
        refine wp_aload_n (M := mX7_sentAfter) (pc := 41) dX7_sentAfter_41 rfl ?_
        refine wp_getR (M := mX7_sentAfter) (pc := 42) fa_X7_7 rfl dX7_sentAfter_42 (by first | exact Hm.k | exact Hm.a rfl | fail "kd") (Hm.r rfl) ?_
        refine wp_iload_n (M := mX7_sentAfter) (pc := 45) dX7_sentAfter_45 rfl ?_
        refine so_S1 (M := mX7_sentAfter) (pc := 46) cs_X7_sentAfter_90 rfl rfl (LE rfl) (LE rfl) dX7_sentAfter_46 ?_
        refine sp_X7_at ?_
        refine kI ?_
        refine wp_bipush (M := mX7_sentAfter) (pc := 49) (v := 7) dX7_sentAfter_49 cb_7 ?_
        refine wp_iadd (M := mX7_sentAfter) (pc := 51) dX7_sentAfter_51 ?_
        refine wr_iaload (M := mX7_sentAfter) (pc := 52) dX7_sentAfter_52 (by first | exact Hm.k | exact Hm.a rfl | fail "kd") (ia rfl (show (7 : Int32) = nI 7 from rfl)) (by omega) (by decide) ?_
        refine so_istore_n (M := mX7_sentAfter) (pc := 53) (lo' := [_, _, _, _, _]) dX7_sentAfter_53 (LE rfl) (LE rfl) (Or.inr rfl) rfl ?_
        refine wp_iload_n (M := mX7_sentAfter) (pc := 54) dX7_sentAfter_54 rfl ?_
        refine wp_iload_n (M := mX7_sentAfter) (pc := 55) dX7_sentAfter_55 rfl ?_
        refine wp_icmp_lt (M := mX7_sentAfter) (pc := 56) (tgt := 62) dX7_sentAfter_56 rfl (fun t56 => ?_) (fun f56 => ?_)
        · rw [v2] at t56
          have hlt := (i_lt (by omega) (by omega)).mp t56
          refine wp_aload_n (M := mX7_sentAfter) (pc := 62) dX7_sentAfter_62 rfl ?_
          refine wp_getR (M := mX7_sentAfter) (pc := 63) fa_X7_7 rfl dX7_sentAfter_63 (by first | exact Hm.k | exact Hm.a rfl | fail "kd") (Hm.r rfl) ?_
          refine wp_iconst (M := mX7_sentAfter) (pc := 66) (v := 0) dX7_sentAfter_66 ci_0 ?_
          refine wp_aload_n (M := mX7_sentAfter) (pc := 67) dX7_sentAfter_67 rfl ?_
          refine wp_getR (M := mX7_sentAfter) (pc := 68) fa_X7_13 rfl dX7_sentAfter_68 (by first | exact Hm.k | exact Hm.a rfl | fail "kd") (Hm.r rfl) ?_
          refine wp_iconst (M := mX7_sentAfter) (pc := 71) (v := 0) dX7_sentAfter_71 ci_0 ?_
          refine so_S4 (M := mX7_sentAfter) (pc := 72) cs_X7_sentAfter_58 rfl rfl (LE rfl) (LE rfl) dX7_sentAfter_72 ?_
          refine sp_X7_copy (N1 := 1360) (N2 := 1360) (x := 0) (y := 0) (Hm.a (k := 1) rfl) (Hm.a (k := 2) rfl) (Hm.nn (j := 1) (k := 2) rfl rfl (by decide)) (by decide) (by decide) (by decide) (by decide) ?_
          refine qgen9 (P := fun hX => WM hX me ad X ∧ RepR (gi hX (ad 2)) (xA X) ∧ FrB me ad (fun x => x = ad 2) h0 hX) ⟨H.tri, by rw [gi_sw_at]; exact rep_cpy hR, RF.B RF.sw rfl (Hm.ne (k := 2) rfl)⟩ (fun h1 HX => ?_)
          obtain ⟨H1, R1, F1⟩ := HX
          have Hm1 := H1.1
          refine kV ?_
          refine wp_iconst (M := mX7_sentAfter) (pc := 75) (v := 1) dX7_sentAfter_75 ci_1 ?_
          refine so_istore (M := mX7_sentAfter) (pc := 76) (lo' := [_, _, _, _, _]) dX7_sentAfter_76 (LE rfl) (LE rfl) (Or.inr rfl) rfl ?_
          rw [v2]
          have kk := k1 i j hi9 rfl hj rfl
          rw [sntR, if_pos hlt] at kk
          exact lp_X7_sentAfter hn0 hti hok hi9 kk 100 1 h1 (by omega) (by omega) (by omega) H1 (WM.zB F1 z0) (F0.tr (FrB.ow Hm F1 (fun x e => by rw [e]; exact Hm.ta (k := 2) rfl))) R1 rfl
        · rw [v2] at f56
          have hge : ¬ j < lnM (xA X) i := fun e => f56 ((i_lt (by omega) (by omega)).mpr e)
          refine wp_bipush (M := mX7_sentAfter) (pc := 59) (v := -9) dX7_sentAfter_59 cb_m9 ?_
          refine wp_ireturn (M := mX7_sentAfter) (pc := 61) rfl dX7_sentAfter_61 ?_
          have kk := k1 i j hi9 rfl hj rfl h0 H z0 F0
          rw [sntR, if_neg hge] at kk
          exact kk
      · exact absurd rfl f36
    · refine wp_iconst (M := mX7_sentAfter) (pc := 28) (v := 2) dX7_sentAfter_28 ci_2 ?_
      refine wp_goto (M := mX7_sentAfter) (pc := 29) (tgt := 33) dX7_sentAfter_29 rfl ?_
      refine so_V1 (M := mX7_sentAfter) (pc := 33) cs_X7_sentAfter_74 rfl rfl (LE rfl) (LE rfl) dX7_sentAfter_33 Hm.k ?_
      refine sp_X7_refused1 (v := 2) Hm.k (by decide) ?_
      refine kI ?_
      refine wp_if_eq (M := mX7_sentAfter) (pc := 36) (tgt := 41) dX7_sentAfter_36 rfl (fun t36 => ?_) (fun f36 => ?_)
      · exact absurd t36 (by decide)
      · refine wp_iconst (M := mX7_sentAfter) (pc := 39) (v := 0) dX7_sentAfter_39 ci_0 ?_
        refine wp_ireturn (M := mX7_sentAfter) (pc := 40) rfl dX7_sentAfter_40 ?_
        exact k3 (b01_n t9) (b01_z f25) _ H.ref gi_si_same (Fr.si Hm.t)
  · refine wp_iconst (M := mX7_sentAfter) (pc := 12) (v := 1) dX7_sentAfter_12 ci_1 ?_
    refine wp_goto (M := mX7_sentAfter) (pc := 13) (tgt := 33) dX7_sentAfter_13 rfl ?_
    refine so_V1 (M := mX7_sentAfter) (pc := 33) cs_X7_sentAfter_74 rfl rfl (LE rfl) (LE rfl) dX7_sentAfter_33 Hm.k ?_
    refine sp_X7_refused1 (v := 1) Hm.k (by decide) ?_
    refine kI ?_
    refine wp_if_eq (M := mX7_sentAfter) (pc := 36) (tgt := 41) dX7_sentAfter_36 rfl (fun t36 => ?_) (fun f36 => ?_)
    · exact absurd t36 (by decide)
    · refine wp_iconst (M := mX7_sentAfter) (pc := 39) (v := 0) dX7_sentAfter_39 ci_0 ?_
      refine wp_ireturn (M := mX7_sentAfter) (pc := 40) rfl dX7_sentAfter_40 ?_
      exact k2 (b01_z f9) _ H.ref gi_si_same (Fr.si Hm.t)
end SP
