section SP
variable {E : Ev} {h : PH} {Q : Rt → PH → Prop}
/-- what a tick needs of a state in the reference -/
def okU (A : Sta) : Prop := ¬ sG A 2 = 0 ∧ okD (tk1R A) ∧ ∀ t, t < sN A → ∀ x ∈ (sT (tk2R (tk1R A)) t).2.2, x.2 < 2 ^ 31
theorem clR_o {A : Sta} {t u : Nat} (h : u ≠ t) : (sT (clR A t) u).2 = (sT A u).2 := by
  show (u1 (sT (col2 (col1R A t ((sT A t).2.2.getD 0 (0, 0)).1).1 t (col1R A t ((sT A t).2.2.getD 0 (0, 0)).1).2)) t _ u).2 = _
  rw [u1_ne _ _ h, col2_D, col1R_D]
theorem cdR_o {t u : Nat} (h : u ≠ t) : ∀ {f : Nat} {A : Sta}, (sT (cdR t f A) u).2.2 = (sT A u).2.2
  | 0, _ => rfl
  | f + 1, A => by
    by_cases hc : 0 < (sT A t).2.2.length ∧ ((sT A t).2.2.getD 0 (0, 0)).2 ≤ sTi A
    · rw [cdR_y hc, cdR_o h, clR_o h]
    · rw [cdR_n hc]
theorem fbk_A (A : Sta) : ∀ i, (fbk A i).1 = A.1 := fbk_1 A
set_option maxHeartbeats 4000000 in
set_option maxRecDepth 100000 in
theorem l1_X7_tickOn {me : Nat} {a : Nat} {A : Sta} {h0 : PH} (kk : ∀ h', RepR (gi h' a) (fbk A (sN A)) → RF a h0 h' → ∀ x3 : Option Value, WPx E mX7_tickOn 67 [some (.ref me), some (.ref a), some (.int (nI (sN A))), x3] [] (0, 0) h' Q) : ∀ (m : Nat) (i : Nat) (h : PH) (x3 : Option Value), sN A - i < m → (i ≤ sN A) → (kd h a = some (.inr (0, 1360))) → (RepR (gi h a) (fbk A i)) → (RF a h0 h) → WPx E mX7_tickOn 9 [some (.ref me), some (.ref a), some (.int (nI i)), x3] [] (0, 0) h Q := by
  intro m
  induction m with
  | zero => intro i h x3 hm; exact absurd hm (Nat.not_lt_zero _)
  | succ m ih =>
    intro i h x3 hm hi ka hR F
    have eN : sN (fbk A i) = sN A := by show (fbk A i).1.1 = _; rw [fbk_1]
    have n6 := hR.n6
    rw [eN] at n6
    have e0 : gi h a 0 = nI (sN A) := by rw [hR.f0, eN]
    refine wp_iload_n (M := mX7_tickOn) (pc := 9) dX7_tickOn_9 rfl ?_
    refine wp_aload_n (M := mX7_tickOn) (pc := 10) dX7_tickOn_10 rfl ?_
    refine wp_iconst (M := mX7_tickOn) (pc := 11) (v := 0) dX7_tickOn_11 ci_0 ?_
    refine wr_iaload (M := mX7_tickOn) (pc := 12) dX7_tickOn_12 ka (show (0 : Int32) = nI 0 from rfl) (by omega) (by decide) ?_
    refine wp_icmp_ge (M := mX7_tickOn) (pc := 13) (tgt := 67) dX7_tickOn_13 rfl (fun t13 => ?_) (fun f13 => ?_)
    · rw [e0] at t13
      have hi2 := n_ge hi (by omega) t13
      subst hi2
      exact kk h hR F x3
    · rw [e0] at f13
      have hlt := n_lt hi (by omega) f13
      have htt : i < sN (fbk A i) := by rw [eN]; exact hlt
      refine wp_iload_n (M := mX7_tickOn) (pc := 16) dX7_tickOn_16 rfl ?_
      refine so_S1 (M := mX7_tickOn) (pc := 17) cs_X7_tickOn_90 rfl rfl (LE rfl) (LE rfl) dX7_tickOn_17 ?_
      refine sp_X7_at ?_
      refine kI ?_
      refine so_istore_n (M := mX7_tickOn) (pc := 20) (lo' := [_, _, _, _]) dX7_tickOn_20 (LE rfl) (LE rfl) (Or.inr rfl) rfl ?_
      refine wp_aload_n (M := mX7_tickOn) (pc := 21) dX7_tickOn_21 rfl ?_
      refine wp_iload_n (M := mX7_tickOn) (pc := 22) dX7_tickOn_22 rfl ?_
      refine wp_iconst (M := mX7_tickOn) (pc := 23) (v := 2) dX7_tickOn_23 ci_2 ?_
      refine wp_iadd (M := mX7_tickOn) (pc := 24) dX7_tickOn_24 ?_
      refine wp_aload_n (M := mX7_tickOn) (pc := 25) dX7_tickOn_25 rfl ?_
      refine wp_iload_n (M := mX7_tickOn) (pc := 26) dX7_tickOn_26 rfl ?_
      refine so_S2 (M := mX7_tickOn) (pc := 27) cs_X7_tickOn_130 rfl rfl (LE rfl) (LE rfl) dX7_tickOn_27 ?_
      refine sp_X7_isSuspended ka hR htt ?_
      refine kI ?_
      refine wp_if_eq (M := mX7_tickOn) (pc := 30) (tgt := 41) dX7_tickOn_30 rfl (fun t30 => ?_) (fun f30 => ?_)
      · refine wp_aload_n (M := mX7_tickOn) (pc := 41) dX7_tickOn_41 rfl ?_
        refine wp_iload_n (M := mX7_tickOn) (pc := 42) dX7_tickOn_42 rfl ?_
        refine wp_iconst (M := mX7_tickOn) (pc := 43) (v := 0) dX7_tickOn_43 ci_0 ?_
        refine wp_iadd (M := mX7_tickOn) (pc := 44) dX7_tickOn_44 ?_
        refine wr_iaload (M := mX7_tickOn) (pc := 45) dX7_tickOn_45 ka (ia rfl (show (0 : Int32) = nI 0 from rfl)) (by omega) (by decide) ?_
        refine wp_aload_n (M := mX7_tickOn) (pc := 46) dX7_tickOn_46 rfl ?_
        refine wp_iload_n (M := mX7_tickOn) (pc := 47) dX7_tickOn_47 rfl ?_
        refine wp_iconst (M := mX7_tickOn) (pc := 48) (v := 2) dX7_tickOn_48 ci_2 ?_
        refine wp_iadd (M := mX7_tickOn) (pc := 49) dX7_tickOn_49 ?_
        refine wr_iaload (M := mX7_tickOn) (pc := 50) dX7_tickOn_50 ka (ia rfl (show (2 : Int32) = nI 2 from rfl)) (by omega) (by decide) ?_
        refine wp_aload_n (M := mX7_tickOn) (pc := 51) dX7_tickOn_51 rfl ?_
        refine wp_iload_n (M := mX7_tickOn) (pc := 52) dX7_tickOn_52 rfl ?_
        refine wp_iconst (M := mX7_tickOn) (pc := 53) (v := 1) dX7_tickOn_53 ci_1 ?_
        refine wp_iadd (M := mX7_tickOn) (pc := 54) dX7_tickOn_54 ?_
        refine wr_iaload (M := mX7_tickOn) (pc := 55) dX7_tickOn_55 ka (ia rfl (show (1 : Int32) = nI 1 from rfl)) (by omega) (by decide) ?_
        refine wp_iadd (M := mX7_tickOn) (pc := 56) dX7_tickOn_56 ?_
        refine so_S2 (M := mX7_tickOn) (pc := 57) cs_X7_tickOn_115 rfl rfl (LE rfl) (LE rfl) dX7_tickOn_57 ?_
        refine sp_X7_lesser ?_
        refine kI ?_
        refine wr_iastore (M := mX7_tickOn) (pc := 60) dX7_tickOn_60 ka (ia rfl (show (2 : Int32) = nI 2 from rfl)) (by omega) (by decide) ?_
        refine so_iinc (M := mX7_tickOn) (pc := 61) (lo' := [_, _, _, _]) dX7_tickOn_61 rfl ci_1 (LE rfl) rfl ?_
        refine wp_goto (M := mX7_tickOn) (pc := 64) (tgt := 9) dX7_tickOn_64 rfl ?_
        first
        | (rw [show nI i + 1 = nI (i + 1) from nI_1 i]
           refine ih (i + 1) _ _ (by omega) (by omega) ka ?_ (F.tr RF.si)
           rw [gi_si_at, hR.tF htt (by decide), hR.tF htt (by decide), hR.tF htt (by decide), imin_comm]
           show RepR _ (fillB (fbk A i) i)
           rw [fillB_n (b01_z t30)]
           exact hR.sF htt (by decide) _)
        | (rw [show nI i + 1 = nI (i + 1) from nI_1 i]
           refine ih (i + 1) _ _ (by omega) (by omega) ka ?_ (F.tr RF.si)
           rw [gi_si_at, hR.tF htt (by decide)]
           show RepR _ (fillB (fbk A i) i)
           rw [fillB_y (b01_n f30)]
           have R1 := hR.sF htt (k := 2) (by decide) (fT (fbk A i) i 2)
           rw [wF_self] at R1
           exact R1)
        | fail "leaf"
      · refine wp_aload_n (M := mX7_tickOn) (pc := 33) dX7_tickOn_33 rfl ?_
        refine wp_iload_n (M := mX7_tickOn) (pc := 34) dX7_tickOn_34 rfl ?_
        refine wp_iconst (M := mX7_tickOn) (pc := 35) (v := 2) dX7_tickOn_35 ci_2 ?_
        refine wp_iadd (M := mX7_tickOn) (pc := 36) dX7_tickOn_36 ?_
        refine wr_iaload (M := mX7_tickOn) (pc := 37) dX7_tickOn_37 ka (ia rfl (show (2 : Int32) = nI 2 from rfl)) (by omega) (by decide) ?_
        refine wp_goto (M := mX7_tickOn) (pc := 38) (tgt := 60) dX7_tickOn_38 rfl ?_
        refine wr_iastore (M := mX7_tickOn) (pc := 60) dX7_tickOn_60 ka (ia rfl (show (2 : Int32) = nI 2 from rfl)) (by omega) (by decide) ?_
        refine so_iinc (M := mX7_tickOn) (pc := 61) (lo' := [_, _, _, _]) dX7_tickOn_61 rfl ci_1 (LE rfl) rfl ?_
        refine wp_goto (M := mX7_tickOn) (pc := 64) (tgt := 9) dX7_tickOn_64 rfl ?_
        first
        | (rw [show nI i + 1 = nI (i + 1) from nI_1 i]
           refine ih (i + 1) _ _ (by omega) (by omega) ka ?_ (F.tr RF.si)
           rw [gi_si_at, hR.tF htt (by decide), hR.tF htt (by decide), hR.tF htt (by decide), imin_comm]
           show RepR _ (fillB (fbk A i) i)
           rw [fillB_n (b01_z t30)]
           exact hR.sF htt (by decide) _)
        | (rw [show nI i + 1 = nI (i + 1) from nI_1 i]
           refine ih (i + 1) _ _ (by omega) (by omega) ka ?_ (F.tr RF.si)
           rw [gi_si_at, hR.tF htt (by decide)]
           show RepR _ (fillB (fbk A i) i)
           rw [fillB_y (b01_n f30)]
           have R1 := hR.sF htt (k := 2) (by decide) (fT (fbk A i) i 2)
           rw [wF_self] at R1
           exact R1)
        | fail "leaf"
set_option maxHeartbeats 4000000 in
set_option maxRecDepth 100000 in
theorem l2_X7_tickOn {me : Nat} {a t n T : Nat} {h0 : PH} {res : Sta} (htn : t < n) (hT : T < 2 ^ 31) (kk : ∀ h', RepR (gi h' a) res → RF a h0 h' → ∀ x3 : Option Value, WPx E mX7_tickOn 132 [some (.ref me), some (.ref a), some (.int (nI t)), x3] [] (0, 0) h' Q) : ∀ (m : Nat) (fu : Nat) (h : PH) (A : Sta) (x3 : Option Value), fu < m → (kd h a = some (.inr (0, 1360))) → (RepR (gi h a) A) → (RF a h0 h) → (sN A = n) → (sTi A = T) → ((sT A t).2.2.length ≤ fu) → (∀ x ∈ (sT A t).2.2, x.2 < 2 ^ 31) → (cdR t fu A = res) → WPx E mX7_tickOn 95 [some (.ref me), some (.ref a), some (.int (nI t)), x3] [] (0, 0) h Q := by
  intro m
  induction m with
  | zero => intro fu h A x3 hm; exact absurd hm (Nat.not_lt_zero _)
  | succ m ih =>
    intro fu h A x3 hm ka hR F eN eT hfu hdu he
    have n6 := hR.n6
    have htA : t < sN A := by rw [eN]; exact htn
    have d100 := (hR.tD htA).2
    have e16 := (hR.tD htA).1
    have e5 : gi h a 5 = nI T := by rw [hR.f5, eT]
    refine wp_aload_n (M := mX7_tickOn) (pc := 95) dX7_tickOn_95 rfl ?_
    refine wp_iload_n (M := mX7_tickOn) (pc := 96) dX7_tickOn_96 rfl ?_
    refine so_S1 (M := mX7_tickOn) (pc := 97) cs_X7_tickOn_90 rfl rfl (LE rfl) (LE rfl) dX7_tickOn_97 ?_
    refine sp_X7_at ?_
    refine kI ?_
    refine wp_bipush (M := mX7_tickOn) (pc := 100) (v := 16) dX7_tickOn_100 cb_16 ?_
    refine wp_iadd (M := mX7_tickOn) (pc := 102) dX7_tickOn_102 ?_
    refine wr_iaload (M := mX7_tickOn) (pc := 103) dX7_tickOn_103 ka (ia rfl (show (16 : Int32) = nI 16 from rfl)) (by omega) (by decide) ?_
    refine wp_if_le (M := mX7_tickOn) (pc := 104) (tgt := 132) dX7_tickOn_104 rfl (fun t104 => ?_) (fun f104 => ?_)
    · rw [e16] at t104
      have hz : (sT A t).2.2.length = 0 := Nat.le_zero.mp ((i_le (b := 0) (by omega) (by decide)).mp t104)
      rw [cdR_n (fun q => absurd q.1 (by omega))] at he
      rw [he] at hR
      exact kk h hR F x3
    · rw [e16] at f104
      have hpos : 0 < (sT A t).2.2.length := Nat.pos_of_ne_zero (fun e => f104 (by rw [e]; exact Int32.le_refl _))
      have ed : gi h a (58 + 217 * t + 17 + 1) = nI ((sT A t).2.2.getD 0 (0, 0)).2 := (hR.td htA hpos).2
      have hd2 : ((sT A t).2.2.getD 0 (0, 0)).2 < 2 ^ 31 := hdu _ (by rw [List.getD_eq_getElem?_getD, List.getElem?_eq_getElem hpos]; exact List.getElem_mem hpos)
      refine wp_aload_n (M := mX7_tickOn) (pc := 107) dX7_tickOn_107 rfl ?_
      refine wp_iload_n (M := mX7_tickOn) (pc := 108) dX7_tickOn_108 rfl ?_
      refine so_S1 (M := mX7_tickOn) (pc := 109) cs_X7_tickOn_90 rfl rfl (LE rfl) (LE rfl) dX7_tickOn_109 ?_
      refine sp_X7_at ?_
      refine kI ?_
      refine wp_bipush (M := mX7_tickOn) (pc := 112) (v := 17) dX7_tickOn_112 cb_17 ?_
      refine wp_iadd (M := mX7_tickOn) (pc := 114) dX7_tickOn_114 ?_
      refine wp_iconst (M := mX7_tickOn) (pc := 115) (v := 1) dX7_tickOn_115 ci_1 ?_
      refine wp_iadd (M := mX7_tickOn) (pc := 116) dX7_tickOn_116 ?_
      refine wr_iaload (M := mX7_tickOn) (pc := 117) dX7_tickOn_117 ka (ia (ia rfl (show (17 : Int32) = nI 17 from rfl)) (show (1 : Int32) = nI 1 from rfl)) (by omega) (by decide) ?_
      refine wp_aload_n (M := mX7_tickOn) (pc := 118) dX7_tickOn_118 rfl ?_
      refine wp_iconst (M := mX7_tickOn) (pc := 119) (v := 5) dX7_tickOn_119 ci_5 ?_
      refine wr_iaload (M := mX7_tickOn) (pc := 120) dX7_tickOn_120 ka (show (5 : Int32) = nI 5 from rfl) (by omega) (by decide) ?_
      refine wp_icmp_gt (M := mX7_tickOn) (pc := 121) (tgt := 132) dX7_tickOn_121 rfl (fun t121 => ?_) (fun f121 => ?_)
      · rw [ed, e5] at t121
        have hlt := (i_lt hT hd2).mp t121
        rw [cdR_n (fun q => absurd q.2 (by omega))] at he
        rw [he] at hR
        exact kk h hR F x3
      · rw [ed, e5] at f121
        have hle : ((sT A t).2.2.getD 0 (0, 0)).2 ≤ T := Nat.le_of_not_lt (fun e => f121 ((i_lt hT hd2).mpr e))
        obtain ⟨fu1, rfl⟩ : ∃ fu1, fu = fu1 + 1 := ⟨fu - 1, by omega⟩
        rw [cdR_y ⟨hpos, by rw [eT]; exact hle⟩] at he
        refine wp_aload_n (M := mX7_tickOn) (pc := 124) dX7_tickOn_124 rfl ?_
        refine wp_iload_n (M := mX7_tickOn) (pc := 125) dX7_tickOn_125 rfl ?_
        refine so_S2 (M := mX7_tickOn) (pc := 126) cs_X7_tickOn_200 rfl rfl (LE rfl) (LE rfl) dX7_tickOn_126 ?_
        refine sp_X7_collect ka hR htA hpos (fun h1 R1 F1 => ?_)
        refine kV ?_
        refine wp_goto (M := mX7_tickOn) (pc := 129) (tgt := 95) dX7_tickOn_129 rfl ?_
        have hd := clR_D A t
        refine ih fu1 h1 (clR A t) x3 (by omega) (by rw [F1.kd]; exact ka) R1 (F.tr F1) (by show (clR A t).1.1 = _; rw [clR_1]; exact eN) (by show (clR A t).1.2.1 = _; rw [clR_1]; exact eT) (by rw [hd, List.length_tail]; omega) (fun x hx => hdu x (List.mem_of_mem_tail (by rw [← hd]; exact hx))) he
set_option maxHeartbeats 4000000 in
set_option maxRecDepth 100000 in
theorem l3_X7_tickOn {me : Nat} {a T : Nat} {A : Sta} {h0 : PH} (hT : T < 2 ^ 31) (eT : sTi A = T) (hdu : ∀ t, t < sN A → ∀ x ∈ (sT A t).2.2, x.2 < 2 ^ 31) (k : ∀ h', RepR (gi h' a) (cdRa A (sN A)) → RF a h0 h' → Q (.inl none) h') : ∀ (m : Nat) (i : Nat) (h : PH) (x3 : Option Value), sN A - i < m → (i ≤ sN A) → (kd h a = some (.inr (0, 1360))) → (RepR (gi h a) (cdRa A i)) → (RF a h0 h) → (∀ t, i ≤ t → (sT (cdRa A i) t).2.2 = (sT A t).2.2) → WPx E mX7_tickOn 88 [some (.ref me), some (.ref a), some (.int (nI i)), x3] [] (0, 0) h Q := by
  intro m
  induction m with
  | zero => intro i h x3 hm; exact absurd hm (Nat.not_lt_zero _)
  | succ m ih =>
    intro i h x3 hm hi ka hR F hun
    have eN : sN (cdRa A i) = sN A := by show (cdRa A i).1.1 = _; rw [cdRa_1]
    have n6 := hR.n6
    rw [eN] at n6
    have e0 : gi h a 0 = nI (sN A) := by rw [hR.f0, eN]
    refine wp_iload_n (M := mX7_tickOn) (pc := 88) dX7_tickOn_88 rfl ?_
    refine wp_aload_n (M := mX7_tickOn) (pc := 89) dX7_tickOn_89 rfl ?_
    refine wp_iconst (M := mX7_tickOn) (pc := 90) (v := 0) dX7_tickOn_90 ci_0 ?_
    refine wr_iaload (M := mX7_tickOn) (pc := 91) dX7_tickOn_91 ka (show (0 : Int32) = nI 0 from rfl) (by omega) (by decide) ?_
    refine wp_icmp_ge (M := mX7_tickOn) (pc := 92) (tgt := 138) dX7_tickOn_92 rfl (fun t92 => ?_) (fun f92 => ?_)
    · rw [e0] at t92
      have hi2 := n_ge hi (by omega) t92
      subst hi2
      refine wp_return (M := mX7_tickOn) (pc := 138) rfl dX7_tickOn_138 ?_
      exact k h hR F
    · rw [e0] at f92
      have hlt := n_lt hi (by omega) f92
      refine l2_X7_tickOn (t := i) (n := sN A) (T := T) (h0 := h) hlt hT (fun h1 R1 F1 x9 => ?_) ((sT (cdRa A i) i).2.2.length + 1) (sT (cdRa A i) i).2.2.length h (cdRa A i) x3 (by omega) ka hR RF.rf eN (by show (cdRa A i).1.2.1 = _; rw [cdRa_1]; exact eT) (Nat.le_refl _) (by rw [hun i (Nat.le_refl _)]; exact hdu i hlt) rfl
      refine so_iinc (M := mX7_tickOn) (pc := 132) (lo' := [_, _, _, _]) dX7_tickOn_132 rfl ci_1 (LE rfl) rfl ?_
      refine wp_goto (M := mX7_tickOn) (pc := 135) (tgt := 88) dX7_tickOn_135 rfl ?_
      rw [show nI i + 1 = nI (i + 1) from nI_1 i]
      exact ih (i + 1) h1 x9 (by omega) (by omega) (by rw [F1.kd]; exact ka) R1 (F.tr F1) (fun t ht => by show (sT (cdR i _ (cdRa A i)) t).2.2 = _; rw [cdR_o (by omega)]; exact hun t (by omega))
set_option maxHeartbeats 4000000 in
set_option maxRecDepth 100000 in
theorem sp_X7_tickOn {me : Nat} {ad : Nat → Nat} {a : Nat} {A : Sta} (Hm : MoL h me ad) (ka : kd h a = some (.inr (0, 1360))) (hR : RepR (gi h a) A) (na : a ≠ me ∧ ∀ k y, (k = 12 ∨ k = 14 ∨ k = 15 ∨ k = 16) → fsz k = some y → a ≠ ad k) (hn0 : 0 < sN A) (hti : sTi A + 1 < 2 ^ 30) (hiv : ¬ sG A 2 = 0) (hD : okD (tk1R A)) (hdu : ∀ t, t < sN A → ∀ x ∈ (sT (tk2R (tk1R A)) t).2.2, x.2 < 2 ^ 31) (k : ∀ h', MoL h' me ad → RepR (gi h' a) (tkR A) → FrB me ad (fun x => x = a) h h' → Q (.inl none) h') : WPx E mX7_tickOn 0 [some (.ref me), some (.ref a), none, none] [] (0, 0) h Q := by
  have n6 := hR.n6
  have n12 := hR.n12
  have na0 := na.1
  have na16 := na.2 16 _ (by decide) rfl
  refine wp_aload_n (M := mX7_tickOn) (pc := 0) dX7_tickOn_0 rfl ?_
  refine wp_iconst (M := mX7_tickOn) (pc := 1) (v := 5) dX7_tickOn_1 ci_5 ?_
  refine wp_dup2 (M := mX7_tickOn) (pc := 2) dX7_tickOn_2 rfl rfl ?_
  refine wr_iaload (M := mX7_tickOn) (pc := 3) dX7_tickOn_3 (by first | exact Hm.k | exact ka2 | exact ka | fail "kd") (show (5 : Int32) = nI 5 from rfl) (by omega) (by decide) ?_
  refine wp_iconst (M := mX7_tickOn) (pc := 4) (v := 1) dX7_tickOn_4 ci_1 ?_
  refine wp_iadd (M := mX7_tickOn) (pc := 5) dX7_tickOn_5 ?_
  refine wr_iastore (M := mX7_tickOn) (pc := 6) dX7_tickOn_6 (by first | exact Hm.k | exact ka2 | exact ka | fail "kd") (show (5 : Int32) = nI 5 from rfl) (by omega) (by decide) ?_
  refine wp_iconst (M := mX7_tickOn) (pc := 7) (v := 0) dX7_tickOn_7 ci_0 ?_
  refine so_istore_n (M := mX7_tickOn) (pc := 8) (lo' := [_, _, _, _]) dX7_tickOn_8 (LE rfl) (LE rfl) (Or.inr rfl) rfl ?_
  rw [hR.f5, show nI (sTi A) + 1 = nI (sTi A + 1) from nI_1 _]
  have R1 := hR.sTime (sTi A + 1)
  refine l1_X7_tickOn (A := wTi A (sTi A + 1)) (h0 := h) (fun h1 R2 F2 x9 => ?_) (sN A + 1) 0 _ none (by show sN A - 0 < sN A + 1; omega) (Nat.zero_le _) ka (by rw [gi_si_at]; exact R1) RF.si
  have ka1 : kd h1 a = some (.inr (0, 1360)) := by rw [F2.kd]; exact ka
  refine wp_aload_n (M := mX7_tickOn) (pc := 67) dX7_tickOn_67 rfl ?_
  refine so_S1 (M := mX7_tickOn) (pc := 68) cs_X7_tickOn_194 rfl rfl (LE rfl) (LE rfl) dX7_tickOn_68 ?_
  refine sp_X7_sendAll ka1 R2 (by show 0 < (fbk _ _).1.1; rw [fbk_1]; exact hn0) (by show (fbk _ _).1.2.1 < _; rw [fbk_1]; show sTi A + 1 < _; omega) (fun h2 R3 F3 => ?_)
  have ka2 : kd h2 a = some (.inr (0, 1360)) := by rw [F3.kd]; exact ka1
  have R3' : RepR (gi h2 a) (tk1R A) := R3
  have e5 : gi h2 a 5 = nI (sTi (tk1R A)) := R3'.f5
  have e2 : gi h2 a 2 = sG A 2 := by rw [R3'.f2, tk1R_G2]
  have e2' : gi h2 a 2 = sG (tk1R A) 2 := R3'.f2
  have Hm2 : MoL h2 me ad := (Hm.B (F2.B (Z := fun x => x = a) rfl na0)).B (F3.B (Z := fun x => x = a) rfl na0)
  have F23 : FrB me ad (fun x => x = a) h h2 := (F2.tr F3).B rfl na0
  have hend : ∀ h3, MoL h3 me ad → RepR (gi h3 a) (tk2R (tk1R A)) → FrB me ad (fun x => x = a) h h3 → WPx E mX7_tickOn 86 [some (.ref me), some (.ref a), some (.int (nI (sN A))), x9] [] (0, 0) h3 Q := fun h3 Hm3 R4 F4 => by
    have e1 : (tk2R (tk1R A)).1 = (sN A, sTi A + 1, sTm A) := by rw [tk2R_1, tk1R_1]
    have eN2 : sN (tk2R (tk1R A)) = sN A := by show (tk2R (tk1R A)).1.1 = _; rw [e1]
    refine wp_iconst (M := mX7_tickOn) (pc := 86) (v := 0) dX7_tickOn_86 ci_0 ?_
    refine so_istore_n (M := mX7_tickOn) (pc := 87) (lo' := [_, _, _, _]) dX7_tickOn_87 (LE rfl) (LE rfl) (Or.inr rfl) rfl ?_
    refine l3_X7_tickOn (A := tk2R (tk1R A)) (T := sTi A + 1) (h0 := h3) (by omega) (by show (tk2R (tk1R A)).1.2.1 = _; rw [e1]) (by rw [eN2]; exact hdu) (fun h5 R5 F5 => k h5 (Hm3.B (F5.B (Z := fun x => x = a) rfl na0)) (by rw [tkR, ← eN2]; exact R5) (F4.tr (F5.B rfl na0))) (sN (tk2R (tk1R A)) + 1) 0 h3 x9 (by omega) (Nat.zero_le _) (by rw [F4.1.1]; exact ka) R4 RF.rf (fun _ _ => rfl)
  refine kV ?_
  refine wp_aload_n (M := mX7_tickOn) (pc := 71) dX7_tickOn_71 rfl ?_
  refine wp_iconst (M := mX7_tickOn) (pc := 72) (v := 5) dX7_tickOn_72 ci_5 ?_
  refine wr_iaload (M := mX7_tickOn) (pc := 73) dX7_tickOn_73 (by first | exact ka2 | exact ka1) (show (5 : Int32) = nI 5 from rfl) (by omega) (by decide) ?_
  refine wp_aload_n (M := mX7_tickOn) (pc := 74) dX7_tickOn_74 rfl ?_
  refine wp_iconst (M := mX7_tickOn) (pc := 75) (v := 2) dX7_tickOn_75 ci_2 ?_
  refine wr_iaload (M := mX7_tickOn) (pc := 76) dX7_tickOn_76 (by first | exact ka2 | exact ka1) (show (2 : Int32) = nI 2 from rfl) (by omega) (by decide) ?_
  refine wp_irem (M := mX7_tickOn) (pc := 77) dX7_tickOn_77 (by rw [e2]; exact hiv) ?_
  refine wp_if_ne (M := mX7_tickOn) (pc := 78) (tgt := 86) dX7_tickOn_78 rfl (fun t78 => ?_) (fun f78 => ?_)
  · rw [e5, e2'] at t78
    first
    | exact hend h2 Hm2 (by rw [tk2R, cif_f t78]; exact R3') F23
    | exact hend h3 Hm3 (by rw [tk2R, cif_t f78]; exact R4) (F23.tr F4)
    | fail "leaf"
  · rw [e5, e2'] at f78
    refine wp_aload_n (M := mX7_tickOn) (pc := 81) dX7_tickOn_81 rfl ?_
    refine wp_aload_n (M := mX7_tickOn) (pc := 82) dX7_tickOn_82 rfl ?_
    refine so_V1 (M := mX7_tickOn) (pc := 83) cs_X7_tickOn_197 rfl rfl (LE rfl) (LE rfl) dX7_tickOn_83 Hm2.k ?_
    refine sp_X7_auctionOn Hm2 ka2 R3' na hD (fun h3 Hm3 R4 F4 => ?_)
    refine kV ?_
    first
    | exact hend h2 Hm2 (by rw [tk2R, cif_f t78]; exact R3') F23
    | exact hend h3 Hm3 (by rw [tk2R, cif_t f78]; exact R4) (F23.tr F4)
    | fail "leaf"
set_option maxHeartbeats 4000000 in
set_option maxRecDepth 100000 in
theorem lp_X7_ticksOn {me : Nat} {ad : Nat → Nat} {a n : Nat} {A : Sta} {h0 : PH} (hn : n < 2 ^ 31) (hn0 : 0 < sN A) (hti : sTi A + n + 100 < 2 ^ 30) (hok : ∀ j, j < n → okU (tksR j A).1) (k : ∀ h', MoL h' me ad → RepR (gi h' a) (tksR n A).1 → FrB me ad (fun x => x = a) h0 h' → Q (.inl (some (.int (tksR n A).2))) h') : ∀ (m : Nat) (i : Nat) (h : PH), n - i < m → (i ≤ n) → (MoL h me ad) → (kd h a = some (.inr (0, 1360))) → (a ≠ me ∧ ∀ k y, (k = 12 ∨ k = 14 ∨ k = 15 ∨ k = 16) → fsz k = some y → a ≠ ad k) → (RepR (gi h a) (tksR i A).1) → (FrB me ad (fun x => x = a) h0 h) → WPx E mX7_ticksOn 5 [some (.ref me), some (.ref a), some (.int (nI n)), some (.int (tksR i A).2), some (.int (nI i))] [] (0, 0) h Q := by
  intro m
  induction m with
  | zero => intro i h hm; exact absurd hm (Nat.not_lt_zero _)
  | succ m ih =>
    intro i h hm hi Hm ka na hR F
    refine wp_iload (M := mX7_ticksOn) (pc := 5) dX7_ticksOn_5 rfl ?_
    refine wp_iload_n (M := mX7_ticksOn) (pc := 7) dX7_ticksOn_7 rfl ?_
    refine wp_icmp_ge (M := mX7_ticksOn) (pc := 8) (tgt := 29) dX7_ticksOn_8 rfl (fun t8 => ?_) (fun f8 => ?_)
    · have hi2 := n_ge hi hn t8
      subst hi2
      refine wp_iload_n (M := mX7_ticksOn) (pc := 29) dX7_ticksOn_29 rfl ?_
      refine wp_ireturn (M := mX7_ticksOn) (pc := 30) rfl dX7_ticksOn_30 ?_
      exact k h Hm hR F
    · have hlt := n_lt hi hn f8
      have e1 := tksR_1 A i
      have eN : sN (tksR i A).1 = sN A := by show (tksR i A).1.1.1 = _; rw [e1]
      have eT : sTi (tksR i A).1 = sTi A + i := by show (tksR i A).1.1.2.1 = _; rw [e1]
      obtain ⟨q1, q2, q3⟩ := hok i hlt
      refine wp_aload_n (M := mX7_ticksOn) (pc := 11) dX7_ticksOn_11 rfl ?_
      refine wp_aload_n (M := mX7_ticksOn) (pc := 12) dX7_ticksOn_12 rfl ?_
      refine so_V1 (M := mX7_ticksOn) (pc := 13) cs_X7_ticksOn_203 rfl rfl (LE rfl) (LE rfl) dX7_ticksOn_13 (by first | exact ka1 | exact Hm.k | exact ka | fail "kd") ?_
      refine sp_X7_tickOn Hm ka hR na (by omega) (by omega) q1 q2 q3 (fun h1 Hm1 R1 F1 => ?_)
      have ka1 : kd h1 a = some (.inr (0, 1360)) := by rw [F1.1.1]; exact ka
      refine kV ?_
      refine wp_iload_n (M := mX7_ticksOn) (pc := 16) dX7_ticksOn_16 rfl ?_
      refine wp_aload_n (M := mX7_ticksOn) (pc := 17) dX7_ticksOn_17 rfl ?_
      refine wp_bipush (M := mX7_ticksOn) (pc := 18) (v := 9) dX7_ticksOn_18 cb_9 ?_
      refine wr_iaload (M := mX7_ticksOn) (pc := 20) dX7_ticksOn_20 (by first | exact ka1 | exact Hm.k | exact ka | fail "kd") (show (9 : Int32) = nI 9 from rfl) (by omega) (by decide) ?_
      refine wp_iadd (M := mX7_ticksOn) (pc := 21) dX7_ticksOn_21 ?_
      refine so_istore_n (M := mX7_ticksOn) (pc := 22) (lo' := [_, _, _, _, _]) dX7_ticksOn_22 (LE rfl) (LE rfl) (Or.inr rfl) rfl ?_
      refine so_iinc (M := mX7_ticksOn) (pc := 23) (lo' := [_, _, _, _, _]) dX7_ticksOn_23 rfl ci_1 (LE rfl) rfl ?_
      refine wp_goto (M := mX7_ticksOn) (pc := 26) (tgt := 5) dX7_ticksOn_26 rfl ?_
      rw [show nI i + 1 = nI (i + 1) from nI_1 i, R1.f9]
      exact ih (i + 1) h1 (by omega) (by omega) Hm1 ka1 na R1 (F.tr F1)
set_option maxHeartbeats 4000000 in
set_option maxRecDepth 100000 in
theorem sp_X7_ticksOn {me : Nat} {ad : Nat → Nat} {a : Nat} {A : Sta} {n : Nat} (Hm : MoL h me ad) (ka : kd h a = some (.inr (0, 1360))) (hR : RepR (gi h a) A) (na : a ≠ me ∧ ∀ k y, (k = 12 ∨ k = 14 ∨ k = 15 ∨ k = 16) → fsz k = some y → a ≠ ad k) (hn : n < 2 ^ 31) (hn0 : 0 < sN A) (hti : sTi A + n + 100 < 2 ^ 30) (hok : ∀ j, j < n → okU (tksR j A).1) (k : ∀ h', MoL h' me ad → RepR (gi h' a) (tksR n A).1 → FrB me ad (fun x => x = a) h h' → Q (.inl (some (.int (tksR n A).2))) h') : WPx E mX7_ticksOn 0 [some (.ref me), some (.ref a), some (.int (nI n)), none, none] [] (0, 0) h Q := by
  refine wp_iconst (M := mX7_ticksOn) (pc := 0) (v := 0) dX7_ticksOn_0 ci_0 ?_
  refine so_istore_n (M := mX7_ticksOn) (pc := 1) (lo' := [_, _, _, _, _]) dX7_ticksOn_1 (LE rfl) (LE rfl) (Or.inr rfl) rfl ?_
  refine wp_iconst (M := mX7_ticksOn) (pc := 2) (v := 0) dX7_ticksOn_2 ci_0 ?_
  refine so_istore (M := mX7_ticksOn) (pc := 3) (lo' := [_, _, _, _, _]) dX7_ticksOn_3 (LE rfl) (LE rfl) (Or.inr rfl) rfl ?_
  exact lp_X7_ticksOn hn hn0 hti hok k (n + 1) 0 h (by omega) (by omega) Hm ka na hR FrB.rf
end SP
