section SP
variable {E : Ev} {h : PH} {Q : Rt → PH → Prop}
theorem tl_law {x m out : Nat} {i : Nat} {x5 x6 : Option Value} {r : Nat × Nat} (kk : WPx E mL_law 23 [some (.ref E.1), some (.ref x), some (.ref m), some (.ref out), some (.int (nI (i + 5))), x5, x6] [] r h Q) : WPx E mL_law 2240 [some (.ref E.1), some (.ref x), some (.ref m), some (.ref out), some (.int (nI i)), x5, x6] [] r h Q := by
  refine so_iinc (M := mL_law) (pc := 2240) (lo' := [_, _, _, _, _, _, _]) dL_law_2240 rfl ci_5 (LE rfl) rfl ?_
  refine wp_goto (M := mL_law) (pc := 2243) (tgt := 23) dL_law_2243 rfl ?_
  rw [show nI i + 5 = nI (i + 5) from ia rfl rfl]
  exact kk
theorem and63 (x : Int32) : ∃ j, j < 64 ∧ x &&& 63 = nI j := by
  have e : (x &&& 63).toBitVec.toNat < 64 := by
    rw [Int32.toBitVec_and, BitVec.toNat_and]
    exact Nat.lt_of_le_of_lt Nat.and_le_right (by decide)
  refine ⟨(x &&& 63).toBitVec.toNat, e, ?_⟩
  apply Int32.toBitVec_inj.mp
  apply BitVec.eq_of_toNat_eq
  rw [pk_tn (by omega)]
theorem hi5_of {i L : Nat} (hi : i ≤ 2560) (hL : L ≤ 2560) (c : ¬ nI L - 5 < nI i) : i + 5 ≤ L := by
  rw [ltI, sI (by rw [nIi (by omega)]; show -2147483648 ≤ (L : Int) - 5; omega) (by rw [nIi (by omega)]; show (L : Int) - 5 < 2147483648; omega), nIi (by omega), nIi (by omega)] at c
  have : (5 : Int32).toInt = 5 := rfl
  omega
set_option maxHeartbeats 8000000 in
set_option maxRecDepth 100000 in
theorem lp_law {x m out : Nat} {ad : Nat → Nat} (hE : E.2.1 ≤ 2560) (kq : ∀ h', Q (.inl (some (.int 1))) h') : ∀ (n : Nat) (i : Nat) (h : PH) (X : Abs) (K : Nat) (x5 x6 : Option Value), E.2.1 < i + 5 * n + 5 → i ≤ E.2.1 → K = 10 * i → WC h x X → WM h m ad X → kd h out = some (.inr (2, 1)) → GX K X → WPx E mL_law 23 [some (.ref E.1), some (.ref x), some (.ref m), some (.ref out), some (.int (nI i)), x5, x6] [] (36 * n, 510 * n) h Q := by
  intro n
  induction n with
  | zero =>
    intro i h X K x5 x6 hm hL eK H HM ho hG
    refine wp_iload (M := mL_law) (pc := 23) dL_law_23 rfl ?_
    refine wp_aload_n (M := mL_law) (pc := 25) dL_law_25 rfl ?_
    refine wp_slen (M := mL_law) (pc := 26) dL_law_26 ?_
    refine wp_iconst (M := mL_law) (pc := 27) (v := 5) dL_law_27 ci_5 ?_
    refine wp_isub (M := mL_law) (pc := 28) dL_law_28 ?_
    refine wp_icmp_gt (M := mL_law) (pc := 29) (tgt := 2246) dL_law_29 rfl (fun c29 => ?_) (fun c29 => ?_)
    · refine wp_iconst (M := mL_law) (pc := 2246) (v := 1) dL_law_2246 ci_1 ?_
      refine wp_zreturn (M := mL_law) (pc := 2247) rfl (Or.inr rfl) dL_law_2247 ?_
      exact kq h
    · exact absurd (hi5_of (by omega) (by omega) c29) (by omega)
  | succ n ih =>
    intro i h X K x5 x6 hm hL eK H HM ho hG
    subst eK
    obtain ⟨j, hj, ej⟩ := and63 (E.2.2.1 i)
    refine wp_iload (M := mL_law) (pc := 23) dL_law_23 rfl ?_
    refine wp_aload_n (M := mL_law) (pc := 25) dL_law_25 rfl ?_
    refine wp_slen (M := mL_law) (pc := 26) dL_law_26 ?_
    refine wp_iconst (M := mL_law) (pc := 27) (v := 5) dL_law_27 ci_5 ?_
    refine wp_isub (M := mL_law) (pc := 28) dL_law_28 ?_
    refine wp_icmp_gt (M := mL_law) (pc := 29) (tgt := 2246) dL_law_29 rfl (fun c29 => ?_) (fun c29 => ?_)
    · refine wp_iconst (M := mL_law) (pc := 2246) (v := 1) dL_law_2246 ci_1 ?_
      refine wp_zreturn (M := mL_law) (pc := 2247) rfl (Or.inr rfl) dL_law_2247 ?_
      exact kq h
    · have hi5 : i + 5 ≤ E.2.1 := hi5_of (by omega) (by omega) c29
      refine wp_aload_n (M := mL_law) (pc := 32) dL_law_32 rfl ?_
      refine wp_iload (M := mL_law) (pc := 33) dL_law_33 rfl ?_
      refine wr_sld (M := mL_law) (pc := 35) dL_law_35 rfl (by omega) (by omega) ?_
      refine wp_bipush (M := mL_law) (pc := 36) (v := 63) dL_law_36 cb_63 ?_
      refine wp_iand (M := mL_law) (pc := 38) dL_law_38 ?_
      rw [ej]
      have sw39 : j = 0 ∨ j = 1 ∨ j = 2 ∨ j = 3 ∨ j = 4 ∨ j = 5 ∨ j = 6 ∨ j = 7 ∨ j = 8 ∨ j = 9 ∨ j = 10 ∨ j = 11 ∨ j = 12 ∨ j = 13 ∨ j = 14 ∨ j = 15 ∨ j = 16 ∨ j = 17 ∨ j = 18 ∨ j = 19 ∨ j = 20 ∨ j = 21 ∨ j = 22 ∨ j = 23 ∨ j = 24 ∨ j = 25 ∨ j = 26 ∨ j = 27 ∨ j = 28 ∨ j = 29 ∨ j = 30 ∨ j = 31 ∨ j = 32 ∨ 32 < j := by omega
      rcases sw39 with rfl | rfl | rfl | rfl | rfl | rfl | rfl | rfl | rfl | rfl | rfl | rfl | rfl | rfl | rfl | rfl | rfl | rfl | rfl | rfl | rfl | rfl | rfl | rfl | rfl | rfl | rfl | rfl | rfl | rfl | rfl | rfl | rfl | sw39
      · refine wp_tableIn (M := mL_law) (pc := 39) (x := nI 0) (tgt := 184) dL_law_39 (by decide) (by decide) rfl rfl ?_
        exact ls_append H HM ho hG (by omega) (by omega) hE (fun X' h' y5 y6 W M o G9 => tl_law (ih (i + 5) h' X' (10 * i + 50) y5 y6 (by omega) (by omega) (by omega) W M o G9))
      · refine wp_tableIn (M := mL_law) (pc := 39) (x := nI 1) (tgt := 240) dL_law_39 (by decide) (by decide) rfl rfl ?_
        exact ls_clearText H HM ho hG (by omega) (by omega) hE (fun X' h' y5 y6 W M o G9 => tl_law (ih (i + 5) h' X' (10 * i + 50) y5 y6 (by omega) (by omega) (by omega) W M o G9))
      · refine wp_tableIn (M := mL_law) (pc := 39) (x := nI 2) (tgt := 253) dL_law_39 (by decide) (by decide) rfl rfl ?_
        exact ls_errorPosition H HM ho hG (by omega) (by omega) hE (fun X' h' y5 y6 W M o G9 => tl_law (ih (i + 5) h' X' (10 * i + 50) y5 y6 (by omega) (by omega) (by omega) W M o G9))
      · refine wp_tableIn (M := mL_law) (pc := 39) (x := nI 3) (tgt := 266) dL_law_39 (by decide) (by decide) rfl rfl ?_
        exact ls_load H HM ho hG (by omega) (by omega) hE (fun X' h' y5 y6 W M o G9 => tl_law (ih (i + 5) h' X' (10 * i + 50) y5 y6 (by omega) (by omega) (by omega) W M o G9))
      · refine wp_tableIn (M := mL_law) (pc := 39) (x := nI 4) (tgt := 310) dL_law_39 (by decide) (by decide) rfl rfl ?_
        exact ls_about H HM ho hG (by omega) (by omega) hE (fun X' h' y5 y6 W M o G9 => tl_law (ih (i + 5) h' X' (10 * i + 50) y5 y6 (by omega) (by omega) (by omega) W M o G9))
      · refine wp_tableIn (M := mL_law) (pc := 39) (x := nI 5) (tgt := 366) dL_law_39 (by decide) (by decide) rfl rfl ?_
        exact ls_tenant H HM ho hG (by omega) (by omega) hE (fun X' h' y5 y6 W M o G9 => tl_law (ih (i + 5) h' X' (10 * i + 50) y5 y6 (by omega) (by omega) (by omega) W M o G9))
      · refine wp_tableIn (M := mL_law) (pc := 39) (x := nI 6) (tgt := 434) dL_law_39 (by decide) (by decide) rfl rfl ?_
        exact ls_message H HM ho hG (by omega) (by omega) hE (fun X' h' y5 y6 W M o G9 => tl_law (ih (i + 5) h' X' (10 * i + 50) y5 y6 (by omega) (by omega) (by omega) W M o G9))
      · refine wp_tableIn (M := mL_law) (pc := 39) (x := nI 7) (tgt := 502) dL_law_39 (by decide) (by decide) rfl rfl ?_
        exact ls_order H HM ho hG (by omega) (by omega) hE (fun X' h' y5 y6 W M o G9 => tl_law (ih (i + 5) h' X' (10 * i + 50) y5 y6 (by omega) (by omega) (by omega) W M o G9))
      · refine wp_tableIn (M := mL_law) (pc := 39) (x := nI 8) (tgt := 570) dL_law_39 (by decide) (by decide) rfl rfl ?_
        exact ls_bid H HM ho hG (by omega) (by omega) hE (fun X' h' y5 y6 W M o G9 => tl_law (ih (i + 5) h' X' (10 * i + 50) y5 y6 (by omega) (by omega) (by omega) W M o G9))
      · refine wp_tableIn (M := mL_law) (pc := 39) (x := nI 9) (tgt := 650) dL_law_39 (by decide) (by decide) rfl rfl ?_
        exact ls_ask H HM ho hG (by omega) (by omega) hE (fun X' h' y5 y6 W M o G9 => tl_law (ih (i + 5) h' X' (10 * i + 50) y5 y6 (by omega) (by omega) (by omega) W M o G9))
      · refine wp_tableIn (M := mL_law) (pc := 39) (x := nI 10) (tgt := 730) dL_law_39 (by decide) (by decide) rfl rfl ?_
        exact ls_askShort H HM ho hG (by omega) (by omega) hE (fun X' h' y5 y6 W M o G9 => tl_law (ih (i + 5) h' X' (10 * i + 50) y5 y6 (by omega) (by omega) (by omega) W M o G9))
      · refine wp_tableIn (M := mL_law) (pc := 39) (x := nI 11) (tgt := 810) dL_law_39 (by decide) (by decide) rfl rfl ?_
        exact ls_withdraw H HM ho hG (by omega) (by omega) hE (fun X' h' y5 y6 W M o G9 => tl_law (ih (i + 5) h' X' (10 * i + 50) y5 y6 (by omega) (by omega) (by omega) W M o G9))
      · refine wp_tableIn (M := mL_law) (pc := 39) (x := nI 12) (tgt := 866) dL_law_39 (by decide) (by decide) rfl rfl ?_
        exact ls_push H HM ho hG (by omega) (by omega) hE (fun X' h' y5 y6 W M o G9 => tl_law (ih (i + 5) h' X' (10 * i + 50) y5 y6 (by omega) (by omega) (by omega) W M o G9))
      · refine wp_tableIn (M := mL_law) (pc := 39) (x := nI 13) (tgt := 934) dL_law_39 (by decide) (by decide) rfl rfl ?_
        exact ls_deposit H HM ho hG (by omega) (by omega) hE (fun X' h' y5 y6 W M o G9 => tl_law (ih (i + 5) h' X' (10 * i + 50) y5 y6 (by omega) (by omega) (by omega) W M o G9))
      · refine wp_tableIn (M := mL_law) (pc := 39) (x := nI 14) (tgt := 1002) dL_law_39 (by decide) (by decide) rfl rfl ?_
        exact ls_tick H HM ho hG (by omega) (by omega) hE (fun X' h' y5 y6 W M o G9 => tl_law (ih (i + 5) h' X' (10 * i + 50) y5 y6 (by omega) (by omega) (by omega) W M o G9))
      · refine wp_tableIn (M := mL_law) (pc := 39) (x := nI 15) (tgt := 1058) dL_law_39 (by decide) (by decide) rfl rfl ?_
        exact ls_setRate H HM ho hG (by omega) (by omega) hE (fun X' h' y5 y6 W M o G9 => tl_law (ih (i + 5) h' X' (10 * i + 50) y5 y6 (by omega) (by omega) (by omega) W M o G9))
      · refine wp_tableIn (M := mL_law) (pc := 39) (x := nI 16) (tgt := 1126) dL_law_39 (by decide) (by decide) rfl rfl ?_
        exact ls_setWidth H HM ho hG (by omega) (by omega) hE (fun X' h' y5 y6 W M o G9 => tl_law (ih (i + 5) h' X' (10 * i + 50) y5 y6 (by omega) (by omega) (by omega) W M o G9))
      · refine wp_tableIn (M := mL_law) (pc := 39) (x := nI 17) (tgt := 1182) dL_law_39 (by decide) (by decide) rfl rfl ?_
        exact ls_undo H HM ho hG (by omega) (by omega) hE (fun X' h' y5 y6 W M o G9 => tl_law (ih (i + 5) h' X' (10 * i + 50) y5 y6 (by omega) (by omega) (by omega) W M o G9))
      · refine wp_tableIn (M := mL_law) (pc := 39) (x := nI 18) (tgt := 1226) dL_law_39 (by decide) (by decide) rfl rfl ?_
        exact ls_demand H HM ho hG (by omega) (by omega) hE (fun X' h' y5 y6 W M o G9 => tl_law (ih (i + 5) h' X' (10 * i + 50) y5 y6 (by omega) (by omega) (by omega) W M o G9))
      · refine wp_tableIn (M := mL_law) (pc := 39) (x := nI 19) (tgt := 1282) dL_law_39 (by decide) (by decide) rfl rfl ?_
        exact ls_supply H HM ho hG (by omega) (by omega) hE (fun X' h' y5 y6 W M o G9 => tl_law (ih (i + 5) h' X' (10 * i + 50) y5 y6 (by omega) (by omega) (by omega) W M o G9))
      · refine wp_tableIn (M := mL_law) (pc := 39) (x := nI 20) (tgt := 1338) dL_law_39 (by decide) (by decide) rfl rfl ?_
        exact ls_auction H HM ho hG (by omega) (by omega) hE (fun X' h' y5 y6 W M o G9 => tl_law (ih (i + 5) h' X' (10 * i + 50) y5 y6 (by omega) (by omega) (by omega) W M o G9))
      · refine wp_tableIn (M := mL_law) (pc := 39) (x := nI 21) (tgt := 1394) dL_law_39 (by decide) (by decide) rfl rfl ?_
        exact ls_volumeIf H HM ho hG (by omega) (by omega) hE (fun X' h' y5 y6 W M o G9 => tl_law (ih (i + 5) h' X' (10 * i + 50) y5 y6 (by omega) (by omega) (by omega) W M o G9))
      · refine wp_tableIn (M := mL_law) (pc := 39) (x := nI 22) (tgt := 1486) dL_law_39 (by decide) (by decide) rfl rfl ?_
        exact ls_priceFor H HM ho hG (by omega) (by omega) hE (fun X' h' y5 y6 W M o G9 => tl_law (ih (i + 5) h' X' (10 * i + 50) y5 y6 (by omega) (by omega) (by omega) W M o G9))
      · refine wp_tableIn (M := mL_law) (pc := 39) (x := nI 23) (tgt := 1542) dL_law_39 (by decide) (by decide) rfl rfl ?_
        exact ls_share H HM ho hG (by omega) (by omega) hE (fun X' h' y5 y6 W M o G9 => tl_law (ih (i + 5) h' X' (10 * i + 50) y5 y6 (by omega) (by omega) (by omega) W M o G9))
      · refine wp_tableIn (M := mL_law) (pc := 39) (x := nI 24) (tgt := 1626) dL_law_39 (by decide) (by decide) rfl rfl ?_
        exact ls_ahead H HM ho hG (by omega) (by omega) hE (fun X' h' y5 y6 W M o G9 => tl_law (ih (i + 5) h' X' (10 * i + 50) y5 y6 (by omega) (by omega) (by omega) W M o G9))
      · refine wp_tableIn (M := mL_law) (pc := 39) (x := nI 25) (tgt := 1706) dL_law_39 (by decide) (by decide) rfl rfl ?_
        exact ls_sentAfter H HM ho hG (by omega) (by omega) hE (fun X' h' y5 y6 W M o G9 => tl_law (ih (i + 5) h' X' (10 * i + 50) y5 y6 (by omega) (by omega) (by omega) W M o G9))
      · refine wp_tableIn (M := mL_law) (pc := 39) (x := nI 26) (tgt := 1774) dL_law_39 (by decide) (by decide) rfl rfl ?_
        exact ls_unused H HM ho hG (by omega) (by omega) hE (fun X' h' y5 y6 W M o G9 => tl_law (ih (i + 5) h' X' (10 * i + 50) y5 y6 (by omega) (by omega) (by omega) W M o G9))
      · refine wp_tableIn (M := mL_law) (pc := 39) (x := nI 27) (tgt := 1830) dL_law_39 (by decide) (by decide) rfl rfl ?_
        exact ls_fairness H HM ho hG (by omega) (by omega) hE (fun X' h' y5 y6 W M o G9 => tl_law (ih (i + 5) h' X' (10 * i + 50) y5 y6 (by omega) (by omega) (by omega) W M o G9))
      · refine wp_tableIn (M := mL_law) (pc := 39) (x := nI 28) (tgt := 1872) dL_law_39 (by decide) (by decide) rfl rfl ?_
        exact ls_wealthiest H HM ho hG (by omega) (by omega) hE (fun X' h' y5 y6 W M o G9 => tl_law (ih (i + 5) h' X' (10 * i + 50) y5 y6 (by omega) (by omega) (by omega) W M o G9))
      · refine wp_tableIn (M := mL_law) (pc := 39) (x := nI 29) (tgt := 1928) dL_law_39 (by decide) (by decide) rfl rfl ?_
        exact ls_runScript H HM ho hG (by omega) (by omega) hE (fun X' h' y5 y6 W M o G9 => tl_law (ih (i + 5) h' X' (10 * i + 50) y5 y6 (by omega) (by omega) (by omega) W M o G9))
      · refine wp_tableIn (M := mL_law) (pc := 39) (x := nI 30) (tgt := 2028) dL_law_39 (by decide) (by decide) rfl rfl ?_
        exact ls_simulate H HM ho hG (by omega) (by omega) hE (fun X' h' y5 y6 W M o G9 => tl_law (ih (i + 5) h' X' (10 * i + 50) y5 y6 (by omega) (by omega) (by omega) W M o G9))
      · refine wp_tableIn (M := mL_law) (pc := 39) (x := nI 31) (tgt := 2128) dL_law_39 (by decide) (by decide) rfl rfl ?_
        exact ls_save H HM ho hG (by omega) (by omega) hE (fun X' h' y5 y6 W M o G9 => tl_law (ih (i + 5) h' X' (10 * i + 50) y5 y6 (by omega) (by omega) (by omega) W M o G9))
      · refine wp_tableIn (M := mL_law) (pc := 39) (x := nI 32) (tgt := 2184) dL_law_39 (by decide) (by decide) rfl rfl ?_
        exact ls_restore H HM ho hG (by omega) (by omega) hE (fun X' h' y5 y6 W M o G9 => tl_law (ih (i + 5) h' X' (10 * i + 50) y5 y6 (by omega) (by omega) (by omega) W M o G9))
      · refine wp_tableOut (M := mL_law) (pc := 39) (x := nI j) (tgt := 2240) dL_law_39 (Or.inr (sw_out sw39 (by omega))) rfl ?_
        exact tl_law (wp_less (by show 36 * n ≤ 36 * (n + 1); omega) (by show 510 * n ≤ 510 * (n + 1); omega) (ih (i + 5) h X (10 * i + 50) _ _ (by omega) (by omega) (by omega) H HM ho (hG.more (by omega))))
theorem WC.fr0 {h' : PH} {me : Nat} {X : Abs} {S O : Nat → Prop} (H : WC h me X) (F : FrA S h h') (hS : ∀ y, S y → O (tg h y).1) (hO : ∀ z ci, kd h z = some (.inl ci) → ci ≠ 7 → ¬ O z) : WC h' me X := by
  obtain ⟨q, c, u, hi, sl, tx, ka, pa, fa, la, hsa, txa, x, l, lc, cs, ss, H⟩ := H
  obtain ⟨g1, g2, g3, g4, g5, g6, g7⟩ := H.frA (O := O) F hS
  have nm : ¬ O me := hO _ _ H.kMe (by decide)
  exact WP.wc ⟨g1 nm, g2 (hO _ _ H.kQ (by decide)), g3 (hO _ _ H.kC (by decide)), g4 (hO _ _ H.kU (by decide)), g5 (hO _ _ H.kH (by decide)) (fun j hj z e1 => hO _ _ (H.kS hj e1) (by decide)), g6 (hO _ _ H.kX (by decide)), g7 nm (fun j hj z e1 => hO _ _ (H.kL hj e1) (by decide)), H.ds⟩
set_option maxHeartbeats 8000000 in
set_option maxRecDepth 100000 in
theorem law_wp (hE : E.2.1 ≤ 2560) (kq : ∀ h', Q (.inl (some (.int 1))) h') : WPx E mL_law 0 [some (.ref E.1), none, none, none, none, none, none] [] (601024, 7293034) h Q := by
  refine wp_new (M := mL_law) (pc := 0) nw_L_8 (fun a => (a, 0, 0)) (by decide) (by decide) dL_law_0 (fun x nx => ?_)
  refine wp_dup (M := mL_law) (pc := 3) dL_law_3 rfl ?_
  refine so_IA0 (M := mL_law) (pc := 4) (600000, 7200000) cs_L_law_113 (LE rfl) (LE rfl) (by decide) (by decide) dL_law_4 ?_
  refine sp_X6_init (by rw [kd_nw, u1_at]) (by rw [tg_nw, u1_at]) (fun h1 W1 O1 => ?_)
  refine kV1 ?_
  refine so_astore_n (M := mL_law) (pc := 7) (lo' := [_, _, _, _, _, _, _]) dL_law_7 (LE rfl) (LE rfl) (Or.inr rfl) rfl ?_
  refine wp_new (M := mL_law) (pc := 8) nw_L_114 (fun a => (a, 0, 0)) (by decide) (by decide) dL_law_8 (fun m nm => ?_)
  have W2 : WC (nw h1 m (.inl 7) (m, 0, 0)) x iniX := W1.fr0 (S := fun _ => False) (O := fun _ => False) (FrA.nw nm) (fun y q => q) (fun _ _ _ _ q => q)
  refine wp_dup (M := mL_law) (pc := 11) dL_law_11 rfl ?_
  refine so_IA0 (M := mL_law) (pc := 12) (590000, 7000000) cs_L_law_116 (LE rfl) (LE rfl) (by decide) (by decide) dL_law_12 ?_
  refine sp_X7_init (by rw [kd_nw, u1_at]) (by rw [tg_nw, u1_at]) (fun j => by rw [gi_nw, u1_at]) (fun h3 ad M3 F3 => ?_)
  have W3 : WC h3 x iniX := W2.fr0 (O := fun z => z = m) F3 (fun y e => by rw [e, tg_nw, u1_at]) (fun z ci e1 e2 e3 => by rw [e3, kd_nw, u1_at] at e1; cases e1; exact e2 rfl)
  refine kV1 ?_
  refine so_astore_n (M := mL_law) (pc := 15) (lo' := [_, _, _, _, _, _, _]) dL_law_15 (LE rfl) (LE rfl) (Or.inr rfl) rfl ?_
  refine wp_iconst (M := mL_law) (pc := 16) (v := 1) dL_law_16 ci_1 ?_
  refine wp_newL (M := mL_law) (pc := 17) (N := 1) wa_long (fun a => (a, 0, 0)) (by decide) (by decide) (by decide) (by decide) (by decide) dL_law_17 (fun out no => ?_)
  have W4 : WC (nw h3 out (.inr (2, 1)) (out, 0, 0)) x iniX := W3.fr0 (S := fun _ => False) (O := fun _ => False) (FrA.nw no) (fun y q => q) (fun _ _ _ _ q => q)
  have M4 : WM (nw h3 out (.inr (2, 1)) (out, 0, 0)) m ad iniX := M3.of (FrA.nw no)
  refine so_astore_n (M := mL_law) (pc := 19) (lo' := [_, _, _, _, _, _, _]) dL_law_19 (LE rfl) (LE rfl) (Or.inr rfl) rfl ?_
  refine wp_iconst (M := mL_law) (pc := 20) (v := 0) dL_law_20 ci_0 ?_
  refine so_istore (M := mL_law) (pc := 21) (lo' := [_, _, _, _, _, _, _]) dL_law_21 (LE rfl) (LE rfl) (Or.inr rfl) rfl ?_
  refine wp_less (r' := (36 * 512, 510 * 512)) (by decide) (by decide) ?_
  exact lp_law hE kq 512 0 _ iniX 0 none none (by omega) (by omega) rfl W4 M4 (by rw [kd_nw, u1_at]) GX.ini
end SP
