section SP
variable {E : Ev} {h : PH} {Q : Rt → PH → Prop}
theorem HiC.pop {h h' : PH} {a sa x o : Nat} {cs : Nat → Option (Nat × Lt)} {hs : List Sta} {A : Sta} (H : HiC h a sa cs x (A :: hs)) (hF : Fr (fun y => y = o) h h') (hao : a ≠ o) (hco : ∀ j, j < 14 → ∀ y, cs j = some y → y.1 ≠ o) : HiC (si (si h' a 1 (nI ((x + 13) % 14))) a 2 (nI hs.length)) a sa cs ((x + 13) % 14) hs := by
  obtain ⟨hL, ⟨n1, n2⟩, ⟨n3, n4⟩, hE⟩ := H
  have n4' : hs.length + 1 ≤ 14 := n4
  have hL1 : HiL h' a sa cs := hL.fr hF hao (fun j hj y e => (hL.2.2.2.1 j hj y e).fr hF (hco j hj y e))
  have ta : tg h' a = (a, 0, 0) := hL1.1.2
  have F2 : Fr (fun y => y = a) h' (si (si h' a 1 (nI ((x + 13) % 14))) a 2 (nI hs.length)) := (Fr.si (by rw [ta])).tr (Fr.si (by show (tg h' a).1 = a; rw [ta]))
  refine ⟨⟨hL1.1, hL1.2.1, hL1.2.2.1, hL1.2.2.2.1, hL1.2.2.2.2⟩, ⟨by rw [gi_si_oth (by decide), gi_si_same], Nat.mod_lt _ (by decide)⟩, ⟨by rw [gi_si_same], by omega⟩, fun i hi => ?_⟩
  obtain ⟨y, hy, hB⟩ := hE (i + 1) (by show i + 1 < hs.length + 1; omega)
  refine ⟨y, by rw [show ((x + 13) % 14 + 13 - i) % 14 = (x + 13 - (i + 1)) % 14 by omega]; exact hy, fun B hB2 => ?_⟩
  have hj : (x + 13 - (i + 1)) % 14 < 14 := Nat.mod_lt _ (by decide)
  exact ((hB B (by rw [List.getElem?_cons_succ]; exact hB2)).fr hF (hco _ hj y hy)).fr F2 (fun e => hL.ne hj hy e)
theorem HiC.none {h : PH} {a sa x : Nat} {cs : Nat → Option (Nat × Lt)} {hs : List Sta} (H : HiC h a sa cs x hs) : HiC (si h a 2 (nI 0)) a sa cs x [] := by
  obtain ⟨hL, ⟨n1, n2⟩, ⟨n3, n4⟩, hE⟩ := H
  exact ⟨⟨hL.1, hL.2.1, hL.2.2.1, hL.2.2.2.1, hL.2.2.2.2⟩, ⟨by rw [gi_si_oth (by decide)]; exact n1, n2⟩, ⟨by rw [gi_si_same]; rfl, Nat.zero_le _⟩, fun i hi => absurd hi (Nat.not_lt_zero _)⟩
set_option maxHeartbeats 4000000 in
set_option maxRecDepth 100000 in
theorem sp_X2_forget {a : Nat} (hk : kd h a = some (.inl 2)) (k : Q (.inl none) (si h a 2 (nI 0))) : WPx E mX2_forget 0 [some (.ref a)] [] (0, 0) h Q := by
  refine wp_aload_n (M := mX2_forget) (pc := 0) dX2_forget_0 rfl ?_
  refine wp_iconst (M := mX2_forget) (pc := 1) (v := 0) dX2_forget_1 ci_0 ?_
  refine wp_putI (M := mX2_forget) (pc := 2) fa_X2_26 (Or.inl rfl) dX2_forget_2 hk ?_
  refine wp_return (M := mX2_forget) (pc := 5) rfl dX2_forget_5 ?_
  exact k
set_option maxHeartbeats 4000000 in
set_option maxRecDepth 100000 in
theorem sp_X2_init {a : Nat} (hk : kd h a = some (.inl 2)) (ht : tg h a = (a, 0, 0)) (h1 : gi h a 1 = nI 0) (h2 : gi h a 2 = nI 0) (k : ∀ sa h', HiC h' a sa (fun _ => none) 0 [] → FrA (fun x => x = a) h h' → Q (.inl none) h') : WPx E mX2_init 0 [some (.ref a)] [] (1, 14) h Q := by
  refine wp_aload_n (M := mX2_init) (pc := 0) dX2_init_0 rfl ?_
  refine wp_objInit (M := mX2_init) (pc := 1) wl_X2_3 w_objI w_objC (LE rfl) (LE rfl) dX2_init_1 ?_
  refine wp_aload_n (M := mX2_init) (pc := 4) dX2_init_4 rfl ?_
  refine wp_bipush (M := mX2_init) (pc := 5) (v := 14) dX2_init_5 cb_14 ?_
  refine wp_newA (M := mX2_init) (pc := 7) (tc := 5) (N := 14) (by decide) wk_X2_9 (fun _ => (a, 1, 0)) (by decide) (by decide) (by decide) (by decide) (by decide) dX2_init_7 (fun a7 n7 => ?_)
  refine so_putR (M := mX2_init) (pc := 10) fa_X2_11 (fun _ => ⟨rfl, _, _, rfl⟩) rfl dX2_init_10 (kd_old hk n7) ?_
  refine wp_return (M := mX2_init) (pc := 13) rfl dX2_init_13 ?_
  have x := nek hk n7
  refine k a7 _ ⟨⟨⟨kd_sn hk n7, (tg_sn_ne x).trans ht⟩, ⟨gr_sn_at, kd_sn_at, tg_sn_at⟩, fun j hj => ?_, fun j hj y e => (by cases e), fun i j hi hj y z e => (by cases e)⟩, ⟨?_, by decide⟩, ⟨?_, by decide⟩, fun i hi => absurd hi (Nat.not_lt_zero _)⟩ (frA_sn rfl n7)
  · rw [gr_sr, u2_row _ _ x.symm, gr_nw, u1_at]; rfl
  · rw [gi_sr, gi_nw, u1_ne _ _ x]; exact h1
  · rw [gi_sr, gi_nw, u1_ne _ _ x]; exact h2
set_option maxHeartbeats 4000000 in
set_option maxRecDepth 100000 in
theorem sp_X2_takeBack {a sa x o : Nat} {lo : Lt} {cs : Nat → Option (Nat × Lt)} {hs : List Sta} {A : Sta} (H : HiC h a sa cs x (A :: hs)) (hLo : Lay h o lo) (hao : a ≠ o) (hco : ∀ j, j < 14 → ∀ y, cs j = some y → y.1 ≠ o) (k : ∀ h', RepC h' o lo A → HiC h' a sa cs ((x + 13) % 14) hs → Fr (fun y => y = a ∨ y = o) h h' → Q (.inl (some (.int (nI hs.length)))) h') : WPx E mX2_takeBack 0 [some (.ref a), some (.ref o), none, none] [] (0, 0) h Q := by
  have hL := H.1
  have n1 := H.2.1.1
  have n2 := H.2.1.2
  have n3 : gi h a 2 = nI (hs.length + 1) := H.2.2.1.1
  have n4 : hs.length + 1 ≤ 14 := H.2.2.1.2
  have hj : (x + 13) % 14 < 14 := Nat.mod_lt _ (by decide)
  obtain ⟨y, hy, hB⟩ := H.2.2.2 0 (by show 0 < hs.length + 1; omega)
  have hRy := hB A rfl
  have hy' : cs ((x + 13) % 14) = some y := hy
  have rx : gr h sa ((x + 13) % 14) = some y.1 := by rw [hL.2.2.1 _ hj, hy']; rfl
  have hyo : y.1 ≠ o := hco _ hj y hy'
  refine wp_aload_n (M := mX2_takeBack) (pc := 0) dX2_takeBack_0 rfl ?_
  refine wp_getI (M := mX2_takeBack) (pc := 1) fa_X2_17 rfl dX2_takeBack_1 (by first | exact hL.1.1 | exact hL.2.1.2.1 | exact hLo.1.1) ?_
  refine wp_bipush (M := mX2_takeBack) (pc := 4) (v := 14) dX2_takeBack_4 cb_14 ?_
  refine wp_iadd (M := mX2_takeBack) (pc := 6) dX2_takeBack_6 ?_
  refine wp_iconst (M := mX2_takeBack) (pc := 7) (v := 1) dX2_takeBack_7 ci_1 ?_
  refine wp_isub (M := mX2_takeBack) (pc := 8) dX2_takeBack_8 ?_
  refine wp_bipush (M := mX2_takeBack) (pc := 9) (v := 14) dX2_takeBack_9 cb_14 ?_
  refine wp_irem (M := mX2_takeBack) (pc := 11) dX2_takeBack_11 (by decide) ?_
  refine so_istore_n (M := mX2_takeBack) (pc := 12) (lo' := [_, _, _, _]) dX2_takeBack_12 (LE rfl) (LE rfl) (Or.inr rfl) rfl ?_
  refine wp_aload_n (M := mX2_takeBack) (pc := 13) dX2_takeBack_13 rfl ?_
  refine wp_getR (M := mX2_takeBack) (pc := 14) fa_X2_11 rfl dX2_takeBack_14 (by first | exact hL.1.1 | exact hL.2.1.2.1 | exact hLo.1.1) (by first | exact hL.2.1.1 | exact rx) ?_
  refine wp_iload_n (M := mX2_takeBack) (pc := 17) dX2_takeBack_17 rfl ?_
  refine wr_aaload (M := mX2_takeBack) (pc := 18) dX2_takeBack_18 (by first | exact hL.1.1 | exact hL.2.1.2.1 | exact hLo.1.1) (by decide) (by rw [n1]; exact hi_new x n2) hj (by decide) (by first | exact hL.2.1.1 | exact rx) ?_
  refine so_astore_n (M := mX2_takeBack) (pc := 19) (lo' := [_, _, _, _]) dX2_takeBack_19 (LE rfl) (LE rfl) (Or.inr rfl) rfl ?_
  refine wp_aload_n (M := mX2_takeBack) (pc := 20) dX2_takeBack_20 rfl ?_
  refine wp_getI (M := mX2_takeBack) (pc := 21) fa_X2_26 rfl dX2_takeBack_21 (by first | exact hL.1.1 | exact hL.2.1.2.1 | exact hLo.1.1) ?_
  refine wp_if_le (M := mX2_takeBack) (pc := 24) (tgt := 51) dX2_takeBack_24 rfl (fun t24 => ?_) (fun f24 => ?_)
  · rw [n3] at t24; exact absurd ((i_le (b := 0) (by omega) (by decide)).mp t24) (by omega)
  · refine wp_aload_n (M := mX2_takeBack) (pc := 27) dX2_takeBack_27 rfl ?_
    refine wp_ifnull (M := mX2_takeBack) (pc := 28) dX2_takeBack_28 ?_
    refine wp_aload_n (M := mX2_takeBack) (pc := 31) dX2_takeBack_31 rfl ?_
    refine wp_aload_n (M := mX2_takeBack) (pc := 32) dX2_takeBack_32 rfl ?_
    refine so_V1 (M := mX2_takeBack) (pc := 33) cs_X2_takeBack_22 rfl rfl (LE rfl) (LE rfl) dX2_takeBack_33 (by first | exact hL.1.1 | exact hL.2.1.2.1 | exact hLo.1.1) ?_
    refine sp_X4_copyFrom hLo hRy (fun e => hyo e.symm) (fun h1 R1 F1 => ?_)
    have ka : kd h1 a = some (.inl 2) := by rw [F1.1]; exact hL.1.1
    have ga : gi h1 a = gi h a := (F1.2.2.2 a (by rw [hL.1.2]; exact hao)).1
    refine kV ?_
    refine wp_aload_n (M := mX2_takeBack) (pc := 36) dX2_takeBack_36 rfl ?_
    refine wp_iload_n (M := mX2_takeBack) (pc := 37) dX2_takeBack_37 rfl ?_
    refine wp_putI (M := mX2_takeBack) (pc := 38) fa_X2_17 (Or.inl rfl) dX2_takeBack_38 ka ?_
    refine wp_aload_n (M := mX2_takeBack) (pc := 41) dX2_takeBack_41 rfl ?_
    refine wp_dup (M := mX2_takeBack) (pc := 42) dX2_takeBack_42 rfl ?_
    refine wp_getI (M := mX2_takeBack) (pc := 43) fa_X2_26 rfl dX2_takeBack_43 ka ?_
    refine wp_iconst (M := mX2_takeBack) (pc := 46) (v := 1) dX2_takeBack_46 ci_1 ?_
    refine wp_isub (M := mX2_takeBack) (pc := 47) dX2_takeBack_47 ?_
    refine wp_putI (M := mX2_takeBack) (pc := 48) fa_X2_26 (Or.inl rfl) dX2_takeBack_48 ka ?_
    refine wp_aload_n (M := mX2_takeBack) (pc := 51) dX2_takeBack_51 rfl ?_
    refine wp_getI (M := mX2_takeBack) (pc := 52) fa_X2_26 rfl dX2_takeBack_52 ka ?_
    refine wp_ireturn (M := mX2_takeBack) (pc := 55) rfl dX2_takeBack_55 ?_
    rw [gi_si_same, gi_si_oth (by decide), ga, n1, n3, hi_new x n2, show nI (hs.length + 1) - 1 = nI hs.length from nI_sub (b := 1) (by omega)]
    have ta : tg h1 a = (a, 0, 0) := by rw [F1.2.1]; exact hL.1.2
    have ta1 : (tg h1 a).1 = a := by rw [ta]
    have F2 : Fr (fun y => y = a) h1 (si (si h1 a 1 (nI ((x + 13) % 14))) a 2 (nI hs.length)) := (Fr.si ta1).tr (Fr.si ta1)
    exact k _ (R1.fr F2 (fun e => hao e.symm)) (H.pop F1 hao hco) ((F1.mono (fun y e => Or.inr e)).tr (F2.mono (fun y e => Or.inl e)))
end SP
