section SP
variable {E : Ev} {h : PH} {Q : Rt → PH → Prop}
/-- a new room in the history -/
theorem hiC_room {h : PH} {a sa x q : Nat} {l : Lt} {cs : Nat → Option (Nat × Lt)} {hs : List Sta} (H : HiC h a sa cs x hs) (hx : cs x = none) (hL : Lay h q l) (hq : ∀ j, j < 14 → ∀ z, cs j = some z → z.1 ≠ q) : HiC (sr h sa x (some q)) a sa (u1 cs x (some (q, l))) x hs := by
  obtain ⟨HL, ⟨n1, n2⟩, ⟨n3, n4⟩, hE⟩ := H
  obtain ⟨⟨h1, h2⟩, ⟨h3, h4, h5⟩, h6, h7, h8⟩ := id HL
  have F : Fr (fun y => y = a) h (sr h sa x (some q)) := Fr.sr (by rw [h5])
  have x1 : a ≠ sa := ne_tg h2 h5 (by simp)
  have hqa : q ≠ a := fun e => by
    have := hL.1.1
    rw [e, h1] at this; cases this
  refine ⟨⟨⟨h1, h2⟩, ⟨by rw [gr_sr, u2_row _ _ x1]; exact h3, h4, h5⟩, fun j hj => ?_, fun j hj y e => ?_, fun i j hi hj y z e1 e2 e3 => ?_⟩, ⟨n1, n2⟩, ⟨n3, n4⟩, fun i hi => ?_⟩
  · by_cases e : j = x
    · rw [e, gr_sr, u2_at, u1_at]; rfl
    · rw [gr_sr, u2_ne _ _ (Or.inr e), u1_ne _ _ e]; exact h6 j hj
  · by_cases e9 : j = x
    · rw [e9, u1_at] at e
      cases e
      exact hL.fr F hqa
    · rw [u1_ne _ _ e9] at e
      exact (h7 j hj y e).fr F (HL.ne hj e)
  · by_cases ei : i = x
    · by_cases ej : j = x
      · rw [ei, ej]
      · rw [ei, u1_at] at e1
        rw [u1_ne _ _ ej] at e2
        cases e1
        exact absurd e3.symm (hq j hj z e2)
    · by_cases ej : j = x
      · rw [ej, u1_at] at e2
        rw [u1_ne _ _ ei] at e1
        cases e2
        exact absurd e3 (hq i hi y e1)
      · rw [u1_ne _ _ ei] at e1
        rw [u1_ne _ _ ej] at e2
        exact h8 i j hi hj y z e1 e2 e3
  · obtain ⟨y, hy, hB⟩ := hE i hi
    have e9 : (x + 13 - i) % 14 ≠ x := fun e => by rw [e, hx] at hy; cases hy
    exact ⟨y, by rw [u1_ne _ _ e9]; exact hy, fun B hB2 => (hB B hB2).fr F (HL.ne (Nat.mod_lt _ (by decide)) hy)⟩
set_option maxHeartbeats 4000000 in
set_option maxRecDepth 100000 in
theorem sp_X2_rememberA {a sa x o : Nat} {lo : Lt} {cs : Nat → Option (Nat × Lt)} {hs : List Sta} {A : Sta} (H : HiC h a sa cs x hs) (hx : cs x = none) (hRo : RepC h o lo A) (hao : a ≠ o) (k : ∀ h' q l, kd h q = none → HiC h' a sa (u1 cs x (some (q, l))) ((x + 1) % 14) ((A :: hs).take 14) → FrA (fun y => (tg h y).1 = a ∨ (tg h y).1 = q) h h' → Q (.inl none) h') : WPx E mX2_remember 0 [some (.ref a), some (.ref o), none] [] (33, 492) h Q := by
  have hL := H.1
  have n1 := H.2.1.1
  have n2 := H.2.1.2
  have rx : gr h sa x = none := by rw [hL.2.2.1 x n2, hx]; rfl
  refine wp_aload_n (M := mX2_remember) (pc := 0) dX2_remember_0 rfl ?_
  refine wp_getR (M := mX2_remember) (pc := 1) fa_X2_11 rfl dX2_remember_1 (by first | exact hL.1.1 | exact hL.2.1.2.1) (by first | exact hL.2.1.1 | exact rx) ?_
  refine wp_aload_n (M := mX2_remember) (pc := 4) dX2_remember_4 rfl ?_
  refine wp_getI (M := mX2_remember) (pc := 5) fa_X2_17 rfl dX2_remember_5 (by first | exact hL.1.1 | exact hL.2.1.2.1) ?_
  refine wr_aaloadN (M := mX2_remember) (pc := 8) dX2_remember_8 (by first | exact hL.1.1 | exact hL.2.1.2.1) (by decide) n1 n2 (by decide) (by first | exact hL.2.1.1 | exact rx) ?_
  refine so_astore_nN (M := mX2_remember) (pc := 9) (lo' := [_, _, _]) dX2_remember_9 (LE rfl) (LE rfl) (Or.inr rfl) rfl ?_
  refine wp_aload_nN (M := mX2_remember) (pc := 10) dX2_remember_10 rfl ?_
  refine wp_ifnonnullN (M := mX2_remember) (pc := 11) dX2_remember_11 ?_
  refine wp_new (M := mX2_remember) (pc := 14) nw_X2_9 (fun a => (a, 0, 0)) (by decide) (by decide) dX2_remember_14 (fun a14 n14 => ?_)
  refine wp_dup (M := mX2_remember) (pc := 17) dX2_remember_17 rfl ?_
  refine so_IA0 (M := mX2_remember) (pc := 18) (0, 0) cs_X2_remember_21 (LE rfl) (LE rfl) (LE rfl) (LE rfl) dX2_remember_18 ?_
  refine sp_X4_init kd_newk tg_newk (fun h1 l hL1 G1 => ?_)
  have G0 : FrA (fun _ => False) h h1 := (FrA.nw n14).tr G1 (fun y κ e q9 => absurd q9 (nek e n14))
  have H1 := H.frA G0 (fun _ _ q9 => q9) (fun _ _ _ _ _ _ q9 => q9)
  have R1 := hRo.frA G0 (fun _ _ q9 => q9)
  have hno : ∀ j, j < 14 → ∀ z, cs j = some z → z.1 ≠ a14 := fun j hj z e => nek (hL.2.2.2.1 j hj z e).1.1 n14
  have hoq : a14 ≠ o := fun e => nek hRo.1.1.1 n14 e.symm
  have haq : a ≠ a14 := nek hL.1.1 n14
  refine kV1 ?_
  refine so_astore_n (M := mX2_remember) (pc := 21) (lo' := [_, _, _]) dX2_remember_21 (LE rfl) (LE rfl) (Or.inr rfl) rfl ?_
  refine wp_aload_n (M := mX2_remember) (pc := 22) dX2_remember_22 rfl ?_
  refine wp_getR (M := mX2_remember) (pc := 23) fa_X2_11 rfl dX2_remember_23 H1.1.1.1 H1.1.2.1.1 ?_
  refine wp_aload_n (M := mX2_remember) (pc := 26) dX2_remember_26 rfl ?_
  refine wp_getI (M := mX2_remember) (pc := 27) fa_X2_17 rfl dX2_remember_27 H1.1.1.1 ?_
  refine wp_aload_n (M := mX2_remember) (pc := 30) dX2_remember_30 rfl ?_
  refine wr_aastore (M := mX2_remember) (pc := 31) dX2_remember_31 H1.1.2.1.2.1 hL1.1.1 (by decide) H1.2.1.1 n2 (by decide) ?_
  refine wp_aload_n (M := mX2_remember) (pc := 32) dX2_remember_32 rfl ?_
  refine wp_aload_n (M := mX2_remember) (pc := 33) dX2_remember_33 rfl ?_
  refine so_V1 (M := mX2_remember) (pc := 34) cs_X2_remember_22 rfl rfl (LE rfl) (LE rfl) dX2_remember_34 hL1.1.1 ?_
  have H2 := hiC_room H1 hx hL1 hno
  have F2 : Fr (fun y => y = a) h1 (sr h1 sa x (some a14)) := Fr.sr (by rw [H1.1.2.1.2.2])
  refine sp_X4_copyFrom (hL1.fr F2 (fun e => haq e.symm)) (R1.fr F2 (fun e => hao e.symm)) hoq (fun h3 R3 F3 => ?_)
  have ka : kd h3 a = some (.inl 2) := by rw [F3.1]; exact H1.1.1.1
  have ga : gi h3 a = gi h1 a := (F3.2.2.2 a (by show ¬ (tg h1 a).1 = a14; rw [H1.1.1.2]; exact haq)).1
  refine kV ?_
  refine wp_aload_n (M := mX2_remember) (pc := 37) dX2_remember_37 rfl ?_
  refine wp_aload_n (M := mX2_remember) (pc := 38) dX2_remember_38 rfl ?_
  refine wp_getI (M := mX2_remember) (pc := 39) fa_X2_17 rfl dX2_remember_39 ka ?_
  refine wp_iconst (M := mX2_remember) (pc := 42) (v := 1) dX2_remember_42 ci_1 ?_
  refine wp_iadd (M := mX2_remember) (pc := 43) dX2_remember_43 ?_
  refine wp_bipush (M := mX2_remember) (pc := 44) (v := 14) dX2_remember_44 cb_14 ?_
  refine wp_irem (M := mX2_remember) (pc := 46) dX2_remember_46 (by decide) ?_
  refine wp_putI (M := mX2_remember) (pc := 47) fa_X2_17 (Or.inl rfl) dX2_remember_47 ka ?_
  refine wp_aload_n (M := mX2_remember) (pc := 50) dX2_remember_50 rfl ?_
  refine wp_bipush (M := mX2_remember) (pc := 51) (v := 14) dX2_remember_51 cb_14 ?_
  refine wp_aload_n (M := mX2_remember) (pc := 53) dX2_remember_53 rfl ?_
  refine wp_getI (M := mX2_remember) (pc := 54) fa_X2_26 rfl dX2_remember_54 ka ?_
  refine wp_iconst (M := mX2_remember) (pc := 57) (v := 1) dX2_remember_57 ci_1 ?_
  refine wp_iadd (M := mX2_remember) (pc := 58) dX2_remember_58 ?_
  refine so_S2 (M := mX2_remember) (pc := 59) cs_X2_remember_29 rfl rfl (LE rfl) (LE rfl) dX2_remember_59 ?_
  refine sp_J9_min_7cf53 ?_
  refine kI ?_
  refine wp_putI (M := mX2_remember) (pc := 62) fa_X2_26 (Or.inl rfl) dX2_remember_62 ka ?_
  refine wp_return (M := mX2_remember) (pc := 65) rfl dX2_remember_65 ?_
  rw [gi_si_oth (by decide), ga, H1.2.1.1, H1.2.2.1.1, hi_next x n2, hi_cnt _ (by have := H.2.2.1.2; omega)]
  refine k _ a14 l n14 (H2.push (u1_at _ _ _) R3 F3) ?_
  have ta : tg h3 a = (a, 0, 0) := by rw [F3.2.1]; exact H1.1.1.2
  have F4 : Fr (fun y => y = a) h3 (si (si h3 a 1 (nI ((x + 1) % 14))) a 2 (nI (min 14 (hs.length + 1)))) := (Fr.si (by rw [ta])).tr (Fr.si (by show (tg h3 a).1 = a; rw [ta]))
  intro y κ e
  obtain ⟨g1, g2, g3, g4⟩ := G0 y κ e
  obtain ⟨i1, i2, i3, i4⟩ := F2.A y κ g1
  obtain ⟨j1, j2, j3, j4⟩ := F3.A y κ i1
  obtain ⟨m1, m2, m3, m4⟩ := F4.A y κ j1
  refine ⟨m1, m2.trans (j2.trans (i2.trans g2)), m3.trans (j3.trans (i3.trans g3)), fun hn => ?_⟩
  have w1 := g4 (fun q9 => q9)
  have w2 := i4 (fun q9 => hn (Or.inl (by rw [← g2]; exact q9)))
  have w3 := j4 (fun q9 => hn (Or.inr (by rw [← g2, ← i2]; exact q9)))
  have w4 := m4 (fun q9 => hn (Or.inl (by rw [← g2, ← i2, ← j2]; exact q9)))
  exact ⟨w4.1.trans (w3.1.trans (w2.1.trans w1.1)), w4.2.trans (w3.2.trans (w2.2.trans w1.2))⟩
end SP
