section SP
variable {E : Ev} {h : PH} {Q : Rt → PH → Prop}
/-- the history: cs says which state object lies at which place, hs the states, the newest first -/
def HiL (h : PH) (a sa : Nat) (cs : Nat → Option (Nat × Lt)) : Prop := (kd h a = some (.inl 2) ∧ tg h a = (a, 0, 0)) ∧ (gr h a 0 = some sa ∧ kd h sa = some (.inr (5, 14)) ∧ tg h sa = (a, 1, 0)) ∧ (∀ j, j < 14 → gr h sa j = (cs j).map Prod.fst) ∧ (∀ j, j < 14 → ∀ y, cs j = some y → Lay h y.1 y.2) ∧ (∀ i j, i < 14 → j < 14 → ∀ y z, cs i = some y → cs j = some z → y.1 = z.1 → i = j)
def HiC (h : PH) (a sa : Nat) (cs : Nat → Option (Nat × Lt)) (x : Nat) (hs : List Sta) : Prop := HiL h a sa cs ∧ (gi h a 1 = nI x ∧ x < 14) ∧ (gi h a 2 = nI hs.length ∧ hs.length ≤ 14) ∧ (∀ i, i < hs.length → ∃ y, cs ((x + 13 - i) % 14) = some y ∧ ∀ B, hs[i]? = some B → RepC h y.1 y.2 B)
theorem hi_next : ∀ x : Nat, x < 14 → (nI x + 1) - (nI x + 1) / 14 * 14 = nI ((x + 1) % 14) := by decide
theorem hi_cnt : ∀ c : Nat, c < 15 → imin 14 (nI c + 1) = nI (min 14 (c + 1)) := by decide
theorem hi_new : ∀ x : Nat, x < 14 → (nI x + 14 - 1) - (nI x + 14 - 1) / 14 * 14 = nI ((x + 13) % 14) := by decide
theorem HiL.ne {h : PH} {a sa : Nat} {cs : Nat → Option (Nat × Lt)} (H : HiL h a sa cs) {j : Nat} (hj : j < 14) {y : Nat × Lt} (e : cs j = some y) : y.1 ≠ a := fun e1 => by
  have h1 := (H.2.2.2.1 j hj y e).1.1
  rw [e1, H.1.1] at h1
  cases h1
theorem HiL.fr {S : Nat → Prop} {h h' : PH} {a sa : Nat} {cs : Nat → Option (Nat × Lt)} (H : HiL h a sa cs) (hF : Fr S h h') (ha : ¬ S a) (hL : ∀ j, j < 14 → ∀ y, cs j = some y → Lay h' y.1 y.2) : HiL h' a sa cs := by
  obtain ⟨⟨h1, h2⟩, ⟨h3, h4, h5⟩, h6, h7, h8⟩ := H
  obtain ⟨f1, f2, f3, f4⟩ := hF
  have e1 := (f4 a (by rw [h2]; exact ha)).2
  have e2 := (f4 sa (by rw [h5]; exact ha)).2
  exact ⟨⟨by rw [f1]; exact h1, by rw [f2]; exact h2⟩, ⟨by rw [e1]; exact h3, by rw [f1]; exact h4, by rw [f2]; exact h5⟩, fun j hj => by rw [e2]; exact h6 j hj, hL, h8⟩
/-- the newest state is laid down -/
theorem HiC.push {h h' : PH} {a sa x q : Nat} {l : Lt} {cs : Nat → Option (Nat × Lt)} {hs : List Sta} {A : Sta} (H : HiC h a sa cs x hs) (hx : cs x = some (q, l)) (hR : RepC h' q l A) (hF : Fr (fun y => y = q) h h') : HiC (si (si h' a 1 (nI ((x + 1) % 14))) a 2 (nI (min 14 (hs.length + 1)))) a sa cs ((x + 1) % 14) ((A :: hs).take 14) := by
  obtain ⟨hL, ⟨n1, n2⟩, ⟨n3, n4⟩, hE⟩ := H
  have haq : a ≠ q := fun e => hL.ne n2 hx e.symm
  have hL1 : HiL h' a sa cs := hL.fr hF haq (fun j hj y e => by
    by_cases e9 : y.1 = q
    · have : j = x := hL.2.2.2.2 j x hj n2 y (q, l) e hx e9
      rw [this, hx] at e
      cases e
      exact hR.1
    · exact (hL.2.2.2.1 j hj y e).fr hF e9)
  have ta : tg h' a = (a, 0, 0) := hL1.1.2
  have F2 : Fr (fun y => y = a) h' (si (si h' a 1 (nI ((x + 1) % 14))) a 2 (nI (min 14 (hs.length + 1)))) := (Fr.si (by rw [ta])).tr (Fr.si (by show (tg h' a).1 = a; rw [ta]))
  refine ⟨⟨hL1.1, hL1.2.1, hL1.2.2.1, hL1.2.2.2.1, hL1.2.2.2.2⟩, ⟨by rw [gi_si_oth (by decide), gi_si_same], Nat.mod_lt _ (by decide)⟩, ⟨?_, ?_⟩, fun i hi => ?_⟩
  · rw [gi_si_same, List.length_take]; rfl
  · rw [List.length_take]; exact Nat.min_le_left _ _
  · rw [List.length_take] at hi
    have hi1 : i < 14 := by omega
    have hi2 : i < hs.length + 1 := Nat.lt_of_lt_of_le hi (Nat.min_le_right _ _)
    cases i with
    | zero =>
      refine ⟨(q, l), by rw [show ((x + 1) % 14 + 13 - 0) % 14 = x by omega]; exact hx, fun B hB => ?_⟩
      have : A = B := by
        rw [List.getElem?_take_of_lt (by omega)] at hB
        exact Option.some.inj hB
      rw [← this]
      exact hR.fr F2 (fun e => haq e.symm)
    | succ i =>
      obtain ⟨y, hy, hB⟩ := hE i (by omega)
      refine ⟨y, by rw [show ((x + 1) % 14 + 13 - (i + 1)) % 14 = (x + 13 - i) % 14 by omega]; exact hy, fun B hB2 => ?_⟩
      rw [List.getElem?_take_of_lt (by omega), List.getElem?_cons_succ] at hB2
      have hj : (x + 13 - i) % 14 < 14 := Nat.mod_lt _ (by decide)
      have yq : y.1 ≠ q := fun e => by
        have := hL.2.2.2.2 _ x hj n2 y (q, l) hy hx e
        omega
      exact ((hB B hB2).fr hF yq).fr F2 (fun e => hL.ne hj hy e)
set_option maxHeartbeats 4000000 in
set_option maxRecDepth 100000 in
theorem sp_X2_rememberB {a sa x q o : Nat} {l lo : Lt} {cs : Nat → Option (Nat × Lt)} {hs : List Sta} {A : Sta} (H : HiC h a sa cs x hs) (hx : cs x = some (q, l)) (hRo : RepC h o lo A) (hqo : q ≠ o) (k : ∀ h', HiC h' a sa cs ((x + 1) % 14) ((A :: hs).take 14) → Fr (fun y => y = a ∨ y = q) h h' → Q (.inl none) h') : WPx E mX2_remember 0 [some (.ref a), some (.ref o), none] [] (33, 492) h Q := by
  have hL := H.1
  have n1 := H.2.1.1
  have n2 := H.2.1.2
  have rx : gr h sa x = some q := by rw [hL.2.2.1 x n2, hx]; rfl
  have haq : a ≠ q := fun e => hL.ne n2 hx e.symm
  refine wp_aload_n (M := mX2_remember) (pc := 0) dX2_remember_0 rfl ?_
  refine wp_getR (M := mX2_remember) (pc := 1) fa_X2_11 rfl dX2_remember_1 (by first | exact hL.1.1 | exact hL.2.1.2.1 | exact (hL.2.2.2.1 x n2 (q, l) hx).1.1) (by first | exact hL.2.1.1 | exact rx) ?_
  refine wp_aload_n (M := mX2_remember) (pc := 4) dX2_remember_4 rfl ?_
  refine wp_getI (M := mX2_remember) (pc := 5) fa_X2_17 rfl dX2_remember_5 (by first | exact hL.1.1 | exact hL.2.1.2.1 | exact (hL.2.2.2.1 x n2 (q, l) hx).1.1) ?_
  refine wr_aaload (M := mX2_remember) (pc := 8) dX2_remember_8 (by first | exact hL.1.1 | exact hL.2.1.2.1 | exact (hL.2.2.2.1 x n2 (q, l) hx).1.1) (by decide) n1 n2 (by decide) (by first | exact hL.2.1.1 | exact rx) ?_
  refine so_astore_n (M := mX2_remember) (pc := 9) (lo' := [_, _, _]) dX2_remember_9 (LE rfl) (LE rfl) (Or.inr rfl) rfl ?_
  refine wp_aload_n (M := mX2_remember) (pc := 10) dX2_remember_10 rfl ?_
  refine wp_ifnonnull (M := mX2_remember) (pc := 11) (tgt := 32) dX2_remember_11 rfl ?_
  refine wp_aload_n (M := mX2_remember) (pc := 32) dX2_remember_32 rfl ?_
  refine wp_aload_n (M := mX2_remember) (pc := 33) dX2_remember_33 rfl ?_
  refine so_V1 (M := mX2_remember) (pc := 34) cs_X2_remember_22 rfl rfl (LE rfl) (LE rfl) dX2_remember_34 (by first | exact hL.1.1 | exact hL.2.1.2.1 | exact (hL.2.2.2.1 x n2 (q, l) hx).1.1) ?_
  have hLq : Lay h q l := hL.2.2.2.1 x n2 (q, l) hx
  refine sp_X4_copyFrom hLq hRo hqo (fun h1 R1 F1 => ?_)
  have ka : kd h1 a = some (.inl 2) := by rw [F1.1]; exact hL.1.1
  have ga : gi h1 a = gi h a := (F1.2.2.2 a (by rw [hL.1.2]; exact haq)).1
  refine kV ?_
  refine wp_aload_n (M := mX2_remember) (pc := 37) dX2_remember_37 rfl ?_
  refine wp_aload_n (M := mX2_remember) (pc := 38) dX2_remember_38 rfl ?_
  refine wp_getI (M := mX2_remember) (pc := 39) fa_X2_17 rfl dX2_remember_39 ka ?_
  refine wp_iconst (M := mX2_remember) (pc := 42) (v := 1) dX2_remember_42 ci_1 ?_
  refine wp_iadd (M := mX2_remember) (pc := 43) dX2_remember_43 ?_
  refine wp_bipush (M := mX2_remember) (pc := 44) (v := 14) dX2_remember_44 cb_14 ?_
  refine wp_irem (M := mX2_remember) (pc := 46) dX2_remember_46 (by decide) ?_
  refine wp_putI (M := mX2_remember) (pc := 47) fa_X2_17 (Or.inl rfl) dX2_remember_47 ka ?_
  refine wp_aload_n (M := mX2_remember) (pc := 50) dX2_remember_50 rfl ?_
  refine wp_bipush (M := mX2_remember) (pc := 51) (v := 14) dX2_remember_51 cb_14 ?_
  refine wp_aload_n (M := mX2_remember) (pc := 53) dX2_remember_53 rfl ?_
  refine wp_getI (M := mX2_remember) (pc := 54) fa_X2_26 rfl dX2_remember_54 ka ?_
  refine wp_iconst (M := mX2_remember) (pc := 57) (v := 1) dX2_remember_57 ci_1 ?_
  refine wp_iadd (M := mX2_remember) (pc := 58) dX2_remember_58 ?_
  refine so_S2 (M := mX2_remember) (pc := 59) cs_X2_remember_29 rfl rfl (LE rfl) (LE rfl) dX2_remember_59 ?_
  refine sp_J9_min_7cf53 ?_
  refine kI ?_
  refine wp_putI (M := mX2_remember) (pc := 62) fa_X2_26 (Or.inl rfl) dX2_remember_62 ka ?_
  refine wp_return (M := mX2_remember) (pc := 65) rfl dX2_remember_65 ?_
  rw [gi_si_oth (by decide), ga, n1, H.2.2.1.1, hi_next x n2, hi_cnt _ (by have := H.2.2.1.2; omega)]
  have ta : (tg h1 a).1 = a := by rw [F1.2.1, hL.1.2]
  exact k _ (H.push hx R1 F1) ((F1.mono (fun y e => Or.inr e)).tr ((Fr.si (Or.inl ta)).tr (Fr.si (Or.inl ta))))
end SP
