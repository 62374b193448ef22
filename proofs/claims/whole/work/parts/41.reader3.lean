section SP
variable {E : Ev} {h : PH} {Q : Rt → PH → Prop}
theorem rdB_ok {s : Nat → Nat} {n lo hi k v p : Nat} {b : Bool} (h : (rdB s n lo hi k v p b).2.2 = false) : b = false := by
  cases b
  · rfl
  · rw [rdB_t rfl] at h; cases h
theorem rqX_ok {A : Sta} {s : Nat → Nat} {n : Nat} {x : Nat × Bool} (h : (rqX A s n x).2 = false) : x.2 = false ∧ (x.1 < n ∧ 48 ≤ s x.1 ∧ s x.1 - 48 < sN A) ∧ (sT A (s x.1 - 48)).2.1.length < 8 := by
  by_cases q : x.2 = false ∧ (x.1 < n ∧ 48 ≤ s x.1 ∧ s x.1 - 48 < sN A) ∧ (sT A (s x.1 - 48)).2.1.length < 8
  · exact q
  · rw [rqX_n q] at h; cases h
theorem rmS_y {s : Nat → Nat} {n p : Nat} {b : Bool} {A : Sta} (h : (rmZ s n A p).2.2 = false) : rmS s n (A, p, b) = (pushA A (s (rmL s n A p).1 - 48) (nI (rmZ s n A p).1), (rmZ s n A p).2.1, (rmZ s n A p).2.2) := by
  show ((if (rmZ s n A p).2.2 = false then _ else _), _) = _
  rw [if_pos h]
theorem rmS_n {s : Nat → Nat} {n p : Nat} {b : Bool} {A : Sta} (h : (rmZ s n A p).2.2 = true) : rmS s n (A, p, b) = (A, (rmZ s n A p).2.1, (rmZ s n A p).2.2) := by
  show ((if (rmZ s n A p).2.2 = false then _ else _), _) = _
  rw [if_neg (by rw [h]; decide)]
theorem rmL_le {s : Nat → Nat} {n p : Nat} {A : Sta} (hn : n ≤ 160) (h : p ≤ 160) : (rmL s n A p).1 ≤ 160 := lt1_le h hn
theorem rmQ_le {s : Nat → Nat} {n p : Nat} {A : Sta} (hn : n ≤ 160) (h : p ≤ 160) : (rmQ s n A p).1 ≤ 160 := rqX_le (rmL_le hn h) hn
theorem rmZ_le {s : Nat → Nat} {n p : Nat} {A : Sta} (hn : n ≤ 160) (h : p ≤ 160) : (rmZ s n A p).2.1 ≤ 160 := rdB_le hn (rmQ_le hn h)
theorem full_H {h : PH} {a p : Nat} {A : Sta} (hp : gi h a 2 = nI p) : si h a 3 (b01 (fullU A (sN A))) = rdH h a p (fulB A) := by rw [← fulB_I]; exact rdH_1 hp
set_option maxHeartbeats 4000000 in
set_option maxRecDepth 100000 in
theorem lp_X1_readMessages {a sa n : Nat} {s : Nat → Nat} {q : Nat} {l : Lt} {h0 : PH} {res : Sta × Nat × Bool} (haq : a ≠ q) (k : ∀ h', Rdr h' a sa q l s n res → Fr (fun x => x = a ∨ x = q) h0 h' → Q (.inl none) h') : ∀ (m : Nat) (i : Nat) (h : PH) (A : Sta) (p : Nat) (b : Bool) (x3 : Option Value) (x4 : Option Value), 160 - i < m → (i ≤ 160) → (Rdr h a sa q l s n (A, p, b)) → (Fr (fun x => x = a ∨ x = q) h0 h) → (rmA s n (160 - i) (A, p, b) = res) → WPx E mX1_readMessages 2 [some (.ref a), some (.ref q), some (.int (nI i)), x3, x4] [] (0, 0) h Q := by
  intro m
  induction m with
  | zero => intro i h A p b x3 x4 hm; exact absurd hm (Nat.not_lt_zero _)
  | succ m ih =>
    intro i h A p b x3 x4 hm hi hD hF hres
    have hD2 := hD
    obtain ⟨hR, hX, ⟨hp, hp2⟩, hb⟩ := hD2
    have hn := hX.2.2.1.2
    have hp2' : p ≤ 160 := hp2
    have hn1 := hX.2.2.1.1
    obtain ⟨⟨kq, tq⟩, ⟨rT, kT, tT⟩, -, hLT, -⟩ := hR.1
    have n6 : sN A ≤ 6 := hR.2.1.1.2
    refine wp_iload_n (M := mX1_readMessages) (pc := 2) dX1_readMessages_2 rfl ?_
    refine wp_sipush (M := mX1_readMessages) (pc := 3) (v := 160) dX1_readMessages_3 ch_160 ?_
    refine wp_icmp_ge (M := mX1_readMessages) (pc := 6) (tgt := 82) dX1_readMessages_6 rfl (fun t6 => ?_) (fun f6 => ?_)
    · have e6 : i = 160 := Nat.le_antisymm hi ((i_le (a := 160) (by decide) (by omega)).mp t6)
      refine wp_return (M := mX1_readMessages) (pc := 82) rfl dX1_readMessages_82 ?_
      first
      | (rw [rmA_stop (y := (A, p, b)) (Or.inl hb1)] at hres; subst hres; exact k h hD hF)
      | (rw [rmA_stop (y := (A, p, b)) (Or.inr h24)] at hres; subst hres; exact k h hD hF)
      | (rw [e6] at hres; subst hres; exact k h hD hF)
      | fail "leaf"
    · have hlt : i < 160 := Nat.lt_of_not_le (fun e => f6 ((i_le (a := 160) (by decide) (by omega)).mpr e))
      rw [show 160 - i = (160 - (i + 1)) + 1 by omega] at hres
      refine wp_aload_n (M := mX1_readMessages) (pc := 9) dX1_readMessages_9 rfl ?_
      refine wp_getI (M := mX1_readMessages) (pc := 10) fa_X1_22 rfl dX1_readMessages_10 (by first | exact hX.1.1 | exact kq | exact kT | exact a2) ?_
      refine wp_if_ne (M := mX1_readMessages) (pc := 13) (tgt := 82) dX1_readMessages_13 rfl (fun t13 => ?_) (fun f13 => ?_)
      · rw [hb] at t13
        have hb1 := bI_n t13
        refine wp_return (M := mX1_readMessages) (pc := 82) rfl dX1_readMessages_82 ?_
        first
        | (rw [rmA_stop (y := (A, p, b)) (Or.inl hb1)] at hres; subst hres; exact k h hD hF)
        | (rw [rmA_stop (y := (A, p, b)) (Or.inr h24)] at hres; subst hres; exact k h hD hF)
        | (rw [e6] at hres; subst hres; exact k h hD hF)
        | fail "leaf"
      · rw [hb] at f13
        have hb0 : b = false := bI_0 f13
        refine wp_aload_n (M := mX1_readMessages) (pc := 16) dX1_readMessages_16 rfl ?_
        refine wp_getI (M := mX1_readMessages) (pc := 17) fa_X1_19 rfl dX1_readMessages_17 (by first | exact hX.1.1 | exact kq | exact kT | exact a2) ?_
        refine wp_aload_n (M := mX1_readMessages) (pc := 20) dX1_readMessages_20 rfl ?_
        refine wp_getI (M := mX1_readMessages) (pc := 21) fa_X1_15 rfl dX1_readMessages_21 (by first | exact hX.1.1 | exact kq | exact kT | exact a2) ?_
        refine wp_icmp_ge (M := mX1_readMessages) (pc := 24) (tgt := 82) dX1_readMessages_24 rfl (fun t24 => ?_) (fun f24 => ?_)
        · rw [hp, hn1] at t24
          have h24 : ¬ p < n := Nat.not_lt_of_le ((i_le (by omega) (by omega)).mp t24)
          refine wp_return (M := mX1_readMessages) (pc := 82) rfl dX1_readMessages_82 ?_
          first
          | (rw [rmA_stop (y := (A, p, b)) (Or.inl hb1)] at hres; subst hres; exact k h hD hF)
          | (rw [rmA_stop (y := (A, p, b)) (Or.inr h24)] at hres; subst hres; exact k h hD hF)
          | (rw [e6] at hres; subst hres; exact k h hD hF)
          | fail "leaf"
        · rw [hp, hn1] at f24
          have h24 : p < n := Nat.lt_of_not_le (fun e => f24 ((i_le (by omega) (by omega)).mpr e))
          rw [rmA_go (y := (A, p, b)) (fun q9 => q9.elim (fun q8 => Bool.noConfusion (hb0.symm.trans q8)) (fun q8 => q8 h24))] at hres
          refine wp_aload_n (M := mX1_readMessages) (pc := 27) dX1_readMessages_27 rfl ?_
          refine wp_aload_n (M := mX1_readMessages) (pc := 28) dX1_readMessages_28 rfl ?_
          refine so_V0 (M := mX1_readMessages) (pc := 29) cs_X1_readMessages_58 rfl rfl (LE rfl) (LE rfl) dX1_readMessages_29 (by first | exact hX.1.1 | exact kq | exact kT | exact a2) ?_
          refine sb_areAllQueuesFull hR ?_
          refine kI ?_
          refine wp_putI (M := mX1_readMessages) (pc := 32) fa_X1_22 (Or.inr ⟨rfl, b01_or⟩) dX1_readMessages_32 (by first | exact hX.1.1 | exact kq | exact kT | exact a2) ?_
          rw [full_H hp]
          refine wp_aload_n (M := mX1_readMessages) (pc := 35) dX1_readMessages_35 rfl ?_
          refine wp_bipush (M := mX1_readMessages) (pc := 36) (v := 109) dX1_readMessages_36 cb_109 ?_
          refine so_V1 (M := mX1_readMessages) (pc := 38) cs_X1_readMessages_36 rfl rfl (LE rfl) (LE rfl) dX1_readMessages_38 (by first | exact hX.1.1 | exact kq | exact kT | exact a2) ?_
          refine sp_X1_readLetter (c := 109) hX.rd rdH_p (by omega) rdH_b (by decide) ?_
          refine kV ?_
          refine wp_aload_n (M := mX1_readMessages) (pc := 41) dX1_readMessages_41 rfl ?_
          refine wp_aload_n (M := mX1_readMessages) (pc := 42) dX1_readMessages_42 rfl ?_
          refine so_V1 (M := mX1_readMessages) (pc := 43) cs_X1_readMessages_62 rfl rfl (LE rfl) (LE rfl) dX1_readMessages_43 (by first | exact hX.1.1 | exact kq | exact kT | exact a2) ?_
          refine sp_X1_readQueue (A := A) (l := l) hX.rd.rd rdH_p (rmL_le (A := A) hn hp2) rdH_b ((hR.rd hX haq).rd hX.rd haq) ?_
          refine kI ?_
          refine so_istore_n (M := mX1_readMessages) (pc := 46) (lo' := [_, _, _, _, _]) dX1_readMessages_46 (LE rfl) (LE rfl) (Or.inr rfl) rfl ?_
          refine wp_aload_n (M := mX1_readMessages) (pc := 47) dX1_readMessages_47 rfl ?_
          refine wp_iconst (M := mX1_readMessages) (pc := 48) (v := 2) dX1_readMessages_48 ci_2 ?_
          refine wp_iconst (M := mX1_readMessages) (pc := 49) (v := 1) dX1_readMessages_49 ci_1 ?_
          refine wp_bipush (M := mX1_readMessages) (pc := 50) (v := 99) dX1_readMessages_50 cb_99 ?_
          refine so_V3 (M := mX1_readMessages) (pc := 52) cs_X1_readMessages_40 rfl rfl (LE rfl) (LE rfl) dX1_readMessages_52 (by first | exact hX.1.1 | exact kq | exact kT | exact a2) ?_
          refine sp_X1_readNumber (d := 2) (lo := 1) (hi := 99) hX.rd.rd.rd (by decide) (by decide) (by decide) rdH_p (Nat.le_trans (rmQ_le (A := A) hn hp2) (by decide)) rdH_b ?_
          refine kI ?_
          refine so_istore (M := mX1_readMessages) (pc := 55) (lo' := [_, _, _, _, _]) dX1_readMessages_55 (LE rfl) (LE rfl) (Or.inr rfl) rfl ?_
          simp only [rdH_rdH]
          refine wp_aload_n (M := mX1_readMessages) (pc := 57) dX1_readMessages_57 rfl ?_
          refine wp_getI (M := mX1_readMessages) (pc := 58) fa_X1_22 rfl dX1_readMessages_58 (by first | exact hX.1.1 | exact kq | exact kT | exact a2) ?_
          refine wp_if_ne (M := mX1_readMessages) (pc := 61) (tgt := 76) dX1_readMessages_61 rfl (fun t61 => ?_) (fun f61 => ?_)
          · rw [rdH_b] at t61
            have hz1 : (rmZ s n A p).2.2 = true := bI_n t61
            refine so_iinc (M := mX1_readMessages) (pc := 76) (lo' := [_, _, _, _, _]) dX1_readMessages_76 rfl ci_1 (LE rfl) rfl ?_
            refine wp_goto (M := mX1_readMessages) (pc := 79) (tgt := 2) dX1_readMessages_79 rfl ?_
            rw [show nI i + 1 = nI (i + 1) from nI_1 i]
            first
            | (have hz := Rdr.mk (p := (rmZ s n A p).2.1) (b := (rmZ s n A p).2.2) hX haq (rmZ_le hn hp2) (R3.sPush hq0.2.1.2.2 (nI (rmZ s n A p).1) hq0.2.2) ((Fr.si (R3.ownM (by omega))).tr (Fr.si (R3.ownT (by omega))))
               rw [rmS_y hz0] at hres
               exact ih (i + 1) _ _ _ _ _ _ (by omega) (by omega) hz.1 (hF.tr hz.2) hres)
            | (have hz := Rdr.mk (p := (rmZ s n A p).2.1) (b := (rmZ s n A p).2.2) hX haq (rmZ_le hn hp2) (hR.rd hX haq) Fr.rf
               rw [rmS_n hz1] at hres
               exact ih (i + 1) _ _ _ _ _ _ (by omega) (by omega) hz.1 (hF.tr hz.2) hres)
            | fail "leaf"
          · rw [rdH_b] at f61
            have hz0 : (rmZ s n A p).2.2 = false := bI_0 f61
            have hq0 := rqX_ok (x := rmL s n A p) (rdB_ok hz0)
            have ej := sg_sub hq0.2.1.1 hq0.2.1.2.1
            obtain ⟨a1, ⟨a2, a3⟩, ⟨a4, a5, a6⟩, -⟩ := hLT (s (rmL s n A p).1 - 48) (by omega)
            have R3 := RepC.rd (p := (rmZ s n A p).2.1) (b := (rmZ s n A p).2.2) hR hX haq
            have e7 := (R3.2.2.1 (s (rmL s n A p).1 - 48) hq0.2.1.2.2).2.1
            refine wp_aload_n (M := mX1_readMessages) (pc := 64) dX1_readMessages_64 rfl ?_
            refine wp_getR (M := mX1_readMessages) (pc := 65) fa_X1_66 rfl dX1_readMessages_65 (by first | exact hX.1.1 | exact kq | exact kT | exact a2) (by first | exact rT | exact a1) ?_
            refine wp_iload_n (M := mX1_readMessages) (pc := 68) dX1_readMessages_68 rfl ?_
            refine wr_aaload (M := mX1_readMessages) (pc := 69) dX1_readMessages_69 (by first | exact hX.1.1 | exact kq | exact kT | exact a2) (by decide) ej (by omega) (by decide) (by first | exact rT | exact a1) ?_
            refine wp_iload (M := mX1_readMessages) (pc := 70) dX1_readMessages_70 rfl ?_
            refine so_V1 (M := mX1_readMessages) (pc := 72) cs_X1_readMessages_70 rfl rfl (LE rfl) (LE rfl) dX1_readMessages_72 (by first | exact hX.1.1 | exact kq | exact kT | exact a2) ?_
            refine sp_X5_queueMessage a2 a4 a5 (R3.neTM (by omega)) e7 hq0.2.2 ?_
            refine kI ?_
            refine wp_pop (M := mX1_readMessages) (pc := 75) dX1_readMessages_75 rfl ?_
            refine so_iinc (M := mX1_readMessages) (pc := 76) (lo' := [_, _, _, _, _]) dX1_readMessages_76 rfl ci_1 (LE rfl) rfl ?_
            refine wp_goto (M := mX1_readMessages) (pc := 79) (tgt := 2) dX1_readMessages_79 rfl ?_
            rw [show nI i + 1 = nI (i + 1) from nI_1 i]
            first
            | (have hz := Rdr.mk (p := (rmZ s n A p).2.1) (b := (rmZ s n A p).2.2) hX haq (rmZ_le hn hp2) (R3.sPush hq0.2.1.2.2 (nI (rmZ s n A p).1) hq0.2.2) ((Fr.si (R3.ownM (by omega))).tr (Fr.si (R3.ownT (by omega))))
               rw [rmS_y hz0] at hres
               exact ih (i + 1) _ _ _ _ _ _ (by omega) (by omega) hz.1 (hF.tr hz.2) hres)
            | (have hz := Rdr.mk (p := (rmZ s n A p).2.1) (b := (rmZ s n A p).2.2) hX haq (rmZ_le hn hp2) (hR.rd hX haq) Fr.rf
               rw [rmS_n hz1] at hres
               exact ih (i + 1) _ _ _ _ _ _ (by omega) (by omega) hz.1 (hF.tr hz.2) hres)
            | fail "leaf"
set_option maxHeartbeats 4000000 in
set_option maxRecDepth 100000 in
theorem sp_X1_readMessages {a sa n : Nat} {s : Nat → Nat} {p : Nat} {b : Bool} {q : Nat} {l : Lt} {A : Sta} (haq : a ≠ q) (hD : Rdr h a sa q l s n (A, p, b)) (k : ∀ h', Rdr h' a sa q l s n (rmA s n 160 (A, p, b)) → Fr (fun x => x = a ∨ x = q) h h' → Q (.inl none) h') : WPx E mX1_readMessages 0 [some (.ref a), some (.ref q), none, none, none] [] (0, 0) h Q := by
  refine wp_iconst (M := mX1_readMessages) (pc := 0) (v := 0) dX1_readMessages_0 ci_0 ?_
  refine so_istore_n (M := mX1_readMessages) (pc := 1) (lo' := [_, _, _, _, _]) dX1_readMessages_1 (LE rfl) (LE rfl) (Or.inr rfl) rfl ?_
  exact lp_X1_readMessages haq k 161 0 h A p b none none (by omega) (by omega) hD Fr.rf rfl
/-- all of the text -/
noncomputable def rdA (s : Nat → Nat) (n : Nat) : Sta × Nat × Bool := rmA s n 160 (rtA s n 6 0 (lkE s n (0, false)))
noncomputable def rdE (s : Nat → Nat) (n : Nat) : Int32 := if (rdA s n).2.2 = true then nI (rdA s n).2.1 else -9
set_option maxHeartbeats 4000000 in
set_option maxRecDepth 100000 in
theorem sp_X1_readInto {a sa n : Nat} {s : Nat → Nat} {q : Nat} {l : Lt} (hX : TxC h a sa s n) (hL : Lay h q l) (haq : a ≠ q) (k : ∀ h', Rdr h' a sa q l s n (rdA s n) → Fr (fun x => x = a ∨ x = q) h h' → Q (.inl (some (.int (rdE s n)))) h') : WPx E mX1_readInto 0 [some (.ref a), some (.ref q)] [] (0, 0) h Q := by
  refine wp_aload_n (M := mX1_readInto) (pc := 0) dX1_readInto_0 rfl ?_
  refine wp_iconst (M := mX1_readInto) (pc := 1) (v := 0) dX1_readInto_1 ci_0 ?_
  refine wp_putI (M := mX1_readInto) (pc := 2) fa_X1_19 (Or.inl rfl) dX1_readInto_2 (by first | exact hX.1.1 | exact D2.2.1.1.1 | exact D1.2.1.1.1 | exact D3.2.1.1.1) ?_
  refine wp_aload_n (M := mX1_readInto) (pc := 5) dX1_readInto_5 rfl ?_
  refine wp_iconst (M := mX1_readInto) (pc := 6) (v := 0) dX1_readInto_6 ci_0 ?_
  refine wp_putI (M := mX1_readInto) (pc := 7) fa_X1_22 (Or.inr ⟨rfl, (by decide)⟩) dX1_readInto_7 (by first | exact hX.1.1 | exact D2.2.1.1.1 | exact D1.2.1.1.1 | exact D3.2.1.1.1) ?_
  refine wp_aload_n (M := mX1_readInto) (pc := 10) dX1_readInto_10 rfl ?_
  refine wp_aload_n (M := mX1_readInto) (pc := 11) dX1_readInto_11 rfl ?_
  refine so_V1 (M := mX1_readInto) (pc := 12) cs_X1_readInto_26 rfl rfl (LE rfl) (LE rfl) dX1_readInto_12 hX.1.1 ?_
  rw [show si (si h a 2 0) a 3 0 = rdH h a 0 false from rfl]
  refine sp_X1_readLink (p := 0) (b := false) hX.rd rdH_p (by decide) rdH_b hL haq (fun h1 D1 F1 => ?_)
  refine kV ?_
  refine wp_aload_n (M := mX1_readInto) (pc := 15) dX1_readInto_15 rfl ?_
  refine wp_aload_n (M := mX1_readInto) (pc := 16) dX1_readInto_16 rfl ?_
  refine so_V1 (M := mX1_readInto) (pc := 17) cs_X1_readInto_30 rfl rfl (LE rfl) (LE rfl) dX1_readInto_17 D1.2.1.1.1 ?_
  refine sp_X1_readTenants haq rfl D1 (fun h2 D2 F2 => ?_)
  refine kV ?_
  refine wp_aload_n (M := mX1_readInto) (pc := 20) dX1_readInto_20 rfl ?_
  refine wp_aload_n (M := mX1_readInto) (pc := 21) dX1_readInto_21 rfl ?_
  refine so_V1 (M := mX1_readInto) (pc := 22) cs_X1_readInto_33 rfl rfl (LE rfl) (LE rfl) dX1_readInto_22 D2.2.1.1.1 ?_
  refine sp_X1_readMessages haq D2 (fun h3 D3 F3 => ?_)
  refine kV ?_
  refine wp_aload_n (M := mX1_readInto) (pc := 25) dX1_readInto_25 rfl ?_
  refine wp_getI (M := mX1_readInto) (pc := 26) fa_X1_22 rfl dX1_readInto_26 (by first | exact hX.1.1 | exact D2.2.1.1.1 | exact D1.2.1.1.1 | exact D3.2.1.1.1) ?_
  refine wp_if_eq (M := mX1_readInto) (pc := 29) (tgt := 39) dX1_readInto_29 rfl (fun t29 => ?_) (fun f29 => ?_)
  · rw [D3.2.2.2] at t29
    have hb0 := bI_0 t29
    refine wp_bipush (M := mX1_readInto) (pc := 39) (v := -9) dX1_readInto_39 cb_m9 ?_
    refine wp_ireturn (M := mX1_readInto) (pc := 41) rfl dX1_readInto_41 ?_
    have hk := k h3 D3 ((Fr.rd (Or.inl (by rw [hX.1.2]))).tr (F1.tr (F2.tr F3)))
    first
    | (rw [rdE, if_neg (show ¬ (rdA s n).2.2 = true from fun e => Bool.noConfusion (hb0.symm.trans e))] at hk; exact hk)
    | (rw [D3.2.2.1.1]; rw [rdE, if_pos (show (rdA s n).2.2 = true from hb1)] at hk; exact hk)
    | fail "leaf"
  · rw [D3.2.2.2] at f29
    have hb1 := bI_n f29
    refine wp_aload_n (M := mX1_readInto) (pc := 32) dX1_readInto_32 rfl ?_
    refine wp_getI (M := mX1_readInto) (pc := 33) fa_X1_19 rfl dX1_readInto_33 (by first | exact hX.1.1 | exact D2.2.1.1.1 | exact D1.2.1.1.1 | exact D3.2.1.1.1) ?_
    refine wp_goto (M := mX1_readInto) (pc := 36) (tgt := 41) dX1_readInto_36 rfl ?_
    refine wp_ireturn (M := mX1_readInto) (pc := 41) rfl dX1_readInto_41 ?_
    have hk := k h3 D3 ((Fr.rd (Or.inl (by rw [hX.1.2]))).tr (F1.tr (F2.tr F3)))
    first
    | (rw [rdE, if_neg (show ¬ (rdA s n).2.2 = true from fun e => Bool.noConfusion (hb0.symm.trans e))] at hk; exact hk)
    | (rw [D3.2.2.1.1]; rw [rdE, if_pos (show (rdA s n).2.2 = true from hb1)] at hk; exact hk)
    | fail "leaf"
end SP
