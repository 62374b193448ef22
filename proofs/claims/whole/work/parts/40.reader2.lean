section SP
variable {E : Ev} {h : PH} {Q : Rt → PH → Prop}
def rtC (s : Nat → Nat) (n : Nat) (x : Nat × Bool) := rdX s n 1 999 3 (ltX s n 116 x)
def rtR (s : Nat → Nat) (n : Nat) (x : Nat × Bool) := rdX s n 0 99 2 (rtC s n x).2
def rtM (s : Nat → Nat) (n : Nat) (x : Nat × Bool) := rdX s n 0 9999 4 (rtR s n x).2
/-- one tenant is read -/
def rtS (s : Nat → Nat) (n : Nat) (y : Sta × Nat × Bool) : Sta × Nat × Bool := (addT y.1 (nI (rtC s n y.2).1) (nI (rtR s n y.2).1) (nI (rtM s n y.2).1), (rtM s n y.2).2)
def rtA (s : Nat → Nat) (n : Nat) : Nat → Nat → Sta × Nat × Bool → Sta × Nat × Bool
  | 0, _, y => y
  | f + 1, t, y => if y.2.2 = true ∨ (0 < t ∧ ¬ (y.2.1 < n ∧ s y.2.1 = 116)) then y else rtA s n f (t + 1) (rtS s n y)
theorem rtA_stop {s : Nat → Nat} {n f t : Nat} {y : Sta × Nat × Bool} (h : y.2.2 = true ∨ (0 < t ∧ ¬ (y.2.1 < n ∧ s y.2.1 = 116))) : rtA s n f t y = y := by
  cases f
  · rfl
  · exact if_pos h
theorem rtA_go {s : Nat → Nat} {n f t : Nat} {y : Sta × Nat × Bool} (h : ¬ (y.2.2 = true ∨ (0 < t ∧ ¬ (y.2.1 < n ∧ s y.2.1 = 116)))) : rtA s n (f + 1) t y = rtA s n f (t + 1) (rtS s n y) := if_neg h
theorem rtM_le {s : Nat → Nat} {n : Nat} {x : Nat × Bool} (hn : n ≤ 160) (h : x.1 ≤ 160) : (rtM s n x).2.1 ≤ 160 := rdB_le hn (rdB_le hn (rdB_le hn (lt1_le h hn)))
theorem rtR_le {s : Nat → Nat} {n : Nat} {x : Nat × Bool} (hn : n ≤ 160) (h : x.1 ≤ 160) : (rtR s n x).2.1 ≤ 160 := rdB_le hn (rdB_le hn (lt1_le h hn))
theorem rtC_le {s : Nat → Nat} {n : Nat} {x : Nat × Bool} (hn : n ≤ 160) (h : x.1 ≤ 160) : (rtC s n x).2.1 ≤ 160 := rdB_le hn (lt1_le h hn)
theorem RepC.rd {h : PH} {a sa q p : Nat} {b : Bool} {l : Lt} {s : Nat → Nat} {n : Nat} {A : Sta} (hR : RepC h q l A) (hX : TxC h a sa s n) (haq : a ≠ q) : RepC (rdH h a p b) q l A := hR.fr (S := fun x => x = a) (Fr.rd (by rw [hX.1.2])) (fun e => haq e.symm)
noncomputable def fulB (A : Sta) : Bool := @decide (fullU A (sN A)) (Classical.propDecidable _)
theorem fulB_I {A : Sta} : bI (fulB A) = b01 (fullU A (sN A)) := by
  unfold fulB
  by_cases h : fullU A (sN A)
  · rw [b01_t h, @decide_eq_true _ (Classical.propDecidable _) h]; rfl
  · rw [b01_f h, @decide_eq_false _ (Classical.propDecidable _) h]; rfl
theorem sb_areAllQueuesFull {q : Nat} {l : Lt} {A : Sta} (hR : RepC h q l A) (k : Q (.inl (some (.int (b01 (fullU A (sN A)))))) h) : WPx E mX4_areAllQueuesFull 0 [some (.ref q), none] [] (0, 0) h Q :=
  sp_X4_areAllQueuesFull hR (fun h1 => by rw [b01_t h1] at k; exact k) (fun h1 => by rw [b01_f h1] at k; exact k)
noncomputable def rmL (s : Nat → Nat) (n : Nat) (A : Sta) (p : Nat) := ltX s n 109 (p, fulB A)
noncomputable def rmQ (s : Nat → Nat) (n : Nat) (A : Sta) (p : Nat) := rqX A s n (rmL s n A p)
noncomputable def rmZ (s : Nat → Nat) (n : Nat) (A : Sta) (p : Nat) := rdX s n 1 99 2 (rmQ s n A p)
/-- one message is read -/
noncomputable def rmS (s : Nat → Nat) (n : Nat) (y : Sta × Nat × Bool) : Sta × Nat × Bool := (if (rmZ s n y.1 y.2.1).2.2 = false then pushA y.1 (s (rmL s n y.1 y.2.1).1 - 48) (nI (rmZ s n y.1 y.2.1).1) else y.1, (rmZ s n y.1 y.2.1).2)
noncomputable def rmA (s : Nat → Nat) (n : Nat) : Nat → Sta × Nat × Bool → Sta × Nat × Bool
  | 0, y => y
  | f + 1, y => if y.2.2 = true ∨ ¬ y.2.1 < n then y else rmA s n f (rmS s n y)
theorem rmA_stop {s : Nat → Nat} {n f : Nat} {y : Sta × Nat × Bool} (h : y.2.2 = true ∨ ¬ y.2.1 < n) : rmA s n f y = y := by
  cases f
  · rfl
  · exact if_pos h
theorem rmA_go {s : Nat → Nat} {n f : Nat} {y : Sta × Nat × Bool} (h : ¬ (y.2.2 = true ∨ ¬ y.2.1 < n)) : rmA s n (f + 1) y = rmA s n f (rmS s n y) := if_neg h
set_option maxHeartbeats 4000000 in
set_option maxRecDepth 100000 in
theorem lp_X1_readTenants {a sa n : Nat} {s : Nat → Nat} {q : Nat} {l : Lt} {h0 : PH} {res : Sta × Nat × Bool} (haq : a ≠ q) (k : ∀ h', Rdr h' a sa q l s n res → Fr (fun x => x = a ∨ x = q) h0 h' → Q (.inl none) h') : ∀ (m : Nat) (t : Nat) (h : PH) (A : Sta) (p : Nat) (b : Bool) (x3 : Option Value) (x4 : Option Value) (x5 : Option Value), 6 - t < m → (t ≤ 6) → (sN A = t) → (Rdr h a sa q l s n (A, p, b)) → (Fr (fun x => x = a ∨ x = q) h0 h) → (rtA s n (6 - t) t (A, p, b) = res) → WPx E mX1_readTenants 2 [some (.ref a), some (.ref q), some (.int (nI t)), x3, x4, x5] [] (0, 0) h Q := by
  intro m
  induction m with
  | zero => intro t h A p b x3 x4 x5 hm; exact absurd hm (Nat.not_lt_zero _)
  | succ m ih =>
    intro t h A p b x3 x4 x5 hm ht htA hD hF hres
    have hD2 := hD
    obtain ⟨hR, hX, ⟨hp, hp2⟩, hb⟩ := hD2
    have hn := hX.2.2.1.2
    have hp2' : p ≤ 160 := hp2
    have hs : p < n → s p ≤ 255 := fun e => (hX.2.2.2 p e).2
    refine wp_iload_n (M := mX1_readTenants) (pc := 2) dX1_readTenants_2 rfl ?_
    refine wp_bipush (M := mX1_readTenants) (pc := 3) (v := 6) dX1_readTenants_3 cb_6 ?_
    refine wp_icmp_ge (M := mX1_readTenants) (pc := 5) (tgt := 81) dX1_readTenants_5 rfl (fun t5 => ?_) (fun f5 => ?_)
    · have e6 : t = 6 := Nat.le_antisymm ht ((i_le (a := 6) (by decide) (by omega)).mp t5)
      refine wp_return (M := mX1_readTenants) (pc := 81) rfl dX1_readTenants_81 ?_
      first
      | (rw [rtA_stop (y := (A, p, b)) (Or.inl hb1)] at hres; subst hres; exact k h hD hF)
      | (rw [rtA_stop (y := (A, p, b)) (Or.inr ⟨ht0, h25⟩)] at hres; subst hres; exact k h hD hF)
      | (subst e6; rw [show 6 - sN A = 0 by omega] at hres; subst hres; exact k h hD hF)
      | (rw [e6] at hres; subst hres; exact k h hD hF)
      | fail "leaf"
    · have hlt : t < 6 := Nat.lt_of_not_le (fun e => f5 ((i_le (a := 6) (by decide) (by omega)).mpr e))
      rw [show 6 - t = (6 - (t + 1)) + 1 by omega] at hres
      refine wp_aload_n (M := mX1_readTenants) (pc := 8) dX1_readTenants_8 rfl ?_
      refine wp_getI (M := mX1_readTenants) (pc := 9) fa_X1_22 rfl dX1_readTenants_9 (by first | exact hX.1.1 | exact hR.1.1.1) ?_
      refine wp_if_ne (M := mX1_readTenants) (pc := 12) (tgt := 81) dX1_readTenants_12 rfl (fun t12 => ?_) (fun f12 => ?_)
      · rw [hb] at t12
        have hb1 := bI_n t12
        refine wp_return (M := mX1_readTenants) (pc := 81) rfl dX1_readTenants_81 ?_
        first
        | (rw [rtA_stop (y := (A, p, b)) (Or.inl hb1)] at hres; subst hres; exact k h hD hF)
        | (rw [rtA_stop (y := (A, p, b)) (Or.inr ⟨ht0, h25⟩)] at hres; subst hres; exact k h hD hF)
        | (subst e6; rw [show 6 - sN A = 0 by omega] at hres; subst hres; exact k h hD hF)
        | (rw [e6] at hres; subst hres; exact k h hD hF)
        | fail "leaf"
      · rw [hb] at f12
        have hb0 : b = false := bI_0 f12
        refine wp_iload_n (M := mX1_readTenants) (pc := 15) dX1_readTenants_15 rfl ?_
        refine wp_if_le (M := mX1_readTenants) (pc := 16) (tgt := 29) dX1_readTenants_16 rfl (fun t16 => ?_) (fun f16 => ?_)
        · have ht0 : t = 0 := by
            have := (i_le (b := 0) (by omega) (by decide)).mp t16
            omega
          have hgo : ¬ (0 < t ∧ ¬ (p < n ∧ s p = 116)) := fun e => by omega
          refine wp_aload_n (M := mX1_readTenants) (pc := 29) dX1_readTenants_29 rfl ?_
          refine wp_bipush (M := mX1_readTenants) (pc := 30) (v := 116) dX1_readTenants_30 cb_116 ?_
          refine so_V1 (M := mX1_readTenants) (pc := 32) cs_X1_readTenants_36 rfl rfl (LE rfl) (LE rfl) dX1_readTenants_32 (by first | exact hX.1.1 | exact hR.1.1.1) ?_
          refine sp_X1_readLetter (c := 116) hX hp (by omega) hb (by decide) ?_
          refine kV ?_
          refine wp_aload_n (M := mX1_readTenants) (pc := 35) dX1_readTenants_35 rfl ?_
          refine wp_iconst (M := mX1_readTenants) (pc := 36) (v := 3) dX1_readTenants_36 ci_3 ?_
          refine wp_iconst (M := mX1_readTenants) (pc := 37) (v := 1) dX1_readTenants_37 ci_1 ?_
          refine wp_sipush (M := mX1_readTenants) (pc := 38) (v := 999) dX1_readTenants_38 ch_999 ?_
          refine so_V3 (M := mX1_readTenants) (pc := 41) cs_X1_readTenants_40 rfl rfl (LE rfl) (LE rfl) dX1_readTenants_41 (by first | exact hX.1.1 | exact hR.1.1.1) ?_
          refine sp_X1_readNumber (d := 3) (lo := 1) (hi := 999) hX.rd (by decide) (by decide) (by decide) rdH_p (Nat.le_trans (lt1_le hp2 hn) (by decide)) rdH_b ?_
          refine kI ?_
          refine so_istore_n (M := mX1_readTenants) (pc := 44) (lo' := [_, _, _, _, _, _]) dX1_readTenants_44 (LE rfl) (LE rfl) (Or.inr rfl) rfl ?_
          refine wp_aload_n (M := mX1_readTenants) (pc := 45) dX1_readTenants_45 rfl ?_
          refine wp_iconst (M := mX1_readTenants) (pc := 46) (v := 2) dX1_readTenants_46 ci_2 ?_
          refine wp_iconst (M := mX1_readTenants) (pc := 47) (v := 0) dX1_readTenants_47 ci_0 ?_
          refine wp_bipush (M := mX1_readTenants) (pc := 48) (v := 99) dX1_readTenants_48 cb_99 ?_
          refine so_V3 (M := mX1_readTenants) (pc := 50) cs_X1_readTenants_40 rfl rfl (LE rfl) (LE rfl) dX1_readTenants_50 (by first | exact hX.1.1 | exact hR.1.1.1) ?_
          refine sp_X1_readNumber (d := 2) (lo := 0) (hi := 99) hX.rd.rd (by decide) (by decide) (by decide) rdH_p (Nat.le_trans (rtC_le (x := (p, b)) hn hp2) (by decide)) rdH_b ?_
          refine kI ?_
          refine so_istore (M := mX1_readTenants) (pc := 53) (lo' := [_, _, _, _, _, _]) dX1_readTenants_53 (LE rfl) (LE rfl) (Or.inr rfl) rfl ?_
          refine wp_aload_n (M := mX1_readTenants) (pc := 55) dX1_readTenants_55 rfl ?_
          refine wp_iconst (M := mX1_readTenants) (pc := 56) (v := 4) dX1_readTenants_56 ci_4 ?_
          refine wp_iconst (M := mX1_readTenants) (pc := 57) (v := 0) dX1_readTenants_57 ci_0 ?_
          refine wp_sipush (M := mX1_readTenants) (pc := 58) (v := 9999) dX1_readTenants_58 ch_9999 ?_
          refine so_V3 (M := mX1_readTenants) (pc := 61) cs_X1_readTenants_40 rfl rfl (LE rfl) (LE rfl) dX1_readTenants_61 (by first | exact hX.1.1 | exact hR.1.1.1) ?_
          refine sp_X1_readNumber (d := 4) (lo := 0) (hi := 9999) hX.rd.rd.rd (by decide) (by decide) (by decide) rdH_p (Nat.le_trans (rtR_le (x := (p, b)) hn hp2) (by decide)) rdH_b ?_
          refine kI ?_
          refine so_istore (M := mX1_readTenants) (pc := 64) (lo' := [_, _, _, _, _, _]) dX1_readTenants_64 (LE rfl) (LE rfl) (Or.inr rfl) rfl ?_
          refine wp_aload_n (M := mX1_readTenants) (pc := 66) dX1_readTenants_66 rfl ?_
          refine wp_iload_n (M := mX1_readTenants) (pc := 67) dX1_readTenants_67 rfl ?_
          refine wp_iload (M := mX1_readTenants) (pc := 68) dX1_readTenants_68 rfl ?_
          refine wp_iload (M := mX1_readTenants) (pc := 70) dX1_readTenants_70 rfl ?_
          refine so_V3 (M := mX1_readTenants) (pc := 72) cs_X1_readTenants_54 rfl rfl (LE rfl) (LE rfl) dX1_readTenants_72 (by first | exact hX.1.1 | exact hR.1.1.1) ?_
          simp only [rdH_rdH]
          refine sp_X4_addTenant (hR.rd hX haq) (by rw [htA]; exact hlt) (fun h1 hR1 hF1 => ?_)
          refine kV ?_
          refine so_iinc (M := mX1_readTenants) (pc := 75) (lo' := [_, _, _, _, _, _]) dX1_readTenants_75 rfl ci_1 (LE rfl) rfl ?_
          refine wp_goto (M := mX1_readTenants) (pc := 78) (tgt := 2) dX1_readTenants_78 rfl ?_
          rw [show nI t + 1 = nI (t + 1) from nI_1 t]
          have hz := Rdr.mk (p := (rtM s n (p, b)).2.1) (b := (rtM s n (p, b)).2.2) hX haq (rtM_le (x := (p, b)) hn hp2) hR1 hF1
          rw [rtA_go (y := (A, p, b)) (fun q9 => q9.elim (fun q8 => Bool.noConfusion (hb0.symm.trans q8)) hgo)] at hres
          exact ih (t + 1) h1 _ _ _ _ _ _ (by omega) (by omega) (by rw [← htA]; rfl) hz.1 (hF.tr hz.2) hres
        · have ht0 : 0 < t := Nat.pos_of_ne_zero (fun e => f16 (by rw [e]; decide))
          refine wp_aload_n (M := mX1_readTenants) (pc := 19) dX1_readTenants_19 rfl ?_
          refine so_V0 (M := mX1_readTenants) (pc := 20) cs_X1_readTenants_50 rfl rfl (LE rfl) (LE rfl) dX1_readTenants_20 (by first | exact hX.1.1 | exact hR.1.1.1) ?_
          refine sp_X1_sign hX hp (by omega) ?_
          refine kI ?_
          refine wp_bipush (M := mX1_readTenants) (pc := 23) (v := 116) dX1_readTenants_23 cb_116 ?_
          refine wp_icmp_eq (M := mX1_readTenants) (pc := 25) (tgt := 29) dX1_readTenants_25 rfl (fun t25 => ?_) (fun f25 => ?_)
          · have h25 := (sgI_eq (c := 116) (by decide) hs).mp t25
            have hgo : ¬ (0 < t ∧ ¬ (p < n ∧ s p = 116)) := fun e => e.2 h25
            refine wp_aload_n (M := mX1_readTenants) (pc := 29) dX1_readTenants_29 rfl ?_
            refine wp_bipush (M := mX1_readTenants) (pc := 30) (v := 116) dX1_readTenants_30 cb_116 ?_
            refine so_V1 (M := mX1_readTenants) (pc := 32) cs_X1_readTenants_36 rfl rfl (LE rfl) (LE rfl) dX1_readTenants_32 (by first | exact hX.1.1 | exact hR.1.1.1) ?_
            refine sp_X1_readLetter (c := 116) hX hp (by omega) hb (by decide) ?_
            refine kV ?_
            refine wp_aload_n (M := mX1_readTenants) (pc := 35) dX1_readTenants_35 rfl ?_
            refine wp_iconst (M := mX1_readTenants) (pc := 36) (v := 3) dX1_readTenants_36 ci_3 ?_
            refine wp_iconst (M := mX1_readTenants) (pc := 37) (v := 1) dX1_readTenants_37 ci_1 ?_
            refine wp_sipush (M := mX1_readTenants) (pc := 38) (v := 999) dX1_readTenants_38 ch_999 ?_
            refine so_V3 (M := mX1_readTenants) (pc := 41) cs_X1_readTenants_40 rfl rfl (LE rfl) (LE rfl) dX1_readTenants_41 (by first | exact hX.1.1 | exact hR.1.1.1) ?_
            refine sp_X1_readNumber (d := 3) (lo := 1) (hi := 999) hX.rd (by decide) (by decide) (by decide) rdH_p (Nat.le_trans (lt1_le hp2 hn) (by decide)) rdH_b ?_
            refine kI ?_
            refine so_istore_n (M := mX1_readTenants) (pc := 44) (lo' := [_, _, _, _, _, _]) dX1_readTenants_44 (LE rfl) (LE rfl) (Or.inr rfl) rfl ?_
            refine wp_aload_n (M := mX1_readTenants) (pc := 45) dX1_readTenants_45 rfl ?_
            refine wp_iconst (M := mX1_readTenants) (pc := 46) (v := 2) dX1_readTenants_46 ci_2 ?_
            refine wp_iconst (M := mX1_readTenants) (pc := 47) (v := 0) dX1_readTenants_47 ci_0 ?_
            refine wp_bipush (M := mX1_readTenants) (pc := 48) (v := 99) dX1_readTenants_48 cb_99 ?_
            refine so_V3 (M := mX1_readTenants) (pc := 50) cs_X1_readTenants_40 rfl rfl (LE rfl) (LE rfl) dX1_readTenants_50 (by first | exact hX.1.1 | exact hR.1.1.1) ?_
            refine sp_X1_readNumber (d := 2) (lo := 0) (hi := 99) hX.rd.rd (by decide) (by decide) (by decide) rdH_p (Nat.le_trans (rtC_le (x := (p, b)) hn hp2) (by decide)) rdH_b ?_
            refine kI ?_
            refine so_istore (M := mX1_readTenants) (pc := 53) (lo' := [_, _, _, _, _, _]) dX1_readTenants_53 (LE rfl) (LE rfl) (Or.inr rfl) rfl ?_
            refine wp_aload_n (M := mX1_readTenants) (pc := 55) dX1_readTenants_55 rfl ?_
            refine wp_iconst (M := mX1_readTenants) (pc := 56) (v := 4) dX1_readTenants_56 ci_4 ?_
            refine wp_iconst (M := mX1_readTenants) (pc := 57) (v := 0) dX1_readTenants_57 ci_0 ?_
            refine wp_sipush (M := mX1_readTenants) (pc := 58) (v := 9999) dX1_readTenants_58 ch_9999 ?_
            refine so_V3 (M := mX1_readTenants) (pc := 61) cs_X1_readTenants_40 rfl rfl (LE rfl) (LE rfl) dX1_readTenants_61 (by first | exact hX.1.1 | exact hR.1.1.1) ?_
            refine sp_X1_readNumber (d := 4) (lo := 0) (hi := 9999) hX.rd.rd.rd (by decide) (by decide) (by decide) rdH_p (Nat.le_trans (rtR_le (x := (p, b)) hn hp2) (by decide)) rdH_b ?_
            refine kI ?_
            refine so_istore (M := mX1_readTenants) (pc := 64) (lo' := [_, _, _, _, _, _]) dX1_readTenants_64 (LE rfl) (LE rfl) (Or.inr rfl) rfl ?_
            refine wp_aload_n (M := mX1_readTenants) (pc := 66) dX1_readTenants_66 rfl ?_
            refine wp_iload_n (M := mX1_readTenants) (pc := 67) dX1_readTenants_67 rfl ?_
            refine wp_iload (M := mX1_readTenants) (pc := 68) dX1_readTenants_68 rfl ?_
            refine wp_iload (M := mX1_readTenants) (pc := 70) dX1_readTenants_70 rfl ?_
            refine so_V3 (M := mX1_readTenants) (pc := 72) cs_X1_readTenants_54 rfl rfl (LE rfl) (LE rfl) dX1_readTenants_72 (by first | exact hX.1.1 | exact hR.1.1.1) ?_
            simp only [rdH_rdH]
            refine sp_X4_addTenant (hR.rd hX haq) (by rw [htA]; exact hlt) (fun h1 hR1 hF1 => ?_)
            refine kV ?_
            refine so_iinc (M := mX1_readTenants) (pc := 75) (lo' := [_, _, _, _, _, _]) dX1_readTenants_75 rfl ci_1 (LE rfl) rfl ?_
            refine wp_goto (M := mX1_readTenants) (pc := 78) (tgt := 2) dX1_readTenants_78 rfl ?_
            rw [show nI t + 1 = nI (t + 1) from nI_1 t]
            have hz := Rdr.mk (p := (rtM s n (p, b)).2.1) (b := (rtM s n (p, b)).2.2) hX haq (rtM_le (x := (p, b)) hn hp2) hR1 hF1
            rw [rtA_go (y := (A, p, b)) (fun q9 => q9.elim (fun q8 => Bool.noConfusion (hb0.symm.trans q8)) hgo)] at hres
            exact ih (t + 1) h1 _ _ _ _ _ _ (by omega) (by omega) (by rw [← htA]; rfl) hz.1 (hF.tr hz.2) hres
          · have h25 : ¬ (p < n ∧ s p = 116) := fun e => f25 ((sgI_eq (c := 116) (by decide) hs).mpr e)
            refine wp_return (M := mX1_readTenants) (pc := 28) rfl dX1_readTenants_28 ?_
            first
            | (rw [rtA_stop (y := (A, p, b)) (Or.inl hb1)] at hres; subst hres; exact k h hD hF)
            | (rw [rtA_stop (y := (A, p, b)) (Or.inr ⟨ht0, h25⟩)] at hres; subst hres; exact k h hD hF)
            | (subst e6; rw [show 6 - sN A = 0 by omega] at hres; subst hres; exact k h hD hF)
            | (rw [e6] at hres; subst hres; exact k h hD hF)
            | fail "leaf"
set_option maxHeartbeats 4000000 in
set_option maxRecDepth 100000 in
theorem sp_X1_readTenants {a sa n : Nat} {s : Nat → Nat} {p : Nat} {b : Bool} {q : Nat} {l : Lt} {A : Sta} (haq : a ≠ q) (hA0 : sN A = 0) (hD : Rdr h a sa q l s n (A, p, b)) (k : ∀ h', Rdr h' a sa q l s n (rtA s n 6 0 (A, p, b)) → Fr (fun x => x = a ∨ x = q) h h' → Q (.inl none) h') : WPx E mX1_readTenants 0 [some (.ref a), some (.ref q), none, none, none, none] [] (0, 0) h Q := by
  refine wp_iconst (M := mX1_readTenants) (pc := 0) (v := 0) dX1_readTenants_0 ci_0 ?_
  refine so_istore_n (M := mX1_readTenants) (pc := 1) (lo' := [_, _, _, _, _, _]) dX1_readTenants_1 (LE rfl) (LE rfl) (Or.inr rfl) rfl ?_
  exact lp_X1_readTenants haq k 7 0 h A p b none none none (by omega) (by omega) hA0 hD Fr.rf rfl
end SP
