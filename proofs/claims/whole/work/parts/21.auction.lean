section SP
variable {E : Ev} {h : PH} {Q : Rt → PH → Prop}
def AuL (h : PH) (u ka pa fa la : Nat) : Prop := kd h u = some (.inl 0) ∧ (gr h u 0 = some ka ∧ gr h u 1 = some pa ∧ gr h u 2 = some fa ∧ gr h u 3 = some la) ∧ (kd h ka = some (.inr (0, 13)) ∧ kd h pa = some (.inr (0, 13)) ∧ kd h fa = some (.inr (0, 13)) ∧ kd h la = some (.inr (0, 13))) ∧ (ka ≠ u ∧ pa ≠ u ∧ fa ≠ u ∧ la ≠ u) ∧ (pa ≠ ka ∧ fa ≠ ka ∧ la ≠ ka ∧ fa ≠ pa ∧ la ≠ pa ∧ la ≠ fa)
def enc (x : Option Nat) : Int32 := match x with
  | none => -1
  | some j => nI j
theorem enc_neg {x : Option Nat} (hx : ∀ j, x = some j → j < 2 ^ 31) (c : enc x < 0) : x = none := by
  cases x with
  | none => rfl
  | some j => exact absurd c (nI_pos (hx j rfl))
theorem enc_pos {x : Option Nat} (c : ¬ enc x < 0) : ∃ j, x = some j := by
  cases x with
  | none => exact absurd (show enc none < 0 by decide) c
  | some j => exact ⟨j, rfl⟩
/-- the best bid of which something is left, among the first n -/
def fb (ks ps ls : Nat → Int32) : Nat → Option Nat
  | 0 => none
  | i + 1 => if ks i = 0 ∧ 0 < ls i ∧ (∀ f, fb ks ps ls i = some f → ps f < ps i) then some i else fb ks ps ls i
abbrev askB (ks ps : Nat → Int32) (i o : Nat) : Prop := ps i < ps o ∨ (ps i = ps o ∧ ks i < ks o)
/-- the best ask of which something is left -/
def fk (ks ps ls : Nat → Int32) : Nat → Option Nat
  | 0 => none
  | i + 1 => if ¬ ks i = 0 ∧ 0 < ls i ∧ (∀ f, fk ks ps ls i = some f → askB ks ps i f) then some i else fk ks ps ls i
section
variable {ks ps ls : Nat → Int32} {i : Nat}
theorem fb_lt : ∀ {i j : Nat}, fb ks ps ls i = some j → j < i
  | 0, j, h => by cases h
  | i + 1, j, h => by
    unfold fb at h
    split at h
    · cases h; omega
    · have := fb_lt h; omega
theorem fk_lt : ∀ {i j : Nat}, fk ks ps ls i = some j → j < i
  | 0, j, h => by cases h
  | i + 1, j, h => by
    unfold fk at h
    split at h
    · cases h; omega
    · have := fk_lt h; omega
theorem fb_s1 (c : ¬ ks i = 0) : fb ks ps ls (i + 1) = fb ks ps ls i := by rw [fb, if_neg]; exact fun q => c q.1
theorem fb_s2 (c : ls i ≤ 0) : fb ks ps ls (i + 1) = fb ks ps ls i := by rw [fb, if_neg]; exact fun q => Int32.not_lt.mpr c q.2.1
theorem fb_s3 {g : Nat} (hg : fb ks ps ls i = some g) (c : ps i ≤ ps g) : fb ks ps ls (i + 1) = some g := by rw [fb, if_neg]; exact hg; exact fun q => Int32.not_lt.mpr c (q.2.2 g hg)
theorem fb_t1 (c1 : ks i = 0) (c2 : ¬ ls i ≤ 0) (hg : fb ks ps ls i = none) : fb ks ps ls (i + 1) = some i := by rw [fb, if_pos]; exact ⟨c1, Int32.not_le.mp c2, fun f hf => by rw [hg] at hf; cases hf⟩
theorem fb_t2 {g : Nat} (c1 : ks i = 0) (c2 : ¬ ls i ≤ 0) (hg : fb ks ps ls i = some g) (c3 : ¬ ps i ≤ ps g) : fb ks ps ls (i + 1) = some i := by rw [fb, if_pos]; exact ⟨c1, Int32.not_le.mp c2, fun f hf => by rw [hg] at hf; cases hf; exact Int32.not_le.mp c3⟩
theorem fk_s1 (c : ks i = 0) : fk ks ps ls (i + 1) = fk ks ps ls i := by rw [fk, if_neg]; exact fun q => q.1 c
theorem fk_s2 (c : ls i ≤ 0) : fk ks ps ls (i + 1) = fk ks ps ls i := by rw [fk, if_neg]; exact fun q => Int32.not_lt.mpr c q.2.1
theorem fk_s3 {g : Nat} (hg : fk ks ps ls i = some g) (c : ¬ askB ks ps i g) : fk ks ps ls (i + 1) = some g := by rw [fk, if_neg]; exact hg; exact fun q => c (q.2.2 g hg)
theorem fk_t1 (c1 : ¬ ks i = 0) (c2 : ¬ ls i ≤ 0) (hg : fk ks ps ls i = none) : fk ks ps ls (i + 1) = some i := by rw [fk, if_pos]; exact ⟨c1, Int32.not_le.mp c2, fun f hf => by rw [hg] at hf; cases hf⟩
theorem fk_t2 {g : Nat} (c1 : ¬ ks i = 0) (c2 : ¬ ls i ≤ 0) (hg : fk ks ps ls i = some g) (c3 : askB ks ps i g) : fk ks ps ls (i + 1) = some i := by rw [fk, if_pos]; exact ⟨c1, Int32.not_le.mp c2, fun f hf => by rw [hg] at hf; cases hf; exact c3⟩
end
set_option maxHeartbeats 4000000 in
set_option maxRecDepth 100000 in
theorem sp_X0_fillOf {u ka pa fa la : Nat} {i n : Nat} (hA : AuL h u ka pa fa la) (hc : gi h u 4 = nI n) (hi : i < n) (hn : n ≤ 13) (k : Q (.inl (some (.int (gi h fa i)))) h) : WPx E mX0_fillOf 0 [some (.ref u), some (.int (nI i))] [] (0, 0) h Q := by
  obtain ⟨hk, ⟨r0, r1, r2, r3⟩, ⟨k0, k1, k2, k3⟩, ⟨m0, m1, m2, m3⟩, m4, m5, m6, m7, m8, m9⟩ := hA
  refine wp_iload_n (M := mX0_fillOf) (pc := 0) dX0_fillOf_0 rfl ?_
  refine wp_if_lt (M := mX0_fillOf) (pc := 1) (tgt := 27) dX0_fillOf_1 rfl (fun c1 => ?_) (fun c1 => ?_)
  · exact absurd c1 (nI_pos (by omega))
  · refine wp_iload_n (M := mX0_fillOf) (pc := 4) dX0_fillOf_4 rfl ?_
    refine wp_aload_n (M := mX0_fillOf) (pc := 5) dX0_fillOf_5 rfl ?_
    refine wp_getI (M := mX0_fillOf) (pc := 6) fa_X0_31 rfl dX0_fillOf_6 (by assumption) ?_
    refine wp_icmp_ge (M := mX0_fillOf) (pc := 9) (tgt := 27) dX0_fillOf_9 rfl (fun c9 => ?_) (fun c9 => ?_)
    · rw [hc] at c9; exact absurd ((i_le (by omega) (by omega)).mp c9) (by omega)
    · refine wp_iload_n (M := mX0_fillOf) (pc := 12) dX0_fillOf_12 rfl ?_
      refine wp_bipush (M := mX0_fillOf) (pc := 13) (v := 13) dX0_fillOf_13 cb_13 ?_
      refine wp_icmp_ge (M := mX0_fillOf) (pc := 15) (tgt := 27) dX0_fillOf_15 rfl (fun c15 => ?_) (fun c15 => ?_)
      · exact absurd ((i_le (a := 13) (by decide) (by omega)).mp c15) (by omega)
      · refine wp_aload_n (M := mX0_fillOf) (pc := 18) dX0_fillOf_18 rfl ?_
        refine wp_getR (M := mX0_fillOf) (pc := 19) fa_X0_18 rfl dX0_fillOf_19 (by assumption) (by assumption) ?_
        refine wp_iload_n (M := mX0_fillOf) (pc := 22) dX0_fillOf_22 rfl ?_
        refine wr_iaload (M := mX0_fillOf) (pc := 23) dX0_fillOf_23 (by assumption) rfl (by omega) (by decide) ?_
        refine wp_goto (M := mX0_fillOf) (pc := 24) (tgt := 28) dX0_fillOf_24 rfl ?_
        refine wp_ireturn (M := mX0_fillOf) (pc := 28) rfl dX0_fillOf_28 ?_
        exact k
set_option maxHeartbeats 4000000 in
set_option maxRecDepth 100000 in
theorem sp_X0_add {u ka pa fa la : Nat} {n : Nat} {a b c : Int32} (hA : AuL h u ka pa fa la) (hc : gi h u 4 = nI n) (hn : n < 13) (k : Q (.inl none) (si (si (si (si (si h ka n a) pa n b) fa n 0) la n c) u 4 (nI (n + 1)))) : WPx E mX0_add 0 [some (.ref u), some (.int a), some (.int b), some (.int c)] [] (0, 0) h Q := by
  obtain ⟨hk, ⟨r0, r1, r2, r3⟩, ⟨k0, k1, k2, k3⟩, ⟨m0, m1, m2, m3⟩, m4, m5, m6, m7, m8, m9⟩ := hA
  refine wp_aload_n (M := mX0_add) (pc := 0) dX0_add_0 rfl ?_
  refine wp_getI (M := mX0_add) (pc := 1) fa_X0_31 rfl dX0_add_1 (by assumption) ?_
  refine wp_if_lt (M := mX0_add) (pc := 4) (tgt := 66) dX0_add_4 rfl (fun c4 => ?_) (fun c4 => ?_)
  · rw [hc] at c4; exact absurd c4 (nI_pos (by omega))
  · refine wp_aload_n (M := mX0_add) (pc := 7) dX0_add_7 rfl ?_
    refine wp_getI (M := mX0_add) (pc := 8) fa_X0_31 rfl dX0_add_8 (by assumption) ?_
    refine wp_bipush (M := mX0_add) (pc := 11) (v := 13) dX0_add_11 cb_13 ?_
    refine wp_icmp_ge (M := mX0_add) (pc := 13) (tgt := 66) dX0_add_13 rfl (fun c13 => ?_) (fun c13 => ?_)
    · rw [hc] at c13; exact absurd ((i_le (a := 13) (by decide) (by omega)).mp c13) (by omega)
    · refine wp_aload_n (M := mX0_add) (pc := 16) dX0_add_16 rfl ?_
      refine wp_getR (M := mX0_add) (pc := 17) fa_X0_11 rfl dX0_add_17 (by assumption) (by assumption) ?_
      refine wp_aload_n (M := mX0_add) (pc := 20) dX0_add_20 rfl ?_
      refine wp_getI (M := mX0_add) (pc := 21) fa_X0_31 rfl dX0_add_21 (by assumption) ?_
      refine wp_iload_n (M := mX0_add) (pc := 24) dX0_add_24 rfl ?_
      refine wr_iastore (M := mX0_add) (pc := 25) dX0_add_25 (by assumption) (by simp only [gi_si_ne _ _ _ m0.symm, gi_si_ne _ _ _ m1.symm, gi_si_ne _ _ _ m2.symm, hc]) hn (by decide) ?_
      refine wp_aload_n (M := mX0_add) (pc := 26) dX0_add_26 rfl ?_
      refine wp_getR (M := mX0_add) (pc := 27) fa_X0_15 rfl dX0_add_27 (by assumption) (by assumption) ?_
      refine wp_aload_n (M := mX0_add) (pc := 30) dX0_add_30 rfl ?_
      refine wp_getI (M := mX0_add) (pc := 31) fa_X0_31 rfl dX0_add_31 (by assumption) ?_
      refine wp_iload_n (M := mX0_add) (pc := 34) dX0_add_34 rfl ?_
      refine wr_iastore (M := mX0_add) (pc := 35) dX0_add_35 (by assumption) (by simp only [gi_si_ne _ _ _ m0.symm, gi_si_ne _ _ _ m1.symm, gi_si_ne _ _ _ m2.symm, hc]) hn (by decide) ?_
      refine wp_aload_n (M := mX0_add) (pc := 36) dX0_add_36 rfl ?_
      refine wp_getR (M := mX0_add) (pc := 37) fa_X0_18 rfl dX0_add_37 (by assumption) (by assumption) ?_
      refine wp_aload_n (M := mX0_add) (pc := 40) dX0_add_40 rfl ?_
      refine wp_getI (M := mX0_add) (pc := 41) fa_X0_31 rfl dX0_add_41 (by assumption) ?_
      refine wp_iconst (M := mX0_add) (pc := 44) (v := 0) dX0_add_44 ci_0 ?_
      refine wr_iastore (M := mX0_add) (pc := 45) dX0_add_45 (by assumption) (by simp only [gi_si_ne _ _ _ m0.symm, gi_si_ne _ _ _ m1.symm, gi_si_ne _ _ _ m2.symm, hc]) hn (by decide) ?_
      refine wp_aload_n (M := mX0_add) (pc := 46) dX0_add_46 rfl ?_
      refine wp_getR (M := mX0_add) (pc := 47) fa_X0_21 rfl dX0_add_47 (by assumption) (by assumption) ?_
      refine wp_aload_n (M := mX0_add) (pc := 50) dX0_add_50 rfl ?_
      refine wp_getI (M := mX0_add) (pc := 51) fa_X0_31 rfl dX0_add_51 (by assumption) ?_
      refine wp_iload_n (M := mX0_add) (pc := 54) dX0_add_54 rfl ?_
      refine wr_iastore (M := mX0_add) (pc := 55) dX0_add_55 (by assumption) (by simp only [gi_si_ne _ _ _ m0.symm, gi_si_ne _ _ _ m1.symm, gi_si_ne _ _ _ m2.symm, hc]) hn (by decide) ?_
      refine wp_aload_n (M := mX0_add) (pc := 56) dX0_add_56 rfl ?_
      refine wp_dup (M := mX0_add) (pc := 57) dX0_add_57 rfl ?_
      refine wp_getI (M := mX0_add) (pc := 58) fa_X0_31 rfl dX0_add_58 (by assumption) ?_
      refine wp_iconst (M := mX0_add) (pc := 61) (v := 1) dX0_add_61 ci_1 ?_
      refine wp_iadd (M := mX0_add) (pc := 62) dX0_add_62 ?_
      refine wp_putI (M := mX0_add) (pc := 63) fa_X0_31 (Or.inl rfl) dX0_add_63 (by assumption) ?_
      refine wp_return (M := mX0_add) (pc := 66) rfl dX0_add_66 ?_
      simp only [gi_si_ne _ _ _ m0.symm, gi_si_ne _ _ _ m1.symm, gi_si_ne _ _ _ m2.symm, gi_si_ne _ _ _ m3.symm, hc]
      rw [show nI n + 1 = nI (n + 1) from nI_1 n]
      exact k
set_option maxHeartbeats 4000000 in
set_option maxRecDepth 100000 in
theorem sp_X0_fill {u ka pa fa la : Nat} {i : Nat} {z : Int32} (hA : AuL h u ka pa fa la) (hi : i < 13) (k : Q (.inl none) (si (si h fa i (gi h fa i + z)) la i (gi h la i - z))) : WPx E mX0_fill 0 [some (.ref u), some (.int (nI i)), some (.int z)] [] (0, 0) h Q := by
  obtain ⟨hk, ⟨r0, r1, r2, r3⟩, ⟨k0, k1, k2, k3⟩, ⟨m0, m1, m2, m3⟩, m4, m5, m6, m7, m8, m9⟩ := hA
  refine wp_aload_n (M := mX0_fill) (pc := 0) dX0_fill_0 rfl ?_
  refine wp_getR (M := mX0_fill) (pc := 1) fa_X0_18 rfl dX0_fill_1 (by assumption) (by assumption) ?_
  refine wp_iload_n (M := mX0_fill) (pc := 4) dX0_fill_4 rfl ?_
  refine wp_dup2 (M := mX0_fill) (pc := 5) dX0_fill_5 rfl rfl ?_
  refine wr_iaload (M := mX0_fill) (pc := 6) dX0_fill_6 (by assumption) rfl hi (by decide) ?_
  refine wp_iload_n (M := mX0_fill) (pc := 7) dX0_fill_7 rfl ?_
  refine wp_iadd (M := mX0_fill) (pc := 8) dX0_fill_8 ?_
  refine wr_iastore (M := mX0_fill) (pc := 9) dX0_fill_9 (by assumption) rfl hi (by decide) ?_
  refine wp_aload_n (M := mX0_fill) (pc := 10) dX0_fill_10 rfl ?_
  refine wp_getR (M := mX0_fill) (pc := 11) fa_X0_21 rfl dX0_fill_11 (by assumption) (by assumption) ?_
  refine wp_iload_n (M := mX0_fill) (pc := 14) dX0_fill_14 rfl ?_
  refine wp_dup2 (M := mX0_fill) (pc := 15) dX0_fill_15 rfl rfl ?_
  refine wr_iaload (M := mX0_fill) (pc := 16) dX0_fill_16 (by assumption) rfl hi (by decide) ?_
  refine wp_iload_n (M := mX0_fill) (pc := 17) dX0_fill_17 rfl ?_
  refine wp_isub (M := mX0_fill) (pc := 18) dX0_fill_18 ?_
  refine wr_iastore (M := mX0_fill) (pc := 19) dX0_fill_19 (by assumption) rfl hi (by decide) ?_
  refine wp_return (M := mX0_fill) (pc := 20) rfl dX0_fill_20 ?_
  simp only [gi_si_ne _ _ _ m9]
  exact k
set_option maxHeartbeats 4000000 in
set_option maxRecDepth 100000 in
theorem sp_X0_isAskBefore {u ka pa fa la : Nat} {i j : Nat} (hA : AuL h u ka pa fa la) (hi : i < 13) (hj : j < 13) (k1 : askB (gi h ka) (gi h pa) i j → Q (.inl (some (.int 1))) h) (k0 : ¬ askB (gi h ka) (gi h pa) i j → Q (.inl (some (.int 0))) h) : WPx E mX0_isAskBefore 0 [some (.ref u), some (.int (nI i)), some (.int (nI j))] [] (0, 0) h Q := by
  obtain ⟨hk, ⟨r0, r1, r2, r3⟩, ⟨g0, g1, g2, g3⟩, ⟨m0, m1, m2, m3⟩, m4, m5, m6, m7, m8, m9⟩ := hA
  refine wp_aload_n (M := mX0_isAskBefore) (pc := 0) dX0_isAskBefore_0 rfl ?_
  refine wp_getR (M := mX0_isAskBefore) (pc := 1) fa_X0_15 rfl dX0_isAskBefore_1 (by assumption) (by assumption) ?_
  refine wp_iload_n (M := mX0_isAskBefore) (pc := 4) dX0_isAskBefore_4 rfl ?_
  refine wr_iaload (M := mX0_isAskBefore) (pc := 5) dX0_isAskBefore_5 (by assumption) rfl hi (by decide) ?_
  refine wp_aload_n (M := mX0_isAskBefore) (pc := 6) dX0_isAskBefore_6 rfl ?_
  refine wp_getR (M := mX0_isAskBefore) (pc := 7) fa_X0_15 rfl dX0_isAskBefore_7 (by assumption) (by assumption) ?_
  refine wp_iload_n (M := mX0_isAskBefore) (pc := 10) dX0_isAskBefore_10 rfl ?_
  refine wr_iaload (M := mX0_isAskBefore) (pc := 11) dX0_isAskBefore_11 (by assumption) rfl hj (by decide) ?_
  refine wp_icmp_lt (M := mX0_isAskBefore) (pc := 12) (tgt := 45) dX0_isAskBefore_12 rfl (fun c12 => ?_) (fun c12 => ?_)
  · refine wp_iconst (M := mX0_isAskBefore) (pc := 45) (v := 1) dX0_isAskBefore_45 ci_1 ?_
    refine wp_goto (M := mX0_isAskBefore) (pc := 46) (tgt := 50) dX0_isAskBefore_46 rfl ?_
    refine wp_zreturn (M := mX0_isAskBefore) (pc := 50) rfl (by decide) dX0_isAskBefore_50 ?_
    first
    | exact k1 (Or.inl c12)
    | exact k0 (fun q => q.elim c12 (fun q => c27 q.1))
    | exact k0 (fun q => q.elim c12 (fun q => Int32.not_lt.mpr c42 q.2))
    | exact k1 (Or.inr ⟨c27, Int32.not_le.mp c42⟩)
  · refine wp_aload_n (M := mX0_isAskBefore) (pc := 15) dX0_isAskBefore_15 rfl ?_
    refine wp_getR (M := mX0_isAskBefore) (pc := 16) fa_X0_15 rfl dX0_isAskBefore_16 (by assumption) (by assumption) ?_
    refine wp_iload_n (M := mX0_isAskBefore) (pc := 19) dX0_isAskBefore_19 rfl ?_
    refine wr_iaload (M := mX0_isAskBefore) (pc := 20) dX0_isAskBefore_20 (by assumption) rfl hi (by decide) ?_
    refine wp_aload_n (M := mX0_isAskBefore) (pc := 21) dX0_isAskBefore_21 rfl ?_
    refine wp_getR (M := mX0_isAskBefore) (pc := 22) fa_X0_15 rfl dX0_isAskBefore_22 (by assumption) (by assumption) ?_
    refine wp_iload_n (M := mX0_isAskBefore) (pc := 25) dX0_isAskBefore_25 rfl ?_
    refine wr_iaload (M := mX0_isAskBefore) (pc := 26) dX0_isAskBefore_26 (by assumption) rfl hj (by decide) ?_
    refine wp_icmp_ne (M := mX0_isAskBefore) (pc := 27) (tgt := 49) dX0_isAskBefore_27 rfl (fun c27 => ?_) (fun c27 => ?_)
    · refine wp_iconst (M := mX0_isAskBefore) (pc := 49) (v := 0) dX0_isAskBefore_49 ci_0 ?_
      refine wp_zreturn (M := mX0_isAskBefore) (pc := 50) rfl (by decide) dX0_isAskBefore_50 ?_
      first
      | exact k1 (Or.inl c12)
      | exact k0 (fun q => q.elim c12 (fun q => c27 q.1))
      | exact k0 (fun q => q.elim c12 (fun q => Int32.not_lt.mpr c42 q.2))
      | exact k1 (Or.inr ⟨c27, Int32.not_le.mp c42⟩)
    · refine wp_aload_n (M := mX0_isAskBefore) (pc := 30) dX0_isAskBefore_30 rfl ?_
      refine wp_getR (M := mX0_isAskBefore) (pc := 31) fa_X0_11 rfl dX0_isAskBefore_31 (by assumption) (by assumption) ?_
      refine wp_iload_n (M := mX0_isAskBefore) (pc := 34) dX0_isAskBefore_34 rfl ?_
      refine wr_iaload (M := mX0_isAskBefore) (pc := 35) dX0_isAskBefore_35 (by assumption) rfl hi (by decide) ?_
      refine wp_aload_n (M := mX0_isAskBefore) (pc := 36) dX0_isAskBefore_36 rfl ?_
      refine wp_getR (M := mX0_isAskBefore) (pc := 37) fa_X0_11 rfl dX0_isAskBefore_37 (by assumption) (by assumption) ?_
      refine wp_iload_n (M := mX0_isAskBefore) (pc := 40) dX0_isAskBefore_40 rfl ?_
      refine wr_iaload (M := mX0_isAskBefore) (pc := 41) dX0_isAskBefore_41 (by assumption) rfl hj (by decide) ?_
      refine wp_icmp_ge (M := mX0_isAskBefore) (pc := 42) (tgt := 49) dX0_isAskBefore_42 rfl (fun c42 => ?_) (fun c42 => ?_)
      · refine wp_iconst (M := mX0_isAskBefore) (pc := 49) (v := 0) dX0_isAskBefore_49 ci_0 ?_
        refine wp_zreturn (M := mX0_isAskBefore) (pc := 50) rfl (by decide) dX0_isAskBefore_50 ?_
        first
        | exact k1 (Or.inl c12)
        | exact k0 (fun q => q.elim c12 (fun q => c27 q.1))
        | exact k0 (fun q => q.elim c12 (fun q => Int32.not_lt.mpr c42 q.2))
        | exact k1 (Or.inr ⟨c27, Int32.not_le.mp c42⟩)
      · refine wp_iconst (M := mX0_isAskBefore) (pc := 45) (v := 1) dX0_isAskBefore_45 ci_1 ?_
        refine wp_goto (M := mX0_isAskBefore) (pc := 46) (tgt := 50) dX0_isAskBefore_46 rfl ?_
        refine wp_zreturn (M := mX0_isAskBefore) (pc := 50) rfl (by decide) dX0_isAskBefore_50 ?_
        first
        | exact k1 (Or.inl c12)
        | exact k0 (fun q => q.elim c12 (fun q => c27 q.1))
        | exact k0 (fun q => q.elim c12 (fun q => Int32.not_lt.mpr c42 q.2))
        | exact k1 (Or.inr ⟨c27, Int32.not_le.mp c42⟩)
set_option maxHeartbeats 4000000 in
set_option maxRecDepth 100000 in
theorem lp_X0_firstBidLeft {u ka pa fa la : Nat} {n : Nat} (hA : AuL h u ka pa fa la) (hc : gi h u 4 = nI n) (hn : n ≤ 13) (k : Q (.inl (some (.int (enc (fb (gi h ka) (gi h pa) (gi h la) n))))) h) : ∀ (m : Nat) (i : Nat), n - i < m → (i ≤ n) → WPx E mX0_firstBidLeft 4 [some (.ref u), some (.int (enc (fb (gi h ka) (gi h pa) (gi h la) i))), some (.int (nI i))] [] (0, 0) h Q := by
  intro m
  induction m with
  | zero => intro i hm; exact absurd hm (Nat.not_lt_zero _)
  | succ m ih =>
    intro i hm hi
    obtain ⟨hk, ⟨r0, r1, r2, r3⟩, ⟨k0, k1, k2, k3⟩, ⟨m0, m1, m2, m3⟩, m4, m5, m6, m7, m8, m9⟩ := hA
    refine wp_iload_n (M := mX0_firstBidLeft) (pc := 4) dX0_firstBidLeft_4 rfl ?_
    refine wp_aload_n (M := mX0_firstBidLeft) (pc := 5) dX0_firstBidLeft_5 rfl ?_
    refine wp_getI (M := mX0_firstBidLeft) (pc := 6) fa_X0_31 rfl dX0_firstBidLeft_6 (by assumption) ?_
    refine wp_icmp_ge (M := mX0_firstBidLeft) (pc := 9) (tgt := 57) dX0_firstBidLeft_9 rfl (fun c9 => ?_) (fun c9 => ?_)
    · rw [hc] at c9
      have hi2 := n_ge hi (by omega) c9
      subst hi2
      refine wp_iload_n (M := mX0_firstBidLeft) (pc := 57) dX0_firstBidLeft_57 rfl ?_
      refine wp_ireturn (M := mX0_firstBidLeft) (pc := 58) rfl dX0_firstBidLeft_58 ?_
      exact k
    · rw [hc] at c9
      have hlt := n_lt hi (by omega) c9
      refine wp_aload_n (M := mX0_firstBidLeft) (pc := 12) dX0_firstBidLeft_12 rfl ?_
      refine wp_getR (M := mX0_firstBidLeft) (pc := 13) fa_X0_11 rfl dX0_firstBidLeft_13 (by assumption) (by assumption) ?_
      refine wp_iload_n (M := mX0_firstBidLeft) (pc := 16) dX0_firstBidLeft_16 rfl ?_
      refine wr_iaload (M := mX0_firstBidLeft) (pc := 17) dX0_firstBidLeft_17 (by assumption) rfl (by omega) (by decide) ?_
      refine wp_if_ne (M := mX0_firstBidLeft) (pc := 18) (tgt := 51) dX0_firstBidLeft_18 rfl (fun c18 => ?_) (fun c18 => ?_)
      · refine so_iinc (M := mX0_firstBidLeft) (pc := 51) (lo' := [_, _, _]) dX0_firstBidLeft_51 rfl ci_1 (LE rfl) rfl ?_
        refine wp_goto (M := mX0_firstBidLeft) (pc := 54) (tgt := 4) dX0_firstBidLeft_54 rfl ?_
        rw [show nI i + 1 = nI (i + 1) from nI_1 i]
        have hz := ih (i + 1) (by omega) (by omega)
        first
        | (rw [fb_s1 c18] at hz; exact hz)
        | (rw [fb_s2 c27] at hz; exact hz)
        | (rw [fb_s3 hg c46] at hz; exact hz)
        | (rw [fb_t1 c18 c27 hg] at hz; exact hz)
        | (rw [fb_t2 c18 c27 hg c46] at hz; exact hz)
      · refine wp_aload_n (M := mX0_firstBidLeft) (pc := 21) dX0_firstBidLeft_21 rfl ?_
        refine wp_getR (M := mX0_firstBidLeft) (pc := 22) fa_X0_21 rfl dX0_firstBidLeft_22 (by assumption) (by assumption) ?_
        refine wp_iload_n (M := mX0_firstBidLeft) (pc := 25) dX0_firstBidLeft_25 rfl ?_
        refine wr_iaload (M := mX0_firstBidLeft) (pc := 26) dX0_firstBidLeft_26 (by assumption) rfl (by omega) (by decide) ?_
        refine wp_if_le (M := mX0_firstBidLeft) (pc := 27) (tgt := 51) dX0_firstBidLeft_27 rfl (fun c27 => ?_) (fun c27 => ?_)
        · refine so_iinc (M := mX0_firstBidLeft) (pc := 51) (lo' := [_, _, _]) dX0_firstBidLeft_51 rfl ci_1 (LE rfl) rfl ?_
          refine wp_goto (M := mX0_firstBidLeft) (pc := 54) (tgt := 4) dX0_firstBidLeft_54 rfl ?_
          rw [show nI i + 1 = nI (i + 1) from nI_1 i]
          have hz := ih (i + 1) (by omega) (by omega)
          first
          | (rw [fb_s1 c18] at hz; exact hz)
          | (rw [fb_s2 c27] at hz; exact hz)
          | (rw [fb_s3 hg c46] at hz; exact hz)
          | (rw [fb_t1 c18 c27 hg] at hz; exact hz)
          | (rw [fb_t2 c18 c27 hg c46] at hz; exact hz)
        · refine wp_iload_n (M := mX0_firstBidLeft) (pc := 30) dX0_firstBidLeft_30 rfl ?_
          refine wp_if_lt (M := mX0_firstBidLeft) (pc := 31) (tgt := 49) dX0_firstBidLeft_31 rfl (fun c31 => ?_) (fun c31 => ?_)
          · have hg := enc_neg (fun j hj => by have := fb_lt hj; omega) c31
            refine wp_iload_n (M := mX0_firstBidLeft) (pc := 49) dX0_firstBidLeft_49 rfl ?_
            refine so_istore_n (M := mX0_firstBidLeft) (pc := 50) (lo' := [_, _, _]) dX0_firstBidLeft_50 (LE rfl) (LE rfl) (Or.inr rfl) rfl ?_
            refine so_iinc (M := mX0_firstBidLeft) (pc := 51) (lo' := [_, _, _]) dX0_firstBidLeft_51 rfl ci_1 (LE rfl) rfl ?_
            refine wp_goto (M := mX0_firstBidLeft) (pc := 54) (tgt := 4) dX0_firstBidLeft_54 rfl ?_
            rw [show nI i + 1 = nI (i + 1) from nI_1 i]
            have hz := ih (i + 1) (by omega) (by omega)
            first
            | (rw [fb_s1 c18] at hz; exact hz)
            | (rw [fb_s2 c27] at hz; exact hz)
            | (rw [fb_s3 hg c46] at hz; exact hz)
            | (rw [fb_t1 c18 c27 hg] at hz; exact hz)
            | (rw [fb_t2 c18 c27 hg c46] at hz; exact hz)
          · obtain ⟨g, hg⟩ := enc_pos c31
            have hgl := fb_lt hg
            rw [hg]
            refine wp_aload_n (M := mX0_firstBidLeft) (pc := 34) dX0_firstBidLeft_34 rfl ?_
            refine wp_getR (M := mX0_firstBidLeft) (pc := 35) fa_X0_15 rfl dX0_firstBidLeft_35 (by assumption) (by assumption) ?_
            refine wp_iload_n (M := mX0_firstBidLeft) (pc := 38) dX0_firstBidLeft_38 rfl ?_
            refine wr_iaload (M := mX0_firstBidLeft) (pc := 39) dX0_firstBidLeft_39 (by assumption) rfl (by omega) (by decide) ?_
            refine wp_aload_n (M := mX0_firstBidLeft) (pc := 40) dX0_firstBidLeft_40 rfl ?_
            refine wp_getR (M := mX0_firstBidLeft) (pc := 41) fa_X0_15 rfl dX0_firstBidLeft_41 (by assumption) (by assumption) ?_
            refine wp_iload_n (M := mX0_firstBidLeft) (pc := 44) dX0_firstBidLeft_44 rfl ?_
            refine wr_iaload (M := mX0_firstBidLeft) (pc := 45) dX0_firstBidLeft_45 (by assumption) rfl (by omega) (by decide) ?_
            refine wp_icmp_le (M := mX0_firstBidLeft) (pc := 46) (tgt := 51) dX0_firstBidLeft_46 rfl (fun c46 => ?_) (fun c46 => ?_)
            · refine so_iinc (M := mX0_firstBidLeft) (pc := 51) (lo' := [_, _, _]) dX0_firstBidLeft_51 rfl ci_1 (LE rfl) rfl ?_
              refine wp_goto (M := mX0_firstBidLeft) (pc := 54) (tgt := 4) dX0_firstBidLeft_54 rfl ?_
              rw [show nI i + 1 = nI (i + 1) from nI_1 i]
              have hz := ih (i + 1) (by omega) (by omega)
              first
              | (rw [fb_s1 c18] at hz; exact hz)
              | (rw [fb_s2 c27] at hz; exact hz)
              | (rw [fb_s3 hg c46] at hz; exact hz)
              | (rw [fb_t1 c18 c27 hg] at hz; exact hz)
              | (rw [fb_t2 c18 c27 hg c46] at hz; exact hz)
            · refine wp_iload_n (M := mX0_firstBidLeft) (pc := 49) dX0_firstBidLeft_49 rfl ?_
              refine so_istore_n (M := mX0_firstBidLeft) (pc := 50) (lo' := [_, _, _]) dX0_firstBidLeft_50 (LE rfl) (LE rfl) (Or.inr rfl) rfl ?_
              refine so_iinc (M := mX0_firstBidLeft) (pc := 51) (lo' := [_, _, _]) dX0_firstBidLeft_51 rfl ci_1 (LE rfl) rfl ?_
              refine wp_goto (M := mX0_firstBidLeft) (pc := 54) (tgt := 4) dX0_firstBidLeft_54 rfl ?_
              rw [show nI i + 1 = nI (i + 1) from nI_1 i]
              have hz := ih (i + 1) (by omega) (by omega)
              first
              | (rw [fb_s1 c18] at hz; exact hz)
              | (rw [fb_s2 c27] at hz; exact hz)
              | (rw [fb_s3 hg c46] at hz; exact hz)
              | (rw [fb_t1 c18 c27 hg] at hz; exact hz)
              | (rw [fb_t2 c18 c27 hg c46] at hz; exact hz)
set_option maxHeartbeats 4000000 in
set_option maxRecDepth 100000 in
theorem sp_X0_firstBidLeft {u ka pa fa la : Nat} {n : Nat} (hA : AuL h u ka pa fa la) (hc : gi h u 4 = nI n) (hn : n ≤ 13) (k : Q (.inl (some (.int (enc (fb (gi h ka) (gi h pa) (gi h la) n))))) h) : WPx E mX0_firstBidLeft 0 [some (.ref u), none, none] [] (0, 0) h Q := by
  refine wp_iconst (M := mX0_firstBidLeft) (pc := 0) (v := -1) dX0_firstBidLeft_0 ci_m1 ?_
  refine so_istore_n (M := mX0_firstBidLeft) (pc := 1) (lo' := [_, _, _]) dX0_firstBidLeft_1 (LE rfl) (LE rfl) (Or.inr rfl) rfl ?_
  refine wp_iconst (M := mX0_firstBidLeft) (pc := 2) (v := 0) dX0_firstBidLeft_2 ci_0 ?_
  refine so_istore_n (M := mX0_firstBidLeft) (pc := 3) (lo' := [_, _, _]) dX0_firstBidLeft_3 (LE rfl) (LE rfl) (Or.inr rfl) rfl ?_
  exact lp_X0_firstBidLeft hA hc hn k (n + 1) 0 (by omega) (by omega)
set_option maxHeartbeats 4000000 in
set_option maxRecDepth 100000 in
theorem lp_X0_firstAskLeft {u ka pa fa la : Nat} {n : Nat} (hA : AuL h u ka pa fa la) (hc : gi h u 4 = nI n) (hn : n ≤ 13) (k : Q (.inl (some (.int (enc (fk (gi h ka) (gi h pa) (gi h la) n))))) h) : ∀ (m : Nat) (i : Nat), n - i < m → (i ≤ n) → WPx E mX0_firstAskLeft 4 [some (.ref u), some (.int (enc (fk (gi h ka) (gi h pa) (gi h la) i))), some (.int (nI i))] [] (0, 0) h Q := by
  intro m
  induction m with
  | zero => intro i hm; exact absurd hm (Nat.not_lt_zero _)
  | succ m ih =>
    intro i hm hi
    have hA2 := hA
    obtain ⟨hk, ⟨r0, r1, r2, r3⟩, ⟨k0, k1, k2, k3⟩, ⟨m0, m1, m2, m3⟩, m4, m5, m6, m7, m8, m9⟩ := hA
    refine wp_iload_n (M := mX0_firstAskLeft) (pc := 4) dX0_firstAskLeft_4 rfl ?_
    refine wp_aload_n (M := mX0_firstAskLeft) (pc := 5) dX0_firstAskLeft_5 rfl ?_
    refine wp_getI (M := mX0_firstAskLeft) (pc := 6) fa_X0_31 rfl dX0_firstAskLeft_6 (by assumption) ?_
    refine wp_icmp_ge (M := mX0_firstAskLeft) (pc := 9) (tgt := 51) dX0_firstAskLeft_9 rfl (fun c9 => ?_) (fun c9 => ?_)
    · rw [hc] at c9
      have hi2 := n_ge hi (by omega) c9
      subst hi2
      refine wp_iload_n (M := mX0_firstAskLeft) (pc := 51) dX0_firstAskLeft_51 rfl ?_
      refine wp_ireturn (M := mX0_firstAskLeft) (pc := 52) rfl dX0_firstAskLeft_52 ?_
      exact k
    · rw [hc] at c9
      have hlt := n_lt hi (by omega) c9
      refine wp_aload_n (M := mX0_firstAskLeft) (pc := 12) dX0_firstAskLeft_12 rfl ?_
      refine wp_getR (M := mX0_firstAskLeft) (pc := 13) fa_X0_11 rfl dX0_firstAskLeft_13 (by assumption) (by assumption) ?_
      refine wp_iload_n (M := mX0_firstAskLeft) (pc := 16) dX0_firstAskLeft_16 rfl ?_
      refine wr_iaload (M := mX0_firstAskLeft) (pc := 17) dX0_firstAskLeft_17 (by assumption) rfl (by omega) (by decide) ?_
      refine wp_if_eq (M := mX0_firstAskLeft) (pc := 18) (tgt := 45) dX0_firstAskLeft_18 rfl (fun c18 => ?_) (fun c18 => ?_)
      · refine so_iinc (M := mX0_firstAskLeft) (pc := 45) (lo' := [_, _, _]) dX0_firstAskLeft_45 rfl ci_1 (LE rfl) rfl ?_
        refine wp_goto (M := mX0_firstAskLeft) (pc := 48) (tgt := 4) dX0_firstAskLeft_48 rfl ?_
        rw [show nI i + 1 = nI (i + 1) from nI_1 i]
        have hz := ih (i + 1) (by omega) (by omega)
        first
        | (rw [fk_s1 c18] at hz; exact hz)
        | (rw [fk_s2 c27] at hz; exact hz)
        | (rw [fk_t1 c18 c27 hg] at hz; exact hz)
      · refine wp_aload_n (M := mX0_firstAskLeft) (pc := 21) dX0_firstAskLeft_21 rfl ?_
        refine wp_getR (M := mX0_firstAskLeft) (pc := 22) fa_X0_21 rfl dX0_firstAskLeft_22 (by assumption) (by assumption) ?_
        refine wp_iload_n (M := mX0_firstAskLeft) (pc := 25) dX0_firstAskLeft_25 rfl ?_
        refine wr_iaload (M := mX0_firstAskLeft) (pc := 26) dX0_firstAskLeft_26 (by assumption) rfl (by omega) (by decide) ?_
        refine wp_if_le (M := mX0_firstAskLeft) (pc := 27) (tgt := 45) dX0_firstAskLeft_27 rfl (fun c27 => ?_) (fun c27 => ?_)
        · refine so_iinc (M := mX0_firstAskLeft) (pc := 45) (lo' := [_, _, _]) dX0_firstAskLeft_45 rfl ci_1 (LE rfl) rfl ?_
          refine wp_goto (M := mX0_firstAskLeft) (pc := 48) (tgt := 4) dX0_firstAskLeft_48 rfl ?_
          rw [show nI i + 1 = nI (i + 1) from nI_1 i]
          have hz := ih (i + 1) (by omega) (by omega)
          first
          | (rw [fk_s1 c18] at hz; exact hz)
          | (rw [fk_s2 c27] at hz; exact hz)
          | (rw [fk_t1 c18 c27 hg] at hz; exact hz)
        · refine wp_iload_n (M := mX0_firstAskLeft) (pc := 30) dX0_firstAskLeft_30 rfl ?_
          refine wp_if_lt (M := mX0_firstAskLeft) (pc := 31) (tgt := 43) dX0_firstAskLeft_31 rfl (fun c31 => ?_) (fun c31 => ?_)
          · have hg := enc_neg (fun j hj => by have := fk_lt hj; omega) c31
            refine wp_iload_n (M := mX0_firstAskLeft) (pc := 43) dX0_firstAskLeft_43 rfl ?_
            refine so_istore_n (M := mX0_firstAskLeft) (pc := 44) (lo' := [_, _, _]) dX0_firstAskLeft_44 (LE rfl) (LE rfl) (Or.inr rfl) rfl ?_
            refine so_iinc (M := mX0_firstAskLeft) (pc := 45) (lo' := [_, _, _]) dX0_firstAskLeft_45 rfl ci_1 (LE rfl) rfl ?_
            refine wp_goto (M := mX0_firstAskLeft) (pc := 48) (tgt := 4) dX0_firstAskLeft_48 rfl ?_
            rw [show nI i + 1 = nI (i + 1) from nI_1 i]
            have hz := ih (i + 1) (by omega) (by omega)
            first
            | (rw [fk_s1 c18] at hz; exact hz)
            | (rw [fk_s2 c27] at hz; exact hz)
            | (rw [fk_t1 c18 c27 hg] at hz; exact hz)
          · obtain ⟨g, hg⟩ := enc_pos c31
            have hgl := fk_lt hg
            rw [hg]
            refine wp_aload_n (M := mX0_firstAskLeft) (pc := 34) dX0_firstAskLeft_34 rfl ?_
            refine wp_iload_n (M := mX0_firstAskLeft) (pc := 35) dX0_firstAskLeft_35 rfl ?_
            refine wp_iload_n (M := mX0_firstAskLeft) (pc := 36) dX0_firstAskLeft_36 rfl ?_
            refine so_V2 (M := mX0_firstAskLeft) (pc := 37) cs_X0_firstAskLeft_86 rfl rfl (LE rfl) (LE rfl) dX0_firstAskLeft_37 (by assumption) ?_
            refine sp_X0_isAskBefore hA2 (by omega) (by omega) (fun a9 => ?_) (fun a9 => ?_)
            · refine kI ?_
              refine wp_if_eq (M := mX0_firstAskLeft) (pc := 40) (tgt := 45) dX0_firstAskLeft_40 rfl (fun c40 => absurd c40 (by decide)) (fun c40 => ?_)
              refine wp_iload_n (M := mX0_firstAskLeft) (pc := 43) dX0_firstAskLeft_43 rfl ?_
              refine so_istore_n (M := mX0_firstAskLeft) (pc := 44) (lo' := [_, _, _]) dX0_firstAskLeft_44 (LE rfl) (LE rfl) (Or.inr rfl) rfl ?_
              refine so_iinc (M := mX0_firstAskLeft) (pc := 45) (lo' := [_, _, _]) dX0_firstAskLeft_45 rfl ci_1 (LE rfl) rfl ?_
              refine wp_goto (M := mX0_firstAskLeft) (pc := 48) (tgt := 4) dX0_firstAskLeft_48 rfl ?_
              rw [show nI i + 1 = nI (i + 1) from nI_1 i]
              have hz := ih (i + 1) (by omega) (by omega)
              rw [fk_t2 c18 c27 hg a9] at hz; exact hz
            · refine kI ?_
              refine wp_if_eq (M := mX0_firstAskLeft) (pc := 40) (tgt := 45) dX0_firstAskLeft_40 rfl (fun c40 => ?_) (fun c40 => absurd rfl c40)
              refine so_iinc (M := mX0_firstAskLeft) (pc := 45) (lo' := [_, _, _]) dX0_firstAskLeft_45 rfl ci_1 (LE rfl) rfl ?_
              refine wp_goto (M := mX0_firstAskLeft) (pc := 48) (tgt := 4) dX0_firstAskLeft_48 rfl ?_
              rw [show nI i + 1 = nI (i + 1) from nI_1 i]
              have hz := ih (i + 1) (by omega) (by omega)
              rw [fk_s3 hg a9] at hz; exact hz
set_option maxHeartbeats 4000000 in
set_option maxRecDepth 100000 in
theorem sp_X0_firstAskLeft {u ka pa fa la : Nat} {n : Nat} (hA : AuL h u ka pa fa la) (hc : gi h u 4 = nI n) (hn : n ≤ 13) (k : Q (.inl (some (.int (enc (fk (gi h ka) (gi h pa) (gi h la) n))))) h) : WPx E mX0_firstAskLeft 0 [some (.ref u), none, none] [] (0, 0) h Q := by
  refine wp_iconst (M := mX0_firstAskLeft) (pc := 0) (v := -1) dX0_firstAskLeft_0 ci_m1 ?_
  refine so_istore_n (M := mX0_firstAskLeft) (pc := 1) (lo' := [_, _, _]) dX0_firstAskLeft_1 (LE rfl) (LE rfl) (Or.inr rfl) rfl ?_
  refine wp_iconst (M := mX0_firstAskLeft) (pc := 2) (v := 0) dX0_firstAskLeft_2 ci_0 ?_
  refine so_istore_n (M := mX0_firstAskLeft) (pc := 3) (lo' := [_, _, _]) dX0_firstAskLeft_3 (LE rfl) (LE rfl) (Or.inr rfl) rfl ?_
  exact lp_X0_firstAskLeft hA hc hn k (n + 1) 0 (by omega) (by omega)
theorem ph_ext {h1 h2 : PH} (h0 : h1.1 = h2.1) (h3 : h1.2.2 = h2.2.2) (hg : ∀ x, gi h1 x = gi h2 x) : h1 = h2 := by
  obtain ⟨a, b, c⟩ := h1
  obtain ⟨a', b', c'⟩ := h2
  have hb : b = b' := funext hg
  simp only at h0 h3
  rw [h0, h3, hb]
/-- the matching's state: fills, what is left, volume, price, surplus -/
abbrev MS : Type := (Nat → Int32) × (Nat → Int32) × Int32 × Int32 × Int32
def mnext (ps : Nat → Int32) (s : MS) (b a : Nat) : MS :=
  (upd (upd s.1 b (s.1 b + imin (s.2.1 b) (s.2.1 a))) a (upd s.1 b (s.1 b + imin (s.2.1 b) (s.2.1 a)) a + imin (s.2.1 b) (s.2.1 a)),
   upd (upd s.2.1 b (s.2.1 b - imin (s.2.1 b) (s.2.1 a))) a (upd s.2.1 b (s.2.1 b - imin (s.2.1 b) (s.2.1 a)) a - imin (s.2.1 b) (s.2.1 a)),
   s.2.2.1 + imin (s.2.1 b) (s.2.1 a), (ps b + ps a) / 2, s.2.2.2.2 + (ps b - ps a) * imin (s.2.1 b) (s.2.1 a))
def mstep (n : Nat) (ks ps : Nat → Int32) (s : MS) : Option MS := match fb ks ps s.2.1 n, fk ks ps s.2.1 n with
  | some b, some a => if ps a ≤ ps b then some (mnext ps s b a) else none
  | _, _ => none
def mrun (n : Nat) (ks ps : Nat → Int32) : Nat → MS → MS
  | 0, s => s
  | k + 1, s => match mstep n ks ps s with
    | none => s
    | some s' => mrun n ks ps k s'
theorem mrun_stop {n : Nat} {ks ps : Nat → Int32} {s : MS} (h : mstep n ks ps s = none) (k : Nat) : mrun n ks ps k s = s := by
  cases k with
  | zero => rfl
  | succ k => rw [mrun, h]
theorem mrun_go {n : Nat} {ks ps : Nat → Int32} {s s' : MS} (h : mstep n ks ps s = some s') (k : Nat) : mrun n ks ps (k + 1) s = mrun n ks ps k s' := by rw [mrun, h]
/-- the heap of an auction in this state -/
def auH (h : PH) (u fa la : Nat) (s : MS) : PH := sw (sw (sw h fa s.1) la s.2.1) u (upd (upd (upd (gi h u) 5 s.2.2.1) 6 s.2.2.2.1) 7 s.2.2.2.2)
theorem auH_u (h : PH) (u fa la : Nat) (s : MS) : gi (auH h u fa la s) u = upd (upd (upd (gi h u) 5 s.2.2.1) 6 s.2.2.2.1) 7 s.2.2.2.2 := by unfold auH; rw [gi_sw_at]
theorem auH_fa (h : PH) {u fa la : Nat} (s : MS) (m2 : fa ≠ u) (m9 : fa ≠ la) : gi (auH h u fa la s) fa = s.1 := by unfold auH; rw [gi_sw_ne _ _ m2, gi_sw_ne _ _ m9, gi_sw_at]
theorem auH_la (h : PH) {u fa la : Nat} (s : MS) (m3 : la ≠ u) : gi (auH h u fa la s) la = s.2.1 := by unfold auH; rw [gi_sw_ne _ _ m3, gi_sw_at]
theorem auH_ne (h : PH) {u fa la x : Nat} (s : MS) (h1 : x ≠ u) (h2 : x ≠ fa) (h3 : x ≠ la) : gi (auH h u fa la s) x = gi h x := by unfold auH; rw [gi_sw_ne _ _ h1, gi_sw_ne _ _ h3, gi_sw_ne _ _ h2]
set_option maxHeartbeats 4000000 in
set_option maxRecDepth 100000 in
theorem lp_X0_match {u ka pa fa la : Nat} {n : Nat} (hA : AuL h u ka pa fa la) (hc : gi h u 4 = nI n) (hn : n ≤ 13) : ∀ (m : Nat) (j : Nat) (s : MS) (x2 : Option Value) (x3 : Option Value) (x4 : Option Value), 13 - j < m → (j ≤ 13) → (Q (.inl none) (auH h u fa la (mrun n (gi h ka) (gi h pa) (13 - j) s))) → WPx E mX0_match 18 [some (.ref u), some (.int (nI j)), x2, x3, x4] [] (0, 0) (auH h u fa la s) Q := by
  intro m
  induction m with
  | zero => intro j s x2 x3 x4 hm; exact absurd hm (Nat.not_lt_zero _)
  | succ m ih =>
    intro j s x2 x3 x4 hm hj k
    have hA2 : AuL (auH h u fa la s) u ka pa fa la := hA
    obtain ⟨hk, ⟨r0, r1, r2, r3⟩, ⟨g0, g1, g2, g3⟩, ⟨m0, m1, m2, m3⟩, m4, m5, m6, m7, m8, m9⟩ := hA
    have eK : gi (auH h u fa la s) ka = gi h ka := by unfold auH; rw [gi_sw_ne _ _ m0, gi_sw_ne _ _ m6.symm, gi_sw_ne _ _ m5.symm]
    have eP : gi (auH h u fa la s) pa = gi h pa := by unfold auH; rw [gi_sw_ne _ _ m1, gi_sw_ne _ _ m8.symm, gi_sw_ne _ _ m7.symm]
    have eF : gi (auH h u fa la s) fa = s.1 := by unfold auH; rw [gi_sw_ne _ _ m2, gi_sw_ne _ _ m9.symm, gi_sw_at]
    have eL : gi (auH h u fa la s) la = s.2.1 := by unfold auH; rw [gi_sw_ne _ _ m3, gi_sw_at]
    have eU : gi (auH h u fa la s) u = upd (upd (upd (gi h u) 5 s.2.2.1) 6 s.2.2.2.1) 7 s.2.2.2.2 := by unfold auH; rw [gi_sw_at]
    have hc2 : gi (auH h u fa la s) u 4 = nI n := by rw [eU, upd_ne _ _ (by decide), upd_ne _ _ (by decide), upd_ne _ _ (by decide), hc]
    refine wp_iload_n (M := mX0_match) (pc := 18) dX0_match_18 rfl ?_
    refine wp_bipush (M := mX0_match) (pc := 19) (v := 13) dX0_match_19 cb_13 ?_
    refine wp_icmp_ge (M := mX0_match) (pc := 21) (tgt := 150) dX0_match_21 rfl (fun c21 => ?_) (fun c21 => ?_)
    · have hj2 := n_ge (n := 13) hj (by decide) c21
      subst hj2
      refine wp_return (M := mX0_match) (pc := 150) rfl dX0_match_150 ?_
      exact k
    · have hlt := n_lt (n := 13) hj (by decide) c21
      refine wp_aload_n (M := mX0_match) (pc := 24) dX0_match_24 rfl ?_
      refine so_V0 (M := mX0_match) (pc := 25) cs_X0_match_69 rfl rfl (LE rfl) (LE rfl) dX0_match_25 (by assumption) ?_
      refine sp_X0_firstBidLeft hA2 hc2 hn ?_
      refine kI ?_
      refine so_istore_n (M := mX0_match) (pc := 28) (lo' := [_, _, _, _, _]) dX0_match_28 (LE rfl) (LE rfl) (Or.inr rfl) rfl ?_
      refine wp_aload_n (M := mX0_match) (pc := 29) dX0_match_29 rfl ?_
      refine so_V0 (M := mX0_match) (pc := 30) cs_X0_match_73 rfl rfl (LE rfl) (LE rfl) dX0_match_30 (by assumption) ?_
      refine sp_X0_firstAskLeft hA2 hc2 hn ?_
      refine kI ?_
      refine so_istore_n (M := mX0_match) (pc := 33) (lo' := [_, _, _, _, _]) dX0_match_33 (LE rfl) (LE rfl) (Or.inr rfl) rfl ?_
      refine wp_iload_n (M := mX0_match) (pc := 34) dX0_match_34 rfl ?_
      refine wp_if_lt (M := mX0_match) (pc := 35) (tgt := 57) dX0_match_35 rfl (fun c35 => ?_) (fun c35 => ?_)
      · rw [eK, eP, eL] at c35
        have hb := enc_neg (fun j hj => by have := fb_lt hj; omega) c35
        refine wp_return (M := mX0_match) (pc := 57) rfl dX0_match_57 ?_
        first
        | (have hst : mstep n (gi h ka) (gi h pa) s = none := by unfold mstep; rw [hb])
        | (have hst : mstep n (gi h ka) (gi h pa) s = none := by unfold mstep; rw [hb, ha])
        | (have hst : mstep n (gi h ka) (gi h pa) s = none := by unfold mstep; rw [hb, ha]; exact if_neg c54)
        rw [mrun_stop hst] at k
        exact k
      · rw [eK, eP, eL] at c35 ⊢
        obtain ⟨b, hb⟩ := enc_pos c35
        have hb13 : b < 13 := by have := fb_lt hb; omega
        rw [hb]
        refine wp_iload_n (M := mX0_match) (pc := 38) dX0_match_38 rfl ?_
        refine wp_if_lt (M := mX0_match) (pc := 39) (tgt := 57) dX0_match_39 rfl (fun c39 => ?_) (fun c39 => ?_)
        · have ha := enc_neg (fun j hj => by have := fk_lt hj; omega) c39
          refine wp_return (M := mX0_match) (pc := 57) rfl dX0_match_57 ?_
          first
          | (have hst : mstep n (gi h ka) (gi h pa) s = none := by unfold mstep; rw [hb])
          | (have hst : mstep n (gi h ka) (gi h pa) s = none := by unfold mstep; rw [hb, ha])
          | (have hst : mstep n (gi h ka) (gi h pa) s = none := by unfold mstep; rw [hb, ha]; exact if_neg c54)
          rw [mrun_stop hst] at k
          exact k
        · obtain ⟨a, ha⟩ := enc_pos c39
          have ha13 : a < 13 := by have := fk_lt ha; omega
          rw [ha]
          refine wp_aload_n (M := mX0_match) (pc := 42) dX0_match_42 rfl ?_
          refine wp_getR (M := mX0_match) (pc := 43) fa_X0_15 rfl dX0_match_43 (by assumption) (by assumption) ?_
          refine wp_iload_n (M := mX0_match) (pc := 46) dX0_match_46 rfl ?_
          refine wr_iaload (M := mX0_match) (pc := 47) dX0_match_47 (by assumption) rfl hb13 (by decide) ?_
          refine wp_aload_n (M := mX0_match) (pc := 48) dX0_match_48 rfl ?_
          refine wp_getR (M := mX0_match) (pc := 49) fa_X0_15 rfl dX0_match_49 (by assumption) (by assumption) ?_
          refine wp_iload_n (M := mX0_match) (pc := 52) dX0_match_52 rfl ?_
          refine wr_iaload (M := mX0_match) (pc := 53) dX0_match_53 (by assumption) rfl ha13 (by decide) ?_
          refine wp_icmp_ge (M := mX0_match) (pc := 54) (tgt := 58) dX0_match_54 rfl (fun c54 => ?_) (fun c54 => ?_)
          · rw [eP] at c54
            have hst : mstep n (gi h ka) (gi h pa) s = some (mnext (gi h pa) s b a) := by unfold mstep; rw [hb, ha]; exact if_pos c54
            refine wp_aload_n (M := mX0_match) (pc := 58) dX0_match_58 rfl ?_
            refine wp_getR (M := mX0_match) (pc := 59) fa_X0_21 rfl dX0_match_59 (by assumption) (by assumption) ?_
            refine wp_iload_n (M := mX0_match) (pc := 62) dX0_match_62 rfl ?_
            refine wr_iaload (M := mX0_match) (pc := 63) dX0_match_63 (by assumption) rfl hb13 (by decide) ?_
            refine wp_aload_n (M := mX0_match) (pc := 64) dX0_match_64 rfl ?_
            refine wp_getR (M := mX0_match) (pc := 65) fa_X0_21 rfl dX0_match_65 (by assumption) (by assumption) ?_
            refine wp_iload_n (M := mX0_match) (pc := 68) dX0_match_68 rfl ?_
            refine wr_iaload (M := mX0_match) (pc := 69) dX0_match_69 (by assumption) rfl ha13 (by decide) ?_
            refine so_S2 (M := mX0_match) (pc := 70) cs_X0_match_76 rfl rfl (LE rfl) (LE rfl) dX0_match_70 ?_
            refine sp_J9_min_7cf53 ?_
            refine kI ?_
            refine so_istore (M := mX0_match) (pc := 73) (lo' := [_, _, _, _, _]) dX0_match_73 (LE rfl) (LE rfl) (Or.inr rfl) rfl ?_
            refine wp_aload_n (M := mX0_match) (pc := 75) dX0_match_75 rfl ?_
            refine wp_iload_n (M := mX0_match) (pc := 76) dX0_match_76 rfl ?_
            refine wp_iload (M := mX0_match) (pc := 77) dX0_match_77 rfl ?_
            refine so_V2 (M := mX0_match) (pc := 79) cs_X0_match_82 rfl rfl (LE rfl) (LE rfl) dX0_match_79 (by assumption) ?_
            refine sp_X0_fill hA2 hb13 ?_
            refine kV ?_
            refine wp_aload_n (M := mX0_match) (pc := 82) dX0_match_82 rfl ?_
            refine wp_iload_n (M := mX0_match) (pc := 83) dX0_match_83 rfl ?_
            refine wp_iload (M := mX0_match) (pc := 84) dX0_match_84 rfl ?_
            refine so_V2 (M := mX0_match) (pc := 86) cs_X0_match_82 rfl rfl (LE rfl) (LE rfl) dX0_match_86 (by assumption) ?_
            refine sp_X0_fill (h := si (si (auH h u fa la s) fa b _) la b _) hA2 ha13 ?_
            refine kV ?_
            refine wp_aload_n (M := mX0_match) (pc := 89) dX0_match_89 rfl ?_
            refine wp_dup (M := mX0_match) (pc := 90) dX0_match_90 rfl ?_
            refine wp_getI (M := mX0_match) (pc := 91) fa_X0_62 rfl dX0_match_91 (by assumption) ?_
            refine wp_iload (M := mX0_match) (pc := 94) dX0_match_94 rfl ?_
            refine wp_iadd (M := mX0_match) (pc := 96) dX0_match_96 ?_
            refine wp_putI (M := mX0_match) (pc := 97) fa_X0_62 (Or.inl rfl) dX0_match_97 (by assumption) ?_
            refine wp_aload_n (M := mX0_match) (pc := 100) dX0_match_100 rfl ?_
            refine wp_aload_n (M := mX0_match) (pc := 101) dX0_match_101 rfl ?_
            refine wp_getR (M := mX0_match) (pc := 102) fa_X0_15 rfl dX0_match_102 (by assumption) (by assumption) ?_
            refine wp_iload_n (M := mX0_match) (pc := 105) dX0_match_105 rfl ?_
            refine wr_iaload (M := mX0_match) (pc := 106) dX0_match_106 (by assumption) rfl hb13 (by decide) ?_
            refine wp_aload_n (M := mX0_match) (pc := 107) dX0_match_107 rfl ?_
            refine wp_getR (M := mX0_match) (pc := 108) fa_X0_15 rfl dX0_match_108 (by assumption) (by assumption) ?_
            refine wp_iload_n (M := mX0_match) (pc := 111) dX0_match_111 rfl ?_
            refine wr_iaload (M := mX0_match) (pc := 112) dX0_match_112 (by assumption) rfl ha13 (by decide) ?_
            refine wp_iadd (M := mX0_match) (pc := 113) dX0_match_113 ?_
            refine wp_iconst (M := mX0_match) (pc := 114) (v := 2) dX0_match_114 ci_2 ?_
            refine wp_idiv (M := mX0_match) (pc := 115) dX0_match_115 (by decide) ?_
            refine wp_putI (M := mX0_match) (pc := 116) fa_X0_65 (Or.inl rfl) dX0_match_116 (by assumption) ?_
            refine wp_aload_n (M := mX0_match) (pc := 119) dX0_match_119 rfl ?_
            refine wp_dup (M := mX0_match) (pc := 120) dX0_match_120 rfl ?_
            refine wp_getI (M := mX0_match) (pc := 121) fa_X0_66 rfl dX0_match_121 (by assumption) ?_
            refine wp_aload_n (M := mX0_match) (pc := 124) dX0_match_124 rfl ?_
            refine wp_getR (M := mX0_match) (pc := 125) fa_X0_15 rfl dX0_match_125 (by assumption) (by assumption) ?_
            refine wp_iload_n (M := mX0_match) (pc := 128) dX0_match_128 rfl ?_
            refine wr_iaload (M := mX0_match) (pc := 129) dX0_match_129 (by assumption) rfl hb13 (by decide) ?_
            refine wp_aload_n (M := mX0_match) (pc := 130) dX0_match_130 rfl ?_
            refine wp_getR (M := mX0_match) (pc := 131) fa_X0_15 rfl dX0_match_131 (by assumption) (by assumption) ?_
            refine wp_iload_n (M := mX0_match) (pc := 134) dX0_match_134 rfl ?_
            refine wr_iaload (M := mX0_match) (pc := 135) dX0_match_135 (by assumption) rfl ha13 (by decide) ?_
            refine wp_isub (M := mX0_match) (pc := 136) dX0_match_136 ?_
            refine wp_iload (M := mX0_match) (pc := 137) dX0_match_137 rfl ?_
            refine wp_imul (M := mX0_match) (pc := 139) dX0_match_139 ?_
            refine wp_iadd (M := mX0_match) (pc := 140) dX0_match_140 ?_
            refine wp_putI (M := mX0_match) (pc := 141) fa_X0_66 (Or.inl rfl) dX0_match_141 (by assumption) ?_
            refine so_iinc (M := mX0_match) (pc := 144) (lo' := [_, _, _, _, _]) dX0_match_144 rfl ci_1 (LE rfl) rfl ?_
            refine wp_goto (M := mX0_match) (pc := 147) (tgt := 18) dX0_match_147 rfl ?_
            rw [show nI j + 1 = nI (j + 1) from nI_1 j]
            have e13 : 13 - j = (13 - (j + 1)) + 1 := by omega
            rw [e13, mrun_go hst] at k
            refine wp_h (M := mX0_match) (pc := 18) (h' := auH h u fa la (mnext (gi h pa) s b a)) (ph_ext rfl rfl (fun x => ?_)) (ih (j + 1) _ _ _ _ (by omega) (by omega) k)
            have w1 := m0.symm
            have w2 := m1.symm
            have w3 := m2.symm
            have w4 := m3.symm
            have w5 := m9.symm
            by_cases hu : x = u
            · subst hu
              simp only [gi_si_at, gi_si_ne _ _ _ w3, gi_si_ne _ _ _ w4, gi_si_ne _ _ _ m1, gi_si_ne _ _ _ m2, gi_si_ne _ _ _ m3, gi_si_ne _ _ _ m7.symm, gi_si_ne _ _ _ m8.symm, auH_u, eP, eL, mnext]
              funext y
              by_cases y5 : y = 5
              · subst y5; simp [upd]
              · by_cases y6 : y = 6
                · subst y6; simp [upd]
                · by_cases y7 : y = 7
                  · subst y7; simp [upd]
                  · simp [upd, y5, y6, y7]
            · by_cases hf : x = fa
              · subst hf
                simp only [gi_si_ne _ _ _ hu, gi_si_at, gi_si_ne _ _ _ w5, gi_si_ne _ _ _ m9, auH_fa _ _ hu w5, eL, mnext]
              · by_cases hl : x = la
                · subst hl
                  simp only [gi_si_ne _ _ _ hu, gi_si_at, gi_si_ne _ _ _ hf, auH_la _ _ hu, mnext]
                · simp only [gi_si_ne _ _ _ hu, gi_si_ne _ _ _ hf, gi_si_ne _ _ _ hl, auH_ne _ _ hu hf hl]
          · rw [eP] at c54
            refine wp_return (M := mX0_match) (pc := 57) rfl dX0_match_57 ?_
            first
            | (have hst : mstep n (gi h ka) (gi h pa) s = none := by unfold mstep; rw [hb])
            | (have hst : mstep n (gi h ka) (gi h pa) s = none := by unfold mstep; rw [hb, ha])
            | (have hst : mstep n (gi h ka) (gi h pa) s = none := by unfold mstep; rw [hb, ha]; exact if_neg c54)
            rw [mrun_stop hst] at k
            exact k
set_option maxHeartbeats 4000000 in
set_option maxRecDepth 100000 in
theorem sp_X0_match {u ka pa fa la : Nat} {n : Nat} (hA : AuL h u ka pa fa la) (hc : gi h u 4 = nI n) (hn : n ≤ 13) (k : Q (.inl none) (auH h u fa la (mrun n (gi h ka) (gi h pa) 13 (gi h fa, gi h la, 0, -9, 0)))) : WPx E mX0_match 0 [some (.ref u), none, none, none, none] [] (0, 0) h Q := by
  refine wp_aload_n (M := mX0_match) (pc := 0) dX0_match_0 rfl ?_
  refine wp_iconst (M := mX0_match) (pc := 1) (v := 0) dX0_match_1 ci_0 ?_
  refine wp_putI (M := mX0_match) (pc := 2) fa_X0_62 (Or.inl rfl) dX0_match_2 hA.1 ?_
  refine wp_aload_n (M := mX0_match) (pc := 5) dX0_match_5 rfl ?_
  refine wp_bipush (M := mX0_match) (pc := 6) (v := -9) dX0_match_6 cb_m9 ?_
  refine wp_putI (M := mX0_match) (pc := 8) fa_X0_65 (Or.inl rfl) dX0_match_8 hA.1 ?_
  refine wp_aload_n (M := mX0_match) (pc := 11) dX0_match_11 rfl ?_
  refine wp_iconst (M := mX0_match) (pc := 12) (v := 0) dX0_match_12 ci_0 ?_
  refine wp_putI (M := mX0_match) (pc := 13) fa_X0_66 (Or.inl rfl) dX0_match_13 hA.1 ?_
  refine wp_iconst (M := mX0_match) (pc := 16) (v := 0) dX0_match_16 ci_0 ?_
  refine so_istore_n (M := mX0_match) (pc := 17) (lo' := [_, _, _, _, _]) dX0_match_17 (LE rfl) (LE rfl) (Or.inr rfl) rfl ?_
  refine wp_h (M := mX0_match) (pc := 18) (h' := auH h u fa la (gi h fa, gi h la, 0, -9, 0)) ?_ (lp_X0_match hA hc hn 14 0 _ _ _ _ (by omega) (by omega) k)
  unfold auH
  rw [sw_self, sw_self]
  simp only [si_is, gi_sw_at, sw_sw]
end SP
