section SP
variable {E : Ev} {h : PH} {Q : Rt → PH → Prop}
/-- the reference's text -/
def TxR (h : PH) (me : Nat) (ad : Nat → Nat) (s : Nat → Nat) (n : Nat) : Prop := (gi h me 9 = nI n ∧ n ≤ 160) ∧ ∀ j, j < n → gi h (ad 8) j = nI (s j) ∧ s j ≤ 255
theorem TxR.co {h h' : PH} {me : Nat} {ad : Nat → Nat} {s : Nat → Nat} {n : Nat} (H : TxR h me ad s n) (e1 : gi h' me 9 = gi h me 9) (e2 : gi h' (ad 8) = gi h (ad 8)) : TxR h' me ad s n := by
  unfold TxR at H ⊢
  rw [e1, e2]
  exact H
theorem TxR.sp {h : PH} {me : Nat} {ad : Nat → Nat} {s : Nat → Nat} {n : Nat} {v : Int32} (H : TxR h me ad s n) (Hm : MoL h me ad) : TxR (si h me 10 v) me ad s n := H.co (gi_si_oth (by decide)) (gi_si_ne _ _ _ (Hm.ne (k := 8) rfl))
theorem dig_w : ∀ m : Nat, m < 256 → (wth (nI m - 48) 0 9 ↔ (48 ≤ m ∧ m ≤ 57)) := by decide +kernel
theorem rdN_b {s : Nat → Nat} {n lo hi : Nat} (hh : hi ≤ 9999) : ∀ (k v p : Nat), (rdN s n lo hi k v p).2.2 = false → v * 10 ^ k ≤ 9999 → (rdN s n lo hi k v p).1 ≤ 9999
  | 0, v, p, _, h => by rw [Nat.pow_zero, Nat.mul_one] at h; exact h
  | k + 1, v, p, hb, h => by
    by_cases hc : p < n ∧ 48 ≤ s p ∧ s p ≤ 57 ∧ (10 * v + (s p - 48)) * 10 ^ k ≤ hi ∧ lo < (10 * v + (s p - 48)) * 10 ^ k + 10 ^ k
    · rw [rdN_y hc] at hb ⊢
      exact rdN_b hh k _ _ hb (Nat.le_trans hc.2.2.2.1 hh)
    · rw [rdN_n hc] at hb; cases hb
set_option maxHeartbeats 4000000 in
set_option maxRecDepth 100000 in
theorem sp_X7_passes {me : Nat} {ad : Nat → Nat} {s : Nat → Nat} {n p : Nat} {c : Nat} (Hm : MoL h me ad) (hX : TxR h me ad s n) (hp : gi h me 10 = nI p) (hp2 : p ≤ 1000) (hc : c ≤ 255) (k1 : p < n → s p = c → Q (.inl (some (.int 1))) (si h me 10 (nI (p + 1)))) (k0 : ¬ (p < n ∧ s p = c) → Q (.inl (some (.int 0))) h) : WPx E mX7_passes 0 [some (.ref me), some (.int (nI c)), none] [] (0, 0) h Q := by
  have n160 := hX.1.2
  refine wp_aload_n (M := mX7_passes) (pc := 0) dX7_passes_0 rfl ?_
  refine wp_getI (M := mX7_passes) (pc := 1) fa_X7_78 rfl dX7_passes_1 (by first | exact Hm.k | exact Hm.a rfl | fail "kd") ?_
  refine wp_aload_n (M := mX7_passes) (pc := 4) dX7_passes_4 rfl ?_
  refine wp_getI (M := mX7_passes) (pc := 5) fa_X7_71 rfl dX7_passes_5 (by first | exact Hm.k | exact Hm.a rfl | fail "kd") ?_
  refine wp_icmp_ge (M := mX7_passes) (pc := 8) (tgt := 28) dX7_passes_8 rfl (fun t8 => ?_) (fun f8 => ?_)
  · rw [hp, hX.1.1] at t8
    have hno : ¬ p < n := fun e => absurd ((i_le (by omega) (by omega)).mp t8) (by omega)
    refine wp_iconst (M := mX7_passes) (pc := 28) (v := 0) dX7_passes_28 ci_0 ?_
    refine so_istore_n (M := mX7_passes) (pc := 29) (lo' := [_, _, _]) dX7_passes_29 (LE rfl) (LE rfl) (Or.inr rfl) rfl ?_
    refine wp_aload_n (M := mX7_passes) (pc := 30) dX7_passes_30 rfl ?_
    refine wp_dup (M := mX7_passes) (pc := 31) dX7_passes_31 rfl ?_
    refine wp_getI (M := mX7_passes) (pc := 32) fa_X7_78 rfl dX7_passes_32 (by first | exact Hm.k | exact Hm.a rfl | fail "kd") ?_
    refine wp_iload_n (M := mX7_passes) (pc := 35) dX7_passes_35 rfl ?_
    refine wp_if_eq (M := mX7_passes) (pc := 36) (tgt := 43) dX7_passes_36 rfl (fun t36 => ?_) (fun f36 => ?_)
    · refine wp_iconst (M := mX7_passes) (pc := 43) (v := 0) dX7_passes_43 ci_0 ?_
      refine wp_iadd (M := mX7_passes) (pc := 44) dX7_passes_44 ?_
      refine wp_putI (M := mX7_passes) (pc := 45) fa_X7_78 (Or.inl rfl) dX7_passes_45 (by first | exact Hm.k | exact Hm.a rfl | fail "kd") ?_
      refine wp_iload_n (M := mX7_passes) (pc := 48) dX7_passes_48 rfl ?_
      refine wp_zreturn (M := mX7_passes) (pc := 49) rfl (by decide) dX7_passes_49 ?_
      first
      | exact absurd t36 (by decide)
      | exact absurd rfl f36
      | (rw [hp, Int32.add_zero, si_same hp]; exact k0 (fun q => hno q.1))
      | (rw [hp, Int32.add_zero, si_same hp]; exact k0 (fun q => hne q.2))
      | (rw [hp, show nI p + 1 = nI (p + 1) from nI_1 p]; exact k1 hlt heq)
      | fail "leaf"
    · refine wp_iconst (M := mX7_passes) (pc := 39) (v := 1) dX7_passes_39 ci_1 ?_
      refine wp_goto (M := mX7_passes) (pc := 40) (tgt := 44) dX7_passes_40 rfl ?_
      refine wp_iadd (M := mX7_passes) (pc := 44) dX7_passes_44 ?_
      refine wp_putI (M := mX7_passes) (pc := 45) fa_X7_78 (Or.inl rfl) dX7_passes_45 (by first | exact Hm.k | exact Hm.a rfl | fail "kd") ?_
      refine wp_iload_n (M := mX7_passes) (pc := 48) dX7_passes_48 rfl ?_
      refine wp_zreturn (M := mX7_passes) (pc := 49) rfl (by decide) dX7_passes_49 ?_
      first
      | exact absurd t36 (by decide)
      | exact absurd rfl f36
      | (rw [hp, Int32.add_zero, si_same hp]; exact k0 (fun q => hno q.1))
      | (rw [hp, Int32.add_zero, si_same hp]; exact k0 (fun q => hne q.2))
      | (rw [hp, show nI p + 1 = nI (p + 1) from nI_1 p]; exact k1 hlt heq)
      | fail "leaf"
  · rw [hp, hX.1.1] at f8
    have hlt : p < n := Nat.lt_of_not_le (fun e => f8 ((i_le (by omega) (by omega)).mpr e))
    obtain ⟨es, e255⟩ := hX.2 p hlt
    refine wp_aload_n (M := mX7_passes) (pc := 11) dX7_passes_11 rfl ?_
    refine wp_getR (M := mX7_passes) (pc := 12) fa_X7_26 rfl dX7_passes_12 (by first | exact Hm.k | exact Hm.a rfl | fail "kd") (Hm.r rfl) ?_
    refine wp_aload_n (M := mX7_passes) (pc := 15) dX7_passes_15 rfl ?_
    refine wp_getI (M := mX7_passes) (pc := 16) fa_X7_78 rfl dX7_passes_16 (by first | exact Hm.k | exact Hm.a rfl | fail "kd") ?_
    refine wr_iaload (M := mX7_passes) (pc := 19) dX7_passes_19 (by first | exact Hm.k | exact Hm.a rfl | fail "kd") hp (by omega) (by decide) ?_
    refine wp_iload_n (M := mX7_passes) (pc := 20) dX7_passes_20 rfl ?_
    refine wp_icmp_ne (M := mX7_passes) (pc := 21) (tgt := 28) dX7_passes_21 rfl (fun t21 => ?_) (fun f21 => ?_)
    · rw [es] at t21
      have hne : ¬ s p = c := fun e => t21 (by rw [e])
      refine wp_iconst (M := mX7_passes) (pc := 28) (v := 0) dX7_passes_28 ci_0 ?_
      refine so_istore_n (M := mX7_passes) (pc := 29) (lo' := [_, _, _]) dX7_passes_29 (LE rfl) (LE rfl) (Or.inr rfl) rfl ?_
      refine wp_aload_n (M := mX7_passes) (pc := 30) dX7_passes_30 rfl ?_
      refine wp_dup (M := mX7_passes) (pc := 31) dX7_passes_31 rfl ?_
      refine wp_getI (M := mX7_passes) (pc := 32) fa_X7_78 rfl dX7_passes_32 (by first | exact Hm.k | exact Hm.a rfl | fail "kd") ?_
      refine wp_iload_n (M := mX7_passes) (pc := 35) dX7_passes_35 rfl ?_
      refine wp_if_eq (M := mX7_passes) (pc := 36) (tgt := 43) dX7_passes_36 rfl (fun t36 => ?_) (fun f36 => ?_)
      · refine wp_iconst (M := mX7_passes) (pc := 43) (v := 0) dX7_passes_43 ci_0 ?_
        refine wp_iadd (M := mX7_passes) (pc := 44) dX7_passes_44 ?_
        refine wp_putI (M := mX7_passes) (pc := 45) fa_X7_78 (Or.inl rfl) dX7_passes_45 (by first | exact Hm.k | exact Hm.a rfl | fail "kd") ?_
        refine wp_iload_n (M := mX7_passes) (pc := 48) dX7_passes_48 rfl ?_
        refine wp_zreturn (M := mX7_passes) (pc := 49) rfl (by decide) dX7_passes_49 ?_
        first
        | exact absurd t36 (by decide)
        | exact absurd rfl f36
        | (rw [hp, Int32.add_zero, si_same hp]; exact k0 (fun q => hno q.1))
        | (rw [hp, Int32.add_zero, si_same hp]; exact k0 (fun q => hne q.2))
        | (rw [hp, show nI p + 1 = nI (p + 1) from nI_1 p]; exact k1 hlt heq)
        | fail "leaf"
      · refine wp_iconst (M := mX7_passes) (pc := 39) (v := 1) dX7_passes_39 ci_1 ?_
        refine wp_goto (M := mX7_passes) (pc := 40) (tgt := 44) dX7_passes_40 rfl ?_
        refine wp_iadd (M := mX7_passes) (pc := 44) dX7_passes_44 ?_
        refine wp_putI (M := mX7_passes) (pc := 45) fa_X7_78 (Or.inl rfl) dX7_passes_45 (by first | exact Hm.k | exact Hm.a rfl | fail "kd") ?_
        refine wp_iload_n (M := mX7_passes) (pc := 48) dX7_passes_48 rfl ?_
        refine wp_zreturn (M := mX7_passes) (pc := 49) rfl (by decide) dX7_passes_49 ?_
        first
        | exact absurd t36 (by decide)
        | exact absurd rfl f36
        | (rw [hp, Int32.add_zero, si_same hp]; exact k0 (fun q => hno q.1))
        | (rw [hp, Int32.add_zero, si_same hp]; exact k0 (fun q => hne q.2))
        | (rw [hp, show nI p + 1 = nI (p + 1) from nI_1 p]; exact k1 hlt heq)
        | fail "leaf"
    · rw [es] at f21
      have heq : s p = c := (i_eq (by omega) (by omega)).mp f21
      refine wp_iconst (M := mX7_passes) (pc := 24) (v := 1) dX7_passes_24 ci_1 ?_
      refine wp_goto (M := mX7_passes) (pc := 25) (tgt := 29) dX7_passes_25 rfl ?_
      refine so_istore_n (M := mX7_passes) (pc := 29) (lo' := [_, _, _]) dX7_passes_29 (LE rfl) (LE rfl) (Or.inr rfl) rfl ?_
      refine wp_aload_n (M := mX7_passes) (pc := 30) dX7_passes_30 rfl ?_
      refine wp_dup (M := mX7_passes) (pc := 31) dX7_passes_31 rfl ?_
      refine wp_getI (M := mX7_passes) (pc := 32) fa_X7_78 rfl dX7_passes_32 (by first | exact Hm.k | exact Hm.a rfl | fail "kd") ?_
      refine wp_iload_n (M := mX7_passes) (pc := 35) dX7_passes_35 rfl ?_
      refine wp_if_eq (M := mX7_passes) (pc := 36) (tgt := 43) dX7_passes_36 rfl (fun t36 => ?_) (fun f36 => ?_)
      · refine wp_iconst (M := mX7_passes) (pc := 43) (v := 0) dX7_passes_43 ci_0 ?_
        refine wp_iadd (M := mX7_passes) (pc := 44) dX7_passes_44 ?_
        refine wp_putI (M := mX7_passes) (pc := 45) fa_X7_78 (Or.inl rfl) dX7_passes_45 (by first | exact Hm.k | exact Hm.a rfl | fail "kd") ?_
        refine wp_iload_n (M := mX7_passes) (pc := 48) dX7_passes_48 rfl ?_
        refine wp_zreturn (M := mX7_passes) (pc := 49) rfl (by decide) dX7_passes_49 ?_
        first
        | exact absurd t36 (by decide)
        | exact absurd rfl f36
        | (rw [hp, Int32.add_zero, si_same hp]; exact k0 (fun q => hno q.1))
        | (rw [hp, Int32.add_zero, si_same hp]; exact k0 (fun q => hne q.2))
        | (rw [hp, show nI p + 1 = nI (p + 1) from nI_1 p]; exact k1 hlt heq)
        | fail "leaf"
      · refine wp_iconst (M := mX7_passes) (pc := 39) (v := 1) dX7_passes_39 ci_1 ?_
        refine wp_goto (M := mX7_passes) (pc := 40) (tgt := 44) dX7_passes_40 rfl ?_
        refine wp_iadd (M := mX7_passes) (pc := 44) dX7_passes_44 ?_
        refine wp_putI (M := mX7_passes) (pc := 45) fa_X7_78 (Or.inl rfl) dX7_passes_45 (by first | exact Hm.k | exact Hm.a rfl | fail "kd") ?_
        refine wp_iload_n (M := mX7_passes) (pc := 48) dX7_passes_48 rfl ?_
        refine wp_zreturn (M := mX7_passes) (pc := 49) rfl (by decide) dX7_passes_49 ?_
        first
        | exact absurd t36 (by decide)
        | exact absurd rfl f36
        | (rw [hp, Int32.add_zero, si_same hp]; exact k0 (fun q => hno q.1))
        | (rw [hp, Int32.add_zero, si_same hp]; exact k0 (fun q => hne q.2))
        | (rw [hp, show nI p + 1 = nI (p + 1) from nI_1 p]; exact k1 hlt heq)
        | fail "leaf"
set_option maxHeartbeats 4000000 in
set_option maxRecDepth 100000 in
theorem l2_X7_number {me : Nat} {ad : Nat → Nat} {s : Nat → Nat} {n d lo hi : Nat} {res : Nat × Nat × Bool} (Hm : MoL h me ad) (hX : TxR h me ad s n) (hd4 : d ≤ 4) (hlo : lo ≤ 9999) (hhi : hi ≤ 9999) (k : Q (.inl (some (.int (if res.2.2 = true then -9 else nI res.1)))) (si h me 10 (nI res.2.1))) : ∀ (m : Nat) (i : Nat) (v : Nat) (p : Nat) (u : Int32) (x7 : Option Value), d - i < m → (i ≤ d) → (p ≤ 900 + i) → (i < d → u = nI (10 ^ (d - 1 - i))) → (v * 10 ^ (d - i) ≤ 9999) → (rdN s n lo hi (d - i) v p = res) → WPx E mX7_number 31 [some (.ref me), some (.int (nI d)), some (.int (nI lo)), some (.int (nI hi)), some (.int (nI v)), some (.int u), some (.int (nI i)), x7] [] (0, 0) (si h me 10 (nI p)) Q := by
  intro m
  induction m with
  | zero => intro i v p u x7 hm; exact absurd hm (Nat.not_lt_zero _)
  | succ m ih =>
    intro i v p u x7 hm hi2 hp2 hu hv he
    have n160 := hX.1.2
    have e10 : gi (si h me 10 (nI p)) me 10 = nI p := gi_si_same
    have e9 : gi (si h me 10 (nI p)) me 9 = nI n := by rw [gi_si_oth (by decide)]; exact hX.1.1
    have e8 : gi (si h me 10 (nI p)) (ad 8) = gi h (ad 8) := gi_si_ne _ _ _ (Hm.ne (k := 8) rfl)
    refine wp_iload (M := mX7_number) (pc := 31) dX7_number_31 rfl ?_
    refine wp_iload_n (M := mX7_number) (pc := 33) dX7_number_33 rfl ?_
    refine wp_icmp_ge (M := mX7_number) (pc := 34) (tgt := 139) dX7_number_34 rfl (fun t34 => ?_) (fun f34 => ?_)
    · have hi3 := n_ge hi2 (by omega) t34
      subst hi3
      rw [Nat.sub_self] at he
      have he2 : (v, p, false) = res := he
      subst he2
      refine wp_iload (M := mX7_number) (pc := 139) dX7_number_139 rfl ?_
      refine wp_ireturn (M := mX7_number) (pc := 141) rfl dX7_number_141 ?_
      exact k
    · have hlt := n_lt hi2 (by omega) f34
      have hu2 := hu hlt
      subst hu2
      obtain ⟨j, ej⟩ : ∃ j, d - i = j + 1 := ⟨d - i - 1, by omega⟩
      have ej2 : d - 1 - i = j := by omega
      rw [ej] at he hv
      rw [ej2]
      refine wp_aload_n (M := mX7_number) (pc := 37) dX7_number_37 rfl ?_
      refine wp_getI (M := mX7_number) (pc := 38) fa_X7_78 rfl dX7_number_38 (by first | exact Hm.k | exact Hm.a rfl | fail "kd") ?_
      refine wp_aload_n (M := mX7_number) (pc := 41) dX7_number_41 rfl ?_
      refine wp_getI (M := mX7_number) (pc := 42) fa_X7_71 rfl dX7_number_42 (by first | exact Hm.k | exact Hm.a rfl | fail "kd") ?_
      refine wp_icmp_ge (M := mX7_number) (pc := 45) (tgt := 63) dX7_number_45 rfl (fun t45 => ?_) (fun f45 => ?_)
      · rw [e10, e9] at t45
        have hno : ¬ p < n := fun e => absurd ((i_le (by omega) (by omega)).mp t45) (by omega)
        refine wp_bipush (M := mX7_number) (pc := 63) (v := -9) dX7_number_63 cb_m9 ?_
        refine so_istore (M := mX7_number) (pc := 65) (lo' := [_, _, _, _, _, _, _, _]) dX7_number_65 (LE rfl) (LE rfl) (Or.inr rfl) rfl ?_
        refine wp_bipush (M := mX7_number) (pc := 67) (v := 10) dX7_number_67 cb_10 ?_
        refine wp_iload (M := mX7_number) (pc := 69) dX7_number_69 rfl ?_
        refine wp_imul (M := mX7_number) (pc := 71) dX7_number_71 ?_
        refine wp_iload (M := mX7_number) (pc := 72) dX7_number_72 rfl ?_
        refine wp_iadd (M := mX7_number) (pc := 74) dX7_number_74 ?_
        refine so_istore (M := mX7_number) (pc := 75) (lo' := [_, _, _, _, _, _, _, _]) dX7_number_75 (LE rfl) (LE rfl) (Or.inr rfl) rfl ?_
        refine wp_iload (M := mX7_number) (pc := 77) dX7_number_77 rfl ?_
        refine wp_i2l (M := mX7_number) (pc := 79) dX7_number_79 ?_
        refine wp_lconst (M := mX7_number) (pc := 80) (v := 0) dX7_number_80 cl_0 ?_
        refine wp_ldc2_w (M := mX7_number) (pc := 81) wv_X7_81 dX7_number_81 ?_
        refine so_S3 (M := mX7_number) (pc := 84) cs_X7_number_65 rfl rfl (LE rfl) (LE rfl) dX7_number_84 ?_
        refine sp_X7_in ?_
        refine kI ?_
        refine wp_if_eq (M := mX7_number) (pc := 87) (tgt := 113) dX7_number_87 rfl (fun _ => ?_) (fun e => absurd (b01_f (fun e2 => absurd e2.1 (by decide))) e)
        refine wp_bipush (M := mX7_number) (pc := 113) (v := -9) dX7_number_113 cb_m9 ?_
        refine wp_ireturn (M := mX7_number) (pc := 115) rfl dX7_number_115 ?_
        rw [rdN_n (fun q => hno q.1)] at he
        subst he
        exact k
      · rw [e10, e9] at f45
        have hpn : p < n := Nat.lt_of_not_le (fun e => f45 ((i_le (by omega) (by omega)).mpr e))
        obtain ⟨es, e255⟩ := hX.2 p hpn
        refine wp_aload_n (M := mX7_number) (pc := 48) dX7_number_48 rfl ?_
        refine wp_getR (M := mX7_number) (pc := 49) fa_X7_26 rfl dX7_number_49 (by first | exact Hm.k | exact Hm.a rfl | fail "kd") (Hm.r rfl) ?_
        refine wp_aload_n (M := mX7_number) (pc := 52) dX7_number_52 rfl ?_
        refine wp_getI (M := mX7_number) (pc := 53) fa_X7_78 rfl dX7_number_53 (by first | exact Hm.k | exact Hm.a rfl | fail "kd") ?_
        refine wr_iaload (M := mX7_number) (pc := 56) dX7_number_56 (by first | exact Hm.k | exact Hm.a rfl | fail "kd") e10 (by omega) (by decide) ?_
        refine wp_bipush (M := mX7_number) (pc := 57) (v := 48) dX7_number_57 cb_48 ?_
        refine wp_isub (M := mX7_number) (pc := 59) dX7_number_59 ?_
        refine wp_goto (M := mX7_number) (pc := 60) (tgt := 65) dX7_number_60 rfl ?_
        refine so_istore (M := mX7_number) (pc := 65) (lo' := [_, _, _, _, _, _, _, _]) dX7_number_65 (LE rfl) (LE rfl) (Or.inr rfl) rfl ?_
        refine wp_bipush (M := mX7_number) (pc := 67) (v := 10) dX7_number_67 cb_10 ?_
        refine wp_iload (M := mX7_number) (pc := 69) dX7_number_69 rfl ?_
        refine wp_imul (M := mX7_number) (pc := 71) dX7_number_71 ?_
        refine wp_iload (M := mX7_number) (pc := 72) dX7_number_72 rfl ?_
        refine wp_iadd (M := mX7_number) (pc := 74) dX7_number_74 ?_
        refine so_istore (M := mX7_number) (pc := 75) (lo' := [_, _, _, _, _, _, _, _]) dX7_number_75 (LE rfl) (LE rfl) (Or.inr rfl) rfl ?_
        refine wp_iload (M := mX7_number) (pc := 77) dX7_number_77 rfl ?_
        refine wp_i2l (M := mX7_number) (pc := 79) dX7_number_79 ?_
        refine wp_lconst (M := mX7_number) (pc := 80) (v := 0) dX7_number_80 cl_0 ?_
        refine wp_ldc2_w (M := mX7_number) (pc := 81) wv_X7_81 dX7_number_81 ?_
        refine so_S3 (M := mX7_number) (pc := 84) cs_X7_number_65 rfl rfl (LE rfl) (LE rfl) dX7_number_84 ?_
        refine sp_X7_in ?_
        refine kI ?_
        rw [e8, es]
        refine wp_if_eq (M := mX7_number) (pc := 87) (tgt := 113) dX7_number_87 rfl (fun t87 => ?_) (fun f87 => ?_)
        · refine wp_bipush (M := mX7_number) (pc := 113) (v := -9) dX7_number_113 cb_m9 ?_
          refine wp_ireturn (M := mX7_number) (pc := 115) rfl dX7_number_115 ?_
          have hnd : ¬ (48 ≤ s p ∧ s p ≤ 57) := fun q => b01_z t87 ((wl (a := 0) (b := 9) (by decide) (by decide)).mpr ((dig_w _ (by omega)).mpr q))
          rw [rdN_n (fun q => hnd ⟨q.2.1, q.2.2.1⟩)] at he
          subst he
          exact k
        · obtain ⟨d1, d2⟩ := (dig_w _ (by omega)).mp ((wl (a := 0) (b := 9) (by decide) (by decide)).mp (b01_n f87))
          have ev : 10 * nI v + (nI (s p) - 48) = nI (10 * v + (s p - 48)) := by
            rw [show nI (s p) - 48 = nI (s p - 48) from pk_sub (b := 48) d1]
            exact ia (im (show (10 : Int32) = nI 10 from rfl) rfl) rfl
          have hj3 : j ≤ 3 := by omega
          have hb1 := num_b (v := v) (dg := s p - 48) hv hj3 (by omega)
          have hb2 := num_l (v := v) (dg := s p - 48) hv hj3 (by omega)
          have ht1 := ten_le hj3
          rw [ev]
          have em : nI (10 * v + (s p - 48)) * nI (10 ^ j) = nI ((10 * v + (s p - 48)) * 10 ^ j) := nI_mul _ _
          have hp10 := ten_pos (m := j)
          have em2 : nI (10 * v + (s p - 48)) * nI (10 ^ j) + nI (10 ^ j) - 1 = nI ((10 * v + (s p - 48)) * 10 ^ j + 10 ^ j - 1) := by
            rw [em, nI_add]; exact pk_sub (b := 1) (by omega)
          refine wp_iload (M := mX7_number) (pc := 90) dX7_number_90 rfl ?_
          refine wp_iload (M := mX7_number) (pc := 92) dX7_number_92 rfl ?_
          refine wp_imul (M := mX7_number) (pc := 94) dX7_number_94 ?_
          refine wp_iload_n (M := mX7_number) (pc := 95) dX7_number_95 rfl ?_
          refine wp_icmp_gt (M := mX7_number) (pc := 96) (tgt := 113) dX7_number_96 rfl (fun t96 => ?_) (fun f96 => ?_)
          · refine wp_bipush (M := mX7_number) (pc := 113) (v := -9) dX7_number_113 cb_m9 ?_
            refine wp_ireturn (M := mX7_number) (pc := 115) rfl dX7_number_115 ?_
            rw [em] at t96
            have := (i_lt (by omega) (by omega)).mp t96
            rw [rdN_n (fun q => absurd q.2.2.2.1 (by omega))] at he
            subst he
            exact k
          · rw [em] at f96
            have hle : (10 * v + (s p - 48)) * 10 ^ j ≤ hi := Nat.le_of_not_lt (fun e => f96 ((i_lt (by omega) (by omega)).mpr e))
            refine wp_iload (M := mX7_number) (pc := 99) dX7_number_99 rfl ?_
            refine wp_iload (M := mX7_number) (pc := 101) dX7_number_101 rfl ?_
            refine wp_imul (M := mX7_number) (pc := 103) dX7_number_103 ?_
            refine wp_iload (M := mX7_number) (pc := 104) dX7_number_104 rfl ?_
            refine wp_iadd (M := mX7_number) (pc := 106) dX7_number_106 ?_
            refine wp_iconst (M := mX7_number) (pc := 107) (v := 1) dX7_number_107 ci_1 ?_
            refine wp_isub (M := mX7_number) (pc := 108) dX7_number_108 ?_
            refine wp_iload_n (M := mX7_number) (pc := 109) dX7_number_109 rfl ?_
            refine wp_icmp_ge (M := mX7_number) (pc := 110) (tgt := 116) dX7_number_110 rfl (fun t110 => ?_) (fun f110 => ?_)
            · rw [em2] at t110
              have hge := (i_le (by omega) (by omega)).mp t110
              rw [rdN_y ⟨hpn, d1, d2, hle, by omega⟩] at he
              refine wp_iload (M := mX7_number) (pc := 116) dX7_number_116 rfl ?_
              refine wp_bipush (M := mX7_number) (pc := 118) (v := 10) dX7_number_118 cb_10 ?_
              refine wp_idiv (M := mX7_number) (pc := 120) dX7_number_120 (by decide) ?_
              refine so_istore (M := mX7_number) (pc := 121) (lo' := [_, _, _, _, _, _, _, _]) dX7_number_121 (LE rfl) (LE rfl) (Or.inr rfl) rfl ?_
              refine wp_aload_n (M := mX7_number) (pc := 123) dX7_number_123 rfl ?_
              refine wp_dup (M := mX7_number) (pc := 124) dX7_number_124 rfl ?_
              refine wp_getI (M := mX7_number) (pc := 125) fa_X7_78 rfl dX7_number_125 Hm.k ?_
              refine wp_iconst (M := mX7_number) (pc := 128) (v := 1) dX7_number_128 ci_1 ?_
              refine wp_iadd (M := mX7_number) (pc := 129) dX7_number_129 ?_
              refine wp_putI (M := mX7_number) (pc := 130) fa_X7_78 (Or.inl rfl) dX7_number_130 Hm.k ?_
              refine so_iinc (M := mX7_number) (pc := 133) (lo' := [_, _, _, _, _, _, _, _]) dX7_number_133 rfl ci_1 (LE rfl) rfl ?_
              refine wp_goto (M := mX7_number) (pc := 136) (tgt := 31) dX7_number_136 rfl ?_
              rw [e10, si_si, show nI i + 1 = nI (i + 1) from nI_1 i, show nI p + 1 = nI (p + 1) from nI_1 p]
              refine ih (i + 1) (10 * v + (s p - 48)) (p + 1) _ _ (by omega) (by omega) (by omega) (fun hlt2 => ?_) ?_ ?_
              · obtain ⟨j2, rfl⟩ : ∃ j2, j = j2 + 1 := ⟨j - 1, by omega⟩
                rw [show d - 1 - (i + 1) = j2 by omega]
                exact ten_div (by omega)
              · rw [show d - (i + 1) = j by omega]; omega
              · rw [show d - (i + 1) = j by omega]; exact he
            · refine wp_bipush (M := mX7_number) (pc := 113) (v := -9) dX7_number_113 cb_m9 ?_
              refine wp_ireturn (M := mX7_number) (pc := 115) rfl dX7_number_115 ?_
              rw [em2] at f110
              have hlt3 : (10 * v + (s p - 48)) * 10 ^ j + 10 ^ j - 1 < lo := Nat.lt_of_not_le (fun e => f110 ((i_le (by omega) (by omega)).mpr e))
              rw [rdN_n (fun q => absurd q.2.2.2.2 (by omega))] at he
              subst he
              exact k
set_option maxHeartbeats 4000000 in
set_option maxRecDepth 100000 in
theorem l1_X7_number {me : Nat} {ad : Nat → Nat} {s : Nat → Nat} {n d lo hi : Nat} {p : Nat} (Hm : MoL h me ad) (hX : TxR h me ad s n) (hd1 : 1 ≤ d) (hd4 : d ≤ 4) (hlo : lo ≤ 9999) (hhi : hi ≤ 9999) (hp : gi h me 10 = nI p) (hp2 : p ≤ 900) (k : Q (.inl (some (.int (if (rdN s n lo hi d 0 p).2.2 = true then -9 else nI (rdN s n lo hi d 0 p).1)))) (si h me 10 (nI (rdN s n lo hi d 0 p).2.1))) : ∀ (m : Nat) (i : Nat), d - i < m → (1 ≤ i) → (i ≤ d) → WPx E mX7_number 9 [some (.ref me), some (.int (nI d)), some (.int (nI lo)), some (.int (nI hi)), some (.int 0), some (.int (nI (10 ^ (i - 1)))), some (.int (nI i)), none] [] (0, 0) h Q := by
  intro m
  induction m with
  | zero => intro i hm; exact absurd hm (Nat.not_lt_zero _)
  | succ m ih =>
    intro i hm hi1 hi2
    refine wp_iload (M := mX7_number) (pc := 9) dX7_number_9 rfl ?_
    refine wp_iload_n (M := mX7_number) (pc := 11) dX7_number_11 rfl ?_
    refine wp_icmp_ge (M := mX7_number) (pc := 12) (tgt := 28) dX7_number_12 rfl (fun t12 => ?_) (fun f12 => ?_)
    · have hi3 := n_ge hi2 (by omega) t12
      subst hi3
      refine wp_iconst (M := mX7_number) (pc := 28) (v := 0) dX7_number_28 ci_0 ?_
      refine so_istore (M := mX7_number) (pc := 29) (lo' := [_, _, _, _, _, _, _, _]) dX7_number_29 (LE rfl) (LE rfl) (Or.inr rfl) rfl ?_
      have hz := l2_X7_number (E := E) (Q := Q) (res := rdN s n lo hi i 0 p) Hm hX hd4 hlo hhi k (i + 1) 0 0 p (nI (10 ^ (i - 1))) none (by omega) (by omega) (by omega) (fun _ => rfl) (by omega) rfl
      rw [si_same hp] at hz
      exact hz
    · have hlt := n_lt hi2 (by omega) f12
      refine wp_iload (M := mX7_number) (pc := 15) dX7_number_15 rfl ?_
      refine wp_bipush (M := mX7_number) (pc := 17) (v := 10) dX7_number_17 cb_10 ?_
      refine wp_imul (M := mX7_number) (pc := 19) dX7_number_19 ?_
      refine so_istore (M := mX7_number) (pc := 20) (lo' := [_, _, _, _, _, _, _, _]) dX7_number_20 (LE rfl) (LE rfl) (Or.inr rfl) rfl ?_
      refine so_iinc (M := mX7_number) (pc := 22) (lo' := [_, _, _, _, _, _, _, _]) dX7_number_22 rfl ci_1 (LE rfl) rfl ?_
      refine wp_goto (M := mX7_number) (pc := 25) (tgt := 9) dX7_number_25 rfl ?_
      rw [show nI i + 1 = nI (i + 1) from nI_1 i, show nI (10 ^ (i - 1)) * 10 = nI (10 ^ (i + 1 - 1)) by rw [show i + 1 - 1 = (i - 1) + 1 by omega, Nat.pow_succ]; exact im rfl (show (10 : Int32) = nI 10 from rfl)]
      exact ih (i + 1) (by omega) (by omega) (by omega)
set_option maxHeartbeats 4000000 in
set_option maxRecDepth 100000 in
theorem sp_X7_number {me : Nat} {ad : Nat → Nat} {s : Nat → Nat} {n d lo hi : Nat} {p : Nat} (Hm : MoL h me ad) (hX : TxR h me ad s n) (hd1 : 1 ≤ d) (hd4 : d ≤ 4) (hlo : lo ≤ 9999) (hhi : hi ≤ 9999) (hp : gi h me 10 = nI p) (hp2 : p ≤ 900) (k : Q (.inl (some (.int (if (rdN s n lo hi d 0 p).2.2 = true then -9 else nI (rdN s n lo hi d 0 p).1)))) (si h me 10 (nI (rdN s n lo hi d 0 p).2.1))) : WPx E mX7_number 0 [some (.ref me), some (.int (nI d)), some (.int (nI lo)), some (.int (nI hi)), none, none, none, none] [] (0, 0) h Q := by
  refine wp_iconst (M := mX7_number) (pc := 0) (v := 0) dX7_number_0 ci_0 ?_
  refine so_istore (M := mX7_number) (pc := 1) (lo' := [_, _, _, _, _, _, _, _]) dX7_number_1 (LE rfl) (LE rfl) (Or.inr rfl) rfl ?_
  refine wp_iconst (M := mX7_number) (pc := 3) (v := 1) dX7_number_3 ci_1 ?_
  refine so_istore (M := mX7_number) (pc := 4) (lo' := [_, _, _, _, _, _, _, _]) dX7_number_4 (LE rfl) (LE rfl) (Or.inr rfl) rfl ?_
  refine wp_iconst (M := mX7_number) (pc := 6) (v := 1) dX7_number_6 ci_1 ?_
  refine so_istore (M := mX7_number) (pc := 7) (lo' := [_, _, _, _, _, _, _, _]) dX7_number_7 (LE rfl) (LE rfl) (Or.inr rfl) rfl ?_
  exact l1_X7_number Hm hX hd1 hd4 hlo hhi hp hp2 k (d + 1) 1 (by omega) (by omega) (by omega)
end SP
