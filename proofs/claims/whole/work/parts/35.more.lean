section SP
variable {E : Ev} {h : PH} {Q : Rt → PH → Prop}
/-- a new state: no tenant yet -/
def bgA (w iv : Int32) (tm : Nat) (pn : Int32) : Sta := ((0, 0, tm), upd (upd (upd (upd (fun _ => 0) 1 w) 2 iv) 4 pn) 7 (-9), fun _ => (fun _ => 0, [], []), [])
def addT (A : Sta) (a b c : Int32) : Sta := ((sN A + 1, sTi A, sTm A), sG A, u1 (sT A) (sN A) (bgF (fun _ => 0) a b c, [], []), sO A)
def wlt (A : Sta) (t : Nat) : Int32 := fT A t 4 + csa A t + (if sG A 7 = -9 then 0 else sG A 7) * (fT A t 2 + fT A t 3 + qtyOf A t 1 - dsum (sT A t).2.2)
def rnk (A : Sta) (t : Nat) : Nat → Nat
  | 0 => 0
  | u + 1 => rnk A t u + (if wlt A t < wlt A u ∨ (wlt A u = wlt A t ∧ u < t) then 1 else 0)
theorem rnk_le (A : Sta) (t : Nat) : ∀ u, rnk A t u ≤ u
  | 0 => Nat.le_refl _
  | u + 1 => by
    have := rnk_le A t u
    show rnk A t u + _ ≤ _
    split <;> omega
def edt (g : Nat → Int32) (ti : Nat) : Nat → Nat → Int32
  | 0, _ => -9
  | n + 1, w => if 0 < g ((ti + w) % 51) then nI (ti + w) else edt g ti n (w + 1)
def edA (A : Sta) (t : Nat) : Int32 := edt (ring (sT A t).2.2) (sTi A) (sTm A + 1) 0
/-- every queue is full -/
def fullU (A : Sta) (i : Nat) : Prop := ∀ t, t < i → 8 ≤ (sT A t).2.1.length
theorem rnk_y {A : Sta} {t u : Nat} (c : wlt A t < wlt A u ∨ (wlt A u = wlt A t ∧ u < t)) : rnk A t (u + 1) = rnk A t u + 1 := by
  show rnk A t u + _ = _
  rw [if_pos c]
theorem rnk_n {A : Sta} {t u : Nat} (c : ¬ (wlt A t < wlt A u ∨ (wlt A u = wlt A t ∧ u < t))) : rnk A t (u + 1) = rnk A t u := by
  show rnk A t u + _ = _
  rw [if_neg c]; rfl
theorem edt_y {g : Nat → Int32} {ti n w : Nat} (c : 0 < g ((ti + w) % 51)) : edt g ti (n + 1) w = nI (ti + w) := if_pos c
theorem edt_n {g : Nat → Int32} {ti n w : Nat} (c : ¬ 0 < g ((ti + w) % 51)) : edt g ti (n + 1) w = edt g ti n (w + 1) := if_neg c
theorem u1_is {α : Type} (f : Nat → α) (k : Nat) (v : α) : u1 f k v k = v := u1_at f k v
set_option maxHeartbeats 4000000 in
set_option maxRecDepth 100000 in
theorem sp_X4_begin {q tm : Nat} {l : Lt} {w iv pn : Int32} (hL : Lay h q l) (k : ∀ h', RepC h' q l (bgA w iv tm pn) → Fr (fun x => x = q) h h' → Q (.inl none) h') : WPx E mX4_begin 0 [some (.ref q), some (.int w), some (.int iv), some (.int (nI tm)), some (.int pn)] [] (0, 0) h Q := by
  refine wp_aload_n (M := mX4_begin) (pc := 0) dX4_begin_0 rfl ?_
  refine wp_iload_n (M := mX4_begin) (pc := 1) dX4_begin_1 rfl ?_
  refine wp_putI (M := mX4_begin) (pc := 2) fa_X4_25 (Or.inl rfl) dX4_begin_2 hL.1.1 ?_
  refine wp_aload_n (M := mX4_begin) (pc := 5) dX4_begin_5 rfl ?_
  refine wp_iload_n (M := mX4_begin) (pc := 6) dX4_begin_6 rfl ?_
  refine wp_putI (M := mX4_begin) (pc := 7) fa_X4_29 (Or.inl rfl) dX4_begin_7 hL.1.1 ?_
  refine wp_aload_n (M := mX4_begin) (pc := 10) dX4_begin_10 rfl ?_
  refine wp_iload_n (M := mX4_begin) (pc := 11) dX4_begin_11 rfl ?_
  refine wp_putI (M := mX4_begin) (pc := 12) fa_X4_32 (Or.inl rfl) dX4_begin_12 hL.1.1 ?_
  refine wp_aload_n (M := mX4_begin) (pc := 15) dX4_begin_15 rfl ?_
  refine wp_iload (M := mX4_begin) (pc := 16) dX4_begin_16 rfl ?_
  refine wp_putI (M := mX4_begin) (pc := 18) fa_X4_35 (Or.inl rfl) dX4_begin_18 hL.1.1 ?_
  refine wp_aload_n (M := mX4_begin) (pc := 21) dX4_begin_21 rfl ?_
  refine wp_iconst (M := mX4_begin) (pc := 22) (v := 0) dX4_begin_22 ci_0 ?_
  refine wp_putI (M := mX4_begin) (pc := 23) fa_X4_38 (Or.inl rfl) dX4_begin_23 hL.1.1 ?_
  refine wp_aload_n (M := mX4_begin) (pc := 26) dX4_begin_26 rfl ?_
  refine wp_iconst (M := mX4_begin) (pc := 27) (v := 0) dX4_begin_27 ci_0 ?_
  refine wp_putI (M := mX4_begin) (pc := 28) fa_X4_41 (Or.inl rfl) dX4_begin_28 hL.1.1 ?_
  refine wp_aload_n (M := mX4_begin) (pc := 31) dX4_begin_31 rfl ?_
  refine wp_iconst (M := mX4_begin) (pc := 32) (v := 0) dX4_begin_32 ci_0 ?_
  refine wp_putI (M := mX4_begin) (pc := 33) fa_X4_44 (Or.inl rfl) dX4_begin_33 hL.1.1 ?_
  refine wp_aload_n (M := mX4_begin) (pc := 36) dX4_begin_36 rfl ?_
  refine wp_iconst (M := mX4_begin) (pc := 37) (v := 0) dX4_begin_37 ci_0 ?_
  refine wp_putI (M := mX4_begin) (pc := 38) fa_X4_47 (Or.inl rfl) dX4_begin_38 hL.1.1 ?_
  refine wp_aload_n (M := mX4_begin) (pc := 41) dX4_begin_41 rfl ?_
  refine wp_bipush (M := mX4_begin) (pc := 42) (v := -9) dX4_begin_42 cb_m9 ?_
  refine wp_putI (M := mX4_begin) (pc := 44) fa_X4_50 (Or.inl rfl) dX4_begin_44 hL.1.1 ?_
  refine wp_aload_n (M := mX4_begin) (pc := 47) dX4_begin_47 rfl ?_
  refine wp_iconst (M := mX4_begin) (pc := 48) (v := 0) dX4_begin_48 ci_0 ?_
  refine wp_putI (M := mX4_begin) (pc := 49) fa_X4_53 (Or.inl rfl) dX4_begin_49 hL.1.1 ?_
  refine wp_return (M := mX4_begin) (pc := 52) rfl dX4_begin_52 ?_
  have w0 : (tg h q).1 = q := by rw [hL.1.2]
  refine k _ ⟨hL, ?_, fun t ht => absurd ht (Nat.not_lt_zero _), fun t ht => absurd ht (Nat.not_lt_zero _)⟩ (((((Fr.si w0).tr (Fr.si w0)).tr ((Fr.si w0).tr (Fr.si w0))).tr (((Fr.si w0).tr (Fr.si w0)).tr ((Fr.si w0).tr (Fr.si w0)))).tr ((Fr.si w0).tr (Fr.si w0)))
  unfold NumC
  simp only [gi_si_at]
  refine ⟨⟨?_, Nat.zero_le _⟩, ⟨?_, Nat.zero_le _⟩, ?_, ?_, ?_, ?_, ?_, ?_, ?_, ?_⟩ <;> simp only [upd] <;> rfl
set_option maxHeartbeats 4000000 in
set_option maxRecDepth 100000 in
theorem sp_X4_wealthOf {q : Nat} {l : Lt} {A : Sta} {t : Nat} (hR : RepC h q l A) (ht : t < sN A) (k : Q (.inl (some (.int (wlt A t)))) h) : WPx E mX4_wealthOf 0 [some (.ref q), some (.int (nI t)), none, none, none] [] (0, 0) h Q := by
  have hR2 := hR
  obtain ⟨hL, hN, hT, hO⟩ := hR
  obtain ⟨⟨kq, tq⟩, ⟨rT, kT, tT⟩, ⟨rO, kO, tO⟩, hLT, hLO, hinj⟩ := hL
  obtain ⟨⟨n2, n6⟩, ⟨n3, n12⟩, n4, n5, n6', n7, n8, n9, n10, n11⟩ := hN
  obtain ⟨a1, ⟨a2, a3⟩, ⟨a4, a5, a6⟩, a7, a8, a9⟩ := hLT t (by omega)
  have e4 := hR2.tF ht (k := 4) (by decide)
  have e2 := hR2.tF ht (k := 2) (by decide)
  have e3 := hR2.tF ht (k := 3) (by decide)
  have ed := hR2.debt ht
  refine wp_aload_n (M := mX4_wealthOf) (pc := 0) dX4_wealthOf_0 rfl ?_
  refine wp_getR (M := mX4_wealthOf) (pc := 1) fa_X4_11 rfl dX4_wealthOf_1 (by first | exact kq | exact a2 | exact kO | exact kT) (by first | exact rT | exact rO | exact a1) ?_
  refine wp_iload_n (M := mX4_wealthOf) (pc := 4) dX4_wealthOf_4 rfl ?_
  refine wr_aaload (M := mX4_wealthOf) (pc := 5) dX4_wealthOf_5 (by first | exact kq | exact a2 | exact kO | exact kT) (by decide) rfl (by omega) (by decide) (by first | exact rT | exact rO | exact a1) ?_
  refine so_astore_n (M := mX4_wealthOf) (pc := 6) (lo' := [_, _, _, _, _]) dX4_wealthOf_6 (LE rfl) (LE rfl) (Or.inr rfl) rfl ?_
  refine wp_aload_n (M := mX4_wealthOf) (pc := 7) dX4_wealthOf_7 rfl ?_
  refine wp_getI (M := mX4_wealthOf) (pc := 8) fa_X4_50 rfl dX4_wealthOf_8 (by first | exact kq | exact a2 | exact kO | exact kT) ?_
  refine wp_bipush (M := mX4_wealthOf) (pc := 11) (v := -9) dX4_wealthOf_11 cb_m9 ?_
  refine wp_icmp_ne (M := mX4_wealthOf) (pc := 13) (tgt := 20) dX4_wealthOf_13 rfl (fun t13 => ?_) (fun f13 => ?_)
  · rw [n10] at t13
    refine wp_aload_n (M := mX4_wealthOf) (pc := 20) dX4_wealthOf_20 rfl ?_
    refine wp_getI (M := mX4_wealthOf) (pc := 21) fa_X4_50 rfl dX4_wealthOf_21 (by first | exact kq | exact a2 | exact kO | exact kT) ?_
    refine so_istore_n (M := mX4_wealthOf) (pc := 24) (lo' := [_, _, _, _, _]) dX4_wealthOf_24 (LE rfl) (LE rfl) (Or.inr rfl) rfl ?_
    refine wp_aload_n (M := mX4_wealthOf) (pc := 25) dX4_wealthOf_25 rfl ?_
    refine so_V0 (M := mX4_wealthOf) (pc := 26) cs_X4_wealthOf_130 rfl rfl (LE rfl) (LE rfl) dX4_wealthOf_26 (by first | exact kq | exact a2 | exact kO | exact kT) ?_
    refine sp_X5_credits a2 ?_
    refine kI ?_
    refine wp_aload_n (M := mX4_wealthOf) (pc := 29) dX4_wealthOf_29 rfl ?_
    refine wp_iload_n (M := mX4_wealthOf) (pc := 30) dX4_wealthOf_30 rfl ?_
    refine wp_iconst (M := mX4_wealthOf) (pc := 31) (v := 1) dX4_wealthOf_31 ci_1 ?_
    refine so_V2 (M := mX4_wealthOf) (pc := 32) cs_X4_wealthOf_101 rfl rfl (LE rfl) (LE rfl) dX4_wealthOf_32 (by first | exact kq | exact a2 | exact kO | exact kT) ?_
    refine sp_X4_quantityOf (kd := 1) hR2 (by omega) (by decide) ?_
    refine kI ?_
    refine wp_iadd (M := mX4_wealthOf) (pc := 35) dX4_wealthOf_35 ?_
    refine wp_aload_n (M := mX4_wealthOf) (pc := 36) dX4_wealthOf_36 rfl ?_
    refine so_V0 (M := mX4_wealthOf) (pc := 37) cs_X4_wealthOf_109 rfl rfl (LE rfl) (LE rfl) dX4_wealthOf_37 (by first | exact kq | exact a2 | exact kO | exact kT) ?_
    refine sp_X5_owedInAll a2 a7 a8 ?_
    refine kI ?_
    refine wp_isub (M := mX4_wealthOf) (pc := 40) dX4_wealthOf_40 ?_
    refine so_istore (M := mX4_wealthOf) (pc := 41) (lo' := [_, _, _, _, _]) dX4_wealthOf_41 (LE rfl) (LE rfl) (Or.inr rfl) rfl ?_
    refine wp_aload_n (M := mX4_wealthOf) (pc := 43) dX4_wealthOf_43 rfl ?_
    refine wp_getI (M := mX4_wealthOf) (pc := 44) fa_X4_98 rfl dX4_wealthOf_44 (by first | exact kq | exact a2 | exact kO | exact kT) ?_
    refine wp_aload_n (M := mX4_wealthOf) (pc := 47) dX4_wealthOf_47 rfl ?_
    refine wp_iload_n (M := mX4_wealthOf) (pc := 48) dX4_wealthOf_48 rfl ?_
    refine so_V1 (M := mX4_wealthOf) (pc := 49) cs_X4_wealthOf_105 rfl rfl (LE rfl) (LE rfl) dX4_wealthOf_49 (by first | exact kq | exact a2 | exact kO | exact kT) ?_
    refine sp_X4_cashSetAside hR2 (by omega) ?_
    refine kI ?_
    refine wp_iadd (M := mX4_wealthOf) (pc := 52) dX4_wealthOf_52 ?_
    refine wp_iload_n (M := mX4_wealthOf) (pc := 53) dX4_wealthOf_53 rfl ?_
    refine wp_iload (M := mX4_wealthOf) (pc := 54) dX4_wealthOf_54 rfl ?_
    refine wp_imul (M := mX4_wealthOf) (pc := 56) dX4_wealthOf_56 ?_
    refine wp_iadd (M := mX4_wealthOf) (pc := 57) dX4_wealthOf_57 ?_
    refine wp_ireturn (M := mX4_wealthOf) (pc := 58) rfl dX4_wealthOf_58 ?_
    rw [e4, e2, e3, ed]
    first
    | (rw [n10]; rw [wlt, if_neg t13] at k; exact k)
    | (rw [wlt, if_pos f13] at k; exact k)
    | fail "leaf"
  · rw [n10] at f13
    refine wp_iconst (M := mX4_wealthOf) (pc := 16) (v := 0) dX4_wealthOf_16 ci_0 ?_
    refine wp_goto (M := mX4_wealthOf) (pc := 17) (tgt := 24) dX4_wealthOf_17 rfl ?_
    refine so_istore_n (M := mX4_wealthOf) (pc := 24) (lo' := [_, _, _, _, _]) dX4_wealthOf_24 (LE rfl) (LE rfl) (Or.inr rfl) rfl ?_
    refine wp_aload_n (M := mX4_wealthOf) (pc := 25) dX4_wealthOf_25 rfl ?_
    refine so_V0 (M := mX4_wealthOf) (pc := 26) cs_X4_wealthOf_130 rfl rfl (LE rfl) (LE rfl) dX4_wealthOf_26 (by first | exact kq | exact a2 | exact kO | exact kT) ?_
    refine sp_X5_credits a2 ?_
    refine kI ?_
    refine wp_aload_n (M := mX4_wealthOf) (pc := 29) dX4_wealthOf_29 rfl ?_
    refine wp_iload_n (M := mX4_wealthOf) (pc := 30) dX4_wealthOf_30 rfl ?_
    refine wp_iconst (M := mX4_wealthOf) (pc := 31) (v := 1) dX4_wealthOf_31 ci_1 ?_
    refine so_V2 (M := mX4_wealthOf) (pc := 32) cs_X4_wealthOf_101 rfl rfl (LE rfl) (LE rfl) dX4_wealthOf_32 (by first | exact kq | exact a2 | exact kO | exact kT) ?_
    refine sp_X4_quantityOf (kd := 1) hR2 (by omega) (by decide) ?_
    refine kI ?_
    refine wp_iadd (M := mX4_wealthOf) (pc := 35) dX4_wealthOf_35 ?_
    refine wp_aload_n (M := mX4_wealthOf) (pc := 36) dX4_wealthOf_36 rfl ?_
    refine so_V0 (M := mX4_wealthOf) (pc := 37) cs_X4_wealthOf_109 rfl rfl (LE rfl) (LE rfl) dX4_wealthOf_37 (by first | exact kq | exact a2 | exact kO | exact kT) ?_
    refine sp_X5_owedInAll a2 a7 a8 ?_
    refine kI ?_
    refine wp_isub (M := mX4_wealthOf) (pc := 40) dX4_wealthOf_40 ?_
    refine so_istore (M := mX4_wealthOf) (pc := 41) (lo' := [_, _, _, _, _]) dX4_wealthOf_41 (LE rfl) (LE rfl) (Or.inr rfl) rfl ?_
    refine wp_aload_n (M := mX4_wealthOf) (pc := 43) dX4_wealthOf_43 rfl ?_
    refine wp_getI (M := mX4_wealthOf) (pc := 44) fa_X4_98 rfl dX4_wealthOf_44 (by first | exact kq | exact a2 | exact kO | exact kT) ?_
    refine wp_aload_n (M := mX4_wealthOf) (pc := 47) dX4_wealthOf_47 rfl ?_
    refine wp_iload_n (M := mX4_wealthOf) (pc := 48) dX4_wealthOf_48 rfl ?_
    refine so_V1 (M := mX4_wealthOf) (pc := 49) cs_X4_wealthOf_105 rfl rfl (LE rfl) (LE rfl) dX4_wealthOf_49 (by first | exact kq | exact a2 | exact kO | exact kT) ?_
    refine sp_X4_cashSetAside hR2 (by omega) ?_
    refine kI ?_
    refine wp_iadd (M := mX4_wealthOf) (pc := 52) dX4_wealthOf_52 ?_
    refine wp_iload_n (M := mX4_wealthOf) (pc := 53) dX4_wealthOf_53 rfl ?_
    refine wp_iload (M := mX4_wealthOf) (pc := 54) dX4_wealthOf_54 rfl ?_
    refine wp_imul (M := mX4_wealthOf) (pc := 56) dX4_wealthOf_56 ?_
    refine wp_iadd (M := mX4_wealthOf) (pc := 57) dX4_wealthOf_57 ?_
    refine wp_ireturn (M := mX4_wealthOf) (pc := 58) rfl dX4_wealthOf_58 ?_
    rw [e4, e2, e3, ed]
    first
    | (rw [n10]; rw [wlt, if_neg t13] at k; exact k)
    | (rw [wlt, if_pos f13] at k; exact k)
    | fail "leaf"
set_option maxHeartbeats 4000000 in
set_option maxRecDepth 100000 in
theorem lp_X4_rankByWealth {q : Nat} {l : Lt} {A : Sta} {t : Nat} (hR : RepC h q l A) (ht : t < sN A) (k : Q (.inl (some (.int (nI (rnk A t (sN A)))))) h) : ∀ (m : Nat) (u : Nat) (x5 : Option Value), sN A - u < m → (u ≤ sN A) → WPx E mX4_rankByWealth 11 [some (.ref q), some (.int (nI t)), some (.int (wlt A t)), some (.int (nI (rnk A t u))), some (.int (nI u)), x5] [] (0, 0) h Q := by
  intro m
  induction m with
  | zero => intro u x5 hm; exact absurd hm (Nat.not_lt_zero _)
  | succ m ih =>
    intro u x5 hm hu
    have hR2 := hR
    obtain ⟨hL, hN, hT, hO⟩ := hR
    obtain ⟨⟨kq, tq⟩, ⟨rT, kT, tT⟩, ⟨rO, kO, tO⟩, hLT, hLO, hinj⟩ := hL
    obtain ⟨⟨n2, n6⟩, ⟨n3, n12⟩, n4, n5, n6', n7, n8, n9, n10, n11⟩ := hN
    refine wp_iload (M := mX4_rankByWealth) (pc := 11) dX4_rankByWealth_11 rfl ?_
    refine wp_aload_n (M := mX4_rankByWealth) (pc := 13) dX4_rankByWealth_13 rfl ?_
    refine wp_getI (M := mX4_rankByWealth) (pc := 14) fa_X4_38 rfl dX4_rankByWealth_14 kq ?_
    refine wp_icmp_ge (M := mX4_rankByWealth) (pc := 17) (tgt := 55) dX4_rankByWealth_17 rfl (fun t17 => ?_) (fun f17 => ?_)
    · rw [n2] at t17
      have hi2 := n_ge hu (by omega) t17
      subst hi2
      refine wp_iload_n (M := mX4_rankByWealth) (pc := 55) dX4_rankByWealth_55 rfl ?_
      refine wp_ireturn (M := mX4_rankByWealth) (pc := 56) rfl dX4_rankByWealth_56 ?_
      exact k
    · rw [n2] at f17
      have hlt := n_lt hu (by omega) f17
      refine wp_aload_n (M := mX4_rankByWealth) (pc := 20) dX4_rankByWealth_20 rfl ?_
      refine wp_iload (M := mX4_rankByWealth) (pc := 21) dX4_rankByWealth_21 rfl ?_
      refine so_V1 (M := mX4_rankByWealth) (pc := 23) cs_X4_rankByWealth_133 rfl rfl (LE rfl) (LE rfl) dX4_rankByWealth_23 kq ?_
      refine sp_X4_wealthOf hR2 hlt ?_
      refine kI ?_
      refine so_istore (M := mX4_rankByWealth) (pc := 26) (lo' := [_, _, _, _, _, _]) dX4_rankByWealth_26 (LE rfl) (LE rfl) (Or.inr rfl) rfl ?_
      refine wp_iload (M := mX4_rankByWealth) (pc := 28) dX4_rankByWealth_28 rfl ?_
      refine wp_iload_n (M := mX4_rankByWealth) (pc := 30) dX4_rankByWealth_30 rfl ?_
      refine wp_icmp_gt (M := mX4_rankByWealth) (pc := 31) (tgt := 46) dX4_rankByWealth_31 rfl (fun t31 => ?_) (fun f31 => ?_)
      · refine so_iinc (M := mX4_rankByWealth) (pc := 46) (lo' := [_, _, _, _, _, _]) dX4_rankByWealth_46 rfl ci_1 (LE rfl) rfl ?_
        refine so_iinc (M := mX4_rankByWealth) (pc := 49) (lo' := [_, _, _, _, _, _]) dX4_rankByWealth_49 rfl ci_1 (LE rfl) rfl ?_
        refine wp_goto (M := mX4_rankByWealth) (pc := 52) (tgt := 11) dX4_rankByWealth_52 rfl ?_
        rw [show nI u + 1 = nI (u + 1) from nI_1 u]
        try rw [show nI (rnk A t u) + 1 = nI (rnk A t u + 1) from nI_1 _]
        have hz := ih (u + 1)
        first
        | (rw [rnk_y (Or.inl t31)] at hz; exact hz _ (by omega) (by omega))
        | (rw [rnk_n (fun q9 => by rcases q9 with q9 | q9; exact f31 q9; exact t37 q9.1)] at hz; exact hz _ (by omega) (by omega))
        | (rw [rnk_n (fun q9 => by rcases q9 with q9 | q9; exact f31 q9; exact absurd ((i_le (by omega) (by omega)).mp t43) (by omega))] at hz; exact hz _ (by omega) (by omega))
        | (rw [rnk_y (Or.inr ⟨f37, Nat.lt_of_not_le (fun e => f43 ((i_le (by omega) (by omega)).mpr e))⟩)] at hz; exact hz _ (by omega) (by omega))
        | fail "leaf"
      · refine wp_iload (M := mX4_rankByWealth) (pc := 34) dX4_rankByWealth_34 rfl ?_
        refine wp_iload_n (M := mX4_rankByWealth) (pc := 36) dX4_rankByWealth_36 rfl ?_
        refine wp_icmp_ne (M := mX4_rankByWealth) (pc := 37) (tgt := 49) dX4_rankByWealth_37 rfl (fun t37 => ?_) (fun f37 => ?_)
        · refine so_iinc (M := mX4_rankByWealth) (pc := 49) (lo' := [_, _, _, _, _, _]) dX4_rankByWealth_49 rfl ci_1 (LE rfl) rfl ?_
          refine wp_goto (M := mX4_rankByWealth) (pc := 52) (tgt := 11) dX4_rankByWealth_52 rfl ?_
          rw [show nI u + 1 = nI (u + 1) from nI_1 u]
          try rw [show nI (rnk A t u) + 1 = nI (rnk A t u + 1) from nI_1 _]
          have hz := ih (u + 1)
          first
          | (rw [rnk_y (Or.inl t31)] at hz; exact hz _ (by omega) (by omega))
          | (rw [rnk_n (fun q9 => by rcases q9 with q9 | q9; exact f31 q9; exact t37 q9.1)] at hz; exact hz _ (by omega) (by omega))
          | (rw [rnk_n (fun q9 => by rcases q9 with q9 | q9; exact f31 q9; exact absurd ((i_le (by omega) (by omega)).mp t43) (by omega))] at hz; exact hz _ (by omega) (by omega))
          | (rw [rnk_y (Or.inr ⟨f37, Nat.lt_of_not_le (fun e => f43 ((i_le (by omega) (by omega)).mpr e))⟩)] at hz; exact hz _ (by omega) (by omega))
          | fail "leaf"
        · refine wp_iload (M := mX4_rankByWealth) (pc := 40) dX4_rankByWealth_40 rfl ?_
          refine wp_iload_n (M := mX4_rankByWealth) (pc := 42) dX4_rankByWealth_42 rfl ?_
          refine wp_icmp_ge (M := mX4_rankByWealth) (pc := 43) (tgt := 49) dX4_rankByWealth_43 rfl (fun t43 => ?_) (fun f43 => ?_)
          · refine so_iinc (M := mX4_rankByWealth) (pc := 49) (lo' := [_, _, _, _, _, _]) dX4_rankByWealth_49 rfl ci_1 (LE rfl) rfl ?_
            refine wp_goto (M := mX4_rankByWealth) (pc := 52) (tgt := 11) dX4_rankByWealth_52 rfl ?_
            rw [show nI u + 1 = nI (u + 1) from nI_1 u]
            try rw [show nI (rnk A t u) + 1 = nI (rnk A t u + 1) from nI_1 _]
            have hz := ih (u + 1)
            first
            | (rw [rnk_y (Or.inl t31)] at hz; exact hz _ (by omega) (by omega))
            | (rw [rnk_n (fun q9 => by rcases q9 with q9 | q9; exact f31 q9; exact t37 q9.1)] at hz; exact hz _ (by omega) (by omega))
            | (rw [rnk_n (fun q9 => by rcases q9 with q9 | q9; exact f31 q9; exact absurd ((i_le (by omega) (by omega)).mp t43) (by omega))] at hz; exact hz _ (by omega) (by omega))
            | (rw [rnk_y (Or.inr ⟨f37, Nat.lt_of_not_le (fun e => f43 ((i_le (by omega) (by omega)).mpr e))⟩)] at hz; exact hz _ (by omega) (by omega))
            | fail "leaf"
          · refine so_iinc (M := mX4_rankByWealth) (pc := 46) (lo' := [_, _, _, _, _, _]) dX4_rankByWealth_46 rfl ci_1 (LE rfl) rfl ?_
            refine so_iinc (M := mX4_rankByWealth) (pc := 49) (lo' := [_, _, _, _, _, _]) dX4_rankByWealth_49 rfl ci_1 (LE rfl) rfl ?_
            refine wp_goto (M := mX4_rankByWealth) (pc := 52) (tgt := 11) dX4_rankByWealth_52 rfl ?_
            rw [show nI u + 1 = nI (u + 1) from nI_1 u]
            try rw [show nI (rnk A t u) + 1 = nI (rnk A t u + 1) from nI_1 _]
            have hz := ih (u + 1)
            first
            | (rw [rnk_y (Or.inl t31)] at hz; exact hz _ (by omega) (by omega))
            | (rw [rnk_n (fun q9 => by rcases q9 with q9 | q9; exact f31 q9; exact t37 q9.1)] at hz; exact hz _ (by omega) (by omega))
            | (rw [rnk_n (fun q9 => by rcases q9 with q9 | q9; exact f31 q9; exact absurd ((i_le (by omega) (by omega)).mp t43) (by omega))] at hz; exact hz _ (by omega) (by omega))
            | (rw [rnk_y (Or.inr ⟨f37, Nat.lt_of_not_le (fun e => f43 ((i_le (by omega) (by omega)).mpr e))⟩)] at hz; exact hz _ (by omega) (by omega))
            | fail "leaf"
set_option maxHeartbeats 4000000 in
set_option maxRecDepth 100000 in
theorem sp_X4_rankByWealth {q : Nat} {l : Lt} {A : Sta} {t : Nat} (hR : RepC h q l A) (ht : t < sN A) (k : Q (.inl (some (.int (nI (rnk A t (sN A)))))) h) : WPx E mX4_rankByWealth 0 [some (.ref q), some (.int (nI t)), none, none, none, none] [] (0, 0) h Q := by
  refine wp_aload_n (M := mX4_rankByWealth) (pc := 0) dX4_rankByWealth_0 rfl ?_
  refine wp_iload_n (M := mX4_rankByWealth) (pc := 1) dX4_rankByWealth_1 rfl ?_
  refine so_V1 (M := mX4_rankByWealth) (pc := 2) cs_X4_rankByWealth_133 rfl rfl (LE rfl) (LE rfl) dX4_rankByWealth_2 hR.1.1.1 ?_
  refine sp_X4_wealthOf hR ht ?_
  refine kI ?_
  refine so_istore_n (M := mX4_rankByWealth) (pc := 5) (lo' := [_, _, _, _, _, _]) dX4_rankByWealth_5 (LE rfl) (LE rfl) (Or.inr rfl) rfl ?_
  refine wp_iconst (M := mX4_rankByWealth) (pc := 6) (v := 0) dX4_rankByWealth_6 ci_0 ?_
  refine so_istore_n (M := mX4_rankByWealth) (pc := 7) (lo' := [_, _, _, _, _, _]) dX4_rankByWealth_7 (LE rfl) (LE rfl) (Or.inr rfl) rfl ?_
  refine wp_iconst (M := mX4_rankByWealth) (pc := 8) (v := 0) dX4_rankByWealth_8 ci_0 ?_
  refine so_istore (M := mX4_rankByWealth) (pc := 9) (lo' := [_, _, _, _, _, _]) dX4_rankByWealth_9 (LE rfl) (LE rfl) (Or.inr rfl) rfl ?_
  exact lp_X4_rankByWealth hR ht k (sN A + 1) 0 none (by omega) (by omega)
theorem bgF_lt {f : Nat → Int32} {a b c : Int32} {j : Nat} (hj : j < 8) : bgF f a b c j = bgF (fun _ => 0) a b c j := by
  have : j = 0 ∨ j = 1 ∨ j = 2 ∨ j = 3 ∨ j = 4 ∨ j = 5 ∨ j = 6 ∨ j = 7 := by omega
  rcases this with rfl | rfl | rfl | rfl | rfl | rfl | rfl | rfl <;> rfl
theorem RepC.addT {h h' : PH} {q : Nat} {l : Lt} {A : Sta} {a b c : Int32} (H : RepC h q l A) (h6 : sN A < 6) (hk : kd h' = kd h) (hr : gr h' = gr h) (ht : tg h' = tg h) (hne : ∀ x, x ≠ q → x ≠ lT l (sN A) → x ≠ lM l (sN A) → x ≠ lW l (sN A) → gi h' x = gi h x) (hT : TenC h' l (sN A) (bgF (fun _ => 0) a b c, [], [])) (hN2 : gi h' q = upd (gi h q) 2 (nI (sN A + 1))) : RepC h' q l (addT A a b c) := by
  obtain ⟨hL, hN0, hT0, hO0⟩ := H
  have hL' : Lay h' q l := by
    unfold Lay LayT LayO at hL ⊢
    rw [hk, hr, ht]; exact hL
  obtain ⟨-, ⟨-, t1⟩, ⟨-, -, t2⟩, -, -, t3⟩ := hL.2.2.2.1 (sN A) h6
  have e0 := hL.1.2
  refine ⟨hL', ?_, fun t' h1 => ?_, fun i h1 => ?_⟩
  · obtain ⟨⟨n2, n6⟩, ⟨n3, n12⟩, n4, n5, n6', n7, n8, n9, n10, n11⟩ := hN0
    unfold NumC
    rw [hN2]
    exact ⟨⟨rfl, h6⟩, ⟨n3, n12⟩, n4, n5, n6', n7, n8, n9, n10, n11⟩
  · show TenC h' l t' (u1 (sT A) (sN A) (bgF (fun _ => 0) a b c, [], []) t')
    have h1' : t' < sN A + 1 := h1
    by_cases e : t' = sN A
    · rw [e, u1_at]; exact hT
    · rw [u1_ne _ _ e]
      obtain ⟨-, ⟨-, s1⟩, ⟨-, -, s2⟩, -, -, s3⟩ := hL.2.2.2.1 t' (by omega)
      have := hT0 t' (by omega)
      unfold TenC at this ⊢
      rw [hne _ (ne_tg s1 e0 (by simp)) (ne_tg s1 t1 (by simp [e])) (ne_tg s1 t2 (by simp)) (ne_tg s1 t3 (by simp)), hne _ (ne_tg s2 e0 (by simp)) (ne_tg s2 t1 (by simp)) (ne_tg s2 t2 (by simp [e])) (ne_tg s2 t3 (by simp)), hne _ (ne_tg s3 e0 (by simp)) (ne_tg s3 t1 (by simp)) (ne_tg s3 t2 (by simp)) (ne_tg s3 t3 (by simp [e]))]
      exact this
  · have h1' : i < (sO A).length := h1
    obtain ⟨-, -, j, s1⟩ := hL.2.2.2.2.1 i (by have := hN0.2.1.2; omega)
    obtain ⟨w1, w2, w3⟩ := hO0 i h1'
    show OrdC h' (lO l i) (sN A + 1) ((sO A).getD i (0, 0, 0, 0))
    unfold OrdC
    rw [hne _ (ne_tg s1 e0 (by simp)) (ne_tg s1 t1 (by simp)) (ne_tg s1 t2 (by simp)) (ne_tg s1 t3 (by simp))]
    exact ⟨w1, by omega, w3⟩
set_option maxHeartbeats 4000000 in
set_option maxRecDepth 100000 in
theorem sp_X4_addTenant {q : Nat} {l : Lt} {A : Sta} {a b c : Int32} (hR : RepC h q l A) (h6 : sN A < 6) (k : ∀ h', RepC h' q l (addT A a b c) → Fr (fun x => x = q) h h' → Q (.inl none) h') : WPx E mX4_addTenant 0 [some (.ref q), some (.int a), some (.int b), some (.int c)] [] (0, 0) h Q := by
  have hR2 := hR
  obtain ⟨hL, hN, hT, hO⟩ := hR
  obtain ⟨⟨kq, tq⟩, ⟨rT, kT, tT⟩, ⟨rO, kO, tO⟩, hLT, hLO, hinj⟩ := hL
  obtain ⟨⟨n2, n6⟩, ⟨n3, n12⟩, n4, n5, n6', n7, n8, n9, n10, n11⟩ := hN
  obtain ⟨a1, ⟨a2, a3⟩, ⟨a4, a5, a6⟩, a7, a8, a9⟩ := hLT (sN A) h6
  have x1 : lM l (sN A) ≠ lT l (sN A) := ne_tg a6 a3 (by simp)
  have x2 : lW l (sN A) ≠ lT l (sN A) := ne_tg a9 a3 (by simp)
  have x3 : q ≠ lT l (sN A) := ne_tg tq a3 (by simp)
  have x4 : q ≠ lM l (sN A) := ne_tg tq a6 (by simp)
  have x5 : q ≠ lW l (sN A) := ne_tg tq a9 (by simp)
  have x6 : lW l (sN A) ≠ lM l (sN A) := ne_tg a9 a6 (by simp)
  refine wp_aload_n (M := mX4_addTenant) (pc := 0) dX4_addTenant_0 rfl ?_
  refine wp_getI (M := mX4_addTenant) (pc := 1) fa_X4_38 rfl dX4_addTenant_1 (by first | exact kq | exact kT | exact a2) ?_
  refine wp_if_lt (M := mX4_addTenant) (pc := 4) (tgt := 44) dX4_addTenant_4 rfl (fun c4 => ?_) (fun c4 => ?_)
  · rw [n2] at c4; exact absurd c4 (nI_pos (by omega))
  · refine wp_aload_n (M := mX4_addTenant) (pc := 7) dX4_addTenant_7 rfl ?_
    refine wp_getI (M := mX4_addTenant) (pc := 8) fa_X4_38 rfl dX4_addTenant_8 (by first | exact kq | exact kT | exact a2) ?_
    refine wp_aload_n (M := mX4_addTenant) (pc := 11) dX4_addTenant_11 rfl ?_
    refine wp_getR (M := mX4_addTenant) (pc := 12) fa_X4_11 rfl dX4_addTenant_12 (by first | exact kq | exact kT | exact a2) (by first | exact rT | exact a1) ?_
    refine wp_alen (M := mX4_addTenant) (pc := 15) dX4_addTenant_15 (by first | exact kq | exact kT | exact a2) (by decide) ?_
    refine wp_icmp_ge (M := mX4_addTenant) (pc := 16) (tgt := 44) dX4_addTenant_16 rfl (fun c16 => ?_) (fun c16 => ?_)
    · rw [n2] at c16; exact absurd ((i_le (by decide) (by omega)).mp c16) (by omega)
    · refine wp_aload_n (M := mX4_addTenant) (pc := 19) dX4_addTenant_19 rfl ?_
      refine wp_getR (M := mX4_addTenant) (pc := 20) fa_X4_11 rfl dX4_addTenant_20 (by first | exact kq | exact kT | exact a2) (by first | exact rT | exact a1) ?_
      refine wp_aload_n (M := mX4_addTenant) (pc := 23) dX4_addTenant_23 rfl ?_
      refine wp_getI (M := mX4_addTenant) (pc := 24) fa_X4_38 rfl dX4_addTenant_24 (by first | exact kq | exact kT | exact a2) ?_
      refine wr_aaload (M := mX4_addTenant) (pc := 27) dX4_addTenant_27 (by first | exact kq | exact kT | exact a2) (by decide) n2 h6 (by decide) (by first | exact rT | exact a1) ?_
      refine wp_iload_n (M := mX4_addTenant) (pc := 28) dX4_addTenant_28 rfl ?_
      refine wp_iload_n (M := mX4_addTenant) (pc := 29) dX4_addTenant_29 rfl ?_
      refine wp_iload_n (M := mX4_addTenant) (pc := 30) dX4_addTenant_30 rfl ?_
      refine so_V3 (M := mX4_addTenant) (pc := 31) cs_X4_addTenant_56 rfl rfl (LE rfl) (LE rfl) dX4_addTenant_31 (by first | exact kq | exact kT | exact a2) ?_
      refine sp_X5_begin a2 a7 a8 x2 ?_
      refine kV ?_
      refine wp_aload_n (M := mX4_addTenant) (pc := 34) dX4_addTenant_34 rfl ?_
      refine wp_dup (M := mX4_addTenant) (pc := 35) dX4_addTenant_35 rfl ?_
      refine wp_getI (M := mX4_addTenant) (pc := 36) fa_X4_38 rfl dX4_addTenant_36 (by first | exact kq | exact kT | exact a2) ?_
      refine wp_iconst (M := mX4_addTenant) (pc := 39) (v := 1) dX4_addTenant_39 ci_1 ?_
      refine wp_iadd (M := mX4_addTenant) (pc := 40) dX4_addTenant_40 ?_
      refine wp_putI (M := mX4_addTenant) (pc := 41) fa_X4_38 (Or.inl rfl) dX4_addTenant_41 (by first | exact kq | exact kT | exact a2) ?_
      refine wp_return (M := mX4_addTenant) (pc := 44) rfl dX4_addTenant_44 ?_
      have e1 : gi (sw (sw h (lT l (sN A)) (bgF (gi h (lT l (sN A))) a b c)) (lW l (sN A)) (zr 51 (gi h (lW l (sN A))))) q = gi h q := by rw [gi_sw_ne _ _ x5, gi_sw_ne _ _ x3]
      rw [e1, n2, show nI (sN A) + 1 = nI (sN A + 1) from nI_1 _]
      have w0 : (tg h q).1 = q := by rw [tq]
      have w1 : (tg h (lT l (sN A))).1 = q := by rw [a3]
      have w3 : (tg h (lW l (sN A))).1 = q := by rw [a9]
      refine k _ (hR2.addT h6 rfl rfl rfl (fun x y1 y2 y3 y4 => by rw [gi_si_ne _ _ _ y1, gi_sw_ne _ _ y4, gi_sw_ne _ _ y2]) ?_ (by rw [gi_si_at, e1])) (((Fr.sw w1).tr (Fr.sw w3)).tr (Fr.si w0))
      refine ⟨fun j hj => ?_, ?_, Nat.zero_le _, fun j hj => absurd hj (Nat.not_lt_zero _), fun j hj => ?_⟩
      · rw [gi_si_ne _ _ _ x3.symm, gi_sw_ne _ _ x2.symm, gi_sw_at]; exact bgF_lt (by omega)
      · rw [gi_si_ne _ _ _ x3.symm, gi_sw_ne _ _ x2.symm, gi_sw_at]; rfl
      · rw [gi_si_ne _ _ _ x5.symm, gi_sw_at, zr, if_pos hj]; rfl
set_option maxHeartbeats 4000000 in
set_option maxRecDepth 100000 in
theorem lp_X4_earliestDueTime {q : Nat} {l : Lt} {A : Sta} {t : Nat} (hR : RepC h q l A) (ht : t < sN A) (hti : sTi A + 60 < 2 ^ 31) (hm50 : sTm A ≤ 50) (k : Q (.inl (some (.int (edA A t)))) h) : ∀ (m : Nat) (w : Nat), sTm A + 1 - w < m → (w ≤ sTm A + 1) → (edA A t = edt (ring (sT A t).2.2) (sTi A) (sTm A + 1 - w) w) → WPx E mX4_earliestDueTime 2 [some (.ref q), some (.ref (lT l t)), some (.int (nI w))] [] (0, 0) h Q := by
  intro m
  induction m with
  | zero => intro w hm; exact absurd hm (Nat.not_lt_zero _)
  | succ m ih =>
    intro w hm hw he
    have hR2 := hR
    obtain ⟨hL, hN, hT, hO⟩ := hR
    obtain ⟨⟨kq, tq⟩, ⟨rT, kT, tT⟩, ⟨rO, kO, tO⟩, hLT, hLO, hinj⟩ := hL
    obtain ⟨⟨n2, n6⟩, ⟨n3, n12⟩, n4, n5, n6', n7, n8, n9, n10, n11⟩ := hN
    obtain ⟨a1, ⟨a2, a3⟩, ⟨a4, a5, a6⟩, a7, a8, a9⟩ := hLT t (by omega)
    have hrg := (hT t ht).2.2.2.2 ((sTi A + w) % 51) (Nat.mod_lt _ (by decide))
    refine wp_iload_n (M := mX4_earliestDueTime) (pc := 2) dX4_earliestDueTime_2 rfl ?_
    refine wp_aload_n (M := mX4_earliestDueTime) (pc := 3) dX4_earliestDueTime_3 rfl ?_
    refine wp_getI (M := mX4_earliestDueTime) (pc := 4) fa_X4_32 rfl dX4_earliestDueTime_4 (by first | exact kq | exact a2) ?_
    refine wp_icmp_gt (M := mX4_earliestDueTime) (pc := 7) (tgt := 36) dX4_earliestDueTime_7 rfl (fun t7 => ?_) (fun f7 => ?_)
    · rw [n6'] at t7
      have hw2 : w = sTm A + 1 := by
        have h9 : sTm A < w := Nat.lt_of_not_le (fun e => Int32.not_le.mpr t7 ((i_le (by omega) (by omega)).mpr e))
        omega
      refine wp_bipush (M := mX4_earliestDueTime) (pc := 36) (v := -9) dX4_earliestDueTime_36 cb_m9 ?_
      refine wp_ireturn (M := mX4_earliestDueTime) (pc := 38) rfl dX4_earliestDueTime_38 ?_
      rw [he, show sTm A + 1 - w = 0 by omega] at k
      exact k
    · rw [n6'] at f7
      have hlt : w ≤ sTm A := (i_le (by omega) (by omega)).mp (Int32.not_lt.mp f7)
      rw [show sTm A + 1 - w = (sTm A - w) + 1 by omega] at he
      refine wp_aload_n (M := mX4_earliestDueTime) (pc := 10) dX4_earliestDueTime_10 rfl ?_
      refine wp_aload_n (M := mX4_earliestDueTime) (pc := 11) dX4_earliestDueTime_11 rfl ?_
      refine wp_getI (M := mX4_earliestDueTime) (pc := 12) fa_X4_44 rfl dX4_earliestDueTime_12 (by first | exact kq | exact a2) ?_
      refine wp_iload_n (M := mX4_earliestDueTime) (pc := 15) dX4_earliestDueTime_15 rfl ?_
      refine wp_iadd (M := mX4_earliestDueTime) (pc := 16) dX4_earliestDueTime_16 ?_
      rw [n8, show nI (sTi A) + nI w = nI (sTi A + w) from nI_add _ _]
      refine so_V1 (M := mX4_earliestDueTime) (pc := 17) cs_X4_earliestDueTime_127 rfl rfl (LE rfl) (LE rfl) dX4_earliestDueTime_17 (by first | exact kq | exact a2) ?_
      refine sp_X5_owedAt a2 a7 a8 (by omega) ?_
      refine kI ?_
      refine wp_if_le (M := mX4_earliestDueTime) (pc := 20) (tgt := 30) dX4_earliestDueTime_20 rfl (fun t20 => ?_) (fun f20 => ?_)
      · rw [hrg] at t20
        refine so_iinc (M := mX4_earliestDueTime) (pc := 30) (lo' := [_, _, _]) dX4_earliestDueTime_30 rfl ci_1 (LE rfl) rfl ?_
        refine wp_goto (M := mX4_earliestDueTime) (pc := 33) (tgt := 2) dX4_earliestDueTime_33 rfl ?_
        rw [show nI w + 1 = nI (w + 1) from nI_1 w]
        rw [edt_n (Int32.not_lt.mpr t20), show sTm A - w = sTm A + 1 - (w + 1) by omega] at he
        exact ih (w + 1) (by omega) (by omega) he
      · rw [hrg] at f20
        refine wp_aload_n (M := mX4_earliestDueTime) (pc := 23) dX4_earliestDueTime_23 rfl ?_
        refine wp_getI (M := mX4_earliestDueTime) (pc := 24) fa_X4_44 rfl dX4_earliestDueTime_24 (by first | exact kq | exact a2) ?_
        refine wp_iload_n (M := mX4_earliestDueTime) (pc := 27) dX4_earliestDueTime_27 rfl ?_
        refine wp_iadd (M := mX4_earliestDueTime) (pc := 28) dX4_earliestDueTime_28 ?_
        refine wp_ireturn (M := mX4_earliestDueTime) (pc := 29) rfl dX4_earliestDueTime_29 ?_
        rw [n8, show nI (sTi A) + nI w = nI (sTi A + w) from nI_add _ _]
        rw [he, edt_y (Int32.not_le.mp f20)] at k
        exact k
set_option maxHeartbeats 4000000 in
set_option maxRecDepth 100000 in
theorem sp_X4_earliestDueTime {q : Nat} {l : Lt} {A : Sta} {t : Nat} (hR : RepC h q l A) (ht : t < sN A) (hti : sTi A + 60 < 2 ^ 31) (hm50 : sTm A ≤ 50) (k : Q (.inl (some (.int (edA A t)))) h) : WPx E mX4_earliestDueTime 0 [some (.ref q), some (.ref (lT l t)), none] [] (0, 0) h Q := by
  refine wp_iconst (M := mX4_earliestDueTime) (pc := 0) (v := 0) dX4_earliestDueTime_0 ci_0 ?_
  refine so_istore_n (M := mX4_earliestDueTime) (pc := 1) (lo' := [_, _, _]) dX4_earliestDueTime_1 (LE rfl) (LE rfl) (Or.inr rfl) rfl ?_
  exact lp_X4_earliestDueTime hR ht hti hm50 k (sTm A + 2) 0 (by omega) (by omega) rfl
set_option maxHeartbeats 4000000 in
set_option maxRecDepth 100000 in
theorem lp_X4_areAllQueuesFull {q : Nat} {l : Lt} {A : Sta} (hR : RepC h q l A) (k1 : fullU A (sN A) → Q (.inl (some (.int 1))) h) (k0 : ¬ fullU A (sN A) → Q (.inl (some (.int 0))) h) : ∀ (m : Nat) (i : Nat), sN A - i < m → (i ≤ sN A) → (fullU A i) → WPx E mX4_areAllQueuesFull 2 [some (.ref q), some (.int (nI i))] [] (0, 0) h Q := by
  intro m
  induction m with
  | zero => intro i hm; exact absurd hm (Nat.not_lt_zero _)
  | succ m ih =>
    intro i hm hi hf
    have hR2 := hR
    obtain ⟨hL, hN, hT, hO⟩ := hR
    obtain ⟨⟨kq, tq⟩, ⟨rT, kT, tT⟩, ⟨rO, kO, tO⟩, hLT, hLO, hinj⟩ := hL
    obtain ⟨⟨n2, n6⟩, ⟨n3, n12⟩, n4, n5, n6', n7, n8, n9, n10, n11⟩ := hN
    refine wp_iload_n (M := mX4_areAllQueuesFull) (pc := 2) dX4_areAllQueuesFull_2 rfl ?_
    refine wp_aload_n (M := mX4_areAllQueuesFull) (pc := 3) dX4_areAllQueuesFull_3 rfl ?_
    refine wp_getI (M := mX4_areAllQueuesFull) (pc := 4) fa_X4_38 rfl dX4_areAllQueuesFull_4 (by first | exact kq | exact kT | exact (hLT i (by omega)).2.1.1) ?_
    refine wp_icmp_ge (M := mX4_areAllQueuesFull) (pc := 7) (tgt := 30) dX4_areAllQueuesFull_7 rfl (fun t7 => ?_) (fun f7 => ?_)
    · rw [n2] at t7
      have hi2 := n_ge hi (by omega) t7
      subst hi2
      refine wp_iconst (M := mX4_areAllQueuesFull) (pc := 30) (v := 1) dX4_areAllQueuesFull_30 ci_1 ?_
      refine wp_zreturn (M := mX4_areAllQueuesFull) (pc := 31) rfl (by decide) dX4_areAllQueuesFull_31 ?_
      exact k1 hf
    · rw [n2] at f7
      have hlt := n_lt hi (by omega) f7
      obtain ⟨a1, ⟨a2, a3⟩, ⟨a4, a5, a6⟩, a7, a8, a9⟩ := hLT i (by omega)
      obtain ⟨v1, v2, v3, v4, v5⟩ := hT i hlt
      refine wp_aload_n (M := mX4_areAllQueuesFull) (pc := 10) dX4_areAllQueuesFull_10 rfl ?_
      refine wp_getR (M := mX4_areAllQueuesFull) (pc := 11) fa_X4_11 rfl dX4_areAllQueuesFull_11 (by first | exact kq | exact kT | exact (hLT i (by omega)).2.1.1) (by first | exact rT | exact (hLT i (by omega)).1) ?_
      refine wp_iload_n (M := mX4_areAllQueuesFull) (pc := 14) dX4_areAllQueuesFull_14 rfl ?_
      refine wr_aaload (M := mX4_areAllQueuesFull) (pc := 15) dX4_areAllQueuesFull_15 kT (by decide) rfl (by omega) (by decide) (hLT i (by omega)).1 ?_
      refine so_V0 (M := mX4_areAllQueuesFull) (pc := 16) cs_X4_areAllQueuesFull_82 rfl rfl (LE rfl) (LE rfl) dX4_areAllQueuesFull_16 (by first | exact kq | exact kT | exact (hLT i (by omega)).2.1.1) ?_
      refine sp_X5_isQueueFull a2 a4 a5 ?_
      refine kI ?_
      refine wp_if_ne (M := mX4_areAllQueuesFull) (pc := 19) (tgt := 24) dX4_areAllQueuesFull_19 rfl (fun t19 => ?_) (fun f19 => ?_)
      · refine so_iinc (M := mX4_areAllQueuesFull) (pc := 24) (lo' := [_, _]) dX4_areAllQueuesFull_24 rfl ci_1 (LE rfl) rfl ?_
        refine wp_goto (M := mX4_areAllQueuesFull) (pc := 27) (tgt := 2) dX4_areAllQueuesFull_27 rfl ?_
        rw [show nI i + 1 = nI (i + 1) from nI_1 i]
        refine ih (i + 1) (by omega) (by omega) (fun t h9 => ?_)
        by_cases e9 : t = i
        · rw [e9]
          refine Nat.le_of_not_lt (fun q9 => ?_)
          rw [v2, if_pos ((i_lt (by omega) (by decide)).mpr q9)] at t19
          exact t19 rfl
        · exact hf t (by omega)
      · refine wp_iconst (M := mX4_areAllQueuesFull) (pc := 22) (v := 0) dX4_areAllQueuesFull_22 ci_0 ?_
        refine wp_zreturn (M := mX4_areAllQueuesFull) (pc := 23) rfl (by decide) dX4_areAllQueuesFull_23 ?_
        refine k0 (fun q9 => ?_)
        have q8 := q9 i hlt
        rw [v2, if_neg (fun e => absurd ((i_lt (by omega) (by decide)).mp e) (by omega))] at f19
        exact absurd f19 (by decide)
set_option maxHeartbeats 4000000 in
set_option maxRecDepth 100000 in
theorem sp_X4_areAllQueuesFull {q : Nat} {l : Lt} {A : Sta} (hR : RepC h q l A) (k1 : fullU A (sN A) → Q (.inl (some (.int 1))) h) (k0 : ¬ fullU A (sN A) → Q (.inl (some (.int 0))) h) : WPx E mX4_areAllQueuesFull 0 [some (.ref q), none] [] (0, 0) h Q := by
  refine wp_iconst (M := mX4_areAllQueuesFull) (pc := 0) (v := 0) dX4_areAllQueuesFull_0 ci_0 ?_
  refine so_istore_n (M := mX4_areAllQueuesFull) (pc := 1) (lo' := [_, _]) dX4_areAllQueuesFull_1 (LE rfl) (LE rfl) (Or.inr rfl) rfl ?_
  exact lp_X4_areAllQueuesFull hR k1 k0 (sN A + 1) 0 (by omega) (by omega) (fun t ht => absurd ht (Nat.not_lt_zero _))
theorem sw_out {n j : Nat} (h : n < j) (h2 : j < 2 ^ 31) : (n : Int) < (nI j).toInt := by
  have e : (nI j).toInt = (j : Int) := by
    show (Int32.ofNat j).toInt = _
    rw [Int32.toInt_ofNat_of_lt h2]
  rw [e]; omega
/-- what number(what) answers -/
def numA (A : Sta) : Nat → Int32
  | 0 => nI (sN A)
  | 3 => nI (sTm A)
  | 5 => nI (sTi A)
  | 8 => nI (sO A).length
  | j => sG A j
def tnumA (A : Sta) (t : Nat) : Nat → Int32
  | 5 => qtyOf A t 1
  | 6 => csa A t
  | 7 => dsum (sT A t).2.2
  | 8 => edA A t
  | 9 => nI (sT A t).2.1.length
  | 10 => fT A t 5
  | 11 => if susp A t then fT A t 6 else -9
  | j => fT A t j
set_option maxHeartbeats 4000000 in
set_option maxRecDepth 100000 in
theorem sp_X4_number {q : Nat} {l : Lt} {A : Sta} {j : Nat} (hR : RepC h q l A) (hj : j < 10) (k : Q (.inl (some (.int (numA A j)))) h) : WPx E mX4_number 0 [some (.ref q), some (.int (nI j))] [] (0, 0) h Q := by
  obtain ⟨hL, hN, hT, hO⟩ := hR
  obtain ⟨⟨kq, tq⟩, ⟨rT, kT, tT⟩, ⟨rO, kO, tO⟩, hLT, hLO, hinj⟩ := hL
  obtain ⟨⟨n2, n6⟩, ⟨n3, n12⟩, n4, n5, n6', n7, n8, n9, n10, n11⟩ := hN
  refine wp_iload_n (M := mX4_number) (pc := 0) dX4_number_0 rfl ?_
  have sw1 : j = 0 ∨ j = 1 ∨ j = 2 ∨ j = 3 ∨ j = 4 ∨ j = 5 ∨ j = 6 ∨ j = 7 ∨ j = 8 ∨ 8 < j := by omega
  rcases sw1 with rfl | rfl | rfl | rfl | rfl | rfl | rfl | rfl | rfl | sw1
  · refine wp_tableIn (M := mX4_number) (pc := 1) (x := nI 0) (tgt := 52) dX4_number_1 (by decide) (by decide) rfl rfl ?_
    refine wp_aload_n (M := mX4_number) (pc := 52) dX4_number_52 rfl ?_
    refine wp_getI (M := mX4_number) (pc := 53) fa_X4_38 rfl dX4_number_53 kq ?_
    refine wp_ireturn (M := mX4_number) (pc := 56) rfl dX4_number_56 ?_
    rw [n2]; exact k
  · refine wp_tableIn (M := mX4_number) (pc := 1) (x := nI 1) (tgt := 57) dX4_number_1 (by decide) (by decide) rfl rfl ?_
    refine wp_aload_n (M := mX4_number) (pc := 57) dX4_number_57 rfl ?_
    refine wp_getI (M := mX4_number) (pc := 58) fa_X4_25 rfl dX4_number_58 kq ?_
    refine wp_ireturn (M := mX4_number) (pc := 61) rfl dX4_number_61 ?_
    rw [n4]; exact k
  · refine wp_tableIn (M := mX4_number) (pc := 1) (x := nI 2) (tgt := 62) dX4_number_1 (by decide) (by decide) rfl rfl ?_
    refine wp_aload_n (M := mX4_number) (pc := 62) dX4_number_62 rfl ?_
    refine wp_getI (M := mX4_number) (pc := 63) fa_X4_29 rfl dX4_number_63 kq ?_
    refine wp_ireturn (M := mX4_number) (pc := 66) rfl dX4_number_66 ?_
    rw [n5]; exact k
  · refine wp_tableIn (M := mX4_number) (pc := 1) (x := nI 3) (tgt := 67) dX4_number_1 (by decide) (by decide) rfl rfl ?_
    refine wp_aload_n (M := mX4_number) (pc := 67) dX4_number_67 rfl ?_
    refine wp_getI (M := mX4_number) (pc := 68) fa_X4_32 rfl dX4_number_68 kq ?_
    refine wp_ireturn (M := mX4_number) (pc := 71) rfl dX4_number_71 ?_
    rw [n6']; exact k
  · refine wp_tableIn (M := mX4_number) (pc := 1) (x := nI 4) (tgt := 72) dX4_number_1 (by decide) (by decide) rfl rfl ?_
    refine wp_aload_n (M := mX4_number) (pc := 72) dX4_number_72 rfl ?_
    refine wp_getI (M := mX4_number) (pc := 73) fa_X4_35 rfl dX4_number_73 kq ?_
    refine wp_ireturn (M := mX4_number) (pc := 76) rfl dX4_number_76 ?_
    rw [n7]; exact k
  · refine wp_tableIn (M := mX4_number) (pc := 1) (x := nI 5) (tgt := 77) dX4_number_1 (by decide) (by decide) rfl rfl ?_
    refine wp_aload_n (M := mX4_number) (pc := 77) dX4_number_77 rfl ?_
    refine wp_getI (M := mX4_number) (pc := 78) fa_X4_44 rfl dX4_number_78 kq ?_
    refine wp_ireturn (M := mX4_number) (pc := 81) rfl dX4_number_81 ?_
    rw [n8]; exact k
  · refine wp_tableIn (M := mX4_number) (pc := 1) (x := nI 6) (tgt := 82) dX4_number_1 (by decide) (by decide) rfl rfl ?_
    refine wp_aload_n (M := mX4_number) (pc := 82) dX4_number_82 rfl ?_
    refine wp_getI (M := mX4_number) (pc := 83) fa_X4_47 rfl dX4_number_83 kq ?_
    refine wp_ireturn (M := mX4_number) (pc := 86) rfl dX4_number_86 ?_
    rw [n9]; exact k
  · refine wp_tableIn (M := mX4_number) (pc := 1) (x := nI 7) (tgt := 87) dX4_number_1 (by decide) (by decide) rfl rfl ?_
    refine wp_aload_n (M := mX4_number) (pc := 87) dX4_number_87 rfl ?_
    refine wp_getI (M := mX4_number) (pc := 88) fa_X4_50 rfl dX4_number_88 kq ?_
    refine wp_ireturn (M := mX4_number) (pc := 91) rfl dX4_number_91 ?_
    rw [n10]; exact k
  · refine wp_tableIn (M := mX4_number) (pc := 1) (x := nI 8) (tgt := 92) dX4_number_1 (by decide) (by decide) rfl rfl ?_
    refine wp_aload_n (M := mX4_number) (pc := 92) dX4_number_92 rfl ?_
    refine wp_getI (M := mX4_number) (pc := 93) fa_X4_41 rfl dX4_number_93 kq ?_
    refine wp_ireturn (M := mX4_number) (pc := 96) rfl dX4_number_96 ?_
    rw [n3]; exact k
  · refine wp_tableOut (M := mX4_number) (pc := 1) (x := nI j) (tgt := 97) dX4_number_1 (Or.inr (sw_out sw1 (by omega))) rfl ?_
    refine wp_aload_n (M := mX4_number) (pc := 97) dX4_number_97 rfl ?_
    refine wp_getI (M := mX4_number) (pc := 98) fa_X4_53 rfl dX4_number_98 kq ?_
    refine wp_ireturn (M := mX4_number) (pc := 101) rfl dX4_number_101 ?_
    have e9 : j = 9 := by omega
    subst e9
    rw [n11]; exact k
set_option maxHeartbeats 4000000 in
set_option maxRecDepth 100000 in
theorem sp_X4_tenantNumber {q : Nat} {l : Lt} {A : Sta} {t j : Nat} (hR : RepC h q l A) (ht : t < sN A) (hj : j < 12) (hti : sTi A + 60 < 2 ^ 31) (hm50 : sTm A ≤ 50) (k : Q (.inl (some (.int (tnumA A t j)))) h) : WPx E mX4_tenantNumber 0 [some (.ref q), some (.int (nI t)), some (.int (nI j)), none] [] (0, 0) h Q := by
  have hR2 := hR
  obtain ⟨hL, hN, hT, hO⟩ := hR
  obtain ⟨⟨kq, tq⟩, ⟨rT, kT, tT⟩, ⟨rO, kO, tO⟩, hLT, hLO, hinj⟩ := hL
  obtain ⟨⟨n2, n6⟩, ⟨n3, n12⟩, n4, n5, n6', n7, n8, n9, n10, n11⟩ := hN
  obtain ⟨a1, ⟨a2, a3⟩, ⟨a4, a5, a6⟩, a7, a8, a9⟩ := hLT t (by omega)
  have ed := hR2.debt ht
  have hF := (hT t ht).1
  have hF7 := (hT t ht).2.1
  refine wp_aload_n (M := mX4_tenantNumber) (pc := 0) dX4_tenantNumber_0 rfl ?_
  refine wp_getR (M := mX4_tenantNumber) (pc := 1) fa_X4_11 rfl dX4_tenantNumber_1 (by first | exact kq | exact a2 | exact kO | exact kT) (by first | exact rT | exact rO | exact a1) ?_
  refine wp_iload_n (M := mX4_tenantNumber) (pc := 4) dX4_tenantNumber_4 rfl ?_
  refine wr_aaload (M := mX4_tenantNumber) (pc := 5) dX4_tenantNumber_5 (by first | exact kq | exact a2 | exact kO | exact kT) (by decide) rfl (by omega) (by decide) (by first | exact rT | exact rO | exact a1) ?_
  refine so_astore_n (M := mX4_tenantNumber) (pc := 6) (lo' := [_, _, _, _]) dX4_tenantNumber_6 (LE rfl) (LE rfl) (Or.inr rfl) rfl ?_
  refine wp_iload_n (M := mX4_tenantNumber) (pc := 7) dX4_tenantNumber_7 rfl ?_
  have sw8 : j = 0 ∨ j = 1 ∨ j = 2 ∨ j = 3 ∨ j = 4 ∨ j = 5 ∨ j = 6 ∨ j = 7 ∨ j = 8 ∨ j = 9 ∨ j = 10 ∨ 10 < j := by omega
  rcases sw8 with rfl | rfl | rfl | rfl | rfl | rfl | rfl | rfl | rfl | rfl | rfl | sw8
  · refine wp_tableIn (M := mX4_tenantNumber) (pc := 8) (x := nI 0) (tgt := 68) dX4_tenantNumber_8 (by decide) (by decide) rfl rfl ?_
    refine wp_aload_n (M := mX4_tenantNumber) (pc := 68) dX4_tenantNumber_68 rfl ?_
    refine wp_getI (M := mX4_tenantNumber) (pc := 69) fa_X4_86 rfl dX4_tenantNumber_69 (by first | exact kq | exact a2 | exact kO | exact kT) ?_
    refine wp_ireturn (M := mX4_tenantNumber) (pc := 72) rfl dX4_tenantNumber_72 ?_
    rw [hF 0 (by decide)]; exact k
  · refine wp_tableIn (M := mX4_tenantNumber) (pc := 8) (x := nI 1) (tgt := 73) dX4_tenantNumber_8 (by decide) (by decide) rfl rfl ?_
    refine wp_aload_n (M := mX4_tenantNumber) (pc := 73) dX4_tenantNumber_73 rfl ?_
    refine wp_getI (M := mX4_tenantNumber) (pc := 74) fa_X4_89 rfl dX4_tenantNumber_74 (by first | exact kq | exact a2 | exact kO | exact kT) ?_
    refine wp_ireturn (M := mX4_tenantNumber) (pc := 77) rfl dX4_tenantNumber_77 ?_
    rw [hF 1 (by decide)]; exact k
  · refine wp_tableIn (M := mX4_tenantNumber) (pc := 8) (x := nI 2) (tgt := 78) dX4_tenantNumber_8 (by decide) (by decide) rfl rfl ?_
    refine wp_aload_n (M := mX4_tenantNumber) (pc := 78) dX4_tenantNumber_78 rfl ?_
    refine wp_getI (M := mX4_tenantNumber) (pc := 79) fa_X4_92 rfl dX4_tenantNumber_79 (by first | exact kq | exact a2 | exact kO | exact kT) ?_
    refine wp_ireturn (M := mX4_tenantNumber) (pc := 82) rfl dX4_tenantNumber_82 ?_
    rw [hF 2 (by decide)]; exact k
  · refine wp_tableIn (M := mX4_tenantNumber) (pc := 8) (x := nI 3) (tgt := 83) dX4_tenantNumber_8 (by decide) (by decide) rfl rfl ?_
    refine wp_aload_n (M := mX4_tenantNumber) (pc := 83) dX4_tenantNumber_83 rfl ?_
    refine wp_getI (M := mX4_tenantNumber) (pc := 84) fa_X4_95 rfl dX4_tenantNumber_84 (by first | exact kq | exact a2 | exact kO | exact kT) ?_
    refine wp_ireturn (M := mX4_tenantNumber) (pc := 87) rfl dX4_tenantNumber_87 ?_
    rw [hF 3 (by decide)]; exact k
  · refine wp_tableIn (M := mX4_tenantNumber) (pc := 8) (x := nI 4) (tgt := 88) dX4_tenantNumber_8 (by decide) (by decide) rfl rfl ?_
    refine wp_aload_n (M := mX4_tenantNumber) (pc := 88) dX4_tenantNumber_88 rfl ?_
    refine wp_getI (M := mX4_tenantNumber) (pc := 89) fa_X4_98 rfl dX4_tenantNumber_89 (by first | exact kq | exact a2 | exact kO | exact kT) ?_
    refine wp_ireturn (M := mX4_tenantNumber) (pc := 92) rfl dX4_tenantNumber_92 ?_
    rw [hF 4 (by decide)]; exact k
  · refine wp_tableIn (M := mX4_tenantNumber) (pc := 8) (x := nI 5) (tgt := 93) dX4_tenantNumber_8 (by decide) (by decide) rfl rfl ?_
    refine wp_aload_n (M := mX4_tenantNumber) (pc := 93) dX4_tenantNumber_93 rfl ?_
    refine wp_iload_n (M := mX4_tenantNumber) (pc := 94) dX4_tenantNumber_94 rfl ?_
    refine wp_iconst (M := mX4_tenantNumber) (pc := 95) (v := 1) dX4_tenantNumber_95 ci_1 ?_
    refine so_V2 (M := mX4_tenantNumber) (pc := 96) cs_X4_tenantNumber_101 rfl rfl (LE rfl) (LE rfl) dX4_tenantNumber_96 (by first | exact kq | exact a2 | exact kO | exact kT) ?_
    refine sp_X4_quantityOf (kd := 1) hR2 (by omega) (by decide) ?_
    refine kI ?_
    refine wp_ireturn (M := mX4_tenantNumber) (pc := 99) rfl dX4_tenantNumber_99 ?_
    exact k
  · refine wp_tableIn (M := mX4_tenantNumber) (pc := 8) (x := nI 6) (tgt := 100) dX4_tenantNumber_8 (by decide) (by decide) rfl rfl ?_
    refine wp_aload_n (M := mX4_tenantNumber) (pc := 100) dX4_tenantNumber_100 rfl ?_
    refine wp_iload_n (M := mX4_tenantNumber) (pc := 101) dX4_tenantNumber_101 rfl ?_
    refine so_V1 (M := mX4_tenantNumber) (pc := 102) cs_X4_tenantNumber_105 rfl rfl (LE rfl) (LE rfl) dX4_tenantNumber_102 (by first | exact kq | exact a2 | exact kO | exact kT) ?_
    refine sp_X4_cashSetAside hR2 (by omega) ?_
    refine kI ?_
    refine wp_ireturn (M := mX4_tenantNumber) (pc := 105) rfl dX4_tenantNumber_105 ?_
    exact k
  · refine wp_tableIn (M := mX4_tenantNumber) (pc := 8) (x := nI 7) (tgt := 106) dX4_tenantNumber_8 (by decide) (by decide) rfl rfl ?_
    refine wp_aload_n (M := mX4_tenantNumber) (pc := 106) dX4_tenantNumber_106 rfl ?_
    refine so_V0 (M := mX4_tenantNumber) (pc := 107) cs_X4_tenantNumber_109 rfl rfl (LE rfl) (LE rfl) dX4_tenantNumber_107 (by first | exact kq | exact a2 | exact kO | exact kT) ?_
    refine sp_X5_owedInAll a2 a7 a8 ?_
    refine kI ?_
    refine wp_ireturn (M := mX4_tenantNumber) (pc := 110) rfl dX4_tenantNumber_110 ?_
    rw [ed]; exact k
  · refine wp_tableIn (M := mX4_tenantNumber) (pc := 8) (x := nI 8) (tgt := 111) dX4_tenantNumber_8 (by decide) (by decide) rfl rfl ?_
    refine wp_aload_n (M := mX4_tenantNumber) (pc := 111) dX4_tenantNumber_111 rfl ?_
    refine wp_aload_n (M := mX4_tenantNumber) (pc := 112) dX4_tenantNumber_112 rfl ?_
    refine so_V1 (M := mX4_tenantNumber) (pc := 113) cs_X4_tenantNumber_113 rfl rfl (LE rfl) (LE rfl) dX4_tenantNumber_113 (by first | exact kq | exact a2 | exact kO | exact kT) ?_
    refine sp_X4_earliestDueTime hR2 ht hti hm50 ?_
    refine kI ?_
    refine wp_ireturn (M := mX4_tenantNumber) (pc := 116) rfl dX4_tenantNumber_116 ?_
    exact k
  · refine wp_tableIn (M := mX4_tenantNumber) (pc := 8) (x := nI 9) (tgt := 117) dX4_tenantNumber_8 (by decide) (by decide) rfl rfl ?_
    refine wp_aload_n (M := mX4_tenantNumber) (pc := 117) dX4_tenantNumber_117 rfl ?_
    refine wp_getI (M := mX4_tenantNumber) (pc := 118) fa_X4_117 rfl dX4_tenantNumber_118 (by first | exact kq | exact a2 | exact kO | exact kT) ?_
    refine wp_ireturn (M := mX4_tenantNumber) (pc := 121) rfl dX4_tenantNumber_121 ?_
    rw [hF7]; exact k
  · refine wp_tableIn (M := mX4_tenantNumber) (pc := 8) (x := nI 10) (tgt := 122) dX4_tenantNumber_8 (by decide) (by decide) rfl rfl ?_
    refine wp_aload_n (M := mX4_tenantNumber) (pc := 122) dX4_tenantNumber_122 rfl ?_
    refine wp_getI (M := mX4_tenantNumber) (pc := 123) fa_X4_120 rfl dX4_tenantNumber_123 (by first | exact kq | exact a2 | exact kO | exact kT) ?_
    refine wp_ireturn (M := mX4_tenantNumber) (pc := 126) rfl dX4_tenantNumber_126 ?_
    rw [hF 5 (by decide)]; exact k
  · refine wp_tableOut (M := mX4_tenantNumber) (pc := 8) (x := nI j) (tgt := 127) dX4_tenantNumber_8 (Or.inr (sw_out sw8 (by omega))) rfl ?_
    refine wp_aload_n (M := mX4_tenantNumber) (pc := 127) dX4_tenantNumber_127 rfl ?_
    refine wp_aload_n (M := mX4_tenantNumber) (pc := 128) dX4_tenantNumber_128 rfl ?_
    refine so_V1 (M := mX4_tenantNumber) (pc := 129) cs_X4_tenantNumber_123 rfl rfl (LE rfl) (LE rfl) dX4_tenantNumber_129 (by first | exact kq | exact a2 | exact kO | exact kT) ?_
    refine sp_X4_isSuspended hR2 ht ?_
    refine kI ?_
    refine wp_if_eq (M := mX4_tenantNumber) (pc := 132) (tgt := 142) dX4_tenantNumber_132 rfl (fun t132 => ?_) (fun f132 => ?_)
    · have e9 : j = 11 := by omega
      subst e9
      have hsu : ¬ susp A t := fun q9 => by rw [if_pos q9] at t132; exact absurd t132 (by decide)
      refine wp_bipush (M := mX4_tenantNumber) (pc := 142) (v := -9) dX4_tenantNumber_142 cb_m9 ?_
      refine wp_ireturn (M := mX4_tenantNumber) (pc := 144) rfl dX4_tenantNumber_144 ?_
      first
      | (rw [hF 6 (by decide)]; rw [tnumA, if_pos hsu] at k; exact k)
      | (rw [tnumA, if_neg hsu] at k; exact k)
      | fail "leaf"
    · have e9 : j = 11 := by omega
      subst e9
      have hsu : susp A t := by
        by_cases q9 : susp A t
        · exact q9
        · rw [if_neg q9] at f132; exact absurd rfl f132
      refine wp_aload_n (M := mX4_tenantNumber) (pc := 135) dX4_tenantNumber_135 rfl ?_
      refine wp_getI (M := mX4_tenantNumber) (pc := 136) fa_X4_79 rfl dX4_tenantNumber_136 (by first | exact kq | exact a2 | exact kO | exact kT) ?_
      refine wp_goto (M := mX4_tenantNumber) (pc := 139) (tgt := 144) dX4_tenantNumber_139 rfl ?_
      refine wp_ireturn (M := mX4_tenantNumber) (pc := 144) rfl dX4_tenantNumber_144 ?_
      first
      | (rw [hF 6 (by decide)]; rw [tnumA, if_pos hsu] at k; exact k)
      | (rw [tnumA, if_neg hsu] at k; exact k)
      | fail "leaf"
end SP
