section SP
variable {E : Ev} {h : PH} {Q : Rt → PH → Prop}
set_option maxHeartbeats 4000000 in
set_option maxRecDepth 100000 in
theorem lp_X0_countWhollyFilled {u ka pa fa la c : Nat} (hA : AuL h u ka pa fa la) (hc : gi h u 4 = nI c) (hc13 : c ≤ 13) (k : Q (.inl (some (.int (nI (cntZ (gi h la) c))))) h) : ∀ (m : Nat) (i : Nat), c - i < m → (i ≤ c) → WPx E mX0_countWhollyFilled 4 [some (.ref u), some (.int (nI (cntZ (gi h la) i))), some (.int (nI i))] [] (0, 0) h Q := by
  intro m
  induction m with
  | zero => intro i hm; exact absurd hm (Nat.not_lt_zero _)
  | succ m ih =>
    intro i hm hi
    refine wp_iload_n (M := mX0_countWhollyFilled) (pc := 4) dX0_countWhollyFilled_4 rfl ?_
    refine wp_aload_n (M := mX0_countWhollyFilled) (pc := 5) dX0_countWhollyFilled_5 rfl ?_
    refine wp_getI (M := mX0_countWhollyFilled) (pc := 6) fa_X0_31 rfl dX0_countWhollyFilled_6 (by first | exact hA.1 | exact hA.2.2.1.2.2.2) ?_
    refine wp_icmp_ge (M := mX0_countWhollyFilled) (pc := 9) (tgt := 30) dX0_countWhollyFilled_9 rfl (fun t9 => ?_) (fun f9 => ?_)
    · rw [hc] at t9
      have hi2 := n_ge hi (by omega) t9
      subst hi2
      refine wp_iload_n (M := mX0_countWhollyFilled) (pc := 30) dX0_countWhollyFilled_30 rfl ?_
      refine wp_ireturn (M := mX0_countWhollyFilled) (pc := 31) rfl dX0_countWhollyFilled_31 ?_
      exact k
    · rw [hc] at f9
      have hlt := n_lt hi (by omega) f9
      refine wp_aload_n (M := mX0_countWhollyFilled) (pc := 12) dX0_countWhollyFilled_12 rfl ?_
      refine wp_getR (M := mX0_countWhollyFilled) (pc := 13) fa_X0_21 rfl dX0_countWhollyFilled_13 (by first | exact hA.1 | exact hA.2.2.1.2.2.2) hA.2.1.2.2.2 ?_
      refine wp_iload_n (M := mX0_countWhollyFilled) (pc := 16) dX0_countWhollyFilled_16 rfl ?_
      refine wr_iaload (M := mX0_countWhollyFilled) (pc := 17) dX0_countWhollyFilled_17 (by first | exact hA.1 | exact hA.2.2.1.2.2.2) rfl (by omega) (by decide) ?_
      refine wp_if_ne (M := mX0_countWhollyFilled) (pc := 18) (tgt := 24) dX0_countWhollyFilled_18 rfl (fun t18 => ?_) (fun f18 => ?_)
      · refine so_iinc (M := mX0_countWhollyFilled) (pc := 24) (lo' := [_, _, _]) dX0_countWhollyFilled_24 rfl ci_1 (LE rfl) rfl ?_
        refine wp_goto (M := mX0_countWhollyFilled) (pc := 27) (tgt := 4) dX0_countWhollyFilled_27 rfl ?_
        rw [show nI i + 1 = nI (i + 1) from nI_1 i]
        try rw [show nI (cntZ (gi h la) i) + 1 = nI (cntZ (gi h la) i + 1) from nI_1 _]
        have hz := ih (i + 1) (by omega) (by omega)
        first
        | (rw [cntZ_n t18] at hz; exact hz)
        | (rw [cntZ_y f18] at hz; exact hz)
        | fail "leaf"
      · refine so_iinc (M := mX0_countWhollyFilled) (pc := 21) (lo' := [_, _, _]) dX0_countWhollyFilled_21 rfl ci_1 (LE rfl) rfl ?_
        refine so_iinc (M := mX0_countWhollyFilled) (pc := 24) (lo' := [_, _, _]) dX0_countWhollyFilled_24 rfl ci_1 (LE rfl) rfl ?_
        refine wp_goto (M := mX0_countWhollyFilled) (pc := 27) (tgt := 4) dX0_countWhollyFilled_27 rfl ?_
        rw [show nI i + 1 = nI (i + 1) from nI_1 i]
        try rw [show nI (cntZ (gi h la) i) + 1 = nI (cntZ (gi h la) i + 1) from nI_1 _]
        have hz := ih (i + 1) (by omega) (by omega)
        first
        | (rw [cntZ_n t18] at hz; exact hz)
        | (rw [cntZ_y f18] at hz; exact hz)
        | fail "leaf"
set_option maxHeartbeats 4000000 in
set_option maxRecDepth 100000 in
theorem sp_X0_countWhollyFilled {u ka pa fa la c : Nat} (hA : AuL h u ka pa fa la) (hc : gi h u 4 = nI c) (hc13 : c ≤ 13) (k : Q (.inl (some (.int (nI (cntZ (gi h la) c))))) h) : WPx E mX0_countWhollyFilled 0 [some (.ref u), none, none] [] (0, 0) h Q := by
  refine wp_iconst (M := mX0_countWhollyFilled) (pc := 0) (v := 0) dX0_countWhollyFilled_0 ci_0 ?_
  refine so_istore_n (M := mX0_countWhollyFilled) (pc := 1) (lo' := [_, _, _]) dX0_countWhollyFilled_1 (LE rfl) (LE rfl) (Or.inr rfl) rfl ?_
  refine wp_iconst (M := mX0_countWhollyFilled) (pc := 2) (v := 0) dX0_countWhollyFilled_2 ci_0 ?_
  refine so_istore_n (M := mX0_countWhollyFilled) (pc := 3) (lo' := [_, _, _]) dX0_countWhollyFilled_3 (LE rfl) (LE rfl) (Or.inr rfl) rfl ?_
  exact lp_X0_countWhollyFilled hA hc hc13 k (c + 1) 0 (by omega) (by omega)
theorem kd_sn {h : PH} {a b a' k' : Nat} {v' : Option Nat} {κ κ1 : Kd} {t1 : Tg} (h1 : kd h a = some κ) (h2 : kd h b = none) : kd (sr (nw h b κ1 t1) a' k' v') a = some κ := by rw [kd_sr]; exact kd_old h1 h2
theorem kd_sno {h : PH} {a b a' k' : Nat} {v' : Option Nat} {κ1 : Kd} {t1 : Tg} (h3 : kd (sr (nw h b κ1 t1) a' k' v') a = none) : kd h a = none := kd_none (by rw [kd_sr] at h3; exact h3)
theorem frA_sn {S : Nat → Prop} {h : PH} {a b k' : Nat} {v' : Option Nat} {κ1 : Kd} {t1 : Tg} (hs : S a) (h2 : kd h b = none) : FrA S h (sr (nw h b κ1 t1) a k' v') := (FrA.nw h2).tr (S' := S) (FrA.sr hs) (fun _ _ _ e => e)
theorem gr_sn_at {h : PH} {a b k : Nat} {v : Option Nat} {κ : Kd} {t : Tg} : gr (sr (nw h b κ t) a k v) a k = v := by rw [gr_sr, u2_at]
theorem gr_sn_ne {h : PH} {a b j k : Nat} {v : Option Nat} {κ : Kd} {t : Tg} (hj : j ≠ k) (hb : a ≠ b) : gr (sr (nw h b κ t) a k v) a j = gr h a j := by rw [gr_sr, u2_ne _ _ (Or.inr hj), gr_nw, u1_ne _ _ hb]
theorem kd_sn_at {h : PH} {a b k : Nat} {v : Option Nat} {κ : Kd} {t : Tg} : kd (sr (nw h b κ t) a k v) b = some κ := by rw [kd_sr, kd_newk]
theorem tg_sn_at {h : PH} {a b k : Nat} {v : Option Nat} {κ : Kd} {t : Tg} : tg (sr (nw h b κ t) a k v) b = t := by rw [tg_sr, tg_newk]
theorem tg_sn_ne {h : PH} {a b c k : Nat} {v : Option Nat} {κ : Kd} {t : Tg} (hb : c ≠ b) : tg (sr (nw h b κ t) a k v) c = tg h c := by rw [tg_sr, tg_nw, u1_ne _ _ hb]
set_option maxHeartbeats 4000000 in
set_option maxRecDepth 100000 in
theorem sp_X1_init {a : Nat} (hk : kd h a = some (.inl 1)) (ht : tg h a = (a, 0, 0)) (h0 : gi h a 1 = nI 0) (k : ∀ sa h', TxC h' a sa (fun _ => 0) 0 → FrA (fun x => x = a) h h' → Q (.inl none) h') : WPx E mX1_init 0 [some (.ref a)] [] (1, 160) h Q := by
  refine wp_aload_n (M := mX1_init) (pc := 0) dX1_init_0 rfl ?_
  refine wp_objInit (M := mX1_init) (pc := 1) wl_X1_3 w_objI w_objC (LE rfl) (LE rfl) dX1_init_1 ?_
  refine wp_aload_n (M := mX1_init) (pc := 4) dX1_init_4 rfl ?_
  refine wp_sipush (M := mX1_init) (pc := 5) (v := 160) dX1_init_5 ch_160 ?_
  refine wp_newI (M := mX1_init) (pc := 8) (N := 160) wa_int (fun _ => (a, 1, 0)) (by decide) (by decide) (by decide) (by decide) (by decide) dX1_init_8 (fun a8 n8 => ?_)
  refine so_putR (M := mX1_init) (pc := 10) fa_X1_9 (fun _ => ⟨rfl, _, _, rfl⟩) rfl dX1_init_10 (kd_old hk n8) ?_
  refine wp_return (M := mX1_init) (pc := 13) rfl dX1_init_13 ?_
  have x := nek hk n8
  refine k a8 _ ⟨⟨kd_sn hk n8, (tg_sn_ne x).trans ht⟩, ⟨gr_sn_at, kd_sn_at, tg_sn_at⟩, ⟨?_, by decide⟩, fun j hj => absurd hj (Nat.not_lt_zero _)⟩ (frA_sn rfl n8)
  rw [gi_sr, gi_nw, u1_ne _ _ x]; exact h0
set_option maxHeartbeats 4000000 in
set_option maxRecDepth 100000 in
theorem sp_X0_init {u : Nat} (hk : kd h u = some (.inl 0)) (ht : tg h u = (u, 0, 0)) (k : ∀ ka pa fa la h', AuT h' u ka pa fa la → FrA (fun x => x = u) h h' → Q (.inl none) h') : WPx E mX0_init 0 [some (.ref u)] [] (4, 52) h Q := by
  refine wp_aload_n (M := mX0_init) (pc := 0) dX0_init_0 rfl ?_
  refine wp_objInit (M := mX0_init) (pc := 1) wl_X0_3 w_objI w_objC (LE rfl) (LE rfl) dX0_init_1 ?_
  refine wp_aload_n (M := mX0_init) (pc := 4) dX0_init_4 rfl ?_
  refine wp_bipush (M := mX0_init) (pc := 5) (v := 13) dX0_init_5 cb_13 ?_
  refine wp_newI (M := mX0_init) (pc := 7) (N := 13) wa_int (fun _ => (u, 1, 0)) (by decide) (by decide) (by decide) (by decide) (by decide) dX0_init_7 (fun a7 n7 => ?_)
  refine so_putR (M := mX0_init) (pc := 9) fa_X0_11 (fun _ => ⟨rfl, _, _, rfl⟩) rfl dX0_init_9 (kd_old hk n7) ?_
  refine wp_aload_n (M := mX0_init) (pc := 12) dX0_init_12 rfl ?_
  refine wp_bipush (M := mX0_init) (pc := 13) (v := 13) dX0_init_13 cb_13 ?_
  refine wp_newI (M := mX0_init) (pc := 15) (N := 13) wa_int (fun _ => (u, 2, 0)) (by decide) (by decide) (by decide) (by decide) (by decide) dX0_init_15 (fun a15 n15 => ?_)
  refine so_putR (M := mX0_init) (pc := 17) fa_X0_15 (fun _ => ⟨rfl, _, _, rfl⟩) rfl dX0_init_17 (kd_old (kd_sn hk n7) n15) ?_
  refine wp_aload_n (M := mX0_init) (pc := 20) dX0_init_20 rfl ?_
  refine wp_bipush (M := mX0_init) (pc := 21) (v := 13) dX0_init_21 cb_13 ?_
  refine wp_newI (M := mX0_init) (pc := 23) (N := 13) wa_int (fun _ => (u, 3, 0)) (by decide) (by decide) (by decide) (by decide) (by decide) dX0_init_23 (fun a23 n23 => ?_)
  refine so_putR (M := mX0_init) (pc := 25) fa_X0_18 (fun _ => ⟨rfl, _, _, rfl⟩) rfl dX0_init_25 (kd_old (kd_sn (kd_sn hk n7) n15) n23) ?_
  refine wp_aload_n (M := mX0_init) (pc := 28) dX0_init_28 rfl ?_
  refine wp_bipush (M := mX0_init) (pc := 29) (v := 13) dX0_init_29 cb_13 ?_
  refine wp_newI (M := mX0_init) (pc := 31) (N := 13) wa_int (fun _ => (u, 4, 0)) (by decide) (by decide) (by decide) (by decide) (by decide) dX0_init_31 (fun a31 n31 => ?_)
  refine so_putR (M := mX0_init) (pc := 33) fa_X0_21 (fun _ => ⟨rfl, _, _, rfl⟩) rfl dX0_init_33 (kd_old (kd_sn (kd_sn (kd_sn hk n7) n15) n23) n31) ?_
  refine wp_return (M := mX0_init) (pc := 36) rfl dX0_init_36 ?_
  have y1 := nek hk n7
  have y2 := nek (kd_sn (a' := u) (k' := 0) (v' := some a7) (κ1 := .inr (0, 13)) (t1 := (u, 1, 0)) hk n7) n15
  have y3 := nek (kd_sn (a' := u) (k' := 1) (v' := some a15) (κ1 := .inr (0, 13)) (t1 := (u, 2, 0)) (kd_sn (a' := u) (k' := 0) (v' := some a7) (κ1 := .inr (0, 13)) (t1 := (u, 1, 0)) hk n7) n15) n23
  have y4 := nek hk (kd_sno (kd_sno (kd_sno n31)))
  have z1 := ne_new n15
  have z2 := ne_new n23
  have z3 := ne_new n31
  have z4 := ne_new (kd_sno n23)
  have z5 := ne_new (kd_sno n31)
  have z6 := ne_new (kd_sno (kd_sno n31))
  refine k a7 a15 a23 a31 _ ⟨⟨?_, ⟨?_, ?_, ?_, ?_⟩, ⟨?_, ?_, ?_, ?_⟩, ⟨y1.symm, y2.symm, y3.symm, y4.symm⟩, ⟨z1.symm, z4.symm, z6.symm, z2.symm, z5.symm, z3.symm⟩⟩, ?_, ?_, ?_, ?_, ?_⟩ ((((frA_sn (S := fun x => x = u) rfl n7).tr (S' := fun x => x = u) (frA_sn rfl n15) (fun _ _ _ e => e)).tr (S' := fun x => x = u) (frA_sn rfl n23) (fun _ _ _ e => e)).tr (S' := fun x => x = u) (frA_sn rfl n31) (fun _ _ _ e => e))
  · exact kd_sn (kd_sn (kd_sn (kd_sn hk n7) n15) n23) n31
  · rw [gr_sn_ne (by decide) y4, gr_sn_ne (by decide) y3, gr_sn_ne (by decide) y2, gr_sn_at]
  · rw [gr_sn_ne (by decide) y4, gr_sn_ne (by decide) y3, gr_sn_at]
  · rw [gr_sn_ne (by decide) y4, gr_sn_at]
  · exact gr_sn_at
  · exact kd_sn (kd_sn (kd_sn kd_sn_at n15) n23) n31
  · exact kd_sn (kd_sn kd_sn_at n23) n31
  · exact kd_sn kd_sn_at n31
  · exact kd_sn_at
  · rw [tg_sn_ne y4, tg_sn_ne y3, tg_sn_ne y2, tg_sn_ne y1, ht]
  · rw [tg_sn_ne z6, tg_sn_ne z4, tg_sn_ne z1, tg_sn_at]
  · rw [tg_sn_ne z5, tg_sn_ne z2, tg_sn_at]
  · rw [tg_sn_ne z3, tg_sn_at]
  · rw [tg_sn_at]
end SP
