section SP
variable {E : Ev} {h : PH} {Q : Rt → PH → Prop}
theorem fT_ne {A : Sta} {t j k : Nat} {v : Int32} (h : j ≠ k) : fT (wF A t k v) t j = fT A t j := by
  show (u1 (sT A) t (upd (sT A t).1 k v, (sT A t).2) t).1 j = _
  rw [u1_at]
  exact upd_ne _ _ h
theorem gv0 {A : Sta} {i : Nat} (hk : (oA A i).2.1 = 0) : giveT A i = wF (wF A (oA A i).1 4 (fT A (oA A i).1 4 + (oA A i).2.2.1 * (oA A i).2.2.2)) (oA A i).1 3 (fT A (oA A i).1 3 + 0) := by
  rw [giveT, if_pos hk, Int32.add_zero]
  rw [show fT A (oA A i).1 3 = fT (wF A (oA A i).1 4 (fT A (oA A i).1 4 + (oA A i).2.2.1 * (oA A i).2.2.2)) (oA A i).1 3 from (fT_ne (by decide)).symm, wF_self]
theorem gv1 {A : Sta} {i : Nat} (hk : (oA A i).2.1 = 1) : giveT A i = wF (wF A (oA A i).1 4 (fT A (oA A i).1 4 + 0)) (oA A i).1 3 (fT A (oA A i).1 3 + (oA A i).2.2.2) := by
  rw [giveT, if_neg (by omega), if_pos hk, Int32.add_zero, wF_self]
theorem gv2 {A : Sta} {i : Nat} (h0 : ¬ (oA A i).2.1 = 0) (h1 : ¬ (oA A i).2.1 = 1) : giveT A i = wF (wF A (oA A i).1 4 (fT A (oA A i).1 4 + 0)) (oA A i).1 3 (fT A (oA A i).1 3 + 0) := by
  rw [giveT, if_neg h0, if_neg h1, Int32.add_zero, wF_self, Int32.add_zero, wF_self]
set_option maxHeartbeats 4000000 in
set_option maxRecDepth 100000 in
theorem l2_X7_removeOrder {a n e : Nat} {G : Nat → Int32} {h0 : PH} (hn : n ≤ 11) (k : ∀ h', (∀ x, (x < 10 + 4 * n ∨ 58 ≤ x) → gi h' a x = G x) → RF a h0 h' → Q (.inl none) h') : ∀ (m : Nat) (i : Nat) (h : PH), 4 - i < m → (i ≤ 4) → (kd h a = some (.inr (0, 1360))) → (gi h a 8 = nI n) → (∀ x, (x < 10 + 4 * n ∨ 58 ≤ x) → gi h a x = G x) → (RF a h0 h) → WPx E mX7_removeOrder 40 [some (.ref a), some (.int (nI e)), some (.int (nI i))] [] (0, 0) h Q := by
  intro m
  induction m with
  | zero => intro i h hm; exact absurd hm (Nat.not_lt_zero _)
  | succ m ih =>
    intro i h hm hi ka h8 hG F
    refine wp_iload_n (M := mX7_removeOrder) (pc := 40) dX7_removeOrder_40 rfl ?_
    refine wp_iconst (M := mX7_removeOrder) (pc := 41) (v := 4) dX7_removeOrder_41 ci_4 ?_
    refine wp_icmp_ge (M := mX7_removeOrder) (pc := 42) (tgt := 63) dX7_removeOrder_42 rfl (fun t42 => ?_) (fun f42 => ?_)
    · refine wp_return (M := mX7_removeOrder) (pc := 63) rfl dX7_removeOrder_63 ?_
      exact k h hG F
    · have hlt := n_lt (n := 4) hi (by decide) f42
      refine wp_aload_n (M := mX7_removeOrder) (pc := 45) dX7_removeOrder_45 rfl ?_
      refine wp_aload_n (M := mX7_removeOrder) (pc := 46) dX7_removeOrder_46 rfl ?_
      refine wp_bipush (M := mX7_removeOrder) (pc := 47) (v := 8) dX7_removeOrder_47 cb_8 ?_
      refine wr_iaload (M := mX7_removeOrder) (pc := 49) dX7_removeOrder_49 ka (show (8 : Int32) = nI 8 from rfl) (by omega) (by decide) ?_
      refine so_S1 (M := mX7_removeOrder) (pc := 50) cs_X7_removeOrder_119 rfl rfl (LE rfl) (LE rfl) dX7_removeOrder_50 ?_
      rw [h8]
      refine sp_X7_orderAt ?_
      refine kI ?_
      refine wp_iload_n (M := mX7_removeOrder) (pc := 53) dX7_removeOrder_53 rfl ?_
      refine wp_iadd (M := mX7_removeOrder) (pc := 54) dX7_removeOrder_54 ?_
      refine wp_iconst (M := mX7_removeOrder) (pc := 55) (v := 0) dX7_removeOrder_55 ci_0 ?_
      refine wr_iastore (M := mX7_removeOrder) (pc := 56) dX7_removeOrder_56 ka (ia rfl rfl) (by omega) (by decide) ?_
      refine so_iinc (M := mX7_removeOrder) (pc := 57) (lo' := [_, _, _]) dX7_removeOrder_57 rfl ci_1 (LE rfl) rfl ?_
      refine wp_goto (M := mX7_removeOrder) (pc := 60) (tgt := 40) dX7_removeOrder_60 rfl ?_
      rw [show nI i + 1 = nI (i + 1) from nI_1 i]
      refine ih (i + 1) _ (by omega) (by omega) ka ?_ (fun x hx => ?_) (F.tr RF.si)
      · rw [gi_si_at, upd_ne _ _ (by omega)]; exact h8
      · rw [gi_si_at, upd_ne _ _ (by omega)]; exact hG x hx
set_option maxHeartbeats 4000000 in
set_option maxRecDepth 100000 in
theorem l1_X7_removeOrder {a n e : Nat} {g : Nat → Int32} (ka : kd h a = some (.inr (0, 1360))) (hn : n ≤ 11) (he : e ≤ n) (h8 : g 8 = nI n) (k : ∀ h', (∀ x, (x < 10 + 4 * n ∨ 58 ≤ x) → gi h' a x = shD 4 g (10 + 4 * e) (10 + 4 * n) x) → RF a h h' → Q (.inl none) h') : ∀ (m : Nat) (i : Nat), 10 + 4 * n - i < m → (10 + 4 * e ≤ i) → (i ≤ 10 + 4 * n) → WPx E mX7_removeOrder 13 [some (.ref a), some (.int (nI e)), some (.int (nI i))] [] (0, 0) (sw h a (shD 4 g (10 + 4 * e) i)) Q := by
  intro m
  induction m with
  | zero => intro i hm; exact absurd hm (Nat.not_lt_zero _)
  | succ m ih =>
    intro i hm h1 hi
    have e8 : gi (sw h a (shD 4 g (10 + 4 * e) i)) a 8 = nI n := by rw [gi_sw_at, shD_lt (by omega)]; exact h8
    refine wp_iload_n (M := mX7_removeOrder) (pc := 13) dX7_removeOrder_13 rfl ?_
    refine wp_aload_n (M := mX7_removeOrder) (pc := 14) dX7_removeOrder_14 rfl ?_
    refine wp_bipush (M := mX7_removeOrder) (pc := 15) (v := 8) dX7_removeOrder_15 cb_8 ?_
    refine wr_iaload (M := mX7_removeOrder) (pc := 17) dX7_removeOrder_17 ka (show (8 : Int32) = nI 8 from rfl) (by omega) (by decide) ?_
    refine so_S1 (M := mX7_removeOrder) (pc := 18) cs_X7_removeOrder_119 rfl rfl (LE rfl) (LE rfl) dX7_removeOrder_18 ?_
    rw [e8]
    refine sp_X7_orderAt ?_
    refine kI ?_
    refine wp_icmp_ge (M := mX7_removeOrder) (pc := 21) (tgt := 38) dX7_removeOrder_21 rfl (fun t21 => ?_) (fun f21 => ?_)
    · have hi2 := n_ge hi (by omega) t21
      subst hi2
      refine wp_iconst (M := mX7_removeOrder) (pc := 38) (v := 0) dX7_removeOrder_38 ci_0 ?_
      refine so_istore_n (M := mX7_removeOrder) (pc := 39) (lo' := [_, _, _]) dX7_removeOrder_39 (LE rfl) (LE rfl) (Or.inr rfl) rfl ?_
      exact l2_X7_removeOrder hn k 5 0 _ (by omega) (by omega) ka e8 (fun x _ => by rw [gi_sw_at]) RF.sw
    · have hlt := n_lt hi (by omega) f21
      refine wp_aload_n (M := mX7_removeOrder) (pc := 24) dX7_removeOrder_24 rfl ?_
      refine wp_iload_n (M := mX7_removeOrder) (pc := 25) dX7_removeOrder_25 rfl ?_
      refine wp_aload_n (M := mX7_removeOrder) (pc := 26) dX7_removeOrder_26 rfl ?_
      refine wp_iload_n (M := mX7_removeOrder) (pc := 27) dX7_removeOrder_27 rfl ?_
      refine wp_iconst (M := mX7_removeOrder) (pc := 28) (v := 4) dX7_removeOrder_28 ci_4 ?_
      refine wp_iadd (M := mX7_removeOrder) (pc := 29) dX7_removeOrder_29 ?_
      refine wr_iaload (M := mX7_removeOrder) (pc := 30) dX7_removeOrder_30 ka (ia rfl (show (4 : Int32) = nI 4 from rfl)) (by omega) (by decide) ?_
      refine wr_iastore (M := mX7_removeOrder) (pc := 31) dX7_removeOrder_31 ka rfl (by omega) (by decide) ?_
      refine so_iinc (M := mX7_removeOrder) (pc := 32) (lo' := [_, _, _]) dX7_removeOrder_32 rfl ci_1 (LE rfl) rfl ?_
      refine wp_goto (M := mX7_removeOrder) (pc := 35) (tgt := 13) dX7_removeOrder_35 rfl ?_
      rw [gi_sw_at, shD_ge (by omega), si_sw, shD_up h1, show nI i + 1 = nI (i + 1) from nI_1 i]
      exact ih (i + 1) (by omega) (by omega) (by omega)
set_option maxHeartbeats 4000000 in
set_option maxRecDepth 100000 in
theorem sp_X7_removeOrder {a : Nat} {A : Sta} {i : Nat} (ka : kd h a = some (.inr (0, 1360))) (hR : RepR (gi h a) A) (hi : i < (sO A).length) (k : ∀ h', RepR (gi h' a) (eraO A i) → RF a h h' → Q (.inl none) h') : WPx E mX7_removeOrder 0 [some (.ref a), some (.int (nI i)), none] [] (0, 0) h Q := by
  have n6 := hR.n6
  have n12 := hR.n12
  refine wp_aload_n (M := mX7_removeOrder) (pc := 0) dX7_removeOrder_0 rfl ?_
  refine wp_bipush (M := mX7_removeOrder) (pc := 1) (v := 8) dX7_removeOrder_1 cb_8 ?_
  refine wp_dup2 (M := mX7_removeOrder) (pc := 3) dX7_removeOrder_3 rfl rfl ?_
  refine wr_iaload (M := mX7_removeOrder) (pc := 4) dX7_removeOrder_4 ka (show (8 : Int32) = nI 8 from rfl) (by omega) (by decide) ?_
  refine wp_iconst (M := mX7_removeOrder) (pc := 5) (v := 1) dX7_removeOrder_5 ci_1 ?_
  refine wp_isub (M := mX7_removeOrder) (pc := 6) dX7_removeOrder_6 ?_
  refine wr_iastore (M := mX7_removeOrder) (pc := 7) dX7_removeOrder_7 ka (show (8 : Int32) = nI 8 from rfl) (by omega) (by decide) ?_
  refine wp_iload_n (M := mX7_removeOrder) (pc := 8) dX7_removeOrder_8 rfl ?_
  refine so_S1 (M := mX7_removeOrder) (pc := 9) cs_X7_removeOrder_119 rfl rfl (LE rfl) (LE rfl) dX7_removeOrder_9 ?_
  refine sp_X7_orderAt ?_
  refine kI ?_
  refine so_istore_n (M := mX7_removeOrder) (pc := 12) (lo' := [_, _, _]) dX7_removeOrder_12 (LE rfl) (LE rfl) (Or.inr rfl) rfl ?_
  have e8 : gi h a 8 - 1 = nI ((sO A).length - 1) := by rw [hR.f8]; exact pk_sub (b := 1) (by omega)
  rw [e8]
  refine wp_h (M := mX7_removeOrder) (pc := 13) (h' := sw h a (shD 4 (upd (gi h a) 8 (nI ((sO A).length - 1))) (10 + 4 * i) (10 + 4 * i))) (by rw [shD_0, si_is]) (l1_X7_removeOrder (n := (sO A).length - 1) (e := i) (g := upd (gi h a) 8 (nI ((sO A).length - 1))) ka (by omega) (by omega) (upd_at _ _ _) (fun h2 H2 F2 => k h2 ?_ F2) (10 + 4 * ((sO A).length - 1) - (10 + 4 * i) + 1) (10 + 4 * i) (by omega) (by omega) (by omega))
  refine hR.era hi (fun j h1 h3 => ?_) ?_ (fun j h1 h3 => ?_)
  · rcases h1 with h1 | h1
    · rw [H2 j (by omega), shD_lt h1, upd_ne _ _ h3]
    · rw [H2 j (by omega), shD_ge (by omega), upd_ne _ _ h3]
  · rw [H2 8 (by omega), shD_lt (by omega), upd_at]
  · rw [H2 j (by omega), shD_in h1 h3, upd_ne _ _ (by omega)]
set_option maxHeartbeats 4000000 in
set_option maxRecDepth 100000 in
theorem sp_X7_withdrawFrom {a : Nat} {A : Sta} {i : Nat} (ka : kd h a = some (.inr (0, 1360))) (hR : RepR (gi h a) A) (hi : i < (sO A).length) (k : ∀ h', RepR (gi h' a) (wd1 A i) → RF a h h' → Q (.inl none) h') : WPx E mX7_withdrawFrom 0 [some (.ref a), some (.int (nI i)), none, none] [] (0, 0) h Q := by
  have n6 := hR.n6
  have n12 := hR.n12
  obtain ⟨⟨o0, o1, o2, o3⟩, o4, o5⟩ := hR.o hi
  have e4 : gi h a (58 + 217 * (oA A i).1 + 4) = fT A (oA A i).1 4 := hR.tF o4 (by decide)
  have e3 : gi h a (58 + 217 * (oA A i).1 + 3) = fT A (oA A i).1 3 := hR.tF o4 (by decide)
  refine wp_iload_n (M := mX7_withdrawFrom) (pc := 0) dX7_withdrawFrom_0 rfl ?_
  refine so_S1 (M := mX7_withdrawFrom) (pc := 1) cs_X7_withdrawFrom_119 rfl rfl (LE rfl) (LE rfl) dX7_withdrawFrom_1 ?_
  refine sp_X7_orderAt ?_
  refine kI ?_
  refine so_istore_n (M := mX7_withdrawFrom) (pc := 4) (lo' := [_, _, _, _]) dX7_withdrawFrom_4 (LE rfl) (LE rfl) (Or.inr rfl) rfl ?_
  refine wp_aload_n (M := mX7_withdrawFrom) (pc := 5) dX7_withdrawFrom_5 rfl ?_
  refine wp_iload_n (M := mX7_withdrawFrom) (pc := 6) dX7_withdrawFrom_6 rfl ?_
  refine wp_iconst (M := mX7_withdrawFrom) (pc := 7) (v := 0) dX7_withdrawFrom_7 ci_0 ?_
  refine wp_iadd (M := mX7_withdrawFrom) (pc := 8) dX7_withdrawFrom_8 ?_
  refine wr_iaload (M := mX7_withdrawFrom) (pc := 9) dX7_withdrawFrom_9 ka (ia rfl (show (0 : Int32) = nI 0 from rfl)) (by omega) (by decide) ?_
  refine so_S1 (M := mX7_withdrawFrom) (pc := 10) cs_X7_withdrawFrom_90 rfl rfl (LE rfl) (LE rfl) dX7_withdrawFrom_10 ?_
  rw [o0]
  refine sp_X7_at ?_
  refine kI ?_
  refine so_istore_n (M := mX7_withdrawFrom) (pc := 13) (lo' := [_, _, _, _]) dX7_withdrawFrom_13 (LE rfl) (LE rfl) (Or.inr rfl) rfl ?_
  refine wp_aload_n (M := mX7_withdrawFrom) (pc := 14) dX7_withdrawFrom_14 rfl ?_
  refine wp_iload_n (M := mX7_withdrawFrom) (pc := 15) dX7_withdrawFrom_15 rfl ?_
  refine wp_iconst (M := mX7_withdrawFrom) (pc := 16) (v := 4) dX7_withdrawFrom_16 ci_4 ?_
  refine wp_iadd (M := mX7_withdrawFrom) (pc := 17) dX7_withdrawFrom_17 ?_
  refine wp_dup2 (M := mX7_withdrawFrom) (pc := 18) dX7_withdrawFrom_18 rfl rfl ?_
  refine wr_iaload (M := mX7_withdrawFrom) (pc := 19) dX7_withdrawFrom_19 ka (ia rfl (show (4 : Int32) = nI 4 from rfl)) (by omega) (by decide) ?_
  refine wp_aload_n (M := mX7_withdrawFrom) (pc := 20) dX7_withdrawFrom_20 rfl ?_
  refine wp_iload_n (M := mX7_withdrawFrom) (pc := 21) dX7_withdrawFrom_21 rfl ?_
  refine wp_iconst (M := mX7_withdrawFrom) (pc := 22) (v := 1) dX7_withdrawFrom_22 ci_1 ?_
  refine wp_iadd (M := mX7_withdrawFrom) (pc := 23) dX7_withdrawFrom_23 ?_
  refine wr_iaload (M := mX7_withdrawFrom) (pc := 24) dX7_withdrawFrom_24 ka (ia rfl (show (1 : Int32) = nI 1 from rfl)) (by omega) (by decide) ?_
  refine wp_if_ne (M := mX7_withdrawFrom) (pc := 25) (tgt := 42) dX7_withdrawFrom_25 rfl (fun t25 => ?_) (fun f25 => ?_)
  · rw [o1] at t25
    have k0 : ¬ (oA A i).2.1 = 0 := fun e => t25 (by rw [e]; rfl)
    refine wp_iconst (M := mX7_withdrawFrom) (pc := 42) (v := 0) dX7_withdrawFrom_42 ci_0 ?_
    refine wp_iadd (M := mX7_withdrawFrom) (pc := 43) dX7_withdrawFrom_43 ?_
    refine wr_iastore (M := mX7_withdrawFrom) (pc := 44) dX7_withdrawFrom_44 ka (ia rfl (show (4 : Int32) = nI 4 from rfl)) (by omega) (by decide) ?_
    refine wp_aload_n (M := mX7_withdrawFrom) (pc := 45) dX7_withdrawFrom_45 rfl ?_
    refine wp_iload_n (M := mX7_withdrawFrom) (pc := 46) dX7_withdrawFrom_46 rfl ?_
    refine wp_iconst (M := mX7_withdrawFrom) (pc := 47) (v := 3) dX7_withdrawFrom_47 ci_3 ?_
    refine wp_iadd (M := mX7_withdrawFrom) (pc := 48) dX7_withdrawFrom_48 ?_
    refine wp_dup2 (M := mX7_withdrawFrom) (pc := 49) dX7_withdrawFrom_49 rfl rfl ?_
    refine wr_iaload (M := mX7_withdrawFrom) (pc := 50) dX7_withdrawFrom_50 ka (ia rfl (show (3 : Int32) = nI 3 from rfl)) (by omega) (by decide) ?_
    refine wp_aload_n (M := mX7_withdrawFrom) (pc := 51) dX7_withdrawFrom_51 rfl ?_
    refine wp_iload_n (M := mX7_withdrawFrom) (pc := 52) dX7_withdrawFrom_52 rfl ?_
    refine wp_iconst (M := mX7_withdrawFrom) (pc := 53) (v := 1) dX7_withdrawFrom_53 ci_1 ?_
    refine wp_iadd (M := mX7_withdrawFrom) (pc := 54) dX7_withdrawFrom_54 ?_
    refine wr_iaload (M := mX7_withdrawFrom) (pc := 55) dX7_withdrawFrom_55 ka (ia rfl (show (1 : Int32) = nI 1 from rfl)) (by omega) (by decide) ?_
    refine wp_iconst (M := mX7_withdrawFrom) (pc := 56) (v := 1) dX7_withdrawFrom_56 ci_1 ?_
    refine wp_icmp_ne (M := mX7_withdrawFrom) (pc := 57) (tgt := 68) dX7_withdrawFrom_57 rfl (fun t57 => ?_) (fun f57 => ?_)
    · rw [gi_si_at, upd_ne _ _ (by omega), o1] at t57
      have k1 : ¬ (oA A i).2.1 = 1 := fun e => t57 (by rw [e]; rfl)
      refine wp_iconst (M := mX7_withdrawFrom) (pc := 68) (v := 0) dX7_withdrawFrom_68 ci_0 ?_
      refine wp_iadd (M := mX7_withdrawFrom) (pc := 69) dX7_withdrawFrom_69 ?_
      refine wr_iastore (M := mX7_withdrawFrom) (pc := 70) dX7_withdrawFrom_70 ka (ia rfl (show (3 : Int32) = nI 3 from rfl)) (by omega) (by decide) ?_
      refine wp_aload_n (M := mX7_withdrawFrom) (pc := 71) dX7_withdrawFrom_71 rfl ?_
      refine wp_iload_n (M := mX7_withdrawFrom) (pc := 72) dX7_withdrawFrom_72 rfl ?_
      refine so_S2 (M := mX7_withdrawFrom) (pc := 73) cs_X7_withdrawFrom_173 rfl rfl (LE rfl) (LE rfl) dX7_withdrawFrom_73 ?_
      refine sp_X7_removeOrder (A := giveT A i) ka ?_ (by rw [giveT_O]; exact hi) (fun h2 R3 F3 => kV (wp_return (M := mX7_withdrawFrom) (pc := 76) rfl dX7_withdrawFrom_76 (k h2 R3 ((RF.si.tr RF.si).tr F3))))
      simp only [gi_si_at, e4, o2, o3]
      rw [upd_ne _ _ (show 58 + 217 * (oA A i).1 + 3 ≠ 58 + 217 * (oA A i).1 + 4 by omega), e3]
      first
      | (rw [gv0 k0]
         exact (hR.sF o4 (k := 4) (by decide) _).sF o4 (k := 3) (by decide) _)
      | (rw [upd_ne _ _ (show 10 + 4 * i + 3 ≠ 58 + 217 * (oA A i).1 + 4 by omega), o3, gv1 k1]
         exact (hR.sF o4 (k := 4) (by decide) _).sF o4 (k := 3) (by decide) _)
      | (rw [gv2 k0 k1]
         exact (hR.sF o4 (k := 4) (by decide) _).sF o4 (k := 3) (by decide) _)
      | omega
      | fail "leaf"
    · rw [gi_si_at, upd_ne _ _ (by omega), o1] at f57
      have k1 : (oA A i).2.1 = 1 := (i_eq (b := 1) (by omega) (by decide)).mp f57
      refine wp_aload_n (M := mX7_withdrawFrom) (pc := 60) dX7_withdrawFrom_60 rfl ?_
      refine wp_iload_n (M := mX7_withdrawFrom) (pc := 61) dX7_withdrawFrom_61 rfl ?_
      refine wp_iconst (M := mX7_withdrawFrom) (pc := 62) (v := 3) dX7_withdrawFrom_62 ci_3 ?_
      refine wp_iadd (M := mX7_withdrawFrom) (pc := 63) dX7_withdrawFrom_63 ?_
      refine wr_iaload (M := mX7_withdrawFrom) (pc := 64) dX7_withdrawFrom_64 ka (ia rfl (show (3 : Int32) = nI 3 from rfl)) (by omega) (by decide) ?_
      refine wp_goto (M := mX7_withdrawFrom) (pc := 65) (tgt := 69) dX7_withdrawFrom_65 rfl ?_
      refine wp_iadd (M := mX7_withdrawFrom) (pc := 69) dX7_withdrawFrom_69 ?_
      refine wr_iastore (M := mX7_withdrawFrom) (pc := 70) dX7_withdrawFrom_70 ka (ia rfl (show (3 : Int32) = nI 3 from rfl)) (by omega) (by decide) ?_
      refine wp_aload_n (M := mX7_withdrawFrom) (pc := 71) dX7_withdrawFrom_71 rfl ?_
      refine wp_iload_n (M := mX7_withdrawFrom) (pc := 72) dX7_withdrawFrom_72 rfl ?_
      refine so_S2 (M := mX7_withdrawFrom) (pc := 73) cs_X7_withdrawFrom_173 rfl rfl (LE rfl) (LE rfl) dX7_withdrawFrom_73 ?_
      refine sp_X7_removeOrder (A := giveT A i) ka ?_ (by rw [giveT_O]; exact hi) (fun h2 R3 F3 => kV (wp_return (M := mX7_withdrawFrom) (pc := 76) rfl dX7_withdrawFrom_76 (k h2 R3 ((RF.si.tr RF.si).tr F3))))
      simp only [gi_si_at, e4, o2, o3]
      rw [upd_ne _ _ (show 58 + 217 * (oA A i).1 + 3 ≠ 58 + 217 * (oA A i).1 + 4 by omega), e3]
      first
      | (rw [gv0 k0]
         exact (hR.sF o4 (k := 4) (by decide) _).sF o4 (k := 3) (by decide) _)
      | (rw [upd_ne _ _ (show 10 + 4 * i + 3 ≠ 58 + 217 * (oA A i).1 + 4 by omega), o3, gv1 k1]
         exact (hR.sF o4 (k := 4) (by decide) _).sF o4 (k := 3) (by decide) _)
      | (rw [gv2 k0 k1]
         exact (hR.sF o4 (k := 4) (by decide) _).sF o4 (k := 3) (by decide) _)
      | omega
      | fail "leaf"
  · rw [o1] at f25
    have k0 : (oA A i).2.1 = 0 := (i_eq (b := 0) (by omega) (by decide)).mp f25
    refine wp_aload_n (M := mX7_withdrawFrom) (pc := 28) dX7_withdrawFrom_28 rfl ?_
    refine wp_iload_n (M := mX7_withdrawFrom) (pc := 29) dX7_withdrawFrom_29 rfl ?_
    refine wp_iconst (M := mX7_withdrawFrom) (pc := 30) (v := 2) dX7_withdrawFrom_30 ci_2 ?_
    refine wp_iadd (M := mX7_withdrawFrom) (pc := 31) dX7_withdrawFrom_31 ?_
    refine wr_iaload (M := mX7_withdrawFrom) (pc := 32) dX7_withdrawFrom_32 ka (ia rfl (show (2 : Int32) = nI 2 from rfl)) (by omega) (by decide) ?_
    refine wp_aload_n (M := mX7_withdrawFrom) (pc := 33) dX7_withdrawFrom_33 rfl ?_
    refine wp_iload_n (M := mX7_withdrawFrom) (pc := 34) dX7_withdrawFrom_34 rfl ?_
    refine wp_iconst (M := mX7_withdrawFrom) (pc := 35) (v := 3) dX7_withdrawFrom_35 ci_3 ?_
    refine wp_iadd (M := mX7_withdrawFrom) (pc := 36) dX7_withdrawFrom_36 ?_
    refine wr_iaload (M := mX7_withdrawFrom) (pc := 37) dX7_withdrawFrom_37 ka (ia rfl (show (3 : Int32) = nI 3 from rfl)) (by omega) (by decide) ?_
    refine wp_imul (M := mX7_withdrawFrom) (pc := 38) dX7_withdrawFrom_38 ?_
    refine wp_goto (M := mX7_withdrawFrom) (pc := 39) (tgt := 43) dX7_withdrawFrom_39 rfl ?_
    refine wp_iadd (M := mX7_withdrawFrom) (pc := 43) dX7_withdrawFrom_43 ?_
    refine wr_iastore (M := mX7_withdrawFrom) (pc := 44) dX7_withdrawFrom_44 ka (ia rfl (show (4 : Int32) = nI 4 from rfl)) (by omega) (by decide) ?_
    refine wp_aload_n (M := mX7_withdrawFrom) (pc := 45) dX7_withdrawFrom_45 rfl ?_
    refine wp_iload_n (M := mX7_withdrawFrom) (pc := 46) dX7_withdrawFrom_46 rfl ?_
    refine wp_iconst (M := mX7_withdrawFrom) (pc := 47) (v := 3) dX7_withdrawFrom_47 ci_3 ?_
    refine wp_iadd (M := mX7_withdrawFrom) (pc := 48) dX7_withdrawFrom_48 ?_
    refine wp_dup2 (M := mX7_withdrawFrom) (pc := 49) dX7_withdrawFrom_49 rfl rfl ?_
    refine wr_iaload (M := mX7_withdrawFrom) (pc := 50) dX7_withdrawFrom_50 ka (ia rfl (show (3 : Int32) = nI 3 from rfl)) (by omega) (by decide) ?_
    refine wp_aload_n (M := mX7_withdrawFrom) (pc := 51) dX7_withdrawFrom_51 rfl ?_
    refine wp_iload_n (M := mX7_withdrawFrom) (pc := 52) dX7_withdrawFrom_52 rfl ?_
    refine wp_iconst (M := mX7_withdrawFrom) (pc := 53) (v := 1) dX7_withdrawFrom_53 ci_1 ?_
    refine wp_iadd (M := mX7_withdrawFrom) (pc := 54) dX7_withdrawFrom_54 ?_
    refine wr_iaload (M := mX7_withdrawFrom) (pc := 55) dX7_withdrawFrom_55 ka (ia rfl (show (1 : Int32) = nI 1 from rfl)) (by omega) (by decide) ?_
    refine wp_iconst (M := mX7_withdrawFrom) (pc := 56) (v := 1) dX7_withdrawFrom_56 ci_1 ?_
    refine wp_icmp_ne (M := mX7_withdrawFrom) (pc := 57) (tgt := 68) dX7_withdrawFrom_57 rfl (fun t57 => ?_) (fun f57 => ?_)
    · rw [gi_si_at, upd_ne _ _ (by omega), o1] at t57
      have k1 : ¬ (oA A i).2.1 = 1 := fun e => t57 (by rw [e]; rfl)
      refine wp_iconst (M := mX7_withdrawFrom) (pc := 68) (v := 0) dX7_withdrawFrom_68 ci_0 ?_
      refine wp_iadd (M := mX7_withdrawFrom) (pc := 69) dX7_withdrawFrom_69 ?_
      refine wr_iastore (M := mX7_withdrawFrom) (pc := 70) dX7_withdrawFrom_70 ka (ia rfl (show (3 : Int32) = nI 3 from rfl)) (by omega) (by decide) ?_
      refine wp_aload_n (M := mX7_withdrawFrom) (pc := 71) dX7_withdrawFrom_71 rfl ?_
      refine wp_iload_n (M := mX7_withdrawFrom) (pc := 72) dX7_withdrawFrom_72 rfl ?_
      refine so_S2 (M := mX7_withdrawFrom) (pc := 73) cs_X7_withdrawFrom_173 rfl rfl (LE rfl) (LE rfl) dX7_withdrawFrom_73 ?_
      refine sp_X7_removeOrder (A := giveT A i) ka ?_ (by rw [giveT_O]; exact hi) (fun h2 R3 F3 => kV (wp_return (M := mX7_withdrawFrom) (pc := 76) rfl dX7_withdrawFrom_76 (k h2 R3 ((RF.si.tr RF.si).tr F3))))
      simp only [gi_si_at, e4, o2, o3]
      rw [upd_ne _ _ (show 58 + 217 * (oA A i).1 + 3 ≠ 58 + 217 * (oA A i).1 + 4 by omega), e3]
      first
      | (rw [gv0 k0]
         exact (hR.sF o4 (k := 4) (by decide) _).sF o4 (k := 3) (by decide) _)
      | (rw [upd_ne _ _ (show 10 + 4 * i + 3 ≠ 58 + 217 * (oA A i).1 + 4 by omega), o3, gv1 k1]
         exact (hR.sF o4 (k := 4) (by decide) _).sF o4 (k := 3) (by decide) _)
      | (rw [gv2 k0 k1]
         exact (hR.sF o4 (k := 4) (by decide) _).sF o4 (k := 3) (by decide) _)
      | omega
      | fail "leaf"
    · rw [gi_si_at, upd_ne _ _ (by omega), o1] at f57
      have k1 : (oA A i).2.1 = 1 := (i_eq (b := 1) (by omega) (by decide)).mp f57
      refine wp_aload_n (M := mX7_withdrawFrom) (pc := 60) dX7_withdrawFrom_60 rfl ?_
      refine wp_iload_n (M := mX7_withdrawFrom) (pc := 61) dX7_withdrawFrom_61 rfl ?_
      refine wp_iconst (M := mX7_withdrawFrom) (pc := 62) (v := 3) dX7_withdrawFrom_62 ci_3 ?_
      refine wp_iadd (M := mX7_withdrawFrom) (pc := 63) dX7_withdrawFrom_63 ?_
      refine wr_iaload (M := mX7_withdrawFrom) (pc := 64) dX7_withdrawFrom_64 ka (ia rfl (show (3 : Int32) = nI 3 from rfl)) (by omega) (by decide) ?_
      refine wp_goto (M := mX7_withdrawFrom) (pc := 65) (tgt := 69) dX7_withdrawFrom_65 rfl ?_
      refine wp_iadd (M := mX7_withdrawFrom) (pc := 69) dX7_withdrawFrom_69 ?_
      refine wr_iastore (M := mX7_withdrawFrom) (pc := 70) dX7_withdrawFrom_70 ka (ia rfl (show (3 : Int32) = nI 3 from rfl)) (by omega) (by decide) ?_
      refine wp_aload_n (M := mX7_withdrawFrom) (pc := 71) dX7_withdrawFrom_71 rfl ?_
      refine wp_iload_n (M := mX7_withdrawFrom) (pc := 72) dX7_withdrawFrom_72 rfl ?_
      refine so_S2 (M := mX7_withdrawFrom) (pc := 73) cs_X7_withdrawFrom_173 rfl rfl (LE rfl) (LE rfl) dX7_withdrawFrom_73 ?_
      refine sp_X7_removeOrder (A := giveT A i) ka ?_ (by rw [giveT_O]; exact hi) (fun h2 R3 F3 => kV (wp_return (M := mX7_withdrawFrom) (pc := 76) rfl dX7_withdrawFrom_76 (k h2 R3 ((RF.si.tr RF.si).tr F3))))
      simp only [gi_si_at, e4, o2, o3]
      rw [upd_ne _ _ (show 58 + 217 * (oA A i).1 + 3 ≠ 58 + 217 * (oA A i).1 + 4 by omega), e3]
      first
      | (rw [gv0 k0]
         exact (hR.sF o4 (k := 4) (by decide) _).sF o4 (k := 3) (by decide) _)
      | (rw [upd_ne _ _ (show 10 + 4 * i + 3 ≠ 58 + 217 * (oA A i).1 + 4 by omega), o3, gv1 k1]
         exact (hR.sF o4 (k := 4) (by decide) _).sF o4 (k := 3) (by decide) _)
      | (rw [gv2 k0 k1]
         exact (hR.sF o4 (k := 4) (by decide) _).sF o4 (k := 3) (by decide) _)
      | omega
      | fail "leaf"
set_option maxHeartbeats 4000000 in
set_option maxRecDepth 100000 in
theorem lp_X7_withdrawAll {a t : Nat} {h0 : PH} {res : Sta} (ht : t < 2 ^ 31) (k : ∀ h', RepR (gi h' a) res → RF a h0 h' → Q (.inl none) h') : ∀ (m : Nat) (i : Nat) (h : PH) (A : Sta), (sO A).length - i < m → (i ≤ (sO A).length) → (kd h a = some (.inr (0, 1360))) → (RepR (gi h a) A) → (RF a h0 h) → (wdR t ((sO A).length - i) i A = res) → WPx E mX7_withdrawAll 2 [some (.ref a), some (.int (nI t)), some (.int (nI i))] [] (0, 0) h Q := by
  intro m
  induction m with
  | zero => intro i h A hm; exact absurd hm (Nat.not_lt_zero _)
  | succ m ih =>
    intro i h A hm hi ka hR F he
    have n6 := hR.n6
    have n12 := hR.n12
    refine wp_iload_n (M := mX7_withdrawAll) (pc := 2) dX7_withdrawAll_2 rfl ?_
    refine wp_aload_n (M := mX7_withdrawAll) (pc := 3) dX7_withdrawAll_3 rfl ?_
    refine wp_bipush (M := mX7_withdrawAll) (pc := 4) (v := 8) dX7_withdrawAll_4 cb_8 ?_
    refine wr_iaload (M := mX7_withdrawAll) (pc := 6) dX7_withdrawAll_6 ka (show (8 : Int32) = nI 8 from rfl) (by omega) (by decide) ?_
    refine wp_icmp_ge (M := mX7_withdrawAll) (pc := 7) (tgt := 36) dX7_withdrawAll_7 rfl (fun t7 => ?_) (fun f7 => ?_)
    · rw [hR.f8] at t7
      have hi2 := n_ge hi (by omega) t7
      refine wp_return (M := mX7_withdrawAll) (pc := 36) rfl dX7_withdrawAll_36 ?_
      rw [wdR_stop (by omega)] at he
      rw [he] at hR
      exact k h hR F
    · rw [hR.f8] at f7
      have hlt := n_lt hi (by omega) f7
      obtain ⟨⟨o0, o1, o2, o3⟩, o4, o5⟩ := hR.o hlt
      refine wp_aload_n (M := mX7_withdrawAll) (pc := 10) dX7_withdrawAll_10 rfl ?_
      refine wp_iload_n (M := mX7_withdrawAll) (pc := 11) dX7_withdrawAll_11 rfl ?_
      refine so_S1 (M := mX7_withdrawAll) (pc := 12) cs_X7_withdrawAll_119 rfl rfl (LE rfl) (LE rfl) dX7_withdrawAll_12 ?_
      refine sp_X7_orderAt ?_
      refine kI ?_
      refine wp_iconst (M := mX7_withdrawAll) (pc := 15) (v := 0) dX7_withdrawAll_15 ci_0 ?_
      refine wp_iadd (M := mX7_withdrawAll) (pc := 16) dX7_withdrawAll_16 ?_
      refine wr_iaload (M := mX7_withdrawAll) (pc := 17) dX7_withdrawAll_17 ka (ia rfl (show (0 : Int32) = nI 0 from rfl)) (by omega) (by decide) ?_
      refine wp_iload_n (M := mX7_withdrawAll) (pc := 18) dX7_withdrawAll_18 rfl ?_
      refine wp_icmp_ne (M := mX7_withdrawAll) (pc := 19) (tgt := 30) dX7_withdrawAll_19 rfl (fun t19 => ?_) (fun f19 => ?_)
      · rw [o0] at t19
        refine so_iinc (M := mX7_withdrawAll) (pc := 30) (lo' := [_, _, _]) dX7_withdrawAll_30 rfl ci_1 (LE rfl) rfl ?_
        refine wp_goto (M := mX7_withdrawAll) (pc := 33) (tgt := 2) dX7_withdrawAll_33 rfl ?_
        first
        | exact ih i h1 (wd1 A i) (by omega) (by omega) (by rw [F1.kd]; exact ka) R1 (F.tr F1) (by rw [el]; exact he)
        | (have ew : ¬ (oA A i).1 = t := fun e => t19 (by rw [e])
           rw [show (sO A).length - i = ((sO A).length - (i + 1)) + 1 by omega, wdR_n hlt ew] at he
           rw [show nI i + 1 = nI (i + 1) from nI_1 i]
           exact ih (i + 1) h A (by omega) (by omega) ka hR F he)
        | fail "leaf"
      · rw [o0] at f19
        refine wp_aload_n (M := mX7_withdrawAll) (pc := 22) dX7_withdrawAll_22 rfl ?_
        refine wp_iload_n (M := mX7_withdrawAll) (pc := 23) dX7_withdrawAll_23 rfl ?_
        refine so_S2 (M := mX7_withdrawAll) (pc := 24) cs_X7_withdrawAll_188 rfl rfl (LE rfl) (LE rfl) dX7_withdrawAll_24 ?_
        have ew : (oA A i).1 = t := (i_eq (by omega) ht).mp f19
        have el := wd1_len hlt
        rw [show (sO A).length - i = ((sO A).length - 1 - i) + 1 by omega, wdR_y hlt ew] at he
        refine sp_X7_withdrawFrom ka hR hlt (fun h1 R1 F1 => ?_)
        refine kV ?_
        refine wp_goto (M := mX7_withdrawAll) (pc := 27) (tgt := 2) dX7_withdrawAll_27 rfl ?_
        first
        | exact ih i h1 (wd1 A i) (by omega) (by omega) (by rw [F1.kd]; exact ka) R1 (F.tr F1) (by rw [el]; exact he)
        | (have ew : ¬ (oA A i).1 = t := fun e => t19 (by rw [e])
           rw [show (sO A).length - i = ((sO A).length - (i + 1)) + 1 by omega, wdR_n hlt ew] at he
           rw [show nI i + 1 = nI (i + 1) from nI_1 i]
           exact ih (i + 1) h A (by omega) (by omega) ka hR F he)
        | fail "leaf"
set_option maxHeartbeats 4000000 in
set_option maxRecDepth 100000 in
theorem sp_X7_withdrawAll {a : Nat} {A : Sta} {t : Nat} (ka : kd h a = some (.inr (0, 1360))) (hR : RepR (gi h a) A) (ht : t < 2 ^ 31) (k : ∀ h', RepR (gi h' a) (wdR t (sO A).length 0 A) → RF a h h' → Q (.inl none) h') : WPx E mX7_withdrawAll 0 [some (.ref a), some (.int (nI t)), none] [] (0, 0) h Q := by
  refine wp_iconst (M := mX7_withdrawAll) (pc := 0) (v := 0) dX7_withdrawAll_0 ci_0 ?_
  refine so_istore_n (M := mX7_withdrawAll) (pc := 1) (lo' := [_, _, _]) dX7_withdrawAll_1 (LE rfl) (LE rfl) (Or.inr rfl) rfl ?_
  exact lp_X7_withdrawAll ht k ((sO A).length + 1) 0 h A (by omega) (by omega) ka hR RF.rf rfl
theorem rep_send {f G : Nat → Int32} {A : Sta} (H : RepR f A) {t : Nat} (ht : t < sN A) (h0 : 0 < (sT A t).2.1.length)
    (g1 : ∀ j, (j < 58 + 217 * t ∨ 58 + 217 * t + 217 ≤ j) → j ≠ 9 → G j = f j) (g2 : G 9 = f 9 + m0 A t) (g3 : ∀ k, k < 7 → G (58 + 217 * t + k) = upd (tkF (sT A t).1 (m0 A t)) 5 (fT A t 5 + m0 A t) k)
    (g4 : G (58 + 217 * t + 7) = nI ((sT A t).2.1.length - 1)) (g5 : ∀ j, j < (sT A t).2.1.length - 1 → G (58 + 217 * t + 8 + j) = f (58 + 217 * t + 8 + (j + 1))) (g6 : ∀ j, 16 ≤ j → j < 217 → G (58 + 217 * t + j) = f (58 + 217 * t + j)) : RepR G (wG (sendA A t) 9 (sG A 9 + m0 A t)) := by
  obtain ⟨h1, ⟨h2, h3⟩, h4, ⟨h5, h6⟩, h7⟩ := H.2.1 t ht
  have R1 : RepR (upd G 9 (f 9)) (sendA A t) := by
    refine H.ten ht (fun j hj => ?_) ⟨fun k hk => ?_, ⟨?_, ?_⟩, fun j hj => ?_, ⟨?_, h6⟩, fun j hj => ⟨?_, ?_⟩⟩
    · by_cases e : j = 9
      · rw [e, upd_at]
      · rw [upd_ne _ _ e]; exact g1 j hj e
    · rw [upd_ne _ _ (by omega), g3 k hk]
      show _ = sfF (sT A t).1 (m0 A t) k
      unfold sfF
      by_cases e5 : k = 5
      · rw [e5, upd_at, upd_at]
      · rw [upd_ne _ _ e5, upd_ne _ _ e5]
        have : ∀ k, k < 7 → upd (sT A t).1 7 ((sT A t).1 7 - 1) k = (sT A t).1 k := fun k hk => upd_ne _ _ (by omega)
        exact (tkF_7 this _ k hk).symm
    · rw [upd_ne _ _ (by omega), g4]
      show _ = nI (sT A t).2.1.tail.length
      rw [List.length_tail]
    · show (sT A t).2.1.tail.length ≤ 8
      rw [List.length_tail]; omega
    · have hj' : j < (sT A t).2.1.tail.length := hj
      rw [List.length_tail] at hj'
      rw [upd_ne _ _ (by omega), g5 j hj']
      show _ = (sT A t).2.1.tail.getD j 0
      rw [h4 (j + 1) (by omega), List.getD_eq_getElem?_getD, List.getD_eq_getElem?_getD, List.getElem?_tail]
    · rw [upd_ne _ _ (by omega), g6 16 (by omega) (by omega)]; exact h5
    · have hj9 : j < (sT A t).2.2.length := hj
      rw [upd_ne _ _ (by omega), show 58 + 217 * t + 17 + 2 * j = 58 + 217 * t + (17 + 2 * j) by omega, g6 _ (by omega) (by omega), show 58 + 217 * t + (17 + 2 * j) = 58 + 217 * t + 17 + 2 * j by omega]; exact (h7 j hj).1
    · have hj9 : j < (sT A t).2.2.length := hj
      rw [upd_ne _ _ (by omega), show 58 + 217 * t + 17 + 2 * j + 1 = 58 + 217 * t + (17 + 2 * j + 1) by omega, g6 _ (by omega) (by omega), show 58 + 217 * t + (17 + 2 * j + 1) = 58 + 217 * t + 17 + 2 * j + 1 by omega]; exact (h7 j hj).2
  have R2 := R1.sG (k := 9) (by decide) (sG A 9 + m0 A t)
  have e : upd (upd G 9 (f 9)) 9 (sG A 9 + m0 A t) = G := by
    funext j
    by_cases ej : j = 9
    · rw [ej, upd_at, g2, H.f9]
    · rw [upd_ne _ _ ej, upd_ne _ _ ej]
  rw [e] at R2
  exact R2
set_option maxHeartbeats 4000000 in
set_option maxRecDepth 100000 in
theorem lp_X7_sends {a t n : Nat} {z1 z : Int32} {g : Nat → Int32} {z2 : Option Value} (ka : kd h a = some (.inr (0, 1360))) (ht6 : t < 6) (hn : n ≤ 7) (h7 : g (58 + 217 * t + 7) = nI n) (k : Q (.inl (some (.int 1))) (sw h a (upd (shD 1 g (58 + 217 * t + 8) (58 + 217 * t + 8 + n)) (58 + 217 * t + 8 + n) 0))) : ∀ (m : Nat) (i : Nat), n - i < m → (i ≤ n) → WPx E mX7_sends 89 [some (.ref a), z2, some (.int (nI (58 + 217 * t))), some (.int z), some (.int (nI i))] [] (0, 0) (sw h a (shD 1 g (58 + 217 * t + 8) (58 + 217 * t + 8 + i))) Q := by
  intro m
  induction m with
  | zero => intro i hm; exact absurd hm (Nat.not_lt_zero _)
  | succ m ih =>
    intro i hm hi
    have e7 : gi (sw h a (shD 1 g (58 + 217 * t + 8) (58 + 217 * t + 8 + i))) a (58 + 217 * t + 7) = nI n := by rw [gi_sw_at, shD_lt (by omega)]; exact h7
    refine wp_iload (M := mX7_sends) (pc := 89) dX7_sends_89 rfl ?_
    refine wp_aload_n (M := mX7_sends) (pc := 91) dX7_sends_91 rfl ?_
    refine wp_iload_n (M := mX7_sends) (pc := 92) dX7_sends_92 rfl ?_
    refine wp_bipush (M := mX7_sends) (pc := 93) (v := 7) dX7_sends_93 cb_7 ?_
    refine wp_iadd (M := mX7_sends) (pc := 95) dX7_sends_95 ?_
    refine wr_iaload (M := mX7_sends) (pc := 96) dX7_sends_96 ka (ia rfl (show (7 : Int32) = nI 7 from rfl)) (by omega) (by decide) ?_
    refine wp_icmp_ge (M := mX7_sends) (pc := 97) (tgt := 126) dX7_sends_97 rfl (fun t97 => ?_) (fun f97 => ?_)
    · rw [e7] at t97
      have hi2 := n_ge hi (by omega) t97
      subst hi2
      refine wp_aload_n (M := mX7_sends) (pc := 126) dX7_sends_126 rfl ?_
      refine wp_iload_n (M := mX7_sends) (pc := 127) dX7_sends_127 rfl ?_
      refine wp_bipush (M := mX7_sends) (pc := 128) (v := 8) dX7_sends_128 cb_8 ?_
      refine wp_iadd (M := mX7_sends) (pc := 130) dX7_sends_130 ?_
      refine wp_aload_n (M := mX7_sends) (pc := 131) dX7_sends_131 rfl ?_
      refine wp_iload_n (M := mX7_sends) (pc := 132) dX7_sends_132 rfl ?_
      refine wp_bipush (M := mX7_sends) (pc := 133) (v := 7) dX7_sends_133 cb_7 ?_
      refine wp_iadd (M := mX7_sends) (pc := 135) dX7_sends_135 ?_
      refine wr_iaload (M := mX7_sends) (pc := 136) dX7_sends_136 ka (ia rfl (show (7 : Int32) = nI 7 from rfl)) (by omega) (by decide) ?_
      refine wp_iadd (M := mX7_sends) (pc := 137) dX7_sends_137 ?_
      refine wp_iconst (M := mX7_sends) (pc := 138) (v := 0) dX7_sends_138 ci_0 ?_
      refine wr_iastore (M := mX7_sends) (pc := 139) dX7_sends_139 ka (ia (ia rfl (show (8 : Int32) = nI 8 from rfl)) e7) (by omega) (by decide) ?_
      refine wp_iconst (M := mX7_sends) (pc := 140) (v := 1) dX7_sends_140 ci_1 ?_
      refine wp_zreturn (M := mX7_sends) (pc := 141) rfl (by decide) dX7_sends_141 ?_
      rw [si_sw]
      exact k
    · rw [e7] at f97
      have hlt := n_lt hi (by omega) f97
      refine wp_aload_n (M := mX7_sends) (pc := 100) dX7_sends_100 rfl ?_
      refine wp_iload_n (M := mX7_sends) (pc := 101) dX7_sends_101 rfl ?_
      refine wp_bipush (M := mX7_sends) (pc := 102) (v := 8) dX7_sends_102 cb_8 ?_
      refine wp_iadd (M := mX7_sends) (pc := 104) dX7_sends_104 ?_
      refine wp_iload (M := mX7_sends) (pc := 105) dX7_sends_105 rfl ?_
      refine wp_iadd (M := mX7_sends) (pc := 107) dX7_sends_107 ?_
      refine wp_aload_n (M := mX7_sends) (pc := 108) dX7_sends_108 rfl ?_
      refine wp_iload_n (M := mX7_sends) (pc := 109) dX7_sends_109 rfl ?_
      refine wp_bipush (M := mX7_sends) (pc := 110) (v := 8) dX7_sends_110 cb_8 ?_
      refine wp_iadd (M := mX7_sends) (pc := 112) dX7_sends_112 ?_
      refine wp_iload (M := mX7_sends) (pc := 113) dX7_sends_113 rfl ?_
      refine wp_iadd (M := mX7_sends) (pc := 115) dX7_sends_115 ?_
      refine wp_iconst (M := mX7_sends) (pc := 116) (v := 1) dX7_sends_116 ci_1 ?_
      refine wp_iadd (M := mX7_sends) (pc := 117) dX7_sends_117 ?_
      refine wr_iaload (M := mX7_sends) (pc := 118) dX7_sends_118 ka (ia (ia (ia rfl (show (8 : Int32) = nI 8 from rfl)) rfl) (show (1 : Int32) = nI 1 from rfl)) (by omega) (by decide) ?_
      refine wr_iastore (M := mX7_sends) (pc := 119) dX7_sends_119 ka (ia (ia rfl (show (8 : Int32) = nI 8 from rfl)) rfl) (by omega) (by decide) ?_
      refine so_iinc (M := mX7_sends) (pc := 120) (lo' := [_, _, _, _, _]) dX7_sends_120 rfl ci_1 (LE rfl) rfl ?_
      refine wp_goto (M := mX7_sends) (pc := 123) (tgt := 89) dX7_sends_123 rfl ?_
      rw [gi_sw_at, shD_ge (by omega), si_sw, shD_up (by omega), show nI i + 1 = nI (i + 1) from nI_1 i]
      exact ih (i + 1) (by omega) (by omega)
set_option maxHeartbeats 4000000 in
set_option maxRecDepth 100000 in
theorem sp_X7_sends {a : Nat} {A : Sta} {t : Nat} (ka : kd h a = some (.inr (0, 1360))) (hR : RepR (gi h a) A) (ht : t < sN A) (k1 : canS A t → ∀ h', RepR (gi h' a) (sendT A t) → RF a h h' → Q (.inl (some (.int 1))) h') (k0 : ¬ canS A t → Q (.inl (some (.int 0))) h) : WPx E mX7_sends 0 [some (.ref a), some (.int (nI t)), none, none, none] [] (0, 0) h Q := by
  have n6 := hR.n6
  have n12 := hR.n12
  have h88 := (hR.tM ht).2
  refine wp_iload_n (M := mX7_sends) (pc := 0) dX7_sends_0 rfl ?_
  refine so_S1 (M := mX7_sends) (pc := 1) cs_X7_sends_90 rfl rfl (LE rfl) (LE rfl) dX7_sends_1 ?_
  refine sp_X7_at ?_
  refine kI ?_
  refine so_istore_n (M := mX7_sends) (pc := 4) (lo' := [_, _, _, _, _]) dX7_sends_4 (LE rfl) (LE rfl) (Or.inr rfl) rfl ?_
  refine wp_aload_n (M := mX7_sends) (pc := 5) dX7_sends_5 rfl ?_
  refine wp_iload_n (M := mX7_sends) (pc := 6) dX7_sends_6 rfl ?_
  refine wp_bipush (M := mX7_sends) (pc := 7) (v := 8) dX7_sends_7 cb_8 ?_
  refine wp_iadd (M := mX7_sends) (pc := 9) dX7_sends_9 ?_
  refine wr_iaload (M := mX7_sends) (pc := 10) dX7_sends_10 (by first | exact ka1 | exact ka) (ia rfl (show (8 : Int32) = nI 8 from rfl)) (by omega) (by decide) ?_
  refine so_istore_n (M := mX7_sends) (pc := 11) (lo' := [_, _, _, _, _]) dX7_sends_11 (LE rfl) (LE rfl) (Or.inr rfl) rfl ?_
  refine wp_aload_n (M := mX7_sends) (pc := 12) dX7_sends_12 rfl ?_
  refine wp_iload_n (M := mX7_sends) (pc := 13) dX7_sends_13 rfl ?_
  refine wp_bipush (M := mX7_sends) (pc := 14) (v := 7) dX7_sends_14 cb_7 ?_
  refine wp_iadd (M := mX7_sends) (pc := 16) dX7_sends_16 ?_
  refine wr_iaload (M := mX7_sends) (pc := 17) dX7_sends_17 (by first | exact ka1 | exact ka) (ia rfl (show (7 : Int32) = nI 7 from rfl)) (by omega) (by decide) ?_
  refine wp_if_eq (M := mX7_sends) (pc := 18) (tgt := 50) dX7_sends_18 rfl (fun t18 => ?_) (fun f18 => ?_)
  · rw [(hR.tM ht).1] at t18
    have hz : (sT A t).2.1.length = 0 := (i_eq (b := 0) (by omega) (by decide)).mp t18
    refine wp_iconst (M := mX7_sends) (pc := 50) (v := 0) dX7_sends_50 ci_0 ?_
    refine wp_zreturn (M := mX7_sends) (pc := 51) rfl (by decide) dX7_sends_51 ?_
    first
    | exact k0 (fun c => absurd c.1 (by omega))
    | exact k0 (fun c => c.2.1 (b01_n t26))
    | exact k0 (fun c => Int32.not_lt.mpr c.2.2.1 t35)
    | exact k0 (fun c => f47 c.2.2.2)
    | fail "leaf"
  · rw [(hR.tM ht).1] at f18
    have hpos : 0 < (sT A t).2.1.length := Nat.pos_of_ne_zero (fun e => f18 (by rw [e]; rfl))
    have em : gi h a (58 + 217 * t + 8) = m0 A t := hR.tm ht (j := 0) hpos
    refine wp_aload_n (M := mX7_sends) (pc := 21) dX7_sends_21 rfl ?_
    refine wp_iload_n (M := mX7_sends) (pc := 22) dX7_sends_22 rfl ?_
    refine so_S2 (M := mX7_sends) (pc := 23) cs_X7_sends_130 rfl rfl (LE rfl) (LE rfl) dX7_sends_23 ?_
    refine sp_X7_isSuspended ka hR ht ?_
    refine kI ?_
    refine wp_if_ne (M := mX7_sends) (pc := 26) (tgt := 50) dX7_sends_26 rfl (fun t26 => ?_) (fun f26 => ?_)
    · refine wp_iconst (M := mX7_sends) (pc := 50) (v := 0) dX7_sends_50 ci_0 ?_
      refine wp_zreturn (M := mX7_sends) (pc := 51) rfl (by decide) dX7_sends_51 ?_
      first
      | exact k0 (fun c => absurd c.1 (by omega))
      | exact k0 (fun c => c.2.1 (b01_n t26))
      | exact k0 (fun c => Int32.not_lt.mpr c.2.2.1 t35)
      | exact k0 (fun c => f47 c.2.2.2)
      | fail "leaf"
    · refine wp_iload_n (M := mX7_sends) (pc := 29) dX7_sends_29 rfl ?_
      refine wp_aload_n (M := mX7_sends) (pc := 30) dX7_sends_30 rfl ?_
      refine wp_iload_n (M := mX7_sends) (pc := 31) dX7_sends_31 rfl ?_
      refine so_S2 (M := mX7_sends) (pc := 32) cs_X7_sends_179 rfl rfl (LE rfl) (LE rfl) dX7_sends_32 ?_
      refine sp_X7_credits ka hR ht ?_
      refine kI ?_
      refine wp_icmp_gt (M := mX7_sends) (pc := 35) (tgt := 50) dX7_sends_35 rfl (fun t35 => ?_) (fun f35 => ?_)
      · rw [em] at t35
        refine wp_iconst (M := mX7_sends) (pc := 50) (v := 0) dX7_sends_50 ci_0 ?_
        refine wp_zreturn (M := mX7_sends) (pc := 51) rfl (by decide) dX7_sends_51 ?_
        first
        | exact k0 (fun c => absurd c.1 (by omega))
        | exact k0 (fun c => c.2.1 (b01_n t26))
        | exact k0 (fun c => Int32.not_lt.mpr c.2.2.1 t35)
        | exact k0 (fun c => f47 c.2.2.2)
        | fail "leaf"
      · rw [em] at f35
        refine wp_iload_n (M := mX7_sends) (pc := 38) dX7_sends_38 rfl ?_
        refine wp_aload_n (M := mX7_sends) (pc := 39) dX7_sends_39 rfl ?_
        refine wp_bipush (M := mX7_sends) (pc := 40) (v := 9) dX7_sends_40 cb_9 ?_
        refine wr_iaload (M := mX7_sends) (pc := 42) dX7_sends_42 (by first | exact ka1 | exact ka) (show (9 : Int32) = nI 9 from rfl) (by omega) (by decide) ?_
        refine wp_iadd (M := mX7_sends) (pc := 43) dX7_sends_43 ?_
        refine wp_aload_n (M := mX7_sends) (pc := 44) dX7_sends_44 rfl ?_
        refine wp_iconst (M := mX7_sends) (pc := 45) (v := 1) dX7_sends_45 ci_1 ?_
        refine wr_iaload (M := mX7_sends) (pc := 46) dX7_sends_46 (by first | exact ka1 | exact ka) (show (1 : Int32) = nI 1 from rfl) (by omega) (by decide) ?_
        refine wp_icmp_le (M := mX7_sends) (pc := 47) (tgt := 52) dX7_sends_47 rfl (fun t47 => ?_) (fun f47 => ?_)
        · rw [em, hR.f9, hR.f1] at t47
          refine wp_aload_n (M := mX7_sends) (pc := 52) dX7_sends_52 rfl ?_
          refine wp_iload_n (M := mX7_sends) (pc := 53) dX7_sends_53 rfl ?_
          refine wp_iload_n (M := mX7_sends) (pc := 54) dX7_sends_54 rfl ?_
          refine so_S3 (M := mX7_sends) (pc := 55) cs_X7_sends_182 rfl rfl (LE rfl) (LE rfl) dX7_sends_55 ?_
          have hc : canS A t := ⟨hpos, b01_z f26, Int32.not_lt.mp f35, t47⟩
          rw [em]
          refine sx_X7_takeCredits ka hR ht (fun h1 R1 N1 F1 => ?_)
          have ka1 : kd h1 a = some (.inr (0, 1360)) := by rw [F1.kd]; exact ka
          refine kI ?_
          refine wp_pop (M := mX7_sends) (pc := 58) dX7_sends_58 rfl ?_
          refine wp_aload_n (M := mX7_sends) (pc := 59) dX7_sends_59 rfl ?_
          refine wp_bipush (M := mX7_sends) (pc := 60) (v := 9) dX7_sends_60 cb_9 ?_
          refine wp_dup2 (M := mX7_sends) (pc := 62) dX7_sends_62 rfl rfl ?_
          refine wr_iaload (M := mX7_sends) (pc := 63) dX7_sends_63 (by first | exact ka1 | exact ka) (show (9 : Int32) = nI 9 from rfl) (by omega) (by decide) ?_
          refine wp_iload_n (M := mX7_sends) (pc := 64) dX7_sends_64 rfl ?_
          refine wp_iadd (M := mX7_sends) (pc := 65) dX7_sends_65 ?_
          refine wr_iastore (M := mX7_sends) (pc := 66) dX7_sends_66 (by first | exact ka1 | exact ka) (show (9 : Int32) = nI 9 from rfl) (by omega) (by decide) ?_
          refine wp_aload_n (M := mX7_sends) (pc := 67) dX7_sends_67 rfl ?_
          refine wp_iload_n (M := mX7_sends) (pc := 68) dX7_sends_68 rfl ?_
          refine wp_iconst (M := mX7_sends) (pc := 69) (v := 5) dX7_sends_69 ci_5 ?_
          refine wp_iadd (M := mX7_sends) (pc := 70) dX7_sends_70 ?_
          refine wp_dup2 (M := mX7_sends) (pc := 71) dX7_sends_71 rfl rfl ?_
          refine wr_iaload (M := mX7_sends) (pc := 72) dX7_sends_72 (by first | exact ka1 | exact ka) (ia rfl (show (5 : Int32) = nI 5 from rfl)) (by omega) (by decide) ?_
          refine wp_iload_n (M := mX7_sends) (pc := 73) dX7_sends_73 rfl ?_
          refine wp_iadd (M := mX7_sends) (pc := 74) dX7_sends_74 ?_
          refine wr_iastore (M := mX7_sends) (pc := 75) dX7_sends_75 (by first | exact ka1 | exact ka) (ia rfl (show (5 : Int32) = nI 5 from rfl)) (by omega) (by decide) ?_
          refine wp_aload_n (M := mX7_sends) (pc := 76) dX7_sends_76 rfl ?_
          refine wp_iload_n (M := mX7_sends) (pc := 77) dX7_sends_77 rfl ?_
          refine wp_bipush (M := mX7_sends) (pc := 78) (v := 7) dX7_sends_78 cb_7 ?_
          refine wp_iadd (M := mX7_sends) (pc := 80) dX7_sends_80 ?_
          refine wp_dup2 (M := mX7_sends) (pc := 81) dX7_sends_81 rfl rfl ?_
          refine wr_iaload (M := mX7_sends) (pc := 82) dX7_sends_82 (by first | exact ka1 | exact ka) (ia rfl (show (7 : Int32) = nI 7 from rfl)) (by omega) (by decide) ?_
          refine wp_iconst (M := mX7_sends) (pc := 83) (v := 1) dX7_sends_83 ci_1 ?_
          refine wp_isub (M := mX7_sends) (pc := 84) dX7_sends_84 ?_
          refine wr_iastore (M := mX7_sends) (pc := 85) dX7_sends_85 (by first | exact ka1 | exact ka) (ia rfl (show (7 : Int32) = nI 7 from rfl)) (by omega) (by decide) ?_
          refine wp_iconst (M := mX7_sends) (pc := 86) (v := 0) dX7_sends_86 ci_0 ?_
          refine so_istore (M := mX7_sends) (pc := 87) (lo' := [_, _, _, _, _]) dX7_sends_87 (LE rfl) (LE rfl) (Or.inr rfl) rfl ?_
          have n1 : ∀ j, gi (si h1 a 9 (gi h1 a 9 + m0 A t)) a j = upd (gi h1 a) 9 (gi h1 a 9 + m0 A t) j := fun j => by rw [gi_si_at]
          have e7 : gi (si (si h1 a 9 (gi h1 a 9 + m0 A t)) a (58 + 217 * t + 5) (gi (si h1 a 9 (gi h1 a 9 + m0 A t)) a (58 + 217 * t + 5) + m0 A t)) a (58 + 217 * t + 7) = nI (sT A t).2.1.length := by
            rw [gi_si_at, upd_ne _ _ (by omega), gi_si_at, upd_ne _ _ (by omega)]
            have := (R1.tM ht).1
            rw [this]
            show nI (u1 (sT A) t (tkF (sT A t).1 (m0 A t), (sT A t).2) t).2.1.length = _
            rw [u1_at]
          rw [e7, show nI (sT A t).2.1.length - 1 = nI ((sT A t).2.1.length - 1) from pk_sub (b := 1) (by omega)]
          have kk := k1 hc
          rw [sendT_y hc] at kk
          generalize eG : gi (si (si (si h1 a 9 (gi h1 a 9 + m0 A t)) a (58 + 217 * t + 5) (gi (si h1 a 9 (gi h1 a 9 + m0 A t)) a (58 + 217 * t + 5) + m0 A t)) a (58 + 217 * t + 7) (nI ((sT A t).2.1.length - 1))) a = G
          have eG2 : G = upd (upd (upd (gi h1 a) 9 (gi h1 a 9 + m0 A t)) (58 + 217 * t + 5) (gi h1 a (58 + 217 * t + 5) + m0 A t)) (58 + 217 * t + 7) (nI ((sT A t).2.1.length - 1)) := by
            rw [← eG, gi_si_at, gi_si_at, gi_si_at, upd_ne _ _ (show 58 + 217 * t + 5 ≠ 9 by omega)]
          refine wp_h (M := mX7_sends) (pc := 89) (h' := sw h a (shD 1 G (58 + 217 * t + 8) (58 + 217 * t + 8 + 0))) ?_ (lp_X7_sends (t := t) (n := (sT A t).2.1.length - 1) (z1 := 0) (g := G) ka (by omega) (by omega) (by rw [eG2, upd_at]) (kk _ ?_ RF.sw) ((sT A t).2.1.length + 1) 0 (by omega) (by omega))
          · rw [Nat.add_zero, shD_0, ← eG]
            exact ((((F1.tr RF.si).tr RF.si).tr RF.si) : RF a h _)
          · rw [gi_sw_at]
            have q : ∀ j, j ≠ 9 → j ≠ 58 + 217 * t + 5 → j ≠ 58 + 217 * t + 7 → G j = gi h1 a j := fun j a1 a2 a3 => by rw [eG2, upd_ne _ _ a3, upd_ne _ _ a2, upd_ne _ _ a1]
            have tk : ∀ k, k < 7 → gi h1 a (58 + 217 * t + k) = tkF (sT A t).1 (m0 A t) k := fun k hk => by
              rw [R1.tF ht hk]
              show (u1 (sT A) t (tkF (sT A t).1 (m0 A t), (sT A t).2) t).1 k = _
              rw [u1_at]
            have oth : ∀ j, (j < 58 + 217 * t ∨ 58 + 217 * t + 7 ≤ j) → gi h1 a j = gi h a j := fun j hj2 => N1 j (by omega) (by omega)
            refine rep_send hR ht hpos (fun j j1 j2 => ?_) ?_ (fun k hk => ?_) ?_ (fun j hj => ?_) (fun j j1 j2 => ?_)
            · rw [upd_ne _ _ (by omega)]
              rcases j1 with j1 | j1
              · rw [shD_lt (by omega), q j j2 (by omega) (by omega), oth j (by omega)]
              · rw [shD_ge (by omega), q j j2 (by omega) (by omega), oth j (by omega)]
            · rw [upd_ne _ _ (by omega), shD_lt (by omega), eG2, upd_ne _ _ (by omega), upd_ne _ _ (by omega), upd_at, oth 9 (by omega)]
            · rw [upd_ne _ _ (by omega), shD_lt (by omega)]
              by_cases e5 : k = 5
              · rw [e5, upd_at, eG2, upd_ne _ _ (by omega), upd_at, tk 5 (by decide)]
                show upd (upd _ _ _) _ _ 5 + _ = _
                rw [upd_ne _ _ (by decide), upd_ne _ _ (by decide)]
              · rw [upd_ne _ _ e5, q _ (by omega) (by omega) (by omega), tk k hk]
            · rw [upd_ne _ _ (by omega), shD_lt (by omega), eG2, upd_at]
            · rw [upd_ne _ _ (by omega), shD_in (by omega) (by omega), q _ (by omega) (by omega) (by omega), oth _ (by omega)]
              rfl
            · rw [upd_ne _ _ (by omega), shD_ge (by omega), q _ (by omega) (by omega) (by omega), oth _ (by omega)]
        · rw [em, hR.f9, hR.f1] at f47
          refine wp_iconst (M := mX7_sends) (pc := 50) (v := 0) dX7_sends_50 ci_0 ?_
          refine wp_zreturn (M := mX7_sends) (pc := 51) rfl (by decide) dX7_sends_51 ?_
          first
          | exact k0 (fun c => absurd c.1 (by omega))
          | exact k0 (fun c => c.2.1 (b01_n t26))
          | exact k0 (fun c => Int32.not_lt.mpr c.2.2.1 t35)
          | exact k0 (fun c => f47 c.2.2.2)
          | fail "leaf"
end SP
