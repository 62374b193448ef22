section SP
variable {E : Ev} {h : PH} {Q : Rt → PH → Prop}
/-- the k-th group of a script of n groups -/
def grpI (n : Nat) (s : Int64) (k : Nat) : Int32 := (s / unitG (n - 1 - k) - s / unitG (n - 1 - k) / 1000000 * 1000000).toInt32
noncomputable def rsA (n : Nat) (s : Int64) : Nat → Nat → Sta → Int32
  | 0, _, _ => -9
  | f + 1, k, B => match grpA B (grpI n s k) with
    | none => nI k
    | some B' => rsA n s f (k + 1) B'
theorem rsA_n {n f k : Nat} {s : Int64} {B : Sta} (h : grpA B (grpI n s k) = none) : rsA n s (f + 1) k B = nI k := by rw [rsA, h]
theorem rsA_y {n f k : Nat} {s : Int64} {B B' : Sta} (h : grpA B (grpI n s k) = some B') : rsA n s (f + 1) k B = rsA n s f (k + 1) B' := by rw [rsA, h]
theorem unitG_nz : ∀ k, k < 4 → ¬ unitG k = 0 := by decide
/-- what a command leaves is as good, for 50 ticks less -/
theorem OkP.grp {P : Nat → Sta → Prop} (hP : OkP P) {k : Nat} {B B' : Sta} {cm t p z : Int32} (hk : 50 ≤ k) (hB : P k B) (hn : sN B ≤ 6) (h : cmdA B cm t p z = some B') : ∃ k', k - 50 ≤ k' ∧ P k' B' := by
  have hpl : ∀ kd, kd < 3 → plO B kd t p z = some B' → P k B' := fun kd hkd e => by
    by_cases hm : mayP B kd t p z
    · rw [plO, cif_t hm] at e
      obtain ⟨j, hj, et, hp, hz, hc⟩ := hm
      rw [et, mis_n (by omega)] at e
      cases e
      exact hP.2.1 k B kd j p z hB hkd hj hp hz hc
    · rw [plO, cif_f hm] at e; cases e
  rcases sw18 cm with rfl | rfl | rfl | rfl | rfl | rfl | rfl | rfl | hx
  · rw [cm_1] at h; exact ⟨k, by omega, hpl 0 (by decide) h⟩
  · rw [cm_2] at h; exact ⟨k, by omega, hpl 1 (by decide) h⟩
  · rw [cm_3] at h; exact ⟨k, by omega, hpl 2 (by decide) h⟩
  · rw [cm_4] at h
    by_cases hm : t = 0 ∧ p = 0 ∧ wth z 1 50
    · rw [cif_t hm] at h
      cases h
      obtain ⟨n, hn1, hn2, rfl⟩ := wth_1 (b := 50) (by decide) hm.2.2
      rw [mis_n (by omega)]
      exact ⟨k - n, by omega, (hP.1 k B n hB (by omega)).2⟩
    · rw [cif_f hm] at h; cases h
  · rw [cm_5] at h
    by_cases hm : p = 0
    · rw [cif_t hm] at h
      by_cases hq : mayQ B t z
      · rw [quO, cif_t hq] at h
        obtain ⟨j, hj, et, hz, h8⟩ := hq
        rw [et, mis_n (by omega)] at h
        cases h
        exact ⟨k, by omega, hP.2.2 k B j z hB hj hz h8⟩
      · rw [quO, cif_f hq] at h; cases h
    · rw [cif_f hm] at h; cases h
  · rw [cm_6] at h
    by_cases hm : ∃ i, i < sN B ∧ t = nI i ∧ 100 * p + z ≤ fT B i 4
    · rw [cif_t hm] at h; cases h; exact ⟨k, by omega, hB⟩
    · rw [cif_f hm] at h; cases h
  · rw [cm_7] at h
    by_cases hm : ∃ i, i < sN B ∧ t = nI i ∧ 100 * p + z ≤ fT B i 2 + fT B i 3
    · rw [cif_t hm] at h; cases h; exact ⟨k, by omega, hB⟩
    · rw [cif_f hm] at h; cases h
  · rw [cm_8] at h
    by_cases hm : t = 0 ∧ p = 0 ∧ sG B 7 = z
    · rw [cif_t hm] at h; cases h; exact ⟨k, by omega, hB⟩
    · rw [cif_f hm] at h; cases h
  · rw [cm_9 hx] at h; cases h
set_option maxHeartbeats 4000000 in
set_option maxRecDepth 100000 in
theorem lp_X6_runScript {me q c u hi sl tx ka pa fa la hsa txa x : Nat} {l : Lt} {cs ss : Nat → Option (Nat × Lt)} {X : Abs} {n : Nat} {s : Int64} {P : Nat → Sta → Prop} {h0 : PH} (hP : OkP P) (hn3 : n ≤ 3) (k : ∀ h', WC h' me X → Of h0 h' → Q (.inl (some (.int (rsA n s n 0 (xA X))))) h') : ∀ (m : Nat) (i : Nat) (h : PH) (lc : Lt) (B : Sta) (x5 : Option Value) (r : Nat × Nat), n - i < m → (i ≤ n) → (WP h me q c u hi sl tx ka pa fa la hsa txa x l lc cs ss X) → (Of h0 h) → (RepC h c lc B) → (∃ kk, 50 * (3 - i) ≤ kk ∧ P kk B) → (rsA n s n 0 (xA X) = rsA n s (n - i) i B) → WPx E mX6_runScript 46 [some (.ref me), some (.int (nI n)), some (.long s), none, some (.int (nI i)), x5] [] r h Q := by
  intro m
  induction m with
  | zero => intro i h lc B x5 r hm; exact absurd hm (Nat.not_lt_zero _)
  | succ m ih =>
    intro i h lc B x5 r hm hi2 H O1 hB hPB he
    have hob := H.ob
    refine wp_iload (M := mX6_runScript) (pc := 46) dX6_runScript_46 rfl ?_
    refine wp_iload_n (M := mX6_runScript) (pc := 48) dX6_runScript_48 rfl ?_
    refine wp_icmp_ge (M := mX6_runScript) (pc := 49) (tgt := 88) dX6_runScript_49 rfl (fun t49 => ?_) (fun f49 => ?_)
    · have e2 := n_ge hi2 (by omega) t49
      subst e2
      refine wp_bipush (M := mX6_runScript) (pc := 88) (v := -9) dX6_runScript_88 cb_m9 ?_
      refine wp_ireturn (M := mX6_runScript) (pc := 90) rfl dX6_runScript_90 ?_
      rw [he, show n - n = 0 by omega] at k
      exact k h H.wc O1
    · have hlt := n_lt hi2 (by omega) f49
      rw [show n - i = (n - (i + 1)) + 1 by omega] at he
      obtain ⟨kk, hk1, hk2⟩ := hPB
      have hokB := (hP.1 kk B 50 hk2 (by omega)).1
      refine wp_lload_n (M := mX6_runScript) (pc := 52) dX6_runScript_52 rfl ?_
      refine wp_iload_n (M := mX6_runScript) (pc := 53) dX6_runScript_53 rfl ?_
      refine wp_iconst (M := mX6_runScript) (pc := 54) (v := 1) dX6_runScript_54 ci_1 ?_
      refine wp_isub (M := mX6_runScript) (pc := 55) dX6_runScript_55 ?_
      refine wp_iload (M := mX6_runScript) (pc := 56) dX6_runScript_56 rfl ?_
      refine wp_isub (M := mX6_runScript) (pc := 58) dX6_runScript_58 ?_
      refine so_S1 (M := mX6_runScript) (pc := 59) cs_X6_runScript_231 rfl rfl (LE rfl) (LE rfl) dX6_runScript_59 ?_
      rw [show nI n - 1 - nI i = nI (n - 1 - i) by rw [show nI n - 1 = nI (n - 1) from pk_sub (b := 1) (by omega)]; exact pk_sub (by omega)]
      refine sp_X6_unitOfGroup (by omega) ?_
      refine kL ?_
      refine wp_ldiv (M := mX6_runScript) (pc := 62) dX6_runScript_62 (by first | exact unitG_nz _ (by omega) | decide) ?_
      refine wp_ldc2_w (M := mX6_runScript) (pc := 63) wv_X6_235 dX6_runScript_63 ?_
      refine wp_lrem (M := mX6_runScript) (pc := 66) dX6_runScript_66 (by first | exact unitG_nz _ (by omega) | decide) ?_
      refine wp_l2i (M := mX6_runScript) (pc := 67) dX6_runScript_67 ?_
      refine so_istore (M := mX6_runScript) (pc := 68) (lo' := [_, _, _, _, _, _]) dX6_runScript_68 (LE rfl) (LE rfl) (Or.inr rfl) rfl ?_
      refine wp_aload_n (M := mX6_runScript) (pc := 70) dX6_runScript_70 rfl ?_
      refine wp_iload (M := mX6_runScript) (pc := 71) dX6_runScript_71 rfl ?_
      refine so_V1 (M := mX6_runScript) (pc := 73) cs_X6_runScript_237 rfl rfl (LE rfl) (LE rfl) dX6_runScript_73 (by first | exact hob.1.1 | fail "kd") ?_
      refine sp_X6_succeeds (g := grpI n s i) hob hB H.au (nk H.kU H.kC (by simp)) hokB hB.2.1.1.2 (fun B' hg h1 lc1 R1 A1 F1 => ?_) (fun hg => ?_)
      · refine kI ?_
        refine wp_if_ne (M := mX6_runScript) (pc := 76) (tgt := 82) dX6_runScript_76 rfl (fun _ => ?_) (fun e => absurd e (by decide))
        refine so_iinc (M := mX6_runScript) (pc := 82) (lo' := [_, _, _, _, _, _]) dX6_runScript_82 rfl ci_1 (LE rfl) rfl ?_
        refine wp_goto (M := mX6_runScript) (pc := 85) (tgt := 46) dX6_runScript_85 rfl ?_
        rw [show nI i + 1 = nI (i + 1) from nI_1 i]
        rw [rsA_y hg] at he
        obtain ⟨k', hk3, hk4⟩ := hP.grp (by omega) hk2 hB.2.1.1.2 hg
        exact ih (i + 1) h1 lc1 B' _ r (by omega) (by omega) (H.cu F1 R1.1 A1) (O1.tr (H.cuO F1)) R1 ⟨k', by omega, hk4⟩ he
      · refine kI ?_
        refine wp_if_ne (M := mX6_runScript) (pc := 76) (tgt := 82) dX6_runScript_76 rfl (fun e => absurd rfl e) (fun _ => ?_)
        refine wp_iload (M := mX6_runScript) (pc := 79) dX6_runScript_79 rfl ?_
        refine wp_ireturn (M := mX6_runScript) (pc := 81) rfl dX6_runScript_81 ?_
        rw [he, rsA_n hg] at k
        exact k h H.wc O1
set_option maxHeartbeats 4000000 in
set_option maxRecDepth 100000 in
theorem sp_X6_runScript {me : Nat} {X : Abs} {w : Int32} {s : Int64} {P : Nat → Sta → Prop} (H : WC h me X) (hP : OkP P) (hPX : P 150 (xA X)) (k1 : ∀ n, 1 ≤ n → n ≤ 3 → w = nI n → 0 ≤ s → s < unitG n → ∀ h', WC h' me X → Of h h' → Q (.inl (some (.int (rsA n s n 0 (xA X))))) h') (k0 : (¬ wth w 1 3 ∨ ∀ n, w = nI n → n ≤ 3 → ¬ (0 ≤ s ∧ s < unitG n)) → Q (.inr "java/lang/IllegalArgumentException") h) : WPx E mX6_runScript 0 [some (.ref me), some (.int w), some (.long s), none, none, none] [] (2, 12) h Q := by
  obtain ⟨q, c, u, hi, sl, tx, ka, pa, fa, la, hsa, txa, x, l, lc, cs, ss, H⟩ := H
  have hm := H.ob
  have hR := H.rep
  have n6 := hR.2.1.1.2
  refine wp_iload_n (M := mX6_runScript) (pc := 0) dX6_runScript_0 rfl ?_
  refine wp_iconst (M := mX6_runScript) (pc := 1) (v := 1) dX6_runScript_1 ci_1 ?_
  refine wp_iconst (M := mX6_runScript) (pc := 2) (v := 3) dX6_runScript_2 ci_3 ?_
  refine so_S3 (M := mX6_runScript) (pc := 3) cs_X6_runScript_52 rfl rfl (LE rfl) (LE rfl) dX6_runScript_3 ?_
  refine sp_X6_isWithin ?_
  refine kI ?_
  refine so_SA1 (M := mX6_runScript) (pc := 6) (1, 6) cs_X6_runScript_56 rfl (LE rfl) (LE rfl) (LE rfl) (LE rfl) dX6_runScript_6 ?_
  refine sp_X6_requireArgument (fun hw => ?_) (fun hw => k0 (Or.inl hw))
  obtain ⟨n, hn1, hn2, rfl⟩ := wth_1 (b := 3) (by decide) hw
  refine kV ?_
  refine wp_lload_n (M := mX6_runScript) (pc := 9) dX6_runScript_9 rfl ?_
  refine wp_lconst (M := mX6_runScript) (pc := 10) (v := 0) dX6_runScript_10 cl_0 ?_
  refine wp_lcmp (M := mX6_runScript) (pc := 11) dX6_runScript_11 ?_
  refine wp_if_lt (M := mX6_runScript) (pc := 12) (tgt := 28) dX6_runScript_12 rfl (fun t12 => ?_) (fun f12 => ?_)
  · have hl : ¬ (0 : Int32) = 0 → (0 ≤ s ∧ s < unitG n) := fun e => absurd rfl e
    have hl0 : (0 : Int32) = 0 → ¬ (0 ≤ s ∧ s < unitG n) := fun _ e => Int64.not_le.mpr ((lg_cmp_lt _ _).mp t12) e.1
    refine wp_iconst (M := mX6_runScript) (pc := 28) (v := 0) dX6_runScript_28 ci_0 ?_
    refine so_SA1 (M := mX6_runScript) (pc := 29) (0, 0) cs_X6_runScript_56 rfl (LE rfl) (LE rfl) (LE rfl) (LE rfl) dX6_runScript_29 ?_
    refine sv_X6_requireArgument (fun hv => ?_) (fun hv => k0 (Or.inr (fun n2 e2 h3 => (i_eq (by omega) (by omega)).mp e2 ▸ hl0 hv)))
    obtain ⟨w1, w2⟩ := hl hv
    refine kV ?_
    refine wp_aload_n (M := mX6_runScript) (pc := 32) dX6_runScript_32 rfl ?_
    refine wp_getR (M := mX6_runScript) (pc := 33) fa_X6_16 rfl dX6_runScript_33 (by first | exact hm.1.1 | exact H.kQ | exact H.kH | exact H.kC | exact H.kU | exact H.kX | exact hR.1.2.1.2.1 | exact a2 | fail "kd") (by first | exact hm.2.1 | exact hm.2.2.1 | exact hm.2.2.2.1 | exact hm.2.2.2.2.1 | exact hm.2.2.2.2.2.1 | exact hm.2.2.2.2.2.2 | exact hR.1.2.1.1 | exact a1 | fail "rx") ?_
    refine wp_aload_n (M := mX6_runScript) (pc := 36) dX6_runScript_36 rfl ?_
    refine wp_getR (M := mX6_runScript) (pc := 37) fa_X6_12 rfl dX6_runScript_37 (by first | exact hm.1.1 | exact H.kQ | exact H.kH | exact H.kC | exact H.kU | exact H.kX | exact hR.1.2.1.2.1 | exact a2 | fail "kd") (by first | exact hm.2.1 | exact hm.2.2.1 | exact hm.2.2.2.1 | exact hm.2.2.2.2.1 | exact hm.2.2.2.2.2.1 | exact hm.2.2.2.2.2.2 | exact hR.1.2.1.1 | exact a1 | fail "rx") ?_
    refine so_V1 (M := mX6_runScript) (pc := 40) cs_X6_runScript_79 rfl rfl (LE rfl) (LE rfl) dX6_runScript_40 (by first | exact hm.1.1 | exact H.kQ | exact H.kH | exact H.kC | exact H.kU | exact H.kX | exact hR.1.2.1.2.1 | exact a2 | fail "kd") ?_
    refine sp_X4_copyFrom H.lay hR H.ds.1 (fun h1 R1 F1 => ?_)
    have F1c : Fr (fun z => z = c ∨ z = u) h h1 := F1.mono (fun y e => Or.inl e)
    have O1 := H.cuO F1c
    have H := H.cu F1c R1.1 (H.au.fr F1 (nk H.kU H.kC (by simp)))
    refine kV ?_
    refine wp_iconst (M := mX6_runScript) (pc := 43) (v := 0) dX6_runScript_43 ci_0 ?_
    refine so_istore (M := mX6_runScript) (pc := 44) (lo' := [_, _, _, _, _, _]) dX6_runScript_44 (LE rfl) (LE rfl) (Or.inr rfl) rfl ?_
    exact lp_X6_runScript hP hn2 (k1 n hn1 hn2 rfl w1 w2) (n + 1) 0 h1 lc (xA X) none (0, 0) (by omega) (by omega) H O1 R1 ⟨150, by omega, hPX⟩ rfl
  · have hs0 : 0 ≤ s := Int64.not_lt.mp (fun e => f12 ((lg_cmp_lt _ _).mpr e))
    refine wp_lload_n (M := mX6_runScript) (pc := 15) dX6_runScript_15 rfl ?_
    refine wp_iload_n (M := mX6_runScript) (pc := 16) dX6_runScript_16 rfl ?_
    refine so_S1 (M := mX6_runScript) (pc := 17) cs_X6_runScript_231 rfl rfl (LE rfl) (LE rfl) dX6_runScript_17 ?_
    refine sp_X6_unitOfGroup (by omega) ?_
    refine kL ?_
    refine wp_lcmp (M := mX6_runScript) (pc := 20) dX6_runScript_20 ?_
    refine wp_if_ge (M := mX6_runScript) (pc := 21) (tgt := 28) dX6_runScript_21 rfl (fun t21 => ?_) (fun f21 => ?_)
    · have hl : ¬ (0 : Int32) = 0 → (0 ≤ s ∧ s < unitG n) := fun e => absurd rfl e
      have hl0 : (0 : Int32) = 0 → ¬ (0 ≤ s ∧ s < unitG n) := fun _ e => Int64.not_le.mpr e.2 ((lg_cmp_ge _ _).mp t21)
      refine wp_iconst (M := mX6_runScript) (pc := 28) (v := 0) dX6_runScript_28 ci_0 ?_
      refine so_SA1 (M := mX6_runScript) (pc := 29) (0, 0) cs_X6_runScript_56 rfl (LE rfl) (LE rfl) (LE rfl) (LE rfl) dX6_runScript_29 ?_
      refine sv_X6_requireArgument (fun hv => ?_) (fun hv => k0 (Or.inr (fun n2 e2 h3 => (i_eq (by omega) (by omega)).mp e2 ▸ hl0 hv)))
      obtain ⟨w1, w2⟩ := hl hv
      refine kV ?_
      refine wp_aload_n (M := mX6_runScript) (pc := 32) dX6_runScript_32 rfl ?_
      refine wp_getR (M := mX6_runScript) (pc := 33) fa_X6_16 rfl dX6_runScript_33 (by first | exact hm.1.1 | exact H.kQ | exact H.kH | exact H.kC | exact H.kU | exact H.kX | exact hR.1.2.1.2.1 | exact a2 | fail "kd") (by first | exact hm.2.1 | exact hm.2.2.1 | exact hm.2.2.2.1 | exact hm.2.2.2.2.1 | exact hm.2.2.2.2.2.1 | exact hm.2.2.2.2.2.2 | exact hR.1.2.1.1 | exact a1 | fail "rx") ?_
      refine wp_aload_n (M := mX6_runScript) (pc := 36) dX6_runScript_36 rfl ?_
      refine wp_getR (M := mX6_runScript) (pc := 37) fa_X6_12 rfl dX6_runScript_37 (by first | exact hm.1.1 | exact H.kQ | exact H.kH | exact H.kC | exact H.kU | exact H.kX | exact hR.1.2.1.2.1 | exact a2 | fail "kd") (by first | exact hm.2.1 | exact hm.2.2.1 | exact hm.2.2.2.1 | exact hm.2.2.2.2.1 | exact hm.2.2.2.2.2.1 | exact hm.2.2.2.2.2.2 | exact hR.1.2.1.1 | exact a1 | fail "rx") ?_
      refine so_V1 (M := mX6_runScript) (pc := 40) cs_X6_runScript_79 rfl rfl (LE rfl) (LE rfl) dX6_runScript_40 (by first | exact hm.1.1 | exact H.kQ | exact H.kH | exact H.kC | exact H.kU | exact H.kX | exact hR.1.2.1.2.1 | exact a2 | fail "kd") ?_
      refine sp_X4_copyFrom H.lay hR H.ds.1 (fun h1 R1 F1 => ?_)
      have F1c : Fr (fun z => z = c ∨ z = u) h h1 := F1.mono (fun y e => Or.inl e)
      have O1 := H.cuO F1c
      have H := H.cu F1c R1.1 (H.au.fr F1 (nk H.kU H.kC (by simp)))
      refine kV ?_
      refine wp_iconst (M := mX6_runScript) (pc := 43) (v := 0) dX6_runScript_43 ci_0 ?_
      refine so_istore (M := mX6_runScript) (pc := 44) (lo' := [_, _, _, _, _, _]) dX6_runScript_44 (LE rfl) (LE rfl) (Or.inr rfl) rfl ?_
      exact lp_X6_runScript hP hn2 (k1 n hn1 hn2 rfl w1 w2) (n + 1) 0 h1 lc (xA X) none (0, 0) (by omega) (by omega) H O1 R1 ⟨150, by omega, hPX⟩ rfl
    · have hl : ¬ (1 : Int32) = 0 → (0 ≤ s ∧ s < unitG n) := fun _ => ⟨hs0, Int64.not_le.mp (fun e => f21 ((lg_cmp_ge _ _).mpr e))⟩
      have hl0 : (1 : Int32) = 0 → ¬ (0 ≤ s ∧ s < unitG n) := fun e => absurd e (by decide)
      refine wp_iconst (M := mX6_runScript) (pc := 24) (v := 1) dX6_runScript_24 ci_1 ?_
      refine wp_goto (M := mX6_runScript) (pc := 25) (tgt := 29) dX6_runScript_25 rfl ?_
      refine so_SA1 (M := mX6_runScript) (pc := 29) (0, 0) cs_X6_runScript_56 rfl (LE rfl) (LE rfl) (LE rfl) (LE rfl) dX6_runScript_29 ?_
      refine sv_X6_requireArgument (fun hv => ?_) (fun hv => k0 (Or.inr (fun n2 e2 h3 => (i_eq (by omega) (by omega)).mp e2 ▸ hl0 hv)))
      obtain ⟨w1, w2⟩ := hl hv
      refine kV ?_
      refine wp_aload_n (M := mX6_runScript) (pc := 32) dX6_runScript_32 rfl ?_
      refine wp_getR (M := mX6_runScript) (pc := 33) fa_X6_16 rfl dX6_runScript_33 (by first | exact hm.1.1 | exact H.kQ | exact H.kH | exact H.kC | exact H.kU | exact H.kX | exact hR.1.2.1.2.1 | exact a2 | fail "kd") (by first | exact hm.2.1 | exact hm.2.2.1 | exact hm.2.2.2.1 | exact hm.2.2.2.2.1 | exact hm.2.2.2.2.2.1 | exact hm.2.2.2.2.2.2 | exact hR.1.2.1.1 | exact a1 | fail "rx") ?_
      refine wp_aload_n (M := mX6_runScript) (pc := 36) dX6_runScript_36 rfl ?_
      refine wp_getR (M := mX6_runScript) (pc := 37) fa_X6_12 rfl dX6_runScript_37 (by first | exact hm.1.1 | exact H.kQ | exact H.kH | exact H.kC | exact H.kU | exact H.kX | exact hR.1.2.1.2.1 | exact a2 | fail "kd") (by first | exact hm.2.1 | exact hm.2.2.1 | exact hm.2.2.2.1 | exact hm.2.2.2.2.1 | exact hm.2.2.2.2.2.1 | exact hm.2.2.2.2.2.2 | exact hR.1.2.1.1 | exact a1 | fail "rx") ?_
      refine so_V1 (M := mX6_runScript) (pc := 40) cs_X6_runScript_79 rfl rfl (LE rfl) (LE rfl) dX6_runScript_40 (by first | exact hm.1.1 | exact H.kQ | exact H.kH | exact H.kC | exact H.kU | exact H.kX | exact hR.1.2.1.2.1 | exact a2 | fail "kd") ?_
      refine sp_X4_copyFrom H.lay hR H.ds.1 (fun h1 R1 F1 => ?_)
      have F1c : Fr (fun z => z = c ∨ z = u) h h1 := F1.mono (fun y e => Or.inl e)
      have O1 := H.cuO F1c
      have H := H.cu F1c R1.1 (H.au.fr F1 (nk H.kU H.kC (by simp)))
      refine kV ?_
      refine wp_iconst (M := mX6_runScript) (pc := 43) (v := 0) dX6_runScript_43 ci_0 ?_
      refine so_istore (M := mX6_runScript) (pc := 44) (lo' := [_, _, _, _, _, _]) dX6_runScript_44 (LE rfl) (LE rfl) (Or.inr rfl) rfl ?_
      exact lp_X6_runScript hP hn2 (k1 n hn1 hn2 rfl w1 w2) (n + 1) 0 h1 lc (xA X) none (0, 0) (by omega) (by omega) H O1 R1 ⟨150, by omega, hPX⟩ rfl
/-- the random action of a round -/
noncomputable def raA (B : Sta) (r : Int32) : Sta :=
  if rmI (r / 65536) 4 = 3 then (quO B (rmI r (nI (sN B))) (1 + rmI (r / 1024) 20)).getD B else (plO B (mis (rmI (r / 65536) 4)) (rmI r (nI (sN B))) (1 + rmI (r / 8) 99) (1 + rmI (r / 1024) 20)).getD B
theorem raA_1 {B : Sta} {r : Int32} (h : rmI (r / 65536) 4 = 3) : raA B r = (quO B (rmI r (nI (sN B))) (1 + rmI (r / 1024) 20)).getD B := if_pos h
theorem raA_2 {B : Sta} {r : Int32} (h : ¬ rmI (r / 65536) 4 = 3) : raA B r = (plO B (mis (rmI (r / 65536) 4)) (rmI r (nI (sN B))) (1 + rmI (r / 8) 99) (1 + rmI (r / 1024) 20)).getD B := if_neg h
theorem kind_n {r : Int32} (h : ¬ r < 0) (h3 : ¬ rmI (r / 65536) 4 = 3) : ∃ kd, kd < 3 ∧ rmI (r / 65536) 4 = nI kd := by
  obtain ⟨R, hR, rfl⟩ := nI_of h
  have e1 : nI R / 65536 = nI (R / 65536) := pk_div hR (d := 65536) (by decide) (by decide)
  have e2 : rmI (nI R / 65536) 4 = nI (R / 65536 % 4) := by rw [e1]; exact pk_rem (a := R / 65536) (d := 4) (by omega) (by decide) (by decide)
  refine ⟨R / 65536 % 4, ?_, e2⟩
  have : R / 65536 % 4 ≠ 3 := fun e => h3 (by rw [e2, e]; rfl)
  omega
/-- the random numbers -/
def rnX (x : Int64) : Int64 := x * 6364136223846793005 + 1442695040888963407
def rnI (x : Int64) : Int32 := ((x.toUInt64 >>> (Int32.toInt64 33 |>.toUInt64 &&& Int64.toUInt64 63)).toInt64).toInt32
theorem rnI_p (x : Int64) : ¬ rnI x < 0 := by
  have e : rnI x = nI (x.toUInt64.toNat >>> 33) := by
    unfold rnI
    have e1 : ((33 : Int32).toInt64.toUInt64 &&& Int64.toUInt64 63) = 33 := by decide
    rw [e1]
    apply Int32.toBitVec_inj.mp
    apply BitVec.eq_of_toNat_eq
    have e2 : ((x.toUInt64 >>> 33).toInt64.toInt32).toBitVec = (x.toUInt64 >>> 33).toBitVec.setWidth 32 := rfl
    rw [e2, BitVec.toNat_setWidth]
    have e3 : (nI (x.toUInt64.toNat >>> 33)).toBitVec = BitVec.ofNat 32 (x.toUInt64.toNat >>> 33) := rfl
    rw [e3, BitVec.toNat_ofNat]
    rfl
  rw [e]
  refine nI_pos ?_
  rw [Nat.shiftRight_eq_div_pow]
  have := x.toUInt64.toNat_lt
  omega
/-- rounds of a simulation: the state, the random number, the bytes -/
noncomputable def smA (B : Sta) (x : Int64) : Nat → Sta × Int64 × Int32
  | 0 => (B, x, 0)
  | k + 1 => ((tks 1 (raA (smA B x k).1 (rnI (rnX (smA B x k).2.1)))).1, rnX (smA B x k).2.1, (smA B x k).2.2 + (tks 1 (raA (smA B x k).1 (rnI (rnX (smA B x k).2.1)))).2)
theorem OkP.ra {P : Nat → Sta → Prop} (hP : OkP P) {k : Nat} {B : Sta} {r : Int32} (hB : P k B) (hn : sN B ≤ 6) (hr : ¬ r < 0) : P k (raA B r) := by
  by_cases h3 : rmI (r / 65536) 4 = 3
  · rw [raA_1 h3]
    by_cases hq : mayQ B (rmI r (nI (sN B))) (1 + rmI (r / 1024) 20)
    · rw [quO, cif_t hq]
      obtain ⟨j, hj, et, hz, h8⟩ := hq
      rw [et, mis_n (by omega)]
      exact hP.2.2 k B j _ hB hj hz h8
    · rw [quO, cif_f hq]; exact hB
  · obtain ⟨kd, hkd, ek⟩ := kind_n hr h3
    rw [raA_2 h3, ek, mis_n (by omega)]
    by_cases hm : mayP B kd (rmI r (nI (sN B))) (1 + rmI (r / 8) 99) (1 + rmI (r / 1024) 20)
    · rw [plO, cif_t hm]
      obtain ⟨j, hj, et, hp, hz, hc⟩ := hm
      rw [et, mis_n (by omega)]
      exact hP.2.1 k B kd j _ _ hB hkd hj hp hz hc
    · rw [plO, cif_f hm]; exact hB
set_option maxHeartbeats 4000000 in
set_option maxRecDepth 100000 in
theorem sp_X6_tryRandomAction {me q c u hi sl tx : Nat} {lc : Lt} {B : Sta} {g : Int32} (hob : ObC h me q c u hi sl tx) (hB : RepC h c lc B) (hn0 : 0 < sN B) (hr : ¬ g < 0) (k : ∀ h', RepC h' c lc (raA B g) → Fr (fun x => x = c) h h' → Q (.inl none) h') : WPx E mX6_tryRandomAction 0 [some (.ref me), some (.int g), none, none, none, none] [] (0, 0) h Q := by
  have hn6 := hB.2.1.1.2
  have en := hB.2.1.1.1
  refine wp_aload_n (M := mX6_tryRandomAction) (pc := 0) dX6_tryRandomAction_0 rfl ?_
  refine wp_getR (M := mX6_tryRandomAction) (pc := 1) fa_X6_16 rfl dX6_tryRandomAction_1 (by first | exact hob.1.1 | exact hB.1.1.1 | fail "kd") (by first | exact hob.2.2.1 | fail "rx") ?_
  refine wp_getI (M := mX6_tryRandomAction) (pc := 4) fa_X6_86 rfl dX6_tryRandomAction_4 (by first | exact hob.1.1 | exact hB.1.1.1 | fail "kd") ?_
  refine wp_iconst (M := mX6_tryRandomAction) (pc := 7) (v := 1) dX6_tryRandomAction_7 ci_1 ?_
  refine wp_icmp_ge (M := mX6_tryRandomAction) (pc := 8) (tgt := 12) dX6_tryRandomAction_8 rfl (fun t8 => ?_) (fun f8 => ?_)
  · refine wp_iload_n (M := mX6_tryRandomAction) (pc := 12) dX6_tryRandomAction_12 rfl ?_
    refine wp_aload_n (M := mX6_tryRandomAction) (pc := 13) dX6_tryRandomAction_13 rfl ?_
    refine wp_getR (M := mX6_tryRandomAction) (pc := 14) fa_X6_16 rfl dX6_tryRandomAction_14 (by first | exact hob.1.1 | exact hB.1.1.1 | fail "kd") (by first | exact hob.2.2.1 | fail "rx") ?_
    refine wp_getI (M := mX6_tryRandomAction) (pc := 17) fa_X6_86 rfl dX6_tryRandomAction_17 (by first | exact hob.1.1 | exact hB.1.1.1 | fail "kd") ?_
    refine wp_irem (M := mX6_tryRandomAction) (pc := 20) dX6_tryRandomAction_20 (by first | (rw [en]; exact nI_ne0 hn0 (by omega)) | decide) ?_
    refine so_istore_n (M := mX6_tryRandomAction) (pc := 21) (lo' := [_, _, _, _, _, _]) dX6_tryRandomAction_21 (LE rfl) (LE rfl) (Or.inr rfl) rfl ?_
    refine wp_iconst (M := mX6_tryRandomAction) (pc := 22) (v := 1) dX6_tryRandomAction_22 ci_1 ?_
    refine wp_iload_n (M := mX6_tryRandomAction) (pc := 23) dX6_tryRandomAction_23 rfl ?_
    refine wp_bipush (M := mX6_tryRandomAction) (pc := 24) (v := 8) dX6_tryRandomAction_24 cb_8 ?_
    refine wp_idiv (M := mX6_tryRandomAction) (pc := 26) dX6_tryRandomAction_26 (by first | (rw [en]; exact nI_ne0 hn0 (by omega)) | decide) ?_
    refine wp_bipush (M := mX6_tryRandomAction) (pc := 27) (v := 99) dX6_tryRandomAction_27 cb_99 ?_
    refine wp_irem (M := mX6_tryRandomAction) (pc := 29) dX6_tryRandomAction_29 (by first | (rw [en]; exact nI_ne0 hn0 (by omega)) | decide) ?_
    refine wp_iadd (M := mX6_tryRandomAction) (pc := 30) dX6_tryRandomAction_30 ?_
    refine so_istore_n (M := mX6_tryRandomAction) (pc := 31) (lo' := [_, _, _, _, _, _]) dX6_tryRandomAction_31 (LE rfl) (LE rfl) (Or.inr rfl) rfl ?_
    refine wp_iconst (M := mX6_tryRandomAction) (pc := 32) (v := 1) dX6_tryRandomAction_32 ci_1 ?_
    refine wp_iload_n (M := mX6_tryRandomAction) (pc := 33) dX6_tryRandomAction_33 rfl ?_
    refine wp_sipush (M := mX6_tryRandomAction) (pc := 34) (v := 1024) dX6_tryRandomAction_34 ch_1024 ?_
    refine wp_idiv (M := mX6_tryRandomAction) (pc := 37) dX6_tryRandomAction_37 (by first | (rw [en]; exact nI_ne0 hn0 (by omega)) | decide) ?_
    refine wp_bipush (M := mX6_tryRandomAction) (pc := 38) (v := 20) dX6_tryRandomAction_38 cb_20 ?_
    refine wp_irem (M := mX6_tryRandomAction) (pc := 40) dX6_tryRandomAction_40 (by first | (rw [en]; exact nI_ne0 hn0 (by omega)) | decide) ?_
    refine wp_iadd (M := mX6_tryRandomAction) (pc := 41) dX6_tryRandomAction_41 ?_
    refine so_istore (M := mX6_tryRandomAction) (pc := 42) (lo' := [_, _, _, _, _, _]) dX6_tryRandomAction_42 (LE rfl) (LE rfl) (Or.inr rfl) rfl ?_
    refine wp_iload_n (M := mX6_tryRandomAction) (pc := 44) dX6_tryRandomAction_44 rfl ?_
    refine wp_ldc_w (M := mX6_tryRandomAction) (pc := 45) wv_X6_308 dX6_tryRandomAction_45 ?_
    refine wp_idiv (M := mX6_tryRandomAction) (pc := 48) dX6_tryRandomAction_48 (by first | (rw [en]; exact nI_ne0 hn0 (by omega)) | decide) ?_
    refine wp_iconst (M := mX6_tryRandomAction) (pc := 49) (v := 4) dX6_tryRandomAction_49 ci_4 ?_
    refine wp_irem (M := mX6_tryRandomAction) (pc := 50) dX6_tryRandomAction_50 (by first | (rw [en]; exact nI_ne0 hn0 (by omega)) | decide) ?_
    refine so_istore (M := mX6_tryRandomAction) (pc := 51) (lo' := [_, _, _, _, _, _]) dX6_tryRandomAction_51 (LE rfl) (LE rfl) (Or.inr rfl) rfl ?_
    refine wp_iload (M := mX6_tryRandomAction) (pc := 53) dX6_tryRandomAction_53 rfl ?_
    refine wp_iconst (M := mX6_tryRandomAction) (pc := 55) (v := 3) dX6_tryRandomAction_55 ci_3 ?_
    refine wp_icmp_ne (M := mX6_tryRandomAction) (pc := 56) (tgt := 73) dX6_tryRandomAction_56 rfl (fun t56 => ?_) (fun f56 => ?_)
    · refine wp_aload_n (M := mX6_tryRandomAction) (pc := 73) dX6_tryRandomAction_73 rfl ?_
      refine wp_getR (M := mX6_tryRandomAction) (pc := 74) fa_X6_16 rfl dX6_tryRandomAction_74 (by first | exact hob.1.1 | exact hB.1.1.1 | fail "kd") (by first | exact hob.2.2.1 | fail "rx") ?_
      refine wp_iload (M := mX6_tryRandomAction) (pc := 77) dX6_tryRandomAction_77 rfl ?_
      refine wp_iload_n (M := mX6_tryRandomAction) (pc := 79) dX6_tryRandomAction_79 rfl ?_
      refine wp_iload_n (M := mX6_tryRandomAction) (pc := 80) dX6_tryRandomAction_80 rfl ?_
      refine wp_iload (M := mX6_tryRandomAction) (pc := 81) dX6_tryRandomAction_81 rfl ?_
      refine so_V4 (M := mX6_tryRandomAction) (pc := 83) cs_X6_tryRandomAction_295 rfl rfl (LE rfl) (LE rfl) dX6_tryRandomAction_83 (by first | exact hob.1.1 | exact hB.1.1.1 | fail "kd") ?_
      obtain ⟨kd, hkd, ek⟩ := kind_n hr t56
      have ek2 : g / 65536 - g / 65536 / 4 * 4 = nI kd := ek
      rw [ek2]
      refine sp_X4_tryPlace hB hkd (fun j hj et hp hz hc h1 R1 F1 => ?_) (fun hn => ?_)
      · refine kI ?_
        refine wp_pop (M := mX6_tryRandomAction) (pc := 86) dX6_tryRandomAction_86 rfl ?_
        refine wp_return (M := mX6_tryRandomAction) (pc := 87) rfl dX6_tryRandomAction_87 ?_
        rw [en] at et
        rw [raA_2 t56, ek, mis_n (by omega), plO, cif_t ⟨j, hj, et, hp, hz, hc⟩, show rmI g (nI (sN B)) = nI j from et, mis_n (by omega)] at k
        exact k h1 R1 F1
      · refine kI ?_
        refine wp_pop (M := mX6_tryRandomAction) (pc := 86) dX6_tryRandomAction_86 rfl ?_
        refine wp_return (M := mX6_tryRandomAction) (pc := 87) rfl dX6_tryRandomAction_87 ?_
        rw [en] at hn
        rw [raA_2 t56, ek, mis_n (by omega), plO, cif_f hn] at k
        exact k h hB Fr.rf
    · refine wp_aload_n (M := mX6_tryRandomAction) (pc := 59) dX6_tryRandomAction_59 rfl ?_
      refine wp_getR (M := mX6_tryRandomAction) (pc := 60) fa_X6_16 rfl dX6_tryRandomAction_60 (by first | exact hob.1.1 | exact hB.1.1.1 | fail "kd") (by first | exact hob.2.2.1 | fail "rx") ?_
      refine wp_iload_n (M := mX6_tryRandomAction) (pc := 63) dX6_tryRandomAction_63 rfl ?_
      refine wp_iload (M := mX6_tryRandomAction) (pc := 64) dX6_tryRandomAction_64 rfl ?_
      refine so_V2 (M := mX6_tryRandomAction) (pc := 66) cs_X6_tryRandomAction_298 rfl rfl (LE rfl) (LE rfl) dX6_tryRandomAction_66 (by first | exact hob.1.1 | exact hB.1.1.1 | fail "kd") ?_
      refine sp_X4_tryQueue hB (fun j hj et hz h8 h1 R1 F1 => ?_) (fun hn => ?_)
      · refine kI ?_
        refine wp_pop (M := mX6_tryRandomAction) (pc := 69) dX6_tryRandomAction_69 rfl ?_
        refine wp_goto (M := mX6_tryRandomAction) (pc := 70) (tgt := 87) dX6_tryRandomAction_70 rfl ?_
        refine wp_return (M := mX6_tryRandomAction) (pc := 87) rfl dX6_tryRandomAction_87 ?_
        rw [en] at et
        rw [raA_1 f56, quO, cif_t ⟨j, hj, et, hz, h8⟩, show rmI g (nI (sN B)) = nI j from et, mis_n (by omega)] at k
        exact k h1 R1 F1
      · refine kI ?_
        refine wp_pop (M := mX6_tryRandomAction) (pc := 69) dX6_tryRandomAction_69 rfl ?_
        refine wp_goto (M := mX6_tryRandomAction) (pc := 70) (tgt := 87) dX6_tryRandomAction_70 rfl ?_
        refine wp_return (M := mX6_tryRandomAction) (pc := 87) rfl dX6_tryRandomAction_87 ?_
        rw [en] at hn
        rw [raA_1 f56, quO, cif_f hn] at k
        exact k h hB Fr.rf
  · rw [en] at f8; exact absurd ((i_le (a := 1) (by decide) (by omega)).mpr (by omega)) f8
set_option maxHeartbeats 4000000 in
set_option maxRecDepth 100000 in
theorem lp_X6_simulate {me q c u hi sl tx ka pa fa la hsa txa x : Nat} {l : Lt} {cs ss : Nat → Option (Nat × Lt)} {X : Abs} {n : Nat} {s : Int64} {P : Nat → Sta → Prop} {h0 : PH} (hP : OkP P) (hn3 : n ≤ 60) (k : ∀ h', WC h' me X → Of h0 h' → Q (.inl (some (.int (smA (xA X) s n).2.2))) h') : ∀ (m : Nat) (i : Nat) (h : PH) (lc : Lt) (r : Nat × Nat), n - i < m → (i ≤ n) → (WP h me q c u hi sl tx ka pa fa la hsa txa x l lc cs ss X) → (Of h0 h) → (RepC h c lc (smA (xA X) s i).1) → (P (60 - i) (smA (xA X) s i).1) → WPx E mX6_simulate 30 [some (.ref me), some (.long s), none, some (.int (nI n)), some (.long (smA (xA X) s i).2.1), none, some (.int (smA (xA X) s i).2.2), some (.int (nI i))] [] r h Q := by
  intro m
  induction m with
  | zero => intro i h lc r hm; exact absurd hm (Nat.not_lt_zero _)
  | succ m ih =>
    intro i h lc r hm hi2 H O1 hB hPB
    have hob := H.ob
    refine wp_iload (M := mX6_simulate) (pc := 30) dX6_simulate_30 rfl ?_
    refine wp_iload_n (M := mX6_simulate) (pc := 32) dX6_simulate_32 rfl ?_
    refine wp_icmp_ge (M := mX6_simulate) (pc := 33) (tgt := 81) dX6_simulate_33 rfl (fun t33 => ?_) (fun f33 => ?_)
    · have e2 := n_ge hi2 (by omega) t33
      subst e2
      refine wp_iload (M := mX6_simulate) (pc := 81) dX6_simulate_81 rfl ?_
      refine wp_ireturn (M := mX6_simulate) (pc := 83) rfl dX6_simulate_83 ?_
      exact k h H.wc O1
    · have hlt := n_lt hi2 (by omega) f33
      have hok0 := (hP.1 _ _ 0 hPB (by omega)).1
      refine wp_lload (M := mX6_simulate) (pc := 36) dX6_simulate_36 rfl ?_
      refine wp_ldc2_w (M := mX6_simulate) (pc := 38) wv_X6_240 dX6_simulate_38 ?_
      refine wp_lmul (M := mX6_simulate) (pc := 41) dX6_simulate_41 ?_
      refine wp_ldc2_w (M := mX6_simulate) (pc := 42) wv_X6_242 dX6_simulate_42 ?_
      refine wp_ladd (M := mX6_simulate) (pc := 45) dX6_simulate_45 ?_
      refine so_lstore (M := mX6_simulate) (pc := 46) (lo' := [_, _, _, _, _, _, _, _]) dX6_simulate_46 (LE rfl) (LE rfl) (Or.inr rfl) rfl ?_
      refine wp_aload_n (M := mX6_simulate) (pc := 48) dX6_simulate_48 rfl ?_
      refine wp_lload (M := mX6_simulate) (pc := 49) dX6_simulate_49 rfl ?_
      refine wp_bipush (M := mX6_simulate) (pc := 51) (v := 33) dX6_simulate_51 cb_33 ?_
      refine wp_lushr (M := mX6_simulate) (pc := 53) dX6_simulate_53 ?_
      refine wp_l2i (M := mX6_simulate) (pc := 54) dX6_simulate_54 ?_
      refine so_V1 (M := mX6_simulate) (pc := 55) cs_X6_simulate_244 rfl rfl (LE rfl) (LE rfl) dX6_simulate_55 (by first | exact hob.1.1 | fail "kd") ?_
      have hPr := hP.ra (r := rnI (rnX (smA (xA X) s i).2.1)) hPB hB.2.1.1.2 (rnI_p _)
      refine sp_X6_tryRandomAction (g := rnI (rnX (smA (xA X) s i).2.1)) hob hB hok0.1 (rnI_p _) (fun h1 R1 F1 => ?_)
      have F1c : Fr (fun z => z = c ∨ z = u) h h1 := F1.mono (fun y e => Or.inl e)
      have O2 := O1.tr (H.cuO F1c)
      have H1 := H.cu F1c R1.1 (H.au.fr F1 (nk H.kU H.kC (by simp)))
      have hob1 := H1.ob
      have hok1 := (hP.1 _ _ 1 hPr (by omega))
      refine kV ?_
      refine wp_iload (M := mX6_simulate) (pc := 58) dX6_simulate_58 rfl ?_
      refine wp_aload_n (M := mX6_simulate) (pc := 60) dX6_simulate_60 rfl ?_
      refine wp_getR (M := mX6_simulate) (pc := 61) fa_X6_16 rfl dX6_simulate_61 hob1.1.1 hob1.2.2.1 ?_
      refine wp_iconst (M := mX6_simulate) (pc := 64) (v := 1) dX6_simulate_64 ci_1 ?_
      refine wp_aload_n (M := mX6_simulate) (pc := 65) dX6_simulate_65 rfl ?_
      refine wp_getR (M := mX6_simulate) (pc := 66) fa_X6_22 rfl dX6_simulate_66 hob1.1.1 hob1.2.2.2.1 ?_
      refine so_V2 (M := mX6_simulate) (pc := 69) cs_X6_simulate_166 rfl rfl (LE rfl) (LE rfl) dX6_simulate_69 R1.1.1.1 ?_
      refine sp_X4_advance (n := 1) R1 H1.au (nk H.kU H.kC (by simp)) hok1.1.1 (by decide) (by have := hok1.1.2.1; omega) hok1.1.2.2.1 (fun j hj => hok1.1.2.2.2 j hj) (fun h2 l2 e2 R2 A2 F2 => ?_)
      refine kI ?_
      refine wp_iadd (M := mX6_simulate) (pc := 72) dX6_simulate_72 ?_
      refine so_istore (M := mX6_simulate) (pc := 73) (lo' := [_, _, _, _, _, _, _, _]) dX6_simulate_73 (LE rfl) (LE rfl) (Or.inr rfl) rfl ?_
      refine so_iinc (M := mX6_simulate) (pc := 75) (lo' := [_, _, _, _, _, _, _, _]) dX6_simulate_75 rfl ci_1 (LE rfl) rfl ?_
      refine wp_goto (M := mX6_simulate) (pc := 78) (tgt := 30) dX6_simulate_78 rfl ?_
      rw [show nI i + 1 = nI (i + 1) from nI_1 i]
      exact ih (i + 1) h2 l2 r (by omega) (by omega) (H1.cu F2 R2.1 A2) (O2.tr (H1.cuO F2)) R2 (by rw [show 60 - (i + 1) = 60 - i - 1 by omega]; exact hok1.2)
set_option maxHeartbeats 4000000 in
set_option maxRecDepth 100000 in
theorem sp_X6_simulate {me : Nat} {X : Abs} {w : Int32} {s : Int64} {P : Nat → Sta → Prop} (H : WC h me X) (hP : OkP P) (hPX : P 60 (xA X)) (k1 : ∀ n, 1 ≤ n → n ≤ 60 → w = nI n → ∀ h', WC h' me X → Of h h' → Q (.inl (some (.int (smA (xA X) s n).2.2))) h') (k0 : ¬ wth w 1 60 → Q (.inr "java/lang/IllegalArgumentException") h) : WPx E mX6_simulate 0 [some (.ref me), some (.long s), none, some (.int w), none, none, none, none] [] (1, 6) h Q := by
  obtain ⟨q, c, u, hi, sl, tx, ka, pa, fa, la, hsa, txa, x, l, lc, cs, ss, H⟩ := H
  have hm := H.ob
  have hR := H.rep
  have n6 := hR.2.1.1.2
  refine wp_iload_n (M := mX6_simulate) (pc := 0) dX6_simulate_0 rfl ?_
  refine wp_iconst (M := mX6_simulate) (pc := 1) (v := 1) dX6_simulate_1 ci_1 ?_
  refine wp_bipush (M := mX6_simulate) (pc := 2) (v := 60) dX6_simulate_2 cb_60 ?_
  refine so_S3 (M := mX6_simulate) (pc := 4) cs_X6_simulate_52 rfl rfl (LE rfl) (LE rfl) dX6_simulate_4 ?_
  refine sp_X6_isWithin ?_
  refine kI ?_
  refine so_SA1 (M := mX6_simulate) (pc := 7) (0, 0) cs_X6_simulate_56 rfl (LE rfl) (LE rfl) (LE rfl) (LE rfl) dX6_simulate_7 ?_
  refine sp_X6_requireArgument (fun hw => ?_) (fun hw => k0 hw)
  obtain ⟨n, hn1, hn2, rfl⟩ := wth_1 (b := 60) (by decide) hw
  refine kV ?_
  refine wp_aload_n (M := mX6_simulate) (pc := 10) dX6_simulate_10 rfl ?_
  refine wp_getR (M := mX6_simulate) (pc := 11) fa_X6_16 rfl dX6_simulate_11 (by first | exact hm.1.1 | exact H.kQ | exact H.kH | exact H.kC | exact H.kU | exact H.kX | exact hR.1.2.1.2.1 | exact a2 | fail "kd") (by first | exact hm.2.1 | exact hm.2.2.1 | exact hm.2.2.2.1 | exact hm.2.2.2.2.1 | exact hm.2.2.2.2.2.1 | exact hm.2.2.2.2.2.2 | exact hR.1.2.1.1 | exact a1 | fail "rx") ?_
  refine wp_aload_n (M := mX6_simulate) (pc := 14) dX6_simulate_14 rfl ?_
  refine wp_getR (M := mX6_simulate) (pc := 15) fa_X6_12 rfl dX6_simulate_15 (by first | exact hm.1.1 | exact H.kQ | exact H.kH | exact H.kC | exact H.kU | exact H.kX | exact hR.1.2.1.2.1 | exact a2 | fail "kd") (by first | exact hm.2.1 | exact hm.2.2.1 | exact hm.2.2.2.1 | exact hm.2.2.2.2.1 | exact hm.2.2.2.2.2.1 | exact hm.2.2.2.2.2.2 | exact hR.1.2.1.1 | exact a1 | fail "rx") ?_
  refine so_V1 (M := mX6_simulate) (pc := 18) cs_X6_simulate_79 rfl rfl (LE rfl) (LE rfl) dX6_simulate_18 (by first | exact hm.1.1 | exact H.kQ | exact H.kH | exact H.kC | exact H.kU | exact H.kX | exact hR.1.2.1.2.1 | exact a2 | fail "kd") ?_
  refine sp_X4_copyFrom H.lay hR H.ds.1 (fun h1 R1 F1 => ?_)
  have F1c : Fr (fun z => z = c ∨ z = u) h h1 := F1.mono (fun y e => Or.inl e)
  have O1 := H.cuO F1c
  have H := H.cu F1c R1.1 (H.au.fr F1 (nk H.kU H.kC (by simp)))
  refine kV ?_
  refine wp_lload_n (M := mX6_simulate) (pc := 21) dX6_simulate_21 rfl ?_
  refine so_lstore (M := mX6_simulate) (pc := 22) (lo' := [_, _, _, _, _, _, _, _]) dX6_simulate_22 (LE rfl) (LE rfl) (Or.inr rfl) rfl ?_
  refine wp_iconst (M := mX6_simulate) (pc := 24) (v := 0) dX6_simulate_24 ci_0 ?_
  refine so_istore (M := mX6_simulate) (pc := 25) (lo' := [_, _, _, _, _, _, _, _]) dX6_simulate_25 (LE rfl) (LE rfl) (Or.inr rfl) rfl ?_
  refine wp_iconst (M := mX6_simulate) (pc := 27) (v := 0) dX6_simulate_27 ci_0 ?_
  refine so_istore (M := mX6_simulate) (pc := 28) (lo' := [_, _, _, _, _, _, _, _]) dX6_simulate_28 (LE rfl) (LE rfl) (Or.inr rfl) rfl ?_
  exact lp_X6_simulate (s := s) hP hn2 (k1 n hn1 hn2 rfl) (n + 1) 0 h1 lc (0, 0) (by omega) (by omega) H O1 R1 hPX
end SP
