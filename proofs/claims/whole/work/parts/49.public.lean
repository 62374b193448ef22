section SP
variable {E : Ev} {h : PH} {Q : Rt → PH → Prop}
theorem wth_nI {v : Int32} {b : Nat} (hb : b < 2 ^ 30) (h : wth v 0 (nI b)) : ∃ j, j ≤ b ∧ v = nI j := by
  rcases pk_ix v (n := b + 1) (by omega) with h1 | h1 | ⟨j, h1, h2⟩
  · exact absurd h1 (Int32.not_lt.mpr h.1)
  · exact absurd (Int32.le_trans h1 h.2) (fun e => by
      have := (i_le (by omega) (by omega)).mp e
      omega)
  · exact ⟨j, by omega, h2⟩
set_option maxHeartbeats 4000000 in
set_option maxRecDepth 100000 in
theorem sp_X6_about {m c u hi sl tx : Nat} {q : Nat} {l : Lt} {A : Sta} {w : Int32} (hm : ObC h m q c u hi sl tx) (hR : RepC h q l A) (k1 : ∀ j, j ≤ 9 → w = nI j → Q (.inl (some (.int (numA A j)))) h) (k0 : ¬ wth w 0 9 → Q (.inr "java/lang/IllegalArgumentException") h) : WPx E mX6_about 0 [some (.ref m), some (.int w)] [] (1, 6) h Q := by
  refine wp_iload_n (M := mX6_about) (pc := 0) dX6_about_0 rfl ?_
  refine wp_iconst (M := mX6_about) (pc := 1) (v := 0) dX6_about_1 ci_0 ?_
  refine wp_bipush (M := mX6_about) (pc := 2) (v := 9) dX6_about_2 cb_9 ?_
  refine so_S3 (M := mX6_about) (pc := 4) cs_X6_about_56 rfl rfl (LE rfl) (LE rfl) dX6_about_4 ?_
  refine sp_X6_isWithin ?_
  refine kI ?_
  refine so_SA1 (M := mX6_about) (pc := 7) (0, 0) cs_X6_about_60 rfl (LE rfl) (LE rfl) (LE rfl) (LE rfl) dX6_about_7 ?_
  refine sp_X6_requireArgument (fun hw => ?_) (fun hw => k0 hw)
  obtain ⟨j, hj, rfl⟩ := wth_nI (b := 9) (by decide) hw
  refine kV ?_
  refine wp_aload_n (M := mX6_about) (pc := 10) dX6_about_10 rfl ?_
  refine wp_getR (M := mX6_about) (pc := 11) fa_X6_12 rfl dX6_about_11 (by first | exact hm.1.1 | exact hR.1.1.1) hm.2.1 ?_
  refine wp_iload_n (M := mX6_about) (pc := 14) dX6_about_14 rfl ?_
  refine so_V1 (M := mX6_about) (pc := 15) cs_X6_about_94 rfl rfl (LE rfl) (LE rfl) dX6_about_15 (by first | exact hm.1.1 | exact hR.1.1.1) ?_
  refine sp_X4_number hR (by omega) ?_
  refine kI ?_
  refine wp_ireturn (M := mX6_about) (pc := 18) rfl dX6_about_18 ?_
  exact k1 j hj rfl
set_option maxHeartbeats 4000000 in
set_option maxRecDepth 100000 in
theorem sp_X6_tenant {m c u hi sl tx : Nat} {q : Nat} {l : Lt} {A : Sta} {t w : Int32} (hm : ObC h m q c u hi sl tx) (hR : RepC h q l A) (hti : sTi A + 60 < 2 ^ 31) (hm50 : sTm A ≤ 50) (k1 : ∀ i j, i < sN A → t = nI i → j ≤ 11 → w = nI j → Q (.inl (some (.int (tnumA A i j)))) h) (k0 : ¬ isT A t → Q (.inr "java/lang/IndexOutOfBoundsException") h) (k2 : isT A t → ¬ wth w 0 11 → Q (.inr "java/lang/IllegalArgumentException") h) : WPx E mX6_tenant 0 [some (.ref m), some (.int t), some (.int w)] [] (2, 12) h Q := by
  refine wp_aload_n (M := mX6_tenant) (pc := 0) dX6_tenant_0 rfl ?_
  refine wp_getR (M := mX6_tenant) (pc := 1) fa_X6_12 rfl dX6_tenant_1 (by first | exact hm.1.1 | exact hR.1.1.1) hm.2.1 ?_
  refine wp_iload_n (M := mX6_tenant) (pc := 4) dX6_tenant_4 rfl ?_
  refine so_V1 (M := mX6_tenant) (pc := 5) cs_X6_tenant_97 rfl rfl (LE rfl) (LE rfl) dX6_tenant_5 (by first | exact hm.1.1 | exact hR.1.1.1) ?_
  refine sb_hasTenant hR ?_
  refine kI ?_
  refine so_SA1 (M := mX6_tenant) (pc := 8) (1, 6) cs_X6_tenant_101 rfl (LE rfl) (LE rfl) (LE rfl) (LE rfl) dX6_tenant_8 ?_
  refine sp_X6_requireThere (fun ht => ?_) (fun hw => k0 hw)
  refine kV ?_
  refine wp_iload_n (M := mX6_tenant) (pc := 11) dX6_tenant_11 rfl ?_
  refine wp_iconst (M := mX6_tenant) (pc := 12) (v := 0) dX6_tenant_12 ci_0 ?_
  refine wp_bipush (M := mX6_tenant) (pc := 13) (v := 11) dX6_tenant_13 cb_11 ?_
  refine so_S3 (M := mX6_tenant) (pc := 15) cs_X6_tenant_56 rfl rfl (LE rfl) (LE rfl) dX6_tenant_15 ?_
  refine sp_X6_isWithin ?_
  refine kI ?_
  refine so_SA1 (M := mX6_tenant) (pc := 18) (0, 0) cs_X6_tenant_60 rfl (LE rfl) (LE rfl) (LE rfl) (LE rfl) dX6_tenant_18 ?_
  refine sp_X6_requireArgument (fun hw => ?_) (fun hw => k2 ht hw)
  obtain ⟨i, hi9, rfl⟩ := ht
  obtain ⟨j, hj, rfl⟩ := wth_nI (b := 11) (by decide) hw
  refine kV ?_
  refine wp_aload_n (M := mX6_tenant) (pc := 21) dX6_tenant_21 rfl ?_
  refine wp_getR (M := mX6_tenant) (pc := 22) fa_X6_12 rfl dX6_tenant_22 (by first | exact hm.1.1 | exact hR.1.1.1) hm.2.1 ?_
  refine wp_iload_n (M := mX6_tenant) (pc := 25) dX6_tenant_25 rfl ?_
  refine wp_iload_n (M := mX6_tenant) (pc := 26) dX6_tenant_26 rfl ?_
  refine so_V2 (M := mX6_tenant) (pc := 27) cs_X6_tenant_104 rfl rfl (LE rfl) (LE rfl) dX6_tenant_27 (by first | exact hm.1.1 | exact hR.1.1.1) ?_
  refine sp_X4_tenantNumber hR hi9 (by omega) hti hm50 ?_
  refine kI ?_
  refine wp_ireturn (M := mX6_tenant) (pc := 30) rfl dX6_tenant_30 ?_
  exact k1 i j hi9 rfl hj rfl
set_option maxHeartbeats 4000000 in
set_option maxRecDepth 100000 in
theorem sp_X6_clearText {m q c u hi sl tx : Nat} {txa n : Nat} {s : Nat → Nat} (hm : ObC h m q c u hi sl tx) (hX : TxC h tx txa s n) (k : Q (.inl (some (.int (nI n)))) (si h tx 1 (nI 0))) : WPx E mX6_clearText 0 [some (.ref m)] [] (0, 0) h Q := by
  refine wp_aload_n (M := mX6_clearText) (pc := 0) dX6_clearText_0 rfl ?_
  refine wp_getR (M := mX6_clearText) (pc := 1) fa_X6_44 rfl dX6_clearText_1 (by first | exact hm.1.1 | exact hX.1.1) hm.2.2.2.2.2.2 ?_
  refine so_V0 (M := mX6_clearText) (pc := 4) cs_X6_clearText_75 rfl rfl (LE rfl) (LE rfl) dX6_clearText_4 (by first | exact hm.1.1 | exact hX.1.1) ?_
  refine sp_X1_empty hX ?_
  refine kI ?_
  refine wp_ireturn (M := mX6_clearText) (pc := 7) rfl dX6_clearText_7 ?_
  exact k
set_option maxHeartbeats 4000000 in
set_option maxRecDepth 100000 in
theorem sp_X6_errorPosition {m q c u hi sl tx : Nat} {lc : Lt} {txa n : Nat} {s : Nat → Nat} (hm : ObC h m q c u hi sl tx) (hLc : Lay h c lc) (hxc : tx ≠ c) (hX : TxC h tx txa s n) (k : ∀ h', Rdr h' tx txa c lc s n (rdA s n) → Fr (fun x => x = tx ∨ x = c) h h' → Q (.inl (some (.int (rdE s n)))) h') : WPx E mX6_errorPosition 0 [some (.ref m)] [] (0, 0) h Q := by
  refine wp_aload_n (M := mX6_errorPosition) (pc := 0) dX6_errorPosition_0 rfl ?_
  refine wp_getR (M := mX6_errorPosition) (pc := 1) fa_X6_44 rfl dX6_errorPosition_1 (by first | exact hm.1.1 | exact hX.1.1) (by first | exact hm.2.2.2.2.2.2 | exact hm.2.2.1) ?_
  refine wp_aload_n (M := mX6_errorPosition) (pc := 4) dX6_errorPosition_4 rfl ?_
  refine wp_getR (M := mX6_errorPosition) (pc := 5) fa_X6_16 rfl dX6_errorPosition_5 (by first | exact hm.1.1 | exact hX.1.1) (by first | exact hm.2.2.2.2.2.2 | exact hm.2.2.1) ?_
  refine so_V1 (M := mX6_errorPosition) (pc := 8) cs_X6_errorPosition_79 rfl rfl (LE rfl) (LE rfl) dX6_errorPosition_8 (by first | exact hm.1.1 | exact hX.1.1) ?_
  refine sp_X1_readInto hX hLc hxc (fun h1 D1 F1 => ?_)
  refine kI ?_
  refine wp_ireturn (M := mX6_errorPosition) (pc := 11) rfl dX6_errorPosition_11 ?_
  exact k h1 D1 F1
end SP
