section SP
variable {E : Ev} {h : PH} {Q : Rt → PH → Prop}
theorem tks_n (A : Sta) (k : Nat) : sN (tks k A).1 = sN A := by show (tks k A).1.1.1 = _; rw [tks_1]
theorem tks_ti (A : Sta) (k : Nat) : sTi (tks k A).1 = sTi A + k := by show (tks k A).1.1.2.1 = _; rw [tks_1]
theorem tks_tm (A : Sta) (k : Nat) : sTm (tks k A).1 = sTm A := by show (tks k A).1.1.2.2 = _; rw [tks_1]
set_option maxHeartbeats 4000000 in
set_option maxRecDepth 100000 in
theorem sp_X6_ahead {ka pa fa la : Nat} {lc : Lt} {m c u hi sl tx : Nat} {q : Nat} {l : Lt} {A : Sta} {y t w : Int32} (hm : ObC h m q c u hi sl tx) (hR : RepC h q l A) (hA : AuT h u ka pa fa la) (hLc : Lay h c lc) (hcq : c ≠ q) (huc : u ≠ c) (hmu : m ≠ u) (hmc : m ≠ c) (hok : okT A 99) (k1 : ∀ n i j, n ≤ 99 → y = nI n → i < sN A → t = nI i → j ≤ 11 → w = nI j → ∀ h' lc', Lay h' c lc' → AuT h' u ka pa fa la → Fr (fun x => x = c ∨ x = u) h h' → Q (.inl (some (.int (tnumA (tks n A).1 i j)))) h') (k0 : ¬ isT A t → Q (.inr "java/lang/IndexOutOfBoundsException") h) (k2 : isT A t → ¬ (wth y 0 99 ∧ wth w 0 11) → Q (.inr "java/lang/IllegalArgumentException") h) : WPx E mX6_ahead 0 [some (.ref m), some (.int y), some (.int t), some (.int w)] [] (2, 12) h Q := by
  refine wp_aload_n (M := mX6_ahead) (pc := 0) dX6_ahead_0 rfl ?_
  refine wp_getR (M := mX6_ahead) (pc := 1) fa_X6_12 rfl dX6_ahead_1 (by first | exact hm.1.1 | exact hLc.1.1 | exact hR.1.1.1) (by first | exact hm.2.1 | exact hm.2.2.1 | exact hm.2.2.2.1) ?_
  refine wp_iload_n (M := mX6_ahead) (pc := 4) dX6_ahead_4 rfl ?_
  refine so_V1 (M := mX6_ahead) (pc := 5) cs_X6_ahead_97 rfl rfl (LE rfl) (LE rfl) dX6_ahead_5 (by first | exact hm.1.1 | exact hLc.1.1 | exact hR.1.1.1) ?_
  refine sb_hasTenant hR ?_
  refine kI ?_
  refine so_SA1 (M := mX6_ahead) (pc := 8) (1, 6) cs_X6_ahead_101 rfl (LE rfl) (LE rfl) (LE rfl) (LE rfl) dX6_ahead_8 ?_
  refine sp_X6_requireThere (fun ht => ?_) (fun hw => k0 hw)
  refine kV ?_
  refine wp_iload_n (M := mX6_ahead) (pc := 11) dX6_ahead_11 rfl ?_
  refine wp_iconst (M := mX6_ahead) (pc := 12) (v := 0) dX6_ahead_12 ci_0 ?_
  refine wp_bipush (M := mX6_ahead) (pc := 13) (v := 99) dX6_ahead_13 cb_99 ?_
  refine so_S3 (M := mX6_ahead) (pc := 15) cs_X6_ahead_56 rfl rfl (LE rfl) (LE rfl) dX6_ahead_15 ?_
  refine sp_X6_isWithin ?_
  refine kI ?_
  refine wp_if_eq (M := mX6_ahead) (pc := 18) (tgt := 35) dX6_ahead_18 rfl (fun t18 => ?_) (fun f18 => ?_)
  · have hl : ¬ (0 : Int32) = 0 → (wth y 0 99 ∧ wth w 0 11) := fun e => absurd rfl e
    have hl0 : (0 : Int32) = 0 → ¬ (wth y 0 99 ∧ wth w 0 11) := fun _ e => b01_z t18 e.1
    refine wp_iconst (M := mX6_ahead) (pc := 35) (v := 0) dX6_ahead_35 ci_0 ?_
    refine so_SA1 (M := mX6_ahead) (pc := 36) (0, 0) cs_X6_ahead_60 rfl (LE rfl) (LE rfl) (LE rfl) (LE rfl) dX6_ahead_36 ?_
    refine sv_X6_requireArgument (fun hv => ?_) (fun hv => k2 ht (hl0 hv))
    obtain ⟨w1, w2⟩ := hl hv
    obtain ⟨n, hn, rfl⟩ := wth_nI (b := 99) (by decide) w1
    obtain ⟨j, hj, rfl⟩ := wth_nI (b := 11) (by decide) w2
    obtain ⟨i, hi9, rfl⟩ := ht
    refine kV ?_
    refine wp_aload_n (M := mX6_ahead) (pc := 39) dX6_ahead_39 rfl ?_
    refine wp_getR (M := mX6_ahead) (pc := 40) fa_X6_16 rfl dX6_ahead_40 (by first | exact hm.1.1 | exact hLc.1.1 | exact hR.1.1.1) (by first | exact hm.2.1 | exact hm.2.2.1 | exact hm.2.2.2.1) ?_
    refine wp_aload_n (M := mX6_ahead) (pc := 43) dX6_ahead_43 rfl ?_
    refine wp_getR (M := mX6_ahead) (pc := 44) fa_X6_12 rfl dX6_ahead_44 (by first | exact hm.1.1 | exact hLc.1.1 | exact hR.1.1.1) (by first | exact hm.2.1 | exact hm.2.2.1 | exact hm.2.2.2.1) ?_
    refine so_V1 (M := mX6_ahead) (pc := 47) cs_X6_ahead_83 rfl rfl (LE rfl) (LE rfl) dX6_ahead_47 (by first | exact hm.1.1 | exact hLc.1.1 | exact hR.1.1.1) ?_
    refine sp_X4_copyFrom hLc hR hcq (fun h1 R1 F1 => ?_)
    have hm1 := hm.fr F1 hmc
    have hA1 := hA.fr F1 huc
    refine kV ?_
    refine wp_aload_n (M := mX6_ahead) (pc := 50) dX6_ahead_50 rfl ?_
    refine wp_getR (M := mX6_ahead) (pc := 51) fa_X6_16 rfl dX6_ahead_51 hm1.1.1 hm1.2.2.1 ?_
    refine wp_iload_n (M := mX6_ahead) (pc := 54) dX6_ahead_54 rfl ?_
    refine wp_aload_n (M := mX6_ahead) (pc := 55) dX6_ahead_55 rfl ?_
    refine wp_getR (M := mX6_ahead) (pc := 56) fa_X6_22 rfl dX6_ahead_56 hm1.1.1 hm1.2.2.2.1 ?_
    refine so_V2 (M := mX6_ahead) (pc := 59) cs_X6_ahead_170 rfl rfl (LE rfl) (LE rfl) dX6_ahead_59 R1.1.1.1 ?_
    refine sp_X4_advance R1 hA1 huc hok.1 (by omega) (by have := hok.2.1; omega) hok.2.2.1 (fun j hj => hok.2.2.2 j (by omega)) (fun h2 l2 e2 R2 A2 F2 => ?_)
    have hm2 := hm1.fr F2 (fun e => e.elim hmc hmu)
    refine kI ?_
    refine wp_pop (M := mX6_ahead) (pc := 62) dX6_ahead_62 rfl ?_
    refine wp_aload_n (M := mX6_ahead) (pc := 63) dX6_ahead_63 rfl ?_
    refine wp_getR (M := mX6_ahead) (pc := 64) fa_X6_16 rfl dX6_ahead_64 hm2.1.1 hm2.2.2.1 ?_
    refine wp_iload_n (M := mX6_ahead) (pc := 67) dX6_ahead_67 rfl ?_
    refine wp_iload_n (M := mX6_ahead) (pc := 68) dX6_ahead_68 rfl ?_
    refine so_V2 (M := mX6_ahead) (pc := 69) cs_X6_ahead_104 rfl rfl (LE rfl) (LE rfl) dX6_ahead_69 R2.1.1.1 ?_
    refine sp_X4_tenantNumber R2 (by rw [tks_n]; exact hi9) (by omega) (by rw [tks_ti]; have := hok.2.1; omega) (by rw [tks_tm]; exact hok.2.2.1) ?_
    refine kI ?_
    refine wp_ireturn (M := mX6_ahead) (pc := 72) rfl dX6_ahead_72 ?_
    exact k1 n i j hn rfl hi9 rfl hj rfl h2 l2 R2.1 A2 ((F1.mono (fun y e => Or.inl e)).tr F2)
  · refine wp_iload_n (M := mX6_ahead) (pc := 21) dX6_ahead_21 rfl ?_
    refine wp_iconst (M := mX6_ahead) (pc := 22) (v := 0) dX6_ahead_22 ci_0 ?_
    refine wp_bipush (M := mX6_ahead) (pc := 23) (v := 11) dX6_ahead_23 cb_11 ?_
    refine so_S3 (M := mX6_ahead) (pc := 25) cs_X6_ahead_56 rfl rfl (LE rfl) (LE rfl) dX6_ahead_25 ?_
    refine sp_X6_isWithin ?_
    refine kI ?_
    refine wp_if_eq (M := mX6_ahead) (pc := 28) (tgt := 35) dX6_ahead_28 rfl (fun t28 => ?_) (fun f28 => ?_)
    · have hl : ¬ (0 : Int32) = 0 → (wth y 0 99 ∧ wth w 0 11) := fun e => absurd rfl e
      have hl0 : (0 : Int32) = 0 → ¬ (wth y 0 99 ∧ wth w 0 11) := fun _ e => b01_z t28 e.2
      refine wp_iconst (M := mX6_ahead) (pc := 35) (v := 0) dX6_ahead_35 ci_0 ?_
      refine so_SA1 (M := mX6_ahead) (pc := 36) (0, 0) cs_X6_ahead_60 rfl (LE rfl) (LE rfl) (LE rfl) (LE rfl) dX6_ahead_36 ?_
      refine sv_X6_requireArgument (fun hv => ?_) (fun hv => k2 ht (hl0 hv))
      obtain ⟨w1, w2⟩ := hl hv
      obtain ⟨n, hn, rfl⟩ := wth_nI (b := 99) (by decide) w1
      obtain ⟨j, hj, rfl⟩ := wth_nI (b := 11) (by decide) w2
      obtain ⟨i, hi9, rfl⟩ := ht
      refine kV ?_
      refine wp_aload_n (M := mX6_ahead) (pc := 39) dX6_ahead_39 rfl ?_
      refine wp_getR (M := mX6_ahead) (pc := 40) fa_X6_16 rfl dX6_ahead_40 (by first | exact hm.1.1 | exact hLc.1.1 | exact hR.1.1.1) (by first | exact hm.2.1 | exact hm.2.2.1 | exact hm.2.2.2.1) ?_
      refine wp_aload_n (M := mX6_ahead) (pc := 43) dX6_ahead_43 rfl ?_
      refine wp_getR (M := mX6_ahead) (pc := 44) fa_X6_12 rfl dX6_ahead_44 (by first | exact hm.1.1 | exact hLc.1.1 | exact hR.1.1.1) (by first | exact hm.2.1 | exact hm.2.2.1 | exact hm.2.2.2.1) ?_
      refine so_V1 (M := mX6_ahead) (pc := 47) cs_X6_ahead_83 rfl rfl (LE rfl) (LE rfl) dX6_ahead_47 (by first | exact hm.1.1 | exact hLc.1.1 | exact hR.1.1.1) ?_
      refine sp_X4_copyFrom hLc hR hcq (fun h1 R1 F1 => ?_)
      have hm1 := hm.fr F1 hmc
      have hA1 := hA.fr F1 huc
      refine kV ?_
      refine wp_aload_n (M := mX6_ahead) (pc := 50) dX6_ahead_50 rfl ?_
      refine wp_getR (M := mX6_ahead) (pc := 51) fa_X6_16 rfl dX6_ahead_51 hm1.1.1 hm1.2.2.1 ?_
      refine wp_iload_n (M := mX6_ahead) (pc := 54) dX6_ahead_54 rfl ?_
      refine wp_aload_n (M := mX6_ahead) (pc := 55) dX6_ahead_55 rfl ?_
      refine wp_getR (M := mX6_ahead) (pc := 56) fa_X6_22 rfl dX6_ahead_56 hm1.1.1 hm1.2.2.2.1 ?_
      refine so_V2 (M := mX6_ahead) (pc := 59) cs_X6_ahead_170 rfl rfl (LE rfl) (LE rfl) dX6_ahead_59 R1.1.1.1 ?_
      refine sp_X4_advance R1 hA1 huc hok.1 (by omega) (by have := hok.2.1; omega) hok.2.2.1 (fun j hj => hok.2.2.2 j (by omega)) (fun h2 l2 e2 R2 A2 F2 => ?_)
      have hm2 := hm1.fr F2 (fun e => e.elim hmc hmu)
      refine kI ?_
      refine wp_pop (M := mX6_ahead) (pc := 62) dX6_ahead_62 rfl ?_
      refine wp_aload_n (M := mX6_ahead) (pc := 63) dX6_ahead_63 rfl ?_
      refine wp_getR (M := mX6_ahead) (pc := 64) fa_X6_16 rfl dX6_ahead_64 hm2.1.1 hm2.2.2.1 ?_
      refine wp_iload_n (M := mX6_ahead) (pc := 67) dX6_ahead_67 rfl ?_
      refine wp_iload_n (M := mX6_ahead) (pc := 68) dX6_ahead_68 rfl ?_
      refine so_V2 (M := mX6_ahead) (pc := 69) cs_X6_ahead_104 rfl rfl (LE rfl) (LE rfl) dX6_ahead_69 R2.1.1.1 ?_
      refine sp_X4_tenantNumber R2 (by rw [tks_n]; exact hi9) (by omega) (by rw [tks_ti]; have := hok.2.1; omega) (by rw [tks_tm]; exact hok.2.2.1) ?_
      refine kI ?_
      refine wp_ireturn (M := mX6_ahead) (pc := 72) rfl dX6_ahead_72 ?_
      exact k1 n i j hn rfl hi9 rfl hj rfl h2 l2 R2.1 A2 ((F1.mono (fun y e => Or.inl e)).tr F2)
    · have hl : ¬ (1 : Int32) = 0 → (wth y 0 99 ∧ wth w 0 11) := fun _ => ⟨b01_n f18, b01_n f28⟩
      have hl0 : (1 : Int32) = 0 → ¬ (wth y 0 99 ∧ wth w 0 11) := fun e => absurd e (by decide)
      refine wp_iconst (M := mX6_ahead) (pc := 31) (v := 1) dX6_ahead_31 ci_1 ?_
      refine wp_goto (M := mX6_ahead) (pc := 32) (tgt := 36) dX6_ahead_32 rfl ?_
      refine so_SA1 (M := mX6_ahead) (pc := 36) (0, 0) cs_X6_ahead_60 rfl (LE rfl) (LE rfl) (LE rfl) (LE rfl) dX6_ahead_36 ?_
      refine sv_X6_requireArgument (fun hv => ?_) (fun hv => k2 ht (hl0 hv))
      obtain ⟨w1, w2⟩ := hl hv
      obtain ⟨n, hn, rfl⟩ := wth_nI (b := 99) (by decide) w1
      obtain ⟨j, hj, rfl⟩ := wth_nI (b := 11) (by decide) w2
      obtain ⟨i, hi9, rfl⟩ := ht
      refine kV ?_
      refine wp_aload_n (M := mX6_ahead) (pc := 39) dX6_ahead_39 rfl ?_
      refine wp_getR (M := mX6_ahead) (pc := 40) fa_X6_16 rfl dX6_ahead_40 (by first | exact hm.1.1 | exact hLc.1.1 | exact hR.1.1.1) (by first | exact hm.2.1 | exact hm.2.2.1 | exact hm.2.2.2.1) ?_
      refine wp_aload_n (M := mX6_ahead) (pc := 43) dX6_ahead_43 rfl ?_
      refine wp_getR (M := mX6_ahead) (pc := 44) fa_X6_12 rfl dX6_ahead_44 (by first | exact hm.1.1 | exact hLc.1.1 | exact hR.1.1.1) (by first | exact hm.2.1 | exact hm.2.2.1 | exact hm.2.2.2.1) ?_
      refine so_V1 (M := mX6_ahead) (pc := 47) cs_X6_ahead_83 rfl rfl (LE rfl) (LE rfl) dX6_ahead_47 (by first | exact hm.1.1 | exact hLc.1.1 | exact hR.1.1.1) ?_
      refine sp_X4_copyFrom hLc hR hcq (fun h1 R1 F1 => ?_)
      have hm1 := hm.fr F1 hmc
      have hA1 := hA.fr F1 huc
      refine kV ?_
      refine wp_aload_n (M := mX6_ahead) (pc := 50) dX6_ahead_50 rfl ?_
      refine wp_getR (M := mX6_ahead) (pc := 51) fa_X6_16 rfl dX6_ahead_51 hm1.1.1 hm1.2.2.1 ?_
      refine wp_iload_n (M := mX6_ahead) (pc := 54) dX6_ahead_54 rfl ?_
      refine wp_aload_n (M := mX6_ahead) (pc := 55) dX6_ahead_55 rfl ?_
      refine wp_getR (M := mX6_ahead) (pc := 56) fa_X6_22 rfl dX6_ahead_56 hm1.1.1 hm1.2.2.2.1 ?_
      refine so_V2 (M := mX6_ahead) (pc := 59) cs_X6_ahead_170 rfl rfl (LE rfl) (LE rfl) dX6_ahead_59 R1.1.1.1 ?_
      refine sp_X4_advance R1 hA1 huc hok.1 (by omega) (by have := hok.2.1; omega) hok.2.2.1 (fun j hj => hok.2.2.2 j (by omega)) (fun h2 l2 e2 R2 A2 F2 => ?_)
      have hm2 := hm1.fr F2 (fun e => e.elim hmc hmu)
      refine kI ?_
      refine wp_pop (M := mX6_ahead) (pc := 62) dX6_ahead_62 rfl ?_
      refine wp_aload_n (M := mX6_ahead) (pc := 63) dX6_ahead_63 rfl ?_
      refine wp_getR (M := mX6_ahead) (pc := 64) fa_X6_16 rfl dX6_ahead_64 hm2.1.1 hm2.2.2.1 ?_
      refine wp_iload_n (M := mX6_ahead) (pc := 67) dX6_ahead_67 rfl ?_
      refine wp_iload_n (M := mX6_ahead) (pc := 68) dX6_ahead_68 rfl ?_
      refine so_V2 (M := mX6_ahead) (pc := 69) cs_X6_ahead_104 rfl rfl (LE rfl) (LE rfl) dX6_ahead_69 R2.1.1.1 ?_
      refine sp_X4_tenantNumber R2 (by rw [tks_n]; exact hi9) (by omega) (by rw [tks_ti]; have := hok.2.1; omega) (by rw [tks_tm]; exact hok.2.2.1) ?_
      refine kI ?_
      refine wp_ireturn (M := mX6_ahead) (pc := 72) rfl dX6_ahead_72 ?_
      exact k1 n i j hn rfl hi9 rfl hj rfl h2 l2 R2.1 A2 ((F1.mono (fun y e => Or.inl e)).tr F2)
end SP
