section SP
variable {E : Ev} {h : PH} {Q : Rt → PH → Prop}
def volA (A : Sta) (kd : Nat) (p z : Int32) : Int32 := (matchB (sO A ++ [(0, kd, p, z)])).2.2.1
set_option maxHeartbeats 4000000 in
set_option maxRecDepth 100000 in
theorem sp_X6_volumeIf {ka pa fa la : Nat} {m c u hi sl tx : Nat} {q : Nat} {l : Lt} {A : Sta} {t y p z : Int32} (hm : ObC h m q c u hi sl tx) (hR : RepC h q l A) (hA : AuT h u ka pa fa la) (hq : u ≠ q) (hmu : m ≠ u) (k1 : ∀ j, isT A t → j ≤ 2 → y = nI j → wth p 1 99 → wth z 1 99 → ∀ h', FrI (fun x => x = u) h h' → Q (.inl (some (.int (volA A j p z)))) h') (k0 : ¬ isT A t → Q (.inr "java/lang/IndexOutOfBoundsException") h) (k2 : isT A t → ¬ (wth y 0 2 ∧ wth p 1 99 ∧ wth z 1 99) → Q (.inr "java/lang/IllegalArgumentException") h) : WPx E mX6_volumeIf 0 [some (.ref m), some (.int t), some (.int y), some (.int p), some (.int z)] [] (2, 12) h Q := by
  have n12 := hR.2.1.2.1.2
  refine wp_aload_n (M := mX6_volumeIf) (pc := 0) dX6_volumeIf_0 rfl ?_
  refine wp_getR (M := mX6_volumeIf) (pc := 1) fa_X6_12 rfl dX6_volumeIf_1 (by first | exact hm.1.1 | exact hR.1.1.1 | exact hA.1.1) (by first | exact hm.2.1 | exact hm.2.2.2.1) ?_
  refine wp_iload_n (M := mX6_volumeIf) (pc := 4) dX6_volumeIf_4 rfl ?_
  refine so_V1 (M := mX6_volumeIf) (pc := 5) cs_X6_volumeIf_97 rfl rfl (LE rfl) (LE rfl) dX6_volumeIf_5 (by first | exact hm.1.1 | exact hR.1.1.1 | exact hA.1.1) ?_
  refine sb_hasTenant hR ?_
  refine kI ?_
  refine so_SA1 (M := mX6_volumeIf) (pc := 8) (1, 6) cs_X6_volumeIf_101 rfl (LE rfl) (LE rfl) (LE rfl) (LE rfl) dX6_volumeIf_8 ?_
  refine sp_X6_requireThere (fun ht => ?_) (fun hw => k0 hw)
  refine kV ?_
  refine wp_iload_n (M := mX6_volumeIf) (pc := 11) dX6_volumeIf_11 rfl ?_
  refine wp_iconst (M := mX6_volumeIf) (pc := 12) (v := 0) dX6_volumeIf_12 ci_0 ?_
  refine wp_iconst (M := mX6_volumeIf) (pc := 13) (v := 2) dX6_volumeIf_13 ci_2 ?_
  refine so_S3 (M := mX6_volumeIf) (pc := 14) cs_X6_volumeIf_56 rfl rfl (LE rfl) (LE rfl) dX6_volumeIf_14 ?_
  refine sp_X6_isWithin ?_
  refine kI ?_
  refine wp_if_eq (M := mX6_volumeIf) (pc := 17) (tgt := 39) dX6_volumeIf_17 rfl (fun t17 => ?_) (fun f17 => ?_)
  · have hl : ¬ (0 : Int32) = 0 → (wth y 0 2 ∧ wth p 1 99 ∧ wth z 1 99) := fun e => absurd rfl e
    have hl0 : (0 : Int32) = 0 → ¬ (wth y 0 2 ∧ wth p 1 99 ∧ wth z 1 99) := fun _ e => b01_z t17 e.1
    refine wp_iconst (M := mX6_volumeIf) (pc := 39) (v := 0) dX6_volumeIf_39 ci_0 ?_
    refine so_SA1 (M := mX6_volumeIf) (pc := 40) (0, 0) cs_X6_volumeIf_60 rfl (LE rfl) (LE rfl) (LE rfl) (LE rfl) dX6_volumeIf_40 ?_
    refine sv_X6_requireArgument (fun hv => ?_) (fun hv => k2 ht (hl0 hv))
    obtain ⟨w1, w2, w3⟩ := hl hv
    obtain ⟨j, hj, rfl⟩ := wth_nI (b := 2) (by decide) w1
    refine kV ?_
    refine wp_aload_n (M := mX6_volumeIf) (pc := 43) dX6_volumeIf_43 rfl ?_
    refine wp_getR (M := mX6_volumeIf) (pc := 44) fa_X6_22 rfl dX6_volumeIf_44 (by first | exact hm.1.1 | exact hR.1.1.1 | exact hA.1.1) (by first | exact hm.2.1 | exact hm.2.2.2.1) ?_
    refine wp_aload_n (M := mX6_volumeIf) (pc := 47) dX6_volumeIf_47 rfl ?_
    refine wp_getR (M := mX6_volumeIf) (pc := 48) fa_X6_12 rfl dX6_volumeIf_48 (by first | exact hm.1.1 | exact hR.1.1.1 | exact hA.1.1) (by first | exact hm.2.1 | exact hm.2.2.2.1) ?_
    refine wp_bipush (M := mX6_volumeIf) (pc := 51) (v := 63) dX6_volumeIf_51 cb_63 ?_
    refine so_V2 (M := mX6_volumeIf) (pc := 53) cs_X6_volumeIf_202 rfl rfl (LE rfl) (LE rfl) dX6_volumeIf_53 (by first | exact hm.1.1 | exact hR.1.1.1 | exact hA.1.1) ?_
    refine sp_X0_gather hR hA hq (fun h1 b1 f1 => ?_)
    rw [bn_63 hR.2.1.1.2 (fun i hi => (hR.2.2.2 i hi).2.1)] at b1
    have hm1 := hm.fr f1.fr hmu
    have hA1 := hA.mv f1
    have f2 : FrI (fun x => x = u) h1 (si (si (si (si (si h1 ka (sO A).length (nI j)) pa (sO A).length p) fa (sO A).length 0) la (sO A).length z) u 4 (nI ((sO A).length + 1))) := ((((FrI.si hA1.2.2.1).tr (FrI.si hA1.2.2.2.1)).tr (FrI.si hA1.2.2.2.2.1)).tr (FrI.si hA1.2.2.2.2.2)).tr (FrI.si hA1.2.1)
    have hA2 := hA1.mv f2
    have hm2 := hm1.fr f2.fr hmu
    refine kV ?_
    refine wp_aload_n (M := mX6_volumeIf) (pc := 56) dX6_volumeIf_56 rfl ?_
    refine wp_getR (M := mX6_volumeIf) (pc := 57) fa_X6_22 rfl dX6_volumeIf_57 hm1.1.1 hm1.2.2.2.1 ?_
    refine wp_iload_n (M := mX6_volumeIf) (pc := 60) dX6_volumeIf_60 rfl ?_
    refine wp_iload_n (M := mX6_volumeIf) (pc := 61) dX6_volumeIf_61 rfl ?_
    refine wp_iload (M := mX6_volumeIf) (pc := 62) dX6_volumeIf_62 rfl ?_
    refine so_V3 (M := mX6_volumeIf) (pc := 64) cs_X6_volumeIf_206 rfl rfl (LE rfl) (LE rfl) dX6_volumeIf_64 (hA.mv f1).1.1 ?_
    refine sp_X0_add hA1.1 b1.1 (by omega) ?_
    refine kV ?_
    refine wp_aload_n (M := mX6_volumeIf) (pc := 67) dX6_volumeIf_67 rfl ?_
    refine wp_getR (M := mX6_volumeIf) (pc := 68) fa_X6_22 rfl dX6_volumeIf_68 hm2.1.1 hm2.2.2.2.1 ?_
    refine so_V0 (M := mX6_volumeIf) (pc := 71) cs_X6_volumeIf_208 rfl rfl (LE rfl) (LE rfl) dX6_volumeIf_71 hA2.1.1 ?_
    refine sb_match hA2 (BR.add (x := (0, j, p, z)) hA1.1 b1 (by omega)) (fun h3 b3 f3 => ?_)
    have hm3 := hm2.fr f3.fr hmu
    refine kV ?_
    refine wp_aload_n (M := mX6_volumeIf) (pc := 74) dX6_volumeIf_74 rfl ?_
    refine wp_getR (M := mX6_volumeIf) (pc := 75) fa_X6_22 rfl dX6_volumeIf_75 hm3.1.1 hm3.2.2.2.1 ?_
    refine wp_getI (M := mX6_volumeIf) (pc := 78) fa_X6_192 rfl dX6_volumeIf_78 (hA2.mv f3).1.1 ?_
    refine wp_ireturn (M := mX6_volumeIf) (pc := 81) rfl dX6_volumeIf_81 ?_
    rw [b3.2.2.1]; exact k1 j ht hj rfl w2 w3 h3 (f1.tr (f2.tr f3))
  · refine wp_iload_n (M := mX6_volumeIf) (pc := 20) dX6_volumeIf_20 rfl ?_
    refine so_S1 (M := mX6_volumeIf) (pc := 21) cs_X6_volumeIf_157 rfl rfl (LE rfl) (LE rfl) dX6_volumeIf_21 ?_
    refine sp_X6_isTwoDigits ?_
    refine kI ?_
    refine wp_if_eq (M := mX6_volumeIf) (pc := 24) (tgt := 39) dX6_volumeIf_24 rfl (fun t24 => ?_) (fun f24 => ?_)
    · have hl : ¬ (0 : Int32) = 0 → (wth y 0 2 ∧ wth p 1 99 ∧ wth z 1 99) := fun e => absurd rfl e
      have hl0 : (0 : Int32) = 0 → ¬ (wth y 0 2 ∧ wth p 1 99 ∧ wth z 1 99) := fun _ e => b01_z t24 e.2.1
      refine wp_iconst (M := mX6_volumeIf) (pc := 39) (v := 0) dX6_volumeIf_39 ci_0 ?_
      refine so_SA1 (M := mX6_volumeIf) (pc := 40) (0, 0) cs_X6_volumeIf_60 rfl (LE rfl) (LE rfl) (LE rfl) (LE rfl) dX6_volumeIf_40 ?_
      refine sv_X6_requireArgument (fun hv => ?_) (fun hv => k2 ht (hl0 hv))
      obtain ⟨w1, w2, w3⟩ := hl hv
      obtain ⟨j, hj, rfl⟩ := wth_nI (b := 2) (by decide) w1
      refine kV ?_
      refine wp_aload_n (M := mX6_volumeIf) (pc := 43) dX6_volumeIf_43 rfl ?_
      refine wp_getR (M := mX6_volumeIf) (pc := 44) fa_X6_22 rfl dX6_volumeIf_44 (by first | exact hm.1.1 | exact hR.1.1.1 | exact hA.1.1) (by first | exact hm.2.1 | exact hm.2.2.2.1) ?_
      refine wp_aload_n (M := mX6_volumeIf) (pc := 47) dX6_volumeIf_47 rfl ?_
      refine wp_getR (M := mX6_volumeIf) (pc := 48) fa_X6_12 rfl dX6_volumeIf_48 (by first | exact hm.1.1 | exact hR.1.1.1 | exact hA.1.1) (by first | exact hm.2.1 | exact hm.2.2.2.1) ?_
      refine wp_bipush (M := mX6_volumeIf) (pc := 51) (v := 63) dX6_volumeIf_51 cb_63 ?_
      refine so_V2 (M := mX6_volumeIf) (pc := 53) cs_X6_volumeIf_202 rfl rfl (LE rfl) (LE rfl) dX6_volumeIf_53 (by first | exact hm.1.1 | exact hR.1.1.1 | exact hA.1.1) ?_
      refine sp_X0_gather hR hA hq (fun h1 b1 f1 => ?_)
      rw [bn_63 hR.2.1.1.2 (fun i hi => (hR.2.2.2 i hi).2.1)] at b1
      have hm1 := hm.fr f1.fr hmu
      have hA1 := hA.mv f1
      have f2 : FrI (fun x => x = u) h1 (si (si (si (si (si h1 ka (sO A).length (nI j)) pa (sO A).length p) fa (sO A).length 0) la (sO A).length z) u 4 (nI ((sO A).length + 1))) := ((((FrI.si hA1.2.2.1).tr (FrI.si hA1.2.2.2.1)).tr (FrI.si hA1.2.2.2.2.1)).tr (FrI.si hA1.2.2.2.2.2)).tr (FrI.si hA1.2.1)
      have hA2 := hA1.mv f2
      have hm2 := hm1.fr f2.fr hmu
      refine kV ?_
      refine wp_aload_n (M := mX6_volumeIf) (pc := 56) dX6_volumeIf_56 rfl ?_
      refine wp_getR (M := mX6_volumeIf) (pc := 57) fa_X6_22 rfl dX6_volumeIf_57 hm1.1.1 hm1.2.2.2.1 ?_
      refine wp_iload_n (M := mX6_volumeIf) (pc := 60) dX6_volumeIf_60 rfl ?_
      refine wp_iload_n (M := mX6_volumeIf) (pc := 61) dX6_volumeIf_61 rfl ?_
      refine wp_iload (M := mX6_volumeIf) (pc := 62) dX6_volumeIf_62 rfl ?_
      refine so_V3 (M := mX6_volumeIf) (pc := 64) cs_X6_volumeIf_206 rfl rfl (LE rfl) (LE rfl) dX6_volumeIf_64 (hA.mv f1).1.1 ?_
      refine sp_X0_add hA1.1 b1.1 (by omega) ?_
      refine kV ?_
      refine wp_aload_n (M := mX6_volumeIf) (pc := 67) dX6_volumeIf_67 rfl ?_
      refine wp_getR (M := mX6_volumeIf) (pc := 68) fa_X6_22 rfl dX6_volumeIf_68 hm2.1.1 hm2.2.2.2.1 ?_
      refine so_V0 (M := mX6_volumeIf) (pc := 71) cs_X6_volumeIf_208 rfl rfl (LE rfl) (LE rfl) dX6_volumeIf_71 hA2.1.1 ?_
      refine sb_match hA2 (BR.add (x := (0, j, p, z)) hA1.1 b1 (by omega)) (fun h3 b3 f3 => ?_)
      have hm3 := hm2.fr f3.fr hmu
      refine kV ?_
      refine wp_aload_n (M := mX6_volumeIf) (pc := 74) dX6_volumeIf_74 rfl ?_
      refine wp_getR (M := mX6_volumeIf) (pc := 75) fa_X6_22 rfl dX6_volumeIf_75 hm3.1.1 hm3.2.2.2.1 ?_
      refine wp_getI (M := mX6_volumeIf) (pc := 78) fa_X6_192 rfl dX6_volumeIf_78 (hA2.mv f3).1.1 ?_
      refine wp_ireturn (M := mX6_volumeIf) (pc := 81) rfl dX6_volumeIf_81 ?_
      rw [b3.2.2.1]; exact k1 j ht hj rfl w2 w3 h3 (f1.tr (f2.tr f3))
    · refine wp_iload (M := mX6_volumeIf) (pc := 27) dX6_volumeIf_27 rfl ?_
      refine so_S1 (M := mX6_volumeIf) (pc := 29) cs_X6_volumeIf_157 rfl rfl (LE rfl) (LE rfl) dX6_volumeIf_29 ?_
      refine sp_X6_isTwoDigits ?_
      refine kI ?_
      refine wp_if_eq (M := mX6_volumeIf) (pc := 32) (tgt := 39) dX6_volumeIf_32 rfl (fun t32 => ?_) (fun f32 => ?_)
      · have hl : ¬ (0 : Int32) = 0 → (wth y 0 2 ∧ wth p 1 99 ∧ wth z 1 99) := fun e => absurd rfl e
        have hl0 : (0 : Int32) = 0 → ¬ (wth y 0 2 ∧ wth p 1 99 ∧ wth z 1 99) := fun _ e => b01_z t32 e.2.2
        refine wp_iconst (M := mX6_volumeIf) (pc := 39) (v := 0) dX6_volumeIf_39 ci_0 ?_
        refine so_SA1 (M := mX6_volumeIf) (pc := 40) (0, 0) cs_X6_volumeIf_60 rfl (LE rfl) (LE rfl) (LE rfl) (LE rfl) dX6_volumeIf_40 ?_
        refine sv_X6_requireArgument (fun hv => ?_) (fun hv => k2 ht (hl0 hv))
        obtain ⟨w1, w2, w3⟩ := hl hv
        obtain ⟨j, hj, rfl⟩ := wth_nI (b := 2) (by decide) w1
        refine kV ?_
        refine wp_aload_n (M := mX6_volumeIf) (pc := 43) dX6_volumeIf_43 rfl ?_
        refine wp_getR (M := mX6_volumeIf) (pc := 44) fa_X6_22 rfl dX6_volumeIf_44 (by first | exact hm.1.1 | exact hR.1.1.1 | exact hA.1.1) (by first | exact hm.2.1 | exact hm.2.2.2.1) ?_
        refine wp_aload_n (M := mX6_volumeIf) (pc := 47) dX6_volumeIf_47 rfl ?_
        refine wp_getR (M := mX6_volumeIf) (pc := 48) fa_X6_12 rfl dX6_volumeIf_48 (by first | exact hm.1.1 | exact hR.1.1.1 | exact hA.1.1) (by first | exact hm.2.1 | exact hm.2.2.2.1) ?_
        refine wp_bipush (M := mX6_volumeIf) (pc := 51) (v := 63) dX6_volumeIf_51 cb_63 ?_
        refine so_V2 (M := mX6_volumeIf) (pc := 53) cs_X6_volumeIf_202 rfl rfl (LE rfl) (LE rfl) dX6_volumeIf_53 (by first | exact hm.1.1 | exact hR.1.1.1 | exact hA.1.1) ?_
        refine sp_X0_gather hR hA hq (fun h1 b1 f1 => ?_)
        rw [bn_63 hR.2.1.1.2 (fun i hi => (hR.2.2.2 i hi).2.1)] at b1
        have hm1 := hm.fr f1.fr hmu
        have hA1 := hA.mv f1
        have f2 : FrI (fun x => x = u) h1 (si (si (si (si (si h1 ka (sO A).length (nI j)) pa (sO A).length p) fa (sO A).length 0) la (sO A).length z) u 4 (nI ((sO A).length + 1))) := ((((FrI.si hA1.2.2.1).tr (FrI.si hA1.2.2.2.1)).tr (FrI.si hA1.2.2.2.2.1)).tr (FrI.si hA1.2.2.2.2.2)).tr (FrI.si hA1.2.1)
        have hA2 := hA1.mv f2
        have hm2 := hm1.fr f2.fr hmu
        refine kV ?_
        refine wp_aload_n (M := mX6_volumeIf) (pc := 56) dX6_volumeIf_56 rfl ?_
        refine wp_getR (M := mX6_volumeIf) (pc := 57) fa_X6_22 rfl dX6_volumeIf_57 hm1.1.1 hm1.2.2.2.1 ?_
        refine wp_iload_n (M := mX6_volumeIf) (pc := 60) dX6_volumeIf_60 rfl ?_
        refine wp_iload_n (M := mX6_volumeIf) (pc := 61) dX6_volumeIf_61 rfl ?_
        refine wp_iload (M := mX6_volumeIf) (pc := 62) dX6_volumeIf_62 rfl ?_
        refine so_V3 (M := mX6_volumeIf) (pc := 64) cs_X6_volumeIf_206 rfl rfl (LE rfl) (LE rfl) dX6_volumeIf_64 (hA.mv f1).1.1 ?_
        refine sp_X0_add hA1.1 b1.1 (by omega) ?_
        refine kV ?_
        refine wp_aload_n (M := mX6_volumeIf) (pc := 67) dX6_volumeIf_67 rfl ?_
        refine wp_getR (M := mX6_volumeIf) (pc := 68) fa_X6_22 rfl dX6_volumeIf_68 hm2.1.1 hm2.2.2.2.1 ?_
        refine so_V0 (M := mX6_volumeIf) (pc := 71) cs_X6_volumeIf_208 rfl rfl (LE rfl) (LE rfl) dX6_volumeIf_71 hA2.1.1 ?_
        refine sb_match hA2 (BR.add (x := (0, j, p, z)) hA1.1 b1 (by omega)) (fun h3 b3 f3 => ?_)
        have hm3 := hm2.fr f3.fr hmu
        refine kV ?_
        refine wp_aload_n (M := mX6_volumeIf) (pc := 74) dX6_volumeIf_74 rfl ?_
        refine wp_getR (M := mX6_volumeIf) (pc := 75) fa_X6_22 rfl dX6_volumeIf_75 hm3.1.1 hm3.2.2.2.1 ?_
        refine wp_getI (M := mX6_volumeIf) (pc := 78) fa_X6_192 rfl dX6_volumeIf_78 (hA2.mv f3).1.1 ?_
        refine wp_ireturn (M := mX6_volumeIf) (pc := 81) rfl dX6_volumeIf_81 ?_
        rw [b3.2.2.1]; exact k1 j ht hj rfl w2 w3 h3 (f1.tr (f2.tr f3))
      · have hl : ¬ (1 : Int32) = 0 → (wth y 0 2 ∧ wth p 1 99 ∧ wth z 1 99) := fun _ => ⟨b01_n f17, b01_n f24, b01_n f32⟩
        have hl0 : (1 : Int32) = 0 → ¬ (wth y 0 2 ∧ wth p 1 99 ∧ wth z 1 99) := fun e => absurd e (by decide)
        refine wp_iconst (M := mX6_volumeIf) (pc := 35) (v := 1) dX6_volumeIf_35 ci_1 ?_
        refine wp_goto (M := mX6_volumeIf) (pc := 36) (tgt := 40) dX6_volumeIf_36 rfl ?_
        refine so_SA1 (M := mX6_volumeIf) (pc := 40) (0, 0) cs_X6_volumeIf_60 rfl (LE rfl) (LE rfl) (LE rfl) (LE rfl) dX6_volumeIf_40 ?_
        refine sv_X6_requireArgument (fun hv => ?_) (fun hv => k2 ht (hl0 hv))
        obtain ⟨w1, w2, w3⟩ := hl hv
        obtain ⟨j, hj, rfl⟩ := wth_nI (b := 2) (by decide) w1
        refine kV ?_
        refine wp_aload_n (M := mX6_volumeIf) (pc := 43) dX6_volumeIf_43 rfl ?_
        refine wp_getR (M := mX6_volumeIf) (pc := 44) fa_X6_22 rfl dX6_volumeIf_44 (by first | exact hm.1.1 | exact hR.1.1.1 | exact hA.1.1) (by first | exact hm.2.1 | exact hm.2.2.2.1) ?_
        refine wp_aload_n (M := mX6_volumeIf) (pc := 47) dX6_volumeIf_47 rfl ?_
        refine wp_getR (M := mX6_volumeIf) (pc := 48) fa_X6_12 rfl dX6_volumeIf_48 (by first | exact hm.1.1 | exact hR.1.1.1 | exact hA.1.1) (by first | exact hm.2.1 | exact hm.2.2.2.1) ?_
        refine wp_bipush (M := mX6_volumeIf) (pc := 51) (v := 63) dX6_volumeIf_51 cb_63 ?_
        refine so_V2 (M := mX6_volumeIf) (pc := 53) cs_X6_volumeIf_202 rfl rfl (LE rfl) (LE rfl) dX6_volumeIf_53 (by first | exact hm.1.1 | exact hR.1.1.1 | exact hA.1.1) ?_
        refine sp_X0_gather hR hA hq (fun h1 b1 f1 => ?_)
        rw [bn_63 hR.2.1.1.2 (fun i hi => (hR.2.2.2 i hi).2.1)] at b1
        have hm1 := hm.fr f1.fr hmu
        have hA1 := hA.mv f1
        have f2 : FrI (fun x => x = u) h1 (si (si (si (si (si h1 ka (sO A).length (nI j)) pa (sO A).length p) fa (sO A).length 0) la (sO A).length z) u 4 (nI ((sO A).length + 1))) := ((((FrI.si hA1.2.2.1).tr (FrI.si hA1.2.2.2.1)).tr (FrI.si hA1.2.2.2.2.1)).tr (FrI.si hA1.2.2.2.2.2)).tr (FrI.si hA1.2.1)
        have hA2 := hA1.mv f2
        have hm2 := hm1.fr f2.fr hmu
        refine kV ?_
        refine wp_aload_n (M := mX6_volumeIf) (pc := 56) dX6_volumeIf_56 rfl ?_
        refine wp_getR (M := mX6_volumeIf) (pc := 57) fa_X6_22 rfl dX6_volumeIf_57 hm1.1.1 hm1.2.2.2.1 ?_
        refine wp_iload_n (M := mX6_volumeIf) (pc := 60) dX6_volumeIf_60 rfl ?_
        refine wp_iload_n (M := mX6_volumeIf) (pc := 61) dX6_volumeIf_61 rfl ?_
        refine wp_iload (M := mX6_volumeIf) (pc := 62) dX6_volumeIf_62 rfl ?_
        refine so_V3 (M := mX6_volumeIf) (pc := 64) cs_X6_volumeIf_206 rfl rfl (LE rfl) (LE rfl) dX6_volumeIf_64 (hA.mv f1).1.1 ?_
        refine sp_X0_add hA1.1 b1.1 (by omega) ?_
        refine kV ?_
        refine wp_aload_n (M := mX6_volumeIf) (pc := 67) dX6_volumeIf_67 rfl ?_
        refine wp_getR (M := mX6_volumeIf) (pc := 68) fa_X6_22 rfl dX6_volumeIf_68 hm2.1.1 hm2.2.2.2.1 ?_
        refine so_V0 (M := mX6_volumeIf) (pc := 71) cs_X6_volumeIf_208 rfl rfl (LE rfl) (LE rfl) dX6_volumeIf_71 hA2.1.1 ?_
        refine sb_match hA2 (BR.add (x := (0, j, p, z)) hA1.1 b1 (by omega)) (fun h3 b3 f3 => ?_)
        have hm3 := hm2.fr f3.fr hmu
        refine kV ?_
        refine wp_aload_n (M := mX6_volumeIf) (pc := 74) dX6_volumeIf_74 rfl ?_
        refine wp_getR (M := mX6_volumeIf) (pc := 75) fa_X6_22 rfl dX6_volumeIf_75 hm3.1.1 hm3.2.2.2.1 ?_
        refine wp_getI (M := mX6_volumeIf) (pc := 78) fa_X6_192 rfl dX6_volumeIf_78 (hA2.mv f3).1.1 ?_
        refine wp_ireturn (M := mX6_volumeIf) (pc := 81) rfl dX6_volumeIf_81 ?_
        rw [b3.2.2.1]; exact k1 j ht hj rfl w2 w3 h3 (f1.tr (f2.tr f3))
end SP
