section SP
variable {E : Ev} {h : PH} {Q : Rt → PH → Prop}
/-- what may happen to a copy: k more ticks go well -/
def OkP (P : Nat → Sta → Prop) : Prop := (∀ k B n, P k B → n ≤ k → okT B n ∧ P (k - n) (tks n B).1) ∧ (∀ k B kd j p z, P k B → kd < 3 → j < sN B → wth p 1 99 → wth z 1 99 → canP B kd j p z → P k (placeA B kd j p z)) ∧ (∀ k B j z, P k B → j < sN B → wth z 1 99 → (sT B j).2.1.length < 8 → P k (pushA B j z))
noncomputable def plO (B : Sta) (kd : Nat) (t p z : Int32) : Option Sta := cif (mayP B kd t p z) (some (placeA B kd (mis t) p z)) none
noncomputable def quO (B : Sta) (t z : Int32) : Option Sta := cif (mayQ B t z) (some (pushA B (mis t) z)) none
theorem mis_n {j : Nat} (h : j < 2 ^ 31) : mis (nI j) = j := nI_clamp h
noncomputable def cmdA (B : Sta) (cm t p z : Int32) : Option Sta :=
  cif (cm = 1) (plO B 0 t p z) (cif (cm = 2) (plO B 1 t p z) (cif (cm = 3) (plO B 2 t p z) (cif (cm = 4) (cif (t = 0 ∧ p = 0 ∧ wth z 1 50) (some (tks (mis z) B).1) none)
  (cif (cm = 5) (cif (p = 0) (quO B t z) none) (cif (cm = 6) (cif (∃ i, i < sN B ∧ t = nI i ∧ 100 * p + z ≤ fT B i 4) (some B) none) (cif (cm = 7) (cif (∃ i, i < sN B ∧ t = nI i ∧ 100 * p + z ≤ fT B i 2 + fT B i 3) (some B) none)
  (cif (cm = 8) (cif (t = 0 ∧ p = 0 ∧ sG B 7 = z) (some B) none) none)))))))
section
variable {B : Sta} {t p z : Int32}
theorem cm_1 : cmdA B 1 t p z = plO B 0 t p z := cif_t rfl
theorem cm_2 : cmdA B 2 t p z = plO B 1 t p z := (cif_f (by decide)).trans (cif_t rfl)
theorem cm_3 : cmdA B 3 t p z = plO B 2 t p z := (cif_f (by decide)).trans ((cif_f (by decide)).trans (cif_t rfl))
theorem cm_4 : cmdA B 4 t p z = cif (t = 0 ∧ p = 0 ∧ wth z 1 50) (some (tks (mis z) B).1) none := (cif_f (by decide)).trans ((cif_f (by decide)).trans ((cif_f (by decide)).trans (cif_t rfl)))
theorem cm_5 : cmdA B 5 t p z = cif (p = 0) (quO B t z) none := (cif_f (by decide)).trans ((cif_f (by decide)).trans ((cif_f (by decide)).trans ((cif_f (by decide)).trans (cif_t rfl))))
theorem cm_6 : cmdA B 6 t p z = cif (∃ i, i < sN B ∧ t = nI i ∧ 100 * p + z ≤ fT B i 4) (some B) none := (cif_f (by decide)).trans ((cif_f (by decide)).trans ((cif_f (by decide)).trans ((cif_f (by decide)).trans ((cif_f (by decide)).trans (cif_t rfl)))))
theorem cm_7 : cmdA B 7 t p z = cif (∃ i, i < sN B ∧ t = nI i ∧ 100 * p + z ≤ fT B i 2 + fT B i 3) (some B) none := (cif_f (by decide)).trans ((cif_f (by decide)).trans ((cif_f (by decide)).trans ((cif_f (by decide)).trans ((cif_f (by decide)).trans ((cif_f (by decide)).trans (cif_t rfl))))))
theorem cm_8 : cmdA B 8 t p z = cif (t = 0 ∧ p = 0 ∧ sG B 7 = z) (some B) none := (cif_f (by decide)).trans ((cif_f (by decide)).trans ((cif_f (by decide)).trans ((cif_f (by decide)).trans ((cif_f (by decide)).trans ((cif_f (by decide)).trans ((cif_f (by decide)).trans (cif_t rfl)))))))
theorem cm_9 {cm : Int32} (h : cm.toInt < 1 ∨ 8 < cm.toInt) : cmdA B cm t p z = none := by
  have hn : ∀ v : Int32, (1 ≤ v.toInt ∧ v.toInt ≤ 8) → ¬ cm = v := fun v hv e => by rw [e] at h; omega
  exact (cif_f (hn 1 (by decide))).trans ((cif_f (hn 2 (by decide))).trans ((cif_f (hn 3 (by decide))).trans ((cif_f (hn 4 (by decide))).trans ((cif_f (hn 5 (by decide))).trans ((cif_f (hn 6 (by decide))).trans ((cif_f (hn 7 (by decide))).trans (cif_f (hn 8 (by decide)))))))))
theorem sw18 (x : Int32) : x = 1 ∨ x = 2 ∨ x = 3 ∨ x = 4 ∨ x = 5 ∨ x = 6 ∨ x = 7 ∨ x = 8 ∨ (x.toInt < 1 ∨ 8 < x.toInt) := by
  have hh : ∀ v : Int32, x.toInt = v.toInt → x = v := fun v e => Int32.toInt_inj.mp e
  rcases (show x.toInt = 1 ∨ x.toInt = 2 ∨ x.toInt = 3 ∨ x.toInt = 4 ∨ x.toInt = 5 ∨ x.toInt = 6 ∨ x.toInt = 7 ∨ x.toInt = 8 ∨ (x.toInt < 1 ∨ 8 < x.toInt) by omega) with e | e | e | e | e | e | e | e | e
  · exact Or.inl (hh 1 e)
  · exact Or.inr (Or.inl (hh 2 e))
  · exact Or.inr (Or.inr (Or.inl (hh 3 e)))
  · exact Or.inr (Or.inr (Or.inr (Or.inl (hh 4 e))))
  · exact Or.inr (Or.inr (Or.inr (Or.inr (Or.inl (hh 5 e)))))
  · exact Or.inr (Or.inr (Or.inr (Or.inr (Or.inr (Or.inl (hh 6 e))))))
  · exact Or.inr (Or.inr (Or.inr (Or.inr (Or.inr (Or.inr (Or.inl (hh 7 e)))))))
  · exact Or.inr (Or.inr (Or.inr (Or.inr (Or.inr (Or.inr (Or.inr (Or.inl (hh 8 e))))))))
  · exact Or.inr (Or.inr (Or.inr (Or.inr (Or.inr (Or.inr (Or.inr (Or.inr e)))))))
end
/-- a command of six digits -/
noncomputable def grpA (B : Sta) (g : Int32) : Option Sta := cmdA B (g / 100000) (rmI (g / 10000) 10) (rmI (g / 100) 100) (rmI g 100)
set_option maxHeartbeats 4000000 in
set_option maxRecDepth 100000 in
theorem s1_X6_succeeds {me q c u hi sl tx ka pa fa la : Nat} {lc : Lt} {B : Sta} {g t p z : Int32} {r : Nat × Nat} (hob : ObC h me q c u hi sl tx) (hB : RepC h c lc B) (hA : AuT h u ka pa fa la) (nuc : u ≠ c) (hok : okT B 50) (hn6 : sN B ≤ 6) (k1 : ∀ B', cmdA B 1 t p z = some B' → ∀ h' lc', RepC h' c lc' B' → AuT h' u ka pa fa la → Fr (fun x => x = c ∨ x = u) h h' → Q (.inl (some (.int 1))) h') (k0 : cmdA B 1 t p z = none → Q (.inl (some (.int 0))) h) : WPx E mX6_succeeds 76 [some (.ref me), some (.int g), some (.int 1), some (.int t), some (.int p), some (.int z)] [] r h Q := by
  refine wp_aload_n (M := mX6_succeeds) (pc := 76) dX6_succeeds_76 rfl ?_
  refine wp_getR (M := mX6_succeeds) (pc := 77) fa_X6_16 rfl dX6_succeeds_77 (by first | exact hob.1.1 | exact hB.1.1.1 | exact hB.1.2.1.2.1 | exact (hB.1.2.2.2.1 i (by omega)).2.1.1 | fail "kd") (by first | exact hob.2.2.1 | exact hob.2.2.2.1 | exact hB.1.2.1.1 | exact (hB.1.2.2.2.1 i (by omega)).1 | fail "rx") ?_
  refine wp_iload_n (M := mX6_succeeds) (pc := 80) dX6_succeeds_80 rfl ?_
  refine wp_iconst (M := mX6_succeeds) (pc := 81) (v := 1) dX6_succeeds_81 ci_1 ?_
  refine wp_isub (M := mX6_succeeds) (pc := 82) dX6_succeeds_82 ?_
  refine wp_iload_n (M := mX6_succeeds) (pc := 83) dX6_succeeds_83 rfl ?_
  refine wp_iload (M := mX6_succeeds) (pc := 84) dX6_succeeds_84 rfl ?_
  refine wp_iload (M := mX6_succeeds) (pc := 86) dX6_succeeds_86 rfl ?_
  refine so_V4 (M := mX6_succeeds) (pc := 88) cs_X6_succeeds_295 rfl rfl (LE rfl) (LE rfl) dX6_succeeds_88 (by first | exact hob.1.1 | exact hB.1.1.1 | exact hB.1.2.1.2.1 | exact (hB.1.2.2.2.1 i (by omega)).2.1.1 | fail "kd") ?_
  refine sp_X4_tryPlace (kd := 0) hB (by decide) (fun j hj et hp hz hc h1 R1 F1 => ?_) (fun hn => ?_)
  · refine kI ?_
    refine wp_zreturn (M := mX6_succeeds) (pc := 91) rfl (by decide) dX6_succeeds_91 ?_
    refine k1 (placeA B 0 j p z) ?_ h1 lc R1 (hA.fr F1 nuc) (F1.mono (fun y e => Or.inl e))
    rw [cm_1, plO, cif_t ⟨j, hj, et, hp, hz, hc⟩, et, mis_n (by omega)]
  · refine kI ?_
    refine wp_zreturn (M := mX6_succeeds) (pc := 91) rfl (by decide) dX6_succeeds_91 ?_
    refine k0 ?_
    rw [cm_1, plO, cif_f hn]
set_option maxHeartbeats 4000000 in
set_option maxRecDepth 100000 in
theorem s2_X6_succeeds {me q c u hi sl tx ka pa fa la : Nat} {lc : Lt} {B : Sta} {g t p z : Int32} {r : Nat × Nat} (hob : ObC h me q c u hi sl tx) (hB : RepC h c lc B) (hA : AuT h u ka pa fa la) (nuc : u ≠ c) (hok : okT B 50) (hn6 : sN B ≤ 6) (k1 : ∀ B', cmdA B 2 t p z = some B' → ∀ h' lc', RepC h' c lc' B' → AuT h' u ka pa fa la → Fr (fun x => x = c ∨ x = u) h h' → Q (.inl (some (.int 1))) h') (k0 : cmdA B 2 t p z = none → Q (.inl (some (.int 0))) h) : WPx E mX6_succeeds 76 [some (.ref me), some (.int g), some (.int 2), some (.int t), some (.int p), some (.int z)] [] r h Q := by
  refine wp_aload_n (M := mX6_succeeds) (pc := 76) dX6_succeeds_76 rfl ?_
  refine wp_getR (M := mX6_succeeds) (pc := 77) fa_X6_16 rfl dX6_succeeds_77 (by first | exact hob.1.1 | exact hB.1.1.1 | exact hB.1.2.1.2.1 | exact (hB.1.2.2.2.1 i (by omega)).2.1.1 | fail "kd") (by first | exact hob.2.2.1 | exact hob.2.2.2.1 | exact hB.1.2.1.1 | exact (hB.1.2.2.2.1 i (by omega)).1 | fail "rx") ?_
  refine wp_iload_n (M := mX6_succeeds) (pc := 80) dX6_succeeds_80 rfl ?_
  refine wp_iconst (M := mX6_succeeds) (pc := 81) (v := 1) dX6_succeeds_81 ci_1 ?_
  refine wp_isub (M := mX6_succeeds) (pc := 82) dX6_succeeds_82 ?_
  refine wp_iload_n (M := mX6_succeeds) (pc := 83) dX6_succeeds_83 rfl ?_
  refine wp_iload (M := mX6_succeeds) (pc := 84) dX6_succeeds_84 rfl ?_
  refine wp_iload (M := mX6_succeeds) (pc := 86) dX6_succeeds_86 rfl ?_
  refine so_V4 (M := mX6_succeeds) (pc := 88) cs_X6_succeeds_295 rfl rfl (LE rfl) (LE rfl) dX6_succeeds_88 (by first | exact hob.1.1 | exact hB.1.1.1 | exact hB.1.2.1.2.1 | exact (hB.1.2.2.2.1 i (by omega)).2.1.1 | fail "kd") ?_
  refine sp_X4_tryPlace (kd := 1) hB (by decide) (fun j hj et hp hz hc h1 R1 F1 => ?_) (fun hn => ?_)
  · refine kI ?_
    refine wp_zreturn (M := mX6_succeeds) (pc := 91) rfl (by decide) dX6_succeeds_91 ?_
    refine k1 (placeA B 1 j p z) ?_ h1 lc R1 (hA.fr F1 nuc) (F1.mono (fun y e => Or.inl e))
    rw [cm_2, plO, cif_t ⟨j, hj, et, hp, hz, hc⟩, et, mis_n (by omega)]
  · refine kI ?_
    refine wp_zreturn (M := mX6_succeeds) (pc := 91) rfl (by decide) dX6_succeeds_91 ?_
    refine k0 ?_
    rw [cm_2, plO, cif_f hn]
set_option maxHeartbeats 4000000 in
set_option maxRecDepth 100000 in
theorem s3_X6_succeeds {me q c u hi sl tx ka pa fa la : Nat} {lc : Lt} {B : Sta} {g t p z : Int32} {r : Nat × Nat} (hob : ObC h me q c u hi sl tx) (hB : RepC h c lc B) (hA : AuT h u ka pa fa la) (nuc : u ≠ c) (hok : okT B 50) (hn6 : sN B ≤ 6) (k1 : ∀ B', cmdA B 3 t p z = some B' → ∀ h' lc', RepC h' c lc' B' → AuT h' u ka pa fa la → Fr (fun x => x = c ∨ x = u) h h' → Q (.inl (some (.int 1))) h') (k0 : cmdA B 3 t p z = none → Q (.inl (some (.int 0))) h) : WPx E mX6_succeeds 76 [some (.ref me), some (.int g), some (.int 3), some (.int t), some (.int p), some (.int z)] [] r h Q := by
  refine wp_aload_n (M := mX6_succeeds) (pc := 76) dX6_succeeds_76 rfl ?_
  refine wp_getR (M := mX6_succeeds) (pc := 77) fa_X6_16 rfl dX6_succeeds_77 (by first | exact hob.1.1 | exact hB.1.1.1 | exact hB.1.2.1.2.1 | exact (hB.1.2.2.2.1 i (by omega)).2.1.1 | fail "kd") (by first | exact hob.2.2.1 | exact hob.2.2.2.1 | exact hB.1.2.1.1 | exact (hB.1.2.2.2.1 i (by omega)).1 | fail "rx") ?_
  refine wp_iload_n (M := mX6_succeeds) (pc := 80) dX6_succeeds_80 rfl ?_
  refine wp_iconst (M := mX6_succeeds) (pc := 81) (v := 1) dX6_succeeds_81 ci_1 ?_
  refine wp_isub (M := mX6_succeeds) (pc := 82) dX6_succeeds_82 ?_
  refine wp_iload_n (M := mX6_succeeds) (pc := 83) dX6_succeeds_83 rfl ?_
  refine wp_iload (M := mX6_succeeds) (pc := 84) dX6_succeeds_84 rfl ?_
  refine wp_iload (M := mX6_succeeds) (pc := 86) dX6_succeeds_86 rfl ?_
  refine so_V4 (M := mX6_succeeds) (pc := 88) cs_X6_succeeds_295 rfl rfl (LE rfl) (LE rfl) dX6_succeeds_88 (by first | exact hob.1.1 | exact hB.1.1.1 | exact hB.1.2.1.2.1 | exact (hB.1.2.2.2.1 i (by omega)).2.1.1 | fail "kd") ?_
  refine sp_X4_tryPlace (kd := 2) hB (by decide) (fun j hj et hp hz hc h1 R1 F1 => ?_) (fun hn => ?_)
  · refine kI ?_
    refine wp_zreturn (M := mX6_succeeds) (pc := 91) rfl (by decide) dX6_succeeds_91 ?_
    refine k1 (placeA B 2 j p z) ?_ h1 lc R1 (hA.fr F1 nuc) (F1.mono (fun y e => Or.inl e))
    rw [cm_3, plO, cif_t ⟨j, hj, et, hp, hz, hc⟩, et, mis_n (by omega)]
  · refine kI ?_
    refine wp_zreturn (M := mX6_succeeds) (pc := 91) rfl (by decide) dX6_succeeds_91 ?_
    refine k0 ?_
    rw [cm_3, plO, cif_f hn]
set_option maxHeartbeats 4000000 in
set_option maxRecDepth 100000 in
theorem s4_X6_succeeds {me q c u hi sl tx ka pa fa la : Nat} {lc : Lt} {B : Sta} {g t p z : Int32} {r : Nat × Nat} (hob : ObC h me q c u hi sl tx) (hB : RepC h c lc B) (hA : AuT h u ka pa fa la) (nuc : u ≠ c) (hok : okT B 50) (hn6 : sN B ≤ 6) (k1 : ∀ B', cmdA B 4 t p z = some B' → ∀ h' lc', RepC h' c lc' B' → AuT h' u ka pa fa la → Fr (fun x => x = c ∨ x = u) h h' → Q (.inl (some (.int 1))) h') (k0 : cmdA B 4 t p z = none → Q (.inl (some (.int 0))) h) : WPx E mX6_succeeds 92 [some (.ref me), some (.int g), some (.int 4), some (.int t), some (.int p), some (.int z)] [] r h Q := by
  refine wp_iload_n (M := mX6_succeeds) (pc := 92) dX6_succeeds_92 rfl ?_
  refine wp_if_ne (M := mX6_succeeds) (pc := 93) (tgt := 112) dX6_succeeds_93 rfl (fun t93 => ?_) (fun f93 => ?_)
  · refine wp_iconst (M := mX6_succeeds) (pc := 112) (v := 0) dX6_succeeds_112 ci_0 ?_
    refine wp_zreturn (M := mX6_succeeds) (pc := 113) rfl (by decide) dX6_succeeds_113 ?_
    refine k0 ?_
    rw [cm_4, cif_f]
    intro e9
    first | exact t93 e9.1 | exact t98 e9.2.1 | exact b01_z f109 e9.2.2 | fail "leaf"
  · refine wp_iload (M := mX6_succeeds) (pc := 96) dX6_succeeds_96 rfl ?_
    refine wp_if_ne (M := mX6_succeeds) (pc := 98) (tgt := 112) dX6_succeeds_98 rfl (fun t98 => ?_) (fun f98 => ?_)
    · refine wp_iconst (M := mX6_succeeds) (pc := 112) (v := 0) dX6_succeeds_112 ci_0 ?_
      refine wp_zreturn (M := mX6_succeeds) (pc := 113) rfl (by decide) dX6_succeeds_113 ?_
      refine k0 ?_
      rw [cm_4, cif_f]
      intro e9
      first | exact t93 e9.1 | exact t98 e9.2.1 | exact b01_z f109 e9.2.2 | fail "leaf"
    · refine wp_iload (M := mX6_succeeds) (pc := 101) dX6_succeeds_101 rfl ?_
      refine wp_iconst (M := mX6_succeeds) (pc := 103) (v := 1) dX6_succeeds_103 ci_1 ?_
      refine wp_bipush (M := mX6_succeeds) (pc := 104) (v := 50) dX6_succeeds_104 cb_50 ?_
      refine so_S3 (M := mX6_succeeds) (pc := 106) cs_X6_succeeds_52 rfl rfl (LE rfl) (LE rfl) dX6_succeeds_106 ?_
      refine sp_X6_isWithin ?_
      refine kI ?_
      refine wp_if_ne (M := mX6_succeeds) (pc := 109) (tgt := 114) dX6_succeeds_109 rfl (fun t109 => ?_) (fun f109 => ?_)
      · refine wp_aload_n (M := mX6_succeeds) (pc := 114) dX6_succeeds_114 rfl ?_
        refine wp_getR (M := mX6_succeeds) (pc := 115) fa_X6_16 rfl dX6_succeeds_115 (by first | exact hob.1.1 | exact hB.1.1.1 | exact hB.1.2.1.2.1 | exact (hB.1.2.2.2.1 i (by omega)).2.1.1 | fail "kd") (by first | exact hob.2.2.1 | exact hob.2.2.2.1 | exact hB.1.2.1.1 | exact (hB.1.2.2.2.1 i (by omega)).1 | fail "rx") ?_
        refine wp_iload (M := mX6_succeeds) (pc := 118) dX6_succeeds_118 rfl ?_
        refine wp_aload_n (M := mX6_succeeds) (pc := 120) dX6_succeeds_120 rfl ?_
        refine wp_getR (M := mX6_succeeds) (pc := 121) fa_X6_22 rfl dX6_succeeds_121 (by first | exact hob.1.1 | exact hB.1.1.1 | exact hB.1.2.1.2.1 | exact (hB.1.2.2.2.1 i (by omega)).2.1.1 | fail "kd") (by first | exact hob.2.2.1 | exact hob.2.2.2.1 | exact hB.1.2.1.1 | exact (hB.1.2.2.2.1 i (by omega)).1 | fail "rx") ?_
        refine so_V2 (M := mX6_succeeds) (pc := 124) cs_X6_succeeds_166 rfl rfl (LE rfl) (LE rfl) dX6_succeeds_124 (by first | exact hob.1.1 | exact hB.1.1.1 | exact hB.1.2.1.2.1 | exact (hB.1.2.2.2.1 i (by omega)).2.1.1 | fail "kd") ?_
        obtain ⟨n, hn1, hn2, hn3⟩ := wth_1 (b := 50) (by decide) (b01_n t109)
        subst hn3
        refine sp_X4_advance hB hA nuc hok.1 (by omega) (by have := hok.2.1; omega) hok.2.2.1 (fun j hj => hok.2.2.2 j (by omega)) (fun h2 l2 e2 R2 A2 F2 => ?_)
        refine kI ?_
        refine wp_pop (M := mX6_succeeds) (pc := 127) dX6_succeeds_127 rfl ?_
        refine wp_iconst (M := mX6_succeeds) (pc := 128) (v := 1) dX6_succeeds_128 ci_1 ?_
        refine wp_zreturn (M := mX6_succeeds) (pc := 129) rfl (by decide) dX6_succeeds_129 ?_
        refine k1 (tks n B).1 ?_ h2 l2 R2 A2 F2
        rw [cm_4, cif_t ⟨f93, f98, b01_n t109⟩, mis_n (by omega)]
      · refine wp_iconst (M := mX6_succeeds) (pc := 112) (v := 0) dX6_succeeds_112 ci_0 ?_
        refine wp_zreturn (M := mX6_succeeds) (pc := 113) rfl (by decide) dX6_succeeds_113 ?_
        refine k0 ?_
        rw [cm_4, cif_f]
        intro e9
        first | exact t93 e9.1 | exact t98 e9.2.1 | exact b01_z f109 e9.2.2 | fail "leaf"
set_option maxHeartbeats 4000000 in
set_option maxRecDepth 100000 in
theorem s5_X6_succeeds {me q c u hi sl tx ka pa fa la : Nat} {lc : Lt} {B : Sta} {g t p z : Int32} {r : Nat × Nat} (hob : ObC h me q c u hi sl tx) (hB : RepC h c lc B) (hA : AuT h u ka pa fa la) (nuc : u ≠ c) (hok : okT B 50) (hn6 : sN B ≤ 6) (k1 : ∀ B', cmdA B 5 t p z = some B' → ∀ h' lc', RepC h' c lc' B' → AuT h' u ka pa fa la → Fr (fun x => x = c ∨ x = u) h h' → Q (.inl (some (.int 1))) h') (k0 : cmdA B 5 t p z = none → Q (.inl (some (.int 0))) h) : WPx E mX6_succeeds 130 [some (.ref me), some (.int g), some (.int 5), some (.int t), some (.int p), some (.int z)] [] r h Q := by
  refine wp_iload (M := mX6_succeeds) (pc := 130) dX6_succeeds_130 rfl ?_
  refine wp_if_ne (M := mX6_succeeds) (pc := 132) (tgt := 152) dX6_succeeds_132 rfl (fun t132 => ?_) (fun f132 => ?_)
  · refine wp_iconst (M := mX6_succeeds) (pc := 152) (v := 0) dX6_succeeds_152 ci_0 ?_
    refine wp_zreturn (M := mX6_succeeds) (pc := 153) rfl (by decide) dX6_succeeds_153 ?_
    refine k0 ?_
    rw [cm_5, cif_f t132]
  · refine wp_aload_n (M := mX6_succeeds) (pc := 135) dX6_succeeds_135 rfl ?_
    refine wp_getR (M := mX6_succeeds) (pc := 136) fa_X6_16 rfl dX6_succeeds_136 (by first | exact hob.1.1 | exact hB.1.1.1 | exact hB.1.2.1.2.1 | exact (hB.1.2.2.2.1 i (by omega)).2.1.1 | fail "kd") (by first | exact hob.2.2.1 | exact hob.2.2.2.1 | exact hB.1.2.1.1 | exact (hB.1.2.2.2.1 i (by omega)).1 | fail "rx") ?_
    refine wp_iload_n (M := mX6_succeeds) (pc := 139) dX6_succeeds_139 rfl ?_
    refine wp_iload (M := mX6_succeeds) (pc := 140) dX6_succeeds_140 rfl ?_
    refine so_V2 (M := mX6_succeeds) (pc := 142) cs_X6_succeeds_298 rfl rfl (LE rfl) (LE rfl) dX6_succeeds_142 (by first | exact hob.1.1 | exact hB.1.1.1 | exact hB.1.2.1.2.1 | exact (hB.1.2.2.2.1 i (by omega)).2.1.1 | fail "kd") ?_
    refine sp_X4_tryQueue hB (fun j hj et hz h8 h1 R1 F1 => ?_) (fun hn => ?_)
    · refine kI ?_
      refine wp_if_eq (M := mX6_succeeds) (pc := 145) (tgt := 152) dX6_succeeds_145 rfl (fun e => absurd e (by decide)) (fun _ => ?_)
      refine wp_iconst (M := mX6_succeeds) (pc := 148) (v := 1) dX6_succeeds_148 ci_1 ?_
      refine wp_goto (M := mX6_succeeds) (pc := 149) (tgt := 153) dX6_succeeds_149 rfl ?_
      refine wp_zreturn (M := mX6_succeeds) (pc := 153) rfl (by decide) dX6_succeeds_153 ?_
      refine k1 (pushA B j z) ?_ h1 lc R1 (hA.fr F1 nuc) (F1.mono (fun y e => Or.inl e))
      rw [cm_5, cif_t f132, quO, cif_t ⟨j, hj, et, hz, h8⟩, et, mis_n (by omega)]
    · refine kI ?_
      refine wp_if_eq (M := mX6_succeeds) (pc := 145) (tgt := 152) dX6_succeeds_145 rfl (fun _ => ?_) (fun e => absurd rfl e)
      refine wp_iconst (M := mX6_succeeds) (pc := 152) (v := 0) dX6_succeeds_152 ci_0 ?_
      refine wp_zreturn (M := mX6_succeeds) (pc := 153) rfl (by decide) dX6_succeeds_153 ?_
      refine k0 ?_
      rw [cm_5, cif_t f132, quO, cif_f hn]
set_option maxHeartbeats 4000000 in
set_option maxRecDepth 100000 in
theorem s6_X6_succeeds {me q c u hi sl tx ka pa fa la : Nat} {lc : Lt} {B : Sta} {g t p z : Int32} {r : Nat × Nat} (hob : ObC h me q c u hi sl tx) (hB : RepC h c lc B) (hA : AuT h u ka pa fa la) (nuc : u ≠ c) (hok : okT B 50) (hn6 : sN B ≤ 6) (k1 : ∀ B', cmdA B 6 t p z = some B' → ∀ h' lc', RepC h' c lc' B' → AuT h' u ka pa fa la → Fr (fun x => x = c ∨ x = u) h h' → Q (.inl (some (.int 1))) h') (k0 : cmdA B 6 t p z = none → Q (.inl (some (.int 0))) h) : WPx E mX6_succeeds 154 [some (.ref me), some (.int g), some (.int 6), some (.int t), some (.int p), some (.int z)] [] r h Q := by
  refine wp_aload_n (M := mX6_succeeds) (pc := 154) dX6_succeeds_154 rfl ?_
  refine wp_getR (M := mX6_succeeds) (pc := 155) fa_X6_16 rfl dX6_succeeds_155 (by first | exact hob.1.1 | exact hB.1.1.1 | exact hB.1.2.1.2.1 | exact (hB.1.2.2.2.1 i (by omega)).2.1.1 | fail "kd") (by first | exact hob.2.2.1 | exact hob.2.2.2.1 | exact hB.1.2.1.1 | exact (hB.1.2.2.2.1 i (by omega)).1 | fail "rx") ?_
  refine wp_iload_n (M := mX6_succeeds) (pc := 158) dX6_succeeds_158 rfl ?_
  refine so_V1 (M := mX6_succeeds) (pc := 159) cs_X6_succeeds_93 rfl rfl (LE rfl) (LE rfl) dX6_succeeds_159 (by first | exact hob.1.1 | exact hB.1.1.1 | exact hB.1.2.1.2.1 | exact (hB.1.2.2.2.1 i (by omega)).2.1.1 | fail "kd") ?_
  refine sb_hasTenant hB ?_
  refine kI ?_
  refine wp_if_eq (M := mX6_succeeds) (pc := 162) (tgt := 192) dX6_succeeds_162 rfl (fun t162 => ?_) (fun f162 => ?_)
  · refine wp_iconst (M := mX6_succeeds) (pc := 192) (v := 0) dX6_succeeds_192 ci_0 ?_
    refine wp_zreturn (M := mX6_succeeds) (pc := 193) rfl (by decide) dX6_succeeds_193 ?_
    refine k0 ?_
    rw [cm_6, cif_f (fun e => b01_z t162 ⟨e.choose, e.choose_spec.1, e.choose_spec.2.1⟩)]
  · obtain ⟨i, hi9, rfl⟩ := b01_n f162
    refine wp_aload_n (M := mX6_succeeds) (pc := 165) dX6_succeeds_165 rfl ?_
    refine wp_getR (M := mX6_succeeds) (pc := 166) fa_X6_16 rfl dX6_succeeds_166 (by first | exact hob.1.1 | exact hB.1.1.1 | exact hB.1.2.1.2.1 | exact (hB.1.2.2.2.1 i (by omega)).2.1.1 | fail "kd") (by first | exact hob.2.2.1 | exact hob.2.2.2.1 | exact hB.1.2.1.1 | exact (hB.1.2.2.2.1 i (by omega)).1 | fail "rx") ?_
    refine wp_getR (M := mX6_succeeds) (pc := 169) fa_X6_107 rfl dX6_succeeds_169 (by first | exact hob.1.1 | exact hB.1.1.1 | exact hB.1.2.1.2.1 | exact (hB.1.2.2.2.1 i (by omega)).2.1.1 | fail "kd") (by first | exact hob.2.2.1 | exact hob.2.2.2.1 | exact hB.1.2.1.1 | exact (hB.1.2.2.2.1 i (by omega)).1 | fail "rx") ?_
    refine wp_iload_n (M := mX6_succeeds) (pc := 172) dX6_succeeds_172 rfl ?_
    refine wr_aaload (M := mX6_succeeds) (pc := 173) dX6_succeeds_173 (by first | exact hob.1.1 | exact hB.1.1.1 | exact hB.1.2.1.2.1 | exact (hB.1.2.2.2.1 i (by omega)).2.1.1 | fail "kd") (by decide) rfl (by omega) (by decide) (by first | exact hob.2.2.1 | exact hob.2.2.2.1 | exact hB.1.2.1.1 | exact (hB.1.2.2.2.1 i (by omega)).1 | fail "rx") ?_
    refine wp_getI (M := mX6_succeeds) (pc := 174) fa_X6_162 rfl dX6_succeeds_174 (by first | exact hob.1.1 | exact hB.1.1.1 | exact hB.1.2.1.2.1 | exact (hB.1.2.2.2.1 i (by omega)).2.1.1 | fail "kd") ?_
    refine wp_bipush (M := mX6_succeeds) (pc := 177) (v := 100) dX6_succeeds_177 cb_100 ?_
    refine wp_iload (M := mX6_succeeds) (pc := 179) dX6_succeeds_179 rfl ?_
    refine wp_imul (M := mX6_succeeds) (pc := 181) dX6_succeeds_181 ?_
    refine wp_iload (M := mX6_succeeds) (pc := 182) dX6_succeeds_182 rfl ?_
    refine wp_iadd (M := mX6_succeeds) (pc := 184) dX6_succeeds_184 ?_
    refine wp_icmp_lt (M := mX6_succeeds) (pc := 185) (tgt := 192) dX6_succeeds_185 rfl (fun t185 => ?_) (fun f185 => ?_)
    · rw [(hB.2.2.1 i hi9).1 4 (by decide)] at t185
      have hno : ¬ ∃ i2, i2 < sN B ∧ nI i = nI i2 ∧ 100 * p + z ≤ fT B i2 4 := fun ⟨i2, h1, h2, h3⟩ => by
        rw [← (i_eq (by omega) (by omega)).mp h2] at h3
        exact Int32.not_le.mpr t185 h3
      refine wp_iconst (M := mX6_succeeds) (pc := 192) (v := 0) dX6_succeeds_192 ci_0 ?_
      refine wp_zreturn (M := mX6_succeeds) (pc := 193) rfl (by decide) dX6_succeeds_193 ?_
      first
      | (refine k0 ?_
         rw [cm_6, cif_f hno])
      | (refine k1 B ?_ h lc hB hA Fr.rf
         rw [cm_6, cif_t ⟨i, hi9, rfl, Int32.not_lt.mp f185⟩])
      | fail "leaf"
    · rw [(hB.2.2.1 i hi9).1 4 (by decide)] at f185
      refine wp_iconst (M := mX6_succeeds) (pc := 188) (v := 1) dX6_succeeds_188 ci_1 ?_
      refine wp_goto (M := mX6_succeeds) (pc := 189) (tgt := 193) dX6_succeeds_189 rfl ?_
      refine wp_zreturn (M := mX6_succeeds) (pc := 193) rfl (by decide) dX6_succeeds_193 ?_
      first
      | (refine k0 ?_
         rw [cm_6, cif_f hno])
      | (refine k1 B ?_ h lc hB hA Fr.rf
         rw [cm_6, cif_t ⟨i, hi9, rfl, Int32.not_lt.mp f185⟩])
      | fail "leaf"
set_option maxHeartbeats 4000000 in
set_option maxRecDepth 100000 in
theorem s7_X6_succeeds {me q c u hi sl tx ka pa fa la : Nat} {lc : Lt} {B : Sta} {g t p z : Int32} {r : Nat × Nat} (hob : ObC h me q c u hi sl tx) (hB : RepC h c lc B) (hA : AuT h u ka pa fa la) (nuc : u ≠ c) (hok : okT B 50) (hn6 : sN B ≤ 6) (k1 : ∀ B', cmdA B 7 t p z = some B' → ∀ h' lc', RepC h' c lc' B' → AuT h' u ka pa fa la → Fr (fun x => x = c ∨ x = u) h h' → Q (.inl (some (.int 1))) h') (k0 : cmdA B 7 t p z = none → Q (.inl (some (.int 0))) h) : WPx E mX6_succeeds 194 [some (.ref me), some (.int g), some (.int 7), some (.int t), some (.int p), some (.int z)] [] r h Q := by
  refine wp_aload_n (M := mX6_succeeds) (pc := 194) dX6_succeeds_194 rfl ?_
  refine wp_getR (M := mX6_succeeds) (pc := 195) fa_X6_16 rfl dX6_succeeds_195 (by first | exact hob.1.1 | exact hB.1.1.1 | exact hB.1.2.1.2.1 | exact (hB.1.2.2.2.1 i (by omega)).2.1.1 | fail "kd") (by first | exact hob.2.2.1 | exact hob.2.2.2.1 | exact hB.1.2.1.1 | exact (hB.1.2.2.2.1 i (by omega)).1 | fail "rx") ?_
  refine wp_iload_n (M := mX6_succeeds) (pc := 198) dX6_succeeds_198 rfl ?_
  refine so_V1 (M := mX6_succeeds) (pc := 199) cs_X6_succeeds_93 rfl rfl (LE rfl) (LE rfl) dX6_succeeds_199 (by first | exact hob.1.1 | exact hB.1.1.1 | exact hB.1.2.1.2.1 | exact (hB.1.2.2.2.1 i (by omega)).2.1.1 | fail "kd") ?_
  refine sb_hasTenant hB ?_
  refine kI ?_
  refine wp_if_eq (M := mX6_succeeds) (pc := 202) (tgt := 232) dX6_succeeds_202 rfl (fun t202 => ?_) (fun f202 => ?_)
  · refine wp_iconst (M := mX6_succeeds) (pc := 232) (v := 0) dX6_succeeds_232 ci_0 ?_
    refine wp_zreturn (M := mX6_succeeds) (pc := 233) rfl (by decide) dX6_succeeds_233 ?_
    refine k0 ?_
    rw [cm_7, cif_f (fun e => b01_z t202 ⟨e.choose, e.choose_spec.1, e.choose_spec.2.1⟩)]
  · obtain ⟨i, hi9, rfl⟩ := b01_n f202
    refine wp_aload_n (M := mX6_succeeds) (pc := 205) dX6_succeeds_205 rfl ?_
    refine wp_getR (M := mX6_succeeds) (pc := 206) fa_X6_16 rfl dX6_succeeds_206 (by first | exact hob.1.1 | exact hB.1.1.1 | exact hB.1.2.1.2.1 | exact (hB.1.2.2.2.1 i (by omega)).2.1.1 | fail "kd") (by first | exact hob.2.2.1 | exact hob.2.2.2.1 | exact hB.1.2.1.1 | exact (hB.1.2.2.2.1 i (by omega)).1 | fail "rx") ?_
    refine wp_getR (M := mX6_succeeds) (pc := 209) fa_X6_107 rfl dX6_succeeds_209 (by first | exact hob.1.1 | exact hB.1.1.1 | exact hB.1.2.1.2.1 | exact (hB.1.2.2.2.1 i (by omega)).2.1.1 | fail "kd") (by first | exact hob.2.2.1 | exact hob.2.2.2.1 | exact hB.1.2.1.1 | exact (hB.1.2.2.2.1 i (by omega)).1 | fail "rx") ?_
    refine wp_iload_n (M := mX6_succeeds) (pc := 212) dX6_succeeds_212 rfl ?_
    refine wr_aaload (M := mX6_succeeds) (pc := 213) dX6_succeeds_213 (by first | exact hob.1.1 | exact hB.1.1.1 | exact hB.1.2.1.2.1 | exact (hB.1.2.2.2.1 i (by omega)).2.1.1 | fail "kd") (by decide) rfl (by omega) (by decide) (by first | exact hob.2.2.1 | exact hob.2.2.2.1 | exact hB.1.2.1.1 | exact (hB.1.2.2.2.1 i (by omega)).1 | fail "rx") ?_
    refine so_V0 (M := mX6_succeeds) (pc := 214) cs_X6_succeeds_302 rfl rfl (LE rfl) (LE rfl) dX6_succeeds_214 (by first | exact hob.1.1 | exact hB.1.1.1 | exact hB.1.2.1.2.1 | exact (hB.1.2.2.2.1 i (by omega)).2.1.1 | fail "kd") ?_
    refine sp_X5_credits (hB.1.2.2.2.1 i (by omega)).2.1.1 ?_
    refine kI ?_
    refine wp_bipush (M := mX6_succeeds) (pc := 217) (v := 100) dX6_succeeds_217 cb_100 ?_
    refine wp_iload (M := mX6_succeeds) (pc := 219) dX6_succeeds_219 rfl ?_
    refine wp_imul (M := mX6_succeeds) (pc := 221) dX6_succeeds_221 ?_
    refine wp_iload (M := mX6_succeeds) (pc := 222) dX6_succeeds_222 rfl ?_
    refine wp_iadd (M := mX6_succeeds) (pc := 224) dX6_succeeds_224 ?_
    refine wp_icmp_lt (M := mX6_succeeds) (pc := 225) (tgt := 232) dX6_succeeds_225 rfl (fun t225 => ?_) (fun f225 => ?_)
    · rw [(hB.2.2.1 i hi9).1 2 (by decide), (hB.2.2.1 i hi9).1 3 (by decide)] at t225
      have hno : ¬ ∃ i2, i2 < sN B ∧ nI i = nI i2 ∧ 100 * p + z ≤ fT B i2 2 + fT B i2 3 := fun ⟨i2, h1, h2, h3⟩ => by
        rw [← (i_eq (by omega) (by omega)).mp h2] at h3
        exact Int32.not_le.mpr t225 h3
      refine wp_iconst (M := mX6_succeeds) (pc := 232) (v := 0) dX6_succeeds_232 ci_0 ?_
      refine wp_zreturn (M := mX6_succeeds) (pc := 233) rfl (by decide) dX6_succeeds_233 ?_
      first
      | (refine k0 ?_
         rw [cm_7, cif_f hno])
      | (refine k1 B ?_ h lc hB hA Fr.rf
         rw [cm_7, cif_t ⟨i, hi9, rfl, Int32.not_lt.mp f225⟩])
      | fail "leaf"
    · rw [(hB.2.2.1 i hi9).1 2 (by decide), (hB.2.2.1 i hi9).1 3 (by decide)] at f225
      refine wp_iconst (M := mX6_succeeds) (pc := 228) (v := 1) dX6_succeeds_228 ci_1 ?_
      refine wp_goto (M := mX6_succeeds) (pc := 229) (tgt := 233) dX6_succeeds_229 rfl ?_
      refine wp_zreturn (M := mX6_succeeds) (pc := 233) rfl (by decide) dX6_succeeds_233 ?_
      first
      | (refine k0 ?_
         rw [cm_7, cif_f hno])
      | (refine k1 B ?_ h lc hB hA Fr.rf
         rw [cm_7, cif_t ⟨i, hi9, rfl, Int32.not_lt.mp f225⟩])
      | fail "leaf"
set_option maxHeartbeats 4000000 in
set_option maxRecDepth 100000 in
theorem s8_X6_succeeds {me q c u hi sl tx ka pa fa la : Nat} {lc : Lt} {B : Sta} {g t p z : Int32} {r : Nat × Nat} (hob : ObC h me q c u hi sl tx) (hB : RepC h c lc B) (hA : AuT h u ka pa fa la) (nuc : u ≠ c) (hok : okT B 50) (hn6 : sN B ≤ 6) (k1 : ∀ B', cmdA B 8 t p z = some B' → ∀ h' lc', RepC h' c lc' B' → AuT h' u ka pa fa la → Fr (fun x => x = c ∨ x = u) h h' → Q (.inl (some (.int 1))) h') (k0 : cmdA B 8 t p z = none → Q (.inl (some (.int 0))) h) : WPx E mX6_succeeds 234 [some (.ref me), some (.int g), some (.int 8), some (.int t), some (.int p), some (.int z)] [] r h Q := by
  refine wp_iload_n (M := mX6_succeeds) (pc := 234) dX6_succeeds_234 rfl ?_
  refine wp_if_ne (M := mX6_succeeds) (pc := 235) (tgt := 259) dX6_succeeds_235 rfl (fun t235 => ?_) (fun f235 => ?_)
  · refine wp_iconst (M := mX6_succeeds) (pc := 259) (v := 0) dX6_succeeds_259 ci_0 ?_
    refine wp_zreturn (M := mX6_succeeds) (pc := 260) rfl (by decide) dX6_succeeds_260 ?_
    first
    | (refine k0 ?_
       rw [cm_8, cif_f (fun e => t235 e.1)])
    | (refine k0 ?_
       rw [cm_8, cif_f (fun e => t240 e.2.1)])
    | (refine k0 ?_
       rw [cm_8, cif_f (fun e => t252 e.2.2)])
    | (refine k1 B ?_ h lc hB hA Fr.rf
       rw [cm_8, cif_t ⟨f235, f240, f252⟩])
    | fail "leaf"
  · refine wp_iload (M := mX6_succeeds) (pc := 238) dX6_succeeds_238 rfl ?_
    refine wp_if_ne (M := mX6_succeeds) (pc := 240) (tgt := 259) dX6_succeeds_240 rfl (fun t240 => ?_) (fun f240 => ?_)
    · refine wp_iconst (M := mX6_succeeds) (pc := 259) (v := 0) dX6_succeeds_259 ci_0 ?_
      refine wp_zreturn (M := mX6_succeeds) (pc := 260) rfl (by decide) dX6_succeeds_260 ?_
      first
      | (refine k0 ?_
         rw [cm_8, cif_f (fun e => t235 e.1)])
      | (refine k0 ?_
         rw [cm_8, cif_f (fun e => t240 e.2.1)])
      | (refine k0 ?_
         rw [cm_8, cif_f (fun e => t252 e.2.2)])
      | (refine k1 B ?_ h lc hB hA Fr.rf
         rw [cm_8, cif_t ⟨f235, f240, f252⟩])
      | fail "leaf"
    · refine wp_aload_n (M := mX6_succeeds) (pc := 243) dX6_succeeds_243 rfl ?_
      refine wp_getR (M := mX6_succeeds) (pc := 244) fa_X6_16 rfl dX6_succeeds_244 (by first | exact hob.1.1 | exact hB.1.1.1 | exact hB.1.2.1.2.1 | exact (hB.1.2.2.2.1 i (by omega)).2.1.1 | fail "kd") (by first | exact hob.2.2.1 | exact hob.2.2.2.1 | exact hB.1.2.1.1 | exact (hB.1.2.2.2.1 i (by omega)).1 | fail "rx") ?_
      refine wp_getI (M := mX6_succeeds) (pc := 247) fa_X6_305 rfl dX6_succeeds_247 (by first | exact hob.1.1 | exact hB.1.1.1 | exact hB.1.2.1.2.1 | exact (hB.1.2.2.2.1 i (by omega)).2.1.1 | fail "kd") ?_
      refine wp_iload (M := mX6_succeeds) (pc := 250) dX6_succeeds_250 rfl ?_
      refine wp_icmp_ne (M := mX6_succeeds) (pc := 252) (tgt := 259) dX6_succeeds_252 rfl (fun t252 => ?_) (fun f252 => ?_)
      · rw [hB.2.1.2.2.2.2.2.2.2.2.1] at t252
        refine wp_iconst (M := mX6_succeeds) (pc := 259) (v := 0) dX6_succeeds_259 ci_0 ?_
        refine wp_zreturn (M := mX6_succeeds) (pc := 260) rfl (by decide) dX6_succeeds_260 ?_
        first
        | (refine k0 ?_
           rw [cm_8, cif_f (fun e => t235 e.1)])
        | (refine k0 ?_
           rw [cm_8, cif_f (fun e => t240 e.2.1)])
        | (refine k0 ?_
           rw [cm_8, cif_f (fun e => t252 e.2.2)])
        | (refine k1 B ?_ h lc hB hA Fr.rf
           rw [cm_8, cif_t ⟨f235, f240, f252⟩])
        | fail "leaf"
      · rw [hB.2.1.2.2.2.2.2.2.2.2.1] at f252
        refine wp_iconst (M := mX6_succeeds) (pc := 255) (v := 1) dX6_succeeds_255 ci_1 ?_
        refine wp_goto (M := mX6_succeeds) (pc := 256) (tgt := 260) dX6_succeeds_256 rfl ?_
        refine wp_zreturn (M := mX6_succeeds) (pc := 260) rfl (by decide) dX6_succeeds_260 ?_
        first
        | (refine k0 ?_
           rw [cm_8, cif_f (fun e => t235 e.1)])
        | (refine k0 ?_
           rw [cm_8, cif_f (fun e => t240 e.2.1)])
        | (refine k0 ?_
           rw [cm_8, cif_f (fun e => t252 e.2.2)])
        | (refine k1 B ?_ h lc hB hA Fr.rf
           rw [cm_8, cif_t ⟨f235, f240, f252⟩])
        | fail "leaf"
set_option maxHeartbeats 4000000 in
set_option maxRecDepth 100000 in
theorem sp_X6_succeeds {me q c u hi sl tx ka pa fa la : Nat} {lc : Lt} {B : Sta} {g : Int32} (hob : ObC h me q c u hi sl tx) (hB : RepC h c lc B) (hA : AuT h u ka pa fa la) (nuc : u ≠ c) (hok : okT B 50) (hn6 : sN B ≤ 6) (k1 : ∀ B', grpA B g = some B' → ∀ h' lc', RepC h' c lc' B' → AuT h' u ka pa fa la → Fr (fun x => x = c ∨ x = u) h h' → Q (.inl (some (.int 1))) h') (k0 : grpA B g = none → Q (.inl (some (.int 0))) h) : WPx E mX6_succeeds 0 [some (.ref me), some (.int g), none, none, none, none] [] (0, 0) h Q := by
  refine wp_iload_n (M := mX6_succeeds) (pc := 0) dX6_succeeds_0 rfl ?_
  refine wp_ldc_w (M := mX6_succeeds) (pc := 1) wv_X6_294 dX6_succeeds_1 ?_
  refine wp_idiv (M := mX6_succeeds) (pc := 4) dX6_succeeds_4 (by decide) ?_
  refine so_istore_n (M := mX6_succeeds) (pc := 5) (lo' := [_, _, _, _, _, _]) dX6_succeeds_5 (LE rfl) (LE rfl) (Or.inr rfl) rfl ?_
  refine wp_iload_n (M := mX6_succeeds) (pc := 6) dX6_succeeds_6 rfl ?_
  refine wp_sipush (M := mX6_succeeds) (pc := 7) (v := 10000) dX6_succeeds_7 ch_10000 ?_
  refine wp_idiv (M := mX6_succeeds) (pc := 10) dX6_succeeds_10 (by decide) ?_
  refine wp_bipush (M := mX6_succeeds) (pc := 11) (v := 10) dX6_succeeds_11 cb_10 ?_
  refine wp_irem (M := mX6_succeeds) (pc := 13) dX6_succeeds_13 (by decide) ?_
  refine so_istore_n (M := mX6_succeeds) (pc := 14) (lo' := [_, _, _, _, _, _]) dX6_succeeds_14 (LE rfl) (LE rfl) (Or.inr rfl) rfl ?_
  refine wp_iload_n (M := mX6_succeeds) (pc := 15) dX6_succeeds_15 rfl ?_
  refine wp_bipush (M := mX6_succeeds) (pc := 16) (v := 100) dX6_succeeds_16 cb_100 ?_
  refine wp_idiv (M := mX6_succeeds) (pc := 18) dX6_succeeds_18 (by decide) ?_
  refine wp_bipush (M := mX6_succeeds) (pc := 19) (v := 100) dX6_succeeds_19 cb_100 ?_
  refine wp_irem (M := mX6_succeeds) (pc := 21) dX6_succeeds_21 (by decide) ?_
  refine so_istore (M := mX6_succeeds) (pc := 22) (lo' := [_, _, _, _, _, _]) dX6_succeeds_22 (LE rfl) (LE rfl) (Or.inr rfl) rfl ?_
  refine wp_iload_n (M := mX6_succeeds) (pc := 24) dX6_succeeds_24 rfl ?_
  refine wp_bipush (M := mX6_succeeds) (pc := 25) (v := 100) dX6_succeeds_25 cb_100 ?_
  refine wp_irem (M := mX6_succeeds) (pc := 27) dX6_succeeds_27 (by decide) ?_
  refine so_istore (M := mX6_succeeds) (pc := 28) (lo' := [_, _, _, _, _, _]) dX6_succeeds_28 (LE rfl) (LE rfl) (Or.inr rfl) rfl ?_
  refine wp_iload_n (M := mX6_succeeds) (pc := 30) dX6_succeeds_30 rfl ?_
  unfold grpA rmI at k1 k0
  generalize g / 10000 - g / 10000 / 10 * 10 = t at k1 k0 ⊢
  generalize g / 100 - g / 100 / 100 * 100 = p at k1 k0 ⊢
  generalize g - g / 100 * 100 = z at k1 k0 ⊢
  generalize g / 100000 = cm at k1 k0 ⊢
  rcases sw18 cm with rfl | rfl | rfl | rfl | rfl | rfl | rfl | rfl | hx
  · refine wp_tableIn (M := mX6_succeeds) (pc := 31) (x := 1) (tgt := 76) dX6_succeeds_31 (by decide) (by decide) rfl rfl ?_
    exact s1_X6_succeeds hob hB hA nuc hok hn6 k1 k0
  · refine wp_tableIn (M := mX6_succeeds) (pc := 31) (x := 2) (tgt := 76) dX6_succeeds_31 (by decide) (by decide) rfl rfl ?_
    exact s2_X6_succeeds hob hB hA nuc hok hn6 k1 k0
  · refine wp_tableIn (M := mX6_succeeds) (pc := 31) (x := 3) (tgt := 76) dX6_succeeds_31 (by decide) (by decide) rfl rfl ?_
    exact s3_X6_succeeds hob hB hA nuc hok hn6 k1 k0
  · refine wp_tableIn (M := mX6_succeeds) (pc := 31) (x := 4) (tgt := 92) dX6_succeeds_31 (by decide) (by decide) rfl rfl ?_
    exact s4_X6_succeeds hob hB hA nuc hok hn6 k1 k0
  · refine wp_tableIn (M := mX6_succeeds) (pc := 31) (x := 5) (tgt := 130) dX6_succeeds_31 (by decide) (by decide) rfl rfl ?_
    exact s5_X6_succeeds hob hB hA nuc hok hn6 k1 k0
  · refine wp_tableIn (M := mX6_succeeds) (pc := 31) (x := 6) (tgt := 154) dX6_succeeds_31 (by decide) (by decide) rfl rfl ?_
    exact s6_X6_succeeds hob hB hA nuc hok hn6 k1 k0
  · refine wp_tableIn (M := mX6_succeeds) (pc := 31) (x := 7) (tgt := 194) dX6_succeeds_31 (by decide) (by decide) rfl rfl ?_
    exact s7_X6_succeeds hob hB hA nuc hok hn6 k1 k0
  · refine wp_tableIn (M := mX6_succeeds) (pc := 31) (x := 8) (tgt := 234) dX6_succeeds_31 (by decide) (by decide) rfl rfl ?_
    exact s8_X6_succeeds hob hB hA nuc hok hn6 k1 k0
  · refine wp_tableOut (M := mX6_succeeds) (pc := 31) (x := cm) (tgt := 261) dX6_succeeds_31 hx rfl ?_
    refine wp_iconst (M := mX6_succeeds) (pc := 261) (v := 0) dX6_succeeds_261 ci_0 ?_
    refine wp_zreturn (M := mX6_succeeds) (pc := 262) rfl (by decide) dX6_succeeds_262 ?_
    exact k0 (cm_9 hx)
end SP
