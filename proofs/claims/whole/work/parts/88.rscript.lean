section SP
variable {E : Ev} {h : PH} {Q : Rt → PH → Prop}
noncomputable def cmdR (B : Sta) (cm t p z : Int32) : Option Sta := cif (cm = 4) (cif (t = 0 ∧ p = 0 ∧ wth z 1 50) (some (tksR (mis z) B).1) none) (cmdA B cm t p z)
theorem cr_4 {B : Sta} {t p z : Int32} : cmdR B 4 t p z = cif (t = 0 ∧ p = 0 ∧ wth z 1 50) (some (tksR (mis z) B).1) none := cif_t rfl
theorem cr_n {B : Sta} {cm t p z : Int32} (h : ¬ cm = 4) : cmdR B cm t p z = cmdA B cm t p z := cif_f h
noncomputable def grpR (B : Sta) (g : Int32) : Option Sta := cmdR B (g / 100000) (rmI (g / 10000) 10) (rmI (g / 100) 100) (rmI g 100)
noncomputable def rsR (n : Nat) (s : Int64) : Nat → Nat → Sta → Int32
  | 0, _, _ => -9
  | f + 1, k, B => match grpR B (grpI n s k) with
    | none => nI k
    | some B' => rsR n s f (k + 1) B'
theorem rsR_n {n f k : Nat} {s : Int64} {B : Sta} (h : grpR B (grpI n s k) = none) : rsR n s (f + 1) k B = nI k := by rw [rsR, h]
theorem rsR_y {n f k : Nat} {s : Int64} {B B' : Sta} (h : grpR B (grpI n s k) = some B') : rsR n s (f + 1) k B = rsR n s f (k + 1) B' := by rw [rsR, h]
noncomputable def smR (B : Sta) (x : Int64) : Nat → Sta × Int64 × Int32
  | 0 => (B, x, 0)
  | k + 1 => ((tksR 1 (raA (smR B x k).1 (rnI (rnX (smR B x k).2.1)))).1, rnX (smR B x k).2.1, (smR B x k).2.2 + (tksR 1 (raA (smR B x k).1 (rnI (rnX (smR B x k).2.1)))).2)
/-- what n ticks need in the reference -/
def okV (A : Sta) (n : Nat) : Prop := 0 < sN A ∧ sTi A + n + 100 < 2 ^ 30 ∧ ∀ j, j < n → okU (tksR j A).1
set_option maxHeartbeats 4000000 in
set_option maxRecDepth 100000 in
theorem lp_X7_million {g : Nat} (hg : g < 2 ^ 31) (k : Q (.inl (some (.long (unitG g)))) h) : ∀ (m : Nat) (i : Nat), g - i < m → (i ≤ g) → WPx E mX7_million 4 [some (.int (nI g)), some (.long (unitG i)), none, some (.int (nI i))] [] (0, 0) h Q := by
  intro m
  induction m with
  | zero => intro i hm; exact absurd hm (Nat.not_lt_zero _)
  | succ m ih =>
    intro i hm hi
    refine wp_iload_n (M := mX7_million) (pc := 4) dX7_million_4 rfl ?_
    refine wp_iload_n (M := mX7_million) (pc := 5) dX7_million_5 rfl ?_
    refine wp_icmp_ge (M := mX7_million) (pc := 6) (tgt := 21) dX7_million_6 rfl (fun t6 => ?_) (fun f6 => ?_)
    · have hi2 := n_ge hi hg t6
      subst hi2
      refine wp_lload_n (M := mX7_million) (pc := 21) dX7_million_21 rfl ?_
      refine wp_lreturn (M := mX7_million) (pc := 22) rfl dX7_million_22 ?_
      exact k
    · have hlt := n_lt hi hg f6
      refine wp_lload_n (M := mX7_million) (pc := 9) dX7_million_9 rfl ?_
      refine wp_ldc2_w (M := mX7_million) (pc := 10) wv_X7_276 dX7_million_10 ?_
      refine wp_lmul (M := mX7_million) (pc := 13) dX7_million_13 ?_
      refine so_lstore_n (M := mX7_million) (pc := 14) (lo' := [_, _, _, _]) dX7_million_14 (LE rfl) (LE rfl) (Or.inr rfl) rfl ?_
      refine so_iinc (M := mX7_million) (pc := 15) (lo' := [_, _, _, _]) dX7_million_15 rfl ci_1 (LE rfl) rfl ?_
      refine wp_goto (M := mX7_million) (pc := 18) (tgt := 4) dX7_million_18 rfl ?_
      rw [show nI i + 1 = nI (i + 1) from nI_1 i]
      exact ih (i + 1) (by omega) (by omega)
set_option maxHeartbeats 4000000 in
set_option maxRecDepth 100000 in
theorem sp_X7_million {g : Nat} (hg : g < 2 ^ 31) (k : Q (.inl (some (.long (unitG g)))) h) : WPx E mX7_million 0 [some (.int (nI g)), none, none, none] [] (0, 0) h Q := by
  refine wp_lconst (M := mX7_million) (pc := 0) (v := 1) dX7_million_0 cl_1 ?_
  refine so_lstore_n (M := mX7_million) (pc := 1) (lo' := [_, _, _, _]) dX7_million_1 (LE rfl) (LE rfl) (Or.inr rfl) rfl ?_
  refine wp_iconst (M := mX7_million) (pc := 2) (v := 0) dX7_million_2 ci_0 ?_
  refine so_istore_n (M := mX7_million) (pc := 3) (lo' := [_, _, _, _]) dX7_million_3 (LE rfl) (LE rfl) (Or.inr rfl) rfl ?_
  exact lp_X7_million hg k (g + 1) 0 (by omega) (by omega)
set_option maxHeartbeats 4000000 in
set_option maxRecDepth 100000 in
theorem c1_X7_command {me : Nat} {ad : Nat → Nat} {B : Sta} {g t p z : Int32} {r : Nat × Nat} (Hm : MoL h me ad) (hB : RepR (gi h (ad 2)) B) (hok : okV B 50) (k1 : ∀ B', cmdR B 1 t p z = some B' → ∀ h', MoL h' me ad → RepR (gi h' (ad 2)) B' → FrB me ad (fun x => x = ad 2) h h' → Q (.inl (some (.int 1))) h') (k0 : cmdR B 1 t p z = none → Q (.inl (some (.int 0))) h) : WPx E mX7_command 76 [some (.ref me), some (.int g), some (.int t), some (.int p), some (.int z)] [] r h Q := by
  have n6 := hB.n6
  refine wp_aload_n (M := mX7_command) (pc := 76) dX7_command_76 rfl ?_
  refine wp_getR (M := mX7_command) (pc := 77) fa_X7_13 rfl dX7_command_77 (by first | exact Hm.k | exact Hm.a rfl | fail "kd") (Hm.r rfl) ?_
  refine wp_iload_n (M := mX7_command) (pc := 80) dX7_command_80 rfl ?_
  refine wp_iconst (M := mX7_command) (pc := 81) (v := 0) dX7_command_81 ci_0 ?_
  refine wp_iload_n (M := mX7_command) (pc := 82) dX7_command_82 rfl ?_
  refine wp_iload (M := mX7_command) (pc := 83) dX7_command_83 rfl ?_
  refine so_S5 (M := mX7_command) (pc := 85) cs_X7_command_268 rfl rfl (LE rfl) (LE rfl) dX7_command_85 ?_
  refine sp_X7_orders (kn := 0) (Hm.a rfl) hB (by decide) (fun j hj et hp hz hc h1 R1 F1 => ?_) (fun hn => ?_)
  · refine kI ?_
    refine wp_zreturn (M := mX7_command) (pc := 88) rfl (by decide) dX7_command_88 ?_
    have F2 : FrB me ad (fun x => x = ad 2) h h1 := F1.B rfl (Hm.ne (k := 2) rfl)
    refine k1 (placeA B 0 j p z) ?_ h1 (Hm.B F2) R1 F2
    rw [cr_n (by decide), cm_1, plO, cif_t ⟨j, hj, et, hp, hz, hc⟩, et, mis_n (by omega)]
  · refine kI ?_
    refine wp_zreturn (M := mX7_command) (pc := 88) rfl (by decide) dX7_command_88 ?_
    refine k0 ?_
    rw [cr_n (by decide), cm_1, plO, cif_f hn]
set_option maxHeartbeats 4000000 in
set_option maxRecDepth 100000 in
theorem c2_X7_command {me : Nat} {ad : Nat → Nat} {B : Sta} {g t p z : Int32} {r : Nat × Nat} (Hm : MoL h me ad) (hB : RepR (gi h (ad 2)) B) (hok : okV B 50) (k1 : ∀ B', cmdR B 2 t p z = some B' → ∀ h', MoL h' me ad → RepR (gi h' (ad 2)) B' → FrB me ad (fun x => x = ad 2) h h' → Q (.inl (some (.int 1))) h') (k0 : cmdR B 2 t p z = none → Q (.inl (some (.int 0))) h) : WPx E mX7_command 89 [some (.ref me), some (.int g), some (.int t), some (.int p), some (.int z)] [] r h Q := by
  have n6 := hB.n6
  refine wp_aload_n (M := mX7_command) (pc := 89) dX7_command_89 rfl ?_
  refine wp_getR (M := mX7_command) (pc := 90) fa_X7_13 rfl dX7_command_90 (by first | exact Hm.k | exact Hm.a rfl | fail "kd") (Hm.r rfl) ?_
  refine wp_iload_n (M := mX7_command) (pc := 93) dX7_command_93 rfl ?_
  refine wp_iconst (M := mX7_command) (pc := 94) (v := 1) dX7_command_94 ci_1 ?_
  refine wp_iload_n (M := mX7_command) (pc := 95) dX7_command_95 rfl ?_
  refine wp_iload (M := mX7_command) (pc := 96) dX7_command_96 rfl ?_
  refine so_S5 (M := mX7_command) (pc := 98) cs_X7_command_268 rfl rfl (LE rfl) (LE rfl) dX7_command_98 ?_
  refine sp_X7_orders (kn := 1) (Hm.a rfl) hB (by decide) (fun j hj et hp hz hc h1 R1 F1 => ?_) (fun hn => ?_)
  · refine kI ?_
    refine wp_zreturn (M := mX7_command) (pc := 101) rfl (by decide) dX7_command_101 ?_
    have F2 : FrB me ad (fun x => x = ad 2) h h1 := F1.B rfl (Hm.ne (k := 2) rfl)
    refine k1 (placeA B 1 j p z) ?_ h1 (Hm.B F2) R1 F2
    rw [cr_n (by decide), cm_2, plO, cif_t ⟨j, hj, et, hp, hz, hc⟩, et, mis_n (by omega)]
  · refine kI ?_
    refine wp_zreturn (M := mX7_command) (pc := 101) rfl (by decide) dX7_command_101 ?_
    refine k0 ?_
    rw [cr_n (by decide), cm_2, plO, cif_f hn]
set_option maxHeartbeats 4000000 in
set_option maxRecDepth 100000 in
theorem c3_X7_command {me : Nat} {ad : Nat → Nat} {B : Sta} {g t p z : Int32} {r : Nat × Nat} (Hm : MoL h me ad) (hB : RepR (gi h (ad 2)) B) (hok : okV B 50) (k1 : ∀ B', cmdR B 3 t p z = some B' → ∀ h', MoL h' me ad → RepR (gi h' (ad 2)) B' → FrB me ad (fun x => x = ad 2) h h' → Q (.inl (some (.int 1))) h') (k0 : cmdR B 3 t p z = none → Q (.inl (some (.int 0))) h) : WPx E mX7_command 102 [some (.ref me), some (.int g), some (.int t), some (.int p), some (.int z)] [] r h Q := by
  have n6 := hB.n6
  refine wp_aload_n (M := mX7_command) (pc := 102) dX7_command_102 rfl ?_
  refine wp_getR (M := mX7_command) (pc := 103) fa_X7_13 rfl dX7_command_103 (by first | exact Hm.k | exact Hm.a rfl | fail "kd") (Hm.r rfl) ?_
  refine wp_iload_n (M := mX7_command) (pc := 106) dX7_command_106 rfl ?_
  refine wp_iconst (M := mX7_command) (pc := 107) (v := 2) dX7_command_107 ci_2 ?_
  refine wp_iload_n (M := mX7_command) (pc := 108) dX7_command_108 rfl ?_
  refine wp_iload (M := mX7_command) (pc := 109) dX7_command_109 rfl ?_
  refine so_S5 (M := mX7_command) (pc := 111) cs_X7_command_268 rfl rfl (LE rfl) (LE rfl) dX7_command_111 ?_
  refine sp_X7_orders (kn := 2) (Hm.a rfl) hB (by decide) (fun j hj et hp hz hc h1 R1 F1 => ?_) (fun hn => ?_)
  · refine kI ?_
    refine wp_zreturn (M := mX7_command) (pc := 114) rfl (by decide) dX7_command_114 ?_
    have F2 : FrB me ad (fun x => x = ad 2) h h1 := F1.B rfl (Hm.ne (k := 2) rfl)
    refine k1 (placeA B 2 j p z) ?_ h1 (Hm.B F2) R1 F2
    rw [cr_n (by decide), cm_3, plO, cif_t ⟨j, hj, et, hp, hz, hc⟩, et, mis_n (by omega)]
  · refine kI ?_
    refine wp_zreturn (M := mX7_command) (pc := 114) rfl (by decide) dX7_command_114 ?_
    refine k0 ?_
    rw [cr_n (by decide), cm_3, plO, cif_f hn]
set_option maxHeartbeats 4000000 in
set_option maxRecDepth 100000 in
theorem c4_X7_command {me : Nat} {ad : Nat → Nat} {B : Sta} {g t p z : Int32} {r : Nat × Nat} (Hm : MoL h me ad) (hB : RepR (gi h (ad 2)) B) (hok : okV B 50) (k1 : ∀ B', cmdR B 4 t p z = some B' → ∀ h', MoL h' me ad → RepR (gi h' (ad 2)) B' → FrB me ad (fun x => x = ad 2) h h' → Q (.inl (some (.int 1))) h') (k0 : cmdR B 4 t p z = none → Q (.inl (some (.int 0))) h) : WPx E mX7_command 115 [some (.ref me), some (.int g), some (.int t), some (.int p), some (.int z)] [] r h Q := by
  have n6 := hB.n6
  refine wp_iload_n (M := mX7_command) (pc := 115) dX7_command_115 rfl ?_
  refine wp_if_ne (M := mX7_command) (pc := 116) (tgt := 136) dX7_command_116 rfl (fun t116 => ?_) (fun f116 => ?_)
  · refine wp_iconst (M := mX7_command) (pc := 136) (v := 0) dX7_command_136 ci_0 ?_
    refine wp_zreturn (M := mX7_command) (pc := 137) rfl (by decide) dX7_command_137 ?_
    refine k0 ?_
    rw [cr_4, cif_f]
    intro e9
    first | exact t116 e9.1 | exact t120 e9.2.1 | exact b01_z f133 e9.2.2 | fail "leaf"
  · refine wp_iload_n (M := mX7_command) (pc := 119) dX7_command_119 rfl ?_
    refine wp_if_ne (M := mX7_command) (pc := 120) (tgt := 136) dX7_command_120 rfl (fun t120 => ?_) (fun f120 => ?_)
    · refine wp_iconst (M := mX7_command) (pc := 136) (v := 0) dX7_command_136 ci_0 ?_
      refine wp_zreturn (M := mX7_command) (pc := 137) rfl (by decide) dX7_command_137 ?_
      refine k0 ?_
      rw [cr_4, cif_f]
      intro e9
      first | exact t116 e9.1 | exact t120 e9.2.1 | exact b01_z f133 e9.2.2 | fail "leaf"
    · refine wp_iload (M := mX7_command) (pc := 123) dX7_command_123 rfl ?_
      refine wp_i2l (M := mX7_command) (pc := 125) dX7_command_125 ?_
      refine wp_lconst (M := mX7_command) (pc := 126) (v := 1) dX7_command_126 cl_1 ?_
      refine wp_ldc2_w (M := mX7_command) (pc := 127) wv_X7_231 dX7_command_127 ?_
      refine so_S3 (M := mX7_command) (pc := 130) cs_X7_command_65 rfl rfl (LE rfl) (LE rfl) dX7_command_130 ?_
      refine sp_X7_in ?_
      rw [b01_iff (wl (x := z) (a := 1) (b := 50) (a' := 1) (b' := 50) (by decide) (by decide))]
      refine kI ?_
      refine wp_if_ne (M := mX7_command) (pc := 133) (tgt := 138) dX7_command_133 rfl (fun t133 => ?_) (fun f133 => ?_)
      · refine wp_aload_n (M := mX7_command) (pc := 138) dX7_command_138 rfl ?_
        refine wp_aload_n (M := mX7_command) (pc := 139) dX7_command_139 rfl ?_
        refine wp_getR (M := mX7_command) (pc := 140) fa_X7_13 rfl dX7_command_140 (by first | exact Hm.k | exact Hm.a rfl | fail "kd") (Hm.r rfl) ?_
        refine wp_iload (M := mX7_command) (pc := 143) dX7_command_143 rfl ?_
        refine so_V2 (M := mX7_command) (pc := 145) cs_X7_command_233 rfl rfl (LE rfl) (LE rfl) dX7_command_145 (by first | exact Hm.k | exact Hm.a rfl | fail "kd") ?_
        obtain ⟨n, hn1, hn2, hn3⟩ := wth_1 (b := 50) (by decide) (b01_n t133)
        subst hn3
        refine sp_X7_ticksOn Hm (Hm.a rfl) hB (Hm.na (j := 2) rfl (by decide) (by decide) (by decide) (by decide)) (by omega) hok.1 (by have := hok.2.1; omega) (fun j hj => hok.2.2 j (by omega)) (fun h2 Hm2 R2 F2 => ?_)
        refine kI ?_
        refine wp_pop (M := mX7_command) (pc := 148) dX7_command_148 rfl ?_
        refine wp_iconst (M := mX7_command) (pc := 149) (v := 1) dX7_command_149 ci_1 ?_
        refine wp_zreturn (M := mX7_command) (pc := 150) rfl (by decide) dX7_command_150 ?_
        refine k1 (tksR n B).1 ?_ h2 Hm2 R2 F2
        rw [cr_4, cif_t ⟨f116, f120, b01_n t133⟩, mis_n (by omega)]
      · refine wp_iconst (M := mX7_command) (pc := 136) (v := 0) dX7_command_136 ci_0 ?_
        refine wp_zreturn (M := mX7_command) (pc := 137) rfl (by decide) dX7_command_137 ?_
        refine k0 ?_
        rw [cr_4, cif_f]
        intro e9
        first | exact t116 e9.1 | exact t120 e9.2.1 | exact b01_z f133 e9.2.2 | fail "leaf"
set_option maxHeartbeats 4000000 in
set_option maxRecDepth 100000 in
theorem c5_X7_command {me : Nat} {ad : Nat → Nat} {B : Sta} {g t p z : Int32} {r : Nat × Nat} (Hm : MoL h me ad) (hB : RepR (gi h (ad 2)) B) (hok : okV B 50) (k1 : ∀ B', cmdR B 5 t p z = some B' → ∀ h', MoL h' me ad → RepR (gi h' (ad 2)) B' → FrB me ad (fun x => x = ad 2) h h' → Q (.inl (some (.int 1))) h') (k0 : cmdR B 5 t p z = none → Q (.inl (some (.int 0))) h) : WPx E mX7_command 151 [some (.ref me), some (.int g), some (.int t), some (.int p), some (.int z)] [] r h Q := by
  have n6 := hB.n6
  refine wp_iload_n (M := mX7_command) (pc := 151) dX7_command_151 rfl ?_
  refine wp_if_ne (M := mX7_command) (pc := 152) (tgt := 172) dX7_command_152 rfl (fun t152 => ?_) (fun f152 => ?_)
  · refine wp_iconst (M := mX7_command) (pc := 172) (v := 0) dX7_command_172 ci_0 ?_
    refine wp_zreturn (M := mX7_command) (pc := 173) rfl (by decide) dX7_command_173 ?_
    refine k0 ?_
    rw [cr_n (by decide), cm_5, cif_f t152]
  · refine wp_aload_n (M := mX7_command) (pc := 155) dX7_command_155 rfl ?_
    refine wp_getR (M := mX7_command) (pc := 156) fa_X7_13 rfl dX7_command_156 (by first | exact Hm.k | exact Hm.a rfl | fail "kd") (Hm.r rfl) ?_
    refine wp_iload_n (M := mX7_command) (pc := 159) dX7_command_159 rfl ?_
    refine wp_iload (M := mX7_command) (pc := 160) dX7_command_160 rfl ?_
    refine so_S3 (M := mX7_command) (pc := 162) cs_X7_command_272 rfl rfl (LE rfl) (LE rfl) dX7_command_162 ?_
    refine sp_X7_pushes (Hm.a rfl) hB (fun j hj et hz h8 h1 R1 F1 => ?_) (fun hn => ?_)
    · refine kI ?_
      refine wp_if_eq (M := mX7_command) (pc := 165) (tgt := 172) dX7_command_165 rfl (fun e => absurd e (by decide)) (fun _ => ?_)
      refine wp_iconst (M := mX7_command) (pc := 168) (v := 1) dX7_command_168 ci_1 ?_
      refine wp_goto (M := mX7_command) (pc := 169) (tgt := 173) dX7_command_169 rfl ?_
      refine wp_zreturn (M := mX7_command) (pc := 173) rfl (by decide) dX7_command_173 ?_
      have F2 : FrB me ad (fun x => x = ad 2) h h1 := F1.B rfl (Hm.ne (k := 2) rfl)
      refine k1 (pushA B j z) ?_ h1 (Hm.B F2) R1 F2
      rw [cr_n (by decide), cm_5, cif_t f152, quO, cif_t ⟨j, hj, et, hz, h8⟩, et, mis_n (by omega)]
    · refine kI ?_
      refine wp_if_eq (M := mX7_command) (pc := 165) (tgt := 172) dX7_command_165 rfl (fun _ => ?_) (fun e => absurd rfl e)
      refine wp_iconst (M := mX7_command) (pc := 172) (v := 0) dX7_command_172 ci_0 ?_
      refine wp_zreturn (M := mX7_command) (pc := 173) rfl (by decide) dX7_command_173 ?_
      refine k0 ?_
      rw [cr_n (by decide), cm_5, cif_t f152, quO, cif_f hn]
set_option maxHeartbeats 4000000 in
set_option maxRecDepth 100000 in
theorem c6_X7_command {me : Nat} {ad : Nat → Nat} {B : Sta} {g t p z : Int32} {r : Nat × Nat} (Hm : MoL h me ad) (hB : RepR (gi h (ad 2)) B) (hok : okV B 50) (k1 : ∀ B', cmdR B 6 t p z = some B' → ∀ h', MoL h' me ad → RepR (gi h' (ad 2)) B' → FrB me ad (fun x => x = ad 2) h h' → Q (.inl (some (.int 1))) h') (k0 : cmdR B 6 t p z = none → Q (.inl (some (.int 0))) h) : WPx E mX7_command 174 [some (.ref me), some (.int g), some (.int t), some (.int p), some (.int z)] [] r h Q := by
  have n6 := hB.n6
  refine wp_aload_n (M := mX7_command) (pc := 174) dX7_command_174 rfl ?_
  refine wp_getR (M := mX7_command) (pc := 175) fa_X7_13 rfl dX7_command_175 (by first | exact Hm.k | exact Hm.a rfl | fail "kd") (Hm.r rfl) ?_
  refine wp_iload_n (M := mX7_command) (pc := 178) dX7_command_178 rfl ?_
  refine so_S2 (M := mX7_command) (pc := 179) cs_X7_command_94 rfl rfl (LE rfl) (LE rfl) dX7_command_179 ?_
  refine sp_X7_isTenant (Hm.a rfl) hB ?_
  refine kI ?_
  refine wp_if_eq (M := mX7_command) (pc := 182) (tgt := 210) dX7_command_182 rfl (fun t182 => ?_) (fun f182 => ?_)
  · refine wp_iconst (M := mX7_command) (pc := 210) (v := 0) dX7_command_210 ci_0 ?_
    refine wp_zreturn (M := mX7_command) (pc := 211) rfl (by decide) dX7_command_211 ?_
    refine k0 ?_
    rw [cr_n (by decide), cm_6, cif_f (fun e => b01_z t182 ⟨e.choose, e.choose_spec.1, e.choose_spec.2.1⟩)]
  · obtain ⟨i, hi9, rfl⟩ := b01_n f182
    refine wp_aload_n (M := mX7_command) (pc := 185) dX7_command_185 rfl ?_
    refine wp_getR (M := mX7_command) (pc := 186) fa_X7_13 rfl dX7_command_186 (by first | exact Hm.k | exact Hm.a rfl | fail "kd") (Hm.r rfl) ?_
    refine wp_iload_n (M := mX7_command) (pc := 189) dX7_command_189 rfl ?_
    refine so_S1 (M := mX7_command) (pc := 190) cs_X7_command_90 rfl rfl (LE rfl) (LE rfl) dX7_command_190 ?_
    refine sp_X7_at ?_
    refine kI ?_
    refine wp_iconst (M := mX7_command) (pc := 193) (v := 4) dX7_command_193 ci_4 ?_
    refine wp_iadd (M := mX7_command) (pc := 194) dX7_command_194 ?_
    refine wr_iaload (M := mX7_command) (pc := 195) dX7_command_195 (by first | exact Hm.k | exact Hm.a rfl | fail "kd") (ia rfl (show (4 : Int32) = nI 4 from rfl)) (by omega) (by decide) ?_
    refine wp_bipush (M := mX7_command) (pc := 196) (v := 100) dX7_command_196 cb_100 ?_
    refine wp_iload_n (M := mX7_command) (pc := 198) dX7_command_198 rfl ?_
    refine wp_imul (M := mX7_command) (pc := 199) dX7_command_199 ?_
    refine wp_iload (M := mX7_command) (pc := 200) dX7_command_200 rfl ?_
    refine wp_iadd (M := mX7_command) (pc := 202) dX7_command_202 ?_
    refine wp_icmp_lt (M := mX7_command) (pc := 203) (tgt := 210) dX7_command_203 rfl (fun t203 => ?_) (fun f203 => ?_)
    · rw [hB.tF hi9 (by decide)] at t203
      have hno : ¬ ∃ i2, i2 < sN B ∧ nI i = nI i2 ∧ 100 * p + z ≤ fT B i2 4 := fun ⟨i2, h1, h2, h3⟩ => by
        rw [← (i_eq (by omega) (by omega)).mp h2] at h3
        exact Int32.not_le.mpr t203 h3
      refine wp_iconst (M := mX7_command) (pc := 210) (v := 0) dX7_command_210 ci_0 ?_
      refine wp_zreturn (M := mX7_command) (pc := 211) rfl (by decide) dX7_command_211 ?_
      first
      | (refine k0 ?_
         rw [cr_n (by decide), cm_6, cif_f hno])
      | (refine k1 B ?_ h Hm hB FrB.rf
         rw [cr_n (by decide), cm_6, cif_t ⟨i, hi9, rfl, Int32.not_lt.mp f203⟩])
      | fail "leaf"
    · rw [hB.tF hi9 (by decide)] at f203
      refine wp_iconst (M := mX7_command) (pc := 206) (v := 1) dX7_command_206 ci_1 ?_
      refine wp_goto (M := mX7_command) (pc := 207) (tgt := 211) dX7_command_207 rfl ?_
      refine wp_zreturn (M := mX7_command) (pc := 211) rfl (by decide) dX7_command_211 ?_
      first
      | (refine k0 ?_
         rw [cr_n (by decide), cm_6, cif_f hno])
      | (refine k1 B ?_ h Hm hB FrB.rf
         rw [cr_n (by decide), cm_6, cif_t ⟨i, hi9, rfl, Int32.not_lt.mp f203⟩])
      | fail "leaf"
set_option maxHeartbeats 4000000 in
set_option maxRecDepth 100000 in
theorem c7_X7_command {me : Nat} {ad : Nat → Nat} {B : Sta} {g t p z : Int32} {r : Nat × Nat} (Hm : MoL h me ad) (hB : RepR (gi h (ad 2)) B) (hok : okV B 50) (k1 : ∀ B', cmdR B 7 t p z = some B' → ∀ h', MoL h' me ad → RepR (gi h' (ad 2)) B' → FrB me ad (fun x => x = ad 2) h h' → Q (.inl (some (.int 1))) h') (k0 : cmdR B 7 t p z = none → Q (.inl (some (.int 0))) h) : WPx E mX7_command 212 [some (.ref me), some (.int g), some (.int t), some (.int p), some (.int z)] [] r h Q := by
  have n6 := hB.n6
  refine wp_aload_n (M := mX7_command) (pc := 212) dX7_command_212 rfl ?_
  refine wp_getR (M := mX7_command) (pc := 213) fa_X7_13 rfl dX7_command_213 (by first | exact Hm.k | exact Hm.a rfl | fail "kd") (Hm.r rfl) ?_
  refine wp_iload_n (M := mX7_command) (pc := 216) dX7_command_216 rfl ?_
  refine so_S2 (M := mX7_command) (pc := 217) cs_X7_command_94 rfl rfl (LE rfl) (LE rfl) dX7_command_217 ?_
  refine sp_X7_isTenant (Hm.a rfl) hB ?_
  refine kI ?_
  refine wp_if_eq (M := mX7_command) (pc := 220) (tgt := 245) dX7_command_220 rfl (fun t220 => ?_) (fun f220 => ?_)
  · refine wp_iconst (M := mX7_command) (pc := 245) (v := 0) dX7_command_245 ci_0 ?_
    refine wp_zreturn (M := mX7_command) (pc := 246) rfl (by decide) dX7_command_246 ?_
    refine k0 ?_
    rw [cr_n (by decide), cm_7, cif_f (fun e => b01_z t220 ⟨e.choose, e.choose_spec.1, e.choose_spec.2.1⟩)]
  · obtain ⟨i, hi9, rfl⟩ := b01_n f220
    refine wp_aload_n (M := mX7_command) (pc := 223) dX7_command_223 rfl ?_
    refine wp_getR (M := mX7_command) (pc := 224) fa_X7_13 rfl dX7_command_224 (by first | exact Hm.k | exact Hm.a rfl | fail "kd") (Hm.r rfl) ?_
    refine wp_iload_n (M := mX7_command) (pc := 227) dX7_command_227 rfl ?_
    refine so_S2 (M := mX7_command) (pc := 228) cs_X7_command_179 rfl rfl (LE rfl) (LE rfl) dX7_command_228 ?_
    refine sp_X7_credits (Hm.a rfl) hB hi9 ?_
    refine kI ?_
    refine wp_bipush (M := mX7_command) (pc := 231) (v := 100) dX7_command_231 cb_100 ?_
    refine wp_iload_n (M := mX7_command) (pc := 233) dX7_command_233 rfl ?_
    refine wp_imul (M := mX7_command) (pc := 234) dX7_command_234 ?_
    refine wp_iload (M := mX7_command) (pc := 235) dX7_command_235 rfl ?_
    refine wp_iadd (M := mX7_command) (pc := 237) dX7_command_237 ?_
    refine wp_icmp_lt (M := mX7_command) (pc := 238) (tgt := 245) dX7_command_238 rfl (fun t238 => ?_) (fun f238 => ?_)
    · skip
      have hno : ¬ ∃ i2, i2 < sN B ∧ nI i = nI i2 ∧ 100 * p + z ≤ fT B i2 2 + fT B i2 3 := fun ⟨i2, h1, h2, h3⟩ => by
        rw [← (i_eq (by omega) (by omega)).mp h2] at h3
        exact Int32.not_le.mpr t238 h3
      refine wp_iconst (M := mX7_command) (pc := 245) (v := 0) dX7_command_245 ci_0 ?_
      refine wp_zreturn (M := mX7_command) (pc := 246) rfl (by decide) dX7_command_246 ?_
      first
      | (refine k0 ?_
         rw [cr_n (by decide), cm_7, cif_f hno])
      | (refine k1 B ?_ h Hm hB FrB.rf
         rw [cr_n (by decide), cm_7, cif_t ⟨i, hi9, rfl, Int32.not_lt.mp f238⟩])
      | fail "leaf"
    · skip
      refine wp_iconst (M := mX7_command) (pc := 241) (v := 1) dX7_command_241 ci_1 ?_
      refine wp_goto (M := mX7_command) (pc := 242) (tgt := 246) dX7_command_242 rfl ?_
      refine wp_zreturn (M := mX7_command) (pc := 246) rfl (by decide) dX7_command_246 ?_
      first
      | (refine k0 ?_
         rw [cr_n (by decide), cm_7, cif_f hno])
      | (refine k1 B ?_ h Hm hB FrB.rf
         rw [cr_n (by decide), cm_7, cif_t ⟨i, hi9, rfl, Int32.not_lt.mp f238⟩])
      | fail "leaf"
set_option maxHeartbeats 4000000 in
set_option maxRecDepth 100000 in
theorem c8_X7_command {me : Nat} {ad : Nat → Nat} {B : Sta} {g t p z : Int32} {r : Nat × Nat} (Hm : MoL h me ad) (hB : RepR (gi h (ad 2)) B) (hok : okV B 50) (k1 : ∀ B', cmdR B 8 t p z = some B' → ∀ h', MoL h' me ad → RepR (gi h' (ad 2)) B' → FrB me ad (fun x => x = ad 2) h h' → Q (.inl (some (.int 1))) h') (k0 : cmdR B 8 t p z = none → Q (.inl (some (.int 0))) h) : WPx E mX7_command 247 [some (.ref me), some (.int g), some (.int t), some (.int p), some (.int z)] [] r h Q := by
  have n6 := hB.n6
  refine wp_iload_n (M := mX7_command) (pc := 247) dX7_command_247 rfl ?_
  refine wp_if_ne (M := mX7_command) (pc := 248) (tgt := 271) dX7_command_248 rfl (fun t248 => ?_) (fun f248 => ?_)
  · refine wp_iconst (M := mX7_command) (pc := 271) (v := 0) dX7_command_271 ci_0 ?_
    refine wp_zreturn (M := mX7_command) (pc := 272) rfl (by decide) dX7_command_272 ?_
    first
    | (refine k0 ?_
       rw [cr_n (by decide), cm_8, cif_f (fun e => t248 e.1)])
    | (refine k0 ?_
       rw [cr_n (by decide), cm_8, cif_f (fun e => t252 e.2.1)])
    | (refine k0 ?_
       rw [cr_n (by decide), cm_8, cif_f (fun e => t264 e.2.2)])
    | (refine k1 B ?_ h Hm hB FrB.rf
       rw [cr_n (by decide), cm_8, cif_t ⟨f248, f252, f264⟩])
    | fail "leaf"
  · refine wp_iload_n (M := mX7_command) (pc := 251) dX7_command_251 rfl ?_
    refine wp_if_ne (M := mX7_command) (pc := 252) (tgt := 271) dX7_command_252 rfl (fun t252 => ?_) (fun f252 => ?_)
    · refine wp_iconst (M := mX7_command) (pc := 271) (v := 0) dX7_command_271 ci_0 ?_
      refine wp_zreturn (M := mX7_command) (pc := 272) rfl (by decide) dX7_command_272 ?_
      first
      | (refine k0 ?_
         rw [cr_n (by decide), cm_8, cif_f (fun e => t248 e.1)])
      | (refine k0 ?_
         rw [cr_n (by decide), cm_8, cif_f (fun e => t252 e.2.1)])
      | (refine k0 ?_
         rw [cr_n (by decide), cm_8, cif_f (fun e => t264 e.2.2)])
      | (refine k1 B ?_ h Hm hB FrB.rf
         rw [cr_n (by decide), cm_8, cif_t ⟨f248, f252, f264⟩])
      | fail "leaf"
    · refine wp_aload_n (M := mX7_command) (pc := 255) dX7_command_255 rfl ?_
      refine wp_getR (M := mX7_command) (pc := 256) fa_X7_13 rfl dX7_command_256 (by first | exact Hm.k | exact Hm.a rfl | fail "kd") (Hm.r rfl) ?_
      refine wp_bipush (M := mX7_command) (pc := 259) (v := 7) dX7_command_259 cb_7 ?_
      refine wr_iaload (M := mX7_command) (pc := 261) dX7_command_261 (by first | exact Hm.k | exact Hm.a rfl | fail "kd") (show (7 : Int32) = nI 7 from rfl) (by omega) (by decide) ?_
      refine wp_iload (M := mX7_command) (pc := 262) dX7_command_262 rfl ?_
      refine wp_icmp_ne (M := mX7_command) (pc := 264) (tgt := 271) dX7_command_264 rfl (fun t264 => ?_) (fun f264 => ?_)
      · rw [hB.f7] at t264
        refine wp_iconst (M := mX7_command) (pc := 271) (v := 0) dX7_command_271 ci_0 ?_
        refine wp_zreturn (M := mX7_command) (pc := 272) rfl (by decide) dX7_command_272 ?_
        first
        | (refine k0 ?_
           rw [cr_n (by decide), cm_8, cif_f (fun e => t248 e.1)])
        | (refine k0 ?_
           rw [cr_n (by decide), cm_8, cif_f (fun e => t252 e.2.1)])
        | (refine k0 ?_
           rw [cr_n (by decide), cm_8, cif_f (fun e => t264 e.2.2)])
        | (refine k1 B ?_ h Hm hB FrB.rf
           rw [cr_n (by decide), cm_8, cif_t ⟨f248, f252, f264⟩])
        | fail "leaf"
      · rw [hB.f7] at f264
        refine wp_iconst (M := mX7_command) (pc := 267) (v := 1) dX7_command_267 ci_1 ?_
        refine wp_goto (M := mX7_command) (pc := 268) (tgt := 272) dX7_command_268 rfl ?_
        refine wp_zreturn (M := mX7_command) (pc := 272) rfl (by decide) dX7_command_272 ?_
        first
        | (refine k0 ?_
           rw [cr_n (by decide), cm_8, cif_f (fun e => t248 e.1)])
        | (refine k0 ?_
           rw [cr_n (by decide), cm_8, cif_f (fun e => t252 e.2.1)])
        | (refine k0 ?_
           rw [cr_n (by decide), cm_8, cif_f (fun e => t264 e.2.2)])
        | (refine k1 B ?_ h Hm hB FrB.rf
           rw [cr_n (by decide), cm_8, cif_t ⟨f248, f252, f264⟩])
        | fail "leaf"
set_option maxHeartbeats 4000000 in
set_option maxRecDepth 100000 in
theorem sp_X7_command {me : Nat} {ad : Nat → Nat} {B : Sta} {g : Int32} (Hm : MoL h me ad) (hB : RepR (gi h (ad 2)) B) (hok : okV B 50) (k1 : ∀ B', grpR B g = some B' → ∀ h', MoL h' me ad → RepR (gi h' (ad 2)) B' → FrB me ad (fun x => x = ad 2) h h' → Q (.inl (some (.int 1))) h') (k0 : grpR B g = none → Q (.inl (some (.int 0))) h) : WPx E mX7_command 0 [some (.ref me), some (.int g), none, none, none] [] (0, 0) h Q := by
  refine wp_iload_n (M := mX7_command) (pc := 0) dX7_command_0 rfl ?_
  refine wp_sipush (M := mX7_command) (pc := 1) (v := 10000) dX7_command_1 ch_10000 ?_
  refine wp_idiv (M := mX7_command) (pc := 4) dX7_command_4 (by decide) ?_
  refine wp_bipush (M := mX7_command) (pc := 5) (v := 10) dX7_command_5 cb_10 ?_
  refine wp_irem (M := mX7_command) (pc := 7) dX7_command_7 (by decide) ?_
  refine so_istore_n (M := mX7_command) (pc := 8) (lo' := [_, _, _, _, _]) dX7_command_8 (LE rfl) (LE rfl) (Or.inr rfl) rfl ?_
  refine wp_iload_n (M := mX7_command) (pc := 9) dX7_command_9 rfl ?_
  refine wp_bipush (M := mX7_command) (pc := 10) (v := 100) dX7_command_10 cb_100 ?_
  refine wp_idiv (M := mX7_command) (pc := 12) dX7_command_12 (by decide) ?_
  refine wp_bipush (M := mX7_command) (pc := 13) (v := 100) dX7_command_13 cb_100 ?_
  refine wp_irem (M := mX7_command) (pc := 15) dX7_command_15 (by decide) ?_
  refine so_istore_n (M := mX7_command) (pc := 16) (lo' := [_, _, _, _, _]) dX7_command_16 (LE rfl) (LE rfl) (Or.inr rfl) rfl ?_
  refine wp_iload_n (M := mX7_command) (pc := 17) dX7_command_17 rfl ?_
  refine wp_bipush (M := mX7_command) (pc := 18) (v := 100) dX7_command_18 cb_100 ?_
  refine wp_irem (M := mX7_command) (pc := 20) dX7_command_20 (by decide) ?_
  refine so_istore (M := mX7_command) (pc := 21) (lo' := [_, _, _, _, _]) dX7_command_21 (LE rfl) (LE rfl) (Or.inr rfl) rfl ?_
  refine wp_iload_n (M := mX7_command) (pc := 23) dX7_command_23 rfl ?_
  refine wp_ldc_w (M := mX7_command) (pc := 24) wv_X7_267 dX7_command_24 ?_
  refine wp_idiv (M := mX7_command) (pc := 27) dX7_command_27 (by decide) ?_
  unfold grpR rmI at k1 k0
  generalize g / 10000 - g / 10000 / 10 * 10 = t at k1 k0 ⊢
  generalize g / 100 - g / 100 / 100 * 100 = p at k1 k0 ⊢
  generalize g - g / 100 * 100 = z at k1 k0 ⊢
  generalize g / 100000 = cm at k1 k0 ⊢
  rcases sw18 cm with rfl | rfl | rfl | rfl | rfl | rfl | rfl | rfl | hx
  · refine wp_tableIn (M := mX7_command) (pc := 28) (x := 1) (tgt := 76) dX7_command_28 (by decide) (by decide) rfl rfl ?_
    exact c1_X7_command Hm hB hok k1 k0
  · refine wp_tableIn (M := mX7_command) (pc := 28) (x := 2) (tgt := 89) dX7_command_28 (by decide) (by decide) rfl rfl ?_
    exact c2_X7_command Hm hB hok k1 k0
  · refine wp_tableIn (M := mX7_command) (pc := 28) (x := 3) (tgt := 102) dX7_command_28 (by decide) (by decide) rfl rfl ?_
    exact c3_X7_command Hm hB hok k1 k0
  · refine wp_tableIn (M := mX7_command) (pc := 28) (x := 4) (tgt := 115) dX7_command_28 (by decide) (by decide) rfl rfl ?_
    exact c4_X7_command Hm hB hok k1 k0
  · refine wp_tableIn (M := mX7_command) (pc := 28) (x := 5) (tgt := 151) dX7_command_28 (by decide) (by decide) rfl rfl ?_
    exact c5_X7_command Hm hB hok k1 k0
  · refine wp_tableIn (M := mX7_command) (pc := 28) (x := 6) (tgt := 174) dX7_command_28 (by decide) (by decide) rfl rfl ?_
    exact c6_X7_command Hm hB hok k1 k0
  · refine wp_tableIn (M := mX7_command) (pc := 28) (x := 7) (tgt := 212) dX7_command_28 (by decide) (by decide) rfl rfl ?_
    exact c7_X7_command Hm hB hok k1 k0
  · refine wp_tableIn (M := mX7_command) (pc := 28) (x := 8) (tgt := 247) dX7_command_28 (by decide) (by decide) rfl rfl ?_
    exact c8_X7_command Hm hB hok k1 k0
  · refine wp_tableOut (M := mX7_command) (pc := 28) (x := cm) (tgt := 273) dX7_command_28 hx rfl ?_
    refine wp_iconst (M := mX7_command) (pc := 273) (v := 0) dX7_command_273 ci_0 ?_
    refine wp_zreturn (M := mX7_command) (pc := 274) rfl (by decide) dX7_command_274 ?_
    exact k0 (by rw [cr_n (fun e => by rw [e] at hx; exact absurd hx (by decide)), cm_9 hx])
set_option maxHeartbeats 4000000 in
set_option maxRecDepth 100000 in
theorem lp_X7_runScript {me : Nat} {ad : Nat → Nat} {X : Abs} {n : Nat} {s : Int64} {hA : PH} {P : Nat → Sta → Prop} (hP : ∀ i B, i < n → P i B → okV B 50 ∧ ∀ B', grpR B (grpI n s i) = some B' → P (i + 1) B') (hn3 : n ≤ 3) (k : ∀ h', WM h' me ad X → gi h' me 0 = 0 → Ow me hA h' → Q (.inl (some (.int (rsR n s n 0 (xA X))))) h') : ∀ (m : Nat) (i : Nat) (h0 : PH) (B : Sta), n - i < m → (i ≤ n) → (WM h0 me ad X) → (gi h0 me 0 = 0) → (Ow me hA h0) → (RepR (gi h0 (ad 2)) B) → (P i B) → (rsR n s n 0 (xA X) = rsR n s (n - i) i B) → WPx E mX7_runScript 56 [some (.ref me), some (.int (nI n)), some (.long s), none, some (.int (nI i))] [] (0, 0) h0 Q := by
  intro m
  induction m with
  | zero => intro i h0 B hm; exact absurd hm (Nat.not_lt_zero _)
  | succ m ih =>
    intro i h0 B hm hi2 H z0 F0 hB hPB he
    have Hm := H.1
    refine wp_iload (M := mX7_runScript) (pc := 56) dX7_runScript_56 rfl ?_
    refine wp_iload_n (M := mX7_runScript) (pc := 58) dX7_runScript_58 rfl ?_
    refine wp_icmp_ge (M := mX7_runScript) (pc := 59) (tgt := 94) dX7_runScript_59 rfl (fun t59 => ?_) (fun f59 => ?_)
    · have e2 := n_ge hi2 (by omega) t59
      subst e2
      refine wp_bipush (M := mX7_runScript) (pc := 94) (v := -9) dX7_runScript_94 cb_m9 ?_
      refine wp_ireturn (M := mX7_runScript) (pc := 96) rfl dX7_runScript_96 ?_
      rw [he, Nat.sub_self] at k
      exact k h0 H z0 F0
    · have hlt := n_lt hi2 (by omega) f59
      rw [show n - i = (n - (i + 1)) + 1 by omega] at he
      obtain ⟨hokB, hnx⟩ := hP i B hlt hPB
      refine wp_aload_n (M := mX7_runScript) (pc := 62) dX7_runScript_62 rfl ?_
      refine wp_lload_n (M := mX7_runScript) (pc := 63) dX7_runScript_63 rfl ?_
      refine wp_iload_n (M := mX7_runScript) (pc := 64) dX7_runScript_64 rfl ?_
      refine wp_iconst (M := mX7_runScript) (pc := 65) (v := 1) dX7_runScript_65 ci_1 ?_
      refine wp_isub (M := mX7_runScript) (pc := 66) dX7_runScript_66 ?_
      refine wp_iload (M := mX7_runScript) (pc := 67) dX7_runScript_67 rfl ?_
      refine wp_isub (M := mX7_runScript) (pc := 69) dX7_runScript_69 ?_
      refine so_S1 (M := mX7_runScript) (pc := 70) cs_X7_runScript_278 rfl rfl (LE rfl) (LE rfl) dX7_runScript_70 ?_
      rw [show nI n - 1 - nI i = nI (n - 1 - i) by rw [show nI n - 1 = nI (n - 1) from pk_sub (b := 1) (by omega)]; exact pk_sub (by omega)]
      refine sp_X7_million (by omega) ?_
      refine kL ?_
      refine wp_ldiv (M := mX7_runScript) (pc := 73) dX7_runScript_73 (by first | exact unitG_nz _ (by omega) | decide) ?_
      refine wp_ldc2_w (M := mX7_runScript) (pc := 74) wv_X7_276 dX7_runScript_74 ?_
      refine wp_lrem (M := mX7_runScript) (pc := 77) dX7_runScript_77 (by first | exact unitG_nz _ (by omega) | decide) ?_
      refine wp_l2i (M := mX7_runScript) (pc := 78) dX7_runScript_78 ?_
      refine so_V1 (M := mX7_runScript) (pc := 79) cs_X7_runScript_281 rfl rfl (LE rfl) (LE rfl) dX7_runScript_79 Hm.k ?_
      refine sp_X7_command (g := grpI n s i) Hm hB hokB (fun B' hg h1 Hm1 R1 F1 => ?_) (fun hg => ?_)
      · refine kI ?_
        refine wp_if_ne (M := mX7_runScript) (pc := 82) (tgt := 88) dX7_runScript_82 rfl (fun _ => ?_) (fun e => absurd e (by decide))
        refine so_iinc (M := mX7_runScript) (pc := 88) (lo' := [_, _, _, _, _]) dX7_runScript_88 rfl ci_1 (LE rfl) rfl ?_
        refine wp_goto (M := mX7_runScript) (pc := 91) (tgt := 56) dX7_runScript_91 rfl ?_
        rw [show nI i + 1 = nI (i + 1) from nI_1 i]
        rw [rsR_y hg] at he
        exact ih (i + 1) h1 B' (by omega) (by omega) (H.B F1) (WM.zB F1 z0) (F0.tr (FrB.ow Hm F1 (fun x e => by rw [e]; exact Hm.ta (k := 2) rfl))) R1 (hnx B' hg) he
      · refine kI ?_
        refine wp_if_ne (M := mX7_runScript) (pc := 82) (tgt := 88) dX7_runScript_82 rfl (fun e => absurd rfl e) (fun _ => ?_)
        refine wp_iload (M := mX7_runScript) (pc := 85) dX7_runScript_85 rfl ?_
        refine wp_ireturn (M := mX7_runScript) (pc := 87) rfl dX7_runScript_87 ?_
        rw [he, rsR_n hg] at k
        exact k h0 H z0 F0
theorem unit_1 : ∀ n : Nat, n < 4 → ∀ s : Int64, wthL s 0 (unitG n - 1) ↔ (0 ≤ s ∧ s < unitG n) := by
  have hh : ∀ (u : Int64) (m : Nat), u = lN (m + 1) → m + 1 < 2 ^ 63 → ∀ s : Int64, wthL s 0 (u - 1) ↔ (0 ≤ s ∧ s < u) := fun u m hu hm s => by
    rw [hu, show lN (m + 1) - 1 = lN m from lN_sub (b := 1) (by omega)]
    unfold wthL
    constructor
    · rintro ⟨h1, h2⟩
      obtain ⟨k, hk, rfl⟩ := pk_lOf (Int64.not_lt.mpr h1)
      exact ⟨h1, (pk_lLT hk hm).mpr (by have := (pk_lLE hk (by omega)).mp h2; omega)⟩
    · rintro ⟨h1, h2⟩
      obtain ⟨k, hk, rfl⟩ := pk_lOf (Int64.not_lt.mpr h1)
      exact ⟨h1, (pk_lLE hk (by omega)).mpr (by have := (pk_lLT hk hm).mp h2; omega)⟩
  intro n hn
  rcases (show n = 0 ∨ n = 1 ∨ n = 2 ∨ n = 3 by omega) with rfl | rfl | rfl | rfl
  · exact hh _ 0 (by decide) (by decide)
  · exact hh _ 999999 (by decide) (by decide)
  · exact hh _ 999999999999 (by decide) (by decide)
  · exact hh _ 999999999999999999 (by decide) (by decide)
set_option maxHeartbeats 4000000 in
set_option maxRecDepth 100000 in
theorem sp_X7_runScript {me : Nat} {ad : Nat → Nat} {X : Abs} {w : Int32} {s : Int64} {P : Nat → Sta → Prop} (H : WM h me ad X) (hP0 : P 0 (xA X)) (hP : ∀ n, n ≤ 3 → ∀ i B, i < n → P i B → okV B 50 ∧ ∀ B', grpR B (grpI n s i) = some B' → P (i + 1) B') (k1 : ∀ n, 1 ≤ n → n ≤ 3 → w = nI n → 0 ≤ s → s < unitG n → ∀ h', WM h' me ad X → gi h' me 0 = 0 → Ow me h h' → Q (.inl (some (.int (rsR n s n 0 (xA X))))) h') (k2 : (¬ wth w 1 3 ∨ ∀ n, w = nI n → n ≤ 3 → ¬ (0 ≤ s ∧ s < unitG n)) → ∀ h', WM h' me ad X → gi h' me 0 = 1 → Ow me h h' → Q (.inl (some (.int 0))) h') : WPx E mX7_runScript 0 [some (.ref me), some (.int w), some (.long s), none, none] [] (0, 0) h Q := by
  have Hm := H.1
  have hR := H.2.1
  have n6 := hR.n6
  have n12 := hR.n12
  refine wp_aload_n (M := mX7_runScript) (pc := 0) dX7_runScript_0 rfl ?_
  refine wp_iload_n (M := mX7_runScript) (pc := 1) dX7_runScript_1 rfl ?_
  refine wp_i2l (M := mX7_runScript) (pc := 2) dX7_runScript_2 ?_
  refine wp_lconst (M := mX7_runScript) (pc := 3) (v := 1) dX7_runScript_3 cl_1 ?_
  refine wp_ldc2_w (M := mX7_runScript) (pc := 4) wv_X7_242 dX7_runScript_4 ?_
  refine so_S3 (M := mX7_runScript) (pc := 7) cs_X7_runScript_65 rfl rfl (LE rfl) (LE rfl) dX7_runScript_7 ?_
  refine sp_X7_in ?_
  rw [b01_iff (wl (x := w) (a := 1) (b := 3) (a' := 1) (b' := 3) (by decide) (by decide))]
  refine kI ?_
  refine wp_if_eq (M := mX7_runScript) (pc := 10) (tgt := 31) dX7_runScript_10 rfl (fun t10 => ?_) (fun f10 => ?_)
  · refine wp_iconst (M := mX7_runScript) (pc := 31) (v := 1) dX7_runScript_31 ci_1 ?_
    refine so_V1 (M := mX7_runScript) (pc := 32) cs_X7_runScript_74 rfl rfl (LE rfl) (LE rfl) dX7_runScript_32 Hm.k ?_
    refine sp_X7_refused1 (v := 1) Hm.k (by decide) ?_
    refine kI ?_
    refine wp_if_eq (M := mX7_runScript) (pc := 35) (tgt := 40) dX7_runScript_35 rfl (fun t35 => ?_) (fun f35 => ?_)
    · exact absurd t35 (by decide)
    · refine wp_iconst (M := mX7_runScript) (pc := 38) (v := 0) dX7_runScript_38 ci_0 ?_
      refine wp_ireturn (M := mX7_runScript) (pc := 39) rfl dX7_runScript_39 ?_
      first
      | exact k2 (Or.inl (b01_z t10)) _ H.ref gi_si_same (Fr.si Hm.t)
      | exact k2 (Or.inr (fun n2 e2 h3 => (i_eq (by omega) (by omega)).mp e2 ▸ b01_z t24)) _ H.ref gi_si_same (Fr.si Hm.t)
      | fail "leaf"
  · obtain ⟨n, hn1, hn2, rfl⟩ := wth_1 (b := 3) (by decide) (b01_n f10)
    refine wp_lload_n (M := mX7_runScript) (pc := 13) dX7_runScript_13 rfl ?_
    refine wp_lconst (M := mX7_runScript) (pc := 14) (v := 0) dX7_runScript_14 cl_0 ?_
    refine wp_iload_n (M := mX7_runScript) (pc := 15) dX7_runScript_15 rfl ?_
    refine so_S1 (M := mX7_runScript) (pc := 16) cs_X7_runScript_278 rfl rfl (LE rfl) (LE rfl) dX7_runScript_16 ?_
    refine sp_X7_million (by omega) ?_
    refine kL ?_
    refine wp_lconst (M := mX7_runScript) (pc := 19) (v := 1) dX7_runScript_19 cl_1 ?_
    refine wp_lsub (M := mX7_runScript) (pc := 20) dX7_runScript_20 ?_
    refine so_S3 (M := mX7_runScript) (pc := 21) cs_X7_runScript_65 rfl rfl (LE rfl) (LE rfl) dX7_runScript_21 ?_
    refine sp_X7_in ?_
    rw [b01_iff (unit_1 n (by omega) s)]
    refine kI ?_
    refine wp_if_eq (M := mX7_runScript) (pc := 24) (tgt := 31) dX7_runScript_24 rfl (fun t24 => ?_) (fun f24 => ?_)
    · refine wp_iconst (M := mX7_runScript) (pc := 31) (v := 1) dX7_runScript_31 ci_1 ?_
      refine so_V1 (M := mX7_runScript) (pc := 32) cs_X7_runScript_74 rfl rfl (LE rfl) (LE rfl) dX7_runScript_32 Hm.k ?_
      refine sp_X7_refused1 (v := 1) Hm.k (by decide) ?_
      refine kI ?_
      refine wp_if_eq (M := mX7_runScript) (pc := 35) (tgt := 40) dX7_runScript_35 rfl (fun t35 => ?_) (fun f35 => ?_)
      · exact absurd t35 (by decide)
      · refine wp_iconst (M := mX7_runScript) (pc := 38) (v := 0) dX7_runScript_38 ci_0 ?_
        refine wp_ireturn (M := mX7_runScript) (pc := 39) rfl dX7_runScript_39 ?_
        first
        | exact k2 (Or.inl (b01_z t10)) _ H.ref gi_si_same (Fr.si Hm.t)
        | exact k2 (Or.inr (fun n2 e2 h3 => (i_eq (by omega) (by omega)).mp e2 ▸ b01_z t24)) _ H.ref gi_si_same (Fr.si Hm.t)
        | fail "leaf"
    · refine wp_iconst (M := mX7_runScript) (pc := 27) (v := 0) dX7_runScript_27 ci_0 ?_
      refine wp_goto (M := mX7_runScript) (pc := 28) (tgt := 32) dX7_runScript_28 rfl ?_
      refine so_V1 (M := mX7_runScript) (pc := 32) cs_X7_runScript_74 rfl rfl (LE rfl) (LE rfl) dX7_runScript_32 Hm.k ?_
      refine sp_X7_refused0 Hm.k ?_
      refine kI ?_
      refine wp_if_eq (M := mX7_runScript) (pc := 35) (tgt := 40) dX7_runScript_35 rfl (fun t35 => ?_) (fun f35 => ?_)
      · refine wp_gen (P := fun hX => WM hX me ad X ∧ gi hX me 0 = 0 ∧ Ow me h hX) ⟨H.ref, gi_si_same, Fr.si Hm.t⟩ (fun h0 HX => ?_)
        obtain ⟨H, z0, F0⟩ := HX
        have Hm := H.1
        have hR := H.2.1
        refine wp_aload_n (M := mX7_runScript) (pc := 40) dX7_runScript_40 rfl ?_
        refine wp_getR (M := mX7_runScript) (pc := 41) fa_X7_7 rfl dX7_runScript_41 (by first | exact Hm.k | exact Hm.a rfl | fail "kd") (Hm.r rfl) ?_
        refine wp_iconst (M := mX7_runScript) (pc := 44) (v := 0) dX7_runScript_44 ci_0 ?_
        refine wp_aload_n (M := mX7_runScript) (pc := 45) dX7_runScript_45 rfl ?_
        refine wp_getR (M := mX7_runScript) (pc := 46) fa_X7_13 rfl dX7_runScript_46 (by first | exact Hm.k | exact Hm.a rfl | fail "kd") (Hm.r rfl) ?_
        refine wp_iconst (M := mX7_runScript) (pc := 49) (v := 0) dX7_runScript_49 ci_0 ?_
        refine so_S4 (M := mX7_runScript) (pc := 50) cs_X7_runScript_58 rfl rfl (LE rfl) (LE rfl) dX7_runScript_50 ?_
        refine sp_X7_copy (N1 := 1360) (N2 := 1360) (x := 0) (y := 0) (Hm.a (k := 1) rfl) (Hm.a (k := 2) rfl) (Hm.nn (j := 1) (k := 2) rfl rfl (by decide)) (by decide) (by decide) (by decide) (by decide) ?_
        refine qgen9 (P := fun hX => WM hX me ad X ∧ RepR (gi hX (ad 2)) (xA X) ∧ FrB me ad (fun x => x = ad 2) h0 hX) ⟨H.tri, by rw [gi_sw_at]; exact rep_cpy hR, RF.B RF.sw rfl (Hm.ne (k := 2) rfl)⟩ (fun h1 HX => ?_)
        obtain ⟨H1, R1, F1⟩ := HX
        have Hm1 := H1.1
        refine kV ?_
        refine wp_iconst (M := mX7_runScript) (pc := 53) (v := 0) dX7_runScript_53 ci_0 ?_
        refine so_istore (M := mX7_runScript) (pc := 54) (lo' := [_, _, _, _, _]) dX7_runScript_54 (LE rfl) (LE rfl) (Or.inr rfl) rfl ?_
        exact lp_X7_runScript (hP n hn2) hn2 (k1 n hn1 hn2 rfl (b01_n f24).1 (b01_n f24).2) (n + 1) 0 h1 (xA X) (by omega) (by omega) H1 (WM.zB F1 z0) (F0.tr (FrB.ow Hm F1 (fun x e => by rw [e]; exact Hm.ta (k := 2) rfl))) R1 hP0 rfl
      · exact absurd rfl f35
set_option maxHeartbeats 4000000 in
set_option maxRecDepth 100000 in
theorem lp_X7_simulate {me : Nat} {ad : Nat → Nat} {X : Abs} {n : Nat} {s : Int64} {hA : PH} {P : Nat → Sta → Prop} (hP : ∀ i B r, i < n → P i B → 0 < sN B ∧ (¬ r < 0 → okV (raA B r) 1 ∧ P (i + 1) (tksR 1 (raA B r)).1)) (hn3 : n ≤ 60) (k : ∀ h', WM h' me ad X → gi h' me 0 = 0 → Ow me hA h' → Q (.inl (some (.int (smR (xA X) s n).2.2))) h') : ∀ (m : Nat) (i : Nat) (h0 : PH) (x8 : Option Value) (x9 : Option Value) (x10 : Option Value) (x11 : Option Value) (x12 : Option Value) (x13 : Option Value), n - i < m → (i ≤ n) → (WM h0 me ad X) → (gi h0 me 0 = 0) → (Ow me hA h0) → (RepR (gi h0 (ad 2)) (smR (xA X) s i).1) → (P i (smR (xA X) s i).1) → WPx E mX7_simulate 48 [some (.ref me), some (.long s), none, some (.int (nI n)), some (.long (smR (xA X) s i).2.1), none, some (.int (smR (xA X) s i).2.2), some (.int (nI i)), x8, x9, x10, x11, x12, x13] [] (0, 0) h0 Q := by
  intro m
  induction m with
  | zero => intro i h0 x8 x9 x10 x11 x12 x13 hm; exact absurd hm (Nat.not_lt_zero _)
  | succ m ih =>
    intro i h0 x8 x9 x10 x11 x12 x13 hm hi2 H z0 F0 hB hPB
    have Hm := H.1
    have n6 := hB.n6
    refine wp_iload (M := mX7_simulate) (pc := 48) dX7_simulate_48 rfl ?_
    refine wp_iload_n (M := mX7_simulate) (pc := 50) dX7_simulate_50 rfl ?_
    refine wp_icmp_ge (M := mX7_simulate) (pc := 51) (tgt := 177) dX7_simulate_51 rfl (fun t51 => ?_) (fun f51 => ?_)
    · have e2 := n_ge hi2 (by omega) t51
      subst e2
      refine wp_iload (M := mX7_simulate) (pc := 177) dX7_simulate_177 rfl ?_
      refine wp_ireturn (M := mX7_simulate) (pc := 179) rfl dX7_simulate_179 ?_
      exact k h0 H z0 F0
    · have hlt := n_lt hi2 (by omega) f51
      obtain ⟨hn0, hnx0⟩ := hP i _ (rnI (rnX (smR (xA X) s i).2.1)) hlt hPB
      obtain ⟨hokB, hnx⟩ := hnx0 (rnI_p _)
      refine wp_lload (M := mX7_simulate) (pc := 54) dX7_simulate_54 rfl ?_
      refine wp_ldc2_w (M := mX7_simulate) (pc := 56) wv_X7_286 dX7_simulate_56 ?_
      refine wp_lmul (M := mX7_simulate) (pc := 59) dX7_simulate_59 ?_
      refine wp_ldc2_w (M := mX7_simulate) (pc := 60) wv_X7_288 dX7_simulate_60 ?_
      refine wp_ladd (M := mX7_simulate) (pc := 63) dX7_simulate_63 ?_
      refine so_lstore (M := mX7_simulate) (pc := 64) (lo' := [_, _, _, _, _, _, _, _, _, _, _, _, _, _]) dX7_simulate_64 (LE rfl) (LE rfl) (Or.inr rfl) rfl ?_
      refine wp_lload (M := mX7_simulate) (pc := 66) dX7_simulate_66 rfl ?_
      refine wp_bipush (M := mX7_simulate) (pc := 68) (v := 33) dX7_simulate_68 cb_33 ?_
      refine wp_lushr (M := mX7_simulate) (pc := 70) dX7_simulate_70 ?_
      refine wp_l2i (M := mX7_simulate) (pc := 71) dX7_simulate_71 ?_
      refine so_istore (M := mX7_simulate) (pc := 72) (lo' := [_, _, _, _, _, _, _, _, _, _, _, _, _, _]) dX7_simulate_72 (LE rfl) (LE rfl) (Or.inr rfl) rfl ?_
      rw [show (((smR (xA X) s i).2.1 * 6364136223846793005 + 1442695040888963407).toUInt64 >>> ((33 : Int32).toInt64.toUInt64 &&& Int64.toUInt64 63)).toInt64.toInt32 = rnI (rnX (smR (xA X) s i).2.1) from rfl]
      refine wp_iload (M := mX7_simulate) (pc := 74) dX7_simulate_74 rfl ?_
      refine wp_aload_n (M := mX7_simulate) (pc := 76) dX7_simulate_76 rfl ?_
      refine wp_getR (M := mX7_simulate) (pc := 77) fa_X7_13 rfl dX7_simulate_77 (by first | exact Hm.k | exact Hm.a rfl | fail "kd") (Hm.r rfl) ?_
      refine wp_iconst (M := mX7_simulate) (pc := 80) (v := 0) dX7_simulate_80 ci_0 ?_
      refine wr_iaload (M := mX7_simulate) (pc := 81) dX7_simulate_81 (by first | exact Hm.k | exact Hm.a rfl | fail "kd") (show (0 : Int32) = nI 0 from rfl) (by omega) (by decide) ?_
      refine wp_irem (M := mX7_simulate) (pc := 82) dX7_simulate_82 (by first | (rw [hB.f0]; exact nI_ne0 hn0 (by omega)) | decide) ?_
      refine so_istore (M := mX7_simulate) (pc := 83) (lo' := [_, _, _, _, _, _, _, _, _, _, _, _, _, _]) dX7_simulate_83 (LE rfl) (LE rfl) (Or.inr rfl) rfl ?_
      rw [hB.f0, show rnI (rnX (smR (xA X) s i).2.1) - rnI (rnX (smR (xA X) s i).2.1) / nI (sN (smR (xA X) s i).1) * nI (sN (smR (xA X) s i).1) = rmI (rnI (rnX (smR (xA X) s i).2.1)) (nI (sN (smR (xA X) s i).1)) from rfl]
      refine wp_iconst (M := mX7_simulate) (pc := 85) (v := 1) dX7_simulate_85 ci_1 ?_
      refine wp_iload (M := mX7_simulate) (pc := 86) dX7_simulate_86 rfl ?_
      refine wp_bipush (M := mX7_simulate) (pc := 88) (v := 8) dX7_simulate_88 cb_8 ?_
      refine wp_idiv (M := mX7_simulate) (pc := 90) dX7_simulate_90 (by first | (rw [hB.f0]; exact nI_ne0 hn0 (by omega)) | decide) ?_
      refine wp_bipush (M := mX7_simulate) (pc := 91) (v := 99) dX7_simulate_91 cb_99 ?_
      refine wp_irem (M := mX7_simulate) (pc := 93) dX7_simulate_93 (by first | (rw [hB.f0]; exact nI_ne0 hn0 (by omega)) | decide) ?_
      refine wp_iadd (M := mX7_simulate) (pc := 94) dX7_simulate_94 ?_
      refine so_istore (M := mX7_simulate) (pc := 95) (lo' := [_, _, _, _, _, _, _, _, _, _, _, _, _, _]) dX7_simulate_95 (LE rfl) (LE rfl) (Or.inr rfl) rfl ?_
      rw [show 1 + (rnI (rnX (smR (xA X) s i).2.1) / 8 - rnI (rnX (smR (xA X) s i).2.1) / 8 / 99 * 99) = 1 + rmI (rnI (rnX (smR (xA X) s i).2.1) / 8) 99 from rfl]
      refine wp_iconst (M := mX7_simulate) (pc := 97) (v := 1) dX7_simulate_97 ci_1 ?_
      refine wp_iload (M := mX7_simulate) (pc := 98) dX7_simulate_98 rfl ?_
      refine wp_sipush (M := mX7_simulate) (pc := 100) (v := 1024) dX7_simulate_100 ch_1024 ?_
      refine wp_idiv (M := mX7_simulate) (pc := 103) dX7_simulate_103 (by first | (rw [hB.f0]; exact nI_ne0 hn0 (by omega)) | decide) ?_
      refine wp_bipush (M := mX7_simulate) (pc := 104) (v := 20) dX7_simulate_104 cb_20 ?_
      refine wp_irem (M := mX7_simulate) (pc := 106) dX7_simulate_106 (by first | (rw [hB.f0]; exact nI_ne0 hn0 (by omega)) | decide) ?_
      refine wp_iadd (M := mX7_simulate) (pc := 107) dX7_simulate_107 ?_
      refine so_istore (M := mX7_simulate) (pc := 108) (lo' := [_, _, _, _, _, _, _, _, _, _, _, _, _, _]) dX7_simulate_108 (LE rfl) (LE rfl) (Or.inr rfl) rfl ?_
      rw [show 1 + (rnI (rnX (smR (xA X) s i).2.1) / 1024 - rnI (rnX (smR (xA X) s i).2.1) / 1024 / 20 * 20) = 1 + rmI (rnI (rnX (smR (xA X) s i).2.1) / 1024) 20 from rfl]
      refine wp_iload (M := mX7_simulate) (pc := 110) dX7_simulate_110 rfl ?_
      refine wp_ldc_w (M := mX7_simulate) (pc := 112) wv_X7_290 dX7_simulate_112 ?_
      refine wp_idiv (M := mX7_simulate) (pc := 115) dX7_simulate_115 (by first | (rw [hB.f0]; exact nI_ne0 hn0 (by omega)) | decide) ?_
      refine wp_iconst (M := mX7_simulate) (pc := 116) (v := 4) dX7_simulate_116 ci_4 ?_
      refine wp_irem (M := mX7_simulate) (pc := 117) dX7_simulate_117 (by first | (rw [hB.f0]; exact nI_ne0 hn0 (by omega)) | decide) ?_
      refine so_istore (M := mX7_simulate) (pc := 118) (lo' := [_, _, _, _, _, _, _, _, _, _, _, _, _, _]) dX7_simulate_118 (LE rfl) (LE rfl) (Or.inr rfl) rfl ?_
      rw [show rnI (rnX (smR (xA X) s i).2.1) / 65536 - rnI (rnX (smR (xA X) s i).2.1) / 65536 / 4 * 4 = rmI (rnI (rnX (smR (xA X) s i).2.1) / 65536) 4 from rfl]
      refine wp_iload (M := mX7_simulate) (pc := 120) dX7_simulate_120 rfl ?_
      refine wp_iconst (M := mX7_simulate) (pc := 122) (v := 3) dX7_simulate_122 ci_3 ?_
      refine wp_icmp_ne (M := mX7_simulate) (pc := 123) (tgt := 140) dX7_simulate_123 rfl (fun t123 => ?_) (fun f123 => ?_)
      · refine wp_aload_n (M := mX7_simulate) (pc := 140) dX7_simulate_140 rfl ?_
        refine wp_getR (M := mX7_simulate) (pc := 141) fa_X7_13 rfl dX7_simulate_141 (by first | exact Hm.k | exact Hm.a rfl | fail "kd") (Hm.r rfl) ?_
        refine wp_iload (M := mX7_simulate) (pc := 144) dX7_simulate_144 rfl ?_
        refine wp_iload (M := mX7_simulate) (pc := 146) dX7_simulate_146 rfl ?_
        refine wp_iload (M := mX7_simulate) (pc := 148) dX7_simulate_148 rfl ?_
        refine wp_iload (M := mX7_simulate) (pc := 150) dX7_simulate_150 rfl ?_
        refine so_S5 (M := mX7_simulate) (pc := 152) cs_X7_simulate_268 rfl rfl (LE rfl) (LE rfl) dX7_simulate_152 ?_
        obtain ⟨kn, hkn, ek⟩ := kind_n (rnI_p _) t123
        rw [ek]
        refine sp_X7_orders (Hm.a rfl) hB hkn (fun j hj et hp hz hc h2 R2' F2' => ?_) (fun hn => ?_)
        · refine kI ?_
          have F2 : FrB me ad (fun x => x = ad 2) h0 h2 := F2'.B rfl (Hm.ne (k := 2) rfl)
          have Hm2 := Hm.B F2
          have R2 : RepR (gi h2 (ad 2)) (raA (smR (xA X) s i).1 (rnI (rnX (smR (xA X) s i).2.1))) := by
            rw [raA_2 t123, ek, mis_n (by omega), plO, cif_t ⟨j, hj, et, hp, hz, hc⟩, et, mis_n (by omega)]; exact R2'
          refine so_istore (M := mX7_simulate) (pc := 155) (lo' := [_, _, _, _, _, _, _, _, _, _, _, _, _, _]) dX7_simulate_155 (LE rfl) (LE rfl) (Or.inr rfl) rfl ?_
          refine wp_iload (M := mX7_simulate) (pc := 157) dX7_simulate_157 rfl ?_
          refine wp_aload_n (M := mX7_simulate) (pc := 159) dX7_simulate_159 rfl ?_
          refine wp_aload_n (M := mX7_simulate) (pc := 160) dX7_simulate_160 rfl ?_
          refine wp_getR (M := mX7_simulate) (pc := 161) fa_X7_13 rfl dX7_simulate_161 Hm2.k (Hm2.r rfl) ?_
          refine wp_iconst (M := mX7_simulate) (pc := 164) (v := 1) dX7_simulate_164 ci_1 ?_
          refine so_V2 (M := mX7_simulate) (pc := 165) cs_X7_simulate_233 rfl rfl (LE rfl) (LE rfl) dX7_simulate_165 Hm2.k ?_
          refine sp_X7_ticksOn (n := 1) Hm2 (Hm2.a rfl) R2 (Hm2.na (j := 2) rfl (by decide) (by decide) (by decide) (by decide)) (by decide) hokB.1 (by have := hokB.2.1; omega) (fun j hj => hokB.2.2 j (by omega)) (fun h3 Hm3 R3 F3 => ?_)
          refine kI ?_
          refine wp_iadd (M := mX7_simulate) (pc := 168) dX7_simulate_168 ?_
          refine so_istore (M := mX7_simulate) (pc := 169) (lo' := [_, _, _, _, _, _, _, _, _, _, _, _, _, _]) dX7_simulate_169 (LE rfl) (LE rfl) (Or.inr rfl) rfl ?_
          refine so_iinc (M := mX7_simulate) (pc := 171) (lo' := [_, _, _, _, _, _, _, _, _, _, _, _, _, _]) dX7_simulate_171 rfl ci_1 (LE rfl) rfl ?_
          refine wp_goto (M := mX7_simulate) (pc := 174) (tgt := 48) dX7_simulate_174 rfl ?_
          rw [show nI i + 1 = nI (i + 1) from nI_1 i]
          have F23 := F2.tr F3
          exact ih (i + 1) h3 _ _ _ _ _ _ (by omega) (by omega) (H.B F23) (WM.zB F23 z0) (F0.tr (FrB.ow Hm F23 (fun x e => by rw [e]; exact Hm.ta (k := 2) rfl))) R3 hnx
        · refine kI ?_
          have F2 : FrB me ad (fun x => x = ad 2) h0 h0 := FrB.rf
          have Hm2 := Hm
          have R2 : RepR (gi h0 (ad 2)) (raA (smR (xA X) s i).1 (rnI (rnX (smR (xA X) s i).2.1))) := by
            rw [raA_2 t123, ek, mis_n (by omega), plO, cif_f hn]; exact hB
          refine so_istore (M := mX7_simulate) (pc := 155) (lo' := [_, _, _, _, _, _, _, _, _, _, _, _, _, _]) dX7_simulate_155 (LE rfl) (LE rfl) (Or.inr rfl) rfl ?_
          refine wp_iload (M := mX7_simulate) (pc := 157) dX7_simulate_157 rfl ?_
          refine wp_aload_n (M := mX7_simulate) (pc := 159) dX7_simulate_159 rfl ?_
          refine wp_aload_n (M := mX7_simulate) (pc := 160) dX7_simulate_160 rfl ?_
          refine wp_getR (M := mX7_simulate) (pc := 161) fa_X7_13 rfl dX7_simulate_161 Hm2.k (Hm2.r rfl) ?_
          refine wp_iconst (M := mX7_simulate) (pc := 164) (v := 1) dX7_simulate_164 ci_1 ?_
          refine so_V2 (M := mX7_simulate) (pc := 165) cs_X7_simulate_233 rfl rfl (LE rfl) (LE rfl) dX7_simulate_165 Hm2.k ?_
          refine sp_X7_ticksOn (n := 1) Hm2 (Hm2.a rfl) R2 (Hm2.na (j := 2) rfl (by decide) (by decide) (by decide) (by decide)) (by decide) hokB.1 (by have := hokB.2.1; omega) (fun j hj => hokB.2.2 j (by omega)) (fun h3 Hm3 R3 F3 => ?_)
          refine kI ?_
          refine wp_iadd (M := mX7_simulate) (pc := 168) dX7_simulate_168 ?_
          refine so_istore (M := mX7_simulate) (pc := 169) (lo' := [_, _, _, _, _, _, _, _, _, _, _, _, _, _]) dX7_simulate_169 (LE rfl) (LE rfl) (Or.inr rfl) rfl ?_
          refine so_iinc (M := mX7_simulate) (pc := 171) (lo' := [_, _, _, _, _, _, _, _, _, _, _, _, _, _]) dX7_simulate_171 rfl ci_1 (LE rfl) rfl ?_
          refine wp_goto (M := mX7_simulate) (pc := 174) (tgt := 48) dX7_simulate_174 rfl ?_
          rw [show nI i + 1 = nI (i + 1) from nI_1 i]
          have F23 := F2.tr F3
          exact ih (i + 1) h3 _ _ _ _ _ _ (by omega) (by omega) (H.B F23) (WM.zB F23 z0) (F0.tr (FrB.ow Hm F23 (fun x e => by rw [e]; exact Hm.ta (k := 2) rfl))) R3 hnx
      · refine wp_aload_n (M := mX7_simulate) (pc := 126) dX7_simulate_126 rfl ?_
        refine wp_getR (M := mX7_simulate) (pc := 127) fa_X7_13 rfl dX7_simulate_127 (by first | exact Hm.k | exact Hm.a rfl | fail "kd") (Hm.r rfl) ?_
        refine wp_iload (M := mX7_simulate) (pc := 130) dX7_simulate_130 rfl ?_
        refine wp_iload (M := mX7_simulate) (pc := 132) dX7_simulate_132 rfl ?_
        refine so_S3 (M := mX7_simulate) (pc := 134) cs_X7_simulate_272 rfl rfl (LE rfl) (LE rfl) dX7_simulate_134 ?_
        refine sp_X7_pushes (Hm.a rfl) hB (fun j hj et hz h8 h2 R2' F2' => ?_) (fun hn => ?_)
        · refine kI ?_
          have F2 : FrB me ad (fun x => x = ad 2) h0 h2 := F2'.B rfl (Hm.ne (k := 2) rfl)
          have Hm2 := Hm.B F2
          have R2 : RepR (gi h2 (ad 2)) (raA (smR (xA X) s i).1 (rnI (rnX (smR (xA X) s i).2.1))) := by
            rw [raA_1 f123, quO, cif_t ⟨j, hj, et, hz, h8⟩, et, mis_n (by omega)]; exact R2'
          refine wp_goto (M := mX7_simulate) (pc := 137) (tgt := 155) dX7_simulate_137 rfl ?_
          refine so_istore (M := mX7_simulate) (pc := 155) (lo' := [_, _, _, _, _, _, _, _, _, _, _, _, _, _]) dX7_simulate_155 (LE rfl) (LE rfl) (Or.inr rfl) rfl ?_
          refine wp_iload (M := mX7_simulate) (pc := 157) dX7_simulate_157 rfl ?_
          refine wp_aload_n (M := mX7_simulate) (pc := 159) dX7_simulate_159 rfl ?_
          refine wp_aload_n (M := mX7_simulate) (pc := 160) dX7_simulate_160 rfl ?_
          refine wp_getR (M := mX7_simulate) (pc := 161) fa_X7_13 rfl dX7_simulate_161 Hm2.k (Hm2.r rfl) ?_
          refine wp_iconst (M := mX7_simulate) (pc := 164) (v := 1) dX7_simulate_164 ci_1 ?_
          refine so_V2 (M := mX7_simulate) (pc := 165) cs_X7_simulate_233 rfl rfl (LE rfl) (LE rfl) dX7_simulate_165 Hm2.k ?_
          refine sp_X7_ticksOn (n := 1) Hm2 (Hm2.a rfl) R2 (Hm2.na (j := 2) rfl (by decide) (by decide) (by decide) (by decide)) (by decide) hokB.1 (by have := hokB.2.1; omega) (fun j hj => hokB.2.2 j (by omega)) (fun h3 Hm3 R3 F3 => ?_)
          refine kI ?_
          refine wp_iadd (M := mX7_simulate) (pc := 168) dX7_simulate_168 ?_
          refine so_istore (M := mX7_simulate) (pc := 169) (lo' := [_, _, _, _, _, _, _, _, _, _, _, _, _, _]) dX7_simulate_169 (LE rfl) (LE rfl) (Or.inr rfl) rfl ?_
          refine so_iinc (M := mX7_simulate) (pc := 171) (lo' := [_, _, _, _, _, _, _, _, _, _, _, _, _, _]) dX7_simulate_171 rfl ci_1 (LE rfl) rfl ?_
          refine wp_goto (M := mX7_simulate) (pc := 174) (tgt := 48) dX7_simulate_174 rfl ?_
          rw [show nI i + 1 = nI (i + 1) from nI_1 i]
          have F23 := F2.tr F3
          exact ih (i + 1) h3 _ _ _ _ _ _ (by omega) (by omega) (H.B F23) (WM.zB F23 z0) (F0.tr (FrB.ow Hm F23 (fun x e => by rw [e]; exact Hm.ta (k := 2) rfl))) R3 hnx
        · refine kI ?_
          have F2 : FrB me ad (fun x => x = ad 2) h0 h0 := FrB.rf
          have Hm2 := Hm
          have R2 : RepR (gi h0 (ad 2)) (raA (smR (xA X) s i).1 (rnI (rnX (smR (xA X) s i).2.1))) := by
            rw [raA_1 f123, quO, cif_f hn]; exact hB
          refine wp_goto (M := mX7_simulate) (pc := 137) (tgt := 155) dX7_simulate_137 rfl ?_
          refine so_istore (M := mX7_simulate) (pc := 155) (lo' := [_, _, _, _, _, _, _, _, _, _, _, _, _, _]) dX7_simulate_155 (LE rfl) (LE rfl) (Or.inr rfl) rfl ?_
          refine wp_iload (M := mX7_simulate) (pc := 157) dX7_simulate_157 rfl ?_
          refine wp_aload_n (M := mX7_simulate) (pc := 159) dX7_simulate_159 rfl ?_
          refine wp_aload_n (M := mX7_simulate) (pc := 160) dX7_simulate_160 rfl ?_
          refine wp_getR (M := mX7_simulate) (pc := 161) fa_X7_13 rfl dX7_simulate_161 Hm2.k (Hm2.r rfl) ?_
          refine wp_iconst (M := mX7_simulate) (pc := 164) (v := 1) dX7_simulate_164 ci_1 ?_
          refine so_V2 (M := mX7_simulate) (pc := 165) cs_X7_simulate_233 rfl rfl (LE rfl) (LE rfl) dX7_simulate_165 Hm2.k ?_
          refine sp_X7_ticksOn (n := 1) Hm2 (Hm2.a rfl) R2 (Hm2.na (j := 2) rfl (by decide) (by decide) (by decide) (by decide)) (by decide) hokB.1 (by have := hokB.2.1; omega) (fun j hj => hokB.2.2 j (by omega)) (fun h3 Hm3 R3 F3 => ?_)
          refine kI ?_
          refine wp_iadd (M := mX7_simulate) (pc := 168) dX7_simulate_168 ?_
          refine so_istore (M := mX7_simulate) (pc := 169) (lo' := [_, _, _, _, _, _, _, _, _, _, _, _, _, _]) dX7_simulate_169 (LE rfl) (LE rfl) (Or.inr rfl) rfl ?_
          refine so_iinc (M := mX7_simulate) (pc := 171) (lo' := [_, _, _, _, _, _, _, _, _, _, _, _, _, _]) dX7_simulate_171 rfl ci_1 (LE rfl) rfl ?_
          refine wp_goto (M := mX7_simulate) (pc := 174) (tgt := 48) dX7_simulate_174 rfl ?_
          rw [show nI i + 1 = nI (i + 1) from nI_1 i]
          have F23 := F2.tr F3
          exact ih (i + 1) h3 _ _ _ _ _ _ (by omega) (by omega) (H.B F23) (WM.zB F23 z0) (F0.tr (FrB.ow Hm F23 (fun x e => by rw [e]; exact Hm.ta (k := 2) rfl))) R3 hnx
set_option maxHeartbeats 4000000 in
set_option maxRecDepth 100000 in
theorem sp_X7_simulate {me : Nat} {ad : Nat → Nat} {X : Abs} {w : Int32} {s : Int64} {P : Nat → Sta → Prop} (H : WM h me ad X) (hP0 : P 0 (xA X)) (hP : ∀ i B r, i < 60 → P i B → 0 < sN B ∧ (¬ r < 0 → okV (raA B r) 1 ∧ P (i + 1) (tksR 1 (raA B r)).1)) (k1 : ∀ n, 1 ≤ n → n ≤ 60 → w = nI n → ∀ h', WM h' me ad X → gi h' me 0 = 0 → Ow me h h' → Q (.inl (some (.int (smR (xA X) s n).2.2))) h') (k2 : ¬ wth w 1 60 → ∀ h', WM h' me ad X → gi h' me 0 = 1 → Ow me h h' → Q (.inl (some (.int 0))) h') : WPx E mX7_simulate 0 [some (.ref me), some (.long s), none, some (.int w), none, none, none, none, none, none, none, none, none, none] [] (0, 0) h Q := by
  have Hm := H.1
  have hR := H.2.1
  have n6 := hR.n6
  have n12 := hR.n12
  refine wp_aload_n (M := mX7_simulate) (pc := 0) dX7_simulate_0 rfl ?_
  refine wp_iload_n (M := mX7_simulate) (pc := 1) dX7_simulate_1 rfl ?_
  refine wp_i2l (M := mX7_simulate) (pc := 2) dX7_simulate_2 ?_
  refine wp_lconst (M := mX7_simulate) (pc := 3) (v := 1) dX7_simulate_3 cl_1 ?_
  refine wp_ldc2_w (M := mX7_simulate) (pc := 4) wv_X7_284 dX7_simulate_4 ?_
  refine so_S3 (M := mX7_simulate) (pc := 7) cs_X7_simulate_65 rfl rfl (LE rfl) (LE rfl) dX7_simulate_7 ?_
  refine sp_X7_in ?_
  rw [b01_iff (wl (x := w) (a := 1) (b := 60) (a' := 1) (b' := 60) (by decide) (by decide))]
  refine kI ?_
  refine wp_if_eq (M := mX7_simulate) (pc := 10) (tgt := 17) dX7_simulate_10 rfl (fun t10 => ?_) (fun f10 => ?_)
  · refine wp_iconst (M := mX7_simulate) (pc := 17) (v := 1) dX7_simulate_17 ci_1 ?_
    refine so_V1 (M := mX7_simulate) (pc := 18) cs_X7_simulate_74 rfl rfl (LE rfl) (LE rfl) dX7_simulate_18 Hm.k ?_
    refine sp_X7_refused1 (v := 1) Hm.k (by decide) ?_
    refine kI ?_
    refine wp_if_eq (M := mX7_simulate) (pc := 21) (tgt := 26) dX7_simulate_21 rfl (fun t21 => ?_) (fun f21 => ?_)
    · exact absurd t21 (by decide)
    · refine wp_iconst (M := mX7_simulate) (pc := 24) (v := 0) dX7_simulate_24 ci_0 ?_
      refine wp_ireturn (M := mX7_simulate) (pc := 25) rfl dX7_simulate_25 ?_
      exact k2 (b01_z t10) _ H.ref gi_si_same (Fr.si Hm.t)
  · refine wp_iconst (M := mX7_simulate) (pc := 13) (v := 0) dX7_simulate_13 ci_0 ?_
    refine wp_goto (M := mX7_simulate) (pc := 14) (tgt := 18) dX7_simulate_14 rfl ?_
    refine so_V1 (M := mX7_simulate) (pc := 18) cs_X7_simulate_74 rfl rfl (LE rfl) (LE rfl) dX7_simulate_18 Hm.k ?_
    refine sp_X7_refused0 Hm.k ?_
    refine kI ?_
    refine wp_if_eq (M := mX7_simulate) (pc := 21) (tgt := 26) dX7_simulate_21 rfl (fun t21 => ?_) (fun f21 => ?_)
    · refine wp_gen (P := fun hX => WM hX me ad X ∧ gi hX me 0 = 0 ∧ Ow me h hX) ⟨H.ref, gi_si_same, Fr.si Hm.t⟩ (fun h0 HX => ?_)
      obtain ⟨H, z0, F0⟩ := HX
      have Hm := H.1
      have hR := H.2.1
      obtain ⟨n, hn1, hn2, rfl⟩ := wth_1 (b := 60) (by decide) (b01_n f10)
      refine wp_aload_n (M := mX7_simulate) (pc := 26) dX7_simulate_26 rfl ?_
      refine wp_getR (M := mX7_simulate) (pc := 27) fa_X7_7 rfl dX7_simulate_27 (by first | exact Hm.k | exact Hm.a rfl | fail "kd") (Hm.r rfl) ?_
      refine wp_iconst (M := mX7_simulate) (pc := 30) (v := 0) dX7_simulate_30 ci_0 ?_
      refine wp_aload_n (M := mX7_simulate) (pc := 31) dX7_simulate_31 rfl ?_
      refine wp_getR (M := mX7_simulate) (pc := 32) fa_X7_13 rfl dX7_simulate_32 (by first | exact Hm.k | exact Hm.a rfl | fail "kd") (Hm.r rfl) ?_
      refine wp_iconst (M := mX7_simulate) (pc := 35) (v := 0) dX7_simulate_35 ci_0 ?_
      refine so_S4 (M := mX7_simulate) (pc := 36) cs_X7_simulate_58 rfl rfl (LE rfl) (LE rfl) dX7_simulate_36 ?_
      refine sp_X7_copy (N1 := 1360) (N2 := 1360) (x := 0) (y := 0) (Hm.a (k := 1) rfl) (Hm.a (k := 2) rfl) (Hm.nn (j := 1) (k := 2) rfl rfl (by decide)) (by decide) (by decide) (by decide) (by decide) ?_
      refine qgen9 (P := fun hX => WM hX me ad X ∧ RepR (gi hX (ad 2)) (xA X) ∧ FrB me ad (fun x => x = ad 2) h0 hX) ⟨H.tri, by rw [gi_sw_at]; exact rep_cpy hR, RF.B RF.sw rfl (Hm.ne (k := 2) rfl)⟩ (fun h1 HX => ?_)
      obtain ⟨H1, R1, F1⟩ := HX
      have Hm1 := H1.1
      refine kV ?_
      refine wp_lload_n (M := mX7_simulate) (pc := 39) dX7_simulate_39 rfl ?_
      refine so_lstore (M := mX7_simulate) (pc := 40) (lo' := [_, _, _, _, _, _, _, _, _, _, _, _, _, _]) dX7_simulate_40 (LE rfl) (LE rfl) (Or.inr rfl) rfl ?_
      refine wp_iconst (M := mX7_simulate) (pc := 42) (v := 0) dX7_simulate_42 ci_0 ?_
      refine so_istore (M := mX7_simulate) (pc := 43) (lo' := [_, _, _, _, _, _, _, _, _, _, _, _, _, _]) dX7_simulate_43 (LE rfl) (LE rfl) (Or.inr rfl) rfl ?_
      refine wp_iconst (M := mX7_simulate) (pc := 45) (v := 0) dX7_simulate_45 ci_0 ?_
      refine so_istore (M := mX7_simulate) (pc := 46) (lo' := [_, _, _, _, _, _, _, _, _, _, _, _, _, _]) dX7_simulate_46 (LE rfl) (LE rfl) (Or.inr rfl) rfl ?_
      exact lp_X7_simulate (s := s) (P := P) (fun i B r hi hB => hP i B r (by omega) hB) hn2 (k1 n hn1 hn2 rfl) (n + 1) 0 h1 none none none none none none (by omega) (by omega) H1 (WM.zB F1 z0) (F0.tr (FrB.ow Hm F1 (fun x e => by rw [e]; exact Hm.ta (k := 2) rfl))) R1 hP0
    · exact absurd rfl f21
end SP
