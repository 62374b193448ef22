section SP
variable {E : Ev} {h : PH} {Q : Rt → PH → Prop}
/-- n ticks go as they should -/
def okT (A : Sta) (n : Nat) : Prop := 0 < sN A ∧ sTi A + n + 100 < 2 ^ 30 ∧ sTm A ≤ 50 ∧ ∀ j, j < n → okF (tk1 (tks j A).1)
theorem wth_1 {v : Int32} {b : Nat} (hb : b < 2 ^ 30) (h : wth v 1 (nI b)) : ∃ j, 1 ≤ j ∧ j ≤ b ∧ v = nI j := by
  obtain ⟨j, h1, h2⟩ := wth_nI hb ⟨Int32.le_trans (by decide) h.1, h.2⟩
  refine ⟨j, ?_, h1, h2⟩
  have := h.1
  rw [h2] at this
  exact (i_le (a := 1) (by decide) (by omega)).mp this
set_option maxHeartbeats 4000000 in
set_option maxRecDepth 100000 in
theorem sp_X6_unused {ka pa fa la : Nat} {lc : Lt} {m c u hi sl tx : Nat} {q : Nat} {l : Lt} {A : Sta} {w : Int32} (hm : ObC h m q c u hi sl tx) (hR : RepC h q l A) (hA : AuT h u ka pa fa la) (hLc : Lay h c lc) (hcq : c ≠ q) (huc : u ≠ c) (hmu : m ≠ u) (hmc : m ≠ c) (hok : okT A 99) (k1 : ∀ n, 1 ≤ n → n ≤ 99 → w = nI n → ∀ h' lc', Lay h' c lc' → AuT h' u ka pa fa la → Fr (fun x => x = c ∨ x = u) h h' → Q (.inl (some (.int (nI n * sG A 1 - (tks n A).2)))) h') (k0 : ¬ wth w 1 99 → Q (.inr "java/lang/IllegalArgumentException") h) : WPx E mX6_unused 0 [some (.ref m), some (.int w)] [] (1, 6) h Q := by
  refine wp_iload_n (M := mX6_unused) (pc := 0) dX6_unused_0 rfl ?_
  refine wp_iconst (M := mX6_unused) (pc := 1) (v := 1) dX6_unused_1 ci_1 ?_
  refine wp_bipush (M := mX6_unused) (pc := 2) (v := 99) dX6_unused_2 cb_99 ?_
  refine so_S3 (M := mX6_unused) (pc := 4) cs_X6_unused_56 rfl rfl (LE rfl) (LE rfl) dX6_unused_4 ?_
  refine sp_X6_isWithin ?_
  refine kI ?_
  refine so_SA1 (M := mX6_unused) (pc := 7) (0, 0) cs_X6_unused_60 rfl (LE rfl) (LE rfl) (LE rfl) (LE rfl) dX6_unused_7 ?_
  refine sp_X6_requireArgument (fun hw => ?_) (fun hw => k0 hw)
  obtain ⟨n, hn1, hn2, rfl⟩ := wth_1 (b := 99) (by decide) hw
  refine kV ?_
  refine wp_aload_n (M := mX6_unused) (pc := 10) dX6_unused_10 rfl ?_
  refine wp_getR (M := mX6_unused) (pc := 11) fa_X6_16 rfl dX6_unused_11 (by first | exact hm.1.1 | exact hLc.1.1) (by first | exact hm.2.1 | exact hm.2.2.1 | exact hm.2.2.2.1) ?_
  refine wp_aload_n (M := mX6_unused) (pc := 14) dX6_unused_14 rfl ?_
  refine wp_getR (M := mX6_unused) (pc := 15) fa_X6_12 rfl dX6_unused_15 (by first | exact hm.1.1 | exact hLc.1.1) (by first | exact hm.2.1 | exact hm.2.2.1 | exact hm.2.2.2.1) ?_
  refine so_V1 (M := mX6_unused) (pc := 18) cs_X6_unused_83 rfl rfl (LE rfl) (LE rfl) dX6_unused_18 (by first | exact hm.1.1 | exact hLc.1.1) ?_
  refine sp_X4_copyFrom hLc hR hcq (fun h1 R1 F1 => ?_)
  have hm1 := hm.fr F1 hmc
  have hRq := hR.fr F1 (fun e => hcq e.symm)
  have hA1 := hA.fr F1 huc
  refine kV ?_
  refine wp_iload_n (M := mX6_unused) (pc := 21) dX6_unused_21 rfl ?_
  refine wp_aload_n (M := mX6_unused) (pc := 22) dX6_unused_22 rfl ?_
  refine wp_getR (M := mX6_unused) (pc := 23) fa_X6_12 rfl dX6_unused_23 hm1.1.1 hm1.2.1 ?_
  refine wp_getI (M := mX6_unused) (pc := 26) fa_X6_177 rfl dX6_unused_26 hRq.1.1.1 ?_
  refine wp_imul (M := mX6_unused) (pc := 29) dX6_unused_29 ?_
  refine wp_aload_n (M := mX6_unused) (pc := 30) dX6_unused_30 rfl ?_
  refine wp_getR (M := mX6_unused) (pc := 31) fa_X6_16 rfl dX6_unused_31 hm1.1.1 hm1.2.2.1 ?_
  refine wp_iload_n (M := mX6_unused) (pc := 34) dX6_unused_34 rfl ?_
  refine wp_aload_n (M := mX6_unused) (pc := 35) dX6_unused_35 rfl ?_
  refine wp_getR (M := mX6_unused) (pc := 36) fa_X6_22 rfl dX6_unused_36 hm1.1.1 hm1.2.2.2.1 ?_
  refine so_V2 (M := mX6_unused) (pc := 39) cs_X6_unused_170 rfl rfl (LE rfl) (LE rfl) dX6_unused_39 R1.1.1.1 ?_
  refine sp_X4_advance R1 hA1 huc hok.1 (by omega) (by have := hok.2.1; omega) hok.2.2.1 (fun j hj => hok.2.2.2 j (by omega)) (fun h2 l2 e2 R2 A2 F2 => ?_)
  refine kI ?_
  refine wp_isub (M := mX6_unused) (pc := 42) dX6_unused_42 ?_
  refine wp_ireturn (M := mX6_unused) (pc := 43) rfl dX6_unused_43 ?_
  rw [hRq.2.1.2.2.1]
  exact k1 n hn1 hn2 rfl h2 l2 R2.1 A2 ((F1.mono (fun y e => Or.inl e)).tr F2)
end SP
