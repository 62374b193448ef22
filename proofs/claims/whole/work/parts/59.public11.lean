section SP
variable {E : Ev} {h : PH} {Q : Rt → PH → Prop}
set_option maxHeartbeats 4000000 in
set_option maxRecDepth 100000 in
theorem sp_X6_sentAfter {ka pa fa la : Nat} {lc : Lt} {m c u hi sl tx : Nat} {q : Nat} {l : Lt} {A : Sta} {t w : Int32} (hm : ObC h m q c u hi sl tx) (hR : RepC h q l A) (hA : AuT h u ka pa fa la) (hLc : Lay h c lc) (hcq : c ≠ q) (huc : u ≠ c) (hmu : m ≠ u) (hmc : m ≠ c) (hok : okT A 99) (k1 : ∀ i j, i < sN A → t = nI i → j ≤ 7 → w = nI j → ∀ h' lc', Lay h' c lc' → AuT h' u ka pa fa la → Fr (fun x => x = c ∨ x = u) h h' → Q (.inl (some (.int (sntA A i j)))) h') (k0 : ¬ isT A t → Q (.inr "java/lang/IndexOutOfBoundsException") h) (k2 : isT A t → ¬ wth w 0 7 → Q (.inr "java/lang/IllegalArgumentException") h) : WPx E mX6_sentAfter 0 [some (.ref m), some (.int t), some (.int w), none, none] [] (2, 12) h Q := by
  obtain ⟨⟨kq, tq⟩, ⟨rT, kT, tT⟩, -, hLT, -⟩ := hR.1
  have n6 := hR.2.1.1.2
  refine wp_aload_n (M := mX6_sentAfter) (pc := 0) dX6_sentAfter_0 rfl ?_
  refine wp_getR (M := mX6_sentAfter) (pc := 1) fa_X6_12 rfl dX6_sentAfter_1 (by first | exact hm.1.1 | exact kq | exact kT | exact a2 | exact hLc.1.1) (by first | exact hm.2.1 | exact rT | exact a1 | exact hm.2.2.1 | exact hm.2.2.2.1) ?_
  refine wp_iload_n (M := mX6_sentAfter) (pc := 4) dX6_sentAfter_4 rfl ?_
  refine so_V1 (M := mX6_sentAfter) (pc := 5) cs_X6_sentAfter_97 rfl rfl (LE rfl) (LE rfl) dX6_sentAfter_5 (by first | exact hm.1.1 | exact kq | exact kT | exact a2 | exact hLc.1.1) ?_
  refine sb_hasTenant hR ?_
  refine kI ?_
  refine so_SA1 (M := mX6_sentAfter) (pc := 8) (1, 6) cs_X6_sentAfter_101 rfl (LE rfl) (LE rfl) (LE rfl) (LE rfl) dX6_sentAfter_8 ?_
  refine sp_X6_requireThere (fun ht => ?_) (fun hw => k0 hw)
  refine kV ?_
  refine wp_iload_n (M := mX6_sentAfter) (pc := 11) dX6_sentAfter_11 rfl ?_
  refine so_S1 (M := mX6_sentAfter) (pc := 12) cs_X6_sentAfter_108 rfl rfl (LE rfl) (LE rfl) dX6_sentAfter_12 ?_
  refine sp_X6_isPlaceInQueue ?_
  refine kI ?_
  refine so_SA1 (M := mX6_sentAfter) (pc := 15) (0, 0) cs_X6_sentAfter_60 rfl (LE rfl) (LE rfl) (LE rfl) (LE rfl) dX6_sentAfter_15 ?_
  refine sp_X6_requireArgument (fun hw => ?_) (fun hw => k2 ht hw)
  obtain ⟨i, hi9, rfl⟩ := ht
  obtain ⟨j, hj, rfl⟩ := wth_nI (b := 7) (by decide) hw
  obtain ⟨a1, ⟨a2, a3⟩, ⟨a4, a5, a6⟩, -⟩ := hLT i (by omega)
  obtain ⟨v1, v2, v3, v4, v5⟩ := hR.2.2.1 i hi9
  have v2' : gi h (lT l i) 7 = nI (lnM A i) := v2
  have v3' : lnM A i ≤ 8 := v3
  refine kV ?_
  refine wp_aload_n (M := mX6_sentAfter) (pc := 18) dX6_sentAfter_18 rfl ?_
  refine wp_getR (M := mX6_sentAfter) (pc := 19) fa_X6_12 rfl dX6_sentAfter_19 (by first | exact hm.1.1 | exact kq | exact kT | exact a2 | exact hLc.1.1) (by first | exact hm.2.1 | exact rT | exact a1 | exact hm.2.2.1 | exact hm.2.2.2.1) ?_
  refine wp_getR (M := mX6_sentAfter) (pc := 22) fa_X6_111 rfl dX6_sentAfter_22 (by first | exact hm.1.1 | exact kq | exact kT | exact a2 | exact hLc.1.1) (by first | exact hm.2.1 | exact rT | exact a1 | exact hm.2.2.1 | exact hm.2.2.2.1) ?_
  refine wp_iload_n (M := mX6_sentAfter) (pc := 25) dX6_sentAfter_25 rfl ?_
  refine wr_aaload (M := mX6_sentAfter) (pc := 26) dX6_sentAfter_26 (by first | exact hm.1.1 | exact kq | exact kT | exact a2 | exact hLc.1.1) (by decide) rfl (by omega) (by decide) (by first | exact hm.2.1 | exact rT | exact a1 | exact hm.2.2.1 | exact hm.2.2.2.1) ?_
  refine wp_getI (M := mX6_sentAfter) (pc := 27) fa_X6_226 rfl dX6_sentAfter_27 (by first | exact hm.1.1 | exact kq | exact kT | exact a2 | exact hLc.1.1) ?_
  refine so_istore_n (M := mX6_sentAfter) (pc := 30) (lo' := [_, _, _, _, _]) dX6_sentAfter_30 (LE rfl) (LE rfl) (Or.inr rfl) rfl ?_
  refine wp_iload_n (M := mX6_sentAfter) (pc := 31) dX6_sentAfter_31 rfl ?_
  refine wp_iload_n (M := mX6_sentAfter) (pc := 32) dX6_sentAfter_32 rfl ?_
  refine wp_icmp_lt (M := mX6_sentAfter) (pc := 33) (tgt := 39) dX6_sentAfter_33 rfl (fun t33 => ?_) (fun f33 => ?_)
  · rw [v2'] at t33
    have hlt := (i_lt (by omega) (by omega)).mp t33
    refine wp_aload_n (M := mX6_sentAfter) (pc := 39) dX6_sentAfter_39 rfl ?_
    refine wp_getR (M := mX6_sentAfter) (pc := 40) fa_X6_16 rfl dX6_sentAfter_40 (by first | exact hm.1.1 | exact kq | exact kT | exact a2 | exact hLc.1.1) (by first | exact hm.2.1 | exact rT | exact a1 | exact hm.2.2.1 | exact hm.2.2.2.1) ?_
    refine wp_aload_n (M := mX6_sentAfter) (pc := 43) dX6_sentAfter_43 rfl ?_
    refine wp_getR (M := mX6_sentAfter) (pc := 44) fa_X6_12 rfl dX6_sentAfter_44 (by first | exact hm.1.1 | exact kq | exact kT | exact a2 | exact hLc.1.1) (by first | exact hm.2.1 | exact rT | exact a1 | exact hm.2.2.1 | exact hm.2.2.2.1) ?_
    refine so_V1 (M := mX6_sentAfter) (pc := 47) cs_X6_sentAfter_83 rfl rfl (LE rfl) (LE rfl) dX6_sentAfter_47 (by first | exact hm.1.1 | exact kq | exact kT | exact a2 | exact hLc.1.1) ?_
    refine sp_X4_copyFrom hLc hR hcq (fun h1 R1 F1 => ?_)
    refine kV ?_
    refine wp_iconst (M := mX6_sentAfter) (pc := 50) (v := 1) dX6_sentAfter_50 ci_1 ?_
    refine so_istore (M := mX6_sentAfter) (pc := 51) (lo' := [_, _, _, _, _]) dX6_sentAfter_51 (LE rfl) (LE rfl) (Or.inr rfl) rfl ?_
    rw [v2']
    have hk := k1 i j hi9 rfl hj rfl
    rw [sntA, if_pos hlt] at hk
    exact lp_X6_sentAfter (l := l) (h0 := h) hm huc hmu hmc hok hi9 hk 100 1 h1 lc (0, 0) (by omega) (by omega) (by omega) R1 (hA.fr F1 huc) (F1.mono (fun y e => Or.inl e)) rfl
  · rw [v2'] at f33
    have hge : ¬ j < lnM A i := fun e => f33 ((i_lt (by omega) (by omega)).mpr e)
    refine wp_bipush (M := mX6_sentAfter) (pc := 36) (v := -9) dX6_sentAfter_36 cb_m9 ?_
    refine wp_ireturn (M := mX6_sentAfter) (pc := 38) rfl dX6_sentAfter_38 ?_
    have hk := k1 i j hi9 rfl hj rfl h lc hLc hA Fr.rf
    rw [sntA, if_neg hge] at hk
    exact hk
end SP
