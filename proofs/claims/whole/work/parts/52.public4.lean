section SP
variable {E : Ev} {h : PH} {Q : Rt → PH → Prop}
set_option maxHeartbeats 4000000 in
set_option maxRecDepth 100000 in
theorem sp_X6_demand {m c u hi sl tx : Nat} {q : Nat} {l : Lt} {A : Sta} {w : Int32} (hm : ObC h m q c u hi sl tx) (hR : RepC h q l A) (k1 : wth w 1 99 → Q (.inl (some (.int (wantA A w)))) h) (k0 : ¬ wth w 1 99 → Q (.inr "java/lang/IllegalArgumentException") h) : WPx E mX6_demand 0 [some (.ref m), some (.int w)] [] (1, 6) h Q := by
  refine wp_iload_n (M := mX6_demand) (pc := 0) dX6_demand_0 rfl ?_
  refine so_S1 (M := mX6_demand) (pc := 1) cs_X6_demand_157 rfl rfl (LE rfl) (LE rfl) dX6_demand_1 ?_
  refine sp_X6_isTwoDigits ?_
  refine kI ?_
  refine so_SA1 (M := mX6_demand) (pc := 4) (0, 0) cs_X6_demand_60 rfl (LE rfl) (LE rfl) (LE rfl) (LE rfl) dX6_demand_4 ?_
  refine sp_X6_requireArgument (fun hw => ?_) (fun hw => k0 hw)
  refine kV ?_
  refine wp_aload_n (M := mX6_demand) (pc := 7) dX6_demand_7 rfl ?_
  refine wp_getR (M := mX6_demand) (pc := 8) fa_X6_12 rfl dX6_demand_8 (by first | exact hm.1.1 | exact hR.1.1.1) hm.2.1 ?_
  refine wp_iload_n (M := mX6_demand) (pc := 11) dX6_demand_11 rfl ?_
  refine so_V1 (M := mX6_demand) (pc := 12) cs_X6_demand_186 rfl rfl (LE rfl) (LE rfl) dX6_demand_12 (by first | exact hm.1.1 | exact hR.1.1.1) ?_
  refine sp_X4_wantedAt hR ?_
  refine kI ?_
  refine wp_ireturn (M := mX6_demand) (pc := 15) rfl dX6_demand_15 ?_
  exact k1 hw
set_option maxHeartbeats 4000000 in
set_option maxRecDepth 100000 in
theorem sp_X6_supply {m c u hi sl tx : Nat} {q : Nat} {l : Lt} {A : Sta} {w : Int32} (hm : ObC h m q c u hi sl tx) (hR : RepC h q l A) (k1 : wth w 1 99 → Q (.inl (some (.int (offA A w)))) h) (k0 : ¬ wth w 1 99 → Q (.inr "java/lang/IllegalArgumentException") h) : WPx E mX6_supply 0 [some (.ref m), some (.int w)] [] (1, 6) h Q := by
  refine wp_iload_n (M := mX6_supply) (pc := 0) dX6_supply_0 rfl ?_
  refine so_S1 (M := mX6_supply) (pc := 1) cs_X6_supply_157 rfl rfl (LE rfl) (LE rfl) dX6_supply_1 ?_
  refine sp_X6_isTwoDigits ?_
  refine kI ?_
  refine so_SA1 (M := mX6_supply) (pc := 4) (0, 0) cs_X6_supply_60 rfl (LE rfl) (LE rfl) (LE rfl) (LE rfl) dX6_supply_4 ?_
  refine sp_X6_requireArgument (fun hw => ?_) (fun hw => k0 hw)
  refine kV ?_
  refine wp_aload_n (M := mX6_supply) (pc := 7) dX6_supply_7 rfl ?_
  refine wp_getR (M := mX6_supply) (pc := 8) fa_X6_12 rfl dX6_supply_8 (by first | exact hm.1.1 | exact hR.1.1.1) hm.2.1 ?_
  refine wp_iload_n (M := mX6_supply) (pc := 11) dX6_supply_11 rfl ?_
  refine so_V1 (M := mX6_supply) (pc := 12) cs_X6_supply_189 rfl rfl (LE rfl) (LE rfl) dX6_supply_12 (by first | exact hm.1.1 | exact hR.1.1.1) ?_
  refine sp_X4_offeredAt hR ?_
  refine kI ?_
  refine wp_ireturn (M := mX6_supply) (pc := 15) rfl dX6_supply_15 ?_
  exact k1 hw
/-- what order(i, what) answers -/
def ordA (A : Sta) (i : Nat) : Nat → Int32
  | 0 => nI (oA A i).1
  | 1 => nI (oA A i).2.1
  | 2 => (oA A i).2.2.1
  | 3 => (oA A i).2.2.2
  | _ => (matchB (sO A)).1 i
set_option maxHeartbeats 4000000 in
set_option maxRecDepth 100000 in
theorem sp_X6_order {ka pa fa la : Nat} {m c u hi sl tx : Nat} {q : Nat} {l : Lt} {A : Sta} {t w : Int32} (hm : ObC h m q c u hi sl tx) (hR : RepC h q l A) (hA : AuT h u ka pa fa la) (hq : u ≠ q) (hmu : m ≠ u) (k1 : ∀ i j, i < (sO A).length → t = nI i → j ≤ 4 → w = nI j → ∀ h', FrI (fun x => x = u) h h' → Q (.inl (some (.int (ordA A i j)))) h') (k0 : ¬ isO A t → Q (.inr "java/lang/IndexOutOfBoundsException") h) (k2 : isO A t → ¬ wth w 0 4 → Q (.inr "java/lang/IllegalArgumentException") h) : WPx E mX6_order 0 [some (.ref m), some (.int t), some (.int w), none] [] (2, 12) h Q := by
  obtain ⟨⟨kq, tq⟩, -, ⟨rO, kO, tO⟩, -, hLO, -⟩ := hR.1
  have n12 := hR.2.1.2.1.2
  refine wp_aload_n (M := mX6_order) (pc := 0) dX6_order_0 rfl ?_
  refine wp_getR (M := mX6_order) (pc := 1) fa_X6_12 rfl dX6_order_1 (by first | exact hm.1.1 | exact kq | exact kO | exact a2 | exact hA.1.1) (by first | exact hm.2.1 | exact rO | exact a1 | exact hm.2.2.2.1) ?_
  refine wp_iload_n (M := mX6_order) (pc := 4) dX6_order_4 rfl ?_
  refine so_V1 (M := mX6_order) (pc := 5) cs_X6_order_120 rfl rfl (LE rfl) (LE rfl) dX6_order_5 (by first | exact hm.1.1 | exact kq | exact kO | exact a2 | exact hA.1.1) ?_
  refine sb_hasOrder hR ?_
  refine kI ?_
  refine so_SA1 (M := mX6_order) (pc := 8) (1, 6) cs_X6_order_101 rfl (LE rfl) (LE rfl) (LE rfl) (LE rfl) dX6_order_8 ?_
  refine sp_X6_requireThere (fun ht => ?_) (fun hw => k0 hw)
  refine kV ?_
  refine wp_iload_n (M := mX6_order) (pc := 11) dX6_order_11 rfl ?_
  refine wp_iconst (M := mX6_order) (pc := 12) (v := 0) dX6_order_12 ci_0 ?_
  refine wp_iconst (M := mX6_order) (pc := 13) (v := 4) dX6_order_13 ci_4 ?_
  refine so_S3 (M := mX6_order) (pc := 14) cs_X6_order_56 rfl rfl (LE rfl) (LE rfl) dX6_order_14 ?_
  refine sp_X6_isWithin ?_
  refine kI ?_
  refine so_SA1 (M := mX6_order) (pc := 17) (0, 0) cs_X6_order_60 rfl (LE rfl) (LE rfl) (LE rfl) (LE rfl) dX6_order_17 ?_
  refine sp_X6_requireArgument (fun hw => ?_) (fun hw => k2 ht hw)
  obtain ⟨i, hi9, rfl⟩ := ht
  obtain ⟨j, hj, rfl⟩ := wth_nI (b := 4) (by decide) hw
  obtain ⟨a1, a2, a3⟩ := hLO i (by omega)
  obtain ⟨⟨v1, v2, v3, v4⟩, v5, v6⟩ := hR.2.2.2 i hi9
  refine kV ?_
  refine wp_aload_n (M := mX6_order) (pc := 20) dX6_order_20 rfl ?_
  refine wp_getR (M := mX6_order) (pc := 21) fa_X6_12 rfl dX6_order_21 (by first | exact hm.1.1 | exact kq | exact kO | exact a2 | exact hA.1.1) (by first | exact hm.2.1 | exact rO | exact a1 | exact hm.2.2.2.1) ?_
  refine wp_getR (M := mX6_order) (pc := 24) fa_X6_123 rfl dX6_order_24 (by first | exact hm.1.1 | exact kq | exact kO | exact a2 | exact hA.1.1) (by first | exact hm.2.1 | exact rO | exact a1 | exact hm.2.2.2.1) ?_
  refine wp_iload_n (M := mX6_order) (pc := 27) dX6_order_27 rfl ?_
  refine wr_aaload (M := mX6_order) (pc := 28) dX6_order_28 (by first | exact hm.1.1 | exact kq | exact kO | exact a2 | exact hA.1.1) (by decide) rfl (by omega) (by decide) (by first | exact hm.2.1 | exact rO | exact a1 | exact hm.2.2.2.1) ?_
  refine so_astore_n (M := mX6_order) (pc := 29) (lo' := [_, _, _, _]) dX6_order_29 (LE rfl) (LE rfl) (Or.inr rfl) rfl ?_
  refine wp_iload_n (M := mX6_order) (pc := 30) dX6_order_30 rfl ?_
  have sw31 : j = 0 ∨ j = 1 ∨ j = 2 ∨ j = 3 ∨ 3 < j := by omega
  rcases sw31 with rfl | rfl | rfl | rfl | sw31
  · refine wp_tableIn (M := mX6_order) (pc := 31) (x := nI 0) (tgt := 60) dX6_order_31 (by decide) (by decide) rfl rfl ?_
    refine wp_aload_n (M := mX6_order) (pc := 60) dX6_order_60 rfl ?_
    refine wp_getI (M := mX6_order) (pc := 61) fa_X6_127 rfl dX6_order_61 (by first | exact hm.1.1 | exact kq | exact kO | exact a2 | exact hA.1.1) ?_
    refine wp_ireturn (M := mX6_order) (pc := 64) rfl dX6_order_64 ?_
    rw [v1]; exact k1 i 0 hi9 rfl hj rfl h FrI.rf
  · refine wp_tableIn (M := mX6_order) (pc := 31) (x := nI 1) (tgt := 65) dX6_order_31 (by decide) (by decide) rfl rfl ?_
    refine wp_aload_n (M := mX6_order) (pc := 65) dX6_order_65 rfl ?_
    refine wp_getI (M := mX6_order) (pc := 66) fa_X6_132 rfl dX6_order_66 (by first | exact hm.1.1 | exact kq | exact kO | exact a2 | exact hA.1.1) ?_
    refine wp_ireturn (M := mX6_order) (pc := 69) rfl dX6_order_69 ?_
    rw [v2]; exact k1 i 1 hi9 rfl hj rfl h FrI.rf
  · refine wp_tableIn (M := mX6_order) (pc := 31) (x := nI 2) (tgt := 70) dX6_order_31 (by decide) (by decide) rfl rfl ?_
    refine wp_aload_n (M := mX6_order) (pc := 70) dX6_order_70 rfl ?_
    refine wp_getI (M := mX6_order) (pc := 71) fa_X6_135 rfl dX6_order_71 (by first | exact hm.1.1 | exact kq | exact kO | exact a2 | exact hA.1.1) ?_
    refine wp_ireturn (M := mX6_order) (pc := 74) rfl dX6_order_74 ?_
    rw [v3]; exact k1 i 2 hi9 rfl hj rfl h FrI.rf
  · refine wp_tableIn (M := mX6_order) (pc := 31) (x := nI 3) (tgt := 75) dX6_order_31 (by decide) (by decide) rfl rfl ?_
    refine wp_aload_n (M := mX6_order) (pc := 75) dX6_order_75 rfl ?_
    refine wp_getI (M := mX6_order) (pc := 76) fa_X6_138 rfl dX6_order_76 (by first | exact hm.1.1 | exact kq | exact kO | exact a2 | exact hA.1.1) ?_
    refine wp_ireturn (M := mX6_order) (pc := 79) rfl dX6_order_79 ?_
    rw [v4]; exact k1 i 3 hi9 rfl hj rfl h FrI.rf
  · refine wp_tableOut (M := mX6_order) (pc := 31) (x := nI j) (tgt := 80) dX6_order_31 (Or.inr (sw_out sw31 (by omega))) rfl ?_
    refine wp_aload_n (M := mX6_order) (pc := 80) dX6_order_80 rfl ?_
    refine wp_getR (M := mX6_order) (pc := 81) fa_X6_22 rfl dX6_order_81 (by first | exact hm.1.1 | exact kq | exact kO | exact a2 | exact hA.1.1) (by first | exact hm.2.1 | exact rO | exact a1 | exact hm.2.2.2.1) ?_
    refine wp_aload_n (M := mX6_order) (pc := 84) dX6_order_84 rfl ?_
    refine wp_getR (M := mX6_order) (pc := 85) fa_X6_12 rfl dX6_order_85 (by first | exact hm.1.1 | exact kq | exact kO | exact a2 | exact hA.1.1) (by first | exact hm.2.1 | exact rO | exact a1 | exact hm.2.2.2.1) ?_
    refine so_V1 (M := mX6_order) (pc := 88) cs_X6_order_141 rfl rfl (LE rfl) (LE rfl) dX6_order_88 (by first | exact hm.1.1 | exact kq | exact kO | exact a2 | exact hA.1.1) ?_
    refine sp_X0_hold hR hA hq (fun h1 b1 f1 => ?_)
    have hm1 := hm.fr f1.fr hmu
    refine kV ?_
    refine wp_aload_n (M := mX6_order) (pc := 91) dX6_order_91 rfl ?_
    refine wp_getR (M := mX6_order) (pc := 92) fa_X6_22 rfl dX6_order_92 hm1.1.1 hm1.2.2.2.1 ?_
    refine wp_iload_n (M := mX6_order) (pc := 95) dX6_order_95 rfl ?_
    refine so_V1 (M := mX6_order) (pc := 96) cs_X6_order_144 rfl rfl (LE rfl) (LE rfl) dX6_order_96 (hA.mv f1).1.1 ?_
    refine sp_X0_fillOf (hA.mv f1).1 b1.1 hi9 (by omega) ?_
    refine kI ?_
    refine wp_ireturn (M := mX6_order) (pc := 99) rfl dX6_order_99 ?_
    have e4 : j = 4 := by omega
    subst e4
    rw [(b1.2.1 i hi9).1]; exact k1 i 4 hi9 rfl hj rfl h1 f1
end SP
