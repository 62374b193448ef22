section SP
variable {E : Ev} {h : PH} {Q : Rt → PH → Prop}
def msgA (A : Sta) (i j : Nat) : Int32 := if j < (sT A i).2.1.length then (sT A i).2.1.getD j 0 else -9
set_option maxHeartbeats 4000000 in
set_option maxRecDepth 100000 in
theorem sp_X6_message {m c u hi sl tx : Nat} {q : Nat} {l : Lt} {A : Sta} {t w : Int32} (hm : ObC h m q c u hi sl tx) (hR : RepC h q l A) (k1 : ∀ i j, i < sN A → t = nI i → j ≤ 7 → w = nI j → Q (.inl (some (.int (msgA A i j)))) h) (k0 : ¬ isT A t → Q (.inr "java/lang/IndexOutOfBoundsException") h) (k2 : isT A t → ¬ wth w 0 7 → Q (.inr "java/lang/IllegalArgumentException") h) : WPx E mX6_message 0 [some (.ref m), some (.int t), some (.int w)] [] (2, 12) h Q := by
  obtain ⟨⟨kq, tq⟩, ⟨rT, kT, tT⟩, -, hLT, -⟩ := hR.1
  have n6 := hR.2.1.1.2
  refine wp_aload_n (M := mX6_message) (pc := 0) dX6_message_0 rfl ?_
  refine wp_getR (M := mX6_message) (pc := 1) fa_X6_12 rfl dX6_message_1 (by first | exact hm.1.1 | exact kq | exact kT | exact a2) (by first | exact hm.2.1 | exact rT | exact a1) ?_
  refine wp_iload_n (M := mX6_message) (pc := 4) dX6_message_4 rfl ?_
  refine so_V1 (M := mX6_message) (pc := 5) cs_X6_message_97 rfl rfl (LE rfl) (LE rfl) dX6_message_5 (by first | exact hm.1.1 | exact kq | exact kT | exact a2) ?_
  refine sb_hasTenant hR ?_
  refine kI ?_
  refine so_SA1 (M := mX6_message) (pc := 8) (1, 6) cs_X6_message_101 rfl (LE rfl) (LE rfl) (LE rfl) (LE rfl) dX6_message_8 ?_
  refine sp_X6_requireThere (fun ht => ?_) (fun hw => k0 hw)
  refine kV ?_
  refine wp_iload_n (M := mX6_message) (pc := 11) dX6_message_11 rfl ?_
  refine so_S1 (M := mX6_message) (pc := 12) cs_X6_message_108 rfl rfl (LE rfl) (LE rfl) dX6_message_12 ?_
  refine sp_X6_isPlaceInQueue ?_
  refine kI ?_
  refine so_SA1 (M := mX6_message) (pc := 15) (0, 0) cs_X6_message_60 rfl (LE rfl) (LE rfl) (LE rfl) (LE rfl) dX6_message_15 ?_
  refine sp_X6_requireArgument (fun hw => ?_) (fun hw => k2 ht hw)
  obtain ⟨i, hi9, rfl⟩ := ht
  obtain ⟨j, hj, rfl⟩ := wth_nI (b := 7) (by decide) hw
  obtain ⟨a1, ⟨a2, a3⟩, ⟨a4, a5, a6⟩, -⟩ := hLT i (by omega)
  obtain ⟨v1, v2, v3, v4, v5⟩ := hR.2.2.1 i hi9
  refine kV ?_
  refine wp_aload_n (M := mX6_message) (pc := 18) dX6_message_18 rfl ?_
  refine wp_getR (M := mX6_message) (pc := 19) fa_X6_12 rfl dX6_message_19 (by first | exact hm.1.1 | exact kq | exact kT | exact a2) (by first | exact hm.2.1 | exact rT | exact a1) ?_
  refine wp_getR (M := mX6_message) (pc := 22) fa_X6_111 rfl dX6_message_22 (by first | exact hm.1.1 | exact kq | exact kT | exact a2) (by first | exact hm.2.1 | exact rT | exact a1) ?_
  refine wp_iload_n (M := mX6_message) (pc := 25) dX6_message_25 rfl ?_
  refine wr_aaload (M := mX6_message) (pc := 26) dX6_message_26 (by first | exact hm.1.1 | exact kq | exact kT | exact a2) (by decide) rfl (by omega) (by decide) (by first | exact hm.2.1 | exact rT | exact a1) ?_
  refine wp_iload_n (M := mX6_message) (pc := 27) dX6_message_27 rfl ?_
  refine so_V1 (M := mX6_message) (pc := 28) cs_X6_message_115 rfl rfl (LE rfl) (LE rfl) dX6_message_28 (by first | exact hm.1.1 | exact kq | exact kT | exact a2) ?_
  refine sp_X5_sizeAt a2 a4 a5 (by omega) ?_
  refine kI ?_
  refine wp_ireturn (M := mX6_message) (pc := 31) rfl dX6_message_31 ?_
  have hk := k1 i j hi9 rfl hj rfl
  rw [v2]
  by_cases e : j < (sT A i).2.1.length
  · rw [if_pos ((i_lt (by omega) (by omega)).mpr e), v4 j e]
    rw [msgA, if_pos e] at hk
    exact hk
  · rw [if_neg (fun c => e ((i_lt (by omega) (by omega)).mp c))]
    rw [msgA, if_neg e] at hk
    exact hk
end SP
