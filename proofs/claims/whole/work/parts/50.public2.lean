section SP
variable {E : Ev} {h : PH} {Q : Rt → PH → Prop}
set_option maxHeartbeats 4000000 in
set_option maxRecDepth 100000 in
theorem sv_X6_requireThere {v : Int32}  (k1 : ¬ v = 0 → Q (.inl none) h) (k0 : v = 0 → Q (.inr "java/lang/IndexOutOfBoundsException") h) : WPx E mX6_requireThere 0 [some (.int v)] [] (1, 6) h Q := by
  refine wp_iload_n (M := mX6_requireThere) (pc := 0) dX6_requireThere_0 rfl ?_
  refine wp_if_ne (M := mX6_requireThere) (pc := 1) (tgt := 15) dX6_requireThere_1 rfl (fun t1 => ?_) (fun f1 => ?_)
  · refine wp_return (M := mX6_requireThere) (pc := 15) rfl dX6_requireThere_15 ?_
    exact k1 t1
  · exact wp_throw (M := mX6_requireThere) (pc := 4) (text := "no such tenant, order or slot") tw_265 rfl (by decide) (by decide) (by decide) (by decide) (by decide) rfl dX6_requireThere_4 dX6_requireThere_7 dX6_requireThere_8 dX6_requireThere_11 dX6_requireThere_14 (k0 f1)
set_option maxHeartbeats 4000000 in
set_option maxRecDepth 100000 in
theorem sv_X6_requireArgument {v : Int32}  (k1 : ¬ v = 0 → Q (.inl none) h) (k0 : v = 0 → Q (.inr "java/lang/IllegalArgumentException") h) : WPx E mX6_requireArgument 0 [some (.int v)] [] (1, 6) h Q := by
  refine wp_iload_n (M := mX6_requireArgument) (pc := 0) dX6_requireArgument_0 rfl ?_
  refine wp_if_ne (M := mX6_requireArgument) (pc := 1) (tgt := 15) dX6_requireArgument_1 rfl (fun t1 => ?_) (fun f1 => ?_)
  · refine wp_return (M := mX6_requireArgument) (pc := 15) rfl dX6_requireArgument_15 ?_
    exact k1 t1
  · exact wp_throw (M := mX6_requireArgument) (pc := 4) (text := "an argument is out of its range") tw_270 rfl (by decide) (by decide) (by decide) (by decide) (by decide) rfl dX6_requireArgument_4 dX6_requireArgument_7 dX6_requireArgument_8 dX6_requireArgument_11 dX6_requireArgument_14 (k0 f1)
set_option maxHeartbeats 4000000 in
set_option maxRecDepth 100000 in
theorem sv_X6_requirePossible {v : Int32}  (k1 : ¬ v = 0 → Q (.inl none) h) (k0 : v = 0 → Q (.inr "java/lang/IllegalStateException") h) : WPx E mX6_requirePossible 0 [some (.int v)] [] (1, 6) h Q := by
  refine wp_iload_n (M := mX6_requirePossible) (pc := 0) dX6_requirePossible_0 rfl ?_
  refine wp_if_ne (M := mX6_requirePossible) (pc := 1) (tgt := 15) dX6_requirePossible_1 rfl (fun t1 => ?_) (fun f1 => ?_)
  · refine wp_return (M := mX6_requirePossible) (pc := 15) rfl dX6_requirePossible_15 ?_
    exact k1 t1
  · exact wp_throw (M := mX6_requirePossible) (pc := 4) (text := "not possible now") tw_258 rfl (by decide) (by decide) (by decide) (by decide) (by decide) rfl dX6_requirePossible_4 dX6_requirePossible_7 dX6_requirePossible_8 dX6_requirePossible_11 dX6_requirePossible_14 (k0 f1)
set_option maxHeartbeats 4000000 in
set_option maxRecDepth 100000 in
theorem sp_X6_append {m q c u hi sl tx : Nat} {w : Int32} {txa n : Nat} {s : Nat → Nat} (hm : ObC h m q c u hi sl tx) (hX : TxC h tx txa s n) (k1 : ∀ j, j ≤ 255 → w = nI j → n < 160 → Q (.inl (some (.int (nI (n + 1))))) (si (si h txa n w) tx 1 (nI (n + 1)))) (k0 : ¬ wth w 0 255 → Q (.inr "java/lang/IllegalArgumentException") h) (k2 : wth w 0 255 → 160 ≤ n → Q (.inr "java/lang/IllegalStateException") h) : WPx E mX6_append 0 [some (.ref m), some (.int w)] [] (2, 12) h Q := by
  refine wp_iload_n (M := mX6_append) (pc := 0) dX6_append_0 rfl ?_
  refine wp_iconst (M := mX6_append) (pc := 1) (v := 0) dX6_append_1 ci_0 ?_
  refine wp_sipush (M := mX6_append) (pc := 2) (v := 255) dX6_append_2 ch_255 ?_
  refine so_S3 (M := mX6_append) (pc := 5) cs_X6_append_56 rfl rfl (LE rfl) (LE rfl) dX6_append_5 ?_
  refine sp_X6_isWithin ?_
  refine kI ?_
  refine so_SA1 (M := mX6_append) (pc := 8) (1, 6) cs_X6_append_60 rfl (LE rfl) (LE rfl) (LE rfl) (LE rfl) dX6_append_8 ?_
  refine sp_X6_requireArgument (fun hw => ?_) (fun hw => k0 hw)
  refine kV ?_
  refine wp_aload_n (M := mX6_append) (pc := 11) dX6_append_11 rfl ?_
  refine wp_getR (M := mX6_append) (pc := 12) fa_X6_44 rfl dX6_append_12 (by first | exact hm.1.1 | exact hX.1.1) hm.2.2.2.2.2.2 ?_
  refine so_V0 (M := mX6_append) (pc := 15) cs_X6_append_64 rfl rfl (LE rfl) (LE rfl) dX6_append_15 (by first | exact hm.1.1 | exact hX.1.1) ?_
  refine sp_X1_isFull hX ?_
  refine kI ?_
  refine wp_if_ne (M := mX6_append) (pc := 18) (tgt := 25) dX6_append_18 rfl (fun t18 => ?_) (fun f18 => ?_)
  · have hl : ¬ (0 : Int32) = 0 → n < 160 := fun e => absurd rfl e
    have hl0 : (0 : Int32) = 0 → 160 ≤ n := fun _ => b01_n t18
    refine wp_iconst (M := mX6_append) (pc := 25) (v := 0) dX6_append_25 ci_0 ?_
    refine so_SA1 (M := mX6_append) (pc := 26) (0, 0) cs_X6_append_68 rfl (LE rfl) (LE rfl) (LE rfl) (LE rfl) dX6_append_26 ?_
    refine sv_X6_requirePossible (fun hv => ?_) (fun hv => k2 hw (hl0 hv))
    refine kV ?_
    refine wp_aload_n (M := mX6_append) (pc := 29) dX6_append_29 rfl ?_
    refine wp_getR (M := mX6_append) (pc := 30) fa_X6_44 rfl dX6_append_30 (by first | exact hm.1.1 | exact hX.1.1) hm.2.2.2.2.2.2 ?_
    refine wp_iload_n (M := mX6_append) (pc := 33) dX6_append_33 rfl ?_
    refine so_V1 (M := mX6_append) (pc := 34) cs_X6_append_71 rfl rfl (LE rfl) (LE rfl) dX6_append_34 (by first | exact hm.1.1 | exact hX.1.1) ?_
    refine sp_X1_add hX (hl hv) ?_
    refine kI ?_
    refine wp_ireturn (M := mX6_append) (pc := 37) rfl dX6_append_37 ?_
    obtain ⟨j, hj, rfl⟩ := wth_nI (b := 255) (by decide) hw
    exact k1 j hj rfl (hl hv)
  · have hl : ¬ (1 : Int32) = 0 → n < 160 := fun _ => Nat.lt_of_not_le (b01_z f18)
    have hl0 : (1 : Int32) = 0 → 160 ≤ n := fun e => absurd e (by decide)
    refine wp_iconst (M := mX6_append) (pc := 21) (v := 1) dX6_append_21 ci_1 ?_
    refine wp_goto (M := mX6_append) (pc := 22) (tgt := 26) dX6_append_22 rfl ?_
    refine so_SA1 (M := mX6_append) (pc := 26) (0, 0) cs_X6_append_68 rfl (LE rfl) (LE rfl) (LE rfl) (LE rfl) dX6_append_26 ?_
    refine sv_X6_requirePossible (fun hv => ?_) (fun hv => k2 hw (hl0 hv))
    refine kV ?_
    refine wp_aload_n (M := mX6_append) (pc := 29) dX6_append_29 rfl ?_
    refine wp_getR (M := mX6_append) (pc := 30) fa_X6_44 rfl dX6_append_30 (by first | exact hm.1.1 | exact hX.1.1) hm.2.2.2.2.2.2 ?_
    refine wp_iload_n (M := mX6_append) (pc := 33) dX6_append_33 rfl ?_
    refine so_V1 (M := mX6_append) (pc := 34) cs_X6_append_71 rfl rfl (LE rfl) (LE rfl) dX6_append_34 (by first | exact hm.1.1 | exact hX.1.1) ?_
    refine sp_X1_add hX (hl hv) ?_
    refine kI ?_
    refine wp_ireturn (M := mX6_append) (pc := 37) rfl dX6_append_37 ?_
    obtain ⟨j, hj, rfl⟩ := wth_nI (b := 255) (by decide) hw
    exact k1 j hj rfl (hl hv)
end SP
