section SP
variable {E : Ev} {h : PH} {Q : Rt → PH → Prop}
def imin (a b : Int32) : Int32 := if b < a then b else a
def fmod (a b : Int32) : Int32 := if 0 ≤ (a ^^^ b) then a - a / b * b else if a - a / b * b = 0 then a - a / b * b else a - a / b * b + b
def labs (a : Int64) : Int64 := if a < 0 then -a else a
def lmax (a b : Int64) : Int64 := if a < b then b else a
set_option maxHeartbeats 4000000 in
set_option maxRecDepth 100000 in
theorem sp_J9_min_7cf53 {a b : Int32}  (k : Q (.inl (some (.int (imin a b)))) h) : WPx E mJ9_min_7cf53 0 [some (.int a), some (.int b)] [] (0, 0) h Q := by
  refine wp_iload_n (M := mJ9_min_7cf53) dJ9_min_7cf53_0 rfl ?_
  refine wp_iload_n (M := mJ9_min_7cf53) dJ9_min_7cf53_1 rfl ?_
  refine wp_icmp_gt (M := mJ9_min_7cf53) (tgt := 9) dJ9_min_7cf53_2 rfl (fun c2 => ?_) (fun c2 => ?_)
  · refine wp_iload_n (M := mJ9_min_7cf53) dJ9_min_7cf53_9 rfl ?_
    refine wp_ireturn (M := mJ9_min_7cf53) rfl dJ9_min_7cf53_10 ?_
    first | (rw [imin, if_pos c2] at k; exact k) | (rw [imin, if_neg c2] at k; exact k)
  · refine wp_iload_n (M := mJ9_min_7cf53) dJ9_min_7cf53_5 rfl ?_
    refine wp_goto (M := mJ9_min_7cf53) (tgt := 10) dJ9_min_7cf53_6 rfl ?_
    refine wp_ireturn (M := mJ9_min_7cf53) rfl dJ9_min_7cf53_10 ?_
    first | (rw [imin, if_pos c2] at k; exact k) | (rw [imin, if_neg c2] at k; exact k)
set_option maxHeartbeats 4000000 in
set_option maxRecDepth 100000 in
theorem sp_J9_floorMod_7cf53 {a b : Int32} (hb : ¬ b = 0) (k : Q (.inl (some (.int (fmod a b)))) h) : WPx E mJ9_floorMod_7cf53 0 [some (.int a), some (.int b), none] [] (0, 0) h Q := by
  refine wp_iload_n (M := mJ9_floorMod_7cf53) dJ9_floorMod_7cf53_0 rfl ?_
  refine wp_iload_n (M := mJ9_floorMod_7cf53) dJ9_floorMod_7cf53_1 rfl ?_
  refine wp_irem (M := mJ9_floorMod_7cf53) dJ9_floorMod_7cf53_2 hb ?_
  refine so_istore_n (M := mJ9_floorMod_7cf53) (lo' := [_, _, _]) dJ9_floorMod_7cf53_3 (LE rfl) (LE rfl) (Or.inr rfl) rfl ?_
  refine wp_iload_n (M := mJ9_floorMod_7cf53) dJ9_floorMod_7cf53_4 rfl ?_
  refine wp_iload_n (M := mJ9_floorMod_7cf53) dJ9_floorMod_7cf53_5 rfl ?_
  refine wp_ixor (M := mJ9_floorMod_7cf53) dJ9_floorMod_7cf53_6 ?_
  refine wp_if_ge (M := mJ9_floorMod_7cf53) (tgt := 18) dJ9_floorMod_7cf53_7 rfl (fun c7 => ?_) (fun c7 => ?_)
  · refine wp_iload_n (M := mJ9_floorMod_7cf53) dJ9_floorMod_7cf53_18 rfl ?_
    refine wp_ireturn (M := mJ9_floorMod_7cf53) rfl dJ9_floorMod_7cf53_19 ?_
    first | (rw [fmod, if_pos c7] at k; exact k) | (rw [fmod, if_neg c7, if_pos c11] at k; exact k)
  · refine wp_iload_n (M := mJ9_floorMod_7cf53) dJ9_floorMod_7cf53_10 rfl ?_
    refine wp_if_eq (M := mJ9_floorMod_7cf53) (tgt := 18) dJ9_floorMod_7cf53_11 rfl (fun c11 => ?_) (fun c11 => ?_)
    · refine wp_iload_n (M := mJ9_floorMod_7cf53) dJ9_floorMod_7cf53_18 rfl ?_
      refine wp_ireturn (M := mJ9_floorMod_7cf53) rfl dJ9_floorMod_7cf53_19 ?_
      first | (rw [fmod, if_pos c7] at k; exact k) | (rw [fmod, if_neg c7, if_pos c11] at k; exact k)
    · refine wp_iload_n (M := mJ9_floorMod_7cf53) dJ9_floorMod_7cf53_14 rfl ?_
      refine wp_iload_n (M := mJ9_floorMod_7cf53) dJ9_floorMod_7cf53_15 rfl ?_
      refine wp_iadd (M := mJ9_floorMod_7cf53) dJ9_floorMod_7cf53_16 ?_
      refine wp_ireturn (M := mJ9_floorMod_7cf53) rfl dJ9_floorMod_7cf53_17 ?_
      rw [fmod, if_neg c7, if_neg c11] at k; exact k
set_option maxHeartbeats 4000000 in
set_option maxRecDepth 100000 in
theorem sp_J9_abs_067f4 {a : Int64}  (k : Q (.inl (some (.long (labs a)))) h) : WPx E mJ9_abs_067f4 0 [some (.long a), none] [] (0, 0) h Q := by
  refine wp_lload_n (M := mJ9_abs_067f4) dJ9_abs_067f4_0 rfl ?_
  refine wp_lconst (M := mJ9_abs_067f4) (v := 0) dJ9_abs_067f4_1 cl_0 ?_
  refine wp_lcmp (M := mJ9_abs_067f4) dJ9_abs_067f4_2 ?_
  refine wp_if_ge (M := mJ9_abs_067f4) (tgt := 11) dJ9_abs_067f4_3 rfl (fun c3 => ?_) (fun c3 => ?_)
  · refine wp_lload_n (M := mJ9_abs_067f4) dJ9_abs_067f4_11 rfl ?_
    refine wp_lreturn (M := mJ9_abs_067f4) rfl dJ9_abs_067f4_12 ?_
    first | (rw [labs, if_neg (Int64.not_lt.mpr ((lg_cmp_ge _ _).mp c3))] at k; exact k) | (rw [labs, if_pos (Int64.not_le.mp (fun q => c3 ((lg_cmp_ge _ _).mpr q)))] at k; exact k)
  · refine wp_lload_n (M := mJ9_abs_067f4) dJ9_abs_067f4_6 rfl ?_
    refine wp_lneg (M := mJ9_abs_067f4) dJ9_abs_067f4_7 ?_
    refine wp_goto (M := mJ9_abs_067f4) (tgt := 12) dJ9_abs_067f4_8 rfl ?_
    refine wp_lreturn (M := mJ9_abs_067f4) rfl dJ9_abs_067f4_12 ?_
    first | (rw [labs, if_neg (Int64.not_lt.mpr ((lg_cmp_ge _ _).mp c3))] at k; exact k) | (rw [labs, if_pos (Int64.not_le.mp (fun q => c3 ((lg_cmp_ge _ _).mpr q)))] at k; exact k)
set_option maxHeartbeats 4000000 in
set_option maxRecDepth 100000 in
theorem sp_J9_max_f86c9 {a b : Int64}  (k : Q (.inl (some (.long (lmax a b)))) h) : WPx E mJ9_max_f86c9 0 [some (.long a), none, some (.long b), none] [] (0, 0) h Q := by
  refine wp_lload_n (M := mJ9_max_f86c9) dJ9_max_f86c9_0 rfl ?_
  refine wp_lload_n (M := mJ9_max_f86c9) dJ9_max_f86c9_1 rfl ?_
  refine wp_lcmp (M := mJ9_max_f86c9) dJ9_max_f86c9_2 ?_
  refine wp_if_lt (M := mJ9_max_f86c9) (tgt := 10) dJ9_max_f86c9_3 rfl (fun c3 => ?_) (fun c3 => ?_)
  · refine wp_lload_n (M := mJ9_max_f86c9) dJ9_max_f86c9_10 rfl ?_
    refine wp_lreturn (M := mJ9_max_f86c9) rfl dJ9_max_f86c9_11 ?_
    first | (rw [lmax, if_pos ((lg_cmp_lt _ _).mp c3)] at k; exact k) | (rw [lmax, if_neg (fun q => c3 ((lg_cmp_lt _ _).mpr q))] at k; exact k)
  · refine wp_lload_n (M := mJ9_max_f86c9) dJ9_max_f86c9_6 rfl ?_
    refine wp_goto (M := mJ9_max_f86c9) (tgt := 11) dJ9_max_f86c9_7 rfl ?_
    refine wp_lreturn (M := mJ9_max_f86c9) rfl dJ9_max_f86c9_11 ?_
    first | (rw [lmax, if_pos ((lg_cmp_lt _ _).mp c3)] at k; exact k) | (rw [lmax, if_neg (fun q => c3 ((lg_cmp_lt _ _).mpr q))] at k; exact k)
/-- what takeUpTo takes of the stock, of the bucket -/
def tkS (h : PH) (q : Nat) (n : Int32) : Int32 := imin (gi h q 3) n
def tkB (h : PH) (q : Nat) (n : Int32) : Int32 := imin (gi h q 2) (n - tkS h q n)
def tkH (h : PH) (q : Nat) (n : Int32) : PH := si (si h q 3 (gi h q 3 - tkS h q n)) q 2 (gi h q 2 - tkB h q n)
set_option maxHeartbeats 4000000 in
set_option maxRecDepth 100000 in
theorem sp_X5_credits {q : Nat} (hk : kd h q = some (.inl 5)) (k : Q (.inl (some (.int (gi h q 2 + gi h q 3)))) h) : WPx E mX5_credits 0 [some (.ref q)] [] (0, 0) h Q := by
  refine wp_aload_n (M := mX5_credits) dX5_credits_0 rfl ?_
  refine wp_getI (M := mX5_credits) fa_X5_28 rfl dX5_credits_1 (by assumption) ?_
  refine wp_aload_n (M := mX5_credits) dX5_credits_4 rfl ?_
  refine wp_getI (M := mX5_credits) fa_X5_31 rfl dX5_credits_5 (by assumption) ?_
  refine wp_iadd (M := mX5_credits) dX5_credits_8 ?_
  refine wp_ireturn (M := mX5_credits) rfl dX5_credits_9 ?_
  exact k
set_option maxHeartbeats 4000000 in
set_option maxRecDepth 100000 in
theorem sp_X5_takeUpTo {q : Nat} {n : Int32} (hk : kd h q = some (.inl 5)) (k : Q (.inl (some (.int (tkS h q n + tkB h q n)))) (tkH h q n)) : WPx E mX5_takeUpTo 0 [some (.ref q), some (.int n), none, none] [] (0, 0) h Q := by
  refine wp_aload_n (M := mX5_takeUpTo) dX5_takeUpTo_0 rfl ?_
  refine wp_getI (M := mX5_takeUpTo) fa_X5_31 rfl dX5_takeUpTo_1 (by assumption) ?_
  refine wp_iload_n (M := mX5_takeUpTo) dX5_takeUpTo_4 rfl ?_
  refine so_S2 (M := mX5_takeUpTo) cs_X5_takeUpTo_49 rfl rfl (LE rfl) (LE rfl) dX5_takeUpTo_5 ?_
  refine sp_J9_min_7cf53 ?_
  refine kI ?_
  refine so_istore_n (M := mX5_takeUpTo) (lo' := [_, _, _, _]) dX5_takeUpTo_8 (LE rfl) (LE rfl) (Or.inr rfl) rfl ?_
  refine wp_aload_n (M := mX5_takeUpTo) dX5_takeUpTo_9 rfl ?_
  refine wp_getI (M := mX5_takeUpTo) fa_X5_28 rfl dX5_takeUpTo_10 (by assumption) ?_
  refine wp_iload_n (M := mX5_takeUpTo) dX5_takeUpTo_13 rfl ?_
  refine wp_iload_n (M := mX5_takeUpTo) dX5_takeUpTo_14 rfl ?_
  refine wp_isub (M := mX5_takeUpTo) dX5_takeUpTo_15 ?_
  refine so_S2 (M := mX5_takeUpTo) cs_X5_takeUpTo_49 rfl rfl (LE rfl) (LE rfl) dX5_takeUpTo_16 ?_
  refine sp_J9_min_7cf53 ?_
  refine kI ?_
  refine so_istore_n (M := mX5_takeUpTo) (lo' := [_, _, _, _]) dX5_takeUpTo_19 (LE rfl) (LE rfl) (Or.inr rfl) rfl ?_
  refine wp_aload_n (M := mX5_takeUpTo) dX5_takeUpTo_20 rfl ?_
  refine wp_dup (M := mX5_takeUpTo) dX5_takeUpTo_21 rfl ?_
  refine wp_getI (M := mX5_takeUpTo) fa_X5_31 rfl dX5_takeUpTo_22 (by assumption) ?_
  refine wp_iload_n (M := mX5_takeUpTo) dX5_takeUpTo_25 rfl ?_
  refine wp_isub (M := mX5_takeUpTo) dX5_takeUpTo_26 ?_
  refine wp_putI (M := mX5_takeUpTo) fa_X5_31 (Or.inl rfl) dX5_takeUpTo_27 (by assumption) ?_
  refine wp_aload_n (M := mX5_takeUpTo) dX5_takeUpTo_30 rfl ?_
  refine wp_dup (M := mX5_takeUpTo) dX5_takeUpTo_31 rfl ?_
  refine wp_getI (M := mX5_takeUpTo) fa_X5_28 rfl dX5_takeUpTo_32 (by assumption) ?_
  refine wp_iload_n (M := mX5_takeUpTo) dX5_takeUpTo_35 rfl ?_
  refine wp_isub (M := mX5_takeUpTo) dX5_takeUpTo_36 ?_
  refine wp_putI (M := mX5_takeUpTo) fa_X5_28 (Or.inl rfl) dX5_takeUpTo_37 (by assumption) ?_
  refine wp_iload_n (M := mX5_takeUpTo) dX5_takeUpTo_40 rfl ?_
  refine wp_iload_n (M := mX5_takeUpTo) dX5_takeUpTo_41 rfl ?_
  refine wp_iadd (M := mX5_takeUpTo) dX5_takeUpTo_42 ?_
  refine wp_ireturn (M := mX5_takeUpTo) rfl dX5_takeUpTo_43 ?_
  exact k
set_option maxHeartbeats 4000000 in
set_option maxRecDepth 100000 in
theorem sp_X5_isQueueFull {q ms : Nat} (hk : kd h q = some (.inl 5)) (hm : gr h q 8 = some ms) (hm2 : kd h ms = some (.inr (0, 8))) (k : Q (.inl (some (.int (if gi h q 7 < 8 then 0 else 1)))) h) : WPx E mX5_isQueueFull 0 [some (.ref q)] [] (0, 0) h Q := by
  refine wp_aload_n (M := mX5_isQueueFull) dX5_isQueueFull_0 rfl ?_
  refine wp_getI (M := mX5_isQueueFull) fa_X5_40 rfl dX5_isQueueFull_1 (by assumption) ?_
  refine wp_aload_n (M := mX5_isQueueFull) dX5_isQueueFull_4 rfl ?_
  refine wp_getR (M := mX5_isQueueFull) fa_X5_9 rfl dX5_isQueueFull_5 (by assumption) (by assumption) ?_
  refine wp_alen (M := mX5_isQueueFull) (by decide) dX5_isQueueFull_8 (by assumption) ?_
  refine wp_icmp_lt (M := mX5_isQueueFull) (tgt := 16) dX5_isQueueFull_9 rfl (fun c9 => ?_) (fun c9 => ?_)
  · refine wp_iconst (M := mX5_isQueueFull) (v := 0) dX5_isQueueFull_16 ci_0 ?_
    refine wp_zreturn (M := mX5_isQueueFull) rfl (by decide) dX5_isQueueFull_17 ?_
    first | (rw [if_pos c9] at k; exact k) | (rw [if_neg c9] at k; exact k)
  · refine wp_iconst (M := mX5_isQueueFull) (v := 1) dX5_isQueueFull_12 ci_1 ?_
    refine wp_goto (M := mX5_isQueueFull) (tgt := 17) dX5_isQueueFull_13 rfl ?_
    refine wp_zreturn (M := mX5_isQueueFull) rfl (by decide) dX5_isQueueFull_17 ?_
    first | (rw [if_pos c9] at k; exact k) | (rw [if_neg c9] at k; exact k)
end SP
