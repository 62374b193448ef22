section SP
variable {E : Ev} {h : PH} {Q : Rt → PH → Prop}
def imin (a b : Int32) : Int32 := if b < a then b else a
def fmod (a b : Int32) : Int32 := if 0 ≤ (a ^^^ b) then a - a / b * b else if a - a / b * b = 0 then a - a / b * b else a - a / b * b + b
def labs (a : Int64) : Int64 := if a < 0 then -a else a
def lmax (a b : Int64) : Int64 := if a < b then b else a
theorem lg_lt {a b : Int64} : lg_cmp a b < 0 ↔ a < b := by
  unfold lg_cmp; split
  · simp_all
  · split <;> simp_all
theorem lg_le {a b : Int64} : lg_cmp a b ≤ 0 ↔ a ≤ b := by
  unfold lg_cmp
  split
  · rename_i h1; simp; exact Int64.le_of_lt h1
  · rename_i h1
    split
    · rename_i h2; subst h2; simp
    · rename_i h2
      have : ¬ a ≤ b := fun q => h2 (Int64.le_antisymm q (Int64.not_lt.mp h1))
      simp [this]
set_option maxHeartbeats 4000000 in
set_option maxRecDepth 100000 in
theorem sp_J9_min_7cf53 {a b : Int32}  (k : Q (.inl (some (.int (imin a b)))) h) : WPx E mJ9_min_7cf53 0 [some (.int a), some (.int b)] [] (0, 0) h Q := by
  refine wp_iload_n dJ9_min_7cf53_0 rfl ?_
  refine wp_iload_n dJ9_min_7cf53_1 rfl ?_
  refine wp_icmp_gt (tgt := 9) dJ9_min_7cf53_2 rfl (fun c2 => ?_) (fun c2 => ?_)
  · refine wp_iload_n dJ9_min_7cf53_9 rfl ?_
    refine wp_ireturn rfl dJ9_min_7cf53_10 ?_
    first | (rw [imin, if_pos c2] at k; exact k) | (rw [imin, if_neg c2] at k; exact k)
  · refine wp_iload_n dJ9_min_7cf53_5 rfl ?_
    refine wp_goto (tgt := 10) dJ9_min_7cf53_6 rfl ?_
    refine wp_ireturn rfl dJ9_min_7cf53_10 ?_
    first | (rw [imin, if_pos c2] at k; exact k) | (rw [imin, if_neg c2] at k; exact k)
set_option maxHeartbeats 4000000 in
set_option maxRecDepth 100000 in
theorem sp_J9_floorMod_7cf53 {a b : Int32} (hb : ¬ b = 0) (k : Q (.inl (some (.int (fmod a b)))) h) : WPx E mJ9_floorMod_7cf53 0 [some (.int a), some (.int b), none] [] (0, 0) h Q := by
  refine wp_iload_n dJ9_floorMod_7cf53_0 rfl ?_
  refine wp_iload_n dJ9_floorMod_7cf53_1 rfl ?_
  refine wp_irem dJ9_floorMod_7cf53_2 hb ?_
  refine so_istore_n (lo' := [_, _, _]) dJ9_floorMod_7cf53_3 (LE rfl) (LE rfl) (Or.inr rfl) rfl ?_
  refine wp_iload_n dJ9_floorMod_7cf53_4 rfl ?_
  refine wp_iload_n dJ9_floorMod_7cf53_5 rfl ?_
  refine wp_ixor dJ9_floorMod_7cf53_6 ?_
  refine wp_if_ge (tgt := 18) dJ9_floorMod_7cf53_7 rfl (fun c7 => ?_) (fun c7 => ?_)
  · refine wp_iload_n dJ9_floorMod_7cf53_18 rfl ?_
    refine wp_ireturn rfl dJ9_floorMod_7cf53_19 ?_
    first | (rw [fmod, if_pos c7] at k; exact k) | (rw [fmod, if_neg c7, if_pos c11] at k; exact k)
  · refine wp_iload_n dJ9_floorMod_7cf53_10 rfl ?_
    refine wp_if_eq (tgt := 18) dJ9_floorMod_7cf53_11 rfl (fun c11 => ?_) (fun c11 => ?_)
    · refine wp_iload_n dJ9_floorMod_7cf53_18 rfl ?_
      refine wp_ireturn rfl dJ9_floorMod_7cf53_19 ?_
      first | (rw [fmod, if_pos c7] at k; exact k) | (rw [fmod, if_neg c7, if_pos c11] at k; exact k)
    · refine wp_iload_n dJ9_floorMod_7cf53_14 rfl ?_
      refine wp_iload_n dJ9_floorMod_7cf53_15 rfl ?_
      refine wp_iadd dJ9_floorMod_7cf53_16 ?_
      refine wp_ireturn rfl dJ9_floorMod_7cf53_17 ?_
      rw [fmod, if_neg c7, if_neg c11] at k; exact k
#print lg_cmp
end SP
