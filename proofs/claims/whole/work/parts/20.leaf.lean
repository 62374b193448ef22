section SP
variable {E : Ev} {h : PH} {Q : Rt → PH → Prop}
theorem wp_h {M : MX} {pc : Nat} {lo : List (Option Value)} {st : List Value} {r : Nat × Nat} {h' : PH} (e : h = h') (k : WPx E M pc lo st r h' Q) : WPx E M pc lo st r h Q := e ▸ k
def imin (a b : Int32) : Int32 := if b < a then b else a
def fmod (a b : Int32) : Int32 := if 0 ≤ (a ^^^ b) then a - a / b * b else if a - a / b * b = 0 then a - a / b * b else a - a / b * b + b
def labs (a : Int64) : Int64 := if a < 0 then -a else a
def lmax (a b : Int64) : Int64 := if a < b then b else a
set_option maxHeartbeats 4000000 in
set_option maxRecDepth 100000 in
theorem sp_J9_min_7cf53 {a b : Int32}  (k : Q (.inl (some (.int (imin a b)))) h) : WPx E mJ9_min_7cf53 0 [some (.int a), some (.int b)] [] (0, 0) h Q := by
  refine wp_iload_n (M := mJ9_min_7cf53) (pc := 0) dJ9_min_7cf53_0 rfl ?_
  refine wp_iload_n (M := mJ9_min_7cf53) (pc := 1) dJ9_min_7cf53_1 rfl ?_
  refine wp_icmp_gt (M := mJ9_min_7cf53) (pc := 2) (tgt := 9) dJ9_min_7cf53_2 rfl (fun c2 => ?_) (fun c2 => ?_)
  · refine wp_iload_n (M := mJ9_min_7cf53) (pc := 9) dJ9_min_7cf53_9 rfl ?_
    refine wp_ireturn (M := mJ9_min_7cf53) (pc := 10) rfl dJ9_min_7cf53_10 ?_
    first | (rw [imin, if_pos c2] at k; exact k) | (rw [imin, if_neg c2] at k; exact k)
  · refine wp_iload_n (M := mJ9_min_7cf53) (pc := 5) dJ9_min_7cf53_5 rfl ?_
    refine wp_goto (M := mJ9_min_7cf53) (pc := 6) (tgt := 10) dJ9_min_7cf53_6 rfl ?_
    refine wp_ireturn (M := mJ9_min_7cf53) (pc := 10) rfl dJ9_min_7cf53_10 ?_
    first | (rw [imin, if_pos c2] at k; exact k) | (rw [imin, if_neg c2] at k; exact k)
set_option maxHeartbeats 4000000 in
set_option maxRecDepth 100000 in
theorem sp_J9_floorMod_7cf53 {a b : Int32} (hb : ¬ b = 0) (k : Q (.inl (some (.int (fmod a b)))) h) : WPx E mJ9_floorMod_7cf53 0 [some (.int a), some (.int b), none] [] (0, 0) h Q := by
  refine wp_iload_n (M := mJ9_floorMod_7cf53) (pc := 0) dJ9_floorMod_7cf53_0 rfl ?_
  refine wp_iload_n (M := mJ9_floorMod_7cf53) (pc := 1) dJ9_floorMod_7cf53_1 rfl ?_
  refine wp_irem (M := mJ9_floorMod_7cf53) (pc := 2) dJ9_floorMod_7cf53_2 hb ?_
  refine so_istore_n (M := mJ9_floorMod_7cf53) (pc := 3) (lo' := [_, _, _]) dJ9_floorMod_7cf53_3 (LE rfl) (LE rfl) (Or.inr rfl) rfl ?_
  refine wp_iload_n (M := mJ9_floorMod_7cf53) (pc := 4) dJ9_floorMod_7cf53_4 rfl ?_
  refine wp_iload_n (M := mJ9_floorMod_7cf53) (pc := 5) dJ9_floorMod_7cf53_5 rfl ?_
  refine wp_ixor (M := mJ9_floorMod_7cf53) (pc := 6) dJ9_floorMod_7cf53_6 ?_
  refine wp_if_ge (M := mJ9_floorMod_7cf53) (pc := 7) (tgt := 18) dJ9_floorMod_7cf53_7 rfl (fun c7 => ?_) (fun c7 => ?_)
  · refine wp_iload_n (M := mJ9_floorMod_7cf53) (pc := 18) dJ9_floorMod_7cf53_18 rfl ?_
    refine wp_ireturn (M := mJ9_floorMod_7cf53) (pc := 19) rfl dJ9_floorMod_7cf53_19 ?_
    first | (rw [fmod, if_pos c7] at k; exact k) | (rw [fmod, if_neg c7, if_pos c11] at k; exact k)
  · refine wp_iload_n (M := mJ9_floorMod_7cf53) (pc := 10) dJ9_floorMod_7cf53_10 rfl ?_
    refine wp_if_eq (M := mJ9_floorMod_7cf53) (pc := 11) (tgt := 18) dJ9_floorMod_7cf53_11 rfl (fun c11 => ?_) (fun c11 => ?_)
    · refine wp_iload_n (M := mJ9_floorMod_7cf53) (pc := 18) dJ9_floorMod_7cf53_18 rfl ?_
      refine wp_ireturn (M := mJ9_floorMod_7cf53) (pc := 19) rfl dJ9_floorMod_7cf53_19 ?_
      first | (rw [fmod, if_pos c7] at k; exact k) | (rw [fmod, if_neg c7, if_pos c11] at k; exact k)
    · refine wp_iload_n (M := mJ9_floorMod_7cf53) (pc := 14) dJ9_floorMod_7cf53_14 rfl ?_
      refine wp_iload_n (M := mJ9_floorMod_7cf53) (pc := 15) dJ9_floorMod_7cf53_15 rfl ?_
      refine wp_iadd (M := mJ9_floorMod_7cf53) (pc := 16) dJ9_floorMod_7cf53_16 ?_
      refine wp_ireturn (M := mJ9_floorMod_7cf53) (pc := 17) rfl dJ9_floorMod_7cf53_17 ?_
      rw [fmod, if_neg c7, if_neg c11] at k; exact k
set_option maxHeartbeats 4000000 in
set_option maxRecDepth 100000 in
theorem sp_J9_abs_067f4 {a : Int64}  (k : Q (.inl (some (.long (labs a)))) h) : WPx E mJ9_abs_067f4 0 [some (.long a), none] [] (0, 0) h Q := by
  refine wp_lload_n (M := mJ9_abs_067f4) (pc := 0) dJ9_abs_067f4_0 rfl ?_
  refine wp_lconst (M := mJ9_abs_067f4) (pc := 1) (v := 0) dJ9_abs_067f4_1 cl_0 ?_
  refine wp_lcmp (M := mJ9_abs_067f4) (pc := 2) dJ9_abs_067f4_2 ?_
  refine wp_if_ge (M := mJ9_abs_067f4) (pc := 3) (tgt := 11) dJ9_abs_067f4_3 rfl (fun c3 => ?_) (fun c3 => ?_)
  · refine wp_lload_n (M := mJ9_abs_067f4) (pc := 11) dJ9_abs_067f4_11 rfl ?_
    refine wp_lreturn (M := mJ9_abs_067f4) (pc := 12) rfl dJ9_abs_067f4_12 ?_
    first | (rw [labs, if_neg (Int64.not_lt.mpr ((lg_cmp_ge _ _).mp c3))] at k; exact k) | (rw [labs, if_pos (Int64.not_le.mp (fun q => c3 ((lg_cmp_ge _ _).mpr q)))] at k; exact k)
  · refine wp_lload_n (M := mJ9_abs_067f4) (pc := 6) dJ9_abs_067f4_6 rfl ?_
    refine wp_lneg (M := mJ9_abs_067f4) (pc := 7) dJ9_abs_067f4_7 ?_
    refine wp_goto (M := mJ9_abs_067f4) (pc := 8) (tgt := 12) dJ9_abs_067f4_8 rfl ?_
    refine wp_lreturn (M := mJ9_abs_067f4) (pc := 12) rfl dJ9_abs_067f4_12 ?_
    first | (rw [labs, if_neg (Int64.not_lt.mpr ((lg_cmp_ge _ _).mp c3))] at k; exact k) | (rw [labs, if_pos (Int64.not_le.mp (fun q => c3 ((lg_cmp_ge _ _).mpr q)))] at k; exact k)
set_option maxHeartbeats 4000000 in
set_option maxRecDepth 100000 in
theorem sp_J9_max_f86c9 {a b : Int64}  (k : Q (.inl (some (.long (lmax a b)))) h) : WPx E mJ9_max_f86c9 0 [some (.long a), none, some (.long b), none] [] (0, 0) h Q := by
  refine wp_lload_n (M := mJ9_max_f86c9) (pc := 0) dJ9_max_f86c9_0 rfl ?_
  refine wp_lload_n (M := mJ9_max_f86c9) (pc := 1) dJ9_max_f86c9_1 rfl ?_
  refine wp_lcmp (M := mJ9_max_f86c9) (pc := 2) dJ9_max_f86c9_2 ?_
  refine wp_if_lt (M := mJ9_max_f86c9) (pc := 3) (tgt := 10) dJ9_max_f86c9_3 rfl (fun c3 => ?_) (fun c3 => ?_)
  · refine wp_lload_n (M := mJ9_max_f86c9) (pc := 10) dJ9_max_f86c9_10 rfl ?_
    refine wp_lreturn (M := mJ9_max_f86c9) (pc := 11) rfl dJ9_max_f86c9_11 ?_
    first | (rw [lmax, if_pos ((lg_cmp_lt _ _).mp c3)] at k; exact k) | (rw [lmax, if_neg (fun q => c3 ((lg_cmp_lt _ _).mpr q))] at k; exact k)
  · refine wp_lload_n (M := mJ9_max_f86c9) (pc := 6) dJ9_max_f86c9_6 rfl ?_
    refine wp_goto (M := mJ9_max_f86c9) (pc := 7) (tgt := 11) dJ9_max_f86c9_7 rfl ?_
    refine wp_lreturn (M := mJ9_max_f86c9) (pc := 11) rfl dJ9_max_f86c9_11 ?_
    first | (rw [lmax, if_pos ((lg_cmp_lt _ _).mp c3)] at k; exact k) | (rw [lmax, if_neg (fun q => c3 ((lg_cmp_lt _ _).mpr q))] at k; exact k)
theorem si_sw (h : PH) (a j : Nat) (f : Nat → Int32) (v : Int32) : si (sw h a f) a j v = sw h a (upd f j v) := by
  unfold si sw
  simp only [Prod.mk.injEq, and_true, true_and]
  funext b i
  by_cases hb : b = a
  · subst hb
    by_cases hi : i = j <;> simp [u2, u1, upd, hi]
  · simp [u2, u1, hb]
theorem si_is (h : PH) (a j : Nat) (v : Int32) : si h a j v = sw h a (upd (gi h a) j v) := by
  unfold si sw
  simp only [Prod.mk.injEq, and_true, true_and]
  funext b i
  by_cases hb : b = a
  · subst hb
    by_cases hi : i = j <;> simp [u2, u1, upd, hi, gi]
  · simp [u2, u1, hb]
theorem sw_sw (h : PH) (a : Nat) (f g : Nat → Int32) : sw (sw h a f) a g = sw h a g := by
  unfold sw
  simp only [Prod.mk.injEq, and_true, true_and]
  funext b
  by_cases hb : b = a <;> simp [u1, hb]
theorem sw_self (h : PH) (a : Nat) : sw h a (gi h a) = h := by
  unfold sw
  have : u1 h.2.1 a (gi h a) = h.2.1 := by
    funext b
    by_cases hb : b = a
    · subst hb; simp [u1, gi]
    · simp [u1, hb]
  rw [this]
theorem gi_sw_at (h : PH) (a : Nat) (f : Nat → Int32) : gi (sw h a f) a = f := by rw [gi_sw, u1_at]
theorem gi_sw_ne (h : PH) {a b : Nat} (f : Nat → Int32) (hb : b ≠ a) : gi (sw h a f) b = gi h b := by rw [gi_sw, u1_ne _ _ hb]
theorem gi_si_at (h : PH) (a j : Nat) (v : Int32) : gi (si h a j v) a = upd (gi h a) j v := si_up h a j v
theorem gi_si_ne (h : PH) {a b : Nat} (j : Nat) (v : Int32) (hb : b ≠ a) : gi (si h a j v) b = gi h b := u2_row _ _ hb
theorem upd_at (f : Nat → Int32) (k : Nat) (x : Int32) : upd f k x k = x := by simp [upd]
theorem upd_ne (f : Nat → Int32) {k j : Nat} (x : Int32) (h : j ≠ k) : upd f k x j = f j := by simp [upd, h]
/-- the sum of the first n -/
def sm (f : Nat → Int32) : Nat → Int32
  | 0 => 0
  | n + 1 => sm f n + f n
theorem i_le {a b : Nat} (ha : a < 2 ^ 31) (hb : b < 2 ^ 31) : nI a ≤ nI b ↔ a ≤ b := nI_leI ha hb
theorem i_lt {a b : Nat} (ha : a < 2 ^ 31) (hb : b < 2 ^ 31) : nI a < nI b ↔ a < b := nI_ltI ha hb
theorem i_eq {a b : Nat} (ha : a < 2 ^ 31) (hb : b < 2 ^ 31) : nI a = nI b ↔ a = b := nI_eq ha hb
theorem n_ge {i n : Nat} (hi : i ≤ n) (hn : n < 2 ^ 31) (c : nI n ≤ nI i) : i = n := by have := (nI_leI hn (by omega)).mp c; omega
theorem n_lt {i n : Nat} (hi : i ≤ n) (hn : n < 2 ^ 31) (c : ¬ nI n ≤ nI i) : i < n := by
  rcases Nat.lt_or_ge i n with q | q
  · exact q
  · exact absurd ((nI_leI hn (by omega)).mpr q) c
theorem fmod_nI {d : Nat} (hd : d < 2 ^ 31) : fmod (nI d) 51 = nI (d % 51) := by
  have h1 : nI d - nI d / 51 * 51 = nI (d % 51) := pk_rem (d := 51) hd (by decide) (by decide)
  have h2 : 0 ≤ (nI d ^^^ (51 : Int32)) := by
    rw [Int32.le_iff_toInt_le]
    have e1 : (nI d).toBitVec = BitVec.ofNat 32 d := rfl
    have : (nI d ^^^ (51 : Int32)).toInt = ((nI d).toBitVec ^^^ (51#32)).toInt := rfl
    rw [this, e1]
    have hm : (BitVec.ofNat 32 d ^^^ 51#32).toNat < 2 ^ 31 := by
      rw [BitVec.toNat_xor]
      simp only [BitVec.toNat_ofNat]
      apply Nat.xor_lt_two_pow
      · exact Nat.lt_of_le_of_lt (Nat.mod_le _ _) hd
      · decide
    rw [BitVec.toInt_eq_toNat_of_lt (by omega)]
    show (0 : Int) ≤ _
    omega
  rw [fmod, if_pos h2, h1]
/-- what takeUpTo takes, and the row that it leaves -/
def tkT (f : Nat → Int32) (n : Int32) : Int32 := imin (f 3) n + imin (f 2) (n - imin (f 3) n)
def tkF (f : Nat → Int32) (n : Int32) : Nat → Int32 := upd (upd f 3 (f 3 - imin (f 3) n)) 2 (f 2 - imin (f 2) (n - imin (f 3) n))
/-- the row that sendFirst leaves, a message of the size z -/
def sfF (f : Nat → Int32) (z : Int32) : Nat → Int32 := upd (tkF (upd f 7 (f 7 - 1)) z) 5 (f 5 + z)
/-- a tenant's row with its messages and its debts' row, as begin leaves it -/
def bgF (f : Nat → Int32) (cap rate cash : Int32) : Nat → Int32 := upd (upd (upd (upd (upd (upd (upd (upd f 0 cap) 1 rate) 4 cash) 2 cap) 3 0) 5 0) 6 0) 7 0
def zr (i : Nat) (g : Nat → Int32) : Nat → Int32 := fun j => if j < i then 0 else g j
theorem zr_up (i : Nat) (g : Nat → Int32) : upd (zr i g) i 0 = zr (i + 1) g := by
  funext j
  by_cases hj : j = i
  · subst hj; simp [upd, zr]
  · by_cases h2 : j < i
    · simp [upd, zr, hj, h2, Nat.lt_succ_of_lt h2]
    · have : ¬ j < i + 1 := by omega
      simp [upd, zr, hj, h2, this]
theorem zr_0 (g : Nat → Int32) : zr 0 g = g := by funext j; simp [zr]
/-- a queue, the places up to i moved down by one -/
def shf (i : Nat) (g : Nat → Int32) : Nat → Int32 := fun j => if j + 1 < i then g (j + 1) else g j
theorem shf_up {i : Nat} (hi : 1 ≤ i) (g : Nat → Int32) : upd (shf i g) (i - 1) (g i) = shf (i + 1) g := by
  funext j
  by_cases hj : j = i - 1
  · subst hj
    have e : i - 1 + 1 = i := by omega
    simp [upd, shf, e]
  · by_cases h2 : j + 1 < i
    · have : j + 1 < i + 1 := by omega
      simp [upd, shf, hj, h2, this]
    · have : ¬ j + 1 < i + 1 := by omega
      simp [upd, shf, hj, h2, this]
theorem shf_1 (g : Nat → Int32) : shf 1 g = g := by funext j; simp [shf]
theorem shf_ge {i : Nat} (g : Nat → Int32) : shf i g i = g i := by
  unfold shf; rw [if_neg (by omega)]
set_option maxHeartbeats 4000000 in
set_option maxRecDepth 100000 in
theorem sp_X5_credits {q : Nat} (hk : kd h q = some (.inl 5)) (k : Q (.inl (some (.int (gi h q 2 + gi h q 3)))) h) : WPx E mX5_credits 0 [some (.ref q)] [] (0, 0) h Q := by
  refine wp_aload_n (M := mX5_credits) (pc := 0) dX5_credits_0 rfl ?_
  refine wp_getI (M := mX5_credits) (pc := 1) fa_X5_28 rfl dX5_credits_1 (by assumption) ?_
  refine wp_aload_n (M := mX5_credits) (pc := 4) dX5_credits_4 rfl ?_
  refine wp_getI (M := mX5_credits) (pc := 5) fa_X5_31 rfl dX5_credits_5 (by assumption) ?_
  refine wp_iadd (M := mX5_credits) (pc := 8) dX5_credits_8 ?_
  refine wp_ireturn (M := mX5_credits) (pc := 9) rfl dX5_credits_9 ?_
  exact k
set_option maxHeartbeats 4000000 in
set_option maxRecDepth 100000 in
theorem sp_X5_takeUpTo {q : Nat} {n : Int32} (hk : kd h q = some (.inl 5)) (k : Q (.inl (some (.int (tkT (gi h q) n)))) (sw h q (tkF (gi h q) n))) : WPx E mX5_takeUpTo 0 [some (.ref q), some (.int n), none, none] [] (0, 0) h Q := by
  refine wp_aload_n (M := mX5_takeUpTo) (pc := 0) dX5_takeUpTo_0 rfl ?_
  refine wp_getI (M := mX5_takeUpTo) (pc := 1) fa_X5_31 rfl dX5_takeUpTo_1 (by assumption) ?_
  refine wp_iload_n (M := mX5_takeUpTo) (pc := 4) dX5_takeUpTo_4 rfl ?_
  refine so_S2 (M := mX5_takeUpTo) (pc := 5) cs_X5_takeUpTo_49 rfl rfl (LE rfl) (LE rfl) dX5_takeUpTo_5 ?_
  refine sp_J9_min_7cf53 ?_
  refine kI ?_
  refine so_istore_n (M := mX5_takeUpTo) (pc := 8) (lo' := [_, _, _, _]) dX5_takeUpTo_8 (LE rfl) (LE rfl) (Or.inr rfl) rfl ?_
  refine wp_aload_n (M := mX5_takeUpTo) (pc := 9) dX5_takeUpTo_9 rfl ?_
  refine wp_getI (M := mX5_takeUpTo) (pc := 10) fa_X5_28 rfl dX5_takeUpTo_10 (by assumption) ?_
  refine wp_iload_n (M := mX5_takeUpTo) (pc := 13) dX5_takeUpTo_13 rfl ?_
  refine wp_iload_n (M := mX5_takeUpTo) (pc := 14) dX5_takeUpTo_14 rfl ?_
  refine wp_isub (M := mX5_takeUpTo) (pc := 15) dX5_takeUpTo_15 ?_
  refine so_S2 (M := mX5_takeUpTo) (pc := 16) cs_X5_takeUpTo_49 rfl rfl (LE rfl) (LE rfl) dX5_takeUpTo_16 ?_
  refine sp_J9_min_7cf53 ?_
  refine kI ?_
  refine so_istore_n (M := mX5_takeUpTo) (pc := 19) (lo' := [_, _, _, _]) dX5_takeUpTo_19 (LE rfl) (LE rfl) (Or.inr rfl) rfl ?_
  refine wp_aload_n (M := mX5_takeUpTo) (pc := 20) dX5_takeUpTo_20 rfl ?_
  refine wp_dup (M := mX5_takeUpTo) (pc := 21) dX5_takeUpTo_21 rfl ?_
  refine wp_getI (M := mX5_takeUpTo) (pc := 22) fa_X5_31 rfl dX5_takeUpTo_22 (by assumption) ?_
  refine wp_iload_n (M := mX5_takeUpTo) (pc := 25) dX5_takeUpTo_25 rfl ?_
  refine wp_isub (M := mX5_takeUpTo) (pc := 26) dX5_takeUpTo_26 ?_
  refine wp_putI (M := mX5_takeUpTo) (pc := 27) fa_X5_31 (Or.inl rfl) dX5_takeUpTo_27 (by assumption) ?_
  refine wp_aload_n (M := mX5_takeUpTo) (pc := 30) dX5_takeUpTo_30 rfl ?_
  refine wp_dup (M := mX5_takeUpTo) (pc := 31) dX5_takeUpTo_31 rfl ?_
  refine wp_getI (M := mX5_takeUpTo) (pc := 32) fa_X5_28 rfl dX5_takeUpTo_32 (by assumption) ?_
  refine wp_iload_n (M := mX5_takeUpTo) (pc := 35) dX5_takeUpTo_35 rfl ?_
  refine wp_isub (M := mX5_takeUpTo) (pc := 36) dX5_takeUpTo_36 ?_
  refine wp_putI (M := mX5_takeUpTo) (pc := 37) fa_X5_28 (Or.inl rfl) dX5_takeUpTo_37 (by assumption) ?_
  refine wp_iload_n (M := mX5_takeUpTo) (pc := 40) dX5_takeUpTo_40 rfl ?_
  refine wp_iload_n (M := mX5_takeUpTo) (pc := 41) dX5_takeUpTo_41 rfl ?_
  refine wp_iadd (M := mX5_takeUpTo) (pc := 42) dX5_takeUpTo_42 ?_
  refine wp_ireturn (M := mX5_takeUpTo) (pc := 43) rfl dX5_takeUpTo_43 ?_
  have e : gi (si h q 3 (gi h q 3 - imin (gi h q 3) n)) q 2 = gi h q 2 := by rw [gi_si_at, upd_ne _ _ (by decide)]
  rw [e, si_is h q 3, si_sw]
  exact k
set_option maxHeartbeats 4000000 in
set_option maxRecDepth 100000 in
theorem sp_X5_isQueueFull {q ms : Nat} (hk : kd h q = some (.inl 5)) (hm : gr h q 8 = some ms) (hm2 : kd h ms = some (.inr (0, 8))) (k : Q (.inl (some (.int (if gi h q 7 < nI 8 then 0 else 1)))) h) : WPx E mX5_isQueueFull 0 [some (.ref q)] [] (0, 0) h Q := by
  refine wp_aload_n (M := mX5_isQueueFull) (pc := 0) dX5_isQueueFull_0 rfl ?_
  refine wp_getI (M := mX5_isQueueFull) (pc := 1) fa_X5_40 rfl dX5_isQueueFull_1 (by assumption) ?_
  refine wp_aload_n (M := mX5_isQueueFull) (pc := 4) dX5_isQueueFull_4 rfl ?_
  refine wp_getR (M := mX5_isQueueFull) (pc := 5) fa_X5_9 rfl dX5_isQueueFull_5 (by assumption) (by assumption) ?_
  refine wp_alen (M := mX5_isQueueFull) (pc := 8) dX5_isQueueFull_8 (by assumption) (by decide) ?_
  refine wp_icmp_lt (M := mX5_isQueueFull) (pc := 9) (tgt := 16) dX5_isQueueFull_9 rfl (fun c9 => ?_) (fun c9 => ?_)
  · refine wp_iconst (M := mX5_isQueueFull) (pc := 16) (v := 0) dX5_isQueueFull_16 ci_0 ?_
    refine wp_zreturn (M := mX5_isQueueFull) (pc := 17) rfl (by decide) dX5_isQueueFull_17 ?_
    first | (rw [if_pos c9] at k; exact k) | (rw [if_neg c9] at k; exact k)
  · refine wp_iconst (M := mX5_isQueueFull) (pc := 12) (v := 1) dX5_isQueueFull_12 ci_1 ?_
    refine wp_goto (M := mX5_isQueueFull) (pc := 13) (tgt := 17) dX5_isQueueFull_13 rfl ?_
    refine wp_zreturn (M := mX5_isQueueFull) (pc := 17) rfl (by decide) dX5_isQueueFull_17 ?_
    first | (rw [if_pos c9] at k; exact k) | (rw [if_neg c9] at k; exact k)
set_option maxHeartbeats 4000000 in
set_option maxRecDepth 100000 in
theorem sp_X5_sizeAt {q ms j : Nat} (hk : kd h q = some (.inl 5)) (hm : gr h q 8 = some ms) (hm2 : kd h ms = some (.inr (0, 8))) (hj : j < 8) (k : Q (.inl (some (.int (if nI j < gi h q 7 then gi h ms j else -9)))) h) : WPx E mX5_sizeAt 0 [some (.ref q), some (.int (nI j))] [] (0, 0) h Q := by
  refine wp_iload_n (M := mX5_sizeAt) (pc := 0) dX5_sizeAt_0 rfl ?_
  refine wp_if_lt (M := mX5_sizeAt) (pc := 1) (tgt := 30) dX5_sizeAt_1 rfl (fun c1 => ?_) (fun c1 => ?_)
  · exact absurd c1 (nI_pos (by omega))
  · refine wp_iload_n (M := mX5_sizeAt) (pc := 4) dX5_sizeAt_4 rfl ?_
    refine wp_aload_n (M := mX5_sizeAt) (pc := 5) dX5_sizeAt_5 rfl ?_
    refine wp_getI (M := mX5_sizeAt) (pc := 6) fa_X5_40 rfl dX5_sizeAt_6 (by assumption) ?_
    refine wp_icmp_ge (M := mX5_sizeAt) (pc := 9) (tgt := 30) dX5_sizeAt_9 rfl (fun c9 => ?_) (fun c9 => ?_)
    · refine wp_bipush (M := mX5_sizeAt) (pc := 30) (v := -9) dX5_sizeAt_30 cb_m9 ?_
      refine wp_ireturn (M := mX5_sizeAt) (pc := 32) rfl dX5_sizeAt_32 ?_
      first | (rw [if_pos (Int32.not_le.mp c9)] at k; exact k) | (rw [if_neg (Int32.not_lt.mpr c9)] at k; exact k)
    · refine wp_iload_n (M := mX5_sizeAt) (pc := 12) dX5_sizeAt_12 rfl ?_
      refine wp_aload_n (M := mX5_sizeAt) (pc := 13) dX5_sizeAt_13 rfl ?_
      refine wp_getR (M := mX5_sizeAt) (pc := 14) fa_X5_9 rfl dX5_sizeAt_14 (by assumption) (by assumption) ?_
      refine wp_alen (M := mX5_sizeAt) (pc := 17) dX5_sizeAt_17 (by assumption) (by decide) ?_
      refine wp_icmp_ge (M := mX5_sizeAt) (pc := 18) (tgt := 30) dX5_sizeAt_18 rfl (fun c18 => ?_) (fun c18 => ?_)
      · exact absurd ((i_le (by decide) (by omega)).mp c18) (by omega)
      · refine wp_aload_n (M := mX5_sizeAt) (pc := 21) dX5_sizeAt_21 rfl ?_
        refine wp_getR (M := mX5_sizeAt) (pc := 22) fa_X5_9 rfl dX5_sizeAt_22 (by assumption) (by assumption) ?_
        refine wp_iload_n (M := mX5_sizeAt) (pc := 25) dX5_sizeAt_25 rfl ?_
        refine wr_iaload (M := mX5_sizeAt) (pc := 26) dX5_sizeAt_26 (by assumption) rfl hj (by decide) ?_
        refine wp_goto (M := mX5_sizeAt) (pc := 27) (tgt := 32) dX5_sizeAt_27 rfl ?_
        refine wp_ireturn (M := mX5_sizeAt) (pc := 32) rfl dX5_sizeAt_32 ?_
        first | (rw [if_pos (Int32.not_le.mp c9)] at k; exact k) | (rw [if_neg (Int32.not_lt.mpr c9)] at k; exact k)
set_option maxHeartbeats 4000000 in
set_option maxRecDepth 100000 in
theorem sp_X5_queueMessage {q ms c : Nat} {z : Int32} (hk : kd h q = some (.inl 5)) (hm : gr h q 8 = some ms) (hm2 : kd h ms = some (.inr (0, 8))) (hq : q ≠ ms) (hc : gi h q 7 = nI c) (hc8 : c < 8) (k : Q (.inl (some (.int (nI (c + 1))))) (si (si h ms c z) q 7 (nI (c + 1)))) : WPx E mX5_queueMessage 0 [some (.ref q), some (.int z)] [] (0, 0) h Q := by
  refine wp_aload_n (M := mX5_queueMessage) (pc := 0) dX5_queueMessage_0 rfl ?_
  refine wp_getI (M := mX5_queueMessage) (pc := 1) fa_X5_40 rfl dX5_queueMessage_1 (by assumption) ?_
  refine wp_if_lt (M := mX5_queueMessage) (pc := 4) (tgt := 39) dX5_queueMessage_4 rfl (fun c4 => ?_) (fun c4 => ?_)
  · rw [hc] at c4; exact absurd c4 (nI_pos (by omega))
  · refine wp_aload_n (M := mX5_queueMessage) (pc := 7) dX5_queueMessage_7 rfl ?_
    refine wp_getI (M := mX5_queueMessage) (pc := 8) fa_X5_40 rfl dX5_queueMessage_8 (by assumption) ?_
    refine wp_aload_n (M := mX5_queueMessage) (pc := 11) dX5_queueMessage_11 rfl ?_
    refine wp_getR (M := mX5_queueMessage) (pc := 12) fa_X5_9 rfl dX5_queueMessage_12 (by assumption) (by assumption) ?_
    refine wp_alen (M := mX5_queueMessage) (pc := 15) dX5_queueMessage_15 (by assumption) (by decide) ?_
    refine wp_icmp_ge (M := mX5_queueMessage) (pc := 16) (tgt := 39) dX5_queueMessage_16 rfl (fun c16 => ?_) (fun c16 => ?_)
    · rw [hc] at c16; exact absurd ((i_le (by decide) (by omega)).mp c16) (by omega)
    · refine wp_aload_n (M := mX5_queueMessage) (pc := 19) dX5_queueMessage_19 rfl ?_
      refine wp_getR (M := mX5_queueMessage) (pc := 20) fa_X5_9 rfl dX5_queueMessage_20 (by assumption) (by assumption) ?_
      refine wp_aload_n (M := mX5_queueMessage) (pc := 23) dX5_queueMessage_23 rfl ?_
      refine wp_getI (M := mX5_queueMessage) (pc := 24) fa_X5_40 rfl dX5_queueMessage_24 (by assumption) ?_
      refine wp_iload_n (M := mX5_queueMessage) (pc := 27) dX5_queueMessage_27 rfl ?_
      refine wr_iastore (M := mX5_queueMessage) (pc := 28) dX5_queueMessage_28 (by assumption) hc hc8 (by decide) ?_
      refine wp_aload_n (M := mX5_queueMessage) (pc := 29) dX5_queueMessage_29 rfl ?_
      refine wp_dup (M := mX5_queueMessage) (pc := 30) dX5_queueMessage_30 rfl ?_
      refine wp_getI (M := mX5_queueMessage) (pc := 31) fa_X5_40 rfl dX5_queueMessage_31 (by assumption) ?_
      refine wp_iconst (M := mX5_queueMessage) (pc := 34) (v := 1) dX5_queueMessage_34 ci_1 ?_
      refine wp_iadd (M := mX5_queueMessage) (pc := 35) dX5_queueMessage_35 ?_
      refine wp_putI (M := mX5_queueMessage) (pc := 36) fa_X5_40 (Or.inl rfl) dX5_queueMessage_36 (by assumption) ?_
      refine wp_aload_n (M := mX5_queueMessage) (pc := 39) dX5_queueMessage_39 rfl ?_
      refine wp_getI (M := mX5_queueMessage) (pc := 40) fa_X5_40 rfl dX5_queueMessage_40 (by assumption) ?_
      refine wp_ireturn (M := mX5_queueMessage) (pc := 43) rfl dX5_queueMessage_43 ?_
      have e : gi (si h ms c z) q 7 = nI c := by rw [gi_si_ne _ _ _ hq, hc]
      rw [e, gi_si_at, upd_at, show nI c + 1 = nI (c + 1) from nI_1 c]
      exact k
set_option maxHeartbeats 4000000 in
set_option maxRecDepth 100000 in
theorem lp_X5_begin {q ow : Nat} {a b c : Int32} {g : Nat → Int32} (hk : kd h q = some (.inl 5)) (ho : gr h q 9 = some ow) (ho2 : kd h ow = some (.inr (0, 51))) (k : Q (.inl none) (sw h ow (zr 51 g))) : ∀ (m : Nat) (i : Nat), 51 - i < m → (i ≤ 51) → WPx E mX5_begin 43 [some (.ref q), some (.int a), some (.int b), some (.int c), some (.int (nI i))] [] (0, 0) (sw h ow (zr i g)) Q := by
  intro m
  induction m with
  | zero => intro i hm; exact absurd hm (Nat.not_lt_zero _)
  | succ m ih =>
    intro i hm hi
    refine wp_iload (M := mX5_begin) (pc := 43) dX5_begin_43 rfl ?_
    refine wp_aload_n (M := mX5_begin) (pc := 45) dX5_begin_45 rfl ?_
    refine wp_getR (M := mX5_begin) (pc := 46) fa_X5_15 rfl dX5_begin_46 (by assumption) (by assumption) ?_
    refine wp_alen (M := mX5_begin) (pc := 49) dX5_begin_49 (by assumption) (by decide) ?_
    refine wp_icmp_ge (M := mX5_begin) (pc := 50) (tgt := 67) dX5_begin_50 rfl (fun c50 => ?_) (fun c50 => ?_)
    · have hi2 := n_ge hi (by decide) c50
      subst hi2
      refine wp_return (M := mX5_begin) (pc := 67) rfl dX5_begin_67 ?_
      exact k
    · have hlt := n_lt hi (by decide) c50
      refine wp_aload_n (M := mX5_begin) (pc := 53) dX5_begin_53 rfl ?_
      refine wp_getR (M := mX5_begin) (pc := 54) fa_X5_15 rfl dX5_begin_54 (by assumption) (by assumption) ?_
      refine wp_iload (M := mX5_begin) (pc := 57) dX5_begin_57 rfl ?_
      refine wp_iconst (M := mX5_begin) (pc := 59) (v := 0) dX5_begin_59 ci_0 ?_
      refine wr_iastore (M := mX5_begin) (pc := 60) dX5_begin_60 (by assumption) rfl hlt (by decide) ?_
      refine so_iinc (M := mX5_begin) (pc := 61) (lo' := [_, _, _, _, _]) dX5_begin_61 rfl ci_1 (LE rfl) rfl ?_
      refine wp_goto (M := mX5_begin) (pc := 64) (tgt := 43) dX5_begin_64 rfl ?_
      rw [si_sw, zr_up, show nI i + 1 = nI (i + 1) from nI_1 i]
      exact ih (i + 1) (by omega) (by omega)
set_option maxHeartbeats 4000000 in
set_option maxRecDepth 100000 in
theorem sp_X5_begin {q ow : Nat} {a b c : Int32} (hk : kd h q = some (.inl 5)) (ho : gr h q 9 = some ow) (ho2 : kd h ow = some (.inr (0, 51))) (hq : ow ≠ q) (k : Q (.inl none) (sw (sw h q (bgF (gi h q) a b c)) ow (zr 51 (gi h ow)))) : WPx E mX5_begin 0 [some (.ref q), some (.int a), some (.int b), some (.int c), none] [] (0, 0) h Q := by
  refine wp_aload_n (M := mX5_begin) (pc := 0) dX5_begin_0 rfl ?_
  refine wp_iload_n (M := mX5_begin) (pc := 1) dX5_begin_1 rfl ?_
  refine wp_putI (M := mX5_begin) (pc := 2) fa_X5_18 (Or.inl rfl) dX5_begin_2 (by assumption) ?_
  refine wp_aload_n (M := mX5_begin) (pc := 5) dX5_begin_5 rfl ?_
  refine wp_iload_n (M := mX5_begin) (pc := 6) dX5_begin_6 rfl ?_
  refine wp_putI (M := mX5_begin) (pc := 7) fa_X5_22 (Or.inl rfl) dX5_begin_7 (by assumption) ?_
  refine wp_aload_n (M := mX5_begin) (pc := 10) dX5_begin_10 rfl ?_
  refine wp_iload_n (M := mX5_begin) (pc := 11) dX5_begin_11 rfl ?_
  refine wp_putI (M := mX5_begin) (pc := 12) fa_X5_25 (Or.inl rfl) dX5_begin_12 (by assumption) ?_
  refine wp_aload_n (M := mX5_begin) (pc := 15) dX5_begin_15 rfl ?_
  refine wp_iload_n (M := mX5_begin) (pc := 16) dX5_begin_16 rfl ?_
  refine wp_putI (M := mX5_begin) (pc := 17) fa_X5_28 (Or.inl rfl) dX5_begin_17 (by assumption) ?_
  refine wp_aload_n (M := mX5_begin) (pc := 20) dX5_begin_20 rfl ?_
  refine wp_iconst (M := mX5_begin) (pc := 21) (v := 0) dX5_begin_21 ci_0 ?_
  refine wp_putI (M := mX5_begin) (pc := 22) fa_X5_31 (Or.inl rfl) dX5_begin_22 (by assumption) ?_
  refine wp_aload_n (M := mX5_begin) (pc := 25) dX5_begin_25 rfl ?_
  refine wp_iconst (M := mX5_begin) (pc := 26) (v := 0) dX5_begin_26 ci_0 ?_
  refine wp_putI (M := mX5_begin) (pc := 27) fa_X5_34 (Or.inl rfl) dX5_begin_27 (by assumption) ?_
  refine wp_aload_n (M := mX5_begin) (pc := 30) dX5_begin_30 rfl ?_
  refine wp_iconst (M := mX5_begin) (pc := 31) (v := 0) dX5_begin_31 ci_0 ?_
  refine wp_putI (M := mX5_begin) (pc := 32) fa_X5_37 (Or.inl rfl) dX5_begin_32 (by assumption) ?_
  refine wp_aload_n (M := mX5_begin) (pc := 35) dX5_begin_35 rfl ?_
  refine wp_iconst (M := mX5_begin) (pc := 36) (v := 0) dX5_begin_36 ci_0 ?_
  refine wp_putI (M := mX5_begin) (pc := 37) fa_X5_40 (Or.inl rfl) dX5_begin_37 (by assumption) ?_
  refine wp_iconst (M := mX5_begin) (pc := 40) (v := 0) dX5_begin_40 ci_0 ?_
  refine so_istore (M := mX5_begin) (pc := 41) (lo' := [_, _, _, _, _]) dX5_begin_41 (LE rfl) (LE rfl) (Or.inr rfl) rfl ?_
  rw [si_is h q 0 a]
  simp only [si_sw]
  have e2 : sw (sw h q (bgF (gi h q) a b c)) ow (zr 0 (gi h ow)) = sw h q (bgF (gi h q) a b c) := by rw [zr_0, ← gi_sw_ne h (bgF (gi h q) a b c) hq, sw_self]
  have k2 := lp_X5_begin (E := E) (Q := Q) (h := sw h q (bgF (gi h q) a b c)) (a := a) (b := b) (c := c) hk ho ho2 k 52 0 (by omega) (by omega)
  rw [e2] at k2
  exact k2
set_option maxHeartbeats 4000000 in
set_option maxRecDepth 100000 in
theorem sp_X5_copyFrom {q ms ow o ms2 ow2 : Nat} (hk : kd h q = some (.inl 5)) (hm : gr h q 8 = some ms) (hm2 : kd h ms = some (.inr (0, 8))) (ho : gr h q 9 = some ow) (ho2 : kd h ow = some (.inr (0, 51))) (hkb : kd h o = some (.inl 5)) (hmb : gr h o 8 = some ms2) (hm2b : kd h ms2 = some (.inr (0, 8))) (hob : gr h o 9 = some ow2) (ho2b : kd h ow2 = some (.inr (0, 51))) (n1 : o ≠ q) (n2 : ms ≠ q) (n3 : ow ≠ q) (n4 : ms2 ≠ q) (n5 : ow2 ≠ q) (n6 : ow ≠ ms) (n7 : ow2 ≠ ms) (k : Q (.inl none) (sw (sw (sw h q (fun j => if j < 8 then gi h o j else gi h q j)) ms (va_cpy (gi h ms2) (gi h ms) 0 0 8)) ow (va_cpy (gi h ow2) (gi h ow) 0 0 51))) : WPx E mX5_copyFrom 0 [some (.ref q), some (.ref o)] [] (0, 0) h Q := by
  refine wp_aload_n (M := mX5_copyFrom) (pc := 0) dX5_copyFrom_0 rfl ?_
  refine wp_aload_n (M := mX5_copyFrom) (pc := 1) dX5_copyFrom_1 rfl ?_
  refine wp_getI (M := mX5_copyFrom) (pc := 2) fa_X5_18 rfl dX5_copyFrom_2 (by assumption) ?_
  refine wp_putI (M := mX5_copyFrom) (pc := 5) fa_X5_18 (Or.inl rfl) dX5_copyFrom_5 (by assumption) ?_
  refine wp_aload_n (M := mX5_copyFrom) (pc := 8) dX5_copyFrom_8 rfl ?_
  refine wp_aload_n (M := mX5_copyFrom) (pc := 9) dX5_copyFrom_9 rfl ?_
  refine wp_getI (M := mX5_copyFrom) (pc := 10) fa_X5_22 rfl dX5_copyFrom_10 (by assumption) ?_
  refine wp_putI (M := mX5_copyFrom) (pc := 13) fa_X5_22 (Or.inl rfl) dX5_copyFrom_13 (by assumption) ?_
  refine wp_aload_n (M := mX5_copyFrom) (pc := 16) dX5_copyFrom_16 rfl ?_
  refine wp_aload_n (M := mX5_copyFrom) (pc := 17) dX5_copyFrom_17 rfl ?_
  refine wp_getI (M := mX5_copyFrom) (pc := 18) fa_X5_28 rfl dX5_copyFrom_18 (by assumption) ?_
  refine wp_putI (M := mX5_copyFrom) (pc := 21) fa_X5_28 (Or.inl rfl) dX5_copyFrom_21 (by assumption) ?_
  refine wp_aload_n (M := mX5_copyFrom) (pc := 24) dX5_copyFrom_24 rfl ?_
  refine wp_aload_n (M := mX5_copyFrom) (pc := 25) dX5_copyFrom_25 rfl ?_
  refine wp_getI (M := mX5_copyFrom) (pc := 26) fa_X5_31 rfl dX5_copyFrom_26 (by assumption) ?_
  refine wp_putI (M := mX5_copyFrom) (pc := 29) fa_X5_31 (Or.inl rfl) dX5_copyFrom_29 (by assumption) ?_
  refine wp_aload_n (M := mX5_copyFrom) (pc := 32) dX5_copyFrom_32 rfl ?_
  refine wp_aload_n (M := mX5_copyFrom) (pc := 33) dX5_copyFrom_33 rfl ?_
  refine wp_getI (M := mX5_copyFrom) (pc := 34) fa_X5_25 rfl dX5_copyFrom_34 (by assumption) ?_
  refine wp_putI (M := mX5_copyFrom) (pc := 37) fa_X5_25 (Or.inl rfl) dX5_copyFrom_37 (by assumption) ?_
  refine wp_aload_n (M := mX5_copyFrom) (pc := 40) dX5_copyFrom_40 rfl ?_
  refine wp_aload_n (M := mX5_copyFrom) (pc := 41) dX5_copyFrom_41 rfl ?_
  refine wp_getI (M := mX5_copyFrom) (pc := 42) fa_X5_34 rfl dX5_copyFrom_42 (by assumption) ?_
  refine wp_putI (M := mX5_copyFrom) (pc := 45) fa_X5_34 (Or.inl rfl) dX5_copyFrom_45 (by assumption) ?_
  refine wp_aload_n (M := mX5_copyFrom) (pc := 48) dX5_copyFrom_48 rfl ?_
  refine wp_aload_n (M := mX5_copyFrom) (pc := 49) dX5_copyFrom_49 rfl ?_
  refine wp_getI (M := mX5_copyFrom) (pc := 50) fa_X5_37 rfl dX5_copyFrom_50 (by assumption) ?_
  refine wp_putI (M := mX5_copyFrom) (pc := 53) fa_X5_37 (Or.inl rfl) dX5_copyFrom_53 (by assumption) ?_
  refine wp_aload_n (M := mX5_copyFrom) (pc := 56) dX5_copyFrom_56 rfl ?_
  refine wp_aload_n (M := mX5_copyFrom) (pc := 57) dX5_copyFrom_57 rfl ?_
  refine wp_getI (M := mX5_copyFrom) (pc := 58) fa_X5_40 rfl dX5_copyFrom_58 (by assumption) ?_
  refine wp_putI (M := mX5_copyFrom) (pc := 61) fa_X5_40 (Or.inl rfl) dX5_copyFrom_61 (by assumption) ?_
  refine wp_aload_n (M := mX5_copyFrom) (pc := 64) dX5_copyFrom_64 rfl ?_
  refine wp_getR (M := mX5_copyFrom) (pc := 65) fa_X5_9 rfl dX5_copyFrom_65 (by assumption) (by assumption) ?_
  refine wp_iconst (M := mX5_copyFrom) (pc := 68) (v := 0) dX5_copyFrom_68 ci_0 ?_
  refine wp_aload_n (M := mX5_copyFrom) (pc := 69) dX5_copyFrom_69 rfl ?_
  refine wp_getR (M := mX5_copyFrom) (pc := 70) fa_X5_9 rfl dX5_copyFrom_70 (by assumption) (by assumption) ?_
  refine wp_iconst (M := mX5_copyFrom) (pc := 73) (v := 0) dX5_copyFrom_73 ci_0 ?_
  refine wp_bipush (M := mX5_copyFrom) (pc := 74) (v := 8) dX5_copyFrom_74 cb_8 ?_
  refine wp_copy (M := mX5_copyFrom) (pc := 76) wl_X5_43 w_cpN w_cpS wn_J10 (LE rfl) (LE rfl) dX5_copyFrom_76 (by assumption) (by assumption) (by decide) (by decide) (by decide) (LE rfl) (LE rfl) ?_
  refine wp_aload_n (M := mX5_copyFrom) (pc := 79) dX5_copyFrom_79 rfl ?_
  refine wp_getR (M := mX5_copyFrom) (pc := 80) fa_X5_15 rfl dX5_copyFrom_80 (by assumption) (by assumption) ?_
  refine wp_iconst (M := mX5_copyFrom) (pc := 83) (v := 0) dX5_copyFrom_83 ci_0 ?_
  refine wp_aload_n (M := mX5_copyFrom) (pc := 84) dX5_copyFrom_84 rfl ?_
  refine wp_getR (M := mX5_copyFrom) (pc := 85) fa_X5_15 rfl dX5_copyFrom_85 (by assumption) (by assumption) ?_
  refine wp_iconst (M := mX5_copyFrom) (pc := 88) (v := 0) dX5_copyFrom_88 ci_0 ?_
  refine wp_bipush (M := mX5_copyFrom) (pc := 89) (v := 51) dX5_copyFrom_89 cb_51 ?_
  refine wp_copy (M := mX5_copyFrom) (pc := 91) wl_X5_43 w_cpN w_cpS wn_J10 (LE rfl) (LE rfl) dX5_copyFrom_91 (by assumption) (by assumption) (by decide) (by decide) (by decide) (LE rfl) (LE rfl) ?_
  refine wp_return (M := mX5_copyFrom) (pc := 94) rfl dX5_copyFrom_94 ?_
  simp only [gi_si_ne _ _ _ n1, gi_si_ne _ _ _ n2, gi_si_ne _ _ _ n3, gi_si_ne _ _ _ n4, gi_si_ne _ _ _ n5, gi_sw_ne _ _ n6, gi_sw_ne _ _ n7]
  rw [si_is h q 0]
  simp only [si_sw]
  have e : (upd (upd (upd (upd (upd (upd (upd (upd (gi h q) 0 (gi h o 0)) 1 (gi h o 1)) 2 (gi h o 2)) 3 (gi h o 3)) 4 (gi h o 4)) 5 (gi h o 5)) 6 (gi h o 6)) 7 (gi h o 7)) = (fun j => if j < 8 then gi h o j else gi h q j) := by
    funext j
    rcases (show j = 0 ∨ j = 1 ∨ j = 2 ∨ j = 3 ∨ j = 4 ∨ j = 5 ∨ j = 6 ∨ j = 7 ∨ 8 ≤ j by omega) with rfl | rfl | rfl | rfl | rfl | rfl | rfl | rfl | hj
    all_goals first | rfl | skip
    have a8 : ¬ j < 8 := by omega
    simp only [a8, if_false]
    repeat rw [upd_ne _ _ (by omega)]
  rw [e]
  exact k
set_option maxHeartbeats 4000000 in
set_option maxRecDepth 100000 in
theorem lp_X5_sendFirst {q ms : Nat} {z : Int32} {g : Nat → Int32} (hk : kd h q = some (.inl 5)) (hm : gr h q 8 = some ms) (hm2 : kd h ms = some (.inr (0, 8))) (kk : WPx E mX5_sendFirst 38 [some (.ref q), some (.int z), some (.int (nI 8))] [] (0, 0) (sw h ms (shf 8 g)) Q) : ∀ (m : Nat) (i : Nat), 8 - i < m → (1 ≤ i) → (i ≤ 8) → WPx E mX5_sendFirst 9 [some (.ref q), some (.int z), some (.int (nI i))] [] (0, 0) (sw h ms (shf i g)) Q := by
  intro m
  induction m with
  | zero => intro i hm; exact absurd hm (Nat.not_lt_zero _)
  | succ m ih =>
    intro i hm h1 hi
    refine wp_iload_n (M := mX5_sendFirst) (pc := 9) dX5_sendFirst_9 rfl ?_
    refine wp_aload_n (M := mX5_sendFirst) (pc := 10) dX5_sendFirst_10 rfl ?_
    refine wp_getR (M := mX5_sendFirst) (pc := 11) fa_X5_9 rfl dX5_sendFirst_11 (by assumption) (by assumption) ?_
    refine wp_alen (M := mX5_sendFirst) (pc := 14) dX5_sendFirst_14 (by assumption) (by decide) ?_
    refine wp_icmp_ge (M := mX5_sendFirst) (pc := 15) (tgt := 38) dX5_sendFirst_15 rfl (fun c15 => ?_) (fun c15 => ?_)
    · have hi2 := n_ge hi (by decide) c15
      subst hi2
      exact kk
    · have hlt := n_lt hi (by decide) c15
      refine wp_aload_n (M := mX5_sendFirst) (pc := 18) dX5_sendFirst_18 rfl ?_
      refine wp_getR (M := mX5_sendFirst) (pc := 19) fa_X5_9 rfl dX5_sendFirst_19 (by assumption) (by assumption) ?_
      refine wp_iload_n (M := mX5_sendFirst) (pc := 22) dX5_sendFirst_22 rfl ?_
      refine wp_iconst (M := mX5_sendFirst) (pc := 23) (v := 1) dX5_sendFirst_23 ci_1 ?_
      refine wp_isub (M := mX5_sendFirst) (pc := 24) dX5_sendFirst_24 ?_
      refine wp_aload_n (M := mX5_sendFirst) (pc := 25) dX5_sendFirst_25 rfl ?_
      refine wp_getR (M := mX5_sendFirst) (pc := 26) fa_X5_9 rfl dX5_sendFirst_26 (by assumption) (by assumption) ?_
      refine wp_iload_n (M := mX5_sendFirst) (pc := 29) dX5_sendFirst_29 rfl ?_
      refine wr_iaload (M := mX5_sendFirst) (pc := 30) dX5_sendFirst_30 (by assumption) rfl hlt (by decide) ?_
      refine wr_iastore (M := mX5_sendFirst) (pc := 31) dX5_sendFirst_31 (by assumption) (by rw [show (1 : Int32) = nI 1 from rfl]; exact pk_sub h1) (by omega) (by decide) ?_
      refine so_iinc (M := mX5_sendFirst) (pc := 32) (lo' := [_, _, _]) dX5_sendFirst_32 rfl ci_1 (LE rfl) rfl ?_
      refine wp_goto (M := mX5_sendFirst) (pc := 35) (tgt := 9) dX5_sendFirst_35 rfl ?_
      rw [gi_sw_at, shf_ge, si_sw, shf_up h1, show nI i + 1 = nI (i + 1) from nI_1 i]
      exact ih (i + 1) (by omega) (by omega) (by omega)
set_option maxHeartbeats 4000000 in
set_option maxRecDepth 100000 in
theorem sp_X5_sendFirst {q ms : Nat} (hk : kd h q = some (.inl 5)) (hm : gr h q 8 = some ms) (hm2 : kd h ms = some (.inr (0, 8))) (hq : q ≠ ms) (k : Q (.inl (some (.int (gi h ms 0)))) (sw (sw h ms (shf 8 (gi h ms))) q (sfF (gi h q) (gi h ms 0)))) : WPx E mX5_sendFirst 0 [some (.ref q), none, none] [] (0, 0) h Q := by
  refine wp_aload_n (M := mX5_sendFirst) (pc := 0) dX5_sendFirst_0 rfl ?_
  refine wp_getR (M := mX5_sendFirst) (pc := 1) fa_X5_9 rfl dX5_sendFirst_1 (by assumption) (by assumption) ?_
  refine wp_iconst (M := mX5_sendFirst) (pc := 4) (v := 0) dX5_sendFirst_4 ci_0 ?_
  refine wr_iaload (M := mX5_sendFirst) (pc := 5) dX5_sendFirst_5 (by assumption) rfl (by decide) (by decide) ?_
  refine so_istore_n (M := mX5_sendFirst) (pc := 6) (lo' := [_, _, _]) dX5_sendFirst_6 (LE rfl) (LE rfl) (Or.inr rfl) rfl ?_
  refine wp_iconst (M := mX5_sendFirst) (pc := 7) (v := 1) dX5_sendFirst_7 ci_1 ?_
  refine so_istore_n (M := mX5_sendFirst) (pc := 8) (lo' := [_, _, _]) dX5_sendFirst_8 (LE rfl) (LE rfl) (Or.inr rfl) rfl ?_
  refine wp_h (M := mX5_sendFirst) (pc := 9) (show h = sw h ms (shf 1 (gi h ms)) by rw [shf_1, sw_self]) (lp_X5_sendFirst (g := gi h ms) (h := h) hk hm hm2 ?_ 8 1 (by omega) (by omega) (by omega))
  refine wp_aload_n (M := mX5_sendFirst) (pc := 38) dX5_sendFirst_38 rfl ?_
  refine wp_dup (M := mX5_sendFirst) (pc := 39) dX5_sendFirst_39 rfl ?_
  refine wp_getI (M := mX5_sendFirst) (pc := 40) fa_X5_40 rfl dX5_sendFirst_40 (by assumption) ?_
  refine wp_iconst (M := mX5_sendFirst) (pc := 43) (v := 1) dX5_sendFirst_43 ci_1 ?_
  refine wp_isub (M := mX5_sendFirst) (pc := 44) dX5_sendFirst_44 ?_
  refine wp_putI (M := mX5_sendFirst) (pc := 45) fa_X5_40 (Or.inl rfl) dX5_sendFirst_45 (by assumption) ?_
  refine wp_aload_n (M := mX5_sendFirst) (pc := 48) dX5_sendFirst_48 rfl ?_
  refine wp_iload_n (M := mX5_sendFirst) (pc := 49) dX5_sendFirst_49 rfl ?_
  refine so_V1 (M := mX5_sendFirst) (pc := 50) cs_X5_sendFirst_55 rfl rfl (LE rfl) (LE rfl) dX5_sendFirst_50 (by assumption) ?_
  refine sp_X5_takeUpTo hk ?_
  refine kI ?_
  refine wp_pop (M := mX5_sendFirst) (pc := 53) dX5_sendFirst_53 rfl ?_
  refine wp_aload_n (M := mX5_sendFirst) (pc := 54) dX5_sendFirst_54 rfl ?_
  refine wp_dup (M := mX5_sendFirst) (pc := 55) dX5_sendFirst_55 rfl ?_
  refine wp_getI (M := mX5_sendFirst) (pc := 56) fa_X5_34 rfl dX5_sendFirst_56 (by assumption) ?_
  refine wp_iload_n (M := mX5_sendFirst) (pc := 59) dX5_sendFirst_59 rfl ?_
  refine wp_iadd (M := mX5_sendFirst) (pc := 60) dX5_sendFirst_60 ?_
  refine wp_putI (M := mX5_sendFirst) (pc := 61) fa_X5_34 (Or.inl rfl) dX5_sendFirst_61 (by assumption) ?_
  refine wp_iload_n (M := mX5_sendFirst) (pc := 64) dX5_sendFirst_64 rfl ?_
  refine wp_ireturn (M := mX5_sendFirst) (pc := 65) rfl dX5_sendFirst_65 ?_
  have e1 : gi (sw h ms (shf 8 (gi h ms))) q = gi h q := gi_sw_ne _ _ hq
  have e5 : tkF (upd (gi h q) 7 (gi h q 7 - 1)) (gi h ms 0) 5 = gi h q 5 := by simp [tkF, upd]
  simp only [si_is, gi_sw_at, sw_sw, e1, e5]
  exact k
set_option maxHeartbeats 4000000 in
set_option maxRecDepth 100000 in
theorem sp_X5_owe {q ow d : Nat} {z : Int32} (hk : kd h q = some (.inl 5)) (ho : gr h q 9 = some ow) (ho2 : kd h ow = some (.inr (0, 51))) (hd : d < 2 ^ 31) (k : Q (.inl none) (si h ow (d % 51) (gi h ow (d % 51) + z))) : WPx E mX5_owe 0 [some (.ref q), some (.int z), some (.int (nI d))] [] (0, 0) h Q := by
  refine wp_aload_n (M := mX5_owe) (pc := 0) dX5_owe_0 rfl ?_
  refine wp_getR (M := mX5_owe) (pc := 1) fa_X5_15 rfl dX5_owe_1 (by assumption) (by assumption) ?_
  refine wp_iload_n (M := mX5_owe) (pc := 4) dX5_owe_4 rfl ?_
  refine wp_bipush (M := mX5_owe) (pc := 5) (v := 51) dX5_owe_5 cb_51 ?_
  refine so_S2 (M := mX5_owe) (pc := 7) cs_X5_owe_59 rfl rfl (LE rfl) (LE rfl) dX5_owe_7 ?_
  refine sp_J9_floorMod_7cf53 (by decide) ?_
  refine kI ?_
  refine wp_dup2 (M := mX5_owe) (pc := 10) dX5_owe_10 rfl rfl ?_
  refine wr_iaload (M := mX5_owe) (pc := 11) dX5_owe_11 (by assumption) (fmod_nI hd) (Nat.mod_lt _ (by decide)) (by decide) ?_
  refine wp_iload_n (M := mX5_owe) (pc := 12) dX5_owe_12 rfl ?_
  refine wp_iadd (M := mX5_owe) (pc := 13) dX5_owe_13 ?_
  refine wr_iastore (M := mX5_owe) (pc := 14) dX5_owe_14 (by assumption) (fmod_nI hd) (Nat.mod_lt _ (by decide)) (by decide) ?_
  refine wp_return (M := mX5_owe) (pc := 15) rfl dX5_owe_15 ?_
  exact k
set_option maxHeartbeats 4000000 in
set_option maxRecDepth 100000 in
theorem sp_X5_owedAt {q ow d : Nat} (hk : kd h q = some (.inl 5)) (ho : gr h q 9 = some ow) (ho2 : kd h ow = some (.inr (0, 51))) (hd : d < 2 ^ 31) (k : Q (.inl (some (.int (gi h ow (d % 51))))) h) : WPx E mX5_owedAt 0 [some (.ref q), some (.int (nI d))] [] (0, 0) h Q := by
  refine wp_aload_n (M := mX5_owedAt) (pc := 0) dX5_owedAt_0 rfl ?_
  refine wp_getR (M := mX5_owedAt) (pc := 1) fa_X5_15 rfl dX5_owedAt_1 (by assumption) (by assumption) ?_
  refine wp_iload_n (M := mX5_owedAt) (pc := 4) dX5_owedAt_4 rfl ?_
  refine wp_bipush (M := mX5_owedAt) (pc := 5) (v := 51) dX5_owedAt_5 cb_51 ?_
  refine so_S2 (M := mX5_owedAt) (pc := 7) cs_X5_owedAt_59 rfl rfl (LE rfl) (LE rfl) dX5_owedAt_7 ?_
  refine sp_J9_floorMod_7cf53 (by decide) ?_
  refine kI ?_
  refine wr_iaload (M := mX5_owedAt) (pc := 10) dX5_owedAt_10 (by assumption) (fmod_nI hd) (Nat.mod_lt _ (by decide)) (by decide) ?_
  refine wp_ireturn (M := mX5_owedAt) (pc := 11) rfl dX5_owedAt_11 ?_
  exact k
set_option maxHeartbeats 4000000 in
set_option maxRecDepth 100000 in
theorem lp_X5_owedInAll {q ow : Nat} {x5 : Option Value} (hk : kd h q = some (.inl 5)) (ho : gr h q 9 = some ow) (ho2 : kd h ow = some (.inr (0, 51))) (k : Q (.inl (some (.int (sm (gi h ow) 51)))) h) : ∀ (m : Nat) (i : Nat) (x5 : Option Value), 51 - i < m → (i ≤ 51) → WPx E mX5_owedInAll 13 [some (.ref q), some (.int (sm (gi h ow) i)), some (.ref ow), some (.int (nI 51)), some (.int (nI i)), x5] [] (0, 0) h Q := by
  intro m
  induction m with
  | zero => intro i x5 hm; exact absurd hm (Nat.not_lt_zero _)
  | succ m ih =>
    intro i x5 hm hi
    refine wp_iload (M := mX5_owedInAll) (pc := 13) dX5_owedInAll_13 rfl ?_
    refine wp_iload_n (M := mX5_owedInAll) (pc := 15) dX5_owedInAll_15 rfl ?_
    refine wp_icmp_ge (M := mX5_owedInAll) (pc := 16) (tgt := 36) dX5_owedInAll_16 rfl (fun c16 => ?_) (fun c16 => ?_)
    · have hi2 := n_ge hi (by decide) c16
      subst hi2
      refine wp_iload_n (M := mX5_owedInAll) (pc := 36) dX5_owedInAll_36 rfl ?_
      refine wp_ireturn (M := mX5_owedInAll) (pc := 37) rfl dX5_owedInAll_37 ?_
      exact k
    · have hlt := n_lt hi (by decide) c16
      refine wp_aload_n (M := mX5_owedInAll) (pc := 19) dX5_owedInAll_19 rfl ?_
      refine wp_iload (M := mX5_owedInAll) (pc := 20) dX5_owedInAll_20 rfl ?_
      refine wr_iaload (M := mX5_owedInAll) (pc := 22) dX5_owedInAll_22 (by assumption) rfl hlt (by decide) ?_
      refine so_istore (M := mX5_owedInAll) (pc := 23) (lo' := [_, _, _, _, _, _]) dX5_owedInAll_23 (LE rfl) (LE rfl) (Or.inr rfl) rfl ?_
      refine wp_iload_n (M := mX5_owedInAll) (pc := 25) dX5_owedInAll_25 rfl ?_
      refine wp_iload (M := mX5_owedInAll) (pc := 26) dX5_owedInAll_26 rfl ?_
      refine wp_iadd (M := mX5_owedInAll) (pc := 28) dX5_owedInAll_28 ?_
      refine so_istore_n (M := mX5_owedInAll) (pc := 29) (lo' := [_, _, _, _, _, _]) dX5_owedInAll_29 (LE rfl) (LE rfl) (Or.inr rfl) rfl ?_
      refine so_iinc (M := mX5_owedInAll) (pc := 30) (lo' := [_, _, _, _, _, _]) dX5_owedInAll_30 rfl ci_1 (LE rfl) rfl ?_
      refine wp_goto (M := mX5_owedInAll) (pc := 33) (tgt := 13) dX5_owedInAll_33 rfl ?_
      rw [show nI i + 1 = nI (i + 1) from nI_1 i]
      exact ih (i + 1) _ (by omega) (by omega)
set_option maxHeartbeats 4000000 in
set_option maxRecDepth 100000 in
theorem sp_X5_owedInAll {q ow : Nat} (hk : kd h q = some (.inl 5)) (ho : gr h q 9 = some ow) (ho2 : kd h ow = some (.inr (0, 51))) (k : Q (.inl (some (.int (sm (gi h ow) 51)))) h) : WPx E mX5_owedInAll 0 [some (.ref q), none, none, none, none, none] [] (0, 0) h Q := by
  refine wp_iconst (M := mX5_owedInAll) (pc := 0) (v := 0) dX5_owedInAll_0 ci_0 ?_
  refine so_istore_n (M := mX5_owedInAll) (pc := 1) (lo' := [_, _, _, _, _, _]) dX5_owedInAll_1 (LE rfl) (LE rfl) (Or.inr rfl) rfl ?_
  refine wp_aload_n (M := mX5_owedInAll) (pc := 2) dX5_owedInAll_2 rfl ?_
  refine wp_getR (M := mX5_owedInAll) (pc := 3) fa_X5_15 rfl dX5_owedInAll_3 (by assumption) (by assumption) ?_
  refine so_astore_n (M := mX5_owedInAll) (pc := 6) (lo' := [_, _, _, _, _, _]) dX5_owedInAll_6 (LE rfl) (LE rfl) (Or.inr rfl) rfl ?_
  refine wp_aload_n (M := mX5_owedInAll) (pc := 7) dX5_owedInAll_7 rfl ?_
  refine wp_alen (M := mX5_owedInAll) (pc := 8) dX5_owedInAll_8 (by assumption) (by decide) ?_
  refine so_istore_n (M := mX5_owedInAll) (pc := 9) (lo' := [_, _, _, _, _, _]) dX5_owedInAll_9 (LE rfl) (LE rfl) (Or.inr rfl) rfl ?_
  refine wp_iconst (M := mX5_owedInAll) (pc := 10) (v := 0) dX5_owedInAll_10 ci_0 ?_
  refine so_istore (M := mX5_owedInAll) (pc := 11) (lo' := [_, _, _, _, _, _]) dX5_owedInAll_11 (LE rfl) (LE rfl) (Or.inr rfl) rfl ?_
  exact lp_X5_owedInAll (x5 := none) hk ho ho2 k 52 0 none (by omega) (by omega)
set_option maxHeartbeats 4000000 in
set_option maxRecDepth 100000 in
theorem sp_X3_begin {q : Nat} {a b c d : Int32} (hk : kd h q = some (.inl 3)) (k : Q (.inl none) (si (si (si (si h q 0 a) q 1 b) q 2 c) q 3 d)) : WPx E mX3_begin 0 [some (.ref q), some (.int a), some (.int b), some (.int c), some (.int d)] [] (0, 0) h Q := by
  refine wp_aload_n (M := mX3_begin) (pc := 0) dX3_begin_0 rfl ?_
  refine wp_iload_n (M := mX3_begin) (pc := 1) dX3_begin_1 rfl ?_
  refine wp_putI (M := mX3_begin) (pc := 2) fa_X3_7 (Or.inl rfl) dX3_begin_2 (by assumption) ?_
  refine wp_aload_n (M := mX3_begin) (pc := 5) dX3_begin_5 rfl ?_
  refine wp_iload_n (M := mX3_begin) (pc := 6) dX3_begin_6 rfl ?_
  refine wp_putI (M := mX3_begin) (pc := 7) fa_X3_13 (Or.inl rfl) dX3_begin_7 (by assumption) ?_
  refine wp_aload_n (M := mX3_begin) (pc := 10) dX3_begin_10 rfl ?_
  refine wp_iload_n (M := mX3_begin) (pc := 11) dX3_begin_11 rfl ?_
  refine wp_putI (M := mX3_begin) (pc := 12) fa_X3_16 (Or.inl rfl) dX3_begin_12 (by assumption) ?_
  refine wp_aload_n (M := mX3_begin) (pc := 15) dX3_begin_15 rfl ?_
  refine wp_iload (M := mX3_begin) (pc := 16) dX3_begin_16 rfl ?_
  refine wp_putI (M := mX3_begin) (pc := 18) fa_X3_19 (Or.inl rfl) dX3_begin_18 (by assumption) ?_
  refine wp_return (M := mX3_begin) (pc := 21) rfl dX3_begin_21 ?_
  exact k
set_option maxHeartbeats 4000000 in
set_option maxRecDepth 100000 in
theorem sp_X3_init {q : Nat}  (k : Q (.inl none) h) : WPx E mX3_init 0 [some (.ref q)] [] (0, 0) h Q := by
  refine wp_aload_n (M := mX3_init) (pc := 0) dX3_init_0 rfl ?_
  refine wp_objInit (M := mX3_init) (pc := 1) wl_X3_1 w_objI w_objC (LE rfl) (LE rfl) dX3_init_1 ?_
  refine wp_return (M := mX3_init) (pc := 4) rfl dX3_init_4 ?_
  exact k
end SP
