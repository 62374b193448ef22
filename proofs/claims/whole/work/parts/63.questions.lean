section SP
variable {E : Ev} {h : PH} {Q : Rt → PH → Prop}
noncomputable def cif {α : Type} (P : Prop) (a b : α) : α := @ite α P (Classical.propDecidable P) a b
theorem cif_t {α : Type} {P : Prop} {a b : α} (h : P) : cif P a b = a := by unfold cif; exact @if_pos P (Classical.propDecidable P) h _ _ _
theorem cif_f {α : Type} {P : Prop} {a b : α} (h : ¬ P) : cif P a b = b := by unfold cif; exact @if_neg P (Classical.propDecidable P) h _ _ _
def rmI (a b : Int32) : Int32 := a - a / b * b
/-- priceFor -/
def pfA (A : Sta) (z : Int32) : Nat → Nat → Int32
  | 0, _ => -9
  | f + 1, p => if offA A (nI p) - wantA A (nI p) < z then pfA A z f (p + 1) else nI p
theorem pfA_y {A : Sta} {z : Int32} {f p : Nat} (h : ¬ offA A (nI p) - wantA A (nI p) < z) : pfA A z (f + 1) p = nI p := if_neg h
theorem pfA_n {A : Sta} {z : Int32} {f p : Nat} (h : offA A (nI p) - wantA A (nI p) < z) : pfA A z (f + 1) p = pfA A z f (p + 1) := if_pos h
/-- fairness -/
def fsm (A : Sta) : Nat → Int64
  | 0 => 0
  | t + 1 => fsm A t + (fT A t 5).toInt64
def fsq (A : Sta) : Nat → Int64
  | 0 => 0
  | t + 1 => fsq A t + (fT A t 5).toInt64 * (fT A t 5).toInt64
def faiA (A : Sta) (v : Int32) : Int64 := if fsq A (sN A) = 0 then 1 else lowT (fsm A (sN A) * fsm A (sN A)) ((nI (sN A)).toInt64 * fsq A (sN A)) v
/-- share -/
def ones : Nat → Nat
  | 0 => 0
  | n + 1 => (n + 1) % 2 + ones ((n + 1) / 2)
def ownB (t : Nat) : Int32 := (1 : Int32) <<< (nI t &&& 31)
def shT (A : Sta) (t c : Nat) : Int64 := (surA A (nI c ||| ownB t) - surA A (nI c)).toInt64 * (facv (ones c)).toInt64 * (facv (sN A - 1 - ones c)).toInt64
def shS (A : Sta) (t : Nat) : Nat → Int64
  | 0 => 0
  | c + 1 => if nI c &&& ownB t = 0 then shS A t c + shT A t c else shS A t c
theorem shS_y {A : Sta} {t c : Nat} (h : nI c &&& ownB t = 0) : shS A t (c + 1) = shS A t c + shT A t c := if_pos h
theorem shS_n {A : Sta} {t c : Nat} (h : ¬ nI c &&& ownB t = 0) : shS A t (c + 1) = shS A t c := if_neg h
def shaA (A : Sta) (t : Nat) (v : Int32) : Int32 := (lowT (shS A t (2 ^ sN A)) (facv (sN A)).toInt64 v).toInt32
theorem shl_n : ∀ n : Nat, n < 7 → (1 : Int32) <<< (nI n &&& 31) = nI (2 ^ n) := by decide
theorem two_n {n : Nat} (h : n ≤ 6) : 2 ^ n ≤ 64 := by
  have : 2 ^ n ≤ 2 ^ 6 := Nat.pow_le_pow_right (by decide) h
  exact this
theorem ones_b : ∀ n : Nat, n < 7 → ∀ c : Nat, c < 2 ^ n → ones c ≤ n := by decide +kernel
theorem ones_s : ∀ n : Nat, n < 7 → ∀ t : Nat, t < n → ∀ c : Nat, c < 2 ^ n → nI c &&& ownB t = 0 → ones c + 1 ≤ n := by decide +kernel
/-- what bitCount computes -/
def bc1 (x : Int32) : Int32 := x - ((x.toUInt32 >>> (Int32.toUInt32 1 &&& Int32.toUInt32 31)).toInt32 &&& 1431655765)
def bc2 (x : Int32) : Int32 := (x &&& 858993459) + ((x.toUInt32 >>> (Int32.toUInt32 2 &&& Int32.toUInt32 31)).toInt32 &&& 858993459)
def bc3 (x : Int32) : Int32 := (x + (x.toUInt32 >>> (Int32.toUInt32 4 &&& Int32.toUInt32 31)).toInt32) &&& 252645135
def bc4 (x : Int32) : Int32 := x + (x.toUInt32 >>> (Int32.toUInt32 8 &&& Int32.toUInt32 31)).toInt32
def bc5 (x : Int32) : Int32 := x + (x.toUInt32 >>> (Int32.toUInt32 16 &&& Int32.toUInt32 31)).toInt32
def bcn (x : Int32) : Int32 := bc5 (bc4 (bc3 (bc2 (bc1 x)))) &&& 63
theorem bcn_n : ∀ c : Nat, c < 64 → bcn (nI c) = nI (ones c) := by decide +kernel
set_option maxHeartbeats 4000000 in
set_option maxRecDepth 100000 in
theorem sp_J6_bitCount_0f7a4 {a : Int32}  (k : Q (.inl (some (.int (bcn a)))) h) : WPx E mJ6_bitCount_0f7a4 0 [some (.int a)] [] (0, 0) h Q := by
  refine wp_iload_n (M := mJ6_bitCount_0f7a4) (pc := 0) dJ6_bitCount_0f7a4_0 rfl ?_
  refine wp_iload_n (M := mJ6_bitCount_0f7a4) (pc := 1) dJ6_bitCount_0f7a4_1 rfl ?_
  refine wp_iconst (M := mJ6_bitCount_0f7a4) (pc := 2) (v := 1) dJ6_bitCount_0f7a4_2 ci_1 ?_
  refine wp_iushr (M := mJ6_bitCount_0f7a4) (pc := 3) dJ6_bitCount_0f7a4_3 rfl ?_
  refine wp_ldc_w (M := mJ6_bitCount_0f7a4) (pc := 4) wv_J6_265 dJ6_bitCount_0f7a4_4 ?_
  refine wp_iand (M := mJ6_bitCount_0f7a4) (pc := 7) dJ6_bitCount_0f7a4_7 ?_
  refine wp_isub (M := mJ6_bitCount_0f7a4) (pc := 8) dJ6_bitCount_0f7a4_8 ?_
  refine so_istore_n (M := mJ6_bitCount_0f7a4) (pc := 9) (lo' := [_]) dJ6_bitCount_0f7a4_9 (LE rfl) (LE rfl) (Or.inl rfl) rfl ?_
  refine wp_iload_n (M := mJ6_bitCount_0f7a4) (pc := 10) dJ6_bitCount_0f7a4_10 rfl ?_
  refine wp_ldc_w (M := mJ6_bitCount_0f7a4) (pc := 11) wv_J6_266 dJ6_bitCount_0f7a4_11 ?_
  refine wp_iand (M := mJ6_bitCount_0f7a4) (pc := 14) dJ6_bitCount_0f7a4_14 ?_
  refine wp_iload_n (M := mJ6_bitCount_0f7a4) (pc := 15) dJ6_bitCount_0f7a4_15 rfl ?_
  refine wp_iconst (M := mJ6_bitCount_0f7a4) (pc := 16) (v := 2) dJ6_bitCount_0f7a4_16 ci_2 ?_
  refine wp_iushr (M := mJ6_bitCount_0f7a4) (pc := 17) dJ6_bitCount_0f7a4_17 rfl ?_
  refine wp_ldc_w (M := mJ6_bitCount_0f7a4) (pc := 18) wv_J6_266 dJ6_bitCount_0f7a4_18 ?_
  refine wp_iand (M := mJ6_bitCount_0f7a4) (pc := 21) dJ6_bitCount_0f7a4_21 ?_
  refine wp_iadd (M := mJ6_bitCount_0f7a4) (pc := 22) dJ6_bitCount_0f7a4_22 ?_
  refine so_istore_n (M := mJ6_bitCount_0f7a4) (pc := 23) (lo' := [_]) dJ6_bitCount_0f7a4_23 (LE rfl) (LE rfl) (Or.inl rfl) rfl ?_
  refine wp_iload_n (M := mJ6_bitCount_0f7a4) (pc := 24) dJ6_bitCount_0f7a4_24 rfl ?_
  refine wp_iload_n (M := mJ6_bitCount_0f7a4) (pc := 25) dJ6_bitCount_0f7a4_25 rfl ?_
  refine wp_iconst (M := mJ6_bitCount_0f7a4) (pc := 26) (v := 4) dJ6_bitCount_0f7a4_26 ci_4 ?_
  refine wp_iushr (M := mJ6_bitCount_0f7a4) (pc := 27) dJ6_bitCount_0f7a4_27 rfl ?_
  refine wp_iadd (M := mJ6_bitCount_0f7a4) (pc := 28) dJ6_bitCount_0f7a4_28 ?_
  refine wp_ldc_w (M := mJ6_bitCount_0f7a4) (pc := 29) wv_J6_267 dJ6_bitCount_0f7a4_29 ?_
  refine wp_iand (M := mJ6_bitCount_0f7a4) (pc := 32) dJ6_bitCount_0f7a4_32 ?_
  refine so_istore_n (M := mJ6_bitCount_0f7a4) (pc := 33) (lo' := [_]) dJ6_bitCount_0f7a4_33 (LE rfl) (LE rfl) (Or.inl rfl) rfl ?_
  refine wp_iload_n (M := mJ6_bitCount_0f7a4) (pc := 34) dJ6_bitCount_0f7a4_34 rfl ?_
  refine wp_iload_n (M := mJ6_bitCount_0f7a4) (pc := 35) dJ6_bitCount_0f7a4_35 rfl ?_
  refine wp_bipush (M := mJ6_bitCount_0f7a4) (pc := 36) (v := 8) dJ6_bitCount_0f7a4_36 cb_8 ?_
  refine wp_iushr (M := mJ6_bitCount_0f7a4) (pc := 38) dJ6_bitCount_0f7a4_38 rfl ?_
  refine wp_iadd (M := mJ6_bitCount_0f7a4) (pc := 39) dJ6_bitCount_0f7a4_39 ?_
  refine so_istore_n (M := mJ6_bitCount_0f7a4) (pc := 40) (lo' := [_]) dJ6_bitCount_0f7a4_40 (LE rfl) (LE rfl) (Or.inl rfl) rfl ?_
  refine wp_iload_n (M := mJ6_bitCount_0f7a4) (pc := 41) dJ6_bitCount_0f7a4_41 rfl ?_
  refine wp_iload_n (M := mJ6_bitCount_0f7a4) (pc := 42) dJ6_bitCount_0f7a4_42 rfl ?_
  refine wp_bipush (M := mJ6_bitCount_0f7a4) (pc := 43) (v := 16) dJ6_bitCount_0f7a4_43 cb_16 ?_
  refine wp_iushr (M := mJ6_bitCount_0f7a4) (pc := 45) dJ6_bitCount_0f7a4_45 rfl ?_
  refine wp_iadd (M := mJ6_bitCount_0f7a4) (pc := 46) dJ6_bitCount_0f7a4_46 ?_
  refine so_istore_n (M := mJ6_bitCount_0f7a4) (pc := 47) (lo' := [_]) dJ6_bitCount_0f7a4_47 (LE rfl) (LE rfl) (Or.inl rfl) rfl ?_
  refine wp_iload_n (M := mJ6_bitCount_0f7a4) (pc := 48) dJ6_bitCount_0f7a4_48 rfl ?_
  refine wp_bipush (M := mJ6_bitCount_0f7a4) (pc := 49) (v := 63) dJ6_bitCount_0f7a4_49 cb_63 ?_
  refine wp_iand (M := mJ6_bitCount_0f7a4) (pc := 51) dJ6_bitCount_0f7a4_51 ?_
  refine wp_ireturn (M := mJ6_bitCount_0f7a4) (pc := 52) rfl dJ6_bitCount_0f7a4_52 ?_
  exact k
set_option maxHeartbeats 4000000 in
set_option maxRecDepth 100000 in
theorem lp_X6_priceFor {me q c u hi sl tx ka pa fa la hsa txa x : Nat} {l lc : Lt} {cs ss : Nat → Option (Nat × Lt)} {X : Abs} {z : Int32} (H : WP h me q c u hi sl tx ka pa fa la hsa txa x l lc cs ss X) (k : Q (.inl (some (.int (pfA (xA X) z 99 1)))) h) : ∀ (m : Nat) (p : Nat) (r : Nat × Nat), 100 - p < m → (1 ≤ p) → (p ≤ 100) → (pfA (xA X) z 99 1 = pfA (xA X) z (100 - p) p) → WPx E mX6_priceFor 9 [some (.ref me), some (.int z), some (.int (nI p))] [] r h Q := by
  intro m
  induction m with
  | zero => intro p r hm; exact absurd hm (Nat.not_lt_zero _)
  | succ m ih =>
    intro p r hm hp1 hp he
    refine wp_iload_n (M := mX6_priceFor) (pc := 9) dX6_priceFor_9 rfl ?_
    refine wp_bipush (M := mX6_priceFor) (pc := 10) (v := 99) dX6_priceFor_10 cb_99 ?_
    refine wp_icmp_gt (M := mX6_priceFor) (pc := 12) (tgt := 44) dX6_priceFor_12 rfl (fun t12 => ?_) (fun f12 => ?_)
    · have e100 : p = 100 := by
        have := (i_lt (a := 99) (by decide) (by omega)).mp t12
        omega
      refine wp_bipush (M := mX6_priceFor) (pc := 44) (v := -9) dX6_priceFor_44 cb_m9 ?_
      refine wp_ireturn (M := mX6_priceFor) (pc := 46) rfl dX6_priceFor_46 ?_
      subst e100
      rw [he] at k
      exact k
    · have hlt : p ≤ 99 := Nat.le_of_not_lt (fun e => f12 ((i_lt (a := 99) (by decide) (by omega)).mpr e))
      rw [show 100 - p = (100 - (p + 1)) + 1 by omega] at he
      refine wp_aload_n (M := mX6_priceFor) (pc := 15) dX6_priceFor_15 rfl ?_
      refine wp_getR (M := mX6_priceFor) (pc := 16) fa_X6_12 rfl dX6_priceFor_16 (by first | exact H.kMe | exact H.kQ | fail "kd") H.ob.2.1 ?_
      refine wp_iload_n (M := mX6_priceFor) (pc := 19) dX6_priceFor_19 rfl ?_
      refine so_V1 (M := mX6_priceFor) (pc := 20) cs_X6_priceFor_185 rfl rfl (LE rfl) (LE rfl) dX6_priceFor_20 (by first | exact H.kMe | exact H.kQ | fail "kd") ?_
      refine sp_X4_offeredAt H.rep ?_
      refine kI ?_
      refine wp_aload_n (M := mX6_priceFor) (pc := 23) dX6_priceFor_23 rfl ?_
      refine wp_getR (M := mX6_priceFor) (pc := 24) fa_X6_12 rfl dX6_priceFor_24 (by first | exact H.kMe | exact H.kQ | fail "kd") H.ob.2.1 ?_
      refine wp_iload_n (M := mX6_priceFor) (pc := 27) dX6_priceFor_27 rfl ?_
      refine so_V1 (M := mX6_priceFor) (pc := 28) cs_X6_priceFor_182 rfl rfl (LE rfl) (LE rfl) dX6_priceFor_28 (by first | exact H.kMe | exact H.kQ | fail "kd") ?_
      refine sp_X4_wantedAt H.rep ?_
      refine kI ?_
      refine wp_isub (M := mX6_priceFor) (pc := 31) dX6_priceFor_31 ?_
      refine wp_iload_n (M := mX6_priceFor) (pc := 32) dX6_priceFor_32 rfl ?_
      refine wp_icmp_lt (M := mX6_priceFor) (pc := 33) (tgt := 38) dX6_priceFor_33 rfl (fun t33 => ?_) (fun f33 => ?_)
      · refine so_iinc (M := mX6_priceFor) (pc := 38) (lo' := [_, _, _]) dX6_priceFor_38 rfl ci_1 (LE rfl) rfl ?_
        refine wp_goto (M := mX6_priceFor) (pc := 41) (tgt := 9) dX6_priceFor_41 rfl ?_
        rw [show nI p + 1 = nI (p + 1) from nI_1 p]
        rw [pfA_n t33] at he
        exact ih (p + 1) r (by omega) (by omega) (by omega) he
      · refine wp_iload_n (M := mX6_priceFor) (pc := 36) dX6_priceFor_36 rfl ?_
        refine wp_ireturn (M := mX6_priceFor) (pc := 37) rfl dX6_priceFor_37 ?_
        rw [he, pfA_y f33] at k
        exact k
set_option maxHeartbeats 4000000 in
set_option maxRecDepth 100000 in
theorem sp_X6_priceFor {me : Nat} {X : Abs} {z : Int32} (H : WC h me X) (k1 : wth z 1 99 → Q (.inl (some (.int (pfA (xA X) z 99 1)))) h) (k0 : ¬ wth z 1 99 → Q (.inr "java/lang/IllegalArgumentException") h) : WPx E mX6_priceFor 0 [some (.ref me), some (.int z), none] [] (1, 6) h Q := by
  obtain ⟨q, c, u, hi, sl, tx, ka, pa, fa, la, hsa, txa, x, l, lc, cs, ss, H⟩ := H
  have hm := H.ob
  have hR := H.rep
  have n6 := hR.2.1.1.2
  refine wp_iload_n (M := mX6_priceFor) (pc := 0) dX6_priceFor_0 rfl ?_
  refine so_S1 (M := mX6_priceFor) (pc := 1) cs_X6_priceFor_153 rfl rfl (LE rfl) (LE rfl) dX6_priceFor_1 ?_
  refine sp_X6_isTwoDigits ?_
  refine kI ?_
  refine so_SA1 (M := mX6_priceFor) (pc := 4) (0, 0) cs_X6_priceFor_56 rfl (LE rfl) (LE rfl) (LE rfl) (LE rfl) dX6_priceFor_4 ?_
  refine sp_X6_requireArgument (fun hw => ?_) (fun hw => k0 hw)
  refine kV ?_
  refine wp_iconst (M := mX6_priceFor) (pc := 7) (v := 1) dX6_priceFor_7 ci_1 ?_
  refine so_istore_n (M := mX6_priceFor) (pc := 8) (lo' := [_, _, _]) dX6_priceFor_8 (LE rfl) (LE rfl) (Or.inr rfl) rfl ?_
  exact lp_X6_priceFor H (k1 hw) 100 1 (0, 0) (by omega) (by omega) (by omega) rfl
set_option maxHeartbeats 4000000 in
set_option maxRecDepth 100000 in
theorem lp_X6_fairness {me q c u hi sl tx ka pa fa la hsa txa x : Nat} {l lc : Lt} {cs ss : Nat → Option (Nat × Lt)} {X : Abs} {v : Int32} (H : WP h me q c u hi sl tx ka pa fa la hsa txa x l lc cs ss X) (k : Q (.inl (some (.long (faiA (xA X) v)))) h) : ∀ (m : Nat) (t : Nat) (x7 : Option Value), sN (xA X) - t < m → (t ≤ sN (xA X)) → WPx E mX6_fairness 8 [some (.ref me), some (.int v), some (.long (fsm (xA X) t)), none, some (.long (fsq (xA X) t)), none, some (.int (nI t)), x7, none] [] (0, 0) h Q := by
  intro m
  induction m with
  | zero => intro t x7 hm; exact absurd hm (Nat.not_lt_zero _)
  | succ m ih =>
    intro t x7 hm ht
    have hob := H.ob
    have hR := H.rep
    have n6 := hR.2.1.1.2
    refine wp_iload (M := mX6_fairness) (pc := 8) dX6_fairness_8 rfl ?_
    refine wp_aload_n (M := mX6_fairness) (pc := 10) dX6_fairness_10 rfl ?_
    refine wp_getR (M := mX6_fairness) (pc := 11) fa_X6_12 rfl dX6_fairness_11 (by first | exact hob.1.1 | exact H.kQ | exact hR.1.2.1.2.1 | exact (hR.1.2.2.2.1 t (by omega)).2.1.1 | fail "kd") (by first | exact hob.2.1 | exact hR.1.2.1.1 | exact (hR.1.2.2.2.1 t (by omega)).1 | fail "rx") ?_
    refine wp_getI (M := mX6_fairness) (pc := 14) fa_X6_86 rfl dX6_fairness_14 (by first | exact hob.1.1 | exact H.kQ | exact hR.1.2.1.2.1 | exact (hR.1.2.2.2.1 t (by omega)).2.1.1 | fail "kd") ?_
    refine wp_icmp_ge (M := mX6_fairness) (pc := 17) (tgt := 57) dX6_fairness_17 rfl (fun t17 => ?_) (fun f17 => ?_)
    · rw [hR.2.1.1.1] at t17
      have e2 := n_ge ht (by omega) t17
      subst e2
      refine wp_lload (M := mX6_fairness) (pc := 57) dX6_fairness_57 rfl ?_
      refine wp_lconst (M := mX6_fairness) (pc := 59) (v := 0) dX6_fairness_59 cl_0 ?_
      refine wp_lcmp (M := mX6_fairness) (pc := 60) dX6_fairness_60 ?_
      refine wp_if_ne (M := mX6_fairness) (pc := 61) (tgt := 66) dX6_fairness_61 rfl (fun t61 => ?_) (fun f61 => ?_)
      · refine wp_lload_n (M := mX6_fairness) (pc := 66) dX6_fairness_66 rfl ?_
        refine wp_lload_n (M := mX6_fairness) (pc := 67) dX6_fairness_67 rfl ?_
        refine wp_lmul (M := mX6_fairness) (pc := 68) dX6_fairness_68 ?_
        refine wp_aload_n (M := mX6_fairness) (pc := 69) dX6_fairness_69 rfl ?_
        refine wp_getR (M := mX6_fairness) (pc := 70) fa_X6_12 rfl dX6_fairness_70 (by first | exact hob.1.1 | exact H.kQ | exact hR.1.2.1.2.1 | exact (hR.1.2.2.2.1 t (by omega)).2.1.1 | fail "kd") (by first | exact hob.2.1 | exact hR.1.2.1.1 | exact (hR.1.2.2.2.1 t (by omega)).1 | fail "rx") ?_
        refine wp_getI (M := mX6_fairness) (pc := 73) fa_X6_86 rfl dX6_fairness_73 (by first | exact hob.1.1 | exact H.kQ | exact hR.1.2.1.2.1 | exact (hR.1.2.2.2.1 t (by omega)).2.1.1 | fail "kd") ?_
        refine wp_i2l (M := mX6_fairness) (pc := 76) dX6_fairness_76 ?_
        refine wp_lload (M := mX6_fairness) (pc := 77) dX6_fairness_77 rfl ?_
        refine wp_lmul (M := mX6_fairness) (pc := 79) dX6_fairness_79 ?_
        refine wp_iload_n (M := mX6_fairness) (pc := 80) dX6_fairness_80 rfl ?_
        refine so_S3 (M := mX6_fairness) (pc := 81) cs_X6_fairness_218 rfl rfl (LE rfl) (LE rfl) dX6_fairness_81 ?_
        refine sp_X6_inLowestTerms ?_
        refine kL ?_
        refine wp_lreturn (M := mX6_fairness) (pc := 84) rfl dX6_fairness_84 ?_
        rw [faiA, if_neg (fun e => t61 ((lg_cmp_eq _ _).mpr e))] at k
        rw [hR.2.1.1.1]
        exact k
      · refine wp_lconst (M := mX6_fairness) (pc := 64) (v := 1) dX6_fairness_64 cl_1 ?_
        refine wp_lreturn (M := mX6_fairness) (pc := 65) rfl dX6_fairness_65 ?_
        rw [faiA, if_pos ((lg_cmp_eq _ _).mp f61)] at k
        exact k
    · rw [hR.2.1.1.1] at f17
      have hlt := n_lt ht (by omega) f17
      refine wp_aload_n (M := mX6_fairness) (pc := 20) dX6_fairness_20 rfl ?_
      refine wp_getR (M := mX6_fairness) (pc := 21) fa_X6_12 rfl dX6_fairness_21 (by first | exact hob.1.1 | exact H.kQ | exact hR.1.2.1.2.1 | exact (hR.1.2.2.2.1 t (by omega)).2.1.1 | fail "kd") (by first | exact hob.2.1 | exact hR.1.2.1.1 | exact (hR.1.2.2.2.1 t (by omega)).1 | fail "rx") ?_
      refine wp_getR (M := mX6_fairness) (pc := 24) fa_X6_107 rfl dX6_fairness_24 (by first | exact hob.1.1 | exact H.kQ | exact hR.1.2.1.2.1 | exact (hR.1.2.2.2.1 t (by omega)).2.1.1 | fail "kd") (by first | exact hob.2.1 | exact hR.1.2.1.1 | exact (hR.1.2.2.2.1 t (by omega)).1 | fail "rx") ?_
      refine wp_iload (M := mX6_fairness) (pc := 27) dX6_fairness_27 rfl ?_
      refine wr_aaload (M := mX6_fairness) (pc := 29) dX6_fairness_29 (by first | exact hob.1.1 | exact H.kQ | exact hR.1.2.1.2.1 | exact (hR.1.2.2.2.1 t (by omega)).2.1.1 | fail "kd") (by decide) rfl (by omega) (by decide) (by first | exact hob.2.1 | exact hR.1.2.1.1 | exact (hR.1.2.2.2.1 t (by omega)).1 | fail "rx") ?_
      refine wp_getI (M := mX6_fairness) (pc := 30) fa_X6_225 rfl dX6_fairness_30 (by first | exact hob.1.1 | exact H.kQ | exact hR.1.2.1.2.1 | exact (hR.1.2.2.2.1 t (by omega)).2.1.1 | fail "kd") ?_
      refine wp_i2l (M := mX6_fairness) (pc := 33) dX6_fairness_33 ?_
      refine so_lstore (M := mX6_fairness) (pc := 34) (lo' := [_, _, _, _, _, _, _, _, _]) dX6_fairness_34 (LE rfl) (LE rfl) (Or.inr rfl) rfl ?_
      refine wp_lload_n (M := mX6_fairness) (pc := 36) dX6_fairness_36 rfl ?_
      refine wp_lload (M := mX6_fairness) (pc := 37) dX6_fairness_37 rfl ?_
      refine wp_ladd (M := mX6_fairness) (pc := 39) dX6_fairness_39 ?_
      refine so_lstore_n (M := mX6_fairness) (pc := 40) (lo' := [_, _, _, _, _, _, _, _, _]) dX6_fairness_40 (LE rfl) (LE rfl) (Or.inr rfl) rfl ?_
      refine wp_lload (M := mX6_fairness) (pc := 41) dX6_fairness_41 rfl ?_
      refine wp_lload (M := mX6_fairness) (pc := 43) dX6_fairness_43 rfl ?_
      refine wp_lload (M := mX6_fairness) (pc := 45) dX6_fairness_45 rfl ?_
      refine wp_lmul (M := mX6_fairness) (pc := 47) dX6_fairness_47 ?_
      refine wp_ladd (M := mX6_fairness) (pc := 48) dX6_fairness_48 ?_
      refine so_lstore (M := mX6_fairness) (pc := 49) (lo' := [_, _, _, _, _, _, _, _, _]) dX6_fairness_49 (LE rfl) (LE rfl) (Or.inr rfl) rfl ?_
      refine so_iinc (M := mX6_fairness) (pc := 51) (lo' := [_, _, _, _, _, _, _, _, _]) dX6_fairness_51 rfl ci_1 (LE rfl) rfl ?_
      refine wp_goto (M := mX6_fairness) (pc := 54) (tgt := 8) dX6_fairness_54 rfl ?_
      rw [show nI t + 1 = nI (t + 1) from nI_1 t, (hR.2.2.1 t hlt).1 5 (by decide)]
      exact ih (t + 1) _ (by omega) (by omega)
set_option maxHeartbeats 4000000 in
set_option maxRecDepth 100000 in
theorem sp_X6_fairness {me : Nat} {X : Abs} {v : Int32} (H : WC h me X) (k : Q (.inl (some (.long (faiA (xA X) v)))) h) : WPx E mX6_fairness 0 [some (.ref me), some (.int v), none, none, none, none, none, none, none] [] (0, 0) h Q := by
  obtain ⟨q, c, u, hi, sl, tx, ka, pa, fa, la, hsa, txa, x, l, lc, cs, ss, H⟩ := H
  have hm := H.ob
  have hR := H.rep
  have n6 := hR.2.1.1.2
  refine wp_lconst (M := mX6_fairness) (pc := 0) (v := 0) dX6_fairness_0 cl_0 ?_
  refine so_lstore_n (M := mX6_fairness) (pc := 1) (lo' := [_, _, _, _, _, _, _, _, _]) dX6_fairness_1 (LE rfl) (LE rfl) (Or.inr rfl) rfl ?_
  refine wp_lconst (M := mX6_fairness) (pc := 2) (v := 0) dX6_fairness_2 cl_0 ?_
  refine so_lstore (M := mX6_fairness) (pc := 3) (lo' := [_, _, _, _, _, _, _, _, _]) dX6_fairness_3 (LE rfl) (LE rfl) (Or.inr rfl) rfl ?_
  refine wp_iconst (M := mX6_fairness) (pc := 5) (v := 0) dX6_fairness_5 ci_0 ?_
  refine so_istore (M := mX6_fairness) (pc := 6) (lo' := [_, _, _, _, _, _, _, _, _]) dX6_fairness_6 (LE rfl) (LE rfl) (Or.inr rfl) rfl ?_
  exact lp_X6_fairness H k (sN (xA X) + 1) 0 none (by omega) (by omega)
set_option maxHeartbeats 4000000 in
set_option maxRecDepth 100000 in
theorem lp_X6_share {me q c u hi sl tx ka pa fa la hsa txa x : Nat} {l lc : Lt} {cs ss : Nat → Option (Nat × Lt)} {X : Abs} {v : Int32} {t : Nat} {h0 : PH} (htn : t < sN (xA X)) (k : ∀ h', WC h' me X → Of h0 h' → Q (.inl (some (.int (shaA (xA X) t v)))) h') : ∀ (m : Nat) (e : Nat) (h : PH) (x8 : Option Value) (x9 : Option Value) (r : Nat × Nat), 2 ^ sN (xA X) - e < m → (e ≤ 2 ^ sN (xA X)) → (WP h me q c u hi sl tx ka pa fa la hsa txa x l lc cs ss X) → (Of h0 h) → WPx E mX6_share 32 [some (.ref me), some (.int (nI t)), some (.int v), some (.int (nI (sN (xA X) - 1))), some (.int (ownB t)), some (.long (shS (xA X) t e)), none, some (.int (nI e)), x8, x9, none] [] r h Q := by
  intro m
  induction m with
  | zero => intro e h x8 x9 r hm; exact absurd hm (Nat.not_lt_zero _)
  | succ m ih =>
    intro e h x8 x9 r hm he H O1
    have hob := H.ob
    have hR := H.rep
    have n6 := hR.2.1.1.2
    have e64 := two_n n6
    have nuq : u ≠ q := nk H.kU H.kQ (by simp)
    have nmu : me ≠ u := nk H.kMe H.kU (by simp)
    refine wp_iload (M := mX6_share) (pc := 32) dX6_share_32 rfl ?_
    refine wp_iconst (M := mX6_share) (pc := 34) (v := 1) dX6_share_34 ci_1 ?_
    refine wp_aload_n (M := mX6_share) (pc := 35) dX6_share_35 rfl ?_
    refine wp_getR (M := mX6_share) (pc := 36) fa_X6_12 rfl dX6_share_36 (by first | exact hob.1.1 | exact H.kQ | fail "kd") (by first | exact hob.2.1 | fail "rx") ?_
    refine wp_getI (M := mX6_share) (pc := 39) fa_X6_86 rfl dX6_share_39 (by first | exact hob.1.1 | exact H.kQ | fail "kd") ?_
    refine wp_ishl (M := mX6_share) (pc := 42) dX6_share_42 ?_
    refine wp_icmp_ge (M := mX6_share) (pc := 43) (tgt := 109) dX6_share_43 rfl (fun t43 => ?_) (fun f43 => ?_)
    · rw [hR.2.1.1.1, shl_n _ (by omega)] at t43
      have e2 := n_ge he (by omega) t43
      subst e2
      refine wp_lload (M := mX6_share) (pc := 109) dX6_share_109 rfl ?_
      refine wp_aload_n (M := mX6_share) (pc := 111) dX6_share_111 rfl ?_
      refine wp_getR (M := mX6_share) (pc := 112) fa_X6_12 rfl dX6_share_112 (by first | exact hob.1.1 | exact H.kQ | fail "kd") (by first | exact hob.2.1 | fail "rx") ?_
      refine wp_getI (M := mX6_share) (pc := 115) fa_X6_86 rfl dX6_share_115 (by first | exact hob.1.1 | exact H.kQ | fail "kd") ?_
      refine so_S1 (M := mX6_share) (pc := 118) cs_X6_share_215 rfl rfl (LE rfl) (LE rfl) dX6_share_118 ?_
      rw [hR.2.1.1.1]
      refine sp_X6_factorial (by omega) ?_
      refine kI ?_
      refine wp_i2l (M := mX6_share) (pc := 121) dX6_share_121 ?_
      refine wp_iload_n (M := mX6_share) (pc := 122) dX6_share_122 rfl ?_
      refine so_S3 (M := mX6_share) (pc := 123) cs_X6_share_218 rfl rfl (LE rfl) (LE rfl) dX6_share_123 ?_
      refine sp_X6_inLowestTerms ?_
      refine kL ?_
      refine wp_l2i (M := mX6_share) (pc := 126) dX6_share_126 ?_
      refine wp_ireturn (M := mX6_share) (pc := 127) rfl dX6_share_127 ?_
      exact k h H.wc O1
    · rw [hR.2.1.1.1, shl_n _ (by omega)] at f43
      have hlt := n_lt he (by omega) f43
      refine wp_iload (M := mX6_share) (pc := 46) dX6_share_46 rfl ?_
      refine wp_iload (M := mX6_share) (pc := 48) dX6_share_48 rfl ?_
      refine wp_iand (M := mX6_share) (pc := 50) dX6_share_50 ?_
      refine wp_if_ne (M := mX6_share) (pc := 51) (tgt := 103) dX6_share_51 rfl (fun t51 => ?_) (fun f51 => ?_)
      · refine so_iinc (M := mX6_share) (pc := 103) (lo' := [_, _, _, _, _, _, _, _, _, _, _]) dX6_share_103 rfl ci_1 (LE rfl) rfl ?_
        refine wp_goto (M := mX6_share) (pc := 106) (tgt := 32) dX6_share_106 rfl ?_
        first
        | (rw [show nI e + 1 = nI (e + 1) from nI_1 e]
           have hz := ih (e + 1) h x8 x9 r (by omega) (by omega) H O1
           rw [shS_n t51] at hz
           exact hz)
        | (rw [show nI e + 1 = nI (e + 1) from nI_1 e]
           have hz := ih (e + 1) h2 _ _ r (by omega) (by omega) H2 O3
           rw [shS_y f51] at hz
           exact hz)
        | fail "leaf"
      · have hb1 := ones_s _ (by omega) t htn e hlt f51
        refine wp_iload (M := mX6_share) (pc := 54) dX6_share_54 rfl ?_
        refine so_S1 (M := mX6_share) (pc := 56) cs_X6_share_207 rfl rfl (LE rfl) (LE rfl) dX6_share_56 ?_
        refine sp_J6_bitCount_0f7a4 ?_
        rw [bcn_n e (by omega)]
        refine kI ?_
        refine so_istore (M := mX6_share) (pc := 59) (lo' := [_, _, _, _, _, _, _, _, _, _, _]) dX6_share_59 (LE rfl) (LE rfl) (Or.inr rfl) rfl ?_
        refine wp_aload_n (M := mX6_share) (pc := 61) dX6_share_61 rfl ?_
        refine wp_iload (M := mX6_share) (pc := 62) dX6_share_62 rfl ?_
        refine wp_iload (M := mX6_share) (pc := 64) dX6_share_64 rfl ?_
        refine wp_ior (M := mX6_share) (pc := 66) dX6_share_66 ?_
        refine so_V1 (M := mX6_share) (pc := 67) cs_X6_share_212 rfl rfl (LE rfl) (LE rfl) dX6_share_67 (by first | exact hob.1.1 | exact H.kQ | fail "kd") ?_
        refine sp_X6_surplusOf hob hR H.au nuq nmu (fun h1 f1 => ?_)
        have H1 := H.uI f1
        have O2 := O1.tr (H.uO f1)
        refine kI ?_
        refine wp_aload_n (M := mX6_share) (pc := 70) dX6_share_70 rfl ?_
        refine wp_iload (M := mX6_share) (pc := 71) dX6_share_71 rfl ?_
        refine so_V1 (M := mX6_share) (pc := 73) cs_X6_share_212 rfl rfl (LE rfl) (LE rfl) dX6_share_73 H1.kMe ?_
        refine sp_X6_surplusOf H1.ob H1.rep H1.au nuq nmu (fun h2 f2 => ?_)
        have H2 := H1.uI f2
        have O3 := O2.tr (H1.uO f2)
        refine kI ?_
        refine wp_isub (M := mX6_share) (pc := 76) dX6_share_76 ?_
        refine wp_i2l (M := mX6_share) (pc := 77) dX6_share_77 ?_
        refine so_lstore (M := mX6_share) (pc := 78) (lo' := [_, _, _, _, _, _, _, _, _, _, _]) dX6_share_78 (LE rfl) (LE rfl) (Or.inr rfl) rfl ?_
        refine wp_lload (M := mX6_share) (pc := 80) dX6_share_80 rfl ?_
        refine wp_lload (M := mX6_share) (pc := 82) dX6_share_82 rfl ?_
        refine wp_iload (M := mX6_share) (pc := 84) dX6_share_84 rfl ?_
        refine so_S1 (M := mX6_share) (pc := 86) cs_X6_share_215 rfl rfl (LE rfl) (LE rfl) dX6_share_86 ?_
        refine sp_X6_factorial (by omega) ?_
        refine kI ?_
        refine wp_i2l (M := mX6_share) (pc := 89) dX6_share_89 ?_
        refine wp_lmul (M := mX6_share) (pc := 90) dX6_share_90 ?_
        refine wp_iload_n (M := mX6_share) (pc := 91) dX6_share_91 rfl ?_
        refine wp_iload (M := mX6_share) (pc := 92) dX6_share_92 rfl ?_
        refine wp_isub (M := mX6_share) (pc := 94) dX6_share_94 ?_
        refine so_S1 (M := mX6_share) (pc := 95) cs_X6_share_215 rfl rfl (LE rfl) (LE rfl) dX6_share_95 ?_
        rw [show nI (sN (xA X) - 1) - nI (ones e) = nI (sN (xA X) - 1 - ones e) from pk_sub (by omega)]
        refine sp_X6_factorial (by omega) ?_
        refine kI ?_
        refine wp_i2l (M := mX6_share) (pc := 98) dX6_share_98 ?_
        refine wp_lmul (M := mX6_share) (pc := 99) dX6_share_99 ?_
        refine wp_ladd (M := mX6_share) (pc := 100) dX6_share_100 ?_
        refine so_lstore (M := mX6_share) (pc := 101) (lo' := [_, _, _, _, _, _, _, _, _, _, _]) dX6_share_101 (LE rfl) (LE rfl) (Or.inr rfl) rfl ?_
        refine so_iinc (M := mX6_share) (pc := 103) (lo' := [_, _, _, _, _, _, _, _, _, _, _]) dX6_share_103 rfl ci_1 (LE rfl) rfl ?_
        refine wp_goto (M := mX6_share) (pc := 106) (tgt := 32) dX6_share_106 rfl ?_
        first
        | (rw [show nI e + 1 = nI (e + 1) from nI_1 e]
           have hz := ih (e + 1) h x8 x9 r (by omega) (by omega) H O1
           rw [shS_n t51] at hz
           exact hz)
        | (rw [show nI e + 1 = nI (e + 1) from nI_1 e]
           have hz := ih (e + 1) h2 _ _ r (by omega) (by omega) H2 O3
           rw [shS_y f51] at hz
           exact hz)
        | fail "leaf"
set_option maxHeartbeats 4000000 in
set_option maxRecDepth 100000 in
theorem sp_X6_share {me : Nat} {X : Abs} {w v : Int32} (H : WC h me X) (k1 : ∀ t, t < sN (xA X) → w = nI t → ∀ h', WC h' me X → Of h h' → Q (.inl (some (.int (shaA (xA X) t v)))) h') (k0 : ¬ isT (xA X) w → Q (.inr "java/lang/IndexOutOfBoundsException") h) : WPx E mX6_share 0 [some (.ref me), some (.int w), some (.int v), none, none, none, none, none, none, none, none] [] (1, 6) h Q := by
  obtain ⟨q, c, u, hi, sl, tx, ka, pa, fa, la, hsa, txa, x, l, lc, cs, ss, H⟩ := H
  have hm := H.ob
  have hR := H.rep
  have n6 := hR.2.1.1.2
  refine wp_aload_n (M := mX6_share) (pc := 0) dX6_share_0 rfl ?_
  refine wp_getR (M := mX6_share) (pc := 1) fa_X6_12 rfl dX6_share_1 (by first | exact hm.1.1 | exact H.kQ | exact H.kH | exact H.kC | exact H.kU | exact H.kX | exact hR.1.2.1.2.1 | exact a2 | fail "kd") (by first | exact hm.2.1 | exact hm.2.2.1 | exact hm.2.2.2.1 | exact hm.2.2.2.2.1 | exact hm.2.2.2.2.2.1 | exact hm.2.2.2.2.2.2 | exact hR.1.2.1.1 | exact a1 | fail "rx") ?_
  refine wp_iload_n (M := mX6_share) (pc := 4) dX6_share_4 rfl ?_
  refine so_V1 (M := mX6_share) (pc := 5) cs_X6_share_93 rfl rfl (LE rfl) (LE rfl) dX6_share_5 (by first | exact hm.1.1 | exact H.kQ | exact H.kH | exact H.kC | exact H.kU | exact H.kX | exact hR.1.2.1.2.1 | exact a2 | fail "kd") ?_
  refine sb_hasTenant hR ?_
  refine kI ?_
  refine so_SA1 (M := mX6_share) (pc := 8) (0, 0) cs_X6_share_97 rfl (LE rfl) (LE rfl) (LE rfl) (LE rfl) dX6_share_8 ?_
  refine sp_X6_requireThere (fun ht => ?_) (fun hw => k0 hw)
  obtain ⟨t, htn, rfl⟩ := ht
  refine kV ?_
  refine wp_aload_n (M := mX6_share) (pc := 11) dX6_share_11 rfl ?_
  refine wp_getR (M := mX6_share) (pc := 12) fa_X6_12 rfl dX6_share_12 (by first | exact hm.1.1 | exact H.kQ | exact H.kH | exact H.kC | exact H.kU | exact H.kX | exact hR.1.2.1.2.1 | exact a2 | fail "kd") (by first | exact hm.2.1 | exact hm.2.2.1 | exact hm.2.2.2.1 | exact hm.2.2.2.2.1 | exact hm.2.2.2.2.2.1 | exact hm.2.2.2.2.2.2 | exact hR.1.2.1.1 | exact a1 | fail "rx") ?_
  refine wp_getI (M := mX6_share) (pc := 15) fa_X6_86 rfl dX6_share_15 (by first | exact hm.1.1 | exact H.kQ | exact H.kH | exact H.kC | exact H.kU | exact H.kX | exact hR.1.2.1.2.1 | exact a2 | fail "kd") ?_
  refine wp_iconst (M := mX6_share) (pc := 18) (v := 1) dX6_share_18 ci_1 ?_
  refine wp_isub (M := mX6_share) (pc := 19) dX6_share_19 ?_
  refine so_istore_n (M := mX6_share) (pc := 20) (lo' := [_, _, _, _, _, _, _, _, _, _, _]) dX6_share_20 (LE rfl) (LE rfl) (Or.inr rfl) rfl ?_
  refine wp_iconst (M := mX6_share) (pc := 21) (v := 1) dX6_share_21 ci_1 ?_
  refine wp_iload_n (M := mX6_share) (pc := 22) dX6_share_22 rfl ?_
  refine wp_ishl (M := mX6_share) (pc := 23) dX6_share_23 ?_
  refine so_istore (M := mX6_share) (pc := 24) (lo' := [_, _, _, _, _, _, _, _, _, _, _]) dX6_share_24 (LE rfl) (LE rfl) (Or.inr rfl) rfl ?_
  refine wp_lconst (M := mX6_share) (pc := 26) (v := 0) dX6_share_26 cl_0 ?_
  refine so_lstore (M := mX6_share) (pc := 27) (lo' := [_, _, _, _, _, _, _, _, _, _, _]) dX6_share_27 (LE rfl) (LE rfl) (Or.inr rfl) rfl ?_
  refine wp_iconst (M := mX6_share) (pc := 29) (v := 0) dX6_share_29 ci_0 ?_
  refine so_istore (M := mX6_share) (pc := 30) (lo' := [_, _, _, _, _, _, _, _, _, _, _]) dX6_share_30 (LE rfl) (LE rfl) (Or.inr rfl) rfl ?_
  rw [hR.2.1.1.1, show nI (sN (xA X)) - 1 = nI (sN (xA X) - 1) from pk_sub (b := 1) (by omega)]
  exact lp_X6_share htn (k1 t htn rfl) (2 ^ sN (xA X) + 1) 0 h none none (0, 0) (by omega) (by omega) H Of.rf
end SP
