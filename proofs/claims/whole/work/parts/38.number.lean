section SP
variable {E : Ev} {h : PH} {Q : Rt → PH → Prop}
theorem rdH_bad {h : PH} {a p : Nat} {b : Bool} : si (rdH h a p b) a 3 1 = rdH h a p true := (rdH_1 (b := true) rdH_p).trans rdH_rdH
theorem rdH_ok {h : PH} {a p p' : Nat} {b : Bool} : si (si (rdH h a p b) a 3 0) a 2 (nI p') = rdH h a p' false := (rdH_2 (h := rdH h a p b) (b := false)).trans rdH_rdH
theorem nI_mul (a b : Nat) : nI a * nI b = nI (a * b) := (Int32.ofNat_mul a b).symm
theorem nI_sub {a b : Nat} (h : b ≤ a) : nI a - nI b = nI (a - b) := by
  have e : nI a = nI (a - b) + nI b := by rw [nI_add, Nat.sub_add_cancel h]
  rw [e, Int32.add_sub_cancel]
/-- digits of a number: value, place, whether one can not belong to it -/
def rdN (s : Nat → Nat) (n lo hi : Nat) : Nat → Nat → Nat → Nat × Nat × Bool
  | 0, v, p => (v, p, false)
  | k + 1, v, p => if p < n ∧ 48 ≤ s p ∧ s p ≤ 57 ∧ (10 * v + (s p - 48)) * 10 ^ k ≤ hi ∧ lo < (10 * v + (s p - 48)) * 10 ^ k + 10 ^ k then rdN s n lo hi k (10 * v + (s p - 48)) (p + 1) else (v, p, true)
theorem rdN_y {s : Nat → Nat} {n lo hi k v p : Nat} (h : p < n ∧ 48 ≤ s p ∧ s p ≤ 57 ∧ (10 * v + (s p - 48)) * 10 ^ k ≤ hi ∧ lo < (10 * v + (s p - 48)) * 10 ^ k + 10 ^ k) : rdN s n lo hi (k + 1) v p = rdN s n lo hi k (10 * v + (s p - 48)) (p + 1) := if_pos h
theorem rdN_n {s : Nat → Nat} {n lo hi k v p : Nat} (h : ¬ (p < n ∧ 48 ≤ s p ∧ s p ≤ 57 ∧ (10 * v + (s p - 48)) * 10 ^ k ≤ hi ∧ lo < (10 * v + (s p - 48)) * 10 ^ k + 10 ^ k)) : rdN s n lo hi (k + 1) v p = (v, p, true) := if_neg h
def rdB (s : Nat → Nat) (n lo hi k v p : Nat) (b : Bool) : Nat × Nat × Bool := if b = true then (v, p, true) else rdN s n lo hi k v p
theorem rdB_t {s : Nat → Nat} {n lo hi k v p : Nat} {b : Bool} (h : b = true) : rdB s n lo hi k v p b = (v, p, true) := if_pos h
theorem rdB_f {s : Nat → Nat} {n lo hi k v p : Nat} {b : Bool} (h : b = false) : rdB s n lo hi k v p b = rdN s n lo hi k v p := if_neg (by rw [h]; decide)
theorem sg_sub {s : Nat → Nat} {n p : Nat} (h1 : p < n) (h2 : 48 ≤ s p) : sgI s n p - 48 = nI (s p - 48) := by
  rw [sgI, if_pos h1]
  exact nI_sub h2
theorem lt_neg : ∀ m : Nat, m < 48 → nI m - 48 < 0 := by decide
theorem sg_nn {s : Nat → Nat} {n p : Nat} (hs : p < n → s p ≤ 255) (h : ¬ sgI s n p - 48 < 0) : p < n ∧ 48 ≤ s p := by
  by_cases h1 : p < n
  · refine ⟨h1, Nat.le_of_not_lt (fun h2 => h ?_)⟩
    rw [sgI, if_pos h1]
    exact lt_neg _ h2
  · exact absurd (by rw [sgI, if_neg h1]; decide) h
theorem sg_ng {s : Nat → Nat} {n p : Nat} (hs : p < n → s p ≤ 255) (h : sgI s n p - 48 < 0) : ¬ (p < n ∧ 48 ≤ s p) := fun q => by
  have := hs q.1
  rw [sg_sub q.1 q.2] at h
  exact nI_pos (by omega) h
theorem num_b {v m dg : Nat} (hv : v * 10 ^ (m + 1) ≤ 9999) (hm : m ≤ 3) (hd : dg ≤ 9) : (10 * v + dg) * 10 ^ m ≤ 18999 := by
  have h1 : 10 ^ m ≤ 10 ^ 3 := Nat.pow_le_pow_right (by decide) hm
  have h2 := Nat.mul_le_mul hd h1
  have h3 : 10 * v * 10 ^ m = v * 10 ^ (m + 1) := by rw [Nat.pow_succ]; ac_rfl
  rw [Nat.add_mul, h3]
  omega
theorem num_l {v m dg : Nat} (hv : v * 10 ^ (m + 1) ≤ 9999) (hm : m ≤ 3) (hd : dg ≤ 9) : 10 * v + dg ≤ 18999 := by
  have h0 := num_b hv hm hd
  have h1 : 0 < 10 ^ m := Nat.pow_pos (by decide)
  exact Nat.le_trans (Nat.le_mul_of_pos_right _ h1) h0
theorem ten_div {j : Nat} (h : j ≤ 3) : nI (10 ^ (j + 1)) / 10 = nI (10 ^ j) := by
  have : j = 0 ∨ j = 1 ∨ j = 2 ∨ j = 3 := by omega
  rcases this with rfl | rfl | rfl | rfl <;> decide
theorem ten_le {m : Nat} (hm : m ≤ 3) : 10 ^ m ≤ 1000 := Nat.pow_le_pow_right (n := 10) (by decide) hm
theorem ten_pos {m : Nat} : 0 < 10 ^ m := Nat.pow_pos (by decide)
set_option maxHeartbeats 4000000 in
set_option maxRecDepth 100000 in
theorem l2_X1_readNumber {a sa n : Nat} {s : Nat → Nat} {d lo hi : Nat} {res : Nat × Nat × Bool} (hX : TxC h a sa s n) (hd4 : d ≤ 4) (hlo : lo ≤ 9999) (hhi : hi ≤ 9999) (k : Q (.inl (some (.int (nI res.1)))) (rdH h a res.2.1 res.2.2)) : ∀ (m : Nat) (i : Nat) (v : Nat) (p : Nat) (b : Bool) (x7 : Option Value) (x8 : Option Value), d - i < m → (i ≤ d) → (p ≤ 1000) → (b = false → v * 10 ^ (d - i) ≤ 9999) → (rdB s n lo hi (d - i) v p b = res) → WPx E mX1_readNumber 31 [some (.ref a), some (.int (nI d)), some (.int (nI lo)), some (.int (nI hi)), some (.int (nI (10 ^ (d - i)))), some (.int (nI v)), some (.int (nI i)), x7, x8] [] (0, 0) (rdH h a p b) Q := by
  intro m
  induction m with
  | zero => intro i v p b x7 x8 hm; exact absurd hm (Nat.not_lt_zero _)
  | succ m ih =>
    intro i v p b x7 x8 hm hi2 hp2 hv hres
    have hs : p < n → s p ≤ 255 := fun e => (hX.2.2.2 p e).2
    refine wp_iload (M := mX1_readNumber) (pc := 31) dX1_readNumber_31 rfl ?_
    refine wp_iload_n (M := mX1_readNumber) (pc := 33) dX1_readNumber_33 rfl ?_
    refine wp_icmp_ge (M := mX1_readNumber) (pc := 34) (tgt := 141) dX1_readNumber_34 rfl (fun t34 => ?_) (fun f34 => ?_)
    · have hi3 := n_ge hi2 (by omega) t34
      subst hi3
      refine wp_iload (M := mX1_readNumber) (pc := 141) dX1_readNumber_141 rfl ?_
      refine wp_ireturn (M := mX1_readNumber) (pc := 143) rfl dX1_readNumber_143 ?_
      first
      | (rw [rdB_t hb1] at hres; subst hres; rw [hb1]; exact k)
      | (rw [Nat.sub_self] at hres
         cases b
         · subst hres; exact k
         · subst hres; exact k)
      | fail "leaf"
    · have hlt := n_lt hi2 (by omega) f34
      have em : d - i = (d - (i + 1)) + 1 := by omega
      have e10 : nI (10 ^ (d - i)) / 10 = nI (10 ^ (d - (i + 1))) := by rw [em]; exact ten_div (by omega)
      refine wp_aload_n (M := mX1_readNumber) (pc := 37) dX1_readNumber_37 rfl ?_
      refine wp_getI (M := mX1_readNumber) (pc := 38) fa_X1_22 rfl dX1_readNumber_38 hX.1.1 ?_
      refine wp_if_ne (M := mX1_readNumber) (pc := 41) (tgt := 141) dX1_readNumber_41 rfl (fun t41 => ?_) (fun f41 => ?_)
      · rw [rdH_b] at t41
        have hb1 := bI_n t41
        refine wp_iload (M := mX1_readNumber) (pc := 141) dX1_readNumber_141 rfl ?_
        refine wp_ireturn (M := mX1_readNumber) (pc := 143) rfl dX1_readNumber_143 ?_
        first
        | (rw [rdB_t hb1] at hres; subst hres; rw [hb1]; exact k)
        | (rw [Nat.sub_self] at hres
           cases b
           · subst hres; exact k
           · subst hres; exact k)
        | fail "leaf"
      · rw [rdH_b] at f41
        have hb0 := bI_0 f41
        have hv0 := hv hb0
        rw [rdB_f hb0, em] at hres
        rw [em] at hv0
        refine wp_iload (M := mX1_readNumber) (pc := 44) dX1_readNumber_44 rfl ?_
        refine wp_bipush (M := mX1_readNumber) (pc := 46) (v := 10) dX1_readNumber_46 cb_10 ?_
        refine wp_idiv (M := mX1_readNumber) (pc := 48) dX1_readNumber_48 (by decide) ?_
        refine so_istore (M := mX1_readNumber) (pc := 49) (lo' := [_, _, _, _, _, _, _, _, _]) dX1_readNumber_49 (LE rfl) (LE rfl) (Or.inr rfl) rfl ?_
        refine wp_aload_n (M := mX1_readNumber) (pc := 51) dX1_readNumber_51 rfl ?_
        refine so_V0 (M := mX1_readNumber) (pc := 52) cs_X1_readNumber_50 rfl rfl (LE rfl) (LE rfl) dX1_readNumber_52 hX.1.1 ?_
        refine sp_X1_sign hX.rd rdH_p hp2 ?_
        refine kI ?_
        refine wp_bipush (M := mX1_readNumber) (pc := 55) (v := 48) dX1_readNumber_55 cb_48 ?_
        refine wp_isub (M := mX1_readNumber) (pc := 57) dX1_readNumber_57 ?_
        refine so_istore (M := mX1_readNumber) (pc := 58) (lo' := [_, _, _, _, _, _, _, _, _]) dX1_readNumber_58 (LE rfl) (LE rfl) (Or.inr rfl) rfl ?_
        refine wp_iload (M := mX1_readNumber) (pc := 60) dX1_readNumber_60 rfl ?_
        refine wp_bipush (M := mX1_readNumber) (pc := 62) (v := 10) dX1_readNumber_62 cb_10 ?_
        refine wp_imul (M := mX1_readNumber) (pc := 64) dX1_readNumber_64 ?_
        refine wp_iload (M := mX1_readNumber) (pc := 65) dX1_readNumber_65 rfl ?_
        refine wp_iadd (M := mX1_readNumber) (pc := 67) dX1_readNumber_67 ?_
        refine so_istore (M := mX1_readNumber) (pc := 68) (lo' := [_, _, _, _, _, _, _, _, _]) dX1_readNumber_68 (LE rfl) (LE rfl) (Or.inr rfl) rfl ?_
        refine wp_aload_n (M := mX1_readNumber) (pc := 70) dX1_readNumber_70 rfl ?_
        refine wp_iload (M := mX1_readNumber) (pc := 71) dX1_readNumber_71 rfl ?_
        refine wp_if_lt (M := mX1_readNumber) (pc := 73) (tgt := 106) dX1_readNumber_73 rfl (fun t73 => ?_) (fun f73 => ?_)
        · have hng := sg_ng hs t73
          refine wp_iconst (M := mX1_readNumber) (pc := 106) (v := 1) dX1_readNumber_106 ci_1 ?_
          refine wp_goto (M := mX1_readNumber) (pc := 107) (tgt := 111) dX1_readNumber_107 rfl ?_
          refine wp_putI (M := mX1_readNumber) (pc := 111) fa_X1_22 (Or.inr ⟨rfl, (by decide)⟩) dX1_readNumber_111 hX.1.1 ?_
          refine wp_aload_n (M := mX1_readNumber) (pc := 114) dX1_readNumber_114 rfl ?_
          refine wp_getI (M := mX1_readNumber) (pc := 115) fa_X1_22 rfl dX1_readNumber_115 hX.1.1 ?_
          refine wp_if_ne (M := mX1_readNumber) (pc := 118) (tgt := 135) dX1_readNumber_118 rfl (fun t118 => ?_) (fun f118 => ?_)
          · refine so_iinc (M := mX1_readNumber) (pc := 135) (lo' := [_, _, _, _, _, _, _, _, _]) dX1_readNumber_135 rfl ci_1 (LE rfl) rfl ?_
            refine wp_goto (M := mX1_readNumber) (pc := 138) (tgt := 31) dX1_readNumber_138 rfl ?_
            rw [show nI i + 1 = nI (i + 1) from nI_1 i, e10]
            have z0 : gi (si (rdH h a p b) a 3 0) a 3 = 0 := gi_si_same
            have z1 : gi (si (rdH h a p b) a 3 1) a 3 = 1 := gi_si_same
            have z2 : gi (si (rdH h a p b) a 3 0) a 2 = nI p := by rw [gi_si_oth (by decide)]; exact rdH_p
            have y1 : si (rdH h a p b) a 3 1 = rdH h a p true := rdH_bad
            have y2 : si (si (rdH h a p b) a 3 0) a 2 (nI (p + 1)) = rdH h a (p + 1) false := rdH_ok
            first
            | exact absurd z0 t118
            | (rw [z1] at f118; exact absurd f118 (by decide))
            | (rw [rdN_n (fun q9 => hng ⟨q9.1, q9.2.1⟩)] at hres
               rw [y1]; exact ih (i + 1) v p true _ _ (by omega) (by omega) hp2 (fun e => by cases e) ((rdB_t rfl).trans hres))
            | (rw [rdN_n (fun q9 => by omega)] at hres
               rw [y1]; exact ih (i + 1) v p true _ _ (by omega) (by omega) hp2 (fun e => by cases e) ((rdB_t rfl).trans hres))
            | (rw [rdN_y ⟨hnn.1, hnn.2, by omega, h89, by omega⟩] at hres
               have hn160 := hX.2.2.1.2
               rw [z2, show nI p + 1 = nI (p + 1) from nI_1 p, y2, es, eL]
               exact ih (i + 1) (10 * v + (s p - 48)) (p + 1) false _ _ (by omega) (by omega) (by omega) (fun _ => by omega) ((rdB_f rfl).trans hres))
            | fail "leaf"
          · refine wp_iload (M := mX1_readNumber) (pc := 121) dX1_readNumber_121 rfl ?_
            refine so_istore (M := mX1_readNumber) (pc := 123) (lo' := [_, _, _, _, _, _, _, _, _]) dX1_readNumber_123 (LE rfl) (LE rfl) (Or.inr rfl) rfl ?_
            refine wp_aload_n (M := mX1_readNumber) (pc := 125) dX1_readNumber_125 rfl ?_
            refine wp_dup (M := mX1_readNumber) (pc := 126) dX1_readNumber_126 rfl ?_
            refine wp_getI (M := mX1_readNumber) (pc := 127) fa_X1_19 rfl dX1_readNumber_127 hX.1.1 ?_
            refine wp_iconst (M := mX1_readNumber) (pc := 130) (v := 1) dX1_readNumber_130 ci_1 ?_
            refine wp_iadd (M := mX1_readNumber) (pc := 131) dX1_readNumber_131 ?_
            refine wp_putI (M := mX1_readNumber) (pc := 132) fa_X1_19 (Or.inl rfl) dX1_readNumber_132 hX.1.1 ?_
            refine so_iinc (M := mX1_readNumber) (pc := 135) (lo' := [_, _, _, _, _, _, _, _, _]) dX1_readNumber_135 rfl ci_1 (LE rfl) rfl ?_
            refine wp_goto (M := mX1_readNumber) (pc := 138) (tgt := 31) dX1_readNumber_138 rfl ?_
            rw [show nI i + 1 = nI (i + 1) from nI_1 i, e10]
            have z0 : gi (si (rdH h a p b) a 3 0) a 3 = 0 := gi_si_same
            have z1 : gi (si (rdH h a p b) a 3 1) a 3 = 1 := gi_si_same
            have z2 : gi (si (rdH h a p b) a 3 0) a 2 = nI p := by rw [gi_si_oth (by decide)]; exact rdH_p
            have y1 : si (rdH h a p b) a 3 1 = rdH h a p true := rdH_bad
            have y2 : si (si (rdH h a p b) a 3 0) a 2 (nI (p + 1)) = rdH h a (p + 1) false := rdH_ok
            first
            | exact absurd z0 t118
            | (rw [z1] at f118; exact absurd f118 (by decide))
            | (rw [rdN_n (fun q9 => hng ⟨q9.1, q9.2.1⟩)] at hres
               rw [y1]; exact ih (i + 1) v p true _ _ (by omega) (by omega) hp2 (fun e => by cases e) ((rdB_t rfl).trans hres))
            | (rw [rdN_n (fun q9 => by omega)] at hres
               rw [y1]; exact ih (i + 1) v p true _ _ (by omega) (by omega) hp2 (fun e => by cases e) ((rdB_t rfl).trans hres))
            | (rw [rdN_y ⟨hnn.1, hnn.2, by omega, h89, by omega⟩] at hres
               have hn160 := hX.2.2.1.2
               rw [z2, show nI p + 1 = nI (p + 1) from nI_1 p, y2, es, eL]
               exact ih (i + 1) (10 * v + (s p - 48)) (p + 1) false _ _ (by omega) (by omega) (by omega) (fun _ => by omega) ((rdB_f rfl).trans hres))
            | fail "leaf"
        · have hnn := sg_nn hs f73
          have es := sg_sub hnn.1 hnn.2
          refine wp_iload (M := mX1_readNumber) (pc := 76) dX1_readNumber_76 rfl ?_
          refine wp_bipush (M := mX1_readNumber) (pc := 78) (v := 9) dX1_readNumber_78 cb_9 ?_
          refine wp_icmp_gt (M := mX1_readNumber) (pc := 80) (tgt := 106) dX1_readNumber_80 rfl (fun t80 => ?_) (fun f80 => ?_)
          · rw [es] at t80
            have h80 : 9 < s p - 48 := (i_lt (a := 9) (by decide) (by have := hs hnn.1; omega)).mp t80
            refine wp_iconst (M := mX1_readNumber) (pc := 106) (v := 1) dX1_readNumber_106 ci_1 ?_
            refine wp_goto (M := mX1_readNumber) (pc := 107) (tgt := 111) dX1_readNumber_107 rfl ?_
            refine wp_putI (M := mX1_readNumber) (pc := 111) fa_X1_22 (Or.inr ⟨rfl, (by decide)⟩) dX1_readNumber_111 hX.1.1 ?_
            refine wp_aload_n (M := mX1_readNumber) (pc := 114) dX1_readNumber_114 rfl ?_
            refine wp_getI (M := mX1_readNumber) (pc := 115) fa_X1_22 rfl dX1_readNumber_115 hX.1.1 ?_
            refine wp_if_ne (M := mX1_readNumber) (pc := 118) (tgt := 135) dX1_readNumber_118 rfl (fun t118 => ?_) (fun f118 => ?_)
            · refine so_iinc (M := mX1_readNumber) (pc := 135) (lo' := [_, _, _, _, _, _, _, _, _]) dX1_readNumber_135 rfl ci_1 (LE rfl) rfl ?_
              refine wp_goto (M := mX1_readNumber) (pc := 138) (tgt := 31) dX1_readNumber_138 rfl ?_
              rw [show nI i + 1 = nI (i + 1) from nI_1 i, e10]
              have z0 : gi (si (rdH h a p b) a 3 0) a 3 = 0 := gi_si_same
              have z1 : gi (si (rdH h a p b) a 3 1) a 3 = 1 := gi_si_same
              have z2 : gi (si (rdH h a p b) a 3 0) a 2 = nI p := by rw [gi_si_oth (by decide)]; exact rdH_p
              have y1 : si (rdH h a p b) a 3 1 = rdH h a p true := rdH_bad
              have y2 : si (si (rdH h a p b) a 3 0) a 2 (nI (p + 1)) = rdH h a (p + 1) false := rdH_ok
              first
              | exact absurd z0 t118
              | (rw [z1] at f118; exact absurd f118 (by decide))
              | (rw [rdN_n (fun q9 => hng ⟨q9.1, q9.2.1⟩)] at hres
                 rw [y1]; exact ih (i + 1) v p true _ _ (by omega) (by omega) hp2 (fun e => by cases e) ((rdB_t rfl).trans hres))
              | (rw [rdN_n (fun q9 => by omega)] at hres
                 rw [y1]; exact ih (i + 1) v p true _ _ (by omega) (by omega) hp2 (fun e => by cases e) ((rdB_t rfl).trans hres))
              | (rw [rdN_y ⟨hnn.1, hnn.2, by omega, h89, by omega⟩] at hres
                 have hn160 := hX.2.2.1.2
                 rw [z2, show nI p + 1 = nI (p + 1) from nI_1 p, y2, es, eL]
                 exact ih (i + 1) (10 * v + (s p - 48)) (p + 1) false _ _ (by omega) (by omega) (by omega) (fun _ => by omega) ((rdB_f rfl).trans hres))
              | fail "leaf"
            · refine wp_iload (M := mX1_readNumber) (pc := 121) dX1_readNumber_121 rfl ?_
              refine so_istore (M := mX1_readNumber) (pc := 123) (lo' := [_, _, _, _, _, _, _, _, _]) dX1_readNumber_123 (LE rfl) (LE rfl) (Or.inr rfl) rfl ?_
              refine wp_aload_n (M := mX1_readNumber) (pc := 125) dX1_readNumber_125 rfl ?_
              refine wp_dup (M := mX1_readNumber) (pc := 126) dX1_readNumber_126 rfl ?_
              refine wp_getI (M := mX1_readNumber) (pc := 127) fa_X1_19 rfl dX1_readNumber_127 hX.1.1 ?_
              refine wp_iconst (M := mX1_readNumber) (pc := 130) (v := 1) dX1_readNumber_130 ci_1 ?_
              refine wp_iadd (M := mX1_readNumber) (pc := 131) dX1_readNumber_131 ?_
              refine wp_putI (M := mX1_readNumber) (pc := 132) fa_X1_19 (Or.inl rfl) dX1_readNumber_132 hX.1.1 ?_
              refine so_iinc (M := mX1_readNumber) (pc := 135) (lo' := [_, _, _, _, _, _, _, _, _]) dX1_readNumber_135 rfl ci_1 (LE rfl) rfl ?_
              refine wp_goto (M := mX1_readNumber) (pc := 138) (tgt := 31) dX1_readNumber_138 rfl ?_
              rw [show nI i + 1 = nI (i + 1) from nI_1 i, e10]
              have z0 : gi (si (rdH h a p b) a 3 0) a 3 = 0 := gi_si_same
              have z1 : gi (si (rdH h a p b) a 3 1) a 3 = 1 := gi_si_same
              have z2 : gi (si (rdH h a p b) a 3 0) a 2 = nI p := by rw [gi_si_oth (by decide)]; exact rdH_p
              have y1 : si (rdH h a p b) a 3 1 = rdH h a p true := rdH_bad
              have y2 : si (si (rdH h a p b) a 3 0) a 2 (nI (p + 1)) = rdH h a (p + 1) false := rdH_ok
              first
              | exact absurd z0 t118
              | (rw [z1] at f118; exact absurd f118 (by decide))
              | (rw [rdN_n (fun q9 => hng ⟨q9.1, q9.2.1⟩)] at hres
                 rw [y1]; exact ih (i + 1) v p true _ _ (by omega) (by omega) hp2 (fun e => by cases e) ((rdB_t rfl).trans hres))
              | (rw [rdN_n (fun q9 => by omega)] at hres
                 rw [y1]; exact ih (i + 1) v p true _ _ (by omega) (by omega) hp2 (fun e => by cases e) ((rdB_t rfl).trans hres))
              | (rw [rdN_y ⟨hnn.1, hnn.2, by omega, h89, by omega⟩] at hres
                 have hn160 := hX.2.2.1.2
                 rw [z2, show nI p + 1 = nI (p + 1) from nI_1 p, y2, es, eL]
                 exact ih (i + 1) (10 * v + (s p - 48)) (p + 1) false _ _ (by omega) (by omega) (by omega) (fun _ => by omega) ((rdB_f rfl).trans hres))
              | fail "leaf"
          · rw [es] at f80
            have h80 : s p - 48 ≤ 9 := Nat.le_of_not_lt (fun e => f80 ((i_lt (a := 9) (by decide) (by have := hs hnn.1; omega)).mpr e))
            have hb1 := num_b hv0 (by omega) h80
            have hb2 := num_l hv0 (by omega) h80
            have ht1 := ten_le (m := d - (i + 1)) (by omega)
            have ht0 := ten_pos (m := d - (i + 1))
            have eL : nI v * 10 + nI (s p - 48) = nI (10 * v + (s p - 48)) := by
              rw [show nI v * 10 = nI (v * 10) from nI_mul v 10, nI_add, Nat.mul_comm v 10]
            have eX : (nI v * 10 + nI (s p - 48)) * nI (10 ^ (d - (i + 1))) = nI ((10 * v + (s p - 48)) * 10 ^ (d - (i + 1))) := by rw [eL, nI_mul]
            have eY : (nI v * 10 + nI (s p - 48)) * nI (10 ^ (d - (i + 1))) + nI (10 ^ (d - (i + 1))) - 1 = nI ((10 * v + (s p - 48)) * 10 ^ (d - (i + 1)) + 10 ^ (d - (i + 1)) - 1) := by
              rw [eX, nI_add]
              exact nI_sub (b := 1) (by omega)
            refine wp_iload (M := mX1_readNumber) (pc := 83) dX1_readNumber_83 rfl ?_
            refine wp_iload (M := mX1_readNumber) (pc := 85) dX1_readNumber_85 rfl ?_
            refine wp_imul (M := mX1_readNumber) (pc := 87) dX1_readNumber_87 ?_
            refine wp_iload_n (M := mX1_readNumber) (pc := 88) dX1_readNumber_88 rfl ?_
            refine wp_icmp_gt (M := mX1_readNumber) (pc := 89) (tgt := 106) dX1_readNumber_89 rfl (fun t89 => ?_) (fun f89 => ?_)
            · rw [es, e10, eX] at t89
              have h89 := (i_lt (by omega) (by omega)).mp t89
              refine wp_iconst (M := mX1_readNumber) (pc := 106) (v := 1) dX1_readNumber_106 ci_1 ?_
              refine wp_goto (M := mX1_readNumber) (pc := 107) (tgt := 111) dX1_readNumber_107 rfl ?_
              refine wp_putI (M := mX1_readNumber) (pc := 111) fa_X1_22 (Or.inr ⟨rfl, (by decide)⟩) dX1_readNumber_111 hX.1.1 ?_
              refine wp_aload_n (M := mX1_readNumber) (pc := 114) dX1_readNumber_114 rfl ?_
              refine wp_getI (M := mX1_readNumber) (pc := 115) fa_X1_22 rfl dX1_readNumber_115 hX.1.1 ?_
              refine wp_if_ne (M := mX1_readNumber) (pc := 118) (tgt := 135) dX1_readNumber_118 rfl (fun t118 => ?_) (fun f118 => ?_)
              · refine so_iinc (M := mX1_readNumber) (pc := 135) (lo' := [_, _, _, _, _, _, _, _, _]) dX1_readNumber_135 rfl ci_1 (LE rfl) rfl ?_
                refine wp_goto (M := mX1_readNumber) (pc := 138) (tgt := 31) dX1_readNumber_138 rfl ?_
                rw [show nI i + 1 = nI (i + 1) from nI_1 i, e10]
                have z0 : gi (si (rdH h a p b) a 3 0) a 3 = 0 := gi_si_same
                have z1 : gi (si (rdH h a p b) a 3 1) a 3 = 1 := gi_si_same
                have z2 : gi (si (rdH h a p b) a 3 0) a 2 = nI p := by rw [gi_si_oth (by decide)]; exact rdH_p
                have y1 : si (rdH h a p b) a 3 1 = rdH h a p true := rdH_bad
                have y2 : si (si (rdH h a p b) a 3 0) a 2 (nI (p + 1)) = rdH h a (p + 1) false := rdH_ok
                first
                | exact absurd z0 t118
                | (rw [z1] at f118; exact absurd f118 (by decide))
                | (rw [rdN_n (fun q9 => hng ⟨q9.1, q9.2.1⟩)] at hres
                   rw [y1]; exact ih (i + 1) v p true _ _ (by omega) (by omega) hp2 (fun e => by cases e) ((rdB_t rfl).trans hres))
                | (rw [rdN_n (fun q9 => by omega)] at hres
                   rw [y1]; exact ih (i + 1) v p true _ _ (by omega) (by omega) hp2 (fun e => by cases e) ((rdB_t rfl).trans hres))
                | (rw [rdN_y ⟨hnn.1, hnn.2, by omega, h89, by omega⟩] at hres
                   have hn160 := hX.2.2.1.2
                   rw [z2, show nI p + 1 = nI (p + 1) from nI_1 p, y2, es, eL]
                   exact ih (i + 1) (10 * v + (s p - 48)) (p + 1) false _ _ (by omega) (by omega) (by omega) (fun _ => by omega) ((rdB_f rfl).trans hres))
                | fail "leaf"
              · refine wp_iload (M := mX1_readNumber) (pc := 121) dX1_readNumber_121 rfl ?_
                refine so_istore (M := mX1_readNumber) (pc := 123) (lo' := [_, _, _, _, _, _, _, _, _]) dX1_readNumber_123 (LE rfl) (LE rfl) (Or.inr rfl) rfl ?_
                refine wp_aload_n (M := mX1_readNumber) (pc := 125) dX1_readNumber_125 rfl ?_
                refine wp_dup (M := mX1_readNumber) (pc := 126) dX1_readNumber_126 rfl ?_
                refine wp_getI (M := mX1_readNumber) (pc := 127) fa_X1_19 rfl dX1_readNumber_127 hX.1.1 ?_
                refine wp_iconst (M := mX1_readNumber) (pc := 130) (v := 1) dX1_readNumber_130 ci_1 ?_
                refine wp_iadd (M := mX1_readNumber) (pc := 131) dX1_readNumber_131 ?_
                refine wp_putI (M := mX1_readNumber) (pc := 132) fa_X1_19 (Or.inl rfl) dX1_readNumber_132 hX.1.1 ?_
                refine so_iinc (M := mX1_readNumber) (pc := 135) (lo' := [_, _, _, _, _, _, _, _, _]) dX1_readNumber_135 rfl ci_1 (LE rfl) rfl ?_
                refine wp_goto (M := mX1_readNumber) (pc := 138) (tgt := 31) dX1_readNumber_138 rfl ?_
                rw [show nI i + 1 = nI (i + 1) from nI_1 i, e10]
                have z0 : gi (si (rdH h a p b) a 3 0) a 3 = 0 := gi_si_same
                have z1 : gi (si (rdH h a p b) a 3 1) a 3 = 1 := gi_si_same
                have z2 : gi (si (rdH h a p b) a 3 0) a 2 = nI p := by rw [gi_si_oth (by decide)]; exact rdH_p
                have y1 : si (rdH h a p b) a 3 1 = rdH h a p true := rdH_bad
                have y2 : si (si (rdH h a p b) a 3 0) a 2 (nI (p + 1)) = rdH h a (p + 1) false := rdH_ok
                first
                | exact absurd z0 t118
                | (rw [z1] at f118; exact absurd f118 (by decide))
                | (rw [rdN_n (fun q9 => hng ⟨q9.1, q9.2.1⟩)] at hres
                   rw [y1]; exact ih (i + 1) v p true _ _ (by omega) (by omega) hp2 (fun e => by cases e) ((rdB_t rfl).trans hres))
                | (rw [rdN_n (fun q9 => by omega)] at hres
                   rw [y1]; exact ih (i + 1) v p true _ _ (by omega) (by omega) hp2 (fun e => by cases e) ((rdB_t rfl).trans hres))
                | (rw [rdN_y ⟨hnn.1, hnn.2, by omega, h89, by omega⟩] at hres
                   have hn160 := hX.2.2.1.2
                   rw [z2, show nI p + 1 = nI (p + 1) from nI_1 p, y2, es, eL]
                   exact ih (i + 1) (10 * v + (s p - 48)) (p + 1) false _ _ (by omega) (by omega) (by omega) (fun _ => by omega) ((rdB_f rfl).trans hres))
                | fail "leaf"
            · rw [es, e10, eX] at f89
              have h89 := Nat.le_of_not_lt (fun e => f89 ((i_lt (by omega) (by omega)).mpr e))
              refine wp_iload (M := mX1_readNumber) (pc := 92) dX1_readNumber_92 rfl ?_
              refine wp_iload (M := mX1_readNumber) (pc := 94) dX1_readNumber_94 rfl ?_
              refine wp_imul (M := mX1_readNumber) (pc := 96) dX1_readNumber_96 ?_
              refine wp_iload (M := mX1_readNumber) (pc := 97) dX1_readNumber_97 rfl ?_
              refine wp_iadd (M := mX1_readNumber) (pc := 99) dX1_readNumber_99 ?_
              refine wp_iconst (M := mX1_readNumber) (pc := 100) (v := 1) dX1_readNumber_100 ci_1 ?_
              refine wp_isub (M := mX1_readNumber) (pc := 101) dX1_readNumber_101 ?_
              refine wp_iload_n (M := mX1_readNumber) (pc := 102) dX1_readNumber_102 rfl ?_
              refine wp_icmp_ge (M := mX1_readNumber) (pc := 103) (tgt := 110) dX1_readNumber_103 rfl (fun t103 => ?_) (fun f103 => ?_)
              · rw [es, e10, eY] at t103
                have h103 := (i_le (by omega) (by omega)).mp t103
                refine wp_iconst (M := mX1_readNumber) (pc := 110) (v := 0) dX1_readNumber_110 ci_0 ?_
                refine wp_putI (M := mX1_readNumber) (pc := 111) fa_X1_22 (Or.inr ⟨rfl, (by decide)⟩) dX1_readNumber_111 hX.1.1 ?_
                refine wp_aload_n (M := mX1_readNumber) (pc := 114) dX1_readNumber_114 rfl ?_
                refine wp_getI (M := mX1_readNumber) (pc := 115) fa_X1_22 rfl dX1_readNumber_115 hX.1.1 ?_
                refine wp_if_ne (M := mX1_readNumber) (pc := 118) (tgt := 135) dX1_readNumber_118 rfl (fun t118 => ?_) (fun f118 => ?_)
                · refine so_iinc (M := mX1_readNumber) (pc := 135) (lo' := [_, _, _, _, _, _, _, _, _]) dX1_readNumber_135 rfl ci_1 (LE rfl) rfl ?_
                  refine wp_goto (M := mX1_readNumber) (pc := 138) (tgt := 31) dX1_readNumber_138 rfl ?_
                  rw [show nI i + 1 = nI (i + 1) from nI_1 i, e10]
                  have z0 : gi (si (rdH h a p b) a 3 0) a 3 = 0 := gi_si_same
                  have z1 : gi (si (rdH h a p b) a 3 1) a 3 = 1 := gi_si_same
                  have z2 : gi (si (rdH h a p b) a 3 0) a 2 = nI p := by rw [gi_si_oth (by decide)]; exact rdH_p
                  have y1 : si (rdH h a p b) a 3 1 = rdH h a p true := rdH_bad
                  have y2 : si (si (rdH h a p b) a 3 0) a 2 (nI (p + 1)) = rdH h a (p + 1) false := rdH_ok
                  first
                  | exact absurd z0 t118
                  | (rw [z1] at f118; exact absurd f118 (by decide))
                  | (rw [rdN_n (fun q9 => hng ⟨q9.1, q9.2.1⟩)] at hres
                     rw [y1]; exact ih (i + 1) v p true _ _ (by omega) (by omega) hp2 (fun e => by cases e) ((rdB_t rfl).trans hres))
                  | (rw [rdN_n (fun q9 => by omega)] at hres
                     rw [y1]; exact ih (i + 1) v p true _ _ (by omega) (by omega) hp2 (fun e => by cases e) ((rdB_t rfl).trans hres))
                  | (rw [rdN_y ⟨hnn.1, hnn.2, by omega, h89, by omega⟩] at hres
                     have hn160 := hX.2.2.1.2
                     rw [z2, show nI p + 1 = nI (p + 1) from nI_1 p, y2, es, eL]
                     exact ih (i + 1) (10 * v + (s p - 48)) (p + 1) false _ _ (by omega) (by omega) (by omega) (fun _ => by omega) ((rdB_f rfl).trans hres))
                  | fail "leaf"
                · refine wp_iload (M := mX1_readNumber) (pc := 121) dX1_readNumber_121 rfl ?_
                  refine so_istore (M := mX1_readNumber) (pc := 123) (lo' := [_, _, _, _, _, _, _, _, _]) dX1_readNumber_123 (LE rfl) (LE rfl) (Or.inr rfl) rfl ?_
                  refine wp_aload_n (M := mX1_readNumber) (pc := 125) dX1_readNumber_125 rfl ?_
                  refine wp_dup (M := mX1_readNumber) (pc := 126) dX1_readNumber_126 rfl ?_
                  refine wp_getI (M := mX1_readNumber) (pc := 127) fa_X1_19 rfl dX1_readNumber_127 hX.1.1 ?_
                  refine wp_iconst (M := mX1_readNumber) (pc := 130) (v := 1) dX1_readNumber_130 ci_1 ?_
                  refine wp_iadd (M := mX1_readNumber) (pc := 131) dX1_readNumber_131 ?_
                  refine wp_putI (M := mX1_readNumber) (pc := 132) fa_X1_19 (Or.inl rfl) dX1_readNumber_132 hX.1.1 ?_
                  refine so_iinc (M := mX1_readNumber) (pc := 135) (lo' := [_, _, _, _, _, _, _, _, _]) dX1_readNumber_135 rfl ci_1 (LE rfl) rfl ?_
                  refine wp_goto (M := mX1_readNumber) (pc := 138) (tgt := 31) dX1_readNumber_138 rfl ?_
                  rw [show nI i + 1 = nI (i + 1) from nI_1 i, e10]
                  have z0 : gi (si (rdH h a p b) a 3 0) a 3 = 0 := gi_si_same
                  have z1 : gi (si (rdH h a p b) a 3 1) a 3 = 1 := gi_si_same
                  have z2 : gi (si (rdH h a p b) a 3 0) a 2 = nI p := by rw [gi_si_oth (by decide)]; exact rdH_p
                  have y1 : si (rdH h a p b) a 3 1 = rdH h a p true := rdH_bad
                  have y2 : si (si (rdH h a p b) a 3 0) a 2 (nI (p + 1)) = rdH h a (p + 1) false := rdH_ok
                  first
                  | exact absurd z0 t118
                  | (rw [z1] at f118; exact absurd f118 (by decide))
                  | (rw [rdN_n (fun q9 => hng ⟨q9.1, q9.2.1⟩)] at hres
                     rw [y1]; exact ih (i + 1) v p true _ _ (by omega) (by omega) hp2 (fun e => by cases e) ((rdB_t rfl).trans hres))
                  | (rw [rdN_n (fun q9 => by omega)] at hres
                     rw [y1]; exact ih (i + 1) v p true _ _ (by omega) (by omega) hp2 (fun e => by cases e) ((rdB_t rfl).trans hres))
                  | (rw [rdN_y ⟨hnn.1, hnn.2, by omega, h89, by omega⟩] at hres
                     have hn160 := hX.2.2.1.2
                     rw [z2, show nI p + 1 = nI (p + 1) from nI_1 p, y2, es, eL]
                     exact ih (i + 1) (10 * v + (s p - 48)) (p + 1) false _ _ (by omega) (by omega) (by omega) (fun _ => by omega) ((rdB_f rfl).trans hres))
                  | fail "leaf"
              · rw [es, e10, eY] at f103
                have h103 := Nat.lt_of_not_le (fun e => f103 ((i_le (by omega) (by omega)).mpr e))
                refine wp_iconst (M := mX1_readNumber) (pc := 106) (v := 1) dX1_readNumber_106 ci_1 ?_
                refine wp_goto (M := mX1_readNumber) (pc := 107) (tgt := 111) dX1_readNumber_107 rfl ?_
                refine wp_putI (M := mX1_readNumber) (pc := 111) fa_X1_22 (Or.inr ⟨rfl, (by decide)⟩) dX1_readNumber_111 hX.1.1 ?_
                refine wp_aload_n (M := mX1_readNumber) (pc := 114) dX1_readNumber_114 rfl ?_
                refine wp_getI (M := mX1_readNumber) (pc := 115) fa_X1_22 rfl dX1_readNumber_115 hX.1.1 ?_
                refine wp_if_ne (M := mX1_readNumber) (pc := 118) (tgt := 135) dX1_readNumber_118 rfl (fun t118 => ?_) (fun f118 => ?_)
                · refine so_iinc (M := mX1_readNumber) (pc := 135) (lo' := [_, _, _, _, _, _, _, _, _]) dX1_readNumber_135 rfl ci_1 (LE rfl) rfl ?_
                  refine wp_goto (M := mX1_readNumber) (pc := 138) (tgt := 31) dX1_readNumber_138 rfl ?_
                  rw [show nI i + 1 = nI (i + 1) from nI_1 i, e10]
                  have z0 : gi (si (rdH h a p b) a 3 0) a 3 = 0 := gi_si_same
                  have z1 : gi (si (rdH h a p b) a 3 1) a 3 = 1 := gi_si_same
                  have z2 : gi (si (rdH h a p b) a 3 0) a 2 = nI p := by rw [gi_si_oth (by decide)]; exact rdH_p
                  have y1 : si (rdH h a p b) a 3 1 = rdH h a p true := rdH_bad
                  have y2 : si (si (rdH h a p b) a 3 0) a 2 (nI (p + 1)) = rdH h a (p + 1) false := rdH_ok
                  first
                  | exact absurd z0 t118
                  | (rw [z1] at f118; exact absurd f118 (by decide))
                  | (rw [rdN_n (fun q9 => hng ⟨q9.1, q9.2.1⟩)] at hres
                     rw [y1]; exact ih (i + 1) v p true _ _ (by omega) (by omega) hp2 (fun e => by cases e) ((rdB_t rfl).trans hres))
                  | (rw [rdN_n (fun q9 => by omega)] at hres
                     rw [y1]; exact ih (i + 1) v p true _ _ (by omega) (by omega) hp2 (fun e => by cases e) ((rdB_t rfl).trans hres))
                  | (rw [rdN_y ⟨hnn.1, hnn.2, by omega, h89, by omega⟩] at hres
                     have hn160 := hX.2.2.1.2
                     rw [z2, show nI p + 1 = nI (p + 1) from nI_1 p, y2, es, eL]
                     exact ih (i + 1) (10 * v + (s p - 48)) (p + 1) false _ _ (by omega) (by omega) (by omega) (fun _ => by omega) ((rdB_f rfl).trans hres))
                  | fail "leaf"
                · refine wp_iload (M := mX1_readNumber) (pc := 121) dX1_readNumber_121 rfl ?_
                  refine so_istore (M := mX1_readNumber) (pc := 123) (lo' := [_, _, _, _, _, _, _, _, _]) dX1_readNumber_123 (LE rfl) (LE rfl) (Or.inr rfl) rfl ?_
                  refine wp_aload_n (M := mX1_readNumber) (pc := 125) dX1_readNumber_125 rfl ?_
                  refine wp_dup (M := mX1_readNumber) (pc := 126) dX1_readNumber_126 rfl ?_
                  refine wp_getI (M := mX1_readNumber) (pc := 127) fa_X1_19 rfl dX1_readNumber_127 hX.1.1 ?_
                  refine wp_iconst (M := mX1_readNumber) (pc := 130) (v := 1) dX1_readNumber_130 ci_1 ?_
                  refine wp_iadd (M := mX1_readNumber) (pc := 131) dX1_readNumber_131 ?_
                  refine wp_putI (M := mX1_readNumber) (pc := 132) fa_X1_19 (Or.inl rfl) dX1_readNumber_132 hX.1.1 ?_
                  refine so_iinc (M := mX1_readNumber) (pc := 135) (lo' := [_, _, _, _, _, _, _, _, _]) dX1_readNumber_135 rfl ci_1 (LE rfl) rfl ?_
                  refine wp_goto (M := mX1_readNumber) (pc := 138) (tgt := 31) dX1_readNumber_138 rfl ?_
                  rw [show nI i + 1 = nI (i + 1) from nI_1 i, e10]
                  have z0 : gi (si (rdH h a p b) a 3 0) a 3 = 0 := gi_si_same
                  have z1 : gi (si (rdH h a p b) a 3 1) a 3 = 1 := gi_si_same
                  have z2 : gi (si (rdH h a p b) a 3 0) a 2 = nI p := by rw [gi_si_oth (by decide)]; exact rdH_p
                  have y1 : si (rdH h a p b) a 3 1 = rdH h a p true := rdH_bad
                  have y2 : si (si (rdH h a p b) a 3 0) a 2 (nI (p + 1)) = rdH h a (p + 1) false := rdH_ok
                  first
                  | exact absurd z0 t118
                  | (rw [z1] at f118; exact absurd f118 (by decide))
                  | (rw [rdN_n (fun q9 => hng ⟨q9.1, q9.2.1⟩)] at hres
                     rw [y1]; exact ih (i + 1) v p true _ _ (by omega) (by omega) hp2 (fun e => by cases e) ((rdB_t rfl).trans hres))
                  | (rw [rdN_n (fun q9 => by omega)] at hres
                     rw [y1]; exact ih (i + 1) v p true _ _ (by omega) (by omega) hp2 (fun e => by cases e) ((rdB_t rfl).trans hres))
                  | (rw [rdN_y ⟨hnn.1, hnn.2, by omega, h89, by omega⟩] at hres
                     have hn160 := hX.2.2.1.2
                     rw [z2, show nI p + 1 = nI (p + 1) from nI_1 p, y2, es, eL]
                     exact ih (i + 1) (10 * v + (s p - 48)) (p + 1) false _ _ (by omega) (by omega) (by omega) (fun _ => by omega) ((rdB_f rfl).trans hres))
                  | fail "leaf"
set_option maxHeartbeats 4000000 in
set_option maxRecDepth 100000 in
theorem l1_X1_readNumber {a sa n : Nat} {s : Nat → Nat} {d lo hi : Nat} {p : Nat} {b : Bool} (hX : TxC h a sa s n) (hd4 : d ≤ 4) (hlo : lo ≤ 9999) (hhi : hi ≤ 9999) (hp2 : p ≤ 1000) (k : Q (.inl (some (.int (nI (rdB s n lo hi d 0 p b).1)))) (rdH h a (rdB s n lo hi d 0 p b).2.1 (rdB s n lo hi d 0 p b).2.2)) : ∀ (m : Nat) (i : Nat), d - i < m → (i ≤ d) → WPx E mX1_readNumber 6 [some (.ref a), some (.int (nI d)), some (.int (nI lo)), some (.int (nI hi)), some (.int (nI (10 ^ i))), some (.int (nI i)), none, none, none] [] (0, 0) (rdH h a p b) Q := by
  intro m
  induction m with
  | zero => intro i hm; exact absurd hm (Nat.not_lt_zero _)
  | succ m ih =>
    intro i hm hi2
    refine wp_iload (M := mX1_readNumber) (pc := 6) dX1_readNumber_6 rfl ?_
    refine wp_iload_n (M := mX1_readNumber) (pc := 8) dX1_readNumber_8 rfl ?_
    refine wp_icmp_ge (M := mX1_readNumber) (pc := 9) (tgt := 25) dX1_readNumber_9 rfl (fun t9 => ?_) (fun f9 => ?_)
    · have hi3 := n_ge hi2 (by omega) t9
      subst hi3
      refine wp_iconst (M := mX1_readNumber) (pc := 25) (v := 0) dX1_readNumber_25 ci_0 ?_
      refine so_istore (M := mX1_readNumber) (pc := 26) (lo' := [_, _, _, _, _, _, _, _, _]) dX1_readNumber_26 (LE rfl) (LE rfl) (Or.inr rfl) rfl ?_
      refine wp_iconst (M := mX1_readNumber) (pc := 28) (v := 0) dX1_readNumber_28 ci_0 ?_
      refine so_istore (M := mX1_readNumber) (pc := 29) (lo' := [_, _, _, _, _, _, _, _, _]) dX1_readNumber_29 (LE rfl) (LE rfl) (Or.inr rfl) rfl ?_
      exact l2_X1_readNumber (res := rdB s n lo hi i 0 p b) hX hd4 hlo hhi k (i + 1) 0 0 p b none none (by omega) (by omega) hp2 (fun _ => by omega) rfl
    · have hlt := n_lt hi2 (by omega) f9
      refine wp_iload (M := mX1_readNumber) (pc := 12) dX1_readNumber_12 rfl ?_
      refine wp_bipush (M := mX1_readNumber) (pc := 14) (v := 10) dX1_readNumber_14 cb_10 ?_
      refine wp_imul (M := mX1_readNumber) (pc := 16) dX1_readNumber_16 ?_
      refine so_istore (M := mX1_readNumber) (pc := 17) (lo' := [_, _, _, _, _, _, _, _, _]) dX1_readNumber_17 (LE rfl) (LE rfl) (Or.inr rfl) rfl ?_
      refine so_iinc (M := mX1_readNumber) (pc := 19) (lo' := [_, _, _, _, _, _, _, _, _]) dX1_readNumber_19 rfl ci_1 (LE rfl) rfl ?_
      refine wp_goto (M := mX1_readNumber) (pc := 22) (tgt := 6) dX1_readNumber_22 rfl ?_
      rw [show nI i + 1 = nI (i + 1) from nI_1 i, show nI (10 ^ i) * 10 = nI (10 ^ (i + 1)) from nI_mul _ 10]
      exact ih (i + 1) (by omega) (by omega)
set_option maxHeartbeats 4000000 in
set_option maxRecDepth 100000 in
theorem sp_X1_readNumber {a sa n : Nat} {s : Nat → Nat} {d lo hi : Nat} {p : Nat} {b : Bool} (hX : TxC h a sa s n) (hd4 : d ≤ 4) (hlo : lo ≤ 9999) (hhi : hi ≤ 9999) (hp : gi h a 2 = nI p) (hp2 : p ≤ 1000) (hb : gi h a 3 = bI b) (k : Q (.inl (some (.int (nI (rdB s n lo hi d 0 p b).1)))) (rdH h a (rdB s n lo hi d 0 p b).2.1 (rdB s n lo hi d 0 p b).2.2)) : WPx E mX1_readNumber 0 [some (.ref a), some (.int (nI d)), some (.int (nI lo)), some (.int (nI hi)), none, none, none, none, none] [] (0, 0) h Q := by
  refine wp_iconst (M := mX1_readNumber) (pc := 0) (v := 1) dX1_readNumber_0 ci_1 ?_
  refine so_istore (M := mX1_readNumber) (pc := 1) (lo' := [_, _, _, _, _, _, _, _, _]) dX1_readNumber_1 (LE rfl) (LE rfl) (Or.inr rfl) rfl ?_
  refine wp_iconst (M := mX1_readNumber) (pc := 3) (v := 0) dX1_readNumber_3 ci_0 ?_
  refine so_istore (M := mX1_readNumber) (pc := 4) (lo' := [_, _, _, _, _, _, _, _, _]) dX1_readNumber_4 (LE rfl) (LE rfl) (Or.inr rfl) rfl ?_
  refine wp_h (M := mX1_readNumber) (pc := 6) (rdH_self hp hb).symm ?_
  exact l1_X1_readNumber hX hd4 hlo hhi hp2 k (d + 1) 0 (by omega) (by omega)
end SP
