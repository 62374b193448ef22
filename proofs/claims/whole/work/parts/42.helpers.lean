section SP
variable {E : Ev} {h : PH} {Q : Rt → PH → Prop}
theorem wp_faclen {M : MX} {pc : Nat} {lo : List (Option Value)} {st : List Value} {r : Nat × Nat} (d : decode (mC M) pc = .ok (.arraylength, 1)) (k : WPx E M (pc + 1) lo (.int (nI 7) :: st) r h Q) : WPx E M pc lo (.ref E.2.2.2 :: st) r h Q := by
  intro b D cA p l e s m args below meth c H locs cells slots ls C hL hH hS hc hs
  exact va_tlen C.1 C.2.1 C.2.2.2.2.2.2.2.2.2.2.1.2.2.1.2 hS rfl d (k C hL hH hS hc hs)
def gcdF : Nat → Int64 → Int64 → Int64
  | 0, a, _ => a
  | f + 1, a, b => if b = 0 then a else gcdF f b (a - a / b * b)
def lowT (top bot : Int64) (u : Int32) : Int64 := (if u = 0 then bot else top) / lmax 1 (gcdF 100 (labs top) bot)
theorem lmax_nz (g : Int64) : ¬ lmax 1 g = 0 := by
  unfold lmax
  split
  · rename_i h; intro e; rw [e] at h; exact absurd h (by decide)
  · decide
theorem gcdF_0 {f : Nat} {a b : Int64} (h : b = 0) : gcdF f a b = a := by
  cases f
  · rfl
  · exact if_pos h
theorem gcdF_s {f : Nat} {a b : Int64} (h : ¬ b = 0) : gcdF (f + 1) a b = gcdF f b (a - a / b * b) := if_neg h
def unitG : Nat → Int64
  | 0 => 1
  | k + 1 => unitG k * 1000000
def cntZ (g : Nat → Int32) : Nat → Nat
  | 0 => 0
  | i + 1 => cntZ g i + (if g i = 0 then 1 else 0)
theorem cntZ_y {g : Nat → Int32} {i : Nat} (h : g i = 0) : cntZ g (i + 1) = cntZ g i + 1 := by show cntZ g i + _ = _; rw [if_pos h]
theorem cntZ_n {g : Nat → Int32} {i : Nat} (h : ¬ g i = 0) : cntZ g (i + 1) = cntZ g i := by show cntZ g i + _ = _; rw [if_neg h]; rfl
set_option maxHeartbeats 4000000 in
set_option maxRecDepth 100000 in
theorem sp_X6_requireThere {P : Prop}  (k1 : P → Q (.inl none) h) (k0 : ¬ P → Q (.inr "java/lang/IndexOutOfBoundsException") h) : WPx E mX6_requireThere 0 [some (.int (b01 P))] [] (1, 6) h Q := by
  refine wp_iload_n (M := mX6_requireThere) (pc := 0) dX6_requireThere_0 rfl ?_
  refine wp_if_ne (M := mX6_requireThere) (pc := 1) (tgt := 15) dX6_requireThere_1 rfl (fun t1 => ?_) (fun f1 => ?_)
  · refine wp_return (M := mX6_requireThere) (pc := 15) rfl dX6_requireThere_15 ?_
    exact k1 (b01_n t1)
  · exact wp_throw (M := mX6_requireThere) (pc := 4) (text := "no such tenant, order or slot") tw_265 rfl (by decide) (by decide) (by decide) (by decide) (by decide) rfl dX6_requireThere_4 dX6_requireThere_7 dX6_requireThere_8 dX6_requireThere_11 dX6_requireThere_14 (k0 (b01_z f1))
set_option maxHeartbeats 4000000 in
set_option maxRecDepth 100000 in
theorem sp_X6_requireArgument {P : Prop}  (k1 : P → Q (.inl none) h) (k0 : ¬ P → Q (.inr "java/lang/IllegalArgumentException") h) : WPx E mX6_requireArgument 0 [some (.int (b01 P))] [] (1, 6) h Q := by
  refine wp_iload_n (M := mX6_requireArgument) (pc := 0) dX6_requireArgument_0 rfl ?_
  refine wp_if_ne (M := mX6_requireArgument) (pc := 1) (tgt := 15) dX6_requireArgument_1 rfl (fun t1 => ?_) (fun f1 => ?_)
  · refine wp_return (M := mX6_requireArgument) (pc := 15) rfl dX6_requireArgument_15 ?_
    exact k1 (b01_n t1)
  · exact wp_throw (M := mX6_requireArgument) (pc := 4) (text := "an argument is out of its range") tw_270 rfl (by decide) (by decide) (by decide) (by decide) (by decide) rfl dX6_requireArgument_4 dX6_requireArgument_7 dX6_requireArgument_8 dX6_requireArgument_11 dX6_requireArgument_14 (k0 (b01_z f1))
set_option maxHeartbeats 4000000 in
set_option maxRecDepth 100000 in
theorem sp_X6_requirePossible {P : Prop}  (k1 : P → Q (.inl none) h) (k0 : ¬ P → Q (.inr "java/lang/IllegalStateException") h) : WPx E mX6_requirePossible 0 [some (.int (b01 P))] [] (1, 6) h Q := by
  refine wp_iload_n (M := mX6_requirePossible) (pc := 0) dX6_requirePossible_0 rfl ?_
  refine wp_if_ne (M := mX6_requirePossible) (pc := 1) (tgt := 15) dX6_requirePossible_1 rfl (fun t1 => ?_) (fun f1 => ?_)
  · refine wp_return (M := mX6_requirePossible) (pc := 15) rfl dX6_requirePossible_15 ?_
    exact k1 (b01_n t1)
  · exact wp_throw (M := mX6_requirePossible) (pc := 4) (text := "not possible now") tw_258 rfl (by decide) (by decide) (by decide) (by decide) (by decide) rfl dX6_requirePossible_4 dX6_requirePossible_7 dX6_requirePossible_8 dX6_requirePossible_11 dX6_requirePossible_14 (k0 (b01_z f1))
set_option maxHeartbeats 4000000 in
set_option maxRecDepth 100000 in
theorem lp_X6_unitOfGroup {g : Nat} (hg : g < 2 ^ 31) (k : Q (.inl (some (.long (unitG g)))) h) : ∀ (m : Nat) (i : Nat), g - i < m → (i ≤ g) → WPx E mX6_unitOfGroup 4 [some (.int (nI g)), some (.long (unitG i)), none, some (.int (nI i))] [] (0, 0) h Q := by
  intro m
  induction m with
  | zero => intro i hm; exact absurd hm (Nat.not_lt_zero _)
  | succ m ih =>
    intro i hm hi
    refine wp_iload_n (M := mX6_unitOfGroup) (pc := 4) dX6_unitOfGroup_4 rfl ?_
    refine wp_iload_n (M := mX6_unitOfGroup) (pc := 5) dX6_unitOfGroup_5 rfl ?_
    refine wp_icmp_ge (M := mX6_unitOfGroup) (pc := 6) (tgt := 21) dX6_unitOfGroup_6 rfl (fun t6 => ?_) (fun f6 => ?_)
    · have hi2 := n_ge hi hg t6
      subst hi2
      refine wp_lload_n (M := mX6_unitOfGroup) (pc := 21) dX6_unitOfGroup_21 rfl ?_
      refine wp_lreturn (M := mX6_unitOfGroup) (pc := 22) rfl dX6_unitOfGroup_22 ?_
      exact k
    · have hlt := n_lt hi hg f6
      refine wp_lload_n (M := mX6_unitOfGroup) (pc := 9) dX6_unitOfGroup_9 rfl ?_
      refine wp_ldc2_w (M := mX6_unitOfGroup) (pc := 10) wv_X6_239 dX6_unitOfGroup_10 ?_
      refine wp_lmul (M := mX6_unitOfGroup) (pc := 13) dX6_unitOfGroup_13 ?_
      refine so_lstore_n (M := mX6_unitOfGroup) (pc := 14) (lo' := [_, _, _, _]) dX6_unitOfGroup_14 (LE rfl) (LE rfl) (Or.inr rfl) rfl ?_
      refine so_iinc (M := mX6_unitOfGroup) (pc := 15) (lo' := [_, _, _, _]) dX6_unitOfGroup_15 rfl ci_1 (LE rfl) rfl ?_
      refine wp_goto (M := mX6_unitOfGroup) (pc := 18) (tgt := 4) dX6_unitOfGroup_18 rfl ?_
      rw [show nI i + 1 = nI (i + 1) from nI_1 i]
      exact ih (i + 1) (by omega) (by omega)
set_option maxHeartbeats 4000000 in
set_option maxRecDepth 100000 in
theorem sp_X6_unitOfGroup {g : Nat} (hg : g < 2 ^ 31) (k : Q (.inl (some (.long (unitG g)))) h) : WPx E mX6_unitOfGroup 0 [some (.int (nI g)), none, none, none] [] (0, 0) h Q := by
  refine wp_lconst (M := mX6_unitOfGroup) (pc := 0) (v := 1) dX6_unitOfGroup_0 cl_1 ?_
  refine so_lstore_n (M := mX6_unitOfGroup) (pc := 1) (lo' := [_, _, _, _]) dX6_unitOfGroup_1 (LE rfl) (LE rfl) (Or.inr rfl) rfl ?_
  refine wp_iconst (M := mX6_unitOfGroup) (pc := 2) (v := 0) dX6_unitOfGroup_2 ci_0 ?_
  refine so_istore_n (M := mX6_unitOfGroup) (pc := 3) (lo' := [_, _, _, _]) dX6_unitOfGroup_3 (LE rfl) (LE rfl) (Or.inr rfl) rfl ?_
  exact lp_X6_unitOfGroup hg k (g + 1) 0 (by omega) (by omega)
set_option maxHeartbeats 4000000 in
set_option maxRecDepth 100000 in
theorem lp_X6_inLowestTerms {top bot : Int64} {u : Int32} (k : Q (.inl (some (.long (lowT top bot u)))) h) : ∀ (m : Nat) (i : Nat) (a : Int64) (b : Int64) (x10 : Option Value), 100 - i < m → (i ≤ 100) → (gcdF (100 - i) a b = gcdF 100 (labs top) bot) → WPx E mX6_inLowestTerms 12 [some (.long top), none, some (.long bot), none, some (.int u), some (.long a), none, some (.long b), none, some (.int (nI i)), x10, none] [] (0, 0) h Q := by
  intro m
  induction m with
  | zero => intro i a b x10 hm; exact absurd hm (Nat.not_lt_zero _)
  | succ m ih =>
    intro i a b x10 hm hi he
    refine wp_iload (M := mX6_inLowestTerms) (pc := 12) dX6_inLowestTerms_12 rfl ?_
    refine wp_bipush (M := mX6_inLowestTerms) (pc := 14) (v := 100) dX6_inLowestTerms_14 cb_100 ?_
    refine wp_icmp_ge (M := mX6_inLowestTerms) (pc := 16) (tgt := 47) dX6_inLowestTerms_16 rfl (fun t16 => ?_) (fun f16 => ?_)
    · have hi2 := n_ge hi (by decide) t16
      subst hi2
      have ha : a = gcdF 100 (labs top) bot := he
      subst ha
      refine wp_iload (M := mX6_inLowestTerms) (pc := 47) dX6_inLowestTerms_47 rfl ?_
      refine wp_if_eq (M := mX6_inLowestTerms) (pc := 49) (tgt := 56) dX6_inLowestTerms_49 rfl (fun t49 => ?_) (fun f49 => ?_)
      · refine wp_lload_n (M := mX6_inLowestTerms) (pc := 56) dX6_inLowestTerms_56 rfl ?_
        refine wp_lconst (M := mX6_inLowestTerms) (pc := 57) (v := 1) dX6_inLowestTerms_57 cl_1 ?_
        refine wp_lload (M := mX6_inLowestTerms) (pc := 58) dX6_inLowestTerms_58 rfl ?_
        refine so_S2 (M := mX6_inLowestTerms) (pc := 60) cs_X6_inLowestTerms_294 rfl rfl (LE rfl) (LE rfl) dX6_inLowestTerms_60 ?_
        refine sp_J9_max_f86c9 ?_
        refine kL ?_
        refine wp_ldiv (M := mX6_inLowestTerms) (pc := 63) dX6_inLowestTerms_63 (by first | exact f23n | exact lmax_nz _) ?_
        refine wp_lreturn (M := mX6_inLowestTerms) (pc := 64) rfl dX6_inLowestTerms_64 ?_
        first
        | (rw [lowT, if_pos t49] at k; exact k)
        | (rw [lowT, if_neg f49] at k; exact k)
        | fail "leaf"
      · refine wp_lload_n (M := mX6_inLowestTerms) (pc := 52) dX6_inLowestTerms_52 rfl ?_
        refine wp_goto (M := mX6_inLowestTerms) (pc := 53) (tgt := 57) dX6_inLowestTerms_53 rfl ?_
        refine wp_lconst (M := mX6_inLowestTerms) (pc := 57) (v := 1) dX6_inLowestTerms_57 cl_1 ?_
        refine wp_lload (M := mX6_inLowestTerms) (pc := 58) dX6_inLowestTerms_58 rfl ?_
        refine so_S2 (M := mX6_inLowestTerms) (pc := 60) cs_X6_inLowestTerms_294 rfl rfl (LE rfl) (LE rfl) dX6_inLowestTerms_60 ?_
        refine sp_J9_max_f86c9 ?_
        refine kL ?_
        refine wp_ldiv (M := mX6_inLowestTerms) (pc := 63) dX6_inLowestTerms_63 (by first | exact f23n | exact lmax_nz _) ?_
        refine wp_lreturn (M := mX6_inLowestTerms) (pc := 64) rfl dX6_inLowestTerms_64 ?_
        first
        | (rw [lowT, if_pos t49] at k; exact k)
        | (rw [lowT, if_neg f49] at k; exact k)
        | fail "leaf"
    · have hlt := n_lt hi (by decide) f16
      refine wp_lload (M := mX6_inLowestTerms) (pc := 19) dX6_inLowestTerms_19 rfl ?_
      refine wp_lconst (M := mX6_inLowestTerms) (pc := 21) (v := 0) dX6_inLowestTerms_21 cl_0 ?_
      refine wp_lcmp (M := mX6_inLowestTerms) (pc := 22) dX6_inLowestTerms_22 ?_
      refine wp_if_eq (M := mX6_inLowestTerms) (pc := 23) (tgt := 47) dX6_inLowestTerms_23 rfl (fun t23 => ?_) (fun f23 => ?_)
      · rw [gcdF_0 ((lg_cmp_eq _ _).mp t23)] at he
        subst he
        refine wp_iload (M := mX6_inLowestTerms) (pc := 47) dX6_inLowestTerms_47 rfl ?_
        refine wp_if_eq (M := mX6_inLowestTerms) (pc := 49) (tgt := 56) dX6_inLowestTerms_49 rfl (fun t49 => ?_) (fun f49 => ?_)
        · refine wp_lload_n (M := mX6_inLowestTerms) (pc := 56) dX6_inLowestTerms_56 rfl ?_
          refine wp_lconst (M := mX6_inLowestTerms) (pc := 57) (v := 1) dX6_inLowestTerms_57 cl_1 ?_
          refine wp_lload (M := mX6_inLowestTerms) (pc := 58) dX6_inLowestTerms_58 rfl ?_
          refine so_S2 (M := mX6_inLowestTerms) (pc := 60) cs_X6_inLowestTerms_294 rfl rfl (LE rfl) (LE rfl) dX6_inLowestTerms_60 ?_
          refine sp_J9_max_f86c9 ?_
          refine kL ?_
          refine wp_ldiv (M := mX6_inLowestTerms) (pc := 63) dX6_inLowestTerms_63 (by first | exact f23n | exact lmax_nz _) ?_
          refine wp_lreturn (M := mX6_inLowestTerms) (pc := 64) rfl dX6_inLowestTerms_64 ?_
          first
          | (rw [lowT, if_pos t49] at k; exact k)
          | (rw [lowT, if_neg f49] at k; exact k)
          | fail "leaf"
        · refine wp_lload_n (M := mX6_inLowestTerms) (pc := 52) dX6_inLowestTerms_52 rfl ?_
          refine wp_goto (M := mX6_inLowestTerms) (pc := 53) (tgt := 57) dX6_inLowestTerms_53 rfl ?_
          refine wp_lconst (M := mX6_inLowestTerms) (pc := 57) (v := 1) dX6_inLowestTerms_57 cl_1 ?_
          refine wp_lload (M := mX6_inLowestTerms) (pc := 58) dX6_inLowestTerms_58 rfl ?_
          refine so_S2 (M := mX6_inLowestTerms) (pc := 60) cs_X6_inLowestTerms_294 rfl rfl (LE rfl) (LE rfl) dX6_inLowestTerms_60 ?_
          refine sp_J9_max_f86c9 ?_
          refine kL ?_
          refine wp_ldiv (M := mX6_inLowestTerms) (pc := 63) dX6_inLowestTerms_63 (by first | exact f23n | exact lmax_nz _) ?_
          refine wp_lreturn (M := mX6_inLowestTerms) (pc := 64) rfl dX6_inLowestTerms_64 ?_
          first
          | (rw [lowT, if_pos t49] at k; exact k)
          | (rw [lowT, if_neg f49] at k; exact k)
          | fail "leaf"
      · have f23n : ¬ b = 0 := fun e => f23 ((lg_cmp_eq _ _).mpr e)
        rw [show 100 - i = (100 - (i + 1)) + 1 by omega, gcdF_s f23n] at he
        refine wp_lload (M := mX6_inLowestTerms) (pc := 26) dX6_inLowestTerms_26 rfl ?_
        refine wp_lload (M := mX6_inLowestTerms) (pc := 28) dX6_inLowestTerms_28 rfl ?_
        refine wp_lrem (M := mX6_inLowestTerms) (pc := 30) dX6_inLowestTerms_30 (by first | exact f23n | exact lmax_nz _) ?_
        refine so_lstore (M := mX6_inLowestTerms) (pc := 31) (lo' := [_, _, _, _, _, _, _, _, _, _, _, _]) dX6_inLowestTerms_31 (LE rfl) (LE rfl) (Or.inr rfl) rfl ?_
        refine wp_lload (M := mX6_inLowestTerms) (pc := 33) dX6_inLowestTerms_33 rfl ?_
        refine so_lstore (M := mX6_inLowestTerms) (pc := 35) (lo' := [_, _, _, _, _, _, _, _, _, _, _, _]) dX6_inLowestTerms_35 (LE rfl) (LE rfl) (Or.inr rfl) rfl ?_
        refine wp_lload (M := mX6_inLowestTerms) (pc := 37) dX6_inLowestTerms_37 rfl ?_
        refine so_lstore (M := mX6_inLowestTerms) (pc := 39) (lo' := [_, _, _, _, _, _, _, _, _, _, _, _]) dX6_inLowestTerms_39 (LE rfl) (LE rfl) (Or.inr rfl) rfl ?_
        refine so_iinc (M := mX6_inLowestTerms) (pc := 41) (lo' := [_, _, _, _, _, _, _, _, _, _, _, _]) dX6_inLowestTerms_41 rfl ci_1 (LE rfl) rfl ?_
        refine wp_goto (M := mX6_inLowestTerms) (pc := 44) (tgt := 12) dX6_inLowestTerms_44 rfl ?_
        rw [show nI i + 1 = nI (i + 1) from nI_1 i]
        exact ih (i + 1) _ _ _ (by omega) (by omega) he
set_option maxHeartbeats 4000000 in
set_option maxRecDepth 100000 in
theorem sp_X6_inLowestTerms {top bot : Int64} {u : Int32}  (k : Q (.inl (some (.long (lowT top bot u)))) h) : WPx E mX6_inLowestTerms 0 [some (.long top), none, some (.long bot), none, some (.int u), none, none, none, none, none, none, none] [] (0, 0) h Q := by
  refine wp_lload_n (M := mX6_inLowestTerms) (pc := 0) dX6_inLowestTerms_0 rfl ?_
  refine so_S1 (M := mX6_inLowestTerms) (pc := 1) cs_X6_inLowestTerms_288 rfl rfl (LE rfl) (LE rfl) dX6_inLowestTerms_1 ?_
  refine sp_J9_abs_067f4 ?_
  refine kL ?_
  refine so_lstore (M := mX6_inLowestTerms) (pc := 4) (lo' := [_, _, _, _, _, _, _, _, _, _, _, _]) dX6_inLowestTerms_4 (LE rfl) (LE rfl) (Or.inr rfl) rfl ?_
  refine wp_lload_n (M := mX6_inLowestTerms) (pc := 6) dX6_inLowestTerms_6 rfl ?_
  refine so_lstore (M := mX6_inLowestTerms) (pc := 7) (lo' := [_, _, _, _, _, _, _, _, _, _, _, _]) dX6_inLowestTerms_7 (LE rfl) (LE rfl) (Or.inr rfl) rfl ?_
  refine wp_iconst (M := mX6_inLowestTerms) (pc := 9) (v := 0) dX6_inLowestTerms_9 ci_0 ?_
  refine so_istore (M := mX6_inLowestTerms) (pc := 10) (lo' := [_, _, _, _, _, _, _, _, _, _, _, _]) dX6_inLowestTerms_10 (LE rfl) (LE rfl) (Or.inr rfl) rfl ?_
  exact lp_X6_inLowestTerms k 101 0 _ _ none (by omega) (by omega) rfl
set_option maxHeartbeats 4000000 in
set_option maxRecDepth 100000 in
theorem sp_X6_factorial {m : Nat} (hm : m < 7) (k : Q (.inl (some (.int (facv m)))) h) : WPx E mX6_factorial 0 [some (.int (nI m))] [] (0, 0) h Q := by
  refine wp_iload_n (M := mX6_factorial) (pc := 0) dX6_factorial_0 rfl ?_
  refine wp_if_lt (M := mX6_factorial) (pc := 1) (tgt := 20) dX6_factorial_1 rfl (fun t1 => ?_) (fun f1 => ?_)
  · exact absurd t1 (nI_pos (by omega))
  · refine wp_iload_n (M := mX6_factorial) (pc := 4) dX6_factorial_4 rfl ?_
    refine wp_fac (M := mX6_factorial) (pc := 5) w_fac dX6_factorial_5 ?_
    refine wp_faclen (M := mX6_factorial) (pc := 8) dX6_factorial_8 ?_
    refine wp_icmp_ge (M := mX6_factorial) (pc := 9) (tgt := 20) dX6_factorial_9 rfl (fun t9 => ?_) (fun f9 => ?_)
    · exact absurd ((i_le (by decide) (by omega)).mp t9) (by omega)
    · refine wp_fac (M := mX6_factorial) (pc := 12) w_fac dX6_factorial_12 ?_
      refine wp_iload_n (M := mX6_factorial) (pc := 15) dX6_factorial_15 rfl ?_
      refine wp_facld (M := mX6_factorial) (pc := 16) dX6_factorial_16 (ix_in rfl hm (by decide)) ?_
      refine wp_goto (M := mX6_factorial) (pc := 17) (tgt := 21) dX6_factorial_17 rfl ?_
      refine wp_ireturn (M := mX6_factorial) (pc := 21) rfl dX6_factorial_21 ?_
      rw [ix_cl rfl hm (by decide)]; exact k
end SP
