section SP
variable {E : Ev} {h : PH} {Q : Rt → PH → Prop}
/-- the tenant of a rank, from the k-th on -/
def wstA (A : Sta) (i : Nat) : Nat → Nat → Int32
  | 0, _ => -9
  | f + 1, t => if rnk A t (sN A) = i then nI t else wstA A i f (t + 1)
theorem wstA_y {A : Sta} {i f t : Nat} (h : rnk A t (sN A) = i) : wstA A i (f + 1) t = nI t := if_pos h
theorem wstA_n {A : Sta} {i f t : Nat} (h : ¬ rnk A t (sN A) = i) : wstA A i (f + 1) t = wstA A i f (t + 1) := if_neg h
set_option maxHeartbeats 4000000 in
set_option maxRecDepth 100000 in
theorem lp_X6_wealthiest {me c u hi sl tx : Nat} {q : Nat} {l : Lt} {A : Sta} {i : Nat} (hme : ObC h me q c u hi sl tx) (hR : RepC h q l A) (hi : i < sN A) (k : Q (.inl (some (.int (wstA A i (sN A) 0)))) h) : ∀ (m : Nat) (t : Nat) (r : Nat × Nat), sN A - t < m → (t ≤ sN A) → (wstA A i (sN A) 0 = wstA A i (sN A - t) t) → WPx E mX6_wealthiest 13 [some (.ref me), some (.int (nI i)), some (.int (nI t))] [] r h Q := by
  intro m
  induction m with
  | zero => intro t r hm; exact absurd hm (Nat.not_lt_zero _)
  | succ m ih =>
    intro t r hm ht he
    have kq := hR.1.1.1
    have n2 := hR.2.1.1.1
    have n6 := hR.2.1.1.2
    refine wp_iload_n (M := mX6_wealthiest) (pc := 13) dX6_wealthiest_13 rfl ?_
    refine wp_aload_n (M := mX6_wealthiest) (pc := 14) dX6_wealthiest_14 rfl ?_
    refine wp_getR (M := mX6_wealthiest) (pc := 15) fa_X6_12 rfl dX6_wealthiest_15 (by first | exact hme.1.1 | exact kq) hme.2.1 ?_
    refine wp_getI (M := mX6_wealthiest) (pc := 18) fa_X6_90 rfl dX6_wealthiest_18 (by first | exact hme.1.1 | exact kq) ?_
    refine wp_icmp_ge (M := mX6_wealthiest) (pc := 21) (tgt := 44) dX6_wealthiest_21 rfl (fun t21 => ?_) (fun f21 => ?_)
    · rw [n2] at t21
      have hi2 := n_ge ht (by omega) t21
      subst hi2
      refine wp_bipush (M := mX6_wealthiest) (pc := 44) (v := -9) dX6_wealthiest_44 cb_m9 ?_
      refine wp_ireturn (M := mX6_wealthiest) (pc := 46) rfl dX6_wealthiest_46 ?_
      rw [he, Nat.sub_self] at k
      exact k
    · rw [n2] at f21
      have hlt := n_lt ht (by omega) f21
      rw [show sN A - t = (sN A - (t + 1)) + 1 by omega] at he
      refine wp_aload_n (M := mX6_wealthiest) (pc := 24) dX6_wealthiest_24 rfl ?_
      refine wp_getR (M := mX6_wealthiest) (pc := 25) fa_X6_12 rfl dX6_wealthiest_25 (by first | exact hme.1.1 | exact kq) hme.2.1 ?_
      refine wp_iload_n (M := mX6_wealthiest) (pc := 28) dX6_wealthiest_28 rfl ?_
      refine so_V1 (M := mX6_wealthiest) (pc := 29) cs_X6_wealthiest_232 rfl rfl (LE rfl) (LE rfl) dX6_wealthiest_29 (by first | exact hme.1.1 | exact kq) ?_
      refine sp_X4_rankByWealth hR hlt ?_
      refine kI ?_
      refine wp_iload_n (M := mX6_wealthiest) (pc := 32) dX6_wealthiest_32 rfl ?_
      refine wp_icmp_ne (M := mX6_wealthiest) (pc := 33) (tgt := 38) dX6_wealthiest_33 rfl (fun t33 => ?_) (fun f33 => ?_)
      · refine so_iinc (M := mX6_wealthiest) (pc := 38) (lo' := [_, _, _]) dX6_wealthiest_38 rfl ci_1 (LE rfl) rfl ?_
        refine wp_goto (M := mX6_wealthiest) (pc := 41) (tgt := 13) dX6_wealthiest_41 rfl ?_
        rw [show nI t + 1 = nI (t + 1) from nI_1 t]
        rw [wstA_n (fun e => t33 (by rw [e]))] at he
        exact ih (t + 1) r (by omega) (by omega) he
      · refine wp_iload_n (M := mX6_wealthiest) (pc := 36) dX6_wealthiest_36 rfl ?_
        refine wp_ireturn (M := mX6_wealthiest) (pc := 37) rfl dX6_wealthiest_37 ?_
        have hr := rnk_le A t (sN A)
        rw [he, wstA_y ((i_eq (by omega) (by omega)).mp f33)] at k
        exact k
set_option maxHeartbeats 4000000 in
set_option maxRecDepth 100000 in
theorem sp_X6_wealthiest {m c u hi sl tx : Nat} {q : Nat} {l : Lt} {A : Sta} {w : Int32} (hm : ObC h m q c u hi sl tx) (hR : RepC h q l A) (k1 : ∀ i, i < sN A → w = nI i → Q (.inl (some (.int (wstA A i (sN A) 0)))) h) (k0 : ¬ isT A w → Q (.inr "java/lang/IndexOutOfBoundsException") h) : WPx E mX6_wealthiest 0 [some (.ref m), some (.int w), none] [] (1, 6) h Q := by
  refine wp_aload_n (M := mX6_wealthiest) (pc := 0) dX6_wealthiest_0 rfl ?_
  refine wp_getR (M := mX6_wealthiest) (pc := 1) fa_X6_12 rfl dX6_wealthiest_1 (by first | exact hm.1.1 | exact hR.1.1.1) hm.2.1 ?_
  refine wp_iload_n (M := mX6_wealthiest) (pc := 4) dX6_wealthiest_4 rfl ?_
  refine so_V1 (M := mX6_wealthiest) (pc := 5) cs_X6_wealthiest_97 rfl rfl (LE rfl) (LE rfl) dX6_wealthiest_5 (by first | exact hm.1.1 | exact hR.1.1.1) ?_
  refine sb_hasTenant hR ?_
  refine kI ?_
  refine so_SA1 (M := mX6_wealthiest) (pc := 8) (0, 0) cs_X6_wealthiest_101 rfl (LE rfl) (LE rfl) (LE rfl) (LE rfl) dX6_wealthiest_8 ?_
  refine sp_X6_requireThere (fun ht => ?_) (fun hw => k0 hw)
  obtain ⟨i, hi9, rfl⟩ := ht
  refine kV ?_
  refine wp_iconst (M := mX6_wealthiest) (pc := 11) (v := 0) dX6_wealthiest_11 ci_0 ?_
  refine so_istore_n (M := mX6_wealthiest) (pc := 12) (lo' := [_, _, _]) dX6_wealthiest_12 (LE rfl) (LE rfl) (Or.inr rfl) rfl ?_
  exact lp_X6_wealthiest hm hR hi9 (k1 i hi9 rfl) (sN A + 1) 0 (0, 0) (by omega) (by omega) rfl
end SP
