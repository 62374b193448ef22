section SP
variable {E : Ev} {h : PH} {Q : Rt → PH → Prop}
def lnM (A : Sta) (i : Nat) : Nat := (sT A i).2.1.length
/-- after how many ticks the message is sent -/
noncomputable def aft (A : Sta) (i j : Nat) : Nat → Nat → Int32
  | 0, _ => -9
  | f + 1, k => if nI j < nI (lnM A i) - nI (lnM (tks k A).1 i) then nI k else aft A i j f (k + 1)
theorem aft_y {A : Sta} {i j f k : Nat} (h : nI j < nI (lnM A i) - nI (lnM (tks k A).1 i)) : aft A i j (f + 1) k = nI k := if_pos h
theorem aft_n {A : Sta} {i j f k : Nat} (h : ¬ nI j < nI (lnM A i) - nI (lnM (tks k A).1 i)) : aft A i j (f + 1) k = aft A i j f (k + 1) := if_neg h
noncomputable def sntA (A : Sta) (i j : Nat) : Int32 := if j < lnM A i then aft A i j 99 1 else -9
set_option maxHeartbeats 4000000 in
set_option maxRecDepth 100000 in
theorem lp_X6_sentAfter {ka pa fa la : Nat} {me c u hi sl tx : Nat} {q : Nat} {l : Lt} {A : Sta} {i j : Nat} {h0 : PH} (hme : ObC h0 me q c u hi sl tx) (huc : u ≠ c) (hmu : me ≠ u) (hmc : me ≠ c) (hok : okT A 99) (hi : i < sN A) (k : ∀ h' lc', Lay h' c lc' → AuT h' u ka pa fa la → Fr (fun x => x = c ∨ x = u) h0 h' → Q (.inl (some (.int (aft A i j 99 1)))) h') : ∀ (m : Nat) (n : Nat) (h : PH) (lc : Lt) (r : Nat × Nat), 100 - n < m → (1 ≤ n) → (n ≤ 100) → (RepC h c lc (tks (n - 1) A).1) → (AuT h u ka pa fa la) → (Fr (fun x => x = c ∨ x = u) h0 h) → (aft A i j 99 1 = aft A i j (100 - n) n) → WPx E mX6_sentAfter 53 [some (.ref me), some (.int (nI i)), some (.int (nI j)), some (.int (nI (lnM A i))), some (.int (nI n))] [] r h Q := by
  intro m
  induction m with
  | zero => intro n h lc r hm; exact absurd hm (Nat.not_lt_zero _)
  | succ m ih =>
    intro n h lc r hm hn1 hn hB hA hF he
    have hm0 := hme.fr hF (fun e => e.elim hmc hmu)
    refine wp_iload (M := mX6_sentAfter) (pc := 53) dX6_sentAfter_53 rfl ?_
    refine wp_bipush (M := mX6_sentAfter) (pc := 55) (v := 99) dX6_sentAfter_55 cb_99 ?_
    refine wp_icmp_gt (M := mX6_sentAfter) (pc := 57) (tgt := 100) dX6_sentAfter_57 rfl (fun t57 => ?_) (fun f57 => ?_)
    · have e100 : n = 100 := by
        have := (i_lt (a := 99) (by decide) (by omega)).mp t57
        omega
      refine wp_bipush (M := mX6_sentAfter) (pc := 100) (v := -9) dX6_sentAfter_100 cb_m9 ?_
      refine wp_ireturn (M := mX6_sentAfter) (pc := 102) rfl dX6_sentAfter_102 ?_
      subst e100
      rw [he] at k
      exact k h lc hB.1 hA hF
    · have hlt : n ≤ 99 := Nat.le_of_not_lt (fun e => f57 ((i_lt (a := 99) (by decide) (by omega)).mpr e))
      rw [show 100 - n = (100 - (n + 1)) + 1 by omega] at he
      refine wp_aload_n (M := mX6_sentAfter) (pc := 60) dX6_sentAfter_60 rfl ?_
      refine wp_getR (M := mX6_sentAfter) (pc := 61) fa_X6_16 rfl dX6_sentAfter_61 hm0.1.1 (by first | exact hm0.2.2.1 | exact hm0.2.2.2.1) ?_
      refine wp_iconst (M := mX6_sentAfter) (pc := 64) (v := 1) dX6_sentAfter_64 ci_1 ?_
      refine wp_aload_n (M := mX6_sentAfter) (pc := 65) dX6_sentAfter_65 rfl ?_
      refine wp_getR (M := mX6_sentAfter) (pc := 66) fa_X6_22 rfl dX6_sentAfter_66 hm0.1.1 (by first | exact hm0.2.2.1 | exact hm0.2.2.2.1) ?_
      refine so_V2 (M := mX6_sentAfter) (pc := 69) cs_X6_sentAfter_170 rfl rfl (LE rfl) (LE rfl) dX6_sentAfter_69 hB.1.1.1 ?_
      refine sp_X4_advance (n := 1) hB hA huc (by rw [tks_n]; exact hok.1) (by decide) (by rw [tks_ti]; have := hok.2.1; omega) (by rw [tks_tm]; exact hok.2.2.1) (fun j9 hj9 => ?_) (fun h2 l2 e2 R2' A2 F2 => ?_)
      · have ej : j9 = 0 := by omega
        subst ej
        exact hok.2.2.2 (n - 1) (by omega)
      have R2 : RepC h2 c l2 (tks n A).1 := by
        have e9 : n - 1 + 1 = n := by omega
        rw [← e9]; exact R2'
      have hm2 := hm0.fr F2 (fun e => e.elim hmc hmu)
      have hi3 : i < sN (tks n A).1 := by rw [tks_n]; exact hi
      have hi6 : i < 6 := Nat.lt_of_lt_of_le hi3 R2.2.1.1.2
      obtain ⟨a1, ⟨a2, a3⟩, -⟩ := R2.1.2.2.2.1 i hi6
      have v2 := (R2.2.2.1 i hi3).2.1
      refine kI ?_
      refine wp_pop (M := mX6_sentAfter) (pc := 72) dX6_sentAfter_72 rfl ?_
      refine wp_iload_n (M := mX6_sentAfter) (pc := 73) dX6_sentAfter_73 rfl ?_
      refine wp_aload_n (M := mX6_sentAfter) (pc := 74) dX6_sentAfter_74 rfl ?_
      refine wp_getR (M := mX6_sentAfter) (pc := 75) fa_X6_16 rfl dX6_sentAfter_75 hm2.1.1 hm2.2.2.1 ?_
      refine wp_getR (M := mX6_sentAfter) (pc := 78) fa_X6_111 rfl dX6_sentAfter_78 R2.1.1.1 R2.1.2.1.1 ?_
      refine wp_iload_n (M := mX6_sentAfter) (pc := 81) dX6_sentAfter_81 rfl ?_
      refine wr_aaload (M := mX6_sentAfter) (pc := 82) dX6_sentAfter_82 R2.1.2.1.2.1 (by decide) rfl hi6 (by decide) a1 ?_
      refine wp_getI (M := mX6_sentAfter) (pc := 83) fa_X6_226 rfl dX6_sentAfter_83 a2 ?_
      refine wp_isub (M := mX6_sentAfter) (pc := 86) dX6_sentAfter_86 ?_
      refine wp_iload_n (M := mX6_sentAfter) (pc := 87) dX6_sentAfter_87 rfl ?_
      refine wp_icmp_le (M := mX6_sentAfter) (pc := 88) (tgt := 94) dX6_sentAfter_88 rfl (fun t88 => ?_) (fun f88 => ?_)
      · rw [v2] at t88
        refine so_iinc (M := mX6_sentAfter) (pc := 94) (lo' := [_, _, _, _, _]) dX6_sentAfter_94 rfl ci_1 (LE rfl) rfl ?_
        refine wp_goto (M := mX6_sentAfter) (pc := 97) (tgt := 53) dX6_sentAfter_97 rfl ?_
        rw [show nI n + 1 = nI (n + 1) from nI_1 n]
        rw [aft_n (Int32.not_lt.mpr t88)] at he
        exact ih (n + 1) h2 l2 r (by omega) (by omega) (by omega) R2 A2 (hF.tr F2) he
      · rw [v2] at f88
        refine wp_iload (M := mX6_sentAfter) (pc := 91) dX6_sentAfter_91 rfl ?_
        refine wp_ireturn (M := mX6_sentAfter) (pc := 93) rfl dX6_sentAfter_93 ?_
        rw [he, aft_y (Int32.not_le.mp f88)] at k
        exact k h2 l2 R2.1 A2 (hF.tr F2)
end SP
