section SP
variable {E : Ev} {h : PH} {Q : Rt → PH → Prop}
section
variable {h h' : PH} {me q c u hi sl tx ka pa fa la hsa txa x : Nat} {l lc : Lt} {cs ss : Nat → Option (Nat × Lt)} {X : Abs}
theorem WP.kSl (H : WP h me q c u hi sl tx ka pa fa la hsa txa x l lc cs ss X) : kd h sl = some (.inr (5, 2)) := H.sl.1.1
theorem SlC.nul {v : Nat → Option Sta} {i : Nat} (H : SlC h me sl ss v) (hm : kd h me = some (.inl 6)) : SlC (sr h sl i none) me sl (u1 ss i none) (u1 v i none) := by
  obtain ⟨⟨k1, k2⟩, k3⟩ := H
  have F : Fr (fun z => z = me) h (sr h sl i none) := Fr.sr (by rw [k2])
  refine ⟨⟨k1, k2⟩, fun j hj => ?_⟩
  by_cases e : j = i
  · rw [e, gr_sr, u2_at, u1_at, u1_at]; exact ⟨rfl, Or.inl ⟨rfl, rfl⟩⟩
  · rw [gr_sr, u2_ne _ _ (Or.inr e), u1_ne _ _ e, u1_ne _ _ e]
    refine ⟨(k3 j hj).1, ?_⟩
    rcases (k3 j hj).2 with e1 | ⟨y, B, e1, e2, e3⟩
    · exact Or.inl e1
    · exact Or.inr ⟨y, B, e1, e2, e3.fr F (fun e => nk e3.1.1.1 hm (by simp) e)⟩
theorem DsC.nul {i : Nat} (H : DsC q c cs ss) : DsC q c cs (u1 ss i none) := by
  have hh : ∀ j y, u1 ss i none j = some y → ss j = some y := fun j y e => by
    by_cases e1 : j = i
    · rw [e1, u1_at] at e; cases e
    · rw [u1_ne _ _ e1] at e; exact e
  exact ⟨H.1, H.2.1, fun j hj y e => H.2.2.1 j hj y (hh j y e), fun i j hi hj y z e1 e2 => H.2.2.2.1 i j hi hj y z e1 (hh j z e2), fun y z e1 e2 => H.2.2.2.2 y z (hh 0 y e1) (hh 1 z e2)⟩
/-- a store into the row of slots -/
theorem WP.slS {i : Nat} {v : Option Nat} {ss' : Nat → Option (Nat × Lt)} {w : Nat → Option Sta} (H : WP h me q c u hi sl tx ka pa fa la hsa txa x l lc cs ss X) (hS : SlC (sr h sl i v) me sl ss' w) (hD : DsC q c cs ss') : WP (sr h sl i v) me q c u hi sl tx ka pa fa la hsa txa x l lc cs ss' (xA X, xH X, w, X.2.2.2) := by
  have F : Fr (fun z => z = me) h (sr h sl i v) := Fr.sr (by rw [H.sl.1.2])
  obtain ⟨g1, g2, g3, g4, g5, g6, g7⟩ := H.frA (O := fun z => z = me) F.A (fun y e => e)
  have eg : gr (sr h sl i v) me = gr h me := by rw [gr_sr]; exact u2_row _ _ (nk H.kMe H.kSl (by simp))
  refine ⟨?_, g2 (nk H.kQ H.kMe (by simp)), g3 (nk H.kC H.kMe (by simp)), g4 (nk H.kU H.kMe (by simp)), g5 (nk H.kH H.kMe (by simp)) (fun j hj z e1 => nk (H.kS hj e1) H.kMe (by simp)), g6 (nk H.kX H.kMe (by simp)), hS, hD⟩
  have := H.ob
  unfold ObC at this ⊢
  rw [eg]
  exact this
theorem WP.slO {i : Nat} {v : Option Nat} (H : WP h me q c u hi sl tx ka pa fa la hsa txa x l lc cs ss X) : Of h (sr h sl i v) := Fr.Of (S := fun z => z = me) (Fr.sr (by rw [H.sl.1.2])) (fun z e => by rw [e]; exact nF H.kMe (by simp) (by simp))
theorem WP.slN {v : Nat → Option Sta} (H : WP h me q c u hi sl tx ka pa fa la hsa txa x l lc cs ss X) (h0 : xS X 0 = none) (h1 : xS X 1 = none) : WP h me q c u hi sl tx ka pa fa la hsa txa x l lc cs ss (xA X, xH X, (fun _ => none), X.2.2.2) := by
  refine ⟨H.ob, H.rep, H.lay, H.au, H.hi, H.tx, ⟨H.sl.1, fun j hj => ⟨(H.sl.2 j hj).1, ?_⟩⟩, H.ds⟩
  have e9 : xS X j = none := by
    rcases (show j = 0 ∨ j = 1 by omega) with e | e <;> rw [e] <;> assumption
  rcases (H.sl.2 j hj).2 with e1 | ⟨y, B, e1, e2, e3⟩
  · exact Or.inl ⟨e1.1, rfl⟩
  · rw [e9] at e2; cases e2
/-- a slot gets a state -/
theorem SlC.set {h3 : PH} {v : Nat → Option Sta} {o j : Nat} {lo : Lt} {A : Sta} (H : SlC h me sl ss v) (hj2 : j < 2) (F : Fr (fun z => z = me ∨ z = o) h h3) (hm : kd h me = some (.inl 6)) (hg : ∀ i, i < 2 → gr h3 sl i = if i = j then some o else gr h sl i) (hR : RepC h3 o lo A) (hn : ∀ i, i < 2 → i ≠ j → ∀ y, ss i = some y → y.1 ≠ o) : SlC h3 me sl (u1 ss j (some (o, lo))) (u1 v j (some A)) := by
  obtain ⟨⟨k1, k2⟩, k3⟩ := H
  refine ⟨⟨by rw [F.1]; exact k1, by rw [F.2.1]; exact k2⟩, fun i hi => ?_⟩
  by_cases e : i = j
  · rw [hg i hi, if_pos e, e, u1_at, u1_at]; exact ⟨rfl, Or.inr ⟨_, _, rfl, rfl, hR⟩⟩
  · rw [hg i hi, if_neg e, u1_ne _ _ e, u1_ne _ _ e]
    refine ⟨(k3 i hi).1, ?_⟩
    rcases (k3 i hi).2 with e1 | ⟨y, B, e1, e2, e3⟩
    · exact Or.inl e1
    · exact Or.inr ⟨y, B, e1, e2, e3.fr F (fun q => q.elim (nk e3.1.1.1 hm (by simp)) (hn i hi e y e1))⟩
theorem DsC.set {o j : Nat} {lo : Lt} (H : DsC q c cs ss) (h1 : o ≠ q ∧ o ≠ c) (h2 : ∀ i, i < 14 → ∀ y, cs i = some y → y.1 ≠ o) (h3 : ∀ i, i < 2 → i ≠ j → ∀ y, ss i = some y → y.1 ≠ o) : DsC q c cs (u1 ss j (some (o, lo))) := by
  have hh : ∀ i y, u1 ss j (some (o, lo)) i = some y → (i = j ∧ y = (o, lo)) ∨ (i ≠ j ∧ ss i = some y) := fun i y e => by
    by_cases e1 : i = j
    · rw [e1, u1_at] at e; cases e; exact Or.inl ⟨e1, rfl⟩
    · rw [u1_ne _ _ e1] at e; exact Or.inr ⟨e1, e⟩
  refine ⟨H.1, H.2.1, fun i hi y e => ?_, fun i k hi hk y z e1 e2 => ?_, fun y z e1 e2 => ?_⟩
  · rcases hh i y e with ⟨-, e1⟩ | ⟨-, e1⟩
    · rw [e1]; exact h1
    · exact H.2.2.1 i hi y e1
  · rcases hh k z e2 with ⟨-, e3⟩ | ⟨-, e3⟩
    · rw [e3]; exact h2 i hi y e1
    · exact H.2.2.2.1 i k hi hk y z e1 e3
  · rcases hh 0 y e1 with ⟨a1, e3⟩ | ⟨a1, e3⟩
    · rcases hh 1 z e2 with ⟨a2, e4⟩ | ⟨a2, e4⟩
      · omega
      · rw [e3]; exact fun e => h3 1 (by decide) a2 z e4 e.symm
    · rcases hh 1 z e2 with ⟨a2, e4⟩ | ⟨a2, e4⟩
      · rw [e4]; exact h3 0 (by decide) a1 y e3
      · exact H.2.2.2.2 y z e3 e4
end
set_option maxHeartbeats 4000000 in
set_option maxRecDepth 100000 in
theorem lp_X6_load {me q c u hi sl tx ka pa fa la hsa txa x : Nat} {l lc : Lt} {cs : Nat → Option (Nat × Lt)} {B : Sta} {hs : List Sta} {s : Nat → Nat} {n : Nat} {h0 : PH} (k : ∀ h', WC h' me (B, hs, (fun _ => none), s, n) → Of h0 h' → Q (.inl (some (.int (nI (sN B))))) h') : ∀ (m : Nat) (i : Nat) (h : PH) (ss : Nat → Option (Nat × Lt)) (v : Nat → Option Sta), 2 - i < m → (i ≤ 2) → (WP h me q c u hi sl tx ka pa fa la hsa txa x l lc cs ss (B, hs, v, s, n)) → (∀ j, j < i → v j = none) → (Of h0 h) → WPx E mX6_load 44 [some (.ref me), some (.int (nI i))] [] (0, 0) h Q := by
  intro m
  induction m with
  | zero => intro i h ss v hm; exact absurd hm (Nat.not_lt_zero _)
  | succ m ih =>
    intro i h ss v hm hi2 H hv O1
    have hob := H.ob
    have hR := H.rep
    refine wp_iload_n (M := mX6_load) (pc := 44) dX6_load_44 rfl ?_
    refine wp_aload_n (M := mX6_load) (pc := 45) dX6_load_45 rfl ?_
    refine wp_getR (M := mX6_load) (pc := 46) fa_X6_33 rfl dX6_load_46 (by first | exact hob.1.1 | exact H.kSl | exact hR.1.1.1 | fail "kd") (by first | exact hob.2.2.2.2.2.1 | exact hob.2.1 | fail "rx") ?_
    refine wp_alen (M := mX6_load) (pc := 49) dX6_load_49 (by first | exact hob.1.1 | exact H.kSl | exact hR.1.1.1 | fail "kd") (by decide) ?_
    refine wp_icmp_ge (M := mX6_load) (pc := 50) (tgt := 66) dX6_load_50 rfl (fun t50 => ?_) (fun f50 => ?_)
    · have e2 := n_ge (n := 2) hi2 (by decide) t50
      subst e2
      refine wp_aload_n (M := mX6_load) (pc := 66) dX6_load_66 rfl ?_
      refine wp_getR (M := mX6_load) (pc := 67) fa_X6_12 rfl dX6_load_67 (by first | exact hob.1.1 | exact H.kSl | exact hR.1.1.1 | fail "kd") (by first | exact hob.2.2.2.2.2.1 | exact hob.2.1 | fail "rx") ?_
      refine wp_getI (M := mX6_load) (pc := 70) fa_X6_86 rfl dX6_load_70 (by first | exact hob.1.1 | exact H.kSl | exact hR.1.1.1 | fail "kd") ?_
      refine wp_ireturn (M := mX6_load) (pc := 73) rfl dX6_load_73 ?_
      rw [hR.2.1.1.1]
      exact k h (H.slN (v := v) (hv 0 (by decide)) (hv 1 (by decide))).wc O1
    · have hlt := n_lt (n := 2) hi2 (by decide) f50
      refine wp_aload_n (M := mX6_load) (pc := 53) dX6_load_53 rfl ?_
      refine wp_getR (M := mX6_load) (pc := 54) fa_X6_33 rfl dX6_load_54 (by first | exact hob.1.1 | exact H.kSl | exact hR.1.1.1 | fail "kd") (by first | exact hob.2.2.2.2.2.1 | exact hob.2.1 | fail "rx") ?_
      refine wp_iload_n (M := mX6_load) (pc := 57) dX6_load_57 rfl ?_
      refine wp_aconst_null (M := mX6_load) (pc := 58) dX6_load_58 ?_
      refine wr_aastoreN (M := mX6_load) (pc := 59) dX6_load_59 (by first | exact hob.1.1 | exact H.kSl | exact hR.1.1.1 | fail "kd") (by decide) rfl (by omega) (by decide) ?_
      refine so_iinc (M := mX6_load) (pc := 60) (lo' := [_, _]) dX6_load_60 rfl ci_1 (LE rfl) rfl ?_
      refine wp_goto (M := mX6_load) (pc := 63) (tgt := 44) dX6_load_63 rfl ?_
      rw [show nI i + 1 = nI (i + 1) from nI_1 i]
      refine ih (i + 1) _ (u1 ss i none) (u1 v i none) (by omega) (by omega) (H.slS (H.sl.nul H.kMe) H.ds.nul) (fun j hj => ?_) (O1.tr H.slO)
      by_cases e : j = i
      · rw [e, u1_at]
      · rw [u1_ne _ _ e]; exact hv j (by omega)
set_option maxHeartbeats 4000000 in
set_option maxRecDepth 100000 in
theorem sp_X6_load {me : Nat} {X : Abs} (H : WC h me X) (k1 : rdE (xs X) (xn X) = -9 → ∀ h', WC h' me ((rdA (xs X) (xn X)).1, [], (fun _ => none), xs X, xn X) → Of h h' → Q (.inl (some (.int (nI (sN (rdA (xs X) (xn X)).1))))) h') (k0 : ¬ rdE (xs X) (xn X) = -9 → ∀ h', WC h' me X → Of h h' → Q (.inr "java/lang/IllegalStateException") h') : WPx E mX6_load 0 [some (.ref me), none] [] (1, 6) h Q := by
  obtain ⟨q, c, u, hi, sl, tx, ka, pa, fa, la, hsa, txa, x, l, lc, cs, ss, H⟩ := H
  have hm := H.ob
  have hR := H.rep
  have n6 := hR.2.1.1.2
  refine wp_aload_n (M := mX6_load) (pc := 0) dX6_load_0 rfl ?_
  refine wp_getR (M := mX6_load) (pc := 1) fa_X6_40 rfl dX6_load_1 (by first | exact hm.1.1 | exact H.kQ | exact H.kH | exact H.kC | exact H.kU | exact H.kX | exact hR.1.2.1.2.1 | exact a2 | fail "kd") (by first | exact hm.2.1 | exact hm.2.2.1 | exact hm.2.2.2.1 | exact hm.2.2.2.2.1 | exact hm.2.2.2.2.2.1 | exact hm.2.2.2.2.2.2 | exact hR.1.2.1.1 | exact a1 | fail "rx") ?_
  refine wp_aload_n (M := mX6_load) (pc := 4) dX6_load_4 rfl ?_
  refine wp_getR (M := mX6_load) (pc := 5) fa_X6_16 rfl dX6_load_5 (by first | exact hm.1.1 | exact H.kQ | exact H.kH | exact H.kC | exact H.kU | exact H.kX | exact hR.1.2.1.2.1 | exact a2 | fail "kd") (by first | exact hm.2.1 | exact hm.2.2.1 | exact hm.2.2.2.1 | exact hm.2.2.2.2.1 | exact hm.2.2.2.2.2.1 | exact hm.2.2.2.2.2.2 | exact hR.1.2.1.1 | exact a1 | fail "rx") ?_
  refine so_V1 (M := mX6_load) (pc := 8) cs_X6_load_75 rfl rfl (LE rfl) (LE rfl) dX6_load_8 (by first | exact hm.1.1 | exact H.kQ | exact H.kH | exact H.kC | exact H.kU | exact H.kX | exact hR.1.2.1.2.1 | exact a2 | fail "kd") ?_
  refine sp_X1_readInto H.tx H.lay (nk H.kX H.kC (by simp)) (fun h1 D1 F1 => ?_)
  have O1 := H.xcO F1
  have H := H.xc F1 D1.1.1 D1.2.1
  have hm := H.ob
  have hR := H.rep
  refine kI ?_
  refine wp_bipush (M := mX6_load) (pc := 11) (v := -9) dX6_load_11 cb_m9 ?_
  refine wp_icmp_ne (M := mX6_load) (pc := 13) (tgt := 20) dX6_load_13 rfl (fun t13 => ?_) (fun f13 => ?_)
  · have hl : ¬ (0 : Int32) = 0 → rdE (xs X) (xn X) = -9 := fun e => absurd rfl e
    have hl0 : (0 : Int32) = 0 → ¬ rdE (xs X) (xn X) = -9 := fun _ => t13
    refine wp_iconst (M := mX6_load) (pc := 20) (v := 0) dX6_load_20 ci_0 ?_
    refine so_SA1 (M := mX6_load) (pc := 21) (0, 0) cs_X6_load_64 rfl (LE rfl) (LE rfl) (LE rfl) (LE rfl) dX6_load_21 ?_
    refine sv_X6_requirePossible (fun hv => ?_) (fun hv => k0 (hl0 hv) h1 H.wc O1)
    refine kV ?_
    refine wp_aload_n (M := mX6_load) (pc := 24) dX6_load_24 rfl ?_
    refine wp_getR (M := mX6_load) (pc := 25) fa_X6_12 rfl dX6_load_25 (by first | exact hm.1.1 | exact H.kQ | exact H.kH | exact H.kC | exact H.kU | exact H.kX | exact hR.1.2.1.2.1 | exact a2 | fail "kd") (by first | exact hm.2.1 | exact hm.2.2.1 | exact hm.2.2.2.1 | exact hm.2.2.2.2.1 | exact hm.2.2.2.2.2.1 | exact hm.2.2.2.2.2.2 | exact hR.1.2.1.1 | exact a1 | fail "rx") ?_
    refine wp_aload_n (M := mX6_load) (pc := 28) dX6_load_28 rfl ?_
    refine wp_getR (M := mX6_load) (pc := 29) fa_X6_16 rfl dX6_load_29 (by first | exact hm.1.1 | exact H.kQ | exact H.kH | exact H.kC | exact H.kU | exact H.kX | exact hR.1.2.1.2.1 | exact a2 | fail "kd") (by first | exact hm.2.1 | exact hm.2.2.1 | exact hm.2.2.2.1 | exact hm.2.2.2.2.1 | exact hm.2.2.2.2.2.1 | exact hm.2.2.2.2.2.2 | exact hR.1.2.1.1 | exact a1 | fail "rx") ?_
    refine so_V1 (M := mX6_load) (pc := 32) cs_X6_load_79 rfl rfl (LE rfl) (LE rfl) dX6_load_32 (by first | exact hm.1.1 | exact H.kQ | exact H.kH | exact H.kC | exact H.kU | exact H.kX | exact hR.1.2.1.2.1 | exact a2 | fail "kd") ?_
    refine sp_X4_copyFrom H.rep.1 D1.1 (fun e => H.ds.1 e.symm) (fun h2 R2 F2 => ?_)
    have O2 := O1.tr (H.q1O F2)
    have H := H.q1 F2 R2
    have hm := H.ob
    have hR := H.rep
    refine kV ?_
    refine wp_aload_n (M := mX6_load) (pc := 35) dX6_load_35 rfl ?_
    refine wp_getR (M := mX6_load) (pc := 36) fa_X6_29 rfl dX6_load_36 (by first | exact hm.1.1 | exact H.kQ | exact H.kH | exact H.kC | exact H.kU | exact H.kX | exact hR.1.2.1.2.1 | exact a2 | fail "kd") (by first | exact hm.2.1 | exact hm.2.2.1 | exact hm.2.2.2.1 | exact hm.2.2.2.2.1 | exact hm.2.2.2.2.2.1 | exact hm.2.2.2.2.2.2 | exact hR.1.2.1.1 | exact a1 | fail "rx") ?_
    refine so_V0 (M := mX6_load) (pc := 39) cs_X6_load_83 rfl rfl (LE rfl) (LE rfl) dX6_load_39 (by first | exact hm.1.1 | exact H.kQ | exact H.kH | exact H.kC | exact H.kU | exact H.kX | exact hR.1.2.1.2.1 | exact a2 | fail "kd") ?_
    have F3 : Fr (fun z => z = hi ∨ z = q) h2 (si h2 hi 2 (nI 0)) := Fr.si (Or.inl (by rw [H.hi.1.1.2]))
    have H3 := H.hq F3 (hR.fr (S := fun z => z = hi) (Fr.si (by rw [H.hi.1.1.2])) (fun e => nk H.kQ H.kH (by simp) e)) H.hi.none
    have O3 := O2.tr (H.hqO F3)
    have hm3 := H3.ob
    refine sp_X2_forget H.kH ?_
    refine kV ?_
    refine wp_iconst (M := mX6_load) (pc := 42) (v := 0) dX6_load_42 ci_0 ?_
    refine so_istore_n (M := mX6_load) (pc := 43) (lo' := [_, _]) dX6_load_43 (LE rfl) (LE rfl) (Or.inr rfl) rfl ?_
    exact lp_X6_load (k1 (hl hv)) 3 0 _ ss (xS X) (by omega) (by omega) H3 (fun j hj => absurd hj (Nat.not_lt_zero _)) O3
  · have hl : ¬ (1 : Int32) = 0 → rdE (xs X) (xn X) = -9 := fun _ => f13
    have hl0 : (1 : Int32) = 0 → ¬ rdE (xs X) (xn X) = -9 := fun e => absurd e (by decide)
    refine wp_iconst (M := mX6_load) (pc := 16) (v := 1) dX6_load_16 ci_1 ?_
    refine wp_goto (M := mX6_load) (pc := 17) (tgt := 21) dX6_load_17 rfl ?_
    refine so_SA1 (M := mX6_load) (pc := 21) (0, 0) cs_X6_load_64 rfl (LE rfl) (LE rfl) (LE rfl) (LE rfl) dX6_load_21 ?_
    refine sv_X6_requirePossible (fun hv => ?_) (fun hv => k0 (hl0 hv) h1 H.wc O1)
    refine kV ?_
    refine wp_aload_n (M := mX6_load) (pc := 24) dX6_load_24 rfl ?_
    refine wp_getR (M := mX6_load) (pc := 25) fa_X6_12 rfl dX6_load_25 (by first | exact hm.1.1 | exact H.kQ | exact H.kH | exact H.kC | exact H.kU | exact H.kX | exact hR.1.2.1.2.1 | exact a2 | fail "kd") (by first | exact hm.2.1 | exact hm.2.2.1 | exact hm.2.2.2.1 | exact hm.2.2.2.2.1 | exact hm.2.2.2.2.2.1 | exact hm.2.2.2.2.2.2 | exact hR.1.2.1.1 | exact a1 | fail "rx") ?_
    refine wp_aload_n (M := mX6_load) (pc := 28) dX6_load_28 rfl ?_
    refine wp_getR (M := mX6_load) (pc := 29) fa_X6_16 rfl dX6_load_29 (by first | exact hm.1.1 | exact H.kQ | exact H.kH | exact H.kC | exact H.kU | exact H.kX | exact hR.1.2.1.2.1 | exact a2 | fail "kd") (by first | exact hm.2.1 | exact hm.2.2.1 | exact hm.2.2.2.1 | exact hm.2.2.2.2.1 | exact hm.2.2.2.2.2.1 | exact hm.2.2.2.2.2.2 | exact hR.1.2.1.1 | exact a1 | fail "rx") ?_
    refine so_V1 (M := mX6_load) (pc := 32) cs_X6_load_79 rfl rfl (LE rfl) (LE rfl) dX6_load_32 (by first | exact hm.1.1 | exact H.kQ | exact H.kH | exact H.kC | exact H.kU | exact H.kX | exact hR.1.2.1.2.1 | exact a2 | fail "kd") ?_
    refine sp_X4_copyFrom H.rep.1 D1.1 (fun e => H.ds.1 e.symm) (fun h2 R2 F2 => ?_)
    have O2 := O1.tr (H.q1O F2)
    have H := H.q1 F2 R2
    have hm := H.ob
    have hR := H.rep
    refine kV ?_
    refine wp_aload_n (M := mX6_load) (pc := 35) dX6_load_35 rfl ?_
    refine wp_getR (M := mX6_load) (pc := 36) fa_X6_29 rfl dX6_load_36 (by first | exact hm.1.1 | exact H.kQ | exact H.kH | exact H.kC | exact H.kU | exact H.kX | exact hR.1.2.1.2.1 | exact a2 | fail "kd") (by first | exact hm.2.1 | exact hm.2.2.1 | exact hm.2.2.2.1 | exact hm.2.2.2.2.1 | exact hm.2.2.2.2.2.1 | exact hm.2.2.2.2.2.2 | exact hR.1.2.1.1 | exact a1 | fail "rx") ?_
    refine so_V0 (M := mX6_load) (pc := 39) cs_X6_load_83 rfl rfl (LE rfl) (LE rfl) dX6_load_39 (by first | exact hm.1.1 | exact H.kQ | exact H.kH | exact H.kC | exact H.kU | exact H.kX | exact hR.1.2.1.2.1 | exact a2 | fail "kd") ?_
    have F3 : Fr (fun z => z = hi ∨ z = q) h2 (si h2 hi 2 (nI 0)) := Fr.si (Or.inl (by rw [H.hi.1.1.2]))
    have H3 := H.hq F3 (hR.fr (S := fun z => z = hi) (Fr.si (by rw [H.hi.1.1.2])) (fun e => nk H.kQ H.kH (by simp) e)) H.hi.none
    have O3 := O2.tr (H.hqO F3)
    have hm3 := H3.ob
    refine sp_X2_forget H.kH ?_
    refine kV ?_
    refine wp_iconst (M := mX6_load) (pc := 42) (v := 0) dX6_load_42 ci_0 ?_
    refine so_istore_n (M := mX6_load) (pc := 43) (lo' := [_, _]) dX6_load_43 (LE rfl) (LE rfl) (Or.inr rfl) rfl ?_
    exact lp_X6_load (k1 (hl hv)) 3 0 _ ss (xS X) (by omega) (by omega) H3 (fun j hj => absurd hj (Nat.not_lt_zero _)) O3
set_option maxHeartbeats 4000000 in
set_option maxRecDepth 100000 in
theorem sy_X6_save {me q c u hi sl tx ka pa fa la hsa txa x : Nat} {l lc : Lt} {cs ss : Nat → Option (Nat × Lt)} {X : Abs} {j o : Nat} {lo : Lt} {A : Sta} {r : Nat × Nat} (H : WP h me q c u hi sl tx ka pa fa la hsa txa x l lc cs ss X) (hj : j < 2) (hs : ss j = some (o, lo)) (hv : RepC h o lo A) (k1 : ∀ h', WC h' me (xA X, xH X, u1 (xS X) j (some (xA X)), X.2.2.2) → Of h h' → Q (.inl (some (.int (nI (sTi (xA X)))))) h') : WPx E mX6_save 7 [some (.ref me), some (.int (nI j)), none] [] r h Q := by
  have hm := H.ob
  have hR := H.rep
  have rj : gr h sl j = some o := by rw [(H.sl.2 j hj).1, hs]; rfl
  have dj := H.ds.2.2.1 j hj _ hs
  refine wp_aload_n (M := mX6_save) (pc := 7) dX6_save_7 rfl ?_
  refine wp_getR (M := mX6_save) (pc := 8) fa_X6_33 rfl dX6_save_8 (by first | exact hm.1.1 | exact H.kQ | exact H.kSl | exact hv.1.1.1 | fail "kd") (by first | exact hm.2.1 | exact hm.2.2.2.2.2.1 | exact rj | fail "rx") ?_
  refine wp_iload_n (M := mX6_save) (pc := 11) dX6_save_11 rfl ?_
  refine wr_aaload (M := mX6_save) (pc := 12) dX6_save_12 (by first | exact hm.1.1 | exact H.kQ | exact H.kSl | exact hv.1.1.1 | fail "kd") (by decide) rfl hj (by decide) (by first | exact hm.2.1 | exact hm.2.2.2.2.2.1 | exact rj | fail "rx") ?_
  refine so_astore_n (M := mX6_save) (pc := 13) (lo' := [_, _, _]) dX6_save_13 (LE rfl) (LE rfl) (Or.inr rfl) rfl ?_
  refine wp_aload_n (M := mX6_save) (pc := 14) dX6_save_14 rfl ?_
  refine wp_ifnonnull (M := mX6_save) (pc := 15) (tgt := 33) dX6_save_15 rfl ?_
  refine wp_aload_n (M := mX6_save) (pc := 33) dX6_save_33 rfl ?_
  refine wp_aload_n (M := mX6_save) (pc := 34) dX6_save_34 rfl ?_
  refine wp_getR (M := mX6_save) (pc := 35) fa_X6_12 rfl dX6_save_35 (by first | exact hm.1.1 | exact H.kQ | exact H.kSl | exact hv.1.1.1 | fail "kd") (by first | exact hm.2.1 | exact hm.2.2.2.2.2.1 | exact rj | fail "rx") ?_
  refine so_V1 (M := mX6_save) (pc := 38) cs_X6_save_79 rfl rfl (LE rfl) (LE rfl) dX6_save_38 (by first | exact hm.1.1 | exact H.kQ | exact H.kSl | exact hv.1.1.1 | fail "kd") ?_
  refine sp_X4_copyFrom hv.1 hR dj.1 (fun h1 R1 F1 => ?_)
  have R1q := hR.fr F1 (fun e => dj.1 e.symm)
  have hm1 := hm.fr F1 (nk H.kMe hv.1.1.1 (by simp))
  refine kV ?_
  refine wp_aload_n (M := mX6_save) (pc := 41) dX6_save_41 rfl ?_
  refine wp_getR (M := mX6_save) (pc := 42) fa_X6_12 rfl dX6_save_42 hm1.1.1 hm1.2.1 ?_
  refine wp_getI (M := mX6_save) (pc := 45) fa_X6_251 rfl dX6_save_45 R1q.1.1.1 ?_
  refine wp_ireturn (M := mX6_save) (pc := 48) rfl dX6_save_48 ?_
  rw [R1q.2.1.2.2.2.2.2.2.1]
  have hn : ∀ i, i < 2 → i ≠ j → ∀ y, ss i = some y → y.1 ≠ o := fun i hi e y ey => by
    rcases (show (i = 0 ∧ j = 1) ∨ (i = 1 ∧ j = 0) by omega) with ⟨e1, e2⟩ | ⟨e1, e2⟩
    · rw [e1] at ey; rw [e2] at hs; exact H.ds.2.2.2.2 y _ ey hs
    · rw [e1] at ey; rw [e2] at hs; exact fun e => H.ds.2.2.2.2 _ y hs ey e.symm
  obtain ⟨g1, g2, g3, g4, g5, g6, g7⟩ := H.frA (O := fun z => z = o) F1.A (fun y e => e)
  refine k1 h1 (WP.wc ⟨hm1, R1q, g3 (fun e => dj.2 e.symm), g4 (nk H.kU hv.1.1.1 (by simp)), g5 (nk H.kH hv.1.1.1 (by simp)) (fun i hi z e1 => H.ds.2.2.2.1 i j hi hj z _ e1 hs), g6 (nk H.kX hv.1.1.1 (by simp)), H.sl.set hj (F1.mono (fun y e => Or.inr e)) H.kMe (fun i hi => ?_) R1 hn, H.ds.set dj (fun i hi y e1 => H.ds.2.2.2.1 i j hi hj y _ e1 hs) hn⟩) (F1.Of (fun z e => by rw [e]; exact nF hv.1.1.1 (by simp) (by simp)))
  have e9 : gr h1 sl = gr h sl := (F1.2.2.2 sl (by rw [H.sl.1.2]; exact nk H.kMe hv.1.1.1 (by simp))).2
  by_cases e : i = j
  · rw [if_pos e, e9, e]; exact rj
  · rw [if_neg e, e9]
set_option maxHeartbeats 4000000 in
set_option maxRecDepth 100000 in
theorem sn_X6_save {me q c u hi sl tx ka pa fa la hsa txa x : Nat} {l lc : Lt} {cs ss : Nat → Option (Nat × Lt)} {X : Abs} {j : Nat} (H : WP h me q c u hi sl tx ka pa fa la hsa txa x l lc cs ss X) (hj : j < 2) (hs : ss j = none) (k1 : ∀ h', WC h' me (xA X, xH X, u1 (xS X) j (some (xA X)), X.2.2.2) → Of h h' → Q (.inl (some (.int (nI (sTi (xA X)))))) h') : WPx E mX6_save 7 [some (.ref me), some (.int (nI j)), none] [] (33, 492) h Q := by
  have hm := H.ob
  have hR := H.rep
  have rj : gr h sl j = none := by rw [(H.sl.2 j hj).1, hs]; rfl
  refine wp_aload_n (M := mX6_save) (pc := 7) dX6_save_7 rfl ?_
  refine wp_getR (M := mX6_save) (pc := 8) fa_X6_33 rfl dX6_save_8 (by first | exact hm.1.1 | exact H.kQ | exact H.kSl | fail "kd") (by first | exact hm.2.1 | exact hm.2.2.2.2.2.1 | exact rj | fail "rx") ?_
  refine wp_iload_n (M := mX6_save) (pc := 11) dX6_save_11 rfl ?_
  refine wr_aaloadN (M := mX6_save) (pc := 12) dX6_save_12 (by first | exact hm.1.1 | exact H.kQ | exact H.kSl | fail "kd") (by decide) rfl hj (by decide) (by first | exact hm.2.1 | exact hm.2.2.2.2.2.1 | exact rj | fail "rx") ?_
  refine so_astore_nN (M := mX6_save) (pc := 13) (lo' := [_, _, _]) dX6_save_13 (LE rfl) (LE rfl) (Or.inr rfl) rfl ?_
  refine wp_aload_nN (M := mX6_save) (pc := 14) dX6_save_14 rfl ?_
  refine wp_ifnonnullN (M := mX6_save) (pc := 15) dX6_save_15 ?_
  refine wp_new (M := mX6_save) (pc := 18) nw_X6_9 (fun a => (a, 0, 0)) (by decide) (by decide) dX6_save_18 (fun a18 n18 => ?_)
  refine wp_dup (M := mX6_save) (pc := 21) dX6_save_21 rfl ?_
  refine so_IA0 (M := mX6_save) (pc := 22) (0, 0) cs_X6_save_11 (LE rfl) (LE rfl) (LE rfl) (LE rfl) dX6_save_22 ?_
  refine sp_X4_init kd_newk tg_newk (fun h1 lo hL1 G1 => ?_)
  have G0 : FrA (fun _ => False) h h1 := (FrA.nw n18).tr G1 (fun y κ e q9 => absurd q9 (nek e n18))
  obtain ⟨g1, g2, g3, g4, g5, g6, g7⟩ := H.frA (O := fun _ => False) G0 (fun y e => e)
  have H1 : WP h1 me q c u hi sl tx ka pa fa la hsa txa x l lc cs ss X := ⟨g1 id, g2 id, g3 id, g4 id, g5 id (fun _ _ _ _ => id), g6 id, g7 id (fun _ _ _ _ => id), H.ds⟩
  have nq := nek H.kQ n18
  have nc := nek H.kC n18
  have ncs : ∀ i, i < 14 → ∀ y, cs i = some y → y.1 ≠ a18 := fun i hi y e => nek (H.kS hi e) n18
  have nss : ∀ i, i < 2 → i ≠ j → ∀ y, ss i = some y → y.1 ≠ a18 := fun i hi _ y e => nek (H.kL hi e) n18
  have nme := nek H.kMe n18
  have F2 : Fr (fun z => z = me) h1 (sr h1 sl j (some a18)) := Fr.sr (by rw [H1.sl.1.2])
  have eg : gr (sr h1 sl j (some a18)) me = gr h1 me := by rw [gr_sr]; exact u2_row _ _ (nk H1.kMe H1.kSl (by simp))
  have hm2 : ObC (sr h1 sl j (some a18)) me q c u hi sl tx := by
    have := H1.ob
    unfold ObC at this ⊢
    rw [eg]
    exact this
  have R2q := H1.rep.fr F2 (nk H1.kQ H1.kMe (by simp))
  refine kV1 ?_
  refine so_astore_n (M := mX6_save) (pc := 25) (lo' := [_, _, _]) dX6_save_25 (LE rfl) (LE rfl) (Or.inr rfl) rfl ?_
  refine wp_aload_n (M := mX6_save) (pc := 26) dX6_save_26 rfl ?_
  refine wp_getR (M := mX6_save) (pc := 27) fa_X6_33 rfl dX6_save_27 H1.kMe H1.ob.2.2.2.2.2.1 ?_
  refine wp_iload_n (M := mX6_save) (pc := 30) dX6_save_30 rfl ?_
  refine wp_aload_n (M := mX6_save) (pc := 31) dX6_save_31 rfl ?_
  refine wr_aastore (M := mX6_save) (pc := 32) dX6_save_32 H1.kSl hL1.1.1 (by decide) rfl hj (by decide) ?_
  refine wp_aload_n (M := mX6_save) (pc := 33) dX6_save_33 rfl ?_
  refine wp_aload_n (M := mX6_save) (pc := 34) dX6_save_34 rfl ?_
  refine wp_getR (M := mX6_save) (pc := 35) fa_X6_12 rfl dX6_save_35 hm2.1.1 hm2.2.1 ?_
  refine so_V1 (M := mX6_save) (pc := 38) cs_X6_save_79 rfl rfl (LE rfl) (LE rfl) dX6_save_38 hL1.1.1 ?_
  refine sp_X4_copyFrom (hL1.fr F2 (fun e => nme e.symm)) R2q (fun e => nq e.symm) (fun h3 R3 F3 => ?_)
  have R3q := R2q.fr F3 nq
  have hm3 := hm2.fr F3 nme
  refine kV ?_
  refine wp_aload_n (M := mX6_save) (pc := 41) dX6_save_41 rfl ?_
  refine wp_getR (M := mX6_save) (pc := 42) fa_X6_12 rfl dX6_save_42 hm3.1.1 hm3.2.1 ?_
  refine wp_getI (M := mX6_save) (pc := 45) fa_X6_251 rfl dX6_save_45 R3q.1.1.1 ?_
  refine wp_ireturn (M := mX6_save) (pc := 48) rfl dX6_save_48 ?_
  rw [R3q.2.1.2.2.2.2.2.2.1]
  have F4 : Fr (fun z => z = me ∨ z = a18) h1 h3 := (F2.mono (fun y e => Or.inl e)).tr (F3.mono (fun y e => Or.inr e))
  obtain ⟨g1, g2, g3, g4, g5, g6, g7⟩ := H1.frA (O := fun z => z = me ∨ z = a18) F4.A (fun y e => e)
  have nu := nek H.kU n18
  have nh := nek H.kH n18
  have nx := nek H.kX n18
  refine k1 h3 (WP.wc ⟨hm3, R3q, g3 (fun e => e.elim (nk H1.kC H1.kMe (by simp)) nc), g4 (fun e => e.elim (nk H1.kU H1.kMe (by simp)) nu), g5 (fun e => e.elim (nk H1.kH H1.kMe (by simp)) nh) (fun i hi z e1 e => e.elim (nk (H1.kS hi e1) H1.kMe (by simp)) (ncs i hi z e1)), g6 (fun e => e.elim (nk H1.kX H1.kMe (by simp)) nx), H1.sl.set hj F4 H1.kMe (fun i hi => ?_) R3 nss, H.ds.set ⟨fun e => nq e.symm, fun e => nc e.symm⟩ ncs nss⟩) ((G0.Of (fun x e => absurd e id)).tr (F4.Of (fun z e => ?_)))
  · have e9 : gr h3 sl = gr (sr h1 sl j (some a18)) sl := (F3.2.2.2 sl (by show ¬ (tg h1 sl).1 = a18; rw [H1.sl.1.2]; exact nme)).2
    by_cases e : i = j
    · rw [if_pos e, e9, e, gr_sr, u2_at]
    · rw [if_neg e, e9, gr_sr, u2_ne _ _ (Or.inr e)]
  · rcases e with e | e
    · rw [e]; exact nF H1.kMe (by simp) (by simp)
    · rw [e]; exact nF hL1.1.1 (by simp) (by simp)
set_option maxHeartbeats 4000000 in
set_option maxRecDepth 100000 in
theorem sp_X6_save {me : Nat} {X : Abs} {w : Int32} (H : WC h me X) (k1 : ∀ j, j < 2 → w = nI j → ∀ h', WC h' me (xA X, xH X, u1 (xS X) j (some (xA X)), X.2.2.2) → Of h h' → Q (.inl (some (.int (nI (sTi (xA X)))))) h') (k0 : ¬ wth w 0 1 → Q (.inr "java/lang/IndexOutOfBoundsException") h) : WPx E mX6_save 0 [some (.ref me), some (.int w), none] [] (34, 498) h Q := by
  obtain ⟨q, c, u, hi, sl, tx, ka, pa, fa, la, hsa, txa, x, l, lc, cs, ss, H⟩ := H
  have hm := H.ob
  have hR := H.rep
  have n6 := hR.2.1.1.2
  refine wp_iload_n (M := mX6_save) (pc := 0) dX6_save_0 rfl ?_
  refine so_S1 (M := mX6_save) (pc := 1) cs_X6_save_248 rfl rfl (LE rfl) (LE rfl) dX6_save_1 ?_
  refine sp_X6_isSlot ?_
  refine kI ?_
  refine so_SA1 (M := mX6_save) (pc := 4) (33, 492) cs_X6_save_97 rfl (LE rfl) (LE rfl) (LE rfl) (LE rfl) dX6_save_4 ?_
  refine sp_X6_requireThere (fun hw => ?_) (fun hw => k0 hw)
  obtain ⟨j, hj, rfl⟩ := wth_nI (b := 1) (by decide) hw
  refine kV ?_
  rcases (H.sl.2 j (by omega)).2 with e1 | ⟨y, B, e1, e2, e3⟩
  · exact sn_X6_save H (by omega) e1.1 (k1 j (by omega) rfl)
  · exact sy_X6_save (lo := y.2) (A := B) H (by omega) e1 e3 (k1 j (by omega) rfl)
set_option maxHeartbeats 4000000 in
set_option maxRecDepth 100000 in
theorem sy_X6_restore {me q c u hi sl tx ka pa fa la hsa txa x : Nat} {l lc : Lt} {cs ss : Nat → Option (Nat × Lt)} {X : Abs} {j o : Nat} {lo : Lt} {A : Sta} {r : Nat × Nat} (H : WP h me q c u hi sl tx ka pa fa la hsa txa x l lc cs ss X) (hj : j < 2) (hs : ss j = some (o, lo)) (hv : RepC h o lo A) (k1 : ∀ h', WC h' me (A, [], X.2.2) → Of h h' → Q (.inl (some (.int (nI (sTi A))))) h') : WPx E mX6_restore 7 [some (.ref me), some (.int (nI j)), none] [] r h Q := by
  have hm := H.ob
  have hR := H.rep
  have rj : gr h sl j = some o := by rw [(H.sl.2 j hj).1, hs]; rfl
  have dj := H.ds.2.2.1 j hj _ hs
  refine wp_aload_n (M := mX6_restore) (pc := 7) dX6_restore_7 rfl ?_
  refine wp_getR (M := mX6_restore) (pc := 8) fa_X6_33 rfl dX6_restore_8 (by first | exact hm.1.1 | exact H.kQ | exact H.kSl | exact H.kH | fail "kd") (by first | exact hm.2.1 | exact hm.2.2.2.2.2.1 | exact hm.2.2.2.2.1 | exact rj | fail "rx") ?_
  refine wp_iload_n (M := mX6_restore) (pc := 11) dX6_restore_11 rfl ?_
  refine wr_aaload (M := mX6_restore) (pc := 12) dX6_restore_12 (by first | exact hm.1.1 | exact H.kQ | exact H.kSl | exact H.kH | fail "kd") (by decide) rfl hj (by decide) (by first | exact hm.2.1 | exact hm.2.2.2.2.2.1 | exact hm.2.2.2.2.1 | exact rj | fail "rx") ?_
  refine so_astore_n (M := mX6_restore) (pc := 13) (lo' := [_, _, _]) dX6_restore_13 (LE rfl) (LE rfl) (Or.inr rfl) rfl ?_
  refine wp_aload_n (M := mX6_restore) (pc := 14) dX6_restore_14 rfl ?_
  refine wp_ifnonnull (M := mX6_restore) (pc := 15) (tgt := 29) dX6_restore_15 rfl ?_
  refine wp_aload_n (M := mX6_restore) (pc := 29) dX6_restore_29 rfl ?_
  refine wp_getR (M := mX6_restore) (pc := 30) fa_X6_12 rfl dX6_restore_30 (by first | exact hm.1.1 | exact H.kQ | exact H.kSl | exact H.kH | fail "kd") (by first | exact hm.2.1 | exact hm.2.2.2.2.2.1 | exact hm.2.2.2.2.1 | exact rj | fail "rx") ?_
  refine wp_aload_n (M := mX6_restore) (pc := 33) dX6_restore_33 rfl ?_
  refine so_V1 (M := mX6_restore) (pc := 34) cs_X6_restore_79 rfl rfl (LE rfl) (LE rfl) dX6_restore_34 (by first | exact hm.1.1 | exact H.kQ | exact H.kSl | exact H.kH | fail "kd") ?_
  refine sp_X4_copyFrom hR.1 hv (fun e => dj.1 e.symm) (fun h2 R2 F2 => ?_)
  have O2 := H.q1O F2
  have H := H.q1 F2 R2
  have hm := H.ob
  have hR := H.rep
  refine kV ?_
  refine wp_aload_n (M := mX6_restore) (pc := 37) dX6_restore_37 rfl ?_
  refine wp_getR (M := mX6_restore) (pc := 38) fa_X6_29 rfl dX6_restore_38 (by first | exact hm.1.1 | exact H.kQ | exact H.kSl | exact H.kH | fail "kd") (by first | exact hm.2.1 | exact hm.2.2.2.2.2.1 | exact hm.2.2.2.2.1 | exact rj | fail "rx") ?_
  refine so_V0 (M := mX6_restore) (pc := 41) cs_X6_restore_83 rfl rfl (LE rfl) (LE rfl) dX6_restore_41 (by first | exact hm.1.1 | exact H.kQ | exact H.kSl | exact H.kH | fail "kd") ?_
  have F3 : Fr (fun z => z = hi ∨ z = q) h2 (si h2 hi 2 (nI 0)) := Fr.si (Or.inl (by rw [H.hi.1.1.2]))
  have H3 := H.hq F3 (hR.fr (S := fun z => z = hi) (Fr.si (by rw [H.hi.1.1.2])) (fun e => nk H.kQ H.kH (by simp) e)) H.hi.none
  have O3 := O2.tr (H.hqO F3)
  refine sp_X2_forget H.kH ?_
  refine kV ?_
  refine wp_aload_n (M := mX6_restore) (pc := 44) dX6_restore_44 rfl ?_
  refine wp_getR (M := mX6_restore) (pc := 45) fa_X6_12 rfl dX6_restore_45 H3.kMe H3.ob.2.1 ?_
  refine wp_getI (M := mX6_restore) (pc := 48) fa_X6_251 rfl dX6_restore_48 H3.kQ ?_
  refine wp_ireturn (M := mX6_restore) (pc := 51) rfl dX6_restore_51 ?_
  rw [H3.rep.2.1.2.2.2.2.2.2.1]
  exact k1 _ H3.wc O3
set_option maxHeartbeats 4000000 in
set_option maxRecDepth 100000 in
theorem sn_X6_restore {me q c u hi sl tx ka pa fa la hsa txa x : Nat} {l lc : Lt} {cs ss : Nat → Option (Nat × Lt)} {X : Abs} {j : Nat} (H : WP h me q c u hi sl tx ka pa fa la hsa txa x l lc cs ss X) (hj : j < 2) (hs : ss j = none) (k2 : Q (.inr "java/lang/IllegalStateException") h) : WPx E mX6_restore 7 [some (.ref me), some (.int (nI j)), none] [] (1, 6) h Q := by
  have hm := H.ob
  have rj : gr h sl j = none := by rw [(H.sl.2 j hj).1, hs]; rfl
  refine wp_aload_n (M := mX6_restore) (pc := 7) dX6_restore_7 rfl ?_
  refine wp_getR (M := mX6_restore) (pc := 8) fa_X6_33 rfl dX6_restore_8 (by first | exact hm.1.1 | exact H.kSl | fail "kd") (by first | exact hm.2.2.2.2.2.1 | exact rj | fail "rx") ?_
  refine wp_iload_n (M := mX6_restore) (pc := 11) dX6_restore_11 rfl ?_
  refine wr_aaloadN (M := mX6_restore) (pc := 12) dX6_restore_12 (by first | exact hm.1.1 | exact H.kSl | fail "kd") (by decide) rfl hj (by decide) (by first | exact hm.2.2.2.2.2.1 | exact rj | fail "rx") ?_
  refine so_astore_nN (M := mX6_restore) (pc := 13) (lo' := [_, _, _]) dX6_restore_13 (LE rfl) (LE rfl) (Or.inr rfl) rfl ?_
  refine wp_aload_nN (M := mX6_restore) (pc := 14) dX6_restore_14 rfl ?_
  refine wp_ifnonnullN (M := mX6_restore) (pc := 15) dX6_restore_15 ?_
  exact wp_throw (M := mX6_restore) (pc := 18) (text := "the slot is empty") tw_254 rfl (by decide) (by decide) (by decide) (by decide) (by decide) rfl dX6_restore_18 dX6_restore_21 dX6_restore_22 dX6_restore_25 dX6_restore_28 k2
set_option maxHeartbeats 4000000 in
set_option maxRecDepth 100000 in
theorem sp_X6_restore {me : Nat} {X : Abs} {w : Int32} (H : WC h me X) (k1 : ∀ j A, j < 2 → w = nI j → xS X j = some A → ∀ h', WC h' me (A, [], X.2.2) → Of h h' → Q (.inl (some (.int (nI (sTi A))))) h') (k0 : ¬ wth w 0 1 → Q (.inr "java/lang/IndexOutOfBoundsException") h) (k2 : ∀ j, j < 2 → w = nI j → xS X j = none → Q (.inr "java/lang/IllegalStateException") h) : WPx E mX6_restore 0 [some (.ref me), some (.int w), none] [] (2, 12) h Q := by
  obtain ⟨q, c, u, hi, sl, tx, ka, pa, fa, la, hsa, txa, x, l, lc, cs, ss, H⟩ := H
  have hm := H.ob
  have hR := H.rep
  have n6 := hR.2.1.1.2
  refine wp_iload_n (M := mX6_restore) (pc := 0) dX6_restore_0 rfl ?_
  refine so_S1 (M := mX6_restore) (pc := 1) cs_X6_restore_248 rfl rfl (LE rfl) (LE rfl) dX6_restore_1 ?_
  refine sp_X6_isSlot ?_
  refine kI ?_
  refine so_SA1 (M := mX6_restore) (pc := 4) (1, 6) cs_X6_restore_97 rfl (LE rfl) (LE rfl) (LE rfl) (LE rfl) dX6_restore_4 ?_
  refine sp_X6_requireThere (fun hw => ?_) (fun hw => k0 hw)
  obtain ⟨j, hj, rfl⟩ := wth_nI (b := 1) (by decide) hw
  refine kV ?_
  rcases (H.sl.2 j (by omega)).2 with e1 | ⟨y, B, e1, e2, e3⟩
  · exact sn_X6_restore H (by omega) e1.1 (k2 j (by omega) rfl e1.2)
  · exact sy_X6_restore (lo := y.2) (A := B) H (by omega) e1 e3 (k1 j B (by omega) rfl e2)
end SP
