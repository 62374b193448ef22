section SP
variable {E : Ev} {h : PH} {Q : Rt → PH → Prop}
theorem wp_gen {M : MX} {pc : Nat} {lo : List (Option Value)} {st : List Value} {r : Nat × Nat} {P : PH → Prop} (hP : P h) (kk : ∀ hX, P hX → WPx E M pc lo st r hX Q) : WPx E M pc lo st r h Q := kk h hP
/-- the reference's matching: fills, volume, price, surplus -/
abbrev RS : Type := (Nat → Int32) × Int32 × Int32 × Int32
def rN (B : List Ord) (s : RS) (b a : Nat) : Int32 := imin (qB B a - s.1 a) (qB B b - s.1 b)
def rStep (B : List Ord) (s : RS) (b a : Nat) : RS := (upd (upd s.1 b (s.1 b + rN B s b a)) a (upd s.1 b (s.1 b + rN B s b a) a + rN B s b a), s.2.1 + rN B s b a, (pB B b + pB B a) / 2, s.2.2.2 + rN B s b a * (pB B b - pB B a))
def mR (B : List Ord) (f g : Nat → Nat) (nb na : Nat) : Nat → Nat → Nat → RS → RS
  | 0, _, _, s => s
  | k + 1, i, j, s => if i < nb ∧ j < na ∧ pB B (g j) ≤ pB B (f i) then mR B f g nb na k (if rN B s (f i) (g j) = qB B (f i) - s.1 (f i) then i + 1 else i) (if rN B s (f i) (g j) = qB B (g j) - s.1 (g j) then j + 1 else j) (rStep B s (f i) (g j)) else s
theorem mR_stop {B : List Ord} {f g : Nat → Nat} {nb na k i j : Nat} {s : RS} (h : ¬ (i < nb ∧ j < na ∧ pB B (g j) ≤ pB B (f i))) : mR B f g nb na k i j s = s := by
  cases k
  · rfl
  · exact if_neg h
theorem mR_go {B : List Ord} {f g : Nat → Nat} {nb na k i j : Nat} {s : RS} (h : i < nb ∧ j < na ∧ pB B (g j) ≤ pB B (f i)) : mR B f g nb na (k + 1) i j s = mR B f g nb na k (if rN B s (f i) (g j) = qB B (f i) - s.1 (f i) then i + 1 else i) (if rN B s (f i) (g j) = qB B (g j) - s.1 (g j) then j + 1 else j) (rStep B s (f i) (g j)) := if_pos h
theorem rN_or (B : List Ord) (s : RS) (b a : Nat) : rN B s b a = qB B b - s.1 b ∨ rN B s b a = qB B a - s.1 a := by
  unfold rN imin
  split
  · exact Or.inl rfl
  · exact Or.inr rfl
noncomputable def mtB (B : List Ord) : RS := mR B (sdF B 1 B.length).1 (sdF B 0 B.length).1 (sdF B 1 B.length).2 (sdF B 0 B.length).2 ((sdF B 1 B.length).2 + (sdF B 0 B.length).2) 0 0 (fun _ => 0, 0, -9, 0)
def cntG (B : List Ord) (s : RS) : Nat → Nat
  | 0 => 0
  | i + 1 => if s.1 i = qB B i then cntG B s i + 1 else cntG B s i
theorem cntG_y {B : List Ord} {s : RS} {i : Nat} (h : s.1 i = qB B i) : cntG B s (i + 1) = cntG B s i + 1 := if_pos h
theorem cntG_n {B : List Ord} {s : RS} {i : Nat} (h : ¬ s.1 i = qB B i) : cntG B s (i + 1) = cntG B s i := if_neg h
def MRR (h : PH) (me : Nat) (ad : Nat → Nat) (n : Nat) (s : RS) : Prop := (∀ j, j < n → gi h (ad 16) j = s.1 j) ∧ gi h me 17 = s.2.1 ∧ gi h me 18 = s.2.2.1 ∧ gi h me 19 = s.2.2.2
set_option maxHeartbeats 4000000 in
set_option maxRecDepth 100000 in
theorem l1_X7_match {me : Nat} {ad : Nat → Nat} {B : List Ord} {z1 z2 : Int32} {h0 : PH} (kk : ∀ h', MoL h' me ad → BenR h' me ad B → FrB me ad Z0 h0 h' → (∀ z, z ≠ ad 16 → gi h' z = gi h0 z) → (∀ j, j < B.length → gi h' (ad 16) j = 0) → WPx E mX7_match 43 [some (.ref me), some (.int z1), some (.int z2), some (.int (nI B.length)), none, none, none, none, none, none] [] (0, 0) h' Q) : ∀ (m : Nat) (i : Nat) (h : PH), B.length - i < m → (i ≤ B.length) → (MoL h me ad) → (BenR h me ad B) → (FrB me ad Z0 h0 h) → (∀ z, z ≠ ad 16 → gi h z = gi h0 z) → (∀ j, j < i → gi h (ad 16) j = 0) → WPx E mX7_match 22 [some (.ref me), some (.int z1), some (.int z2), some (.int (nI i)), none, none, none, none, none, none] [] (0, 0) h Q := by
  intro m
  induction m with
  | zero => intro i h hm; exact absurd hm (Nat.not_lt_zero _)
  | succ m ih =>
    intro i h hm hi Hm hB F go g1
    have b13 := hB.1.2
    refine wp_iload_n (M := mX7_match) (pc := 22) dX7_match_22 rfl ?_
    refine wp_aload_n (M := mX7_match) (pc := 23) dX7_match_23 rfl ?_
    refine wp_getI (M := mX7_match) (pc := 24) fa_X7_153 rfl dX7_match_24 (by first | exact Hm.k | exact Hm.a rfl | fail "kd") ?_
    refine wp_icmp_ge (M := mX7_match) (pc := 27) (tgt := 43) dX7_match_27 rfl (fun t27 => ?_) (fun f27 => ?_)
    · rw [hB.1.1] at t27
      have hi2 := n_ge hi (by omega) t27
      subst hi2
      exact kk h Hm hB F go g1
    · rw [hB.1.1] at f27
      have hlt := n_lt hi (by omega) f27
      refine wp_aload_n (M := mX7_match) (pc := 30) dX7_match_30 rfl ?_
      refine wp_getR (M := mX7_match) (pc := 31) fa_X7_41 rfl dX7_match_31 (by first | exact Hm.k | exact Hm.a rfl | fail "kd") (Hm.r rfl) ?_
      refine wp_iload_n (M := mX7_match) (pc := 34) dX7_match_34 rfl ?_
      refine wp_iconst (M := mX7_match) (pc := 35) (v := 0) dX7_match_35 ci_0 ?_
      refine wr_iastore (M := mX7_match) (pc := 36) dX7_match_36 (by first | exact Hm.k | exact Hm.a rfl | fail "kd") rfl (by omega) (by decide) ?_
      refine so_iinc (M := mX7_match) (pc := 37) (lo' := [_, _, _, _, _, _, _, _, _, _]) dX7_match_37 rfl ci_1 (LE rfl) rfl ?_
      refine wp_goto (M := mX7_match) (pc := 40) (tgt := 22) dX7_match_40 rfl ?_
      rw [show nI i + 1 = nI (i + 1) from nI_1 i]
      have F1 : FrB me ad Z0 h (si h (ad 16) i 0) := FrB.sb Hm (by omega)
      refine ih (i + 1) _ (by omega) (by omega) (Hm.B F1) (hB.co (by rw [gi_si_ne _ _ _ (Hm.ne (k := 16) rfl).symm]) (gi_si_ne _ _ _ (Hm.nn (j := 12) (k := 16) rfl rfl (by decide)))) (F.tr F1) (fun z hz => by rw [gi_si_ne _ _ _ hz]; exact go z hz) (fun j hj => ?_)
      rw [gi_si_at]
      by_cases e : j = i
      · rw [e, upd_at]
      · rw [upd_ne _ _ e]; exact g1 j (by omega)
set_option maxHeartbeats 4000000 in
set_option maxRecDepth 100000 in
theorem l2_X7_match {me : Nat} {ad : Nat → Nat} {B : List Ord} {f g : Nat → Nat} {nb na : Nat} {h0 : PH} (hnb : nb ≤ 13) (hna : na ≤ 13) (hf : ∀ j, j < nb → f j < B.length) (hg : ∀ j, j < na → g j < B.length) : ∀ (m : Nat) (fu : Nat) (i : Nat) (j : Nat) (s : RS) (h : PH) (x5 : Option Value) (x6 : Option Value) (x7 : Option Value) (x8 : Option Value) (x9 : Option Value), fu < m → (i ≤ nb) → (j ≤ na) → ((nb - i) + (na - j) ≤ fu) → (MoL h me ad) → (BenR h me ad B) → (FrB me ad Z0 h0 h) → (∀ j, j < nb → gi h (ad 14) j = nI (f j)) → (∀ j, j < na → gi h (ad 15) j = nI (g j)) → (MRR h me ad B.length s) → (∀ h', MoL h' me ad → BenR h' me ad B → FrB me ad Z0 h0 h' → MRR h' me ad B.length (mR B f g nb na fu i j s) → Q (.inl none) h') → WPx E mX7_match 64 [some (.ref me), some (.int (nI nb)), some (.int (nI na)), some (.int (nI i)), some (.int (nI j)), x5, x6, x7, x8, x9] [] (0, 0) h Q := by
  intro m
  induction m with
  | zero => intro fu i j s h x5 x6 x7 x8 x9 hm; exact absurd hm (Nat.not_lt_zero _)
  | succ m ih =>
    intro fu i j s h x5 x6 x7 x8 x9 hm hi hj hfu Hm hB F gb gg hM k
    have b13 := hB.1.2
    have u0 := (Hm.ne (k := 16) rfl)
    have u1' := (Hm.nn (j := 12) (k := 16) rfl rfl (by decide))
    have u2' := (Hm.nn (j := 14) (k := 16) rfl rfl (by decide))
    have u3' := (Hm.nn (j := 15) (k := 16) rfl rfl (by decide))
    have u4 := (Hm.ne (k := 12) rfl)
    refine wp_iload_n (M := mX7_match) (pc := 64) dX7_match_64 rfl ?_
    refine wp_iload_n (M := mX7_match) (pc := 65) dX7_match_65 rfl ?_
    refine wp_icmp_ge (M := mX7_match) (pc := 66) (tgt := 311) dX7_match_66 rfl (fun t66 => ?_) (fun f66 => ?_)
    · have hi2 := n_ge hi (by omega) t66
      refine wp_return (M := mX7_match) (pc := 311) rfl dX7_match_311 ?_
      rw [mR_stop (fun q => by first | exact absurd q.1 (by omega) | exact absurd q.2.1 (by omega) | exact Int32.not_lt.mpr q.2.2 t106)] at k
      exact k h Hm hB F hM
    · have hlt := n_lt hi (by omega) f66
      have ef := gb i hlt
      have hfi := hf i hlt
      obtain ⟨kf, pf, qf⟩ := hB.2 (f i) hfi
      refine wp_iload (M := mX7_match) (pc := 69) dX7_match_69 rfl ?_
      refine wp_iload_n (M := mX7_match) (pc := 71) dX7_match_71 rfl ?_
      refine wp_icmp_ge (M := mX7_match) (pc := 72) (tgt := 311) dX7_match_72 rfl (fun t72 => ?_) (fun f72 => ?_)
      · have hj2 := n_ge hj (by omega) t72
        refine wp_return (M := mX7_match) (pc := 311) rfl dX7_match_311 ?_
        rw [mR_stop (fun q => by first | exact absurd q.1 (by omega) | exact absurd q.2.1 (by omega) | exact Int32.not_lt.mpr q.2.2 t106)] at k
        exact k h Hm hB F hM
      · have hjt := n_lt hj (by omega) f72
        have eg := gg j hjt
        have hgj := hg j hjt
        obtain ⟨kg, pg, qg⟩ := hB.2 (g j) hgj
        refine wp_aload_n (M := mX7_match) (pc := 75) dX7_match_75 rfl ?_
        refine wp_getR (M := mX7_match) (pc := 76) fa_X7_32 rfl dX7_match_76 (by first | exact Hm.k | exact Hm.a rfl | fail "kd") (Hm.r rfl) ?_
        refine wp_iconst (M := mX7_match) (pc := 79) (v := 4) dX7_match_79 ci_4 ?_
        refine wp_aload_n (M := mX7_match) (pc := 80) dX7_match_80 rfl ?_
        refine wp_getR (M := mX7_match) (pc := 81) fa_X7_35 rfl dX7_match_81 (by first | exact Hm.k | exact Hm.a rfl | fail "kd") (Hm.r rfl) ?_
        refine wp_iload_n (M := mX7_match) (pc := 84) dX7_match_84 rfl ?_
        refine wr_iaload (M := mX7_match) (pc := 85) dX7_match_85 (by first | exact Hm.k | exact Hm.a rfl | fail "kd") rfl (by omega) (by decide) ?_
        refine wp_imul (M := mX7_match) (pc := 86) dX7_match_86 ?_
        refine wp_iconst (M := mX7_match) (pc := 87) (v := 2) dX7_match_87 ci_2 ?_
        refine wp_iadd (M := mX7_match) (pc := 88) dX7_match_88 ?_
        refine wr_iaload (M := mX7_match) (pc := 89) dX7_match_89 (by first | exact Hm.k | exact Hm.a rfl | fail "kd") (ia (im (show (4 : Int32) = nI 4 from rfl) ef) (show (2 : Int32) = nI 2 from rfl)) (by omega) (by decide) ?_
        refine wp_aload_n (M := mX7_match) (pc := 90) dX7_match_90 rfl ?_
        refine wp_getR (M := mX7_match) (pc := 91) fa_X7_32 rfl dX7_match_91 (by first | exact Hm.k | exact Hm.a rfl | fail "kd") (Hm.r rfl) ?_
        refine wp_iconst (M := mX7_match) (pc := 94) (v := 4) dX7_match_94 ci_4 ?_
        refine wp_aload_n (M := mX7_match) (pc := 95) dX7_match_95 rfl ?_
        refine wp_getR (M := mX7_match) (pc := 96) fa_X7_38 rfl dX7_match_96 (by first | exact Hm.k | exact Hm.a rfl | fail "kd") (Hm.r rfl) ?_
        refine wp_iload (M := mX7_match) (pc := 99) dX7_match_99 rfl ?_
        refine wr_iaload (M := mX7_match) (pc := 101) dX7_match_101 (by first | exact Hm.k | exact Hm.a rfl | fail "kd") rfl (by omega) (by decide) ?_
        refine wp_imul (M := mX7_match) (pc := 102) dX7_match_102 ?_
        refine wp_iconst (M := mX7_match) (pc := 103) (v := 2) dX7_match_103 ci_2 ?_
        refine wp_iadd (M := mX7_match) (pc := 104) dX7_match_104 ?_
        refine wr_iaload (M := mX7_match) (pc := 105) dX7_match_105 (by first | exact Hm.k | exact Hm.a rfl | fail "kd") (ia (im (show (4 : Int32) = nI 4 from rfl) eg) (show (2 : Int32) = nI 2 from rfl)) (by omega) (by decide) ?_
        refine wp_icmp_lt (M := mX7_match) (pc := 106) (tgt := 311) dX7_match_106 rfl (fun t106 => ?_) (fun f106 => ?_)
        · rw [pf, pg] at t106
          refine wp_return (M := mX7_match) (pc := 311) rfl dX7_match_311 ?_
          rw [mR_stop (fun q => by first | exact absurd q.1 (by omega) | exact absurd q.2.1 (by omega) | exact Int32.not_lt.mpr q.2.2 t106)] at k
          exact k h Hm hB F hM
        · rw [pf, pg] at f106
          have hgo : i < nb ∧ j < na ∧ pB B (g j) ≤ pB B (f i) := ⟨hlt, hjt, Int32.not_lt.mp f106⟩
          obtain ⟨fu1, rfl⟩ : ∃ fu1, fu = fu1 + 1 := ⟨fu - 1, by omega⟩
          rw [mR_go hgo] at k
          refine wp_aload_n (M := mX7_match) (pc := 109) dX7_match_109 rfl ?_
          refine wp_getR (M := mX7_match) (pc := 110) fa_X7_35 rfl dX7_match_110 (by first | exact Hm.k | exact Hm.a rfl | fail "kd") (Hm.r rfl) ?_
          refine wp_iload_n (M := mX7_match) (pc := 113) dX7_match_113 rfl ?_
          refine wr_iaload (M := mX7_match) (pc := 114) dX7_match_114 (by first | exact Hm.k | exact Hm.a rfl | fail "kd") rfl (by omega) (by decide) ?_
          refine so_istore (M := mX7_match) (pc := 115) (lo' := [_, _, _, _, _, _, _, _, _, _]) dX7_match_115 (LE rfl) (LE rfl) (Or.inr rfl) rfl ?_
          refine wp_aload_n (M := mX7_match) (pc := 117) dX7_match_117 rfl ?_
          refine wp_getR (M := mX7_match) (pc := 118) fa_X7_38 rfl dX7_match_118 (by first | exact Hm.k | exact Hm.a rfl | fail "kd") (Hm.r rfl) ?_
          refine wp_iload (M := mX7_match) (pc := 121) dX7_match_121 rfl ?_
          refine wr_iaload (M := mX7_match) (pc := 123) dX7_match_123 (by first | exact Hm.k | exact Hm.a rfl | fail "kd") rfl (by omega) (by decide) ?_
          refine so_istore (M := mX7_match) (pc := 124) (lo' := [_, _, _, _, _, _, _, _, _, _]) dX7_match_124 (LE rfl) (LE rfl) (Or.inr rfl) rfl ?_
          rw [ef, eg]
          refine wp_aload_n (M := mX7_match) (pc := 126) dX7_match_126 rfl ?_
          refine wp_getR (M := mX7_match) (pc := 127) fa_X7_32 rfl dX7_match_127 (by first | exact Hm.k | exact Hm.a rfl | fail "kd") (Hm.r rfl) ?_
          refine wp_iconst (M := mX7_match) (pc := 130) (v := 4) dX7_match_130 ci_4 ?_
          refine wp_iload (M := mX7_match) (pc := 131) dX7_match_131 rfl ?_
          refine wp_imul (M := mX7_match) (pc := 133) dX7_match_133 ?_
          refine wp_iconst (M := mX7_match) (pc := 134) (v := 3) dX7_match_134 ci_3 ?_
          refine wp_iadd (M := mX7_match) (pc := 135) dX7_match_135 ?_
          refine wr_iaload (M := mX7_match) (pc := 136) dX7_match_136 (by first | exact Hm.k | exact Hm.a rfl | fail "kd") (ia (im (show (4 : Int32) = nI 4 from rfl) rfl) (show (3 : Int32) = nI 3 from rfl)) (by omega) (by decide) ?_
          refine wp_aload_n (M := mX7_match) (pc := 137) dX7_match_137 rfl ?_
          refine wp_getR (M := mX7_match) (pc := 138) fa_X7_41 rfl dX7_match_138 (by first | exact Hm.k | exact Hm.a rfl | fail "kd") (Hm.r rfl) ?_
          refine wp_iload (M := mX7_match) (pc := 141) dX7_match_141 rfl ?_
          refine wr_iaload (M := mX7_match) (pc := 143) dX7_match_143 (by first | exact Hm.k | exact Hm.a rfl | fail "kd") rfl (by omega) (by decide) ?_
          refine wp_isub (M := mX7_match) (pc := 144) dX7_match_144 ?_
          refine so_istore (M := mX7_match) (pc := 145) (lo' := [_, _, _, _, _, _, _, _, _, _]) dX7_match_145 (LE rfl) (LE rfl) (Or.inr rfl) rfl ?_
          rw [qf, hM.1 _ hfi]
          refine wp_aload_n (M := mX7_match) (pc := 147) dX7_match_147 rfl ?_
          refine wp_getR (M := mX7_match) (pc := 148) fa_X7_32 rfl dX7_match_148 (by first | exact Hm.k | exact Hm.a rfl | fail "kd") (Hm.r rfl) ?_
          refine wp_iconst (M := mX7_match) (pc := 151) (v := 4) dX7_match_151 ci_4 ?_
          refine wp_iload (M := mX7_match) (pc := 152) dX7_match_152 rfl ?_
          refine wp_imul (M := mX7_match) (pc := 154) dX7_match_154 ?_
          refine wp_iconst (M := mX7_match) (pc := 155) (v := 3) dX7_match_155 ci_3 ?_
          refine wp_iadd (M := mX7_match) (pc := 156) dX7_match_156 ?_
          refine wr_iaload (M := mX7_match) (pc := 157) dX7_match_157 (by first | exact Hm.k | exact Hm.a rfl | fail "kd") (ia (im (show (4 : Int32) = nI 4 from rfl) rfl) (show (3 : Int32) = nI 3 from rfl)) (by omega) (by decide) ?_
          refine wp_aload_n (M := mX7_match) (pc := 158) dX7_match_158 rfl ?_
          refine wp_getR (M := mX7_match) (pc := 159) fa_X7_41 rfl dX7_match_159 (by first | exact Hm.k | exact Hm.a rfl | fail "kd") (Hm.r rfl) ?_
          refine wp_iload (M := mX7_match) (pc := 162) dX7_match_162 rfl ?_
          refine wr_iaload (M := mX7_match) (pc := 164) dX7_match_164 (by first | exact Hm.k | exact Hm.a rfl | fail "kd") rfl (by omega) (by decide) ?_
          refine wp_isub (M := mX7_match) (pc := 165) dX7_match_165 ?_
          refine so_istore (M := mX7_match) (pc := 166) (lo' := [_, _, _, _, _, _, _, _, _, _]) dX7_match_166 (LE rfl) (LE rfl) (Or.inr rfl) rfl ?_
          rw [qg, hM.1 _ hgj]
          refine wp_iload (M := mX7_match) (pc := 168) dX7_match_168 rfl ?_
          refine wp_iload (M := mX7_match) (pc := 170) dX7_match_170 rfl ?_
          refine so_S2 (M := mX7_match) (pc := 172) cs_X7_match_115 rfl rfl (LE rfl) (LE rfl) dX7_match_172 ?_
          refine sp_X7_lesser ?_
          refine kI ?_
          refine so_istore (M := mX7_match) (pc := 175) (lo' := [_, _, _, _, _, _, _, _, _, _]) dX7_match_175 (LE rfl) (LE rfl) (Or.inr rfl) rfl ?_
          rw [show imin (qB B (g j) - s.1 (g j)) (qB B (f i) - s.1 (f i)) = rN B s (f i) (g j) from rfl]
          refine wp_aload_n (M := mX7_match) (pc := 177) dX7_match_177 rfl ?_
          refine wp_getR (M := mX7_match) (pc := 178) fa_X7_41 rfl dX7_match_178 (by first | exact Hm.k | exact Hm.a rfl | fail "kd") (Hm.r rfl) ?_
          refine wp_iload (M := mX7_match) (pc := 181) dX7_match_181 rfl ?_
          refine wp_dup2 (M := mX7_match) (pc := 183) dX7_match_183 rfl rfl ?_
          refine wr_iaload (M := mX7_match) (pc := 184) dX7_match_184 (by first | exact Hm.k | exact Hm.a rfl | fail "kd") rfl (by omega) (by decide) ?_
          refine wp_iload (M := mX7_match) (pc := 185) dX7_match_185 rfl ?_
          refine wp_iadd (M := mX7_match) (pc := 187) dX7_match_187 ?_
          refine wr_iastore (M := mX7_match) (pc := 188) dX7_match_188 (by first | exact Hm.k | exact Hm.a rfl | fail "kd") rfl (by omega) (by decide) ?_
          refine wp_aload_n (M := mX7_match) (pc := 189) dX7_match_189 rfl ?_
          refine wp_getR (M := mX7_match) (pc := 190) fa_X7_41 rfl dX7_match_190 (by first | exact Hm.k | exact Hm.a rfl | fail "kd") (Hm.r rfl) ?_
          refine wp_iload (M := mX7_match) (pc := 193) dX7_match_193 rfl ?_
          refine wp_dup2 (M := mX7_match) (pc := 195) dX7_match_195 rfl rfl ?_
          refine wr_iaload (M := mX7_match) (pc := 196) dX7_match_196 (by first | exact Hm.k | exact Hm.a rfl | fail "kd") rfl (by omega) (by decide) ?_
          refine wp_iload (M := mX7_match) (pc := 197) dX7_match_197 rfl ?_
          refine wp_iadd (M := mX7_match) (pc := 199) dX7_match_199 ?_
          refine wr_iastore (M := mX7_match) (pc := 200) dX7_match_200 (by first | exact Hm.k | exact Hm.a rfl | fail "kd") rfl (by omega) (by decide) ?_
          refine wp_aload_n (M := mX7_match) (pc := 201) dX7_match_201 rfl ?_
          refine wp_dup (M := mX7_match) (pc := 202) dX7_match_202 rfl ?_
          refine wp_getI (M := mX7_match) (pc := 203) fa_X7_164 rfl dX7_match_203 (by first | exact Hm.k | exact Hm.a rfl | fail "kd") ?_
          refine wp_iload (M := mX7_match) (pc := 206) dX7_match_206 rfl ?_
          refine wp_iadd (M := mX7_match) (pc := 208) dX7_match_208 ?_
          refine wp_putI (M := mX7_match) (pc := 209) fa_X7_164 (Or.inl rfl) dX7_match_209 (by first | exact Hm.k | exact Hm.a rfl | fail "kd") ?_
          refine wp_aload_n (M := mX7_match) (pc := 212) dX7_match_212 rfl ?_
          refine wp_dup (M := mX7_match) (pc := 213) dX7_match_213 rfl ?_
          refine wp_getI (M := mX7_match) (pc := 214) fa_X7_170 rfl dX7_match_214 (by first | exact Hm.k | exact Hm.a rfl | fail "kd") ?_
          refine wp_iload (M := mX7_match) (pc := 217) dX7_match_217 rfl ?_
          refine wp_aload_n (M := mX7_match) (pc := 219) dX7_match_219 rfl ?_
          refine wp_getR (M := mX7_match) (pc := 220) fa_X7_32 rfl dX7_match_220 (by first | exact Hm.k | exact Hm.a rfl | fail "kd") (Hm.r rfl) ?_
          refine wp_iconst (M := mX7_match) (pc := 223) (v := 4) dX7_match_223 ci_4 ?_
          refine wp_iload (M := mX7_match) (pc := 224) dX7_match_224 rfl ?_
          refine wp_imul (M := mX7_match) (pc := 226) dX7_match_226 ?_
          refine wp_iconst (M := mX7_match) (pc := 227) (v := 2) dX7_match_227 ci_2 ?_
          refine wp_iadd (M := mX7_match) (pc := 228) dX7_match_228 ?_
          refine wr_iaload (M := mX7_match) (pc := 229) dX7_match_229 (by first | exact Hm.k | exact Hm.a rfl | fail "kd") (ia (im (show (4 : Int32) = nI 4 from rfl) rfl) (show (2 : Int32) = nI 2 from rfl)) (by omega) (by decide) ?_
          refine wp_aload_n (M := mX7_match) (pc := 230) dX7_match_230 rfl ?_
          refine wp_getR (M := mX7_match) (pc := 231) fa_X7_32 rfl dX7_match_231 (by first | exact Hm.k | exact Hm.a rfl | fail "kd") (Hm.r rfl) ?_
          refine wp_iconst (M := mX7_match) (pc := 234) (v := 4) dX7_match_234 ci_4 ?_
          refine wp_iload (M := mX7_match) (pc := 235) dX7_match_235 rfl ?_
          refine wp_imul (M := mX7_match) (pc := 237) dX7_match_237 ?_
          refine wp_iconst (M := mX7_match) (pc := 238) (v := 2) dX7_match_238 ci_2 ?_
          refine wp_iadd (M := mX7_match) (pc := 239) dX7_match_239 ?_
          refine wr_iaload (M := mX7_match) (pc := 240) dX7_match_240 (by first | exact Hm.k | exact Hm.a rfl | fail "kd") (ia (im (show (4 : Int32) = nI 4 from rfl) rfl) (show (2 : Int32) = nI 2 from rfl)) (by omega) (by decide) ?_
          refine wp_isub (M := mX7_match) (pc := 241) dX7_match_241 ?_
          refine wp_imul (M := mX7_match) (pc := 242) dX7_match_242 ?_
          refine wp_iadd (M := mX7_match) (pc := 243) dX7_match_243 ?_
          refine wp_putI (M := mX7_match) (pc := 244) fa_X7_170 (Or.inl rfl) dX7_match_244 (by first | exact Hm.k | exact Hm.a rfl | fail "kd") ?_
          refine wp_aload_n (M := mX7_match) (pc := 247) dX7_match_247 rfl ?_
          refine wp_aload_n (M := mX7_match) (pc := 248) dX7_match_248 rfl ?_
          refine wp_getR (M := mX7_match) (pc := 249) fa_X7_32 rfl dX7_match_249 (by first | exact Hm.k | exact Hm.a rfl | fail "kd") (Hm.r rfl) ?_
          refine wp_iconst (M := mX7_match) (pc := 252) (v := 4) dX7_match_252 ci_4 ?_
          refine wp_iload (M := mX7_match) (pc := 253) dX7_match_253 rfl ?_
          refine wp_imul (M := mX7_match) (pc := 255) dX7_match_255 ?_
          refine wp_iconst (M := mX7_match) (pc := 256) (v := 2) dX7_match_256 ci_2 ?_
          refine wp_iadd (M := mX7_match) (pc := 257) dX7_match_257 ?_
          refine wr_iaload (M := mX7_match) (pc := 258) dX7_match_258 (by first | exact Hm.k | exact Hm.a rfl | fail "kd") (ia (im (show (4 : Int32) = nI 4 from rfl) rfl) (show (2 : Int32) = nI 2 from rfl)) (by omega) (by decide) ?_
          refine wp_aload_n (M := mX7_match) (pc := 259) dX7_match_259 rfl ?_
          refine wp_getR (M := mX7_match) (pc := 260) fa_X7_32 rfl dX7_match_260 (by first | exact Hm.k | exact Hm.a rfl | fail "kd") (Hm.r rfl) ?_
          refine wp_iconst (M := mX7_match) (pc := 263) (v := 4) dX7_match_263 ci_4 ?_
          refine wp_iload (M := mX7_match) (pc := 264) dX7_match_264 rfl ?_
          refine wp_imul (M := mX7_match) (pc := 266) dX7_match_266 ?_
          refine wp_iconst (M := mX7_match) (pc := 267) (v := 2) dX7_match_267 ci_2 ?_
          refine wp_iadd (M := mX7_match) (pc := 268) dX7_match_268 ?_
          refine wr_iaload (M := mX7_match) (pc := 269) dX7_match_269 (by first | exact Hm.k | exact Hm.a rfl | fail "kd") (ia (im (show (4 : Int32) = nI 4 from rfl) rfl) (show (2 : Int32) = nI 2 from rfl)) (by omega) (by decide) ?_
          refine wp_iadd (M := mX7_match) (pc := 270) dX7_match_270 ?_
          refine wp_iconst (M := mX7_match) (pc := 271) (v := 2) dX7_match_271 ci_2 ?_
          refine wp_idiv (M := mX7_match) (pc := 272) dX7_match_272 (by decide) ?_
          refine wp_putI (M := mX7_match) (pc := 273) fa_X7_167 (Or.inl rfl) dX7_match_273 (by first | exact Hm.k | exact Hm.a rfl | fail "kd") ?_
          refine wp_gen (M := mX7_match) (pc := 276) (P := fun hX => MoL hX me ad ∧ BenR hX me ad B ∧ FrB me ad Z0 h0 hX ∧ (∀ j, j < nb → gi hX (ad 14) j = nI (f j)) ∧ (∀ j, j < na → gi hX (ad 15) j = nI (g j)) ∧ MRR hX me ad B.length (rStep B s (f i) (g j))) ?_ (fun hX HX => ?_)
          · have q12 : gi (si (si h (ad 16) (f i) (gi h (ad 16) (f i) + rN B s (f i) (g j))) (ad 16) (g j) (gi (si h (ad 16) (f i) (gi h (ad 16) (f i) + rN B s (f i) (g j))) (ad 16) (g j) + rN B s (f i) (g j))) (ad 12) = gi h (ad 12) := by rw [gi_si_ne _ _ _ u1', gi_si_ne _ _ _ u1']
            have qm : ∀ k, gi (si (si h (ad 16) (f i) (gi h (ad 16) (f i) + rN B s (f i) (g j))) (ad 16) (g j) (gi (si h (ad 16) (f i) (gi h (ad 16) (f i) + rN B s (f i) (g j))) (ad 16) (g j) + rN B s (f i) (g j))) me k = gi h me k := fun k => by rw [gi_si_ne _ _ _ u0.symm, gi_si_ne _ _ _ u0.symm]
            have F2 : FrB me ad Z0 h (si (si h (ad 16) (f i) (gi h (ad 16) (f i) + rN B s (f i) (g j))) (ad 16) (g j) (gi (si h (ad 16) (f i) (gi h (ad 16) (f i) + rN B s (f i) (g j))) (ad 16) (g j) + rN B s (f i) (g j))) := (FrB.sb Hm (by omega)).tr (FrB.sb (h := si h (ad 16) (f i) (gi h (ad 16) (f i) + rN B s (f i) (g j))) Hm (by omega))
            have F5 := fun (v1 v2 v3 : Int32) => (F2.tr (FrB.sm (k := 17) (v := v1) (by omega))).tr ((FrB.sm (k := 19) (v := v2) (by omega)).tr (FrB.sm (k := 18) (v := v3) (by omega)))
            refine ⟨Hm.B (F5 _ _ _), hB.co ?_ ?_, F.tr (F5 _ _ _), fun y hy => ?_, fun y hy => ?_, fun y hy => ?_, ?_, ?_, ?_⟩
            · rw [gi_si_oth (by decide), gi_si_oth (by decide), gi_si_oth (by decide)]; exact qm 13
            · rw [gi_si_ne _ _ _ u4, gi_si_ne _ _ _ u4, gi_si_ne _ _ _ u4]; exact q12
            · rw [gi_si_ne _ _ _ (Hm.ne (k := 14) rfl), gi_si_ne _ _ _ (Hm.ne (k := 14) rfl), gi_si_ne _ _ _ (Hm.ne (k := 14) rfl), gi_si_ne _ _ _ u2', gi_si_ne _ _ _ u2']; exact gb y hy
            · rw [gi_si_ne _ _ _ (Hm.ne (k := 15) rfl), gi_si_ne _ _ _ (Hm.ne (k := 15) rfl), gi_si_ne _ _ _ (Hm.ne (k := 15) rfl), gi_si_ne _ _ _ u3', gi_si_ne _ _ _ u3']; exact gg y hy
            · rw [gi_si_ne _ _ _ u0, gi_si_ne _ _ _ u0, gi_si_ne _ _ _ u0, gi_si_at, gi_si_at]
              refine upd_c (n := B.length) (upd_c (n := B.length) hM.1 ?_) ?_ y hy
              · rw [hM.1 _ hfi]
              · rw [upd_c (n := B.length) hM.1 (by rw [hM.1 _ hfi]) _ hgj]
            · rw [gi_si_oth (by decide), gi_si_oth (by decide), gi_si_same, qm, hM.2.1]; rfl
            · rw [gi_si_same, gi_si_ne _ _ _ u4, gi_si_ne _ _ _ u4, q12, pf, pg]; rfl
            · rw [gi_si_oth (by decide), gi_si_same, gi_si_oth (by decide), qm, hM.2.2.2, gi_si_ne _ _ _ u4, q12, pf, pg]; rfl
          obtain ⟨X1, X2, X3, X4, X5, X6⟩ := HX
          have hor := rN_or B s (f i) (g j)
          refine wp_iload_n (M := mX7_match) (pc := 276) dX7_match_276 rfl ?_
          refine wp_iload (M := mX7_match) (pc := 277) dX7_match_277 rfl ?_
          refine wp_iload (M := mX7_match) (pc := 279) dX7_match_279 rfl ?_
          refine wp_icmp_ne (M := mX7_match) (pc := 281) (tgt := 288) dX7_match_281 rfl (fun t281 => ?_) (fun f281 => ?_)
          · refine wp_iconst (M := mX7_match) (pc := 288) (v := 0) dX7_match_288 ci_0 ?_
            refine wp_iadd (M := mX7_match) (pc := 289) dX7_match_289 ?_
            refine so_istore_n (M := mX7_match) (pc := 290) (lo' := [_, _, _, _, _, _, _, _, _, _]) dX7_match_290 (LE rfl) (LE rfl) (Or.inr rfl) rfl ?_
            refine wp_iload (M := mX7_match) (pc := 291) dX7_match_291 rfl ?_
            refine wp_iload (M := mX7_match) (pc := 293) dX7_match_293 rfl ?_
            refine wp_iload (M := mX7_match) (pc := 295) dX7_match_295 rfl ?_
            refine wp_icmp_ne (M := mX7_match) (pc := 297) (tgt := 304) dX7_match_297 rfl (fun t297 => ?_) (fun f297 => ?_)
            · refine wp_iconst (M := mX7_match) (pc := 304) (v := 0) dX7_match_304 ci_0 ?_
              refine wp_iadd (M := mX7_match) (pc := 305) dX7_match_305 ?_
              refine so_istore (M := mX7_match) (pc := 306) (lo' := [_, _, _, _, _, _, _, _, _, _]) dX7_match_306 (LE rfl) (LE rfl) (Or.inr rfl) rfl ?_
              refine wp_goto (M := mX7_match) (pc := 308) (tgt := 64) dX7_match_308 rfl ?_
              first
              | (rw [if_pos f281, if_pos f297] at k
                 rw [show nI i + 1 = nI (i + 1) from nI_1 i, show nI j + 1 = nI (j + 1) from nI_1 j]
                 exact ih fu1 (i + 1) (j + 1) _ hX _ _ _ _ _ (by omega) (by omega) (by omega) (by omega) X1 X2 X3 X4 X5 X6 k)
              | (rw [if_pos f281, if_neg t297] at k
                 rw [show nI i + 1 = nI (i + 1) from nI_1 i, Int32.add_zero]
                 exact ih fu1 (i + 1) j _ hX _ _ _ _ _ (by omega) (by omega) (by omega) (by omega) X1 X2 X3 X4 X5 X6 k)
              | (rw [if_neg t281, if_pos f297] at k
                 rw [show nI j + 1 = nI (j + 1) from nI_1 j, Int32.add_zero]
                 exact ih fu1 i (j + 1) _ hX _ _ _ _ _ (by omega) (by omega) (by omega) (by omega) X1 X2 X3 X4 X5 X6 k)
              | exact absurd hor (fun q => q.elim t281 t297)
              | fail "leaf"
            · refine wp_iconst (M := mX7_match) (pc := 300) (v := 1) dX7_match_300 ci_1 ?_
              refine wp_goto (M := mX7_match) (pc := 301) (tgt := 305) dX7_match_301 rfl ?_
              refine wp_iadd (M := mX7_match) (pc := 305) dX7_match_305 ?_
              refine so_istore (M := mX7_match) (pc := 306) (lo' := [_, _, _, _, _, _, _, _, _, _]) dX7_match_306 (LE rfl) (LE rfl) (Or.inr rfl) rfl ?_
              refine wp_goto (M := mX7_match) (pc := 308) (tgt := 64) dX7_match_308 rfl ?_
              first
              | (rw [if_pos f281, if_pos f297] at k
                 rw [show nI i + 1 = nI (i + 1) from nI_1 i, show nI j + 1 = nI (j + 1) from nI_1 j]
                 exact ih fu1 (i + 1) (j + 1) _ hX _ _ _ _ _ (by omega) (by omega) (by omega) (by omega) X1 X2 X3 X4 X5 X6 k)
              | (rw [if_pos f281, if_neg t297] at k
                 rw [show nI i + 1 = nI (i + 1) from nI_1 i, Int32.add_zero]
                 exact ih fu1 (i + 1) j _ hX _ _ _ _ _ (by omega) (by omega) (by omega) (by omega) X1 X2 X3 X4 X5 X6 k)
              | (rw [if_neg t281, if_pos f297] at k
                 rw [show nI j + 1 = nI (j + 1) from nI_1 j, Int32.add_zero]
                 exact ih fu1 i (j + 1) _ hX _ _ _ _ _ (by omega) (by omega) (by omega) (by omega) X1 X2 X3 X4 X5 X6 k)
              | exact absurd hor (fun q => q.elim t281 t297)
              | fail "leaf"
          · refine wp_iconst (M := mX7_match) (pc := 284) (v := 1) dX7_match_284 ci_1 ?_
            refine wp_goto (M := mX7_match) (pc := 285) (tgt := 289) dX7_match_285 rfl ?_
            refine wp_iadd (M := mX7_match) (pc := 289) dX7_match_289 ?_
            refine so_istore_n (M := mX7_match) (pc := 290) (lo' := [_, _, _, _, _, _, _, _, _, _]) dX7_match_290 (LE rfl) (LE rfl) (Or.inr rfl) rfl ?_
            refine wp_iload (M := mX7_match) (pc := 291) dX7_match_291 rfl ?_
            refine wp_iload (M := mX7_match) (pc := 293) dX7_match_293 rfl ?_
            refine wp_iload (M := mX7_match) (pc := 295) dX7_match_295 rfl ?_
            refine wp_icmp_ne (M := mX7_match) (pc := 297) (tgt := 304) dX7_match_297 rfl (fun t297 => ?_) (fun f297 => ?_)
            · refine wp_iconst (M := mX7_match) (pc := 304) (v := 0) dX7_match_304 ci_0 ?_
              refine wp_iadd (M := mX7_match) (pc := 305) dX7_match_305 ?_
              refine so_istore (M := mX7_match) (pc := 306) (lo' := [_, _, _, _, _, _, _, _, _, _]) dX7_match_306 (LE rfl) (LE rfl) (Or.inr rfl) rfl ?_
              refine wp_goto (M := mX7_match) (pc := 308) (tgt := 64) dX7_match_308 rfl ?_
              first
              | (rw [if_pos f281, if_pos f297] at k
                 rw [show nI i + 1 = nI (i + 1) from nI_1 i, show nI j + 1 = nI (j + 1) from nI_1 j]
                 exact ih fu1 (i + 1) (j + 1) _ hX _ _ _ _ _ (by omega) (by omega) (by omega) (by omega) X1 X2 X3 X4 X5 X6 k)
              | (rw [if_pos f281, if_neg t297] at k
                 rw [show nI i + 1 = nI (i + 1) from nI_1 i, Int32.add_zero]
                 exact ih fu1 (i + 1) j _ hX _ _ _ _ _ (by omega) (by omega) (by omega) (by omega) X1 X2 X3 X4 X5 X6 k)
              | (rw [if_neg t281, if_pos f297] at k
                 rw [show nI j + 1 = nI (j + 1) from nI_1 j, Int32.add_zero]
                 exact ih fu1 i (j + 1) _ hX _ _ _ _ _ (by omega) (by omega) (by omega) (by omega) X1 X2 X3 X4 X5 X6 k)
              | exact absurd hor (fun q => q.elim t281 t297)
              | fail "leaf"
            · refine wp_iconst (M := mX7_match) (pc := 300) (v := 1) dX7_match_300 ci_1 ?_
              refine wp_goto (M := mX7_match) (pc := 301) (tgt := 305) dX7_match_301 rfl ?_
              refine wp_iadd (M := mX7_match) (pc := 305) dX7_match_305 ?_
              refine so_istore (M := mX7_match) (pc := 306) (lo' := [_, _, _, _, _, _, _, _, _, _]) dX7_match_306 (LE rfl) (LE rfl) (Or.inr rfl) rfl ?_
              refine wp_goto (M := mX7_match) (pc := 308) (tgt := 64) dX7_match_308 rfl ?_
              first
              | (rw [if_pos f281, if_pos f297] at k
                 rw [show nI i + 1 = nI (i + 1) from nI_1 i, show nI j + 1 = nI (j + 1) from nI_1 j]
                 exact ih fu1 (i + 1) (j + 1) _ hX _ _ _ _ _ (by omega) (by omega) (by omega) (by omega) X1 X2 X3 X4 X5 X6 k)
              | (rw [if_pos f281, if_neg t297] at k
                 rw [show nI i + 1 = nI (i + 1) from nI_1 i, Int32.add_zero]
                 exact ih fu1 (i + 1) j _ hX _ _ _ _ _ (by omega) (by omega) (by omega) (by omega) X1 X2 X3 X4 X5 X6 k)
              | (rw [if_neg t281, if_pos f297] at k
                 rw [show nI j + 1 = nI (j + 1) from nI_1 j, Int32.add_zero]
                 exact ih fu1 i (j + 1) _ hX _ _ _ _ _ (by omega) (by omega) (by omega) (by omega) X1 X2 X3 X4 X5 X6 k)
              | exact absurd hor (fun q => q.elim t281 t297)
              | fail "leaf"
set_option maxHeartbeats 4000000 in
set_option maxRecDepth 100000 in
theorem sp_X7_match {me : Nat} {ad : Nat → Nat} {B : List Ord} (Hm : MoL h me ad) (hB : BenR h me ad B) (k : ∀ h', MoL h' me ad → BenR h' me ad B → FrB me ad Z0 h h' → MRR h' me ad B.length (mtB B) → Q (.inl none) h') : WPx E mX7_match 0 [some (.ref me), none, none, none, none, none, none, none, none, none] [] (0, 0) h Q := by
  have b13 := hB.1.2
  obtain ⟨s1, s2⟩ := sdF_len B 1 B.length
  obtain ⟨r1, r2⟩ := sdF_len B 0 B.length
  refine wp_aload_n (M := mX7_match) (pc := 0) dX7_match_0 rfl ?_
  refine wp_aload_n (M := mX7_match) (pc := 1) dX7_match_1 rfl ?_
  refine wp_getR (M := mX7_match) (pc := 2) fa_X7_35 rfl dX7_match_2 (by first | exact Hm5.k | exact Hm1.k | exact Hm.k | fail "kd") (by first | exact Hm1.r rfl | exact Hm.r rfl) ?_
  refine wp_iconst (M := mX7_match) (pc := 5) (v := 1) dX7_match_5 ci_1 ?_
  refine so_V2 (M := mX7_match) (pc := 6) cs_X7_match_160 rfl rfl (LE rfl) (LE rfl) dX7_match_6 (by first | exact Hm5.k | exact Hm1.k | exact Hm.k | fail "kd") ?_
  refine sp_X7_laySide (x := 14) Hm hB (Or.inl rfl) (Or.inr rfl) (fun h1 Hm1 F1 gm1 go1 p1 => ?_)
  have hB1 : BenR h1 me ad B := hB.co (by rw [gm1]) (go1 _ (Hm.nn (j := 12) (k := 14) rfl rfl (by decide)))
  refine kI ?_
  refine so_istore_n (M := mX7_match) (pc := 9) (lo' := [_, _, _, _, _, _, _, _, _, _]) dX7_match_9 (LE rfl) (LE rfl) (Or.inr rfl) rfl ?_
  refine wp_aload_n (M := mX7_match) (pc := 10) dX7_match_10 rfl ?_
  refine wp_aload_n (M := mX7_match) (pc := 11) dX7_match_11 rfl ?_
  refine wp_getR (M := mX7_match) (pc := 12) fa_X7_38 rfl dX7_match_12 (by first | exact Hm5.k | exact Hm1.k | exact Hm.k | fail "kd") (by first | exact Hm1.r rfl | exact Hm.r rfl) ?_
  refine wp_iconst (M := mX7_match) (pc := 15) (v := 0) dX7_match_15 ci_0 ?_
  refine so_V2 (M := mX7_match) (pc := 16) cs_X7_match_160 rfl rfl (LE rfl) (LE rfl) dX7_match_16 (by first | exact Hm5.k | exact Hm1.k | exact Hm.k | fail "kd") ?_
  refine sp_X7_laySide (x := 15) Hm1 hB1 (Or.inr rfl) (Or.inl rfl) (fun h2 Hm2 F2 gm2 go2 p2 => ?_)
  have hB2 : BenR h2 me ad B := hB1.co (by rw [gm2]) (go2 _ (Hm.nn (j := 12) (k := 15) rfl rfl (by decide)))
  refine kI ?_
  refine so_istore_n (M := mX7_match) (pc := 19) (lo' := [_, _, _, _, _, _, _, _, _, _]) dX7_match_19 (LE rfl) (LE rfl) (Or.inr rfl) rfl ?_
  refine wp_iconst (M := mX7_match) (pc := 20) (v := 0) dX7_match_20 ci_0 ?_
  refine so_istore_n (M := mX7_match) (pc := 21) (lo' := [_, _, _, _, _, _, _, _, _, _]) dX7_match_21 (LE rfl) (LE rfl) (Or.inr rfl) rfl ?_
  refine l1_X7_match (B := B) (h0 := h2) (fun h3 Hm5 hB3 F3 go3 z3 => ?_) (B.length + 1) 0 h2 (by omega) (by omega) Hm2 hB2 FrB.rf (fun _ _ => rfl) (fun j hj => absurd hj (Nat.not_lt_zero _))
  refine wp_aload_n (M := mX7_match) (pc := 43) dX7_match_43 rfl ?_
  refine wp_iconst (M := mX7_match) (pc := 44) (v := 0) dX7_match_44 ci_0 ?_
  refine wp_putI (M := mX7_match) (pc := 45) fa_X7_164 (Or.inl rfl) dX7_match_45 Hm5.k ?_
  refine wp_aload_n (M := mX7_match) (pc := 48) dX7_match_48 rfl ?_
  refine wp_bipush (M := mX7_match) (pc := 49) (v := -9) dX7_match_49 cb_m9 ?_
  refine wp_putI (M := mX7_match) (pc := 51) fa_X7_167 (Or.inl rfl) dX7_match_51 Hm5.k ?_
  refine wp_aload_n (M := mX7_match) (pc := 54) dX7_match_54 rfl ?_
  refine wp_iconst (M := mX7_match) (pc := 55) (v := 0) dX7_match_55 ci_0 ?_
  refine wp_putI (M := mX7_match) (pc := 56) fa_X7_170 (Or.inl rfl) dX7_match_56 Hm5.k ?_
  refine wp_iconst (M := mX7_match) (pc := 59) (v := 0) dX7_match_59 ci_0 ?_
  refine so_istore_n (M := mX7_match) (pc := 60) (lo' := [_, _, _, _, _, _, _, _, _, _]) dX7_match_60 (LE rfl) (LE rfl) (Or.inr rfl) rfl ?_
  refine wp_iconst (M := mX7_match) (pc := 61) (v := 0) dX7_match_61 ci_0 ?_
  refine so_istore (M := mX7_match) (pc := 62) (lo' := [_, _, _, _, _, _, _, _, _, _]) dX7_match_62 (LE rfl) (LE rfl) (Or.inr rfl) rfl ?_
  have F4 : FrB me ad Z0 h3 (si (si (si h3 me 17 0) me 18 (-9)) me 19 0) := ((FrB.sm (k := 17) (by omega)).tr (FrB.sm (k := 18) (by omega))).tr (FrB.sm (k := 19) (by omega))
  have e14 : gi (si (si (si h3 me 17 0) me 18 (-9)) me 19 0) (ad 14) = gi h1 (ad 14) := by rw [gi_si_ne _ _ _ (Hm.ne (k := 14) rfl), gi_si_ne _ _ _ (Hm.ne (k := 14) rfl), gi_si_ne _ _ _ (Hm.ne (k := 14) rfl), go3 _ (Hm.nn (j := 14) (k := 16) rfl rfl (by decide)), go2 _ (Hm.nn (j := 14) (k := 15) rfl rfl (by decide))]
  have e15 : gi (si (si (si h3 me 17 0) me 18 (-9)) me 19 0) (ad 15) = gi h2 (ad 15) := by rw [gi_si_ne _ _ _ (Hm.ne (k := 15) rfl), gi_si_ne _ _ _ (Hm.ne (k := 15) rfl), gi_si_ne _ _ _ (Hm.ne (k := 15) rfl), go3 _ (Hm.nn (j := 15) (k := 16) rfl rfl (by decide))]
  refine l2_X7_match (B := B) (f := (sdF B 1 B.length).1) (g := (sdF B 0 B.length).1) (nb := (sdF B 1 B.length).2) (na := (sdF B 0 B.length).2) (h0 := h) (by omega) (by omega) (fun j hj => s2 j hj) (fun j hj => r2 j hj) ((sdF B 1 B.length).2 + (sdF B 0 B.length).2 + 1) ((sdF B 1 B.length).2 + (sdF B 0 B.length).2) 0 0 (fun _ => 0, 0, -9, 0) _ none none none none none (by omega) (by omega) (by omega) (by omega) (Hm5.B F4) (hB3.co ?_ ?_) (((F1.tr F2).tr F3).tr F4) (fun j hj => by rw [e14]; exact p1 j hj) (fun j hj => by rw [e15]; exact p2 j hj) ⟨fun j hj => ?_, ?_, ?_, ?_⟩ k
  · rw [gi_si_oth (by decide), gi_si_oth (by decide), gi_si_oth (by decide)]
  · rw [gi_si_ne _ _ _ (Hm.ne (k := 12) rfl), gi_si_ne _ _ _ (Hm.ne (k := 12) rfl), gi_si_ne _ _ _ (Hm.ne (k := 12) rfl)]
  · rw [gi_si_ne _ _ _ (Hm.ne (k := 16) rfl), gi_si_ne _ _ _ (Hm.ne (k := 16) rfl), gi_si_ne _ _ _ (Hm.ne (k := 16) rfl)]; exact z3 j hj
  · rw [gi_si_oth (by decide), gi_si_oth (by decide), gi_si_same]
  · rw [gi_si_oth (by decide), gi_si_same]
  · rw [gi_si_same]
set_option maxHeartbeats 4000000 in
set_option maxRecDepth 100000 in
theorem lp_X7_goneBy {me : Nat} {ad : Nat → Nat} {B : List Ord} {s : RS} (Hm : MoL h me ad) (hB : BenR h me ad B) (hM : MRR h me ad B.length s) (k : Q (.inl (some (.int (nI (cntG B s B.length))))) h) : ∀ (m : Nat) (i : Nat), B.length - i < m → (i ≤ B.length) → WPx E mX7_goneBy 4 [some (.ref me), some (.int (nI (cntG B s i))), some (.int (nI i))] [] (0, 0) h Q := by
  intro m
  induction m with
  | zero => intro i hm; exact absurd hm (Nat.not_lt_zero _)
  | succ m ih =>
    intro i hm hi
    have b13 := hB.1.2
    refine wp_iload_n (M := mX7_goneBy) (pc := 4) dX7_goneBy_4 rfl ?_
    refine wp_aload_n (M := mX7_goneBy) (pc := 5) dX7_goneBy_5 rfl ?_
    refine wp_getI (M := mX7_goneBy) (pc := 6) fa_X7_153 rfl dX7_goneBy_6 (by first | exact Hm.k | exact Hm.a rfl | fail "kd") ?_
    refine wp_icmp_ge (M := mX7_goneBy) (pc := 9) (tgt := 45) dX7_goneBy_9 rfl (fun t9 => ?_) (fun f9 => ?_)
    · rw [hB.1.1] at t9
      have hi2 := n_ge hi (by omega) t9
      subst hi2
      refine wp_iload_n (M := mX7_goneBy) (pc := 45) dX7_goneBy_45 rfl ?_
      refine wp_ireturn (M := mX7_goneBy) (pc := 46) rfl dX7_goneBy_46 ?_
      exact k
    · rw [hB.1.1] at f9
      have hlt := n_lt hi (by omega) f9
      refine wp_iload_n (M := mX7_goneBy) (pc := 12) dX7_goneBy_12 rfl ?_
      refine wp_aload_n (M := mX7_goneBy) (pc := 13) dX7_goneBy_13 rfl ?_
      refine wp_getR (M := mX7_goneBy) (pc := 14) fa_X7_41 rfl dX7_goneBy_14 (by first | exact Hm.k | exact Hm.a rfl | fail "kd") (Hm.r rfl) ?_
      refine wp_iload_n (M := mX7_goneBy) (pc := 17) dX7_goneBy_17 rfl ?_
      refine wr_iaload (M := mX7_goneBy) (pc := 18) dX7_goneBy_18 (by first | exact Hm.k | exact Hm.a rfl | fail "kd") rfl (by omega) (by decide) ?_
      refine wp_aload_n (M := mX7_goneBy) (pc := 19) dX7_goneBy_19 rfl ?_
      refine wp_getR (M := mX7_goneBy) (pc := 20) fa_X7_32 rfl dX7_goneBy_20 (by first | exact Hm.k | exact Hm.a rfl | fail "kd") (Hm.r rfl) ?_
      refine wp_iconst (M := mX7_goneBy) (pc := 23) (v := 4) dX7_goneBy_23 ci_4 ?_
      refine wp_iload_n (M := mX7_goneBy) (pc := 24) dX7_goneBy_24 rfl ?_
      refine wp_imul (M := mX7_goneBy) (pc := 25) dX7_goneBy_25 ?_
      refine wp_iconst (M := mX7_goneBy) (pc := 26) (v := 3) dX7_goneBy_26 ci_3 ?_
      refine wp_iadd (M := mX7_goneBy) (pc := 27) dX7_goneBy_27 ?_
      refine wr_iaload (M := mX7_goneBy) (pc := 28) dX7_goneBy_28 (by first | exact Hm.k | exact Hm.a rfl | fail "kd") (ia (im (show (4 : Int32) = nI 4 from rfl) rfl) (show (3 : Int32) = nI 3 from rfl)) (by omega) (by decide) ?_
      refine wp_icmp_ne (M := mX7_goneBy) (pc := 29) (tgt := 36) dX7_goneBy_29 rfl (fun t29 => ?_) (fun f29 => ?_)
      · rw [hM.1 _ hlt, (hB.2 i hlt).2.2] at t29
        refine wp_iconst (M := mX7_goneBy) (pc := 36) (v := 0) dX7_goneBy_36 ci_0 ?_
        refine wp_iadd (M := mX7_goneBy) (pc := 37) dX7_goneBy_37 ?_
        refine so_istore_n (M := mX7_goneBy) (pc := 38) (lo' := [_, _, _]) dX7_goneBy_38 (LE rfl) (LE rfl) (Or.inr rfl) rfl ?_
        refine so_iinc (M := mX7_goneBy) (pc := 39) (lo' := [_, _, _]) dX7_goneBy_39 rfl ci_1 (LE rfl) rfl ?_
        refine wp_goto (M := mX7_goneBy) (pc := 42) (tgt := 4) dX7_goneBy_42 rfl ?_
        first
        | (rw [show nI i + 1 = nI (i + 1) from nI_1 i, Int32.add_zero]
           have hz := ih (i + 1) (by omega) (by omega)
           rw [cntG_n t29] at hz
           exact hz)
        | (rw [show nI i + 1 = nI (i + 1) from nI_1 i, show nI (cntG B s i) + 1 = nI (cntG B s i + 1) from nI_1 _]
           have hz := ih (i + 1) (by omega) (by omega)
           rw [cntG_y f29] at hz
           exact hz)
        | fail "leaf"
      · rw [hM.1 _ hlt, (hB.2 i hlt).2.2] at f29
        refine wp_iconst (M := mX7_goneBy) (pc := 32) (v := 1) dX7_goneBy_32 ci_1 ?_
        refine wp_goto (M := mX7_goneBy) (pc := 33) (tgt := 37) dX7_goneBy_33 rfl ?_
        refine wp_iadd (M := mX7_goneBy) (pc := 37) dX7_goneBy_37 ?_
        refine so_istore_n (M := mX7_goneBy) (pc := 38) (lo' := [_, _, _]) dX7_goneBy_38 (LE rfl) (LE rfl) (Or.inr rfl) rfl ?_
        refine so_iinc (M := mX7_goneBy) (pc := 39) (lo' := [_, _, _]) dX7_goneBy_39 rfl ci_1 (LE rfl) rfl ?_
        refine wp_goto (M := mX7_goneBy) (pc := 42) (tgt := 4) dX7_goneBy_42 rfl ?_
        first
        | (rw [show nI i + 1 = nI (i + 1) from nI_1 i, Int32.add_zero]
           have hz := ih (i + 1) (by omega) (by omega)
           rw [cntG_n t29] at hz
           exact hz)
        | (rw [show nI i + 1 = nI (i + 1) from nI_1 i, show nI (cntG B s i) + 1 = nI (cntG B s i + 1) from nI_1 _]
           have hz := ih (i + 1) (by omega) (by omega)
           rw [cntG_y f29] at hz
           exact hz)
        | fail "leaf"
set_option maxHeartbeats 4000000 in
set_option maxRecDepth 100000 in
theorem sp_X7_goneBy {me : Nat} {ad : Nat → Nat} {B : List Ord} {s : RS} (Hm : MoL h me ad) (hB : BenR h me ad B) (hM : MRR h me ad B.length s) (k : Q (.inl (some (.int (nI (cntG B s B.length))))) h) : WPx E mX7_goneBy 0 [some (.ref me), none, none] [] (0, 0) h Q := by
  refine wp_iconst (M := mX7_goneBy) (pc := 0) (v := 0) dX7_goneBy_0 ci_0 ?_
  refine so_istore_n (M := mX7_goneBy) (pc := 1) (lo' := [_, _, _]) dX7_goneBy_1 (LE rfl) (LE rfl) (Or.inr rfl) rfl ?_
  refine wp_iconst (M := mX7_goneBy) (pc := 2) (v := 0) dX7_goneBy_2 ci_0 ?_
  refine so_istore_n (M := mX7_goneBy) (pc := 3) (lo' := [_, _, _]) dX7_goneBy_3 (LE rfl) (LE rfl) (Or.inr rfl) rfl ?_
  exact lp_X7_goneBy Hm hB hM k (B.length + 1) 0 (by omega) (by omega)
end SP
