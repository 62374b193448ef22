section SP
variable {E : Ev} {h : PH} {Q : Rt → PH → Prop}
noncomputable def surR (A : Sta) (mk : Int32) : Int32 := (mtB (bn A mk (sO A).length)).2.2.2
noncomputable def shTR (A : Sta) (t c : Nat) : Int32 := facR (ones c) * facR (sN A - 1 - ones c) * (surR A (nI c ||| ownB t) - surR A (nI c))
noncomputable def shR (A : Sta) (t : Nat) : Nat → Int32
  | 0 => 0
  | c + 1 => if (nI c >>> (nI t &&& 31)) &&& 1 = 0 then shR A t c + shTR A t c else shR A t c
theorem shR_y {A : Sta} {t c : Nat} (h : (nI c >>> (nI t &&& 31)) &&& 1 = 0) : shR A t (c + 1) = shR A t c + shTR A t c := if_pos h
theorem shR_n {A : Sta} {t c : Nat} (h : ¬ (nI c >>> (nI t &&& 31)) &&& 1 = 0) : shR A t (c + 1) = shR A t c := if_neg h
noncomputable def byR (A : Sta) (t : Nat) : Int32 := (gcR ((facR (sN A)).toInt64.toInt.toNat + 1) (labs (shR A t (2 ^ sN A)).toInt64) (facR (sN A)).toInt64).toInt32
noncomputable def shaR (A : Sta) (t : Nat) (v : Int32) : Int32 := (if v = 0 then facR (sN A) else shR A t (2 ^ sN A)) / byR A t
theorem or_n : ∀ n : Nat, n < 7 → ∀ t : Nat, t < n → ∀ c : Nat, c < 2 ^ n → nI c ||| ownB t = nI (c ||| 2 ^ t) ∧ (c ||| 2 ^ t) < 2 ^ n := by decide +kernel
theorem sh_own : ∀ n : Nat, n < 7 → ∀ t : Nat, t < n → ∀ c : Nat, c < 2 ^ n → ((nI c >>> (nI t &&& 31)) &&& 1 = 0 ↔ nI c &&& ownB t = 0) := by decide +kernel
theorem labs_i (x : Int32) : 0 ≤ labs x.toInt64 := by
  unfold labs
  split
  · rename_i hx
    rw [Int64.le_iff_toInt_le, Int64.toInt_neg]
    have h1 := Int64.lt_iff_toInt_lt.mp hx
    have h2 : (0 : Int64).toInt = 0 := rfl
    rw [Int32.toInt_toInt64] at h1 ⊢
    have h3 := x.le_toInt
    rw [Int.bmod_eq_of_le (by omega) (by omega)]
    omega
  · rename_i hx
    exact Int64.not_lt.mp hx
theorem facR_p : ∀ n : Nat, n < 7 → 0 ≤ (facR n).toInt64 := by decide
section
variable {h h' : PH} {me : Nat} {ad : Nat → Nat} {X : Abs}
theorem WM.BZ {Z : Nat → Prop} (H : WM h me ad X) (F : FrB me ad Z h h') (hz : ∀ x, Z x → x = ad 2 ∨ x = ad 20) : WM h' me ad X := by
  have Hm := H.1
  have e : ∀ j y, (j = 1 ∨ j = 3 ∨ j = 6 ∨ j = 7 ∨ j = 8) → fsz j = some y → gi h' (ad j) = gi h (ad j) := fun j y q1 e => F.2.1 _ (fun q => (hz _ q).elim (Hm.nn (k := 2) e rfl (by omega)) (Hm.nn (k := 20) e rfl (by omega))) (Hm.ne e) (Hm.nn (k := 12) e rfl (by omega)) (Hm.nn (k := 14) e rfl (by omega)) (Hm.nn (k := 15) e rfl (by omega)) (Hm.nn (k := 16) e rfl (by omega))
  exact H.co (Hm.B F) (F.2.2 4 (by decide) (by decide) (by decide) (by decide)) (F.2.2 5 (by decide) (by decide) (by decide) (by decide)) (F.2.2 9 (by decide) (by decide) (by decide) (by decide)) (e 1 _ (by decide) rfl) (e 3 _ (by decide) rfl) (e 6 _ (by decide) rfl) (e 7 _ (by decide) rfl) (e 8 _ (by decide) rfl)
end
noncomputable def wlR (A : Sta) (t : Nat) : Int64 := (fT A t 4 + csa A t).toInt64 + (if sG A 7 = -9 then 0 else (sG A 7).toInt64) * (fT A t 2 + fT A t 3 + qtyOf A t 1 - dsum (sT A t).2.2).toInt64
noncomputable def rkR (A : Sta) (t : Nat) : Nat → Nat
  | 0 => 0
  | u + 1 => if wlR A t < wlR A u ∨ (wlR A u = wlR A t ∧ u < t) then rkR A t u + 1 else rkR A t u
theorem rkR_y {A : Sta} {t u : Nat} (h : wlR A t < wlR A u ∨ (wlR A u = wlR A t ∧ u < t)) : rkR A t (u + 1) = rkR A t u + 1 := if_pos h
theorem rkR_n {A : Sta} {t u : Nat} (h : ¬ (wlR A t < wlR A u ∨ (wlR A u = wlR A t ∧ u < t))) : rkR A t (u + 1) = rkR A t u := if_neg h
theorem rkR_le (A : Sta) (t : Nat) : ∀ u, rkR A t u ≤ u
  | 0 => Nat.le_refl _
  | u + 1 => by
    have := rkR_le A t u
    by_cases h : wlR A t < wlR A u ∨ (wlR A u = wlR A t ∧ u < t)
    · rw [rkR_y h]; omega
    · rw [rkR_n h]; omega
noncomputable def wsR (A : Sta) (i : Nat) : Nat → Int32
  | 0 => 0
  | t + 1 => if rkR A t (sN A) = i then nI t else wsR A i t
theorem wsR_y {A : Sta} {i t : Nat} (h : rkR A t (sN A) = i) : wsR A i (t + 1) = nI t := if_pos h
theorem wsR_n {A : Sta} {i t : Nat} (h : ¬ rkR A t (sN A) = i) : wsR A i (t + 1) = wsR A i t := if_neg h
noncomputable def faiR (A : Sta) (v : Int32) : Int64 := if fsm A (sN A) = 0 then 1 else (if v = 0 then (nI (sN A)).toInt64 * fsq A (sN A) else fsm A (sN A) * fsm A (sN A)) / gcR (((nI (sN A)).toInt64 * fsq A (sN A)).toInt.toNat + 1) (labs (fsm A (sN A) * fsm A (sN A))) ((nI (sN A)).toInt64 * fsq A (sN A))
def okFa (A : Sta) : Prop := ¬ fsm A (sN A) = 0 → 0 ≤ labs (fsm A (sN A) * fsm A (sN A)) ∧ 0 ≤ (nI (sN A)).toInt64 * fsq A (sN A) ∧ ¬ gcR (((nI (sN A)).toInt64 * fsq A (sN A)).toInt.toNat + 1) (labs (fsm A (sN A) * fsm A (sN A))) ((nI (sN A)).toInt64 * fsq A (sN A)) = 0
set_option maxHeartbeats 4000000 in
set_option maxRecDepth 100000 in
theorem l1_X7_share {me : Nat} {ad : Nat → Nat} {X : Abs} {t : Nat} {v : Int32} {hA : PH} (kk : ∀ h0, WM h0 me ad X → gi h0 me 0 = 0 → Ow me hA h0 → (∀ c, c < 2 ^ sN (xA X) → gi h0 (ad 20) c = surR (xA X) (nI c)) → WPx E mX7_share 74 [some (.ref me), some (.int (nI t)), some (.int v), some (.int (nI (sN (xA X)))), some (.int (nI (2 ^ sN (xA X)))), none, none] [] (0, 0) h0 Q) : ∀ (m : Nat) (e : Nat) (h0 : PH), 2 ^ sN (xA X) - e < m → (e ≤ 2 ^ sN (xA X)) → (WM h0 me ad X) → (gi h0 me 0 = 0) → (Ow me hA h0) → (∀ c, c < e → gi h0 (ad 20) c = surR (xA X) (nI c)) → WPx E mX7_share 35 [some (.ref me), some (.int (nI t)), some (.int v), some (.int (nI (sN (xA X)))), some (.int (nI e)), none, none] [] (0, 0) h0 Q := by
  intro m
  induction m with
  | zero => intro e h0 hm; exact absurd hm (Nat.not_lt_zero _)
  | succ m ih =>
    intro e h0 hm he H z0 F0 g1
    have Hm := H.1
    have hR := H.2.1
    have n6 := hR.n6
    have e64 := two_n n6
    refine wp_iload (M := mX7_share) (pc := 35) dX7_share_35 rfl ?_
    refine wp_iconst (M := mX7_share) (pc := 37) (v := 1) dX7_share_37 ci_1 ?_
    refine wp_iload_n (M := mX7_share) (pc := 38) dX7_share_38 rfl ?_
    refine wp_ishl (M := mX7_share) (pc := 39) dX7_share_39 ?_
    refine wp_icmp_ge (M := mX7_share) (pc := 40) (tgt := 74) dX7_share_40 rfl (fun t40 => ?_) (fun f40 => ?_)
    · rw [shl_n _ (by omega)] at t40
      have e2 := n_ge he (by omega) t40
      rw [e2]
      rw [e2] at g1
      exact kk h0 H z0 F0 g1
    · rw [shl_n _ (by omega)] at f40
      have hlt := n_lt he (by omega) f40
      refine wp_aload_n (M := mX7_share) (pc := 43) dX7_share_43 rfl ?_
      refine wp_aload_n (M := mX7_share) (pc := 44) dX7_share_44 rfl ?_
      refine wp_getR (M := mX7_share) (pc := 45) fa_X7_7 rfl dX7_share_45 (by first | exact Hm2.k | exact Hm2.a rfl | exact Hm1.k | exact Hm.k | fail "kd") (by first | exact Hm2.r rfl | exact Hm.r rfl) ?_
      refine wp_iload (M := mX7_share) (pc := 48) dX7_share_48 rfl ?_
      refine so_V2 (M := mX7_share) (pc := 50) cs_X7_share_146 rfl rfl (LE rfl) (LE rfl) dX7_share_50 (by first | exact Hm2.k | exact Hm2.a rfl | exact Hm1.k | exact Hm.k | fail "kd") ?_
      refine sp_X7_layBench Hm (Hm.a rfl) hR (Hm.na (j := 1) rfl (by decide) (by decide) (by decide) (by decide)) (fun h1 Hm1 B1 F1 => ?_)
      refine kV ?_
      refine wp_aload_n (M := mX7_share) (pc := 53) dX7_share_53 rfl ?_
      refine so_V0 (M := mX7_share) (pc := 54) cs_X7_share_150 rfl rfl (LE rfl) (LE rfl) dX7_share_54 (by first | exact Hm2.k | exact Hm2.a rfl | exact Hm1.k | exact Hm.k | fail "kd") ?_
      refine sp_X7_match Hm1 B1 (fun h2 Hm2 B2 F2 M2 => ?_)
      have F12 : FrB me ad Z0 h0 h2 := F1.tr F2
      refine kV ?_
      refine wp_aload_n (M := mX7_share) (pc := 57) dX7_share_57 rfl ?_
      refine wp_getR (M := mX7_share) (pc := 58) fa_X7_44 rfl dX7_share_58 (by first | exact Hm2.k | exact Hm2.a rfl | exact Hm1.k | exact Hm.k | fail "kd") (by first | exact Hm2.r rfl | exact Hm.r rfl) ?_
      refine wp_iload (M := mX7_share) (pc := 61) dX7_share_61 rfl ?_
      refine wp_aload_n (M := mX7_share) (pc := 63) dX7_share_63 rfl ?_
      refine wp_getI (M := mX7_share) (pc := 64) fa_X7_170 rfl dX7_share_64 (by first | exact Hm2.k | exact Hm2.a rfl | exact Hm1.k | exact Hm.k | fail "kd") ?_
      refine wr_iastore (M := mX7_share) (pc := 67) dX7_share_67 (by first | exact Hm2.k | exact Hm2.a rfl | exact Hm1.k | exact Hm.k | fail "kd") rfl (by omega) (by decide) ?_
      refine so_iinc (M := mX7_share) (pc := 68) (lo' := [_, _, _, _, _, _, _]) dX7_share_68 rfl ci_1 (LE rfl) rfl ?_
      refine wp_goto (M := mX7_share) (pc := 71) (tgt := 35) dX7_share_71 rfl ?_
      rw [show nI e + 1 = nI (e + 1) from nI_1 e, M2.2.2.2]
      have F3 : FrB me ad (fun x => x = ad 20) h0 (si h2 (ad 20) e (surR (xA X) (nI e))) := (F12.mono (fun _ q => absurd q id)).tr (RF.B RF.si rfl (Hm.ne (k := 20) rfl))
      have n20 : ∀ k y, (k = 12 ∨ k = 14 ∨ k = 15 ∨ k = 16) → fsz k = some y → ad 20 ≠ ad k := (Hm.na (j := 20) rfl (by decide) (by decide) (by decide) (by decide)).2
      refine ih (e + 1) _ (by omega) (by omega) (H.BZ F3 (fun x q => Or.inr q)) (WM.zB F3 z0) (F0.tr (FrB.ow Hm F3 (fun x q => by rw [q]; exact Hm.ta (k := 20) rfl))) (fun c hc => ?_)
      rw [gi_si_at]
      by_cases ec : c = e
      · rw [ec, upd_at]; rfl
      · rw [upd_ne _ _ ec, F12.2.1 _ id (Hm.ne (k := 20) rfl) (n20 12 _ (by decide) rfl) (n20 14 _ (by decide) rfl) (n20 15 _ (by decide) rfl) (n20 16 _ (by decide) rfl)]
        exact g1 c (by omega)
set_option maxHeartbeats 4000000 in
set_option maxRecDepth 100000 in
theorem l2_X7_share {me : Nat} {ad : Nat → Nat} {X : Abs} {t : Nat} {v : Int32} {h0 : PH} (H : WM h0 me ad X) (htn : t < sN (xA X)) (g1 : ∀ c, c < 2 ^ sN (xA X) → gi h0 (ad 20) c = surR (xA X) (nI c)) (hby : ¬ byR (xA X) t = 0) (k : Q (.inl (some (.int (shaR (xA X) t v)))) h0) : ∀ (m : Nat) (e : Nat) (x6 : Option Value), 2 ^ sN (xA X) - e < m → (e ≤ 2 ^ sN (xA X)) → WPx E mX7_share 80 [some (.ref me), some (.int (nI t)), some (.int v), some (.int (nI (sN (xA X)))), some (.int (shR (xA X) t e)), some (.int (nI e)), x6] [] (0, 0) h0 Q := by
  intro m
  induction m with
  | zero => intro e x6 hm; exact absurd hm (Nat.not_lt_zero _)
  | succ m ih =>
    intro e x6 hm he
    have Hm := H.1
    have hR := H.2.1
    have n6 := hR.n6
    have e64 := two_n n6
    refine wp_iload (M := mX7_share) (pc := 80) dX7_share_80 rfl ?_
    refine wp_iconst (M := mX7_share) (pc := 82) (v := 1) dX7_share_82 ci_1 ?_
    refine wp_iload_n (M := mX7_share) (pc := 83) dX7_share_83 rfl ?_
    refine wp_ishl (M := mX7_share) (pc := 84) dX7_share_84 ?_
    refine wp_icmp_ge (M := mX7_share) (pc := 85) (tgt := 150) dX7_share_85 rfl (fun t85 => ?_) (fun f85 => ?_)
    · rw [shl_n _ (by omega)] at t85
      have e2 := n_ge he (by omega) t85
      subst e2
      refine wp_iload_n (M := mX7_share) (pc := 150) dX7_share_150 rfl ?_
      refine so_S1 (M := mX7_share) (pc := 151) cs_X7_share_256 rfl rfl (LE rfl) (LE rfl) dX7_share_151 ?_
      refine sp_X7_factorial (by omega) ?_
      refine kI ?_
      refine so_istore (M := mX7_share) (pc := 154) (lo' := [_, _, _, _, _, _, _]) dX7_share_154 (LE rfl) (LE rfl) (Or.inr rfl) rfl ?_
      refine wp_iload (M := mX7_share) (pc := 156) dX7_share_156 rfl ?_
      refine wp_i2l (M := mX7_share) (pc := 158) dX7_share_158 ?_
      refine wp_iload (M := mX7_share) (pc := 159) dX7_share_159 rfl ?_
      refine wp_i2l (M := mX7_share) (pc := 161) dX7_share_161 ?_
      refine so_S2 (M := mX7_share) (pc := 162) cs_X7_share_259 rfl rfl (LE rfl) (LE rfl) dX7_share_162 ?_
      refine sp_X7_divisor (labs_i _) (facR_p _ (by omega)) ?_
      refine kL ?_
      refine wp_l2i (M := mX7_share) (pc := 165) dX7_share_165 ?_
      refine so_istore (M := mX7_share) (pc := 166) (lo' := [_, _, _, _, _, _, _]) dX7_share_166 (LE rfl) (LE rfl) (Or.inr rfl) rfl ?_
      refine wp_iload_n (M := mX7_share) (pc := 168) dX7_share_168 rfl ?_
      refine wp_if_eq (M := mX7_share) (pc := 169) (tgt := 180) dX7_share_169 rfl (fun t169 => ?_) (fun f169 => ?_)
      · refine wp_iload (M := mX7_share) (pc := 180) dX7_share_180 rfl ?_
        refine wp_iload (M := mX7_share) (pc := 182) dX7_share_182 rfl ?_
        refine wp_idiv (M := mX7_share) (pc := 184) dX7_share_184 hby ?_
        refine wp_ireturn (M := mX7_share) (pc := 185) rfl dX7_share_185 ?_
        first
        | (rw [shaR, if_pos t169] at k; exact k)
        | (rw [shaR, if_neg f169] at k; exact k)
        | fail "leaf"
      · refine wp_iload (M := mX7_share) (pc := 172) dX7_share_172 rfl ?_
        refine wp_iload (M := mX7_share) (pc := 174) dX7_share_174 rfl ?_
        refine wp_idiv (M := mX7_share) (pc := 176) dX7_share_176 hby ?_
        refine wp_goto (M := mX7_share) (pc := 177) (tgt := 185) dX7_share_177 rfl ?_
        refine wp_ireturn (M := mX7_share) (pc := 185) rfl dX7_share_185 ?_
        first
        | (rw [shaR, if_pos t169] at k; exact k)
        | (rw [shaR, if_neg f169] at k; exact k)
        | fail "leaf"
    · rw [shl_n _ (by omega)] at f85
      have hlt := n_lt he (by omega) f85
      refine wp_iload (M := mX7_share) (pc := 88) dX7_share_88 rfl ?_
      refine wp_iload_n (M := mX7_share) (pc := 90) dX7_share_90 rfl ?_
      refine wp_ishr (M := mX7_share) (pc := 91) dX7_share_91 ?_
      refine wp_iconst (M := mX7_share) (pc := 92) (v := 1) dX7_share_92 ci_1 ?_
      refine wp_iand (M := mX7_share) (pc := 93) dX7_share_93 ?_
      refine wp_if_ne (M := mX7_share) (pc := 94) (tgt := 144) dX7_share_94 rfl (fun t94 => ?_) (fun f94 => ?_)
      · refine so_iinc (M := mX7_share) (pc := 144) (lo' := [_, _, _, _, _, _, _]) dX7_share_144 rfl ci_1 (LE rfl) rfl ?_
        refine wp_goto (M := mX7_share) (pc := 147) (tgt := 80) dX7_share_147 rfl ?_
        first
        | (rw [show nI e + 1 = nI (e + 1) from nI_1 e]
           have hz := ih (e + 1) x6 (by omega) (by omega)
           rw [shR_n t94] at hz
           exact hz)
        | (rw [show nI e + 1 = nI (e + 1) from nI_1 e, g1 _ eo2, g1 _ hlt, ← eo1]
           have hz := fun y => ih (e + 1) y (by omega) (by omega)
           rw [shR_y f94] at hz
           exact hz _)
        | fail "leaf"
      · have hb1 := ones_s _ (by omega) t htn e hlt ((sh_own _ (by omega) t htn e hlt).mp f94)
        obtain ⟨eo1, eo2⟩ := or_n _ (by omega) t htn e hlt
        refine wp_iload (M := mX7_share) (pc := 97) dX7_share_97 rfl ?_
        refine so_S1 (M := mX7_share) (pc := 99) cs_X7_share_253 rfl rfl (LE rfl) (LE rfl) dX7_share_99 ?_
        refine sp_X7_ones ?_
        rw [onS_n e (by omega)]
        refine kI ?_
        refine so_istore (M := mX7_share) (pc := 102) (lo' := [_, _, _, _, _, _, _]) dX7_share_102 (LE rfl) (LE rfl) (Or.inr rfl) rfl ?_
        refine wp_iload (M := mX7_share) (pc := 104) dX7_share_104 rfl ?_
        refine wp_iload (M := mX7_share) (pc := 106) dX7_share_106 rfl ?_
        refine so_S1 (M := mX7_share) (pc := 108) cs_X7_share_256 rfl rfl (LE rfl) (LE rfl) dX7_share_108 ?_
        refine sp_X7_factorial (by omega) ?_
        refine kI ?_
        refine wp_iload_n (M := mX7_share) (pc := 111) dX7_share_111 rfl ?_
        refine wp_iconst (M := mX7_share) (pc := 112) (v := 1) dX7_share_112 ci_1 ?_
        refine wp_isub (M := mX7_share) (pc := 113) dX7_share_113 ?_
        refine wp_iload (M := mX7_share) (pc := 114) dX7_share_114 rfl ?_
        refine wp_isub (M := mX7_share) (pc := 116) dX7_share_116 ?_
        refine so_S1 (M := mX7_share) (pc := 117) cs_X7_share_256 rfl rfl (LE rfl) (LE rfl) dX7_share_117 ?_
        rw [show nI (sN (xA X)) - 1 - nI (ones e) = nI (sN (xA X) - 1 - ones e) by rw [show nI (sN (xA X)) - 1 = nI (sN (xA X) - 1) from pk_sub (b := 1) (by omega)]; exact pk_sub (by omega)]
        refine sp_X7_factorial (by omega) ?_
        refine kI ?_
        refine wp_imul (M := mX7_share) (pc := 120) dX7_share_120 ?_
        refine wp_aload_n (M := mX7_share) (pc := 121) dX7_share_121 rfl ?_
        refine wp_getR (M := mX7_share) (pc := 122) fa_X7_44 rfl dX7_share_122 (by first | exact Hm.k | exact Hm.a rfl | fail "kd") (Hm.r rfl) ?_
        refine wp_iload (M := mX7_share) (pc := 125) dX7_share_125 rfl ?_
        refine wp_iconst (M := mX7_share) (pc := 127) (v := 1) dX7_share_127 ci_1 ?_
        refine wp_iload_n (M := mX7_share) (pc := 128) dX7_share_128 rfl ?_
        refine wp_ishl (M := mX7_share) (pc := 129) dX7_share_129 ?_
        refine wp_ior (M := mX7_share) (pc := 130) dX7_share_130 ?_
        refine wr_iaload (M := mX7_share) (pc := 131) dX7_share_131 (by first | exact Hm.k | exact Hm.a rfl | fail "kd") eo1 (by omega) (by decide) ?_
        refine wp_aload_n (M := mX7_share) (pc := 132) dX7_share_132 rfl ?_
        refine wp_getR (M := mX7_share) (pc := 133) fa_X7_44 rfl dX7_share_133 (by first | exact Hm.k | exact Hm.a rfl | fail "kd") (Hm.r rfl) ?_
        refine wp_iload (M := mX7_share) (pc := 136) dX7_share_136 rfl ?_
        refine wr_iaload (M := mX7_share) (pc := 138) dX7_share_138 (by first | exact Hm.k | exact Hm.a rfl | fail "kd") rfl (by omega) (by decide) ?_
        refine wp_isub (M := mX7_share) (pc := 139) dX7_share_139 ?_
        refine wp_imul (M := mX7_share) (pc := 140) dX7_share_140 ?_
        refine wp_iadd (M := mX7_share) (pc := 141) dX7_share_141 ?_
        refine so_istore (M := mX7_share) (pc := 142) (lo' := [_, _, _, _, _, _, _]) dX7_share_142 (LE rfl) (LE rfl) (Or.inr rfl) rfl ?_
        refine so_iinc (M := mX7_share) (pc := 144) (lo' := [_, _, _, _, _, _, _]) dX7_share_144 rfl ci_1 (LE rfl) rfl ?_
        refine wp_goto (M := mX7_share) (pc := 147) (tgt := 80) dX7_share_147 rfl ?_
        first
        | (rw [show nI e + 1 = nI (e + 1) from nI_1 e]
           have hz := ih (e + 1) x6 (by omega) (by omega)
           rw [shR_n t94] at hz
           exact hz)
        | (rw [show nI e + 1 = nI (e + 1) from nI_1 e, g1 _ eo2, g1 _ hlt, ← eo1]
           have hz := fun y => ih (e + 1) y (by omega) (by omega)
           rw [shR_y f94] at hz
           exact hz _)
        | fail "leaf"
set_option maxHeartbeats 4000000 in
set_option maxRecDepth 100000 in
theorem sp_X7_share {me : Nat} {ad : Nat → Nat} {X : Abs} {w v : Int32} (H : WM h me ad X) (hby : ∀ t, t < sN (xA X) → ¬ byR (xA X) t = 0) (k1 : ∀ t, t < sN (xA X) → w = nI t → ∀ h', WM h' me ad X → gi h' me 0 = 0 → Ow me h h' → Q (.inl (some (.int (shaR (xA X) t v)))) h') (k2 : ¬ isT (xA X) w → ∀ h', WM h' me ad X → gi h' me 0 = 1 → Ow me h h' → Q (.inl (some (.int 0))) h') : WPx E mX7_share 0 [some (.ref me), some (.int w), some (.int v), none, none, none, none] [] (0, 0) h Q := by
  have Hm := H.1
  have hR := H.2.1
  have n6 := hR.n6
  have n12 := hR.n12
  refine wp_aload_n (M := mX7_share) (pc := 0) dX7_share_0 rfl ?_
  refine wp_aload_n (M := mX7_share) (pc := 1) dX7_share_1 rfl ?_
  refine wp_getR (M := mX7_share) (pc := 2) fa_X7_7 rfl dX7_share_2 (by first | exact Hm.k | exact Hm.a rfl | fail "kd") (Hm.r rfl) ?_
  refine wp_iload_n (M := mX7_share) (pc := 5) dX7_share_5 rfl ?_
  refine so_S2 (M := mX7_share) (pc := 6) cs_X7_share_94 rfl rfl (LE rfl) (LE rfl) dX7_share_6 ?_
  refine sp_X7_isTenant (Hm.a rfl) hR ?_
  refine kI ?_
  refine wp_if_eq (M := mX7_share) (pc := 9) (tgt := 16) dX7_share_9 rfl (fun t9 => ?_) (fun f9 => ?_)
  · refine wp_iconst (M := mX7_share) (pc := 16) (v := 1) dX7_share_16 ci_1 ?_
    refine so_V1 (M := mX7_share) (pc := 17) cs_X7_share_74 rfl rfl (LE rfl) (LE rfl) dX7_share_17 Hm.k ?_
    refine sp_X7_refused1 (v := 1) Hm.k (by decide) ?_
    refine kI ?_
    refine wp_if_eq (M := mX7_share) (pc := 20) (tgt := 25) dX7_share_20 rfl (fun t20 => ?_) (fun f20 => ?_)
    · exact absurd t20 (by decide)
    · refine wp_iconst (M := mX7_share) (pc := 23) (v := 0) dX7_share_23 ci_0 ?_
      refine wp_ireturn (M := mX7_share) (pc := 24) rfl dX7_share_24 ?_
      exact k2 (b01_z t9) _ H.ref gi_si_same (Fr.si Hm.t)
  · refine wp_iconst (M := mX7_share) (pc := 12) (v := 0) dX7_share_12 ci_0 ?_
    refine wp_goto (M := mX7_share) (pc := 13) (tgt := 17) dX7_share_13 rfl ?_
    refine so_V1 (M := mX7_share) (pc := 17) cs_X7_share_74 rfl rfl (LE rfl) (LE rfl) dX7_share_17 Hm.k ?_
    refine sp_X7_refused0 Hm.k ?_
    refine kI ?_
    refine wp_if_eq (M := mX7_share) (pc := 20) (tgt := 25) dX7_share_20 rfl (fun t20 => ?_) (fun f20 => ?_)
    · refine wp_gen (P := fun hX => WM hX me ad X ∧ gi hX me 0 = 0 ∧ Ow me h hX) ⟨H.ref, gi_si_same, Fr.si Hm.t⟩ (fun h0 HX => ?_)
      obtain ⟨H, z0, F0⟩ := HX
      have Hm := H.1
      have hR := H.2.1
      obtain ⟨t, htn, rfl⟩ := b01_n f9
      refine wp_aload_n (M := mX7_share) (pc := 25) dX7_share_25 rfl ?_
      refine wp_getR (M := mX7_share) (pc := 26) fa_X7_7 rfl dX7_share_26 (by first | exact Hm.k | exact Hm.a rfl | fail "kd") (Hm.r rfl) ?_
      refine wp_iconst (M := mX7_share) (pc := 29) (v := 0) dX7_share_29 ci_0 ?_
      refine wr_iaload (M := mX7_share) (pc := 30) dX7_share_30 (by first | exact Hm.k | exact Hm.a rfl | fail "kd") (show (0 : Int32) = nI 0 from rfl) (by omega) (by decide) ?_
      refine so_istore_n (M := mX7_share) (pc := 31) (lo' := [_, _, _, _, _, _, _]) dX7_share_31 (LE rfl) (LE rfl) (Or.inr rfl) rfl ?_
      refine wp_iconst (M := mX7_share) (pc := 32) (v := 0) dX7_share_32 ci_0 ?_
      refine so_istore (M := mX7_share) (pc := 33) (lo' := [_, _, _, _, _, _, _]) dX7_share_33 (LE rfl) (LE rfl) (Or.inr rfl) rfl ?_
      rw [hR.f0]
      refine l1_X7_share (X := X) (hA := h) (fun h2 H2 z2 O2 g2 => ?_) (2 ^ sN (xA X) + 1) 0 h0 (Nat.lt_succ_of_le (Nat.sub_le _ _)) (Nat.zero_le _) H z0 F0 (fun c hc => absurd hc (Nat.not_lt_zero _))
      refine wp_iconst (M := mX7_share) (pc := 74) (v := 0) dX7_share_74 ci_0 ?_
      refine so_istore (M := mX7_share) (pc := 75) (lo' := [_, _, _, _, _, _, _]) dX7_share_75 (LE rfl) (LE rfl) (Or.inr rfl) rfl ?_
      refine wp_iconst (M := mX7_share) (pc := 77) (v := 0) dX7_share_77 ci_0 ?_
      refine so_istore (M := mX7_share) (pc := 78) (lo' := [_, _, _, _, _, _, _]) dX7_share_78 (LE rfl) (LE rfl) (Or.inr rfl) rfl ?_
      exact l2_X7_share H2 htn g2 (hby t htn) (k1 t htn rfl h2 H2 z2 O2) (2 ^ sN (xA X) + 1) 0 none (Nat.lt_succ_of_le (Nat.sub_le _ _)) (Nat.zero_le _)
    · exact absurd rfl f20
set_option maxHeartbeats 4000000 in
set_option maxRecDepth 100000 in
theorem lp_X7_fairness {me : Nat} {ad : Nat → Nat} {X : Abs} {v : Int32} {h0 : PH} (H : WM h0 me ad X) (hf : okFa (xA X)) (k : Q (.inl (some (.long (faiR (xA X) v)))) h0) : ∀ (m : Nat) (t : Nat) (x7 : Option Value), sN (xA X) - t < m → (t ≤ sN (xA X)) → (True) → WPx E mX7_fairness 13 [some (.ref me), some (.int v), some (.long (fsm (xA X) t)), none, some (.long (fsq (xA X) t)), none, some (.int (nI t)), x7, none, none, none, none] [] (0, 0) h0 Q := by
  intro m
  induction m with
  | zero => intro t x7 hm; exact absurd hm (Nat.not_lt_zero _)
  | succ m ih =>
    intro t x7 hm ht c7
    have Hm := H.1
    have hR := H.2.1
    have n6 := hR.n6
    refine wp_iload (M := mX7_fairness) (pc := 13) dX7_fairness_13 rfl ?_
    refine wp_aload_n (M := mX7_fairness) (pc := 15) dX7_fairness_15 rfl ?_
    refine wp_getR (M := mX7_fairness) (pc := 16) fa_X7_7 rfl dX7_fairness_16 (by first | exact Hm.k | exact Hm.a rfl | fail "kd") (Hm.r rfl) ?_
    refine wp_iconst (M := mX7_fairness) (pc := 19) (v := 0) dX7_fairness_19 ci_0 ?_
    refine wr_iaload (M := mX7_fairness) (pc := 20) dX7_fairness_20 (by first | exact Hm.k | exact Hm.a rfl | fail "kd") (show (0 : Int32) = nI 0 from rfl) (by omega) (by decide) ?_
    refine wp_icmp_ge (M := mX7_fairness) (pc := 21) (tgt := 60) dX7_fairness_21 rfl (fun t21 => ?_) (fun f21 => ?_)
    · rw [hR.f0] at t21
      have e2 := n_ge ht (by omega) t21
      subst e2
      refine wp_lload_n (M := mX7_fairness) (pc := 60) dX7_fairness_60 rfl ?_
      refine wp_lconst (M := mX7_fairness) (pc := 61) (v := 0) dX7_fairness_61 cl_0 ?_
      refine wp_lcmp (M := mX7_fairness) (pc := 62) dX7_fairness_62 ?_
      refine wp_if_ne (M := mX7_fairness) (pc := 63) (tgt := 68) dX7_fairness_63 rfl (fun t63 => ?_) (fun f63 => ?_)
      · have hne : ¬ fsm (xA X) (sN (xA X)) = 0 := fun e => t63 ((lg_cmp_eq _ _).mpr e)
        refine wp_lload_n (M := mX7_fairness) (pc := 68) dX7_fairness_68 rfl ?_
        refine wp_lload_n (M := mX7_fairness) (pc := 69) dX7_fairness_69 rfl ?_
        refine wp_lmul (M := mX7_fairness) (pc := 70) dX7_fairness_70 ?_
        refine so_lstore (M := mX7_fairness) (pc := 71) (lo' := [_, _, _, _, _, _, _, _, _, _, _, _]) dX7_fairness_71 (LE rfl) (LE rfl) (Or.inr rfl) rfl ?_
        refine wp_aload_n (M := mX7_fairness) (pc := 73) dX7_fairness_73 rfl ?_
        refine wp_getR (M := mX7_fairness) (pc := 74) fa_X7_7 rfl dX7_fairness_74 (by first | exact Hm.k | exact Hm.a rfl | fail "kd") (Hm.r rfl) ?_
        refine wp_iconst (M := mX7_fairness) (pc := 77) (v := 0) dX7_fairness_77 ci_0 ?_
        refine wr_iaload (M := mX7_fairness) (pc := 78) dX7_fairness_78 (by first | exact Hm.k | exact Hm.a rfl | fail "kd") (show (0 : Int32) = nI 0 from rfl) (by omega) (by decide) ?_
        refine wp_i2l (M := mX7_fairness) (pc := 79) dX7_fairness_79 ?_
        refine wp_lload (M := mX7_fairness) (pc := 80) dX7_fairness_80 rfl ?_
        refine wp_lmul (M := mX7_fairness) (pc := 82) dX7_fairness_82 ?_
        refine so_lstore (M := mX7_fairness) (pc := 83) (lo' := [_, _, _, _, _, _, _, _, _, _, _, _]) dX7_fairness_83 (LE rfl) (LE rfl) (Or.inr rfl) rfl ?_
        refine wp_lload (M := mX7_fairness) (pc := 85) dX7_fairness_85 rfl ?_
        refine wp_lload (M := mX7_fairness) (pc := 87) dX7_fairness_87 rfl ?_
        refine so_S2 (M := mX7_fairness) (pc := 89) cs_X7_fairness_259 rfl rfl (LE rfl) (LE rfl) dX7_fairness_89 ?_
        rw [hR.f0]
        refine sp_X7_divisor (hf hne).1 (hf hne).2.1 ?_
        refine kL ?_
        refine so_lstore (M := mX7_fairness) (pc := 92) (lo' := [_, _, _, _, _, _, _, _, _, _, _, _]) dX7_fairness_92 (LE rfl) (LE rfl) (Or.inr rfl) rfl ?_
        refine wp_iload_n (M := mX7_fairness) (pc := 94) dX7_fairness_94 rfl ?_
        refine wp_if_eq (M := mX7_fairness) (pc := 95) (tgt := 106) dX7_fairness_95 rfl (fun t95 => ?_) (fun f95 => ?_)
        · refine wp_lload (M := mX7_fairness) (pc := 106) dX7_fairness_106 rfl ?_
          refine wp_lload (M := mX7_fairness) (pc := 108) dX7_fairness_108 rfl ?_
          refine wp_ldiv (M := mX7_fairness) (pc := 110) dX7_fairness_110 (hf hne).2.2 ?_
          refine wp_lreturn (M := mX7_fairness) (pc := 111) rfl dX7_fairness_111 ?_
          first
          | (rw [faiR, if_neg hne, if_pos t95] at k; exact k)
          | (rw [faiR, if_neg hne, if_neg f95] at k; exact k)
          | fail "leaf"
        · refine wp_lload (M := mX7_fairness) (pc := 98) dX7_fairness_98 rfl ?_
          refine wp_lload (M := mX7_fairness) (pc := 100) dX7_fairness_100 rfl ?_
          refine wp_ldiv (M := mX7_fairness) (pc := 102) dX7_fairness_102 (hf hne).2.2 ?_
          refine wp_goto (M := mX7_fairness) (pc := 103) (tgt := 111) dX7_fairness_103 rfl ?_
          refine wp_lreturn (M := mX7_fairness) (pc := 111) rfl dX7_fairness_111 ?_
          first
          | (rw [faiR, if_neg hne, if_pos t95] at k; exact k)
          | (rw [faiR, if_neg hne, if_neg f95] at k; exact k)
          | fail "leaf"
      · have heq : fsm (xA X) (sN (xA X)) = 0 := (lg_cmp_eq _ _).mp f63
        refine wp_lconst (M := mX7_fairness) (pc := 66) (v := 1) dX7_fairness_66 cl_1 ?_
        refine wp_lreturn (M := mX7_fairness) (pc := 67) rfl dX7_fairness_67 ?_
        rw [faiR, if_pos heq] at k
        exact k
    · rw [hR.f0] at f21
      have hlt := n_lt ht (by omega) f21
      refine wp_aload_n (M := mX7_fairness) (pc := 24) dX7_fairness_24 rfl ?_
      refine wp_getR (M := mX7_fairness) (pc := 25) fa_X7_7 rfl dX7_fairness_25 (by first | exact Hm.k | exact Hm.a rfl | fail "kd") (Hm.r rfl) ?_
      refine wp_iload (M := mX7_fairness) (pc := 28) dX7_fairness_28 rfl ?_
      refine so_S1 (M := mX7_fairness) (pc := 30) cs_X7_fairness_90 rfl rfl (LE rfl) (LE rfl) dX7_fairness_30 ?_
      refine sp_X7_at ?_
      refine kI ?_
      refine wp_iconst (M := mX7_fairness) (pc := 33) (v := 5) dX7_fairness_33 ci_5 ?_
      refine wp_iadd (M := mX7_fairness) (pc := 34) dX7_fairness_34 ?_
      refine wr_iaload (M := mX7_fairness) (pc := 35) dX7_fairness_35 (by first | exact Hm.k | exact Hm.a rfl | fail "kd") (ia rfl (show (5 : Int32) = nI 5 from rfl)) (by omega) (by decide) ?_
      refine wp_i2l (M := mX7_fairness) (pc := 36) dX7_fairness_36 ?_
      refine so_lstore (M := mX7_fairness) (pc := 37) (lo' := [_, _, _, _, _, _, _, _, _, _, _, _]) dX7_fairness_37 (LE rfl) (LE rfl) (Or.inr rfl) rfl ?_
      refine wp_lload_n (M := mX7_fairness) (pc := 39) dX7_fairness_39 rfl ?_
      refine wp_lload (M := mX7_fairness) (pc := 40) dX7_fairness_40 rfl ?_
      refine wp_ladd (M := mX7_fairness) (pc := 42) dX7_fairness_42 ?_
      refine so_lstore_n (M := mX7_fairness) (pc := 43) (lo' := [_, _, _, _, _, _, _, _, _, _, _, _]) dX7_fairness_43 (LE rfl) (LE rfl) (Or.inr rfl) rfl ?_
      refine wp_lload (M := mX7_fairness) (pc := 44) dX7_fairness_44 rfl ?_
      refine wp_lload (M := mX7_fairness) (pc := 46) dX7_fairness_46 rfl ?_
      refine wp_lload (M := mX7_fairness) (pc := 48) dX7_fairness_48 rfl ?_
      refine wp_lmul (M := mX7_fairness) (pc := 50) dX7_fairness_50 ?_
      refine wp_ladd (M := mX7_fairness) (pc := 51) dX7_fairness_51 ?_
      refine so_lstore (M := mX7_fairness) (pc := 52) (lo' := [_, _, _, _, _, _, _, _, _, _, _, _]) dX7_fairness_52 (LE rfl) (LE rfl) (Or.inr rfl) rfl ?_
      refine so_iinc (M := mX7_fairness) (pc := 54) (lo' := [_, _, _, _, _, _, _, _, _, _, _, _]) dX7_fairness_54 rfl ci_1 (LE rfl) rfl ?_
      refine wp_goto (M := mX7_fairness) (pc := 57) (tgt := 13) dX7_fairness_57 rfl ?_
      rw [show nI t + 1 = nI (t + 1) from nI_1 t, hR.tF hlt (by decide)]
      exact ih (t + 1) _ (by omega) (by omega) trivial
set_option maxHeartbeats 4000000 in
set_option maxRecDepth 100000 in
theorem sp_X7_fairness {me : Nat} {ad : Nat → Nat} {X : Abs} {v : Int32} (H : WM h me ad X) (hf : okFa (xA X)) (k1 : ∀ h', WM h' me ad X → gi h' me 0 = 0 → Ow me h h' → Q (.inl (some (.long (faiR (xA X) v)))) h') : WPx E mX7_fairness 0 [some (.ref me), some (.int v), none, none, none, none, none, none, none, none, none, none] [] (0, 0) h Q := by
  have Hm := H.1
  have hR := H.2.1
  have n6 := hR.n6
  have n12 := hR.n12
  refine wp_aload_n (M := mX7_fairness) (pc := 0) dX7_fairness_0 rfl ?_
  refine wp_iconst (M := mX7_fairness) (pc := 1) (v := 0) dX7_fairness_1 ci_0 ?_
  refine wp_putI (M := mX7_fairness) (pc := 2) fa_X7_51 (Or.inl rfl) dX7_fairness_2 Hm.k ?_
  refine wp_lconst (M := mX7_fairness) (pc := 5) (v := 0) dX7_fairness_5 cl_0 ?_
  refine so_lstore_n (M := mX7_fairness) (pc := 6) (lo' := [_, _, _, _, _, _, _, _, _, _, _, _]) dX7_fairness_6 (LE rfl) (LE rfl) (Or.inr rfl) rfl ?_
  refine wp_lconst (M := mX7_fairness) (pc := 7) (v := 0) dX7_fairness_7 cl_0 ?_
  refine so_lstore (M := mX7_fairness) (pc := 8) (lo' := [_, _, _, _, _, _, _, _, _, _, _, _]) dX7_fairness_8 (LE rfl) (LE rfl) (Or.inr rfl) rfl ?_
  refine wp_iconst (M := mX7_fairness) (pc := 10) (v := 0) dX7_fairness_10 ci_0 ?_
  refine so_istore (M := mX7_fairness) (pc := 11) (lo' := [_, _, _, _, _, _, _, _, _, _, _, _]) dX7_fairness_11 (LE rfl) (LE rfl) (Or.inr rfl) rfl ?_
  exact lp_X7_fairness H.ref hf (k1 _ H.ref gi_si_same (Fr.si Hm.t)) (sN (xA X) + 1) 0 none (by omega) (by omega) trivial
set_option maxHeartbeats 4000000 in
set_option maxRecDepth 100000 in
theorem sp_X7_wealth {me : Nat} {ad : Nat → Nat} {A : Sta} {t : Nat} (Hm : MoL h me ad) (hR : RepR (gi h (ad 1)) A) (ht : t < sN A) (k : Q (.inl (some (.long (wlR A t)))) h) : WPx E mX7_wealth 0 [some (.ref me), some (.int (nI t)), none, none] [] (0, 0) h Q := by
  have n6 := hR.n6
  refine wp_aload_n (M := mX7_wealth) (pc := 0) dX7_wealth_0 rfl ?_
  refine wp_getR (M := mX7_wealth) (pc := 1) fa_X7_7 rfl dX7_wealth_1 (by first | exact Hm.k | exact Hm.a rfl | fail "kd") (Hm.r rfl) ?_
  refine wp_bipush (M := mX7_wealth) (pc := 4) (v := 7) dX7_wealth_4 cb_7 ?_
  refine wr_iaload (M := mX7_wealth) (pc := 6) dX7_wealth_6 (by first | exact Hm.k | exact Hm.a rfl | fail "kd") (show (7 : Int32) = nI 7 from rfl) (by omega) (by decide) ?_
  refine wp_bipush (M := mX7_wealth) (pc := 7) (v := -9) dX7_wealth_7 cb_m9 ?_
  refine wp_icmp_ne (M := mX7_wealth) (pc := 9) (tgt := 16) dX7_wealth_9 rfl (fun t9 => ?_) (fun f9 => ?_)
  · rw [hR.f7] at t9
    refine wp_aload_n (M := mX7_wealth) (pc := 16) dX7_wealth_16 rfl ?_
    refine wp_getR (M := mX7_wealth) (pc := 17) fa_X7_7 rfl dX7_wealth_17 (by first | exact Hm.k | exact Hm.a rfl | fail "kd") (Hm.r rfl) ?_
    refine wp_bipush (M := mX7_wealth) (pc := 20) (v := 7) dX7_wealth_20 cb_7 ?_
    refine wr_iaload (M := mX7_wealth) (pc := 22) dX7_wealth_22 (by first | exact Hm.k | exact Hm.a rfl | fail "kd") (show (7 : Int32) = nI 7 from rfl) (by omega) (by decide) ?_
    refine wp_i2l (M := mX7_wealth) (pc := 23) dX7_wealth_23 ?_
    refine so_lstore_n (M := mX7_wealth) (pc := 24) (lo' := [_, _, _, _]) dX7_wealth_24 (LE rfl) (LE rfl) (Or.inr rfl) rfl ?_
    refine wp_aload_n (M := mX7_wealth) (pc := 25) dX7_wealth_25 rfl ?_
    refine wp_getR (M := mX7_wealth) (pc := 26) fa_X7_7 rfl dX7_wealth_26 (by first | exact Hm.k | exact Hm.a rfl | fail "kd") (Hm.r rfl) ?_
    refine wp_iload_n (M := mX7_wealth) (pc := 29) dX7_wealth_29 rfl ?_
    refine so_S1 (M := mX7_wealth) (pc := 30) cs_X7_wealth_90 rfl rfl (LE rfl) (LE rfl) dX7_wealth_30 ?_
    refine sp_X7_at ?_
    refine kI ?_
    refine wp_iconst (M := mX7_wealth) (pc := 33) (v := 4) dX7_wealth_33 ci_4 ?_
    refine wp_iadd (M := mX7_wealth) (pc := 34) dX7_wealth_34 ?_
    refine wr_iaload (M := mX7_wealth) (pc := 35) dX7_wealth_35 (by first | exact Hm.k | exact Hm.a rfl | fail "kd") (ia rfl (show (4 : Int32) = nI 4 from rfl)) (by omega) (by decide) ?_
    refine wp_aload_n (M := mX7_wealth) (pc := 36) dX7_wealth_36 rfl ?_
    refine wp_getR (M := mX7_wealth) (pc := 37) fa_X7_7 rfl dX7_wealth_37 (by first | exact Hm.k | exact Hm.a rfl | fail "kd") (Hm.r rfl) ?_
    refine wp_iload_n (M := mX7_wealth) (pc := 40) dX7_wealth_40 rfl ?_
    refine wp_iconst (M := mX7_wealth) (pc := 41) (v := 0) dX7_wealth_41 ci_0 ?_
    refine wp_iconst (M := mX7_wealth) (pc := 42) (v := 1) dX7_wealth_42 ci_1 ?_
    refine so_S4 (M := mX7_wealth) (pc := 43) cs_X7_wealth_122 rfl rfl (LE rfl) (LE rfl) dX7_wealth_43 ?_
    refine sp_X7_inBook (kn := 0) (c := 1) (Hm.a rfl) hR (by omega) (by decide) ?_
    rw [gk_c]
    refine kI ?_
    refine wp_iadd (M := mX7_wealth) (pc := 46) dX7_wealth_46 ?_
    refine wp_i2l (M := mX7_wealth) (pc := 47) dX7_wealth_47 ?_
    refine wp_lload_n (M := mX7_wealth) (pc := 48) dX7_wealth_48 rfl ?_
    refine wp_aload_n (M := mX7_wealth) (pc := 49) dX7_wealth_49 rfl ?_
    refine wp_getR (M := mX7_wealth) (pc := 50) fa_X7_7 rfl dX7_wealth_50 (by first | exact Hm.k | exact Hm.a rfl | fail "kd") (Hm.r rfl) ?_
    refine wp_iload_n (M := mX7_wealth) (pc := 53) dX7_wealth_53 rfl ?_
    refine so_S2 (M := mX7_wealth) (pc := 54) cs_X7_wealth_179 rfl rfl (LE rfl) (LE rfl) dX7_wealth_54 ?_
    refine sp_X7_credits (Hm.a rfl) hR ht ?_
    refine kI ?_
    refine wp_aload_n (M := mX7_wealth) (pc := 57) dX7_wealth_57 rfl ?_
    refine wp_getR (M := mX7_wealth) (pc := 58) fa_X7_7 rfl dX7_wealth_58 (by first | exact Hm.k | exact Hm.a rfl | fail "kd") (Hm.r rfl) ?_
    refine wp_iload_n (M := mX7_wealth) (pc := 61) dX7_wealth_61 rfl ?_
    refine wp_iconst (M := mX7_wealth) (pc := 62) (v := 1) dX7_wealth_62 ci_1 ?_
    refine wp_iconst (M := mX7_wealth) (pc := 63) (v := 0) dX7_wealth_63 ci_0 ?_
    refine so_S4 (M := mX7_wealth) (pc := 64) cs_X7_wealth_122 rfl rfl (LE rfl) (LE rfl) dX7_wealth_64 ?_
    refine sp_X7_inBook (kn := 1) (c := 0) (Hm.a rfl) hR (by omega) (by decide) ?_
    rw [gk_q]
    refine kI ?_
    refine wp_iadd (M := mX7_wealth) (pc := 67) dX7_wealth_67 ?_
    refine wp_aload_n (M := mX7_wealth) (pc := 68) dX7_wealth_68 rfl ?_
    refine wp_getR (M := mX7_wealth) (pc := 69) fa_X7_7 rfl dX7_wealth_69 (by first | exact Hm.k | exact Hm.a rfl | fail "kd") (Hm.r rfl) ?_
    refine wp_iload_n (M := mX7_wealth) (pc := 72) dX7_wealth_72 rfl ?_
    refine so_S2 (M := mX7_wealth) (pc := 73) cs_X7_wealth_126 rfl rfl (LE rfl) (LE rfl) dX7_wealth_73 ?_
    refine sp_X7_debts (Hm.a rfl) hR ht ?_
    refine kI ?_
    refine wp_isub (M := mX7_wealth) (pc := 76) dX7_wealth_76 ?_
    refine wp_i2l (M := mX7_wealth) (pc := 77) dX7_wealth_77 ?_
    refine wp_lmul (M := mX7_wealth) (pc := 78) dX7_wealth_78 ?_
    refine wp_ladd (M := mX7_wealth) (pc := 79) dX7_wealth_79 ?_
    refine wp_lreturn (M := mX7_wealth) (pc := 80) rfl dX7_wealth_80 ?_
    rw [hR.tF ht (by decide)]
    first
    | (rw [hR.f7]; rw [wlR, if_neg t9] at k; exact k)
    | (rw [wlR, if_pos f9] at k; exact k)
    | fail "leaf"
  · rw [hR.f7] at f9
    refine wp_lconst (M := mX7_wealth) (pc := 12) (v := 0) dX7_wealth_12 cl_0 ?_
    refine wp_goto (M := mX7_wealth) (pc := 13) (tgt := 24) dX7_wealth_13 rfl ?_
    refine so_lstore_n (M := mX7_wealth) (pc := 24) (lo' := [_, _, _, _]) dX7_wealth_24 (LE rfl) (LE rfl) (Or.inr rfl) rfl ?_
    refine wp_aload_n (M := mX7_wealth) (pc := 25) dX7_wealth_25 rfl ?_
    refine wp_getR (M := mX7_wealth) (pc := 26) fa_X7_7 rfl dX7_wealth_26 (by first | exact Hm.k | exact Hm.a rfl | fail "kd") (Hm.r rfl) ?_
    refine wp_iload_n (M := mX7_wealth) (pc := 29) dX7_wealth_29 rfl ?_
    refine so_S1 (M := mX7_wealth) (pc := 30) cs_X7_wealth_90 rfl rfl (LE rfl) (LE rfl) dX7_wealth_30 ?_
    refine sp_X7_at ?_
    refine kI ?_
    refine wp_iconst (M := mX7_wealth) (pc := 33) (v := 4) dX7_wealth_33 ci_4 ?_
    refine wp_iadd (M := mX7_wealth) (pc := 34) dX7_wealth_34 ?_
    refine wr_iaload (M := mX7_wealth) (pc := 35) dX7_wealth_35 (by first | exact Hm.k | exact Hm.a rfl | fail "kd") (ia rfl (show (4 : Int32) = nI 4 from rfl)) (by omega) (by decide) ?_
    refine wp_aload_n (M := mX7_wealth) (pc := 36) dX7_wealth_36 rfl ?_
    refine wp_getR (M := mX7_wealth) (pc := 37) fa_X7_7 rfl dX7_wealth_37 (by first | exact Hm.k | exact Hm.a rfl | fail "kd") (Hm.r rfl) ?_
    refine wp_iload_n (M := mX7_wealth) (pc := 40) dX7_wealth_40 rfl ?_
    refine wp_iconst (M := mX7_wealth) (pc := 41) (v := 0) dX7_wealth_41 ci_0 ?_
    refine wp_iconst (M := mX7_wealth) (pc := 42) (v := 1) dX7_wealth_42 ci_1 ?_
    refine so_S4 (M := mX7_wealth) (pc := 43) cs_X7_wealth_122 rfl rfl (LE rfl) (LE rfl) dX7_wealth_43 ?_
    refine sp_X7_inBook (kn := 0) (c := 1) (Hm.a rfl) hR (by omega) (by decide) ?_
    rw [gk_c]
    refine kI ?_
    refine wp_iadd (M := mX7_wealth) (pc := 46) dX7_wealth_46 ?_
    refine wp_i2l (M := mX7_wealth) (pc := 47) dX7_wealth_47 ?_
    refine wp_lload_n (M := mX7_wealth) (pc := 48) dX7_wealth_48 rfl ?_
    refine wp_aload_n (M := mX7_wealth) (pc := 49) dX7_wealth_49 rfl ?_
    refine wp_getR (M := mX7_wealth) (pc := 50) fa_X7_7 rfl dX7_wealth_50 (by first | exact Hm.k | exact Hm.a rfl | fail "kd") (Hm.r rfl) ?_
    refine wp_iload_n (M := mX7_wealth) (pc := 53) dX7_wealth_53 rfl ?_
    refine so_S2 (M := mX7_wealth) (pc := 54) cs_X7_wealth_179 rfl rfl (LE rfl) (LE rfl) dX7_wealth_54 ?_
    refine sp_X7_credits (Hm.a rfl) hR ht ?_
    refine kI ?_
    refine wp_aload_n (M := mX7_wealth) (pc := 57) dX7_wealth_57 rfl ?_
    refine wp_getR (M := mX7_wealth) (pc := 58) fa_X7_7 rfl dX7_wealth_58 (by first | exact Hm.k | exact Hm.a rfl | fail "kd") (Hm.r rfl) ?_
    refine wp_iload_n (M := mX7_wealth) (pc := 61) dX7_wealth_61 rfl ?_
    refine wp_iconst (M := mX7_wealth) (pc := 62) (v := 1) dX7_wealth_62 ci_1 ?_
    refine wp_iconst (M := mX7_wealth) (pc := 63) (v := 0) dX7_wealth_63 ci_0 ?_
    refine so_S4 (M := mX7_wealth) (pc := 64) cs_X7_wealth_122 rfl rfl (LE rfl) (LE rfl) dX7_wealth_64 ?_
    refine sp_X7_inBook (kn := 1) (c := 0) (Hm.a rfl) hR (by omega) (by decide) ?_
    rw [gk_q]
    refine kI ?_
    refine wp_iadd (M := mX7_wealth) (pc := 67) dX7_wealth_67 ?_
    refine wp_aload_n (M := mX7_wealth) (pc := 68) dX7_wealth_68 rfl ?_
    refine wp_getR (M := mX7_wealth) (pc := 69) fa_X7_7 rfl dX7_wealth_69 (by first | exact Hm.k | exact Hm.a rfl | fail "kd") (Hm.r rfl) ?_
    refine wp_iload_n (M := mX7_wealth) (pc := 72) dX7_wealth_72 rfl ?_
    refine so_S2 (M := mX7_wealth) (pc := 73) cs_X7_wealth_126 rfl rfl (LE rfl) (LE rfl) dX7_wealth_73 ?_
    refine sp_X7_debts (Hm.a rfl) hR ht ?_
    refine kI ?_
    refine wp_isub (M := mX7_wealth) (pc := 76) dX7_wealth_76 ?_
    refine wp_i2l (M := mX7_wealth) (pc := 77) dX7_wealth_77 ?_
    refine wp_lmul (M := mX7_wealth) (pc := 78) dX7_wealth_78 ?_
    refine wp_ladd (M := mX7_wealth) (pc := 79) dX7_wealth_79 ?_
    refine wp_lreturn (M := mX7_wealth) (pc := 80) rfl dX7_wealth_80 ?_
    rw [hR.tF ht (by decide)]
    first
    | (rw [hR.f7]; rw [wlR, if_neg t9] at k; exact k)
    | (rw [wlR, if_pos f9] at k; exact k)
    | fail "leaf"
set_option maxHeartbeats 4000000 in
set_option maxRecDepth 100000 in
theorem l1_X7_wealthiest {me : Nat} {ad : Nat → Nat} {X : Abs} {t : Nat} {w : Int32} {x2 : Int32} {h0 : PH} (H : WM h0 me ad X) (htn : t < sN (xA X)) (kk : WPx E mX7_wealthiest 108 [some (.ref me), some (.int w), some (.int x2), some (.int (nI t)), some (.int (nI (rkR (xA X) t (sN (xA X))))), some (.int (nI (sN (xA X))))] [] (0, 0) h0 Q) : ∀ (m : Nat) (o : Nat), sN (xA X) - o < m → (o ≤ sN (xA X)) → WPx E mX7_wealthiest 45 [some (.ref me), some (.int w), some (.int x2), some (.int (nI t)), some (.int (nI (rkR (xA X) t o))), some (.int (nI o))] [] (0, 0) h0 Q := by
  intro m
  induction m with
  | zero => intro o hm; exact absurd hm (Nat.not_lt_zero _)
  | succ m ih =>
    intro o hm ho
    have Hm := H.1
    have hR := H.2.1
    have n6 := hR.n6
    refine wp_iload (M := mX7_wealthiest) (pc := 45) dX7_wealthiest_45 rfl ?_
    refine wp_aload_n (M := mX7_wealthiest) (pc := 47) dX7_wealthiest_47 rfl ?_
    refine wp_getR (M := mX7_wealthiest) (pc := 48) fa_X7_7 rfl dX7_wealthiest_48 (by first | exact Hm.k | exact Hm.a rfl | fail "kd") (Hm.r rfl) ?_
    refine wp_iconst (M := mX7_wealthiest) (pc := 51) (v := 0) dX7_wealthiest_51 ci_0 ?_
    refine wr_iaload (M := mX7_wealthiest) (pc := 52) dX7_wealthiest_52 (by first | exact Hm.k | exact Hm.a rfl | fail "kd") (show (0 : Int32) = nI 0 from rfl) (by omega) (by decide) ?_
    refine wp_icmp_ge (M := mX7_wealthiest) (pc := 53) (tgt := 108) dX7_wealthiest_53 rfl (fun t53 => ?_) (fun f53 => ?_)
    · rw [hR.f0] at t53
      have e2 := n_ge ho (by omega) t53
      subst e2
      exact kk
    · rw [hR.f0] at f53
      have hlt := n_lt ho (by omega) f53
      refine wp_iload (M := mX7_wealthiest) (pc := 56) dX7_wealthiest_56 rfl ?_
      refine wp_aload_n (M := mX7_wealthiest) (pc := 58) dX7_wealthiest_58 rfl ?_
      refine wp_iload (M := mX7_wealthiest) (pc := 59) dX7_wealthiest_59 rfl ?_
      refine so_V1 (M := mX7_wealthiest) (pc := 61) cs_X7_wealthiest_263 rfl rfl (LE rfl) (LE rfl) dX7_wealthiest_61 (by first | exact Hm.k | exact Hm.a rfl | fail "kd") ?_
      refine sp_X7_wealth Hm hR hlt ?_
      refine kL ?_
      refine wp_aload_n (M := mX7_wealthiest) (pc := 64) dX7_wealthiest_64 rfl ?_
      refine wp_iload_n (M := mX7_wealthiest) (pc := 65) dX7_wealthiest_65 rfl ?_
      refine so_V1 (M := mX7_wealthiest) (pc := 66) cs_X7_wealthiest_263 rfl rfl (LE rfl) (LE rfl) dX7_wealthiest_66 (by first | exact Hm.k | exact Hm.a rfl | fail "kd") ?_
      refine sp_X7_wealth Hm hR htn ?_
      refine kL ?_
      refine wp_lcmp (M := mX7_wealthiest) (pc := 69) dX7_wealthiest_69 ?_
      refine wp_if_gt (M := mX7_wealthiest) (pc := 70) (tgt := 94) dX7_wealthiest_70 rfl (fun t70 => ?_) (fun f70 => ?_)
      · refine wp_iconst (M := mX7_wealthiest) (pc := 94) (v := 1) dX7_wealthiest_94 ci_1 ?_
        refine wp_goto (M := mX7_wealthiest) (pc := 95) (tgt := 99) dX7_wealthiest_95 rfl ?_
        refine wp_iadd (M := mX7_wealthiest) (pc := 99) dX7_wealthiest_99 ?_
        refine so_istore (M := mX7_wealthiest) (pc := 100) (lo' := [_, _, _, _, _, _]) dX7_wealthiest_100 (LE rfl) (LE rfl) (Or.inr rfl) rfl ?_
        refine so_iinc (M := mX7_wealthiest) (pc := 102) (lo' := [_, _, _, _, _, _]) dX7_wealthiest_102 rfl ci_1 (LE rfl) rfl ?_
        refine wp_goto (M := mX7_wealthiest) (pc := 105) (tgt := 45) dX7_wealthiest_105 rfl ?_
        rw [show nI o + 1 = nI (o + 1) from nI_1 o]
        have hz := ih (o + 1) (by omega) (by omega)
        first
        | (rw [rkR_y (Or.inl ((lg_cmp_gt _ _).mp t70))] at hz; rw [show nI (rkR (xA X) t o) + 1 = nI (rkR (xA X) t o + 1) from nI_1 _]; exact hz)
        | (rw [rkR_n (fun q => q.elim (fun q => f70 ((lg_cmp_gt _ _).mpr q)) (fun q => t85 ((lg_cmp_eq _ _).mpr q.1)))] at hz; rw [Int32.add_zero]; exact hz)
        | (rw [rkR_n (fun q => q.elim (fun q => f70 ((lg_cmp_gt _ _).mpr q)) (fun q => absurd ((i_le (by omega) (by omega)).mp t91) (by omega)))] at hz; rw [Int32.add_zero]; exact hz)
        | (rw [rkR_y (Or.inr ⟨(lg_cmp_eq _ _).mp f85, Nat.lt_of_not_le (fun q => f91 ((i_le (by omega) (by omega)).mpr q))⟩)] at hz; rw [show nI (rkR (xA X) t o) + 1 = nI (rkR (xA X) t o + 1) from nI_1 _]; exact hz)
        | fail "leaf"
      · refine wp_aload_n (M := mX7_wealthiest) (pc := 73) dX7_wealthiest_73 rfl ?_
        refine wp_iload (M := mX7_wealthiest) (pc := 74) dX7_wealthiest_74 rfl ?_
        refine so_V1 (M := mX7_wealthiest) (pc := 76) cs_X7_wealthiest_263 rfl rfl (LE rfl) (LE rfl) dX7_wealthiest_76 (by first | exact Hm.k | exact Hm.a rfl | fail "kd") ?_
        refine sp_X7_wealth Hm hR hlt ?_
        refine kL ?_
        refine wp_aload_n (M := mX7_wealthiest) (pc := 79) dX7_wealthiest_79 rfl ?_
        refine wp_iload_n (M := mX7_wealthiest) (pc := 80) dX7_wealthiest_80 rfl ?_
        refine so_V1 (M := mX7_wealthiest) (pc := 81) cs_X7_wealthiest_263 rfl rfl (LE rfl) (LE rfl) dX7_wealthiest_81 (by first | exact Hm.k | exact Hm.a rfl | fail "kd") ?_
        refine sp_X7_wealth Hm hR htn ?_
        refine kL ?_
        refine wp_lcmp (M := mX7_wealthiest) (pc := 84) dX7_wealthiest_84 ?_
        refine wp_if_ne (M := mX7_wealthiest) (pc := 85) (tgt := 98) dX7_wealthiest_85 rfl (fun t85 => ?_) (fun f85 => ?_)
        · refine wp_iconst (M := mX7_wealthiest) (pc := 98) (v := 0) dX7_wealthiest_98 ci_0 ?_
          refine wp_iadd (M := mX7_wealthiest) (pc := 99) dX7_wealthiest_99 ?_
          refine so_istore (M := mX7_wealthiest) (pc := 100) (lo' := [_, _, _, _, _, _]) dX7_wealthiest_100 (LE rfl) (LE rfl) (Or.inr rfl) rfl ?_
          refine so_iinc (M := mX7_wealthiest) (pc := 102) (lo' := [_, _, _, _, _, _]) dX7_wealthiest_102 rfl ci_1 (LE rfl) rfl ?_
          refine wp_goto (M := mX7_wealthiest) (pc := 105) (tgt := 45) dX7_wealthiest_105 rfl ?_
          rw [show nI o + 1 = nI (o + 1) from nI_1 o]
          have hz := ih (o + 1) (by omega) (by omega)
          first
          | (rw [rkR_y (Or.inl ((lg_cmp_gt _ _).mp t70))] at hz; rw [show nI (rkR (xA X) t o) + 1 = nI (rkR (xA X) t o + 1) from nI_1 _]; exact hz)
          | (rw [rkR_n (fun q => q.elim (fun q => f70 ((lg_cmp_gt _ _).mpr q)) (fun q => t85 ((lg_cmp_eq _ _).mpr q.1)))] at hz; rw [Int32.add_zero]; exact hz)
          | (rw [rkR_n (fun q => q.elim (fun q => f70 ((lg_cmp_gt _ _).mpr q)) (fun q => absurd ((i_le (by omega) (by omega)).mp t91) (by omega)))] at hz; rw [Int32.add_zero]; exact hz)
          | (rw [rkR_y (Or.inr ⟨(lg_cmp_eq _ _).mp f85, Nat.lt_of_not_le (fun q => f91 ((i_le (by omega) (by omega)).mpr q))⟩)] at hz; rw [show nI (rkR (xA X) t o) + 1 = nI (rkR (xA X) t o + 1) from nI_1 _]; exact hz)
          | fail "leaf"
        · refine wp_iload (M := mX7_wealthiest) (pc := 88) dX7_wealthiest_88 rfl ?_
          refine wp_iload_n (M := mX7_wealthiest) (pc := 90) dX7_wealthiest_90 rfl ?_
          refine wp_icmp_ge (M := mX7_wealthiest) (pc := 91) (tgt := 98) dX7_wealthiest_91 rfl (fun t91 => ?_) (fun f91 => ?_)
          · refine wp_iconst (M := mX7_wealthiest) (pc := 98) (v := 0) dX7_wealthiest_98 ci_0 ?_
            refine wp_iadd (M := mX7_wealthiest) (pc := 99) dX7_wealthiest_99 ?_
            refine so_istore (M := mX7_wealthiest) (pc := 100) (lo' := [_, _, _, _, _, _]) dX7_wealthiest_100 (LE rfl) (LE rfl) (Or.inr rfl) rfl ?_
            refine so_iinc (M := mX7_wealthiest) (pc := 102) (lo' := [_, _, _, _, _, _]) dX7_wealthiest_102 rfl ci_1 (LE rfl) rfl ?_
            refine wp_goto (M := mX7_wealthiest) (pc := 105) (tgt := 45) dX7_wealthiest_105 rfl ?_
            rw [show nI o + 1 = nI (o + 1) from nI_1 o]
            have hz := ih (o + 1) (by omega) (by omega)
            first
            | (rw [rkR_y (Or.inl ((lg_cmp_gt _ _).mp t70))] at hz; rw [show nI (rkR (xA X) t o) + 1 = nI (rkR (xA X) t o + 1) from nI_1 _]; exact hz)
            | (rw [rkR_n (fun q => q.elim (fun q => f70 ((lg_cmp_gt _ _).mpr q)) (fun q => t85 ((lg_cmp_eq _ _).mpr q.1)))] at hz; rw [Int32.add_zero]; exact hz)
            | (rw [rkR_n (fun q => q.elim (fun q => f70 ((lg_cmp_gt _ _).mpr q)) (fun q => absurd ((i_le (by omega) (by omega)).mp t91) (by omega)))] at hz; rw [Int32.add_zero]; exact hz)
            | (rw [rkR_y (Or.inr ⟨(lg_cmp_eq _ _).mp f85, Nat.lt_of_not_le (fun q => f91 ((i_le (by omega) (by omega)).mpr q))⟩)] at hz; rw [show nI (rkR (xA X) t o) + 1 = nI (rkR (xA X) t o + 1) from nI_1 _]; exact hz)
            | fail "leaf"
          · refine wp_iconst (M := mX7_wealthiest) (pc := 94) (v := 1) dX7_wealthiest_94 ci_1 ?_
            refine wp_goto (M := mX7_wealthiest) (pc := 95) (tgt := 99) dX7_wealthiest_95 rfl ?_
            refine wp_iadd (M := mX7_wealthiest) (pc := 99) dX7_wealthiest_99 ?_
            refine so_istore (M := mX7_wealthiest) (pc := 100) (lo' := [_, _, _, _, _, _]) dX7_wealthiest_100 (LE rfl) (LE rfl) (Or.inr rfl) rfl ?_
            refine so_iinc (M := mX7_wealthiest) (pc := 102) (lo' := [_, _, _, _, _, _]) dX7_wealthiest_102 rfl ci_1 (LE rfl) rfl ?_
            refine wp_goto (M := mX7_wealthiest) (pc := 105) (tgt := 45) dX7_wealthiest_105 rfl ?_
            rw [show nI o + 1 = nI (o + 1) from nI_1 o]
            have hz := ih (o + 1) (by omega) (by omega)
            first
            | (rw [rkR_y (Or.inl ((lg_cmp_gt _ _).mp t70))] at hz; rw [show nI (rkR (xA X) t o) + 1 = nI (rkR (xA X) t o + 1) from nI_1 _]; exact hz)
            | (rw [rkR_n (fun q => q.elim (fun q => f70 ((lg_cmp_gt _ _).mpr q)) (fun q => t85 ((lg_cmp_eq _ _).mpr q.1)))] at hz; rw [Int32.add_zero]; exact hz)
            | (rw [rkR_n (fun q => q.elim (fun q => f70 ((lg_cmp_gt _ _).mpr q)) (fun q => absurd ((i_le (by omega) (by omega)).mp t91) (by omega)))] at hz; rw [Int32.add_zero]; exact hz)
            | (rw [rkR_y (Or.inr ⟨(lg_cmp_eq _ _).mp f85, Nat.lt_of_not_le (fun q => f91 ((i_le (by omega) (by omega)).mpr q))⟩)] at hz; rw [show nI (rkR (xA X) t o) + 1 = nI (rkR (xA X) t o + 1) from nI_1 _]; exact hz)
            | fail "leaf"
set_option maxHeartbeats 4000000 in
set_option maxRecDepth 100000 in
theorem l2_X7_wealthiest {me : Nat} {ad : Nat → Nat} {X : Abs} {i : Nat} {h0 : PH} (H : WM h0 me ad X) (hi9 : i < sN (xA X)) (k : Q (.inl (some (.int (wsR (xA X) i (sN (xA X)))))) h0) : ∀ (m : Nat) (t : Nat) (x4 : Option Value) (x5 : Option Value), sN (xA X) - t < m → (t ≤ sN (xA X)) → WPx E mX7_wealthiest 29 [some (.ref me), some (.int (nI i)), some (.int (wsR (xA X) i t)), some (.int (nI t)), x4, x5] [] (0, 0) h0 Q := by
  intro m
  induction m with
  | zero => intro t x4 x5 hm; exact absurd hm (Nat.not_lt_zero _)
  | succ m ih =>
    intro t x4 x5 hm ht
    have Hm := H.1
    have hR := H.2.1
    have n6 := hR.n6
    refine wp_iload_n (M := mX7_wealthiest) (pc := 29) dX7_wealthiest_29 rfl ?_
    refine wp_aload_n (M := mX7_wealthiest) (pc := 30) dX7_wealthiest_30 rfl ?_
    refine wp_getR (M := mX7_wealthiest) (pc := 31) fa_X7_7 rfl dX7_wealthiest_31 (by first | exact Hm.k | exact Hm.a rfl | fail "kd") (Hm.r rfl) ?_
    refine wp_iconst (M := mX7_wealthiest) (pc := 34) (v := 0) dX7_wealthiest_34 ci_0 ?_
    refine wr_iaload (M := mX7_wealthiest) (pc := 35) dX7_wealthiest_35 (by first | exact Hm.k | exact Hm.a rfl | fail "kd") (show (0 : Int32) = nI 0 from rfl) (by omega) (by decide) ?_
    refine wp_icmp_ge (M := mX7_wealthiest) (pc := 36) (tgt := 126) dX7_wealthiest_36 rfl (fun t36 => ?_) (fun f36 => ?_)
    · rw [hR.f0] at t36
      have e2 := n_ge ht (by omega) t36
      subst e2
      refine wp_iload_n (M := mX7_wealthiest) (pc := 126) dX7_wealthiest_126 rfl ?_
      refine wp_ireturn (M := mX7_wealthiest) (pc := 127) rfl dX7_wealthiest_127 ?_
      exact k
    · rw [hR.f0] at f36
      have hlt := n_lt ht (by omega) f36
      refine wp_iconst (M := mX7_wealthiest) (pc := 39) (v := 0) dX7_wealthiest_39 ci_0 ?_
      refine so_istore (M := mX7_wealthiest) (pc := 40) (lo' := [_, _, _, _, _, _]) dX7_wealthiest_40 (LE rfl) (LE rfl) (Or.inr rfl) rfl ?_
      refine wp_iconst (M := mX7_wealthiest) (pc := 42) (v := 0) dX7_wealthiest_42 ci_0 ?_
      refine so_istore (M := mX7_wealthiest) (pc := 43) (lo' := [_, _, _, _, _, _]) dX7_wealthiest_43 (LE rfl) (LE rfl) (Or.inr rfl) rfl ?_
      refine l1_X7_wealthiest H hlt ?_ (sN (xA X) + 1) 0 (by omega) (by omega)
      have hrk := rkR_le (xA X) t (sN (xA X))
      refine wp_iload (M := mX7_wealthiest) (pc := 108) dX7_wealthiest_108 rfl ?_
      refine wp_iload_n (M := mX7_wealthiest) (pc := 110) dX7_wealthiest_110 rfl ?_
      refine wp_icmp_ne (M := mX7_wealthiest) (pc := 111) (tgt := 118) dX7_wealthiest_111 rfl (fun t111 => ?_) (fun f111 => ?_)
      · refine wp_iload_n (M := mX7_wealthiest) (pc := 118) dX7_wealthiest_118 rfl ?_
        refine so_istore_n (M := mX7_wealthiest) (pc := 119) (lo' := [_, _, _, _, _, _]) dX7_wealthiest_119 (LE rfl) (LE rfl) (Or.inr rfl) rfl ?_
        refine so_iinc (M := mX7_wealthiest) (pc := 120) (lo' := [_, _, _, _, _, _]) dX7_wealthiest_120 rfl ci_1 (LE rfl) rfl ?_
        refine wp_goto (M := mX7_wealthiest) (pc := 123) (tgt := 29) dX7_wealthiest_123 rfl ?_
        first
        | (rw [show nI t + 1 = nI (t + 1) from nI_1 t]
           have hz := fun y z => ih (t + 1) y z (by omega) (by omega)
           rw [wsR_n (fun q => t111 (by rw [q]))] at hz
           exact hz _ _)
        | (rw [show nI t + 1 = nI (t + 1) from nI_1 t]
           have hz := fun y z => ih (t + 1) y z (by omega) (by omega)
           rw [wsR_y ((i_eq (by omega) (by omega)).mp f111)] at hz
           exact hz _ _)
        | fail "leaf"
      · refine wp_iload_n (M := mX7_wealthiest) (pc := 114) dX7_wealthiest_114 rfl ?_
        refine wp_goto (M := mX7_wealthiest) (pc := 115) (tgt := 119) dX7_wealthiest_115 rfl ?_
        refine so_istore_n (M := mX7_wealthiest) (pc := 119) (lo' := [_, _, _, _, _, _]) dX7_wealthiest_119 (LE rfl) (LE rfl) (Or.inr rfl) rfl ?_
        refine so_iinc (M := mX7_wealthiest) (pc := 120) (lo' := [_, _, _, _, _, _]) dX7_wealthiest_120 rfl ci_1 (LE rfl) rfl ?_
        refine wp_goto (M := mX7_wealthiest) (pc := 123) (tgt := 29) dX7_wealthiest_123 rfl ?_
        first
        | (rw [show nI t + 1 = nI (t + 1) from nI_1 t]
           have hz := fun y z => ih (t + 1) y z (by omega) (by omega)
           rw [wsR_n (fun q => t111 (by rw [q]))] at hz
           exact hz _ _)
        | (rw [show nI t + 1 = nI (t + 1) from nI_1 t]
           have hz := fun y z => ih (t + 1) y z (by omega) (by omega)
           rw [wsR_y ((i_eq (by omega) (by omega)).mp f111)] at hz
           exact hz _ _)
        | fail "leaf"
set_option maxHeartbeats 4000000 in
set_option maxRecDepth 100000 in
theorem sp_X7_wealthiest {me : Nat} {ad : Nat → Nat} {X : Abs} {w : Int32} (H : WM h me ad X)  (k1 : ∀ i, i < sN (xA X) → w = nI i → ∀ h', WM h' me ad X → gi h' me 0 = 0 → Ow me h h' → Q (.inl (some (.int (wsR (xA X) i (sN (xA X)))))) h') (k2 : ¬ isT (xA X) w → ∀ h', WM h' me ad X → gi h' me 0 = 1 → Ow me h h' → Q (.inl (some (.int 0))) h') : WPx E mX7_wealthiest 0 [some (.ref me), some (.int w), none, none, none, none] [] (0, 0) h Q := by
  have Hm := H.1
  have hR := H.2.1
  have n6 := hR.n6
  have n12 := hR.n12
  refine wp_aload_n (M := mX7_wealthiest) (pc := 0) dX7_wealthiest_0 rfl ?_
  refine wp_aload_n (M := mX7_wealthiest) (pc := 1) dX7_wealthiest_1 rfl ?_
  refine wp_getR (M := mX7_wealthiest) (pc := 2) fa_X7_7 rfl dX7_wealthiest_2 (by first | exact Hm.k | exact Hm.a rfl | fail "kd") (Hm.r rfl) ?_
  refine wp_iload_n (M := mX7_wealthiest) (pc := 5) dX7_wealthiest_5 rfl ?_
  refine so_S2 (M := mX7_wealthiest) (pc := 6) cs_X7_wealthiest_94 rfl rfl (LE rfl) (LE rfl) dX7_wealthiest_6 ?_
  refine sp_X7_isTenant (Hm.a rfl) hR ?_
  refine kI ?_
  refine wp_if_eq (M := mX7_wealthiest) (pc := 9) (tgt := 16) dX7_wealthiest_9 rfl (fun t9 => ?_) (fun f9 => ?_)
  · refine wp_iconst (M := mX7_wealthiest) (pc := 16) (v := 1) dX7_wealthiest_16 ci_1 ?_
    refine so_V1 (M := mX7_wealthiest) (pc := 17) cs_X7_wealthiest_74 rfl rfl (LE rfl) (LE rfl) dX7_wealthiest_17 Hm.k ?_
    refine sp_X7_refused1 (v := 1) Hm.k (by decide) ?_
    refine kI ?_
    refine wp_if_eq (M := mX7_wealthiest) (pc := 20) (tgt := 25) dX7_wealthiest_20 rfl (fun t20 => ?_) (fun f20 => ?_)
    · exact absurd t20 (by decide)
    · refine wp_iconst (M := mX7_wealthiest) (pc := 23) (v := 0) dX7_wealthiest_23 ci_0 ?_
      refine wp_ireturn (M := mX7_wealthiest) (pc := 24) rfl dX7_wealthiest_24 ?_
      exact k2 (b01_z t9) _ H.ref gi_si_same (Fr.si Hm.t)
  · refine wp_iconst (M := mX7_wealthiest) (pc := 12) (v := 0) dX7_wealthiest_12 ci_0 ?_
    refine wp_goto (M := mX7_wealthiest) (pc := 13) (tgt := 17) dX7_wealthiest_13 rfl ?_
    refine so_V1 (M := mX7_wealthiest) (pc := 17) cs_X7_wealthiest_74 rfl rfl (LE rfl) (LE rfl) dX7_wealthiest_17 Hm.k ?_
    refine sp_X7_refused0 Hm.k ?_
    refine kI ?_
    refine wp_if_eq (M := mX7_wealthiest) (pc := 20) (tgt := 25) dX7_wealthiest_20 rfl (fun t20 => ?_) (fun f20 => ?_)
    · refine wp_gen (P := fun hX => WM hX me ad X ∧ gi hX me 0 = 0 ∧ Ow me h hX) ⟨H.ref, gi_si_same, Fr.si Hm.t⟩ (fun h0 HX => ?_)
      obtain ⟨H, z0, F0⟩ := HX
      have Hm := H.1
      have hR := H.2.1
      obtain ⟨i, hi9, rfl⟩ := b01_n f9
      refine wp_iconst (M := mX7_wealthiest) (pc := 25) (v := 0) dX7_wealthiest_25 ci_0 ?_
      refine so_istore_n (M := mX7_wealthiest) (pc := 26) (lo' := [_, _, _, _, _, _]) dX7_wealthiest_26 (LE rfl) (LE rfl) (Or.inr rfl) rfl ?_
      refine wp_iconst (M := mX7_wealthiest) (pc := 27) (v := 0) dX7_wealthiest_27 ci_0 ?_
      refine so_istore_n (M := mX7_wealthiest) (pc := 28) (lo' := [_, _, _, _, _, _]) dX7_wealthiest_28 (LE rfl) (LE rfl) (Or.inr rfl) rfl ?_
      exact l2_X7_wealthiest H hi9 (k1 i hi9 rfl h0 H z0 F0) (sN (xA X) + 1) 0 none none (by omega) (by omega)
    · exact absurd rfl f20
end SP
