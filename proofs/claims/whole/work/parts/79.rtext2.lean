section SP
variable {E : Ev} {h : PH} {Q : Rt → PH → Prop}
/-- the reader's place and its row may have changed -/
def FrD (me : Nat) (ad : Nat → Nat) (h h' : PH) : Prop := (kd h' = kd h ∧ gr h' = gr h ∧ tg h' = tg h ∧ gl h' = gl h) ∧ (∀ x, x ≠ me → x ≠ ad 11 → gi h' x = gi h x) ∧ (∀ k, k ≠ 10 → gi h' me k = gi h me k)
section
variable {h h' : PH} {me : Nat} {ad : Nat → Nat}
theorem FrD.rf : FrD me ad h h := ⟨⟨rfl, rfl, rfl, rfl⟩, fun _ _ _ => rfl, fun _ _ => rfl⟩
theorem FrD.tr {h1 h2 : PH} (a : FrD me ad h h1) (b : FrD me ad h1 h2) : FrD me ad h h2 := ⟨⟨b.1.1.trans a.1.1, b.1.2.1.trans a.1.2.1, b.1.2.2.1.trans a.1.2.2.1, b.1.2.2.2.trans a.1.2.2.2⟩, fun x x1 x2 => (b.2.1 x x1 x2).trans (a.2.1 x x1 x2), fun k k1 => (b.2.2 k k1).trans (a.2.2 k k1)⟩
theorem FrD.sp {v : Int32} : FrD me ad h (si h me 10 v) := ⟨⟨rfl, rfl, rfl, rfl⟩, fun x x1 _ => gi_si_ne _ _ _ x1, fun k k1 => gi_si_oth k1⟩
theorem FrD.sb {j : Nat} {v : Int32} (Hm : MoL h me ad) : FrD me ad h (si h (ad 11) j v) := ⟨⟨rfl, rfl, rfl, rfl⟩, fun x _ x2 => gi_si_ne _ _ _ x2, fun k _ => by rw [gi_si_ne _ _ _ (Hm.ne (k := 11) rfl).symm]⟩
theorem RF.D (F : RF (ad 11) h h') (Hm : MoL h me ad) : FrD me ad h h' := ⟨⟨F.kd, F.gr, F.tg, F.gl⟩, fun x _ x2 => F.gi x2, fun k _ => by rw [F.gi (Hm.ne (k := 11) rfl).symm]⟩
theorem MoL.D (H : MoL h me ad) (F : FrD me ad h h') : MoL h' me ad := by
  unfold MoL at H ⊢
  rw [F.1.1, F.1.2.1, F.1.2.2.1]
  exact H
theorem TxR.D {s : Nat → Nat} {n : Nat} (H : TxR h me ad s n) (Hm : MoL h me ad) (F : FrD me ad h h') : TxR h' me ad s n := H.co (F.2.2 9 (by decide)) (F.2.1 _ (Hm.ne (k := 8) rfl) (Hm.nn (j := 8) (k := 11) rfl rfl (by decide)))
end
theorem not9 {v : Nat} (h : v ≤ 9999) : ¬ nI v = -9 := fun e => by
  have h1 : ¬ nI v < 0 := nI_pos (by omega)
  rw [e] at h1
  exact h1 (by decide)
/-- nothing lies behind the tenants that were read -/
def ZrR (f : Nat → Int32) (t : Nat) : Prop := ∀ j, 58 + 217 * t ≤ j → j < 1360 → f j = 0
theorem rep_addT {f g : Nat → Int32} {A : Sta} {c r m : Int32} (H : RepR f A) (hZ : ZrR f (sN A)) (h6 : sN A < 6) (h0 : g 0 = nI (sN A + 1)) (hc : g (58 + 217 * sN A + 0) = c) (hr : g (58 + 217 * sN A + 1) = r) (hm : g (58 + 217 * sN A + 4) = m) (hl : g (58 + 217 * sN A + 2) = c) (ho : ∀ j, j ≠ 0 → j ≠ 58 + 217 * sN A + 0 → j ≠ 58 + 217 * sN A + 1 → j ≠ 58 + 217 * sN A + 4 → j ≠ 58 + 217 * sN A + 2 → g j = f j) : RepR g (addT A c r m) ∧ ZrR g (sN A + 1) := by
  refine ⟨⟨?_, fun t ht => ?_, fun i hi => ?_⟩, fun j h1 h2 => by rw [ho j (by omega) (by omega) (by omega) (by omega) (by omega)]; exact hZ j (by omega) h2⟩
  · have := H.1
    unfold RowN at this ⊢
    rw [h0, ho 1 (by omega) (by omega) (by omega) (by omega) (by omega), ho 2 (by omega) (by omega) (by omega) (by omega) (by omega), ho 3 (by omega) (by omega) (by omega) (by omega) (by omega), ho 4 (by omega) (by omega) (by omega) (by omega) (by omega), ho 5 (by omega) (by omega) (by omega) (by omega) (by omega), ho 6 (by omega) (by omega) (by omega) (by omega) (by omega), ho 7 (by omega) (by omega) (by omega) (by omega) (by omega), ho 8 (by omega) (by omega) (by omega) (by omega) (by omega), ho 9 (by omega) (by omega) (by omega) (by omega) (by omega)]
    exact ⟨⟨rfl, by show sN A + 1 ≤ 6; omega⟩, this.2⟩
  · have ht' : t < sN A + 1 := ht
    show RowT g t (u1 (sT A) (sN A) (bgF (fun _ => 0) c r m, [], []) t)
    by_cases e : t = sN A
    · rw [e, u1_at]
      have z : ∀ k, k < 217 → k ≠ 0 → k ≠ 1 → k ≠ 4 → k ≠ 2 → g (58 + 217 * sN A + k) = 0 := fun k hk k0 k1 k4 k2 => by rw [ho _ (by omega) (by omega) (by omega) (by omega) (by omega)]; exact hZ _ (by omega) (by omega)
      refine ⟨fun k hk => ?_, ⟨by rw [z 7 (by omega) (by omega) (by omega) (by omega) (by omega)]; rfl, Nat.zero_le _⟩, fun j hj => absurd hj (Nat.not_lt_zero _), ⟨by rw [z 16 (by omega) (by omega) (by omega) (by omega) (by omega)]; rfl, Nat.zero_le _⟩, fun j hj => absurd hj (Nat.not_lt_zero _)⟩
      rcases (show k = 0 ∨ k = 1 ∨ k = 2 ∨ k = 3 ∨ k = 4 ∨ k = 5 ∨ k = 6 by omega) with rfl | rfl | rfl | rfl | rfl | rfl | rfl
      · rw [hc]; rfl
      · rw [hr]; rfl
      · rw [hl]; rfl
      · rw [z 3 (by omega) (by omega) (by omega) (by omega) (by omega)]; rfl
      · rw [hm]; rfl
      · rw [z 5 (by omega) (by omega) (by omega) (by omega) (by omega)]; rfl
      · rw [z 6 (by omega) (by omega) (by omega) (by omega) (by omega)]; rfl
    · rw [u1_ne _ _ e]
      exact (H.2.1 t (by omega)).congr (fun j a b => ho j (by omega) (by omega) (by omega) (by omega) (by omega))
  · have n12 := H.n12
    have hi' : i < (sO A).length := hi
    have := (H.2.2 i hi').congr (g := g) (fun j a b => ho j (by omega) (by omega) (by omega) (by omega) (by omega))
    obtain ⟨q1, q2, q3⟩ := this
    exact ⟨q1, by show _ < sN A + 1; have : (oA A i).1 < sN A := q2; exact Nat.lt_succ_of_lt this, q3⟩
set_option maxHeartbeats 4000000 in
set_option maxRecDepth 100000 in
theorem fh3 {me : Nat} {ad : Nat → Nat} (Hm : MoL h me ad) (k0 : ∀ h', FrD me ad h h' → gi h' me 10 = gi h me 10 → Q (.inl (some (.int 0))) h') : WPx E mX7_readHead 115 [some (.ref me)] [.int (-9), .int 4, .ref (ad 11)] (0, 0) h Q := by
  refine wr_iastore (M := mX7_readHead) (pc := 115) dX7_readHead_115 (by first | exact Hm.k | exact Hm.a rfl | fail "kd") (show (4 : Int32) = nI 4 from rfl) (by omega) (by decide) ?_
  refine wp_aload_n (M := mX7_readHead) (pc := 116) dX7_readHead_116 rfl ?_
  refine wp_getR (M := mX7_readHead) (pc := 117) fa_X7_29 rfl dX7_readHead_117 (by first | exact Hm.k | exact Hm.a rfl | fail "kd") (Hm.r rfl) ?_
  refine wp_iconst (M := mX7_readHead) (pc := 120) (v := 4) dX7_readHead_120 ci_4 ?_
  refine wr_iaload (M := mX7_readHead) (pc := 121) dX7_readHead_121 (by first | exact Hm.k | exact Hm.a rfl | fail "kd") (show (4 : Int32) = nI 4 from rfl) (by omega) (by decide) ?_
  refine wp_bipush (M := mX7_readHead) (pc := 122) (v := -9) dX7_readHead_122 cb_m9 ?_
  refine wp_icmp_eq (M := mX7_readHead) (pc := 124) (tgt := 131) dX7_readHead_124 rfl (fun t124 => ?_) (fun f124 => ?_)
  · refine wp_iconst (M := mX7_readHead) (pc := 131) (v := 0) dX7_readHead_131 ci_0 ?_
    refine wp_zreturn (M := mX7_readHead) (pc := 132) rfl (by decide) dX7_readHead_132 ?_
    exact k0 _ (FrD.sb Hm) (by rw [gi_si_ne _ _ _ (Hm.ne (k := 11) rfl).symm])
  · exact absurd gi_si_same f124
set_option maxHeartbeats 4000000 in
set_option maxRecDepth 100000 in
theorem fh2 {me : Nat} {ad : Nat → Nat} (Hm : MoL h me ad) (k0 : ∀ h', FrD me ad h h' → gi h' me 10 = gi h me 10 → Q (.inl (some (.int 0))) h') : WPx E mX7_readHead 85 [some (.ref me)] [.int (-9), .int 3, .ref (ad 11)] (0, 0) h Q := by
  refine wr_iastore (M := mX7_readHead) (pc := 85) dX7_readHead_85 (by first | exact Hm.k | exact Hm.a rfl | fail "kd") (show (3 : Int32) = nI 3 from rfl) (by omega) (by decide) ?_
  refine wp_aload_n (M := mX7_readHead) (pc := 86) dX7_readHead_86 rfl ?_
  refine wp_getR (M := mX7_readHead) (pc := 87) fa_X7_29 rfl dX7_readHead_87 (by first | exact Hm.k | exact Hm.a rfl | fail "kd") (Hm.r rfl) ?_
  refine wp_iconst (M := mX7_readHead) (pc := 90) (v := 4) dX7_readHead_90 ci_4 ?_
  refine wp_aload_n (M := mX7_readHead) (pc := 91) dX7_readHead_91 rfl ?_
  refine wp_getR (M := mX7_readHead) (pc := 92) fa_X7_29 rfl dX7_readHead_92 (by first | exact Hm.k | exact Hm.a rfl | fail "kd") (Hm.r rfl) ?_
  refine wp_iconst (M := mX7_readHead) (pc := 95) (v := 3) dX7_readHead_95 ci_3 ?_
  refine wr_iaload (M := mX7_readHead) (pc := 96) dX7_readHead_96 (by first | exact Hm.k | exact Hm.a rfl | fail "kd") (show (3 : Int32) = nI 3 from rfl) (by omega) (by decide) ?_
  refine wp_bipush (M := mX7_readHead) (pc := 97) (v := -9) dX7_readHead_97 cb_m9 ?_
  refine wp_icmp_ne (M := mX7_readHead) (pc := 99) (tgt := 107) dX7_readHead_99 rfl (fun t99 => ?_) (fun f99 => ?_)
  · exact absurd gi_si_same t99
  · refine wp_bipush (M := mX7_readHead) (pc := 102) (v := -9) dX7_readHead_102 cb_m9 ?_
    refine wp_goto (M := mX7_readHead) (pc := 104) (tgt := 115) dX7_readHead_104 rfl ?_
    exact fh3 (h := si h (ad 11) 3 (-9)) Hm (fun h1 F1 e1 => k0 h1 ((FrD.sb Hm).tr F1) (by rw [e1, gi_si_ne _ _ _ (Hm.ne (k := 11) rfl).symm]))
set_option maxHeartbeats 4000000 in
set_option maxRecDepth 100000 in
theorem fh1 {me : Nat} {ad : Nat → Nat} (Hm : MoL h me ad) (k0 : ∀ h', FrD me ad h h' → gi h' me 10 = gi h me 10 → Q (.inl (some (.int 0))) h') : WPx E mX7_readHead 55 [some (.ref me)] [.int (-9), .int 2, .ref (ad 11)] (0, 0) h Q := by
  refine wr_iastore (M := mX7_readHead) (pc := 55) dX7_readHead_55 (by first | exact Hm.k | exact Hm.a rfl | fail "kd") (show (2 : Int32) = nI 2 from rfl) (by omega) (by decide) ?_
  refine wp_aload_n (M := mX7_readHead) (pc := 56) dX7_readHead_56 rfl ?_
  refine wp_getR (M := mX7_readHead) (pc := 57) fa_X7_29 rfl dX7_readHead_57 (by first | exact Hm.k | exact Hm.a rfl | fail "kd") (Hm.r rfl) ?_
  refine wp_iconst (M := mX7_readHead) (pc := 60) (v := 3) dX7_readHead_60 ci_3 ?_
  refine wp_aload_n (M := mX7_readHead) (pc := 61) dX7_readHead_61 rfl ?_
  refine wp_getR (M := mX7_readHead) (pc := 62) fa_X7_29 rfl dX7_readHead_62 (by first | exact Hm.k | exact Hm.a rfl | fail "kd") (Hm.r rfl) ?_
  refine wp_iconst (M := mX7_readHead) (pc := 65) (v := 2) dX7_readHead_65 ci_2 ?_
  refine wr_iaload (M := mX7_readHead) (pc := 66) dX7_readHead_66 (by first | exact Hm.k | exact Hm.a rfl | fail "kd") (show (2 : Int32) = nI 2 from rfl) (by omega) (by decide) ?_
  refine wp_bipush (M := mX7_readHead) (pc := 67) (v := -9) dX7_readHead_67 cb_m9 ?_
  refine wp_icmp_ne (M := mX7_readHead) (pc := 69) (tgt := 77) dX7_readHead_69 rfl (fun t69 => ?_) (fun f69 => ?_)
  · exact absurd gi_si_same t69
  · refine wp_bipush (M := mX7_readHead) (pc := 72) (v := -9) dX7_readHead_72 cb_m9 ?_
    refine wp_goto (M := mX7_readHead) (pc := 74) (tgt := 85) dX7_readHead_74 rfl ?_
    exact fh2 (h := si h (ad 11) 2 (-9)) Hm (fun h1 F1 e1 => k0 h1 ((FrD.sb Hm).tr F1) (by rw [e1, gi_si_ne _ _ _ (Hm.ne (k := 11) rfl).symm]))
set_option maxHeartbeats 4000000 in
set_option maxRecDepth 100000 in
theorem fh0 {me : Nat} {ad : Nat → Nat} (Hm : MoL h me ad) (k0 : ∀ h', FrD me ad h h' → gi h' me 10 = gi h me 10 → Q (.inl (some (.int 0))) h') : WPx E mX7_readHead 25 [some (.ref me)] [.int (-9), .int 1, .ref (ad 11)] (0, 0) h Q := by
  refine wr_iastore (M := mX7_readHead) (pc := 25) dX7_readHead_25 (by first | exact Hm.k | exact Hm.a rfl | fail "kd") (show (1 : Int32) = nI 1 from rfl) (by omega) (by decide) ?_
  refine wp_aload_n (M := mX7_readHead) (pc := 26) dX7_readHead_26 rfl ?_
  refine wp_getR (M := mX7_readHead) (pc := 27) fa_X7_29 rfl dX7_readHead_27 (by first | exact Hm.k | exact Hm.a rfl | fail "kd") (Hm.r rfl) ?_
  refine wp_iconst (M := mX7_readHead) (pc := 30) (v := 2) dX7_readHead_30 ci_2 ?_
  refine wp_aload_n (M := mX7_readHead) (pc := 31) dX7_readHead_31 rfl ?_
  refine wp_getR (M := mX7_readHead) (pc := 32) fa_X7_29 rfl dX7_readHead_32 (by first | exact Hm.k | exact Hm.a rfl | fail "kd") (Hm.r rfl) ?_
  refine wp_iconst (M := mX7_readHead) (pc := 35) (v := 1) dX7_readHead_35 ci_1 ?_
  refine wr_iaload (M := mX7_readHead) (pc := 36) dX7_readHead_36 (by first | exact Hm.k | exact Hm.a rfl | fail "kd") (show (1 : Int32) = nI 1 from rfl) (by omega) (by decide) ?_
  refine wp_bipush (M := mX7_readHead) (pc := 37) (v := -9) dX7_readHead_37 cb_m9 ?_
  refine wp_icmp_ne (M := mX7_readHead) (pc := 39) (tgt := 47) dX7_readHead_39 rfl (fun t39 => ?_) (fun f39 => ?_)
  · exact absurd gi_si_same t39
  · refine wp_bipush (M := mX7_readHead) (pc := 42) (v := -9) dX7_readHead_42 cb_m9 ?_
    refine wp_goto (M := mX7_readHead) (pc := 44) (tgt := 55) dX7_readHead_44 rfl ?_
    exact fh1 (h := si h (ad 11) 1 (-9)) Hm (fun h1 F1 e1 => k0 h1 ((FrD.sb Hm).tr F1) (by rw [e1, gi_si_ne _ _ _ (Hm.ne (k := 11) rfl).symm]))
set_option maxHeartbeats 4000000 in
set_option maxRecDepth 100000 in
theorem sp_X7_readHead {me : Nat} {ad : Nat → Nat} {s : Nat → Nat} {n p : Nat} (Hm : MoL h me ad) (hX : TxR h me ad s n) (hp : gi h me 10 = nI p) (hp2 : p ≤ 160) (k1 : (lkP s n (p, false)).2.2 = false → ∀ h', FrD me ad h h' → gi h' me 10 = nI (lkP s n (p, false)).2.1 → gi h' (ad 11) = upd (upd (upd (upd (gi h (ad 11)) 1 (nI (lkW s n (p, false)).1)) 2 (nI (lkI s n (p, false)).1)) 3 (nI (lkT s n (p, false)).1)) 4 (nI (lkP s n (p, false)).1) → Q (.inl (some (.int 1))) h') (k0 : (lkP s n (p, false)).2.2 = true → ∀ h', FrD me ad h h' → gi h' me 10 = nI (lkP s n (p, false)).2.1 → Q (.inl (some (.int 0))) h') : WPx E mX7_readHead 0 [some (.ref me)] [] (0, 0) h Q := by
  have n160 := hX.1.2
  have nm := (Hm.ne (k := 11) rfl).symm
  refine wp_aload_n (M := mX7_readHead) (pc := 0) dX7_readHead_0 rfl ?_
  refine wp_bipush (M := mX7_readHead) (pc := 1) (v := 76) dX7_readHead_1 cb_76 ?_
  refine so_V1 (M := mX7_readHead) (pc := 3) cs_X7_readHead_83 rfl rfl (LE rfl) (LE rfl) dX7_readHead_3 (by first | exact Hm.k | exact Hm.a rfl | fail "kd") ?_
  refine sp_X7_passes (c := 76) Hm hX hp (by omega) (by decide) (fun hlt hc => ?_) (fun hno => ?_)
  · have eL : ltX s n 76 (p, false) = (p + 1, false) := lt1_y ⟨rfl, hlt, hc⟩
    have eW : lkW s n (p, false) = rdN s n 1 999 3 0 (p + 1) := by unfold lkW rdX; rw [eL]; exact rdB_f rfl
    have lW := rdN_le (s := s) (lo := 1) (hi := 999) n160 3 0 (p + 1) (by omega)
    refine kI ?_
    refine wp_if_ne (M := mX7_readHead) (pc := 6) (tgt := 11) dX7_readHead_6 rfl (fun t6 => ?_) (fun f6 => ?_)
    · refine wp_aload_n (M := mX7_readHead) (pc := 11) dX7_readHead_11 rfl ?_
      refine wp_getR (M := mX7_readHead) (pc := 12) fa_X7_29 rfl dX7_readHead_12 (by first | exact Hm.k | exact Hm.a rfl | fail "kd") (Hm.r rfl) ?_
      refine wp_iconst (M := mX7_readHead) (pc := 15) (v := 1) dX7_readHead_15 ci_1 ?_
      refine wp_aload_n (M := mX7_readHead) (pc := 16) dX7_readHead_16 rfl ?_
      refine wp_iconst (M := mX7_readHead) (pc := 17) (v := 3) dX7_readHead_17 ci_3 ?_
      refine wp_iconst (M := mX7_readHead) (pc := 18) (v := 1) dX7_readHead_18 ci_1 ?_
      refine wp_sipush (M := mX7_readHead) (pc := 19) (v := 999) dX7_readHead_19 ch_999 ?_
      refine so_V3 (M := mX7_readHead) (pc := 22) cs_X7_readHead_86 rfl rfl (LE rfl) (LE rfl) dX7_readHead_22 (by first | exact Hm.k | exact Hm.a rfl | fail "kd") ?_
      refine sp_X7_number (d := 3) (lo := 1) (hi := 999) (p := p + 1) Hm (hX.sp Hm) (by decide) (by decide) (by decide) (by decide) gi_si_same (by omega) ?_
      rw [si_si]
      refine kI ?_
      by_cases hb : (rdN s n 1 999 3 0 (p + 1)).2.2 = true
      · rw [if_pos hb]
        have e9 : (lkP s n (p, false)).2 = ((rdN s n 1 999 3 0 (p + 1)).2.1, true) := by
          have e1 : lkI s n (p, false) = (0, (rdN s n 1 999 3 0 (p + 1)).2.1, true) := by unfold lkI rdX; rw [eW]; exact rdB_t hb
          have e2 : lkT s n (p, false) = (0, (rdN s n 1 999 3 0 (p + 1)).2.1, true) := by unfold lkT rdX; rw [e1]; exact rdB_t rfl
          unfold lkP rdX; rw [e2]; rfl
        exact fh0 Hm (fun h1 F1 e1 => k0 (by rw [e9]) h1 (FrD.sp.tr F1) (by rw [e1, e9]; exact gi_si_same))
      rw [if_neg hb]
      have bW := rdN_b (s := s) (n := n) (lo := 1) (hi := 999) (by decide) 3 0 (p + 1) (by simpa using hb) (by omega)
      have X1 : TxR (si (si h me 10 (nI (rdN s n 1 999 3 0 (p + 1)).2.1)) (ad 11) 1 (nI (rdN s n 1 999 3 0 (p + 1)).1)) me ad s n := hX.D Hm (FrD.sp.tr (FrD.sb Hm))
      have q1 : gi (si (si h me 10 (nI (rdN s n 1 999 3 0 (p + 1)).2.1)) (ad 11) 1 (nI (rdN s n 1 999 3 0 (p + 1)).1)) me 10 = nI (rdN s n 1 999 3 0 (p + 1)).2.1 := by rw [gi_si_ne _ _ _ nm]; exact gi_si_same
      have eI : lkI s n (p, false) = rdN s n 1 20 2 0 (rdN s n 1 999 3 0 (p + 1)).2.1 := by unfold lkI rdX; rw [eW]; exact rdB_f (by simpa using hb)
      have lI := rdN_le (s := s) (lo := 1) (hi := 20) n160 2 0 (rdN s n 1 999 3 0 (p + 1)).2.1 (by omega)
      refine wr_iastore (M := mX7_readHead) (pc := 25) dX7_readHead_25 (by first | exact Hm.k | exact Hm.a rfl | fail "kd") (show (1 : Int32) = nI 1 from rfl) (by omega) (by decide) ?_
      refine wp_aload_n (M := mX7_readHead) (pc := 26) dX7_readHead_26 rfl ?_
      refine wp_getR (M := mX7_readHead) (pc := 27) fa_X7_29 rfl dX7_readHead_27 (by first | exact Hm.k | exact Hm.a rfl | fail "kd") (Hm.r rfl) ?_
      refine wp_iconst (M := mX7_readHead) (pc := 30) (v := 2) dX7_readHead_30 ci_2 ?_
      refine wp_aload_n (M := mX7_readHead) (pc := 31) dX7_readHead_31 rfl ?_
      refine wp_getR (M := mX7_readHead) (pc := 32) fa_X7_29 rfl dX7_readHead_32 (by first | exact Hm.k | exact Hm.a rfl | fail "kd") (Hm.r rfl) ?_
      refine wp_iconst (M := mX7_readHead) (pc := 35) (v := 1) dX7_readHead_35 ci_1 ?_
      refine wr_iaload (M := mX7_readHead) (pc := 36) dX7_readHead_36 (by first | exact Hm.k | exact Hm.a rfl | fail "kd") (show (1 : Int32) = nI 1 from rfl) (by omega) (by decide) ?_
      refine wp_bipush (M := mX7_readHead) (pc := 37) (v := -9) dX7_readHead_37 cb_m9 ?_
      refine wp_icmp_ne (M := mX7_readHead) (pc := 39) (tgt := 47) dX7_readHead_39 rfl (fun t39 => ?_) (fun f39 => ?_)
      · refine wp_aload_n (M := mX7_readHead) (pc := 47) dX7_readHead_47 rfl ?_
        refine wp_iconst (M := mX7_readHead) (pc := 48) (v := 2) dX7_readHead_48 ci_2 ?_
        refine wp_iconst (M := mX7_readHead) (pc := 49) (v := 1) dX7_readHead_49 ci_1 ?_
        refine wp_bipush (M := mX7_readHead) (pc := 50) (v := 20) dX7_readHead_50 cb_20 ?_
        refine so_V3 (M := mX7_readHead) (pc := 52) cs_X7_readHead_86 rfl rfl (LE rfl) (LE rfl) dX7_readHead_52 (by first | exact Hm.k | exact Hm.a rfl | fail "kd") ?_
        refine sp_X7_number (d := 2) (lo := 1) (hi := 20) (p := (rdN s n 1 999 3 0 (p + 1)).2.1) Hm X1 (by decide) (by decide) (by decide) (by decide) q1 (by omega) ?_
        refine kI ?_
        rw [← eI]
        by_cases hb2 : (lkI s n (p, false)).2.2 = true
        · rw [if_pos hb2]
          have e9 : (lkP s n (p, false)).2 = ((lkI s n (p, false)).2.1, true) := by
            have e2 : lkT s n (p, false) = (0, (lkI s n (p, false)).2.1, true) := by unfold lkT rdX; exact rdB_t hb2
            unfold lkP rdX; rw [e2]; rfl
          exact fh1 Hm (fun h1 F1 e1 => k0 (by rw [e9]) h1 ((FrD.sp.tr (FrD.sb Hm)).tr (FrD.sp.tr F1)) (by rw [e1, e9]; exact gi_si_same))
        rw [if_neg hb2]
        rw [← eI] at lI
        have bI1 : (lkI s n (p, false)).1 ≤ 9999 := by rw [eI]; exact rdN_b (by decide) 2 0 _ (by rw [← eI]; simpa using hb2) (by omega)
        have G2 : FrD me ad h (si (si (si (si h me 10 (nI (rdN s n 1 999 3 0 (p + 1)).2.1)) (ad 11) 1 (nI (rdN s n 1 999 3 0 (p + 1)).1)) me 10 (nI (lkI s n (p, false)).2.1)) (ad 11) 2 (nI (lkI s n (p, false)).1)) := (FrD.sp.tr (FrD.sb Hm)).tr (FrD.sp.tr (FrD.sb Hm))
        have X2 := hX.D Hm G2
        have q2 : gi (si (si (si (si h me 10 (nI (rdN s n 1 999 3 0 (p + 1)).2.1)) (ad 11) 1 (nI (rdN s n 1 999 3 0 (p + 1)).1)) me 10 (nI (lkI s n (p, false)).2.1)) (ad 11) 2 (nI (lkI s n (p, false)).1)) me 10 = nI (lkI s n (p, false)).2.1 := by rw [gi_si_ne _ _ _ nm]; exact gi_si_same
        have eT : lkT s n (p, false) = rdN s n 1 50 2 0 (lkI s n (p, false)).2.1 := by unfold lkT rdX; exact rdB_f (by simpa using hb2)
        have lT := rdN_le (s := s) (lo := 1) (hi := 50) n160 2 0 (lkI s n (p, false)).2.1 (by omega)
        refine wr_iastore (M := mX7_readHead) (pc := 55) dX7_readHead_55 (by first | exact Hm.k | exact Hm.a rfl | fail "kd") (show (2 : Int32) = nI 2 from rfl) (by omega) (by decide) ?_
        refine wp_aload_n (M := mX7_readHead) (pc := 56) dX7_readHead_56 rfl ?_
        refine wp_getR (M := mX7_readHead) (pc := 57) fa_X7_29 rfl dX7_readHead_57 (by first | exact Hm.k | exact Hm.a rfl | fail "kd") (Hm.r rfl) ?_
        refine wp_iconst (M := mX7_readHead) (pc := 60) (v := 3) dX7_readHead_60 ci_3 ?_
        refine wp_aload_n (M := mX7_readHead) (pc := 61) dX7_readHead_61 rfl ?_
        refine wp_getR (M := mX7_readHead) (pc := 62) fa_X7_29 rfl dX7_readHead_62 (by first | exact Hm.k | exact Hm.a rfl | fail "kd") (Hm.r rfl) ?_
        refine wp_iconst (M := mX7_readHead) (pc := 65) (v := 2) dX7_readHead_65 ci_2 ?_
        refine wr_iaload (M := mX7_readHead) (pc := 66) dX7_readHead_66 (by first | exact Hm.k | exact Hm.a rfl | fail "kd") (show (2 : Int32) = nI 2 from rfl) (by omega) (by decide) ?_
        refine wp_bipush (M := mX7_readHead) (pc := 67) (v := -9) dX7_readHead_67 cb_m9 ?_
        refine wp_icmp_ne (M := mX7_readHead) (pc := 69) (tgt := 77) dX7_readHead_69 rfl (fun t69 => ?_) (fun f69 => ?_)
        · refine wp_aload_n (M := mX7_readHead) (pc := 77) dX7_readHead_77 rfl ?_
          refine wp_iconst (M := mX7_readHead) (pc := 78) (v := 2) dX7_readHead_78 ci_2 ?_
          refine wp_iconst (M := mX7_readHead) (pc := 79) (v := 1) dX7_readHead_79 ci_1 ?_
          refine wp_bipush (M := mX7_readHead) (pc := 80) (v := 50) dX7_readHead_80 cb_50 ?_
          refine so_V3 (M := mX7_readHead) (pc := 82) cs_X7_readHead_86 rfl rfl (LE rfl) (LE rfl) dX7_readHead_82 (by first | exact Hm.k | exact Hm.a rfl | fail "kd") ?_
          refine sp_X7_number (d := 2) (lo := 1) (hi := 50) (p := (lkI s n (p, false)).2.1) Hm X2 (by decide) (by decide) (by decide) (by decide) q2 (by omega) ?_
          refine kI ?_
          rw [← eT]
          by_cases hb3 : (lkT s n (p, false)).2.2 = true
          · rw [if_pos hb3]
            have e9 : (lkP s n (p, false)).2 = ((lkT s n (p, false)).2.1, true) := by
              unfold lkP rdX; rw [rdB_t hb3]
            exact fh2 Hm (fun h1 F1 e1 => k0 (by rw [e9]) h1 (G2.tr (FrD.sp.tr F1)) (by rw [e1, e9]; exact gi_si_same))
          rw [if_neg hb3]
          rw [← eT] at lT
          have bT : (lkT s n (p, false)).1 ≤ 9999 := by rw [eT]; exact rdN_b (by decide) 2 0 _ (by rw [← eT]; simpa using hb3) (by omega)
          have G3 := G2.tr ((FrD.sp (v := nI (lkT s n (p, false)).2.1)).tr (FrD.sb (j := 3) (v := nI (lkT s n (p, false)).1) Hm))
          have X3 := hX.D Hm G3
          have q3 : gi (si (si (si (si (si (si h me 10 (nI (rdN s n 1 999 3 0 (p + 1)).2.1)) (ad 11) 1 (nI (rdN s n 1 999 3 0 (p + 1)).1)) me 10 (nI (lkI s n (p, false)).2.1)) (ad 11) 2 (nI (lkI s n (p, false)).1)) me 10 (nI (lkT s n (p, false)).2.1)) (ad 11) 3 (nI (lkT s n (p, false)).1)) me 10 = nI (lkT s n (p, false)).2.1 := by rw [gi_si_ne _ _ _ nm]; exact gi_si_same
          have eP : lkP s n (p, false) = rdN s n 0 99 2 0 (lkT s n (p, false)).2.1 := by unfold lkP rdX; exact rdB_f (by simpa using hb3)
          refine wr_iastore (M := mX7_readHead) (pc := 85) dX7_readHead_85 (by first | exact Hm.k | exact Hm.a rfl | fail "kd") (show (3 : Int32) = nI 3 from rfl) (by omega) (by decide) ?_
          refine wp_aload_n (M := mX7_readHead) (pc := 86) dX7_readHead_86 rfl ?_
          refine wp_getR (M := mX7_readHead) (pc := 87) fa_X7_29 rfl dX7_readHead_87 (by first | exact Hm.k | exact Hm.a rfl | fail "kd") (Hm.r rfl) ?_
          refine wp_iconst (M := mX7_readHead) (pc := 90) (v := 4) dX7_readHead_90 ci_4 ?_
          refine wp_aload_n (M := mX7_readHead) (pc := 91) dX7_readHead_91 rfl ?_
          refine wp_getR (M := mX7_readHead) (pc := 92) fa_X7_29 rfl dX7_readHead_92 (by first | exact Hm.k | exact Hm.a rfl | fail "kd") (Hm.r rfl) ?_
          refine wp_iconst (M := mX7_readHead) (pc := 95) (v := 3) dX7_readHead_95 ci_3 ?_
          refine wr_iaload (M := mX7_readHead) (pc := 96) dX7_readHead_96 (by first | exact Hm.k | exact Hm.a rfl | fail "kd") (show (3 : Int32) = nI 3 from rfl) (by omega) (by decide) ?_
          refine wp_bipush (M := mX7_readHead) (pc := 97) (v := -9) dX7_readHead_97 cb_m9 ?_
          refine wp_icmp_ne (M := mX7_readHead) (pc := 99) (tgt := 107) dX7_readHead_99 rfl (fun t99 => ?_) (fun f99 => ?_)
          · refine wp_aload_n (M := mX7_readHead) (pc := 107) dX7_readHead_107 rfl ?_
            refine wp_iconst (M := mX7_readHead) (pc := 108) (v := 2) dX7_readHead_108 ci_2 ?_
            refine wp_iconst (M := mX7_readHead) (pc := 109) (v := 0) dX7_readHead_109 ci_0 ?_
            refine wp_bipush (M := mX7_readHead) (pc := 110) (v := 99) dX7_readHead_110 cb_99 ?_
            refine so_V3 (M := mX7_readHead) (pc := 112) cs_X7_readHead_86 rfl rfl (LE rfl) (LE rfl) dX7_readHead_112 (by first | exact Hm.k | exact Hm.a rfl | fail "kd") ?_
            refine sp_X7_number (d := 2) (lo := 0) (hi := 99) (p := (lkT s n (p, false)).2.1) Hm X3 (by decide) (by decide) (by decide) (by decide) q3 (by omega) ?_
            refine kI ?_
            rw [← eP]
            by_cases hb4 : (lkP s n (p, false)).2.2 = true
            · rw [if_pos hb4]
              exact fh3 Hm (fun h1 F1 e1 => k0 hb4 h1 (G3.tr (FrD.sp.tr F1)) (by rw [e1]; exact gi_si_same))
            rw [if_neg hb4]
            have bP : (lkP s n (p, false)).1 ≤ 9999 := by rw [eP]; exact rdN_b (by decide) 2 0 _ (by rw [← eP]; simpa using hb4) (by omega)
            refine wr_iastore (M := mX7_readHead) (pc := 115) dX7_readHead_115 (by first | exact Hm.k | exact Hm.a rfl | fail "kd") (show (4 : Int32) = nI 4 from rfl) (by omega) (by decide) ?_
            refine wp_aload_n (M := mX7_readHead) (pc := 116) dX7_readHead_116 rfl ?_
            refine wp_getR (M := mX7_readHead) (pc := 117) fa_X7_29 rfl dX7_readHead_117 (by first | exact Hm.k | exact Hm.a rfl | fail "kd") (Hm.r rfl) ?_
            refine wp_iconst (M := mX7_readHead) (pc := 120) (v := 4) dX7_readHead_120 ci_4 ?_
            refine wr_iaload (M := mX7_readHead) (pc := 121) dX7_readHead_121 (by first | exact Hm.k | exact Hm.a rfl | fail "kd") (show (4 : Int32) = nI 4 from rfl) (by omega) (by decide) ?_
            refine wp_bipush (M := mX7_readHead) (pc := 122) (v := -9) dX7_readHead_122 cb_m9 ?_
            refine wp_icmp_eq (M := mX7_readHead) (pc := 124) (tgt := 131) dX7_readHead_124 rfl (fun t124 => ?_) (fun f124 => ?_)
            · exact absurd (gi_si_same.symm.trans t124) (not9 bP)
            · refine wp_iconst (M := mX7_readHead) (pc := 127) (v := 1) dX7_readHead_127 ci_1 ?_
              refine wp_goto (M := mX7_readHead) (pc := 128) (tgt := 132) dX7_readHead_128 rfl ?_
              refine wp_zreturn (M := mX7_readHead) (pc := 132) rfl (by decide) dX7_readHead_132 ?_
              refine k1 (by simpa using hb4) _ (G3.tr (FrD.sp.tr (FrD.sb Hm))) (by rw [gi_si_ne _ _ _ nm]; exact gi_si_same) ?_
              rw [gi_si_at, gi_si_ne _ _ _ nm.symm, gi_si_at, gi_si_ne _ _ _ nm.symm, gi_si_at, gi_si_ne _ _ _ nm.symm, gi_si_at, gi_si_ne _ _ _ nm.symm, eW]
          · exact absurd (gi_si_same.symm.trans f99) (not9 bT)
        · exact absurd (gi_si_same.symm.trans f69) (not9 bI1)
      · exact absurd (gi_si_same.symm.trans f39) (not9 bW)
    · exact absurd f6 (by decide)
  · have eL : ltX s n 76 (p, false) = (p, true) := lt1_n (fun q => hno q.2)
    have e9 : (lkP s n (p, false)).2 = (p, true) := by
      have e0 : lkW s n (p, false) = (0, p, true) := by unfold lkW rdX; rw [eL]; exact rdB_t rfl
      have e1 : lkI s n (p, false) = (0, p, true) := by unfold lkI rdX; rw [e0]; exact rdB_t rfl
      have e2 : lkT s n (p, false) = (0, p, true) := by unfold lkT rdX; rw [e1]; exact rdB_t rfl
      unfold lkP rdX; rw [e2]; rfl
    refine kI ?_
    refine wp_if_ne (M := mX7_readHead) (pc := 6) (tgt := 11) dX7_readHead_6 rfl (fun t6 => ?_) (fun f6 => ?_)
    · exact absurd rfl t6
    · refine wp_iconst (M := mX7_readHead) (pc := 9) (v := 0) dX7_readHead_9 ci_0 ?_
      refine wp_zreturn (M := mX7_readHead) (pc := 10) rfl (by decide) dX7_readHead_10 ?_
      exact k0 (by rw [e9]) h FrD.rf (by rw [e9]; exact hp)
end SP
