section SP
variable {E : Ev} {h : PH} {Q : Rt → PH → Prop}
theorem fulB_t {A : Sta} (h : fullU A (sN A)) : fulB A = true := by unfold fulB; exact @decide_eq_true _ (Classical.propDecidable _) h
theorem fulB_f {A : Sta} (h : ¬ fullU A (sN A)) : fulB A = false := by unfold fulB; exact @decide_eq_false _ (Classical.propDecidable _) h
theorem rdX_t {s : Nat → Nat} {n lo hi k : Nat} {x : Nat × Bool} (h : x.2 = true) : rdX s n lo hi k x = (0, x.1, true) := by unfold rdX; exact rdB_t h
/-- a message that is not there -/
theorem rmS_bad {s : Nat → Nat} {n p : Nat} {A : Sta} (h : ¬ (¬ fullU A (sN A) ∧ p < n ∧ s p = 109)) : (rmS s n (A, p, false)).2 = (p, true) := by
  have e1 : rmL s n A p = (p, true) := by
    refine lt1_n (fun q => h ⟨fun e => ?_, q.2⟩)
    have := q.1
    rw [fulB_t e] at this
    cases this
  have e2 : rmQ s n A p = (p, true) := by unfold rmQ; rw [e1]; exact rqX_n (fun q => by cases q.1)
  show (rmZ s n A p).2 = _
  unfold rmZ
  rw [e2, rdX_t rfl]
theorem rmL_y {s : Nat → Nat} {n p : Nat} {A : Sta} (h1 : ¬ fullU A (sN A)) (h2 : p < n) (h3 : s p = 109) : rmL s n A p = (p + 1, false) := lt1_y ⟨fulB_f h1, h2, h3⟩
theorem rep_head {f : Nat → Int32} {w iv tm pn : Int32} {m : Nat} (hm : tm = nI m) : RepR (upd (upd (upd (upd (upd (zr 1360 f) 7 (-9)) 1 w) 2 iv) 3 tm) 4 pn) (bgA w iv m pn) ∧ ZrR (upd (upd (upd (upd (upd (zr 1360 f) 7 (-9)) 1 w) 2 iv) 3 tm) 4 pn) 0 := by
  have z : ∀ j, j < 1360 → zr 1360 f j = 0 := fun j hj => by unfold zr; rw [if_pos hj]
  have g : ∀ j, j < 1360 → j ≠ 7 → j ≠ 1 → j ≠ 2 → j ≠ 3 → j ≠ 4 → upd (upd (upd (upd (upd (zr 1360 f) 7 (-9)) 1 w) 2 iv) 3 tm) 4 pn j = 0 := fun j hj h7 h1 h2 h3 h4 => by rw [upd_ne _ _ h4, upd_ne _ _ h3, upd_ne _ _ h2, upd_ne _ _ h1, upd_ne _ _ h7]; exact z j hj
  refine ⟨⟨⟨⟨?_, Nat.zero_le _⟩, ⟨?_, Nat.zero_le _⟩, ?_, ?_, ?_, ?_, ?_, ?_, ?_, ?_⟩, fun t ht => absurd ht (Nat.not_lt_zero _), fun i hi => absurd hi (Nat.not_lt_zero _)⟩, fun j h1 h2 => g j h2 (by omega) (by omega) (by omega) (by omega) (by omega)⟩
  · rw [g 0 (by decide) (by decide) (by decide) (by decide) (by decide) (by decide)]; rfl
  · rw [g 8 (by decide) (by decide) (by decide) (by decide) (by decide) (by decide)]; rfl
  · rw [upd_ne _ _ (by decide), upd_ne _ _ (by decide), upd_ne _ _ (by decide), upd_at]; rfl
  · rw [upd_ne _ _ (by decide), upd_ne _ _ (by decide), upd_at]; rfl
  · rw [upd_ne _ _ (by decide), upd_at, hm]; rfl
  · rw [upd_at]; rfl
  · rw [g 5 (by decide) (by decide) (by decide) (by decide) (by decide) (by decide)]; rfl
  · rw [g 6 (by decide) (by decide) (by decide) (by decide) (by decide) (by decide)]; rfl
  · rw [upd_ne _ _ (by decide), upd_ne _ _ (by decide), upd_ne _ _ (by decide), upd_ne _ _ (by decide), upd_at]; rfl
  · rw [g 9 (by decide) (by decide) (by decide) (by decide) (by decide) (by decide)]; rfl
def ansE (y : Sta × Nat × Bool) : Int32 := if y.2.2 = true then nI y.2.1 else -9
theorem rdX_le {s : Nat → Nat} {n lo hi k : Nat} {x : Nat × Bool} (hn : n ≤ 160) (h : x.1 ≤ 160) : (rdX s n lo hi k x).2.1 ≤ 160 := rdB_le hn h
theorem rdN_ge {s : Nat → Nat} {n lo hi : Nat} : ∀ (k v p : Nat), p ≤ (rdN s n lo hi k v p).2.1
  | 0, _, _ => Nat.le_refl _
  | k + 1, v, p => by
    by_cases hc : p < n ∧ 48 ≤ s p ∧ s p ≤ 57 ∧ (10 * v + (s p - 48)) * 10 ^ k ≤ hi ∧ lo < (10 * v + (s p - 48)) * 10 ^ k + 10 ^ k
    · rw [rdN_y hc]; have := rdN_ge (s := s) (n := n) (lo := lo) (hi := hi) k (10 * v + (s p - 48)) (p + 1); omega
    · rw [rdN_n hc]; exact Nat.le_refl _
theorem rdX_ge {s : Nat → Nat} {n lo hi k : Nat} {x : Nat × Bool} : x.1 ≤ (rdX s n lo hi k x).2.1 := by
  unfold rdX rdB
  split
  · exact Nat.le_refl _
  · exact rdN_ge _ _ _
theorem rqX_ge {A : Sta} {s : Nat → Nat} {n : Nat} {x : Nat × Bool} : x.1 ≤ (rqX A s n x).1 := by
  unfold rqX
  split
  · show x.1 ≤ x.1 + 1; omega
  · exact Nat.le_refl _

theorem rdN_n1 {s : Nat → Nat} {n lo hi : Nat} : ∀ (k v p : Nat), p ≤ n → (rdN s n lo hi k v p).2.1 ≤ n
  | 0, _, _, h => h
  | k + 1, v, p, h => by
    by_cases hc : p < n ∧ 48 ≤ s p ∧ s p ≤ 57 ∧ (10 * v + (s p - 48)) * 10 ^ k ≤ hi ∧ lo < (10 * v + (s p - 48)) * 10 ^ k + 10 ^ k
    · rw [rdN_y hc]; exact rdN_n1 k _ _ hc.1
    · rw [rdN_n hc]; exact h
theorem rdX_n {s : Nat → Nat} {n lo hi k : Nat} {x : Nat × Bool} (_h : (rdX s n lo hi k x).2.2 = false) (hx : x.1 ≤ n) : (rdX s n lo hi k x).2.1 ≤ n := by
  unfold rdX rdB
  split
  · exact hx
  · exact rdN_n1 _ _ _ hx
theorem rqX_lt {A : Sta} {s : Nat → Nat} {n lo hi k : Nat} {x : Nat × Bool} (_h : (rdX s n lo hi k (rqX A s n x)).2.2 = false) (hx : x.1 ≤ n) : (rqX A s n x).1 ≤ n := by
  unfold rqX
  split
  · rename_i h; exact h.2.1.1
  · exact hx
theorem rtM_n {s : Nat → Nat} {n p : Nat} (h : (rtM s n (p, false)).2.2 = false) : (rtM s n (p, false)).2.1 ≤ n := by
  have h1 : (rtR s n (p, false)).2.2 = false := rdB_ok h
  have h2 : (rtC s n (p, false)).2.2 = false := rdB_ok h1
  have h3 : (ltX s n 116 (p, false)).2 = false := rdB_ok h2
  have h4 : (ltX s n 116 (p, false)).1 ≤ n := by
    unfold ltX lt1 at h3 ⊢
    split
    · rename_i q; exact q.2.1
    · rename_i q; rw [if_neg q] at h3; cases h3
  exact rdX_n h (rdX_n h1 (rdX_n h2 h4))
theorem rmA_le {s : Nat → Nat} {n : Nat} (hn : n ≤ 160) : ∀ (f : Nat) (y : Sta × Nat × Bool), y.2.1 ≤ 160 → (rmA s n f y).2.1 ≤ 160
  | 0, _, h => h
  | f + 1, y, h => by
    by_cases hc : y.2.2 = true ∨ ¬ y.2.1 < n
    · rw [rmA_stop hc]; exact h
    · rw [rmA_go hc]; exact rmA_le hn f _ (rmZ_le hn h)

set_option maxHeartbeats 4000000 in
set_option maxRecDepth 100000 in
theorem l2_X7_readText {me : Nat} {ad : Nat → Nat} {s : Nat → Nat} {n : Nat} {h0 : PH} {res : Sta × Nat × Bool} (hres : res.2.1 ≤ 160) (k : ∀ h', FrD me ad h0 h' → (ansE res = -9 → RepR (gi h' (ad 11)) res.1) → Q (.inl (some (.int (ansE res)))) h') : ∀ (m : Nat) (fu : Nat) (h : PH) (A : Sta) (p : Nat), fu < m → (MoL h me ad) → (TxR h me ad s n) → (gi h me 10 = nI p) → (p ≤ n) → (RepR (gi h (ad 11)) A) → (FrD me ad h0 h) → (n - p ≤ fu) → (rmA s n fu (A, p, false) = res) → WPx E mX7_readText 70 [some (.ref me)] [] (0, 0) h Q := by
  intro m
  induction m with
  | zero => intro fu h A p hm; exact absurd hm (Nat.not_lt_zero _)
  | succ m ih =>
    intro fu h A p hm Hm hX hp hp2 hR F hfu he
    have n160 := hX.1.2
    have hbad : ¬ (¬ fullU A (sN A) ∧ p < n ∧ s p = 109) → WPx E mX7_readText 98 [some (.ref me)] [] (0, 0) h Q := fun hb => by
      refine wp_aload_n (M := mX7_readText) (pc := 98) dX7_readText_98 rfl ?_
      refine wp_getI (M := mX7_readText) (pc := 99) fa_X7_78 rfl dX7_readText_99 Hm.k ?_
      refine wp_aload_n (M := mX7_readText) (pc := 102) dX7_readText_102 rfl ?_
      refine wp_getI (M := mX7_readText) (pc := 103) fa_X7_71 rfl dX7_readText_103 Hm.k ?_
      refine wp_icmp_ne (M := mX7_readText) (pc := 106) (tgt := 114) dX7_readText_106 rfl (fun t106 => ?_) (fun f106 => ?_)
      · rw [hp, hX.1.1] at t106
        have hlt : p < n := Nat.lt_of_le_of_ne hp2 (fun e => t106 (by rw [e]))
        refine wp_aload_n (M := mX7_readText) (pc := 114) dX7_readText_114 rfl ?_
        refine wp_getI (M := mX7_readText) (pc := 115) fa_X7_78 rfl dX7_readText_115 Hm.k ?_
        refine wp_ireturn (M := mX7_readText) (pc := 118) rfl dX7_readText_118 ?_
        first
        | (obtain ⟨f1, rfl⟩ : ∃ f1, fu = f1 + 1 := ⟨fu - 1, by omega⟩
           rw [rmA_go (fun q => q.elim (fun q => by cases q) (fun q => q hlt))] at he
           have hb2 := rmS_bad hb
           rw [rmA_stop (Or.inl (by rw [hb2]))] at he
           have e9 : ansE res = nI p := by rw [← he]; unfold ansE; rw [hb2]; rfl
           rw [hp]
           rw [e9] at k
           exact k h F (fun q => absurd q (not9 (by omega))))
        | (rw [rmA_stop (Or.inr (by show ¬ p < n; omega))] at he
           have e9 : ansE res = -9 := by rw [← he]; rfl
           rw [e9] at k
           exact k h F (fun _ => by rw [← he]; exact hR))
        | fail "leaf"
      · rw [hp, hX.1.1] at f106
        have hpe : p = n := (i_eq (by omega) (by omega)).mp f106
        refine wp_bipush (M := mX7_readText) (pc := 109) (v := -9) dX7_readText_109 cb_m9 ?_
        refine wp_goto (M := mX7_readText) (pc := 111) (tgt := 118) dX7_readText_111 rfl ?_
        refine wp_ireturn (M := mX7_readText) (pc := 118) rfl dX7_readText_118 ?_
        first
        | (obtain ⟨f1, rfl⟩ : ∃ f1, fu = f1 + 1 := ⟨fu - 1, by omega⟩
           rw [rmA_go (fun q => q.elim (fun q => by cases q) (fun q => q hlt))] at he
           have hb2 := rmS_bad hb
           rw [rmA_stop (Or.inl (by rw [hb2]))] at he
           have e9 : ansE res = nI p := by rw [← he]; unfold ansE; rw [hb2]; rfl
           rw [hp]
           rw [e9] at k
           exact k h F (fun q => absurd q (not9 (by omega))))
        | (rw [rmA_stop (Or.inr (by show ¬ p < n; omega))] at he
           have e9 : ansE res = -9 := by rw [← he]; rfl
           rw [e9] at k
           exact k h F (fun _ => by rw [← he]; exact hR))
        | fail "leaf"
    refine wp_aload_n (M := mX7_readText) (pc := 70) dX7_readText_70 rfl ?_
    refine so_V0 (M := mX7_readText) (pc := 71) cs_X7_readText_105 rfl rfl (LE rfl) (LE rfl) dX7_readText_71 (by first | exact Hm1.k | exact Hm.k | fail "kd") ?_
    refine sp_X7_isRoomLeft Hm hR ?_
    refine kI ?_
    refine wp_if_eq (M := mX7_readText) (pc := 74) (tgt := 98) dX7_readText_74 rfl (fun t74 => ?_) (fun f74 => ?_)
    · exact hbad (fun q => b01_z t74 q.1)
    · refine wp_aload_n (M := mX7_readText) (pc := 77) dX7_readText_77 rfl ?_
      refine wp_bipush (M := mX7_readText) (pc := 78) (v := 109) dX7_readText_78 cb_109 ?_
      refine so_V1 (M := mX7_readText) (pc := 80) cs_X7_readText_83 rfl rfl (LE rfl) (LE rfl) dX7_readText_80 (by first | exact Hm1.k | exact Hm.k | fail "kd") ?_
      refine sp_X7_passes (c := 109) Hm hX hp (by omega) (by decide) (fun hlt hc => ?_) (fun hno => ?_)
      · refine kI ?_
        have hroom := b01_n f74
        have Hm1 : MoL (si h me 10 (nI (p + 1))) me ad := Hm.D FrD.sp
        have R1 : RepR (gi (si h me 10 (nI (p + 1))) (ad 11)) A := by rw [gi_si_ne _ _ _ (Hm.ne (k := 11) rfl)]; exact hR
        have X1 := hX.sp (v := nI (p + 1)) Hm
        obtain ⟨f1, rfl⟩ : ∃ f1, fu = f1 + 1 := ⟨fu - 1, by omega⟩
        rw [rmA_go (fun q => q.elim (fun q => by cases q) (fun q => q hlt))] at he
        have eZ : rmZ s n A p = rdX s n 1 99 2 (rqX A s n (p + 1, false)) := by unfold rmZ rmQ; rw [rmL_y hroom hlt hc]
        have eL1 : (rmL s n A p).1 = p + 1 := by rw [rmL_y hroom hlt hc]
        have hle : (rdX s n 1 99 2 (rqX A s n (p + 1, false))).2.1 ≤ 160 := rdX_le n160 (rqX_le (by show p + 1 ≤ 160; omega) n160)
        have hge : p + 1 ≤ (rdX s n 1 99 2 (rqX A s n (p + 1, false))).2.1 := Nat.le_trans (rqX_ge (A := A) (s := s) (n := n) (x := (p + 1, false))) rdX_ge
        refine wp_if_eq (M := mX7_readText) (pc := 83) (tgt := 98) dX7_readText_83 rfl (fun t83 => ?_) (fun f83 => ?_)
        · exact absurd t83 (by decide)
        · refine wp_aload_n (M := mX7_readText) (pc := 86) dX7_readText_86 rfl ?_
          refine so_V0 (M := mX7_readText) (pc := 87) cs_X7_readText_108 rfl rfl (LE rfl) (LE rfl) dX7_readText_87 (by first | exact Hm2.k | exact Hm1.k) ?_
          refine sp_X7_readMessage (p := p + 1) Hm1 X1 gi_si_same (by omega) R1 (fun hok h2 F2 q2 R2 => ?_) (fun hbd h2 F2 q2 => ?_)
          · refine kI ?_
            refine wp_if_ne (M := mX7_readText) (pc := 90) (tgt := 70) dX7_readText_90 rfl (fun _ => ?_) (fun e => absurd e (by decide))
            rw [rmS_y (by rw [eZ]; exact hok), eL1, eZ, hok] at he
            exact ih f1 h2 _ _ (by omega) (Hm1.D F2) (X1.D Hm1 F2) q2 (rdX_n hok (rqX_lt hok (by show p + 1 ≤ n; omega))) R2 (F.tr (FrD.sp.tr F2)) (by omega) he
          · refine kI ?_
            refine wp_if_ne (M := mX7_readText) (pc := 90) (tgt := 70) dX7_readText_90 rfl (fun e => absurd rfl e) (fun _ => ?_)
            have Hm2 := Hm1.D F2
            refine wp_aload_n (M := mX7_readText) (pc := 93) dX7_readText_93 rfl ?_
            refine wp_getI (M := mX7_readText) (pc := 94) fa_X7_78 rfl dX7_readText_94 Hm2.k ?_
            refine wp_ireturn (M := mX7_readText) (pc := 97) rfl dX7_readText_97 ?_
            rw [rmS_n (by rw [eZ]; exact hbd), eZ, hbd, rmA_stop (Or.inl rfl)] at he
            have e9 : ansE res = nI (rdX s n 1 99 2 (rqX A s n (p + 1, false))).2.1 := by rw [← he]; rfl
            rw [q2]
            rw [e9] at k
            exact k h2 (F.tr (FrD.sp.tr F2)) (fun q => absurd q (not9 (by omega)))
      · refine kI ?_
        refine wp_if_eq (M := mX7_readText) (pc := 83) (tgt := 98) dX7_readText_83 rfl (fun _ => ?_) (fun e => absurd rfl e)
        exact hbad (fun q => hno q.2)
set_option maxHeartbeats 4000000 in
set_option maxRecDepth 100000 in
theorem l1_X7_readText {me : Nat} {ad : Nat → Nat} {s : Nat → Nat} {n : Nat} {h0 : PH} {mid : Sta × Nat × Bool} (k : ∀ h', FrD me ad h0 h' → (ansE (rmA s n 160 mid) = -9 → RepR (gi h' (ad 11)) (rmA s n 160 mid).1) → Q (.inl (some (.int (ansE (rmA s n 160 mid))))) h') : ∀ (m : Nat) (t : Nat) (h : PH) (A : Sta) (p : Nat), 6 - t < m → (t ≤ 6) → (sN A = t) → (MoL h me ad) → (TxR h me ad s n) → (gi h me 10 = nI p) → (p ≤ n) → (RepR (gi h (ad 11)) A) → (ZrR (gi h (ad 11)) t) → (FrD me ad h0 h) → (rtA s n (6 - t) t (A, p, false) = mid) → WPx E mX7_readText 24 [some (.ref me)] [] (0, 0) h Q := by
  intro m
  induction m with
  | zero => intro t h A p hm; exact absurd hm (Nat.not_lt_zero _)
  | succ m ih =>
    intro t h A p hm ht6 et Hm hX hp hp2 hR hZ F he
    have n160 := hX.1.2
    have hout : (t = 6 ∨ ¬ (p < n ∧ s p = 116)) → WPx E mX7_readText 56 [some (.ref me)] [] (0, 0) h Q := fun hb => by
      refine wp_aload_n (M := mX7_readText) (pc := 56) dX7_readText_56 rfl ?_
      refine wp_getR (M := mX7_readText) (pc := 57) fa_X7_29 rfl dX7_readText_57 (by first | exact Hm.k | exact Hm.a rfl | fail "kd") (Hm.r rfl) ?_
      refine wp_iconst (M := mX7_readText) (pc := 60) (v := 0) dX7_readText_60 ci_0 ?_
      refine wr_iaload (M := mX7_readText) (pc := 61) dX7_readText_61 (by first | exact Hm.k | exact Hm.a rfl | fail "kd") (show (0 : Int32) = nI 0 from rfl) (by omega) (by decide) ?_
      refine wp_if_ne (M := mX7_readText) (pc := 62) (tgt := 70) dX7_readText_62 rfl (fun t62 => ?_) (fun f62 => ?_)
      · rw [hR.f0, et] at t62
        have htp : 0 < t := Nat.pos_of_ne_zero (fun e => t62 (by rw [e]; rfl))
        have em : mid = (A, p, false) := by
          rw [← he]
          rcases hb with hb | hb
          · subst hb; rfl
          · exact rtA_stop (Or.inr ⟨htp, hb⟩)
        rw [em] at k
        exact l2_X7_readText (res := rmA s n 160 (A, p, false)) (rmA_le n160 160 _ (by show p ≤ 160; omega)) k 161 160 h A p (by omega) Hm hX hp hp2 hR F (by omega) rfl
      · rw [hR.f0, et] at f62
        have ht0 : t = 0 := (i_eq (b := 0) (by omega) (by decide)).mp f62
        refine wp_aload_n (M := mX7_readText) (pc := 65) dX7_readText_65 rfl ?_
        refine wp_getI (M := mX7_readText) (pc := 66) fa_X7_78 rfl dX7_readText_66 (by first | exact Hm.k | exact Hm.a rfl | fail "kd") ?_
        refine wp_ireturn (M := mX7_readText) (pc := 69) rfl dX7_readText_69 ?_
        subst ht0
        have hb1 : ¬ (p < n ∧ s p = 116) := hb.elim (fun e => absurd e (by decide)) id
        rw [rtA_go (fun q => q.elim (fun q => by cases q) (fun q => absurd q.1 (Nat.lt_irrefl _)))] at he
        have eL : ltX s n 116 (p, false) = (p, true) := lt1_n (fun q => hb1 q.2)
        have eC : rtC s n (p, false) = (0, p, true) := by unfold rtC; rw [eL]; exact rdX_t rfl
        have eR : rtR s n (p, false) = (0, p, true) := by unfold rtR; rw [eC]; exact rdX_t rfl
        have eM : rtM s n (p, false) = (0, p, true) := by unfold rtM; rw [eR]; exact rdX_t rfl
        have e2 : (rtS s n (A, p, false)).2 = (p, true) := by show (rtM s n (p, false)).2 = _; rw [eM]
        rw [rtA_stop (Or.inl (by rw [e2]))] at he
        have e3 : rmA s n 160 mid = mid := rmA_stop (Or.inl (by rw [← he, e2]))
        rw [e3] at k
        have e9 : ansE mid = nI p := by rw [← he]; unfold ansE; rw [e2]; rfl
        rw [hp]
        rw [e9] at k
        exact k h F (fun q => absurd q (not9 (by omega)))
    refine wp_aload_n (M := mX7_readText) (pc := 24) dX7_readText_24 rfl ?_
    refine wp_getR (M := mX7_readText) (pc := 25) fa_X7_29 rfl dX7_readText_25 (by first | exact Hm.k | exact Hm.a rfl | fail "kd") (Hm.r rfl) ?_
    refine wp_iconst (M := mX7_readText) (pc := 28) (v := 0) dX7_readText_28 ci_0 ?_
    refine wr_iaload (M := mX7_readText) (pc := 29) dX7_readText_29 (by first | exact Hm.k | exact Hm.a rfl | fail "kd") (show (0 : Int32) = nI 0 from rfl) (by omega) (by decide) ?_
    refine wp_bipush (M := mX7_readText) (pc := 30) (v := 6) dX7_readText_30 cb_6 ?_
    refine wp_icmp_ge (M := mX7_readText) (pc := 32) (tgt := 56) dX7_readText_32 rfl (fun t32 => ?_) (fun f32 => ?_)
    · rw [hR.f0, et] at t32
      have e6 : t = 6 := n_ge (n := 6) ht6 (by decide) t32
      exact hout (Or.inl e6)
    · rw [hR.f0, et] at f32
      have hlt6 := n_lt (n := 6) ht6 (by decide) f32
      refine wp_aload_n (M := mX7_readText) (pc := 35) dX7_readText_35 rfl ?_
      refine wp_bipush (M := mX7_readText) (pc := 36) (v := 116) dX7_readText_36 cb_116 ?_
      refine so_V1 (M := mX7_readText) (pc := 38) cs_X7_readText_83 rfl rfl (LE rfl) (LE rfl) dX7_readText_38 (by first | exact Hm.k | exact Hm.a rfl | fail "kd") ?_
      refine sp_X7_passes (c := 116) Hm hX hp (by omega) (by decide) (fun hlt hc => ?_) (fun hno => ?_)
      · refine kI ?_
        have Hm1 : MoL (si h me 10 (nI (p + 1))) me ad := Hm.D FrD.sp
        have ea : gi (si h me 10 (nI (p + 1))) (ad 11) = gi h (ad 11) := gi_si_ne _ _ _ (Hm.ne (k := 11) rfl)
        have X1 := hX.sp (v := nI (p + 1)) Hm
        rw [show 6 - t = (6 - (t + 1)) + 1 by omega, rtA_go (fun q => q.elim (fun q => by cases q) (fun q => q.2 ⟨hlt, hc⟩))] at he
        have hle : (rtM s n (p, false)).2.1 ≤ 160 := rtM_le n160 (by show p ≤ 160; omega)
        refine wp_if_eq (M := mX7_readText) (pc := 41) (tgt := 56) dX7_readText_41 rfl (fun e => absurd e (by decide)) (fun _ => ?_)
        refine wp_aload_n (M := mX7_readText) (pc := 44) dX7_readText_44 rfl ?_
        refine so_V0 (M := mX7_readText) (pc := 45) cs_X7_readText_102 rfl rfl (LE rfl) (LE rfl) dX7_readText_45 Hm1.k ?_
        refine sp_X7_readTenant (p := p) (A := A) Hm1 X1 gi_si_same (by omega) hlt hc (by rw [ea]; exact hR) (by rw [ea, et]; exact hZ) (by omega) (fun hok h2 F2 q2 R2 Z2 => ?_) (fun hbd h2 F2 q2 => ?_)
        · refine kI ?_
          refine wp_if_ne (M := mX7_readText) (pc := 48) (tgt := 24) dX7_readText_48 rfl (fun _ => ?_) (fun e => absurd e (by decide))
          have eS : rtS s n (A, p, false) = (addT A (nI (rtC s n (p, false)).1) (nI (rtR s n (p, false)).1) (nI (rtM s n (p, false)).1), (rtM s n (p, false)).2.1, false) := by
            show (_, (rtM s n (p, false)).2) = _
            rw [show (rtM s n (p, false)).2 = ((rtM s n (p, false)).2.1, false) from Prod.ext rfl hok]
          rw [eS] at he
          exact ih (t + 1) h2 _ _ (by omega) (by omega) (by show sN A + 1 = t + 1; omega) (Hm1.D F2) (X1.D Hm1 F2) q2 (rtM_n hok) R2 (by rw [← et]; exact Z2) (F.tr (FrD.sp.tr F2)) he
        · refine kI ?_
          refine wp_if_ne (M := mX7_readText) (pc := 48) (tgt := 24) dX7_readText_48 rfl (fun e => absurd rfl e) (fun _ => ?_)
          have Hm2 := Hm1.D F2
          refine wp_aload_n (M := mX7_readText) (pc := 51) dX7_readText_51 rfl ?_
          refine wp_getI (M := mX7_readText) (pc := 52) fa_X7_78 rfl dX7_readText_52 Hm2.k ?_
          refine wp_ireturn (M := mX7_readText) (pc := 55) rfl dX7_readText_55 ?_
          have e2 : (rtS s n (A, p, false)).2 = ((rtM s n (p, false)).2.1, true) := by show (rtM s n (p, false)).2 = _; exact Prod.ext rfl hbd
          rw [rtA_stop (Or.inl (by rw [e2]))] at he
          have e3 : rmA s n 160 mid = mid := rmA_stop (Or.inl (by rw [← he, e2]))
          rw [e3] at k
          have e9 : ansE mid = nI (rtM s n (p, false)).2.1 := by rw [← he]; unfold ansE; rw [e2]; rfl
          rw [q2]
          rw [e9] at k
          exact k h2 (F.tr (FrD.sp.tr F2)) (fun q => absurd q (not9 (by omega)))
      · refine kI ?_
        refine wp_if_eq (M := mX7_readText) (pc := 41) (tgt := 56) dX7_readText_41 rfl (fun _ => ?_) (fun e => absurd rfl e)
        exact hout (Or.inr hno)

theorem lkP_n {s : Nat → Nat} {n : Nat} (h : (lkP s n (0, false)).2.2 = false) : (lkP s n (0, false)).2.1 ≤ n := by
  have h1 : (lkT s n (0, false)).2.2 = false := rdB_ok h
  have h2 : (lkI s n (0, false)).2.2 = false := rdB_ok h1
  have h3 : (lkW s n (0, false)).2.2 = false := rdB_ok h2
  have h4 : (ltX s n 76 (0, false)).2 = false := rdB_ok h3
  have h5 : (ltX s n 76 (0, false)).1 ≤ n := by
    unfold ltX lt1 at h4 ⊢
    split
    · rename_i q; exact q.2.1
    · rename_i q; rw [if_neg q] at h4; cases h4
  exact rdX_n h (rdX_n h1 (rdX_n h2 (rdX_n h3 h5)))

set_option maxHeartbeats 4000000 in
set_option maxRecDepth 100000 in
theorem sp_X7_readText {me : Nat} {ad : Nat → Nat} {s : Nat → Nat} {n : Nat} (Hm : MoL h me ad) (hX : TxR h me ad s n) (k : ∀ h', FrD me ad h h' → (rdE s n = -9 → RepR (gi h' (ad 11)) (rdA s n).1) → Q (.inl (some (.int (rdE s n)))) h') : WPx E mX7_readText 0 [some (.ref me)] [] (0, 0) h Q := by
  have n160 := hX.1.2
  have nm := (Hm.ne (k := 11) rfl).symm
  have F1 : FrD me ad h (si (sw h (ad 11) (upd (zr 1360 (gi h (ad 11))) 7 (-9))) me 10 0) := (RF.D RF.sw Hm).tr FrD.sp
  have Hm1 := Hm.D F1
  have X1 := hX.D Hm F1
  have ga : gi (si (sw h (ad 11) (upd (zr 1360 (gi h (ad 11))) 7 (-9))) me 10 0) (ad 11) = upd (zr 1360 (gi h (ad 11))) 7 (-9) := by rw [gi_si_ne _ _ _ nm.symm, gi_sw_at]
  refine wp_aload_n (M := mX7_readText) (pc := 0) dX7_readText_0 rfl ?_
  refine wp_getR (M := mX7_readText) (pc := 1) fa_X7_29 rfl dX7_readText_1 (by first | exact Hm1.k | exact Hm.k | fail "kd") (Hm.r rfl) ?_
  refine so_S1 (M := mX7_readText) (pc := 4) cs_X7_readText_47 rfl rfl (LE rfl) (LE rfl) dX7_readText_4 ?_
  refine sp_X7_clear (Hm.a rfl) ?_
  refine kV ?_
  refine wp_aload_n (M := mX7_readText) (pc := 7) dX7_readText_7 rfl ?_
  refine wp_iconst (M := mX7_readText) (pc := 8) (v := 0) dX7_readText_8 ci_0 ?_
  refine wp_putI (M := mX7_readText) (pc := 9) fa_X7_78 (Or.inl rfl) dX7_readText_9 (by first | exact Hm1.k | exact Hm.k | fail "kd") ?_
  refine wp_aload_n (M := mX7_readText) (pc := 12) dX7_readText_12 rfl ?_
  refine so_V0 (M := mX7_readText) (pc := 13) cs_X7_readText_98 rfl rfl (LE rfl) (LE rfl) dX7_readText_13 (by first | exact Hm1.k | exact Hm.k | fail "kd") ?_
  refine sp_X7_readHead (p := 0) Hm1 X1 gi_si_same (by omega) (fun hok h2 F2 q2 g2 => ?_) (fun hbd h2 F2 q2 => ?_)
  · refine kI ?_
    refine wp_if_ne (M := mX7_readText) (pc := 16) (tgt := 24) dX7_readText_16 rfl (fun _ => ?_) (fun e => absurd e (by decide))
    have hrep := rep_head (f := gi h (ad 11)) (w := nI (lkW s n (0, false)).1) (iv := nI (lkI s n (0, false)).1) (tm := nI (lkT s n (0, false)).1) (pn := nI (lkP s n (0, false)).1) rfl
    rw [ga] at g2
    have eE : lkE s n (0, false) = (lkA s n (0, false), (lkP s n (0, false)).2.1, false) := by
      show (_, (lkP s n (0, false)).2) = _
      rw [show (lkP s n (0, false)).2 = ((lkP s n (0, false)).2.1, false) from Prod.ext rfl hok]
    exact l1_X7_readText (s := s) (n := n) (h0 := h) (mid := rtA s n 6 0 (lkE s n (0, false))) k 7 0 h2 (lkA s n (0, false)) (lkP s n (0, false)).2.1 (by omega) (by omega) rfl (Hm1.D F2) (X1.D Hm1 F2) q2 (lkP_n hok) (by rw [g2]; exact hrep.1) (by rw [g2]; exact hrep.2) (F1.tr F2) (by rw [eE])
  · refine kI ?_
    refine wp_if_ne (M := mX7_readText) (pc := 16) (tgt := 24) dX7_readText_16 rfl (fun e => absurd rfl e) (fun _ => ?_)
    refine wp_aload_n (M := mX7_readText) (pc := 19) dX7_readText_19 rfl ?_
    refine wp_getI (M := mX7_readText) (pc := 20) fa_X7_78 rfl dX7_readText_20 (Hm1.D F2).k ?_
    refine wp_ireturn (M := mX7_readText) (pc := 23) rfl dX7_readText_23 ?_
    have hle : (lkP s n (0, false)).2.1 ≤ 160 := rdX_le n160 (rdX_le n160 (rdX_le n160 (rdX_le n160 (lt1_le (by decide) n160))))
    have e1 : rtA s n 6 0 (lkE s n (0, false)) = lkE s n (0, false) := rtA_stop (Or.inl hbd)
    have e2 : rdA s n = lkE s n (0, false) := by unfold rdA; rw [e1]; exact rmA_stop (Or.inl hbd)
    have e9 : rdE s n = nI (lkP s n (0, false)).2.1 := by unfold rdE; rw [e2]; exact if_pos hbd
    rw [q2]
    rw [e9] at k
    exact k h2 (F1.tr F2) (fun q => absurd q (not9 (by omega)))
end SP
