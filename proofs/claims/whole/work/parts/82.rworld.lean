section SP
variable {E : Ev} {h : PH} {Q : Rt → PH → Prop}
/-! the reference as a whole -/
def HiR (h : PH) (ad : Nat → Nat) (x : Nat) (hs : List Sta) : Prop := ∀ i B, hs[i]? = some B → RepR (fun k => gi h (ad 3) (1360 * ((x + 13 - i) % 14) + k)) B
def SlR (h : PH) (ad : Nat → Nat) (v : Nat → Option Sta) : Prop := ∀ j, j < 2 → (gi h (ad 7) j = 0 ∧ v j = none) ∨ (gi h (ad 7) j = 1 ∧ ∃ B, v j = some B ∧ RepR (fun k => gi h (ad 6) (1360 * j + k)) B)
def WM (h : PH) (me : Nat) (ad : Nat → Nat) (X : Abs) : Prop := MoL h me ad ∧ RepR (gi h (ad 1)) (xA X) ∧ (∃ x, x < 14 ∧ gi h me 5 = nI x ∧ HiR h ad x (xH X)) ∧ (gi h me 4 = nI (xH X).length ∧ (xH X).length ≤ 14) ∧ SlR h ad (xS X) ∧ TxR h me ad (xs X) (xn X)
section
variable {h h' : PH} {me : Nat} {ad : Nat → Nat} {X : Abs}
theorem WM.co (H : WM h me ad X) (Hm : MoL h' me ad) (e4 : gi h' me 4 = gi h me 4) (e5 : gi h' me 5 = gi h me 5) (e9 : gi h' me 9 = gi h me 9) (a1 : gi h' (ad 1) = gi h (ad 1)) (a3 : gi h' (ad 3) = gi h (ad 3)) (a6 : gi h' (ad 6) = gi h (ad 6)) (a7 : gi h' (ad 7) = gi h (ad 7)) (a8 : gi h' (ad 8) = gi h (ad 8)) : WM h' me ad X := by
  obtain ⟨h1, h2, ⟨x, h3, h4, h5⟩, ⟨h6, h7⟩, h8, h9⟩ := H
  refine ⟨Hm, by rw [a1]; exact h2, ⟨x, h3, by rw [e5]; exact h4, by unfold HiR; rw [a3]; exact h5⟩, ⟨by rw [e4]; exact h6, h7⟩, by unfold SlR; rw [a6, a7]; exact h8, h9.co e9 a8⟩
abbrev Ow (me : Nat) (h h' : PH) : Prop := Fr (fun x => x = me) h h'
theorem MoL.t (H : MoL h me ad) : (tg h me).1 = me := by rw [H.1.2]
theorem MoL.ta (H : MoL h me ad) {k : Nat} {y : Nat × Nat} (e : fsz k = some y) : (tg h (ad k)).1 = me := by rw [(H.2 k y e).2.2]
theorem WM.ref {v : Int32} (H : WM h me ad X) : WM (si h me 0 v) me ad X :=
  H.co H.1 (gi_si_oth (by decide)) (gi_si_oth (by decide)) (gi_si_oth (by decide)) (gi_si_ne _ _ _ (H.1.ne (k := 1) rfl)) (gi_si_ne _ _ _ (H.1.ne (k := 3) rfl)) (gi_si_ne _ _ _ (H.1.ne (k := 6) rfl)) (gi_si_ne _ _ _ (H.1.ne (k := 7) rfl)) (gi_si_ne _ _ _ (H.1.ne (k := 8) rfl))
theorem FrB.ow (H : MoL h me ad) {Z : Nat → Prop} (F : FrB me ad Z h h') (hz : ∀ x, Z x → (tg h x).1 = me) : Ow me h h' := ⟨F.1.1, F.1.2.2.1, F.1.2.2.2, fun x hx => ⟨F.2.1 x (fun q => hx (hz x q)) (fun e => hx (by rw [e]; exact H.t)) (fun e => hx (by rw [e]; exact H.ta (k := 12) rfl)) (fun e => hx (by rw [e]; exact H.ta (k := 14) rfl)) (fun e => hx (by rw [e]; exact H.ta (k := 15) rfl)) (fun e => hx (by rw [e]; exact H.ta (k := 16) rfl)), by rw [F.1.2.1]⟩⟩
theorem FrD.ow (H : MoL h me ad) (F : FrD me ad h h') : Ow me h h' := ⟨F.1.1, F.1.2.2.1, F.1.2.2.2, fun x hx => ⟨F.2.1 x (fun e => hx (by rw [e]; exact H.t)) (fun e => hx (by rw [e]; exact H.ta (k := 11) rfl)), by rw [F.1.2.1]⟩⟩
theorem rf_ow {a : Nat} (F : RF a h h') (ha : (tg h a).1 = me) : Ow me h h' := ⟨F.kd, F.tg, F.gl, fun x hx => ⟨F.gi (fun e => hx (by rw [e]; exact ha)), by rw [F.gr]⟩⟩
/-- a bench frame over the row of trials (or none) keeps the world -/
theorem WM.B (H : WM h me ad X) (F : FrB me ad (fun x => x = ad 2) h h') : WM h' me ad X := by
  have Hm := H.1
  exact H.co (Hm.B F) (F.2.2 4 (by decide) (by decide) (by decide) (by decide)) (F.2.2 5 (by decide) (by decide) (by decide) (by decide)) (F.2.2 9 (by decide) (by decide) (by decide) (by decide))
    (F.2.1 _ (Hm.nn (j := 1) (k := 2) rfl rfl (by decide)) (Hm.ne (k := 1) rfl) (Hm.nn (j := 1) (k := 12) rfl rfl (by decide)) (Hm.nn (j := 1) (k := 14) rfl rfl (by decide)) (Hm.nn (j := 1) (k := 15) rfl rfl (by decide)) (Hm.nn (j := 1) (k := 16) rfl rfl (by decide)))
    (F.2.1 _ (Hm.nn (j := 3) (k := 2) rfl rfl (by decide)) (Hm.ne (k := 3) rfl) (Hm.nn (j := 3) (k := 12) rfl rfl (by decide)) (Hm.nn (j := 3) (k := 14) rfl rfl (by decide)) (Hm.nn (j := 3) (k := 15) rfl rfl (by decide)) (Hm.nn (j := 3) (k := 16) rfl rfl (by decide)))
    (F.2.1 _ (Hm.nn (j := 6) (k := 2) rfl rfl (by decide)) (Hm.ne (k := 6) rfl) (Hm.nn (j := 6) (k := 12) rfl rfl (by decide)) (Hm.nn (j := 6) (k := 14) rfl rfl (by decide)) (Hm.nn (j := 6) (k := 15) rfl rfl (by decide)) (Hm.nn (j := 6) (k := 16) rfl rfl (by decide)))
    (F.2.1 _ (Hm.nn (j := 7) (k := 2) rfl rfl (by decide)) (Hm.ne (k := 7) rfl) (Hm.nn (j := 7) (k := 12) rfl rfl (by decide)) (Hm.nn (j := 7) (k := 14) rfl rfl (by decide)) (Hm.nn (j := 7) (k := 15) rfl rfl (by decide)) (Hm.nn (j := 7) (k := 16) rfl rfl (by decide)))
    (F.2.1 _ (Hm.nn (j := 8) (k := 2) rfl rfl (by decide)) (Hm.ne (k := 8) rfl) (Hm.nn (j := 8) (k := 12) rfl rfl (by decide)) (Hm.nn (j := 8) (k := 14) rfl rfl (by decide)) (Hm.nn (j := 8) (k := 15) rfl rfl (by decide)) (Hm.nn (j := 8) (k := 16) rfl rfl (by decide)))
/-- a change of the present row (and the bench) -/
theorem WM.n {B : Sta} (H : WM h me ad X) (F : FrB me ad (fun x => x = ad 1) h h') (hR : RepR (gi h' (ad 1)) B) : WM h' me ad (B, X.2) := by
  have Hm := H.1
  obtain ⟨h1, h2, ⟨x, h3, h4, h5⟩, ⟨h6, h7⟩, h8, h9⟩ := H
  have e : ∀ j y, j ≠ 1 → j ≠ 12 → j ≠ 14 → j ≠ 15 → j ≠ 16 → fsz j = some y → gi h' (ad j) = gi h (ad j) := fun j y q1 q2 q3 q4 q5 e => F.2.1 _ (Hm.nn (k := 1) e rfl q1) (Hm.ne e) (Hm.nn (k := 12) e rfl q2) (Hm.nn (k := 14) e rfl q3) (Hm.nn (k := 15) e rfl q4) (Hm.nn (k := 16) e rfl q5)
  refine ⟨Hm.B F, hR, ⟨x, h3, by rw [F.2.2 5 (by decide) (by decide) (by decide) (by decide)]; exact h4, by unfold HiR; rw [e 3 _ (by decide) (by decide) (by decide) (by decide) (by decide) rfl]; exact h5⟩, ⟨by rw [F.2.2 4 (by decide) (by decide) (by decide) (by decide)]; exact h6, h7⟩, by unfold SlR; rw [e 6 _ (by decide) (by decide) (by decide) (by decide) (by decide) rfl, e 7 _ (by decide) (by decide) (by decide) (by decide) (by decide) rfl]; exact h8, h9.co (F.2.2 9 (by decide) (by decide) (by decide) (by decide)) (e 8 _ (by decide) (by decide) (by decide) (by decide) (by decide) rfl)⟩
theorem WM.D (H : WM h me ad X) (F : FrD me ad h h') : WM h' me ad X := by
  have Hm := H.1
  have e : ∀ j y, j ≠ 11 → fsz j = some y → gi h' (ad j) = gi h (ad j) := fun j y q1 e => F.2.1 _ (Hm.ne e) (Hm.nn (k := 11) e rfl q1)
  exact H.co (Hm.D F) (F.2.2 4 (by decide)) (F.2.2 5 (by decide)) (F.2.2 9 (by decide)) (e 1 _ (by decide) rfl) (e 3 _ (by decide) rfl) (e 6 _ (by decide) rfl) (e 7 _ (by decide) rfl) (e 8 _ (by decide) rfl)
theorem MoL.na (Hm : MoL h me ad) {j : Nat} {y : Nat × Nat} (e : fsz j = some y) (h1 : j ≠ 12) (h2 : j ≠ 14) (h3 : j ≠ 15) (h4 : j ≠ 16) : ad j ≠ me ∧ ∀ k y, (k = 12 ∨ k = 14 ∨ k = 15 ∨ k = 16) → fsz k = some y → ad j ≠ ad k := ⟨Hm.ne e, fun k z hk ez => Hm.nn e ez (by omega)⟩
/-- the present state is noted -/
theorem WM.note {x : Nat} (H : WM h me ad X) (hx : gi h me 5 = nI x) (hx14 : x < 14) (hH : HiR h ad x (xH X)) : WM (si (si (sw h (ad 3) (va_cpy (gi h (ad 1)) (gi h (ad 3)) 0 (1360 * x) 1360)) me 5 (nI ((x + 1) % 14))) me 4 (nI (min 14 ((xH X).length + 1)))) me ad (remX X) := by
  have Hm := H.1
  obtain ⟨h1, h2, -, ⟨h6, h7⟩, h8, h9⟩ := H
  have e : ∀ j y, j ≠ 3 → fsz j = some y → gi (si (si (sw h (ad 3) (va_cpy (gi h (ad 1)) (gi h (ad 3)) 0 (1360 * x) 1360)) me 5 (nI ((x + 1) % 14))) me 4 (nI (min 14 ((xH X).length + 1)))) (ad j) = gi h (ad j) := fun j y q1 e => by rw [gi_si_ne _ _ _ (Hm.ne e), gi_si_ne _ _ _ (Hm.ne e), gi_sw_ne _ _ (Hm.nn (k := 3) e rfl q1)]
  have e3 : gi (si (si (sw h (ad 3) (va_cpy (gi h (ad 1)) (gi h (ad 3)) 0 (1360 * x) 1360)) me 5 (nI ((x + 1) % 14))) me 4 (nI (min 14 ((xH X).length + 1)))) (ad 3) = va_cpy (gi h (ad 1)) (gi h (ad 3)) 0 (1360 * x) 1360 := by rw [gi_si_ne _ _ _ (Hm.ne (k := 3) rfl), gi_si_ne _ _ _ (Hm.ne (k := 3) rfl), gi_sw_at]
  refine ⟨Hm, by rw [e 1 _ (by decide) rfl]; exact h2, ⟨(x + 1) % 14, Nat.mod_lt _ (by decide), by rw [gi_si_oth (by decide), gi_si_same], ?_⟩, ⟨?_, ?_⟩, by unfold SlR; rw [e 6 _ (by decide) rfl, e 7 _ (by decide) rfl]; exact h8, h9.co ?_ (e 8 _ (by decide) rfl)⟩
  · unfold HiR
    rw [e3]
    intro i B hB
    have hB' : ((xA X :: xH X).take 14)[i]? = some B := hB
    have hi : i < ((xA X :: xH X).take 14).length := by
      rcases Nat.lt_or_ge i ((xA X :: xH X).take 14).length with q | q
      · exact q
      · rw [List.getElem?_eq_none q] at hB'; cases hB'
    rw [List.length_take] at hi
    have hi1 : i < 14 := by omega
    rw [List.getElem?_take_of_lt hi1] at hB'
    cases i with
    | zero =>
      have : xA X = B := Option.some.inj hB'
      rw [← this, show ((x + 1) % 14 + 13 - 0) % 14 = x by omega]
      exact h2.congr (fun j hj => by rw [pk_cpy_in (by omega) (by omega)]; congr 1; omega)
    | succ i =>
      rw [List.getElem?_cons_succ] at hB'
      rw [show ((x + 1) % 14 + 13 - (i + 1)) % 14 = (x + 13 - i) % 14 by omega]
      exact (hH i B hB').congr (fun j hj => by rw [pk_cpy_out (by omega)])
  · rw [gi_si_same]; show _ = nI ((xA X :: xH X).take 14).length; rw [List.length_take]; rfl
  · show ((xA X :: xH X).take 14).length ≤ 14; rw [List.length_take]; omega
  · rw [gi_si_oth (by decide), gi_si_oth (by decide), gi_sw_ne _ _ (Hm.ne (k := 3) rfl).symm]
end
theorem i_n14 : ∀ c : Nat, c < 15 → ¬ 14 ≤ nI c → nI c + 1 = nI (min 14 (c + 1)) := by decide
theorem i_g14 : ∀ c : Nat, c < 15 → 14 ≤ nI c → (14 : Int32) = nI (min 14 (c + 1)) := by decide
def isOr (A : Sta) (t : Int32) : Prop := isO A t
theorem isO_i {A : Sta} {t : Int32} (h6 : (sO A).length ≤ 12) : wth t 0 (nI (sO A).length - 1) ↔ isO A t := by
  constructor
  · rintro ⟨h1, h2⟩
    rcases pk_ix t (n := (sO A).length) (by omega) with e | e | ⟨j, e1, e2⟩
    · exact absurd e (Int32.not_lt.mpr h1)
    · by_cases e0 : (sO A).length = 0
      · rw [e0] at h2
        exact absurd (Int32.le_trans h1 h2) (by decide)
      · rw [show nI (sO A).length - 1 = nI ((sO A).length - 1) from pk_sub (b := 1) (by omega)] at h2
        have := (i_le (by omega) (by omega)).mp (Int32.le_trans e h2)
        omega
    · exact ⟨j, e1, e2⟩
  · rintro ⟨j, e1, e2⟩
    rw [e2, show nI (sO A).length - 1 = nI ((sO A).length - 1) from pk_sub (b := 1) (by omega)]
    exact ⟨nI_pos' (by omega), (i_le (by omega) (by omega)).mpr (by omega)⟩
set_option maxHeartbeats 4000000 in
set_option maxRecDepth 100000 in
theorem sp_X7_refused0 {me : Nat} (hk : kd h me = some (.inl 7)) (k : Q (.inl (some (.int 0))) (si h me 0 0)) : WPx E mX7_refused 0 [some (.ref me), some (.int 0)] [] (0, 0) h Q := by
  refine wp_aload_n (M := mX7_refused) (pc := 0) dX7_refused_0 rfl ?_
  refine wp_iload_n (M := mX7_refused) (pc := 1) dX7_refused_1 rfl ?_
  refine wp_putI (M := mX7_refused) (pc := 2) fa_X7_51 (Or.inl rfl) dX7_refused_2 hk ?_
  refine wp_iload_n (M := mX7_refused) (pc := 5) dX7_refused_5 rfl ?_
  refine wp_if_le (M := mX7_refused) (pc := 6) (tgt := 13) dX7_refused_6 rfl (fun t6 => ?_) (fun f6 => ?_)
  · refine wp_iconst (M := mX7_refused) (pc := 13) (v := 0) dX7_refused_13 ci_0 ?_
    refine wp_zreturn (M := mX7_refused) (pc := 14) rfl (by decide) dX7_refused_14 ?_
    exact k
  · exact absurd (Int32.le_refl _) f6
set_option maxHeartbeats 4000000 in
set_option maxRecDepth 100000 in
theorem sp_X7_refused1 {me : Nat} {v : Int32} (hk : kd h me = some (.inl 7)) (hv : 0 < v) (k : Q (.inl (some (.int 1))) (si h me 0 v)) : WPx E mX7_refused 0 [some (.ref me), some (.int v)] [] (0, 0) h Q := by
  refine wp_aload_n (M := mX7_refused) (pc := 0) dX7_refused_0 rfl ?_
  refine wp_iload_n (M := mX7_refused) (pc := 1) dX7_refused_1 rfl ?_
  refine wp_putI (M := mX7_refused) (pc := 2) fa_X7_51 (Or.inl rfl) dX7_refused_2 hk ?_
  refine wp_iload_n (M := mX7_refused) (pc := 5) dX7_refused_5 rfl ?_
  refine wp_if_le (M := mX7_refused) (pc := 6) (tgt := 13) dX7_refused_6 rfl (fun t6 => ?_) (fun f6 => ?_)
  · exact absurd hv (Int32.not_lt.mpr t6)
  · refine wp_iconst (M := mX7_refused) (pc := 9) (v := 1) dX7_refused_9 ci_1 ?_
    refine wp_goto (M := mX7_refused) (pc := 10) (tgt := 14) dX7_refused_10 rfl ?_
    refine wp_zreturn (M := mX7_refused) (pc := 14) rfl (by decide) dX7_refused_14 ?_
    exact k
set_option maxHeartbeats 4000000 in
set_option maxRecDepth 100000 in
theorem sp_X7_thrown {me : Nat} (hk : kd h me = some (.inl 7)) (k : Q (.inl (some (.int (gi h me 0)))) h) : WPx E mX7_thrown 0 [some (.ref me)] [] (0, 0) h Q := by
  refine wp_aload_n (M := mX7_thrown) (pc := 0) dX7_thrown_0 rfl ?_
  refine wp_getI (M := mX7_thrown) (pc := 1) fa_X7_51 rfl dX7_thrown_1 hk ?_
  refine wp_ireturn (M := mX7_thrown) (pc := 4) rfl dX7_thrown_4 ?_
  exact k
set_option maxHeartbeats 4000000 in
set_option maxRecDepth 100000 in
theorem sp_X7_note {me : Nat} {ad : Nat → Nat} {X : Abs} (H : WM h me ad X) (k : ∀ h', WM h' me ad (remX X) → gi h' me 0 = gi h me 0 → Ow me h h' → Q (.inl none) h') : WPx E mX7_note 0 [some (.ref me)] [] (0, 0) h Q := by
  have Hm := H.1
  obtain ⟨x, hx14, hx, hH⟩ := H.2.2.1
  have h4 := H.2.2.2.1.1
  have hl := H.2.2.2.1.2
  have nm3 := (Hm.ne (k := 3) rfl).symm
  have g5 : gi (sw h (ad 3) (va_cpy (gi h (ad 1)) (gi h (ad 3)) 0 (1360 * x) 1360)) me = gi h me := gi_sw_ne _ _ nm3
  refine wp_aload_n (M := mX7_note) (pc := 0) dX7_note_0 rfl ?_
  refine wp_getR (M := mX7_note) (pc := 1) fa_X7_7 rfl dX7_note_1 Hm.k (Hm.r rfl) ?_
  refine wp_iconst (M := mX7_note) (pc := 4) (v := 0) dX7_note_4 ci_0 ?_
  refine wp_aload_n (M := mX7_note) (pc := 5) dX7_note_5 rfl ?_
  refine wp_getR (M := mX7_note) (pc := 6) fa_X7_16 rfl dX7_note_6 Hm.k (Hm.r rfl) ?_
  refine wp_sipush (M := mX7_note) (pc := 9) (v := 1360) dX7_note_9 ch_1360 ?_
  refine wp_aload_n (M := mX7_note) (pc := 12) dX7_note_12 rfl ?_
  refine wp_getI (M := mX7_note) (pc := 13) fa_X7_55 rfl dX7_note_13 Hm.k ?_
  refine wp_imul (M := mX7_note) (pc := 16) dX7_note_16 ?_
  refine so_S4 (M := mX7_note) (pc := 17) cs_X7_note_58 rfl rfl (LE rfl) (LE rfl) dX7_note_17 ?_
  rw [hx, show (1360 : Int32) * nI x = nI (1360 * x) from im (show (1360 : Int32) = nI 1360 from rfl) rfl]
  refine sp_X7_copy (N1 := 1360) (N2 := 19040) (x := 0) (Hm.a (k := 1) rfl) (Hm.a (k := 3) rfl) (Hm.nn (j := 1) (k := 3) rfl rfl (by decide)) (by decide) (by decide) (by decide) (by omega) ?_
  refine kV ?_
  refine wp_aload_n (M := mX7_note) (pc := 20) dX7_note_20 rfl ?_
  refine wp_aload_n (M := mX7_note) (pc := 21) dX7_note_21 rfl ?_
  refine wp_getI (M := mX7_note) (pc := 22) fa_X7_55 rfl dX7_note_22 Hm.k ?_
  refine wp_iconst (M := mX7_note) (pc := 25) (v := 1) dX7_note_25 ci_1 ?_
  refine wp_iadd (M := mX7_note) (pc := 26) dX7_note_26 ?_
  refine wp_bipush (M := mX7_note) (pc := 27) (v := 14) dX7_note_27 cb_14 ?_
  refine wp_irem (M := mX7_note) (pc := 29) dX7_note_29 (by decide) ?_
  refine wp_putI (M := mX7_note) (pc := 30) fa_X7_55 (Or.inl rfl) dX7_note_30 Hm.k ?_
  refine wp_aload_n (M := mX7_note) (pc := 33) dX7_note_33 rfl ?_
  refine wp_aload_n (M := mX7_note) (pc := 34) dX7_note_34 rfl ?_
  refine wp_getI (M := mX7_note) (pc := 35) fa_X7_62 rfl dX7_note_35 Hm.k ?_
  refine wp_bipush (M := mX7_note) (pc := 38) (v := 14) dX7_note_38 cb_14 ?_
  refine wp_icmp_ge (M := mX7_note) (pc := 40) (tgt := 52) dX7_note_40 rfl (fun t40 => ?_) (fun f40 => ?_)
  · refine wp_bipush (M := mX7_note) (pc := 52) (v := 14) dX7_note_52 cb_14 ?_
    refine wp_putI (M := mX7_note) (pc := 54) fa_X7_62 (Or.inl rfl) dX7_note_54 Hm.k ?_
    refine wp_return (M := mX7_note) (pc := 57) rfl dX7_note_57 ?_
    have F : Ow me h (si (si (sw h (ad 3) (va_cpy (gi h (ad 1)) (gi h (ad 3)) 0 (1360 * x) 1360)) me 5 (nI ((x + 1) % 14))) me 4 (nI (min 14 ((xH X).length + 1)))) := (Fr.sw (Hm.ta (k := 3) rfl)).tr ((Fr.si (show (tg h me).1 = me from Hm.t)).tr (Fr.si (show (tg h me).1 = me from Hm.t)))
    have e0 : gi (si (si (sw h (ad 3) (va_cpy (gi h (ad 1)) (gi h (ad 3)) 0 (1360 * x) 1360)) me 5 (nI ((x + 1) % 14))) me 4 (nI (min 14 ((xH X).length + 1)))) me 0 = gi h me 0 := by rw [gi_si_oth (by decide), gi_si_oth (by decide), g5]
    have kk := k _ (H.note hx hx14 hH) e0 F
    rw [g5, hx, hi_next x hx14]
    first
    | (rw [gi_si_oth (by decide), g5, h4] at t40; rw [i_g14 _ (by omega) t40]; exact kk)
    | (rw [gi_si_oth (by decide), g5, h4] at f40; rw [gi_si_oth (by decide), g5, h4, i_n14 _ (by omega) f40]; exact kk)
    | fail "leaf"
  · refine wp_aload_n (M := mX7_note) (pc := 43) dX7_note_43 rfl ?_
    refine wp_getI (M := mX7_note) (pc := 44) fa_X7_62 rfl dX7_note_44 Hm.k ?_
    refine wp_iconst (M := mX7_note) (pc := 47) (v := 1) dX7_note_47 ci_1 ?_
    refine wp_iadd (M := mX7_note) (pc := 48) dX7_note_48 ?_
    refine wp_goto (M := mX7_note) (pc := 49) (tgt := 54) dX7_note_49 rfl ?_
    refine wp_putI (M := mX7_note) (pc := 54) fa_X7_62 (Or.inl rfl) dX7_note_54 Hm.k ?_
    refine wp_return (M := mX7_note) (pc := 57) rfl dX7_note_57 ?_
    have F : Ow me h (si (si (sw h (ad 3) (va_cpy (gi h (ad 1)) (gi h (ad 3)) 0 (1360 * x) 1360)) me 5 (nI ((x + 1) % 14))) me 4 (nI (min 14 ((xH X).length + 1)))) := (Fr.sw (Hm.ta (k := 3) rfl)).tr ((Fr.si (show (tg h me).1 = me from Hm.t)).tr (Fr.si (show (tg h me).1 = me from Hm.t)))
    have e0 : gi (si (si (sw h (ad 3) (va_cpy (gi h (ad 1)) (gi h (ad 3)) 0 (1360 * x) 1360)) me 5 (nI ((x + 1) % 14))) me 4 (nI (min 14 ((xH X).length + 1)))) me 0 = gi h me 0 := by rw [gi_si_oth (by decide), gi_si_oth (by decide), g5]
    have kk := k _ (H.note hx hx14 hH) e0 F
    rw [g5, hx, hi_next x hx14]
    first
    | (rw [gi_si_oth (by decide), g5, h4] at t40; rw [i_g14 _ (by omega) t40]; exact kk)
    | (rw [gi_si_oth (by decide), g5, h4] at f40; rw [gi_si_oth (by decide), g5, h4, i_n14 _ (by omega) f40]; exact kk)
    | fail "leaf"
set_option maxHeartbeats 4000000 in
set_option maxRecDepth 100000 in
theorem sp_X7_isOrder {me : Nat} {ad : Nat → Nat} {A : Sta} {t : Int32} (Hm : MoL h me ad) (hR : RepR (gi h (ad 1)) A) (k : Q (.inl (some (.int (b01 (isO A t))))) h) : WPx E mX7_isOrder 0 [some (.ref me), some (.int t)] [] (0, 0) h Q := by
  refine wp_iload_n (M := mX7_isOrder) (pc := 0) dX7_isOrder_0 rfl ?_
  refine wp_i2l (M := mX7_isOrder) (pc := 1) dX7_isOrder_1 ?_
  refine wp_lconst (M := mX7_isOrder) (pc := 2) (v := 0) dX7_isOrder_2 cl_0 ?_
  refine wp_aload_n (M := mX7_isOrder) (pc := 3) dX7_isOrder_3 rfl ?_
  refine wp_getR (M := mX7_isOrder) (pc := 4) fa_X7_7 rfl dX7_isOrder_4 (by first | exact Hm.k | exact Hm.a rfl) (Hm.r rfl) ?_
  refine wp_bipush (M := mX7_isOrder) (pc := 7) (v := 8) dX7_isOrder_7 cb_8 ?_
  refine wr_iaload (M := mX7_isOrder) (pc := 9) dX7_isOrder_9 (by first | exact Hm.k | exact Hm.a rfl) (show (8 : Int32) = nI 8 from rfl) (by omega) (by decide) ?_
  refine wp_iconst (M := mX7_isOrder) (pc := 10) (v := 1) dX7_isOrder_10 ci_1 ?_
  refine wp_isub (M := mX7_isOrder) (pc := 11) dX7_isOrder_11 ?_
  refine wp_i2l (M := mX7_isOrder) (pc := 12) dX7_isOrder_12 ?_
  refine so_S3 (M := mX7_isOrder) (pc := 13) cs_X7_isOrder_65 rfl rfl (LE rfl) (LE rfl) dX7_isOrder_13 ?_
  refine sp_X7_in ?_
  refine kI ?_
  refine wp_zreturn (M := mX7_isOrder) (pc := 16) rfl b01_or dX7_isOrder_16 ?_
  rw [b01_iff (P' := isO A t) ((wl (x := t) (a := 0) (b := gi h (ad 1) 8 - 1) (a' := 0) (by decide) rfl).trans (by rw [hR.f8]; exact isO_i hR.n12))]
  exact k
end SP
