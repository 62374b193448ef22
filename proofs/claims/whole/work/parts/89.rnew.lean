section SP
variable {E : Ev} {h : PH} {Q : Rt → PH → Prop}
def iad (b1 b2 b3 b6 b7 b8 b11 b12 b14 b15 b16 b20 : Nat) : Nat → Nat
  | 1 => b1
  | 2 => b2
  | 3 => b3
  | 6 => b6
  | 7 => b7
  | 8 => b8
  | 11 => b11
  | 12 => b12
  | 14 => b14
  | 15 => b15
  | 16 => b16
  | 20 => b20
  | _ => 0
theorem ini_step {w : PH} {a me k : Nat} {κ : Kd} (hk : kd w me = some (.inl 7)) (ht : tg w me = (me, 0, 0)) (hn : kd w a = none) :
    (kd (sr (nw w a κ (me, k, 0)) me k (some a)) me = some (.inl 7) ∧ tg (sr (nw w a κ (me, k, 0)) me k (some a)) me = (me, 0, 0)) ∧
    (gr (sr (nw w a κ (me, k, 0)) me k (some a)) me k = some a ∧ kd (sr (nw w a κ (me, k, 0)) me k (some a)) a = some κ ∧ tg (sr (nw w a κ (me, k, 0)) me k (some a)) a = (me, k, 0) ∧ gi (sr (nw w a κ (me, k, 0)) me k (some a)) a = fun _ => 0) ∧
    (∀ x κ', kd w x = some κ' → kd (sr (nw w a κ (me, k, 0)) me k (some a)) x = some κ' ∧ tg (sr (nw w a κ (me, k, 0)) me k (some a)) x = tg w x ∧ gi (sr (nw w a κ (me, k, 0)) me k (some a)) x = gi w x) ∧
    (∀ j, j ≠ k → gr (sr (nw w a κ (me, k, 0)) me k (some a)) me j = gr w me j) ∧ FrA (fun x => x = me) w (sr (nw w a κ (me, k, 0)) me k (some a)) := by
  have hne : me ≠ a := nek hk hn
  refine ⟨⟨kd_sn hk hn, (tg_sn_ne hne).trans ht⟩, ⟨gr_sn_at, kd_sn_at, tg_sn_at, by rw [gi_sr, gi_nw, u1_at]⟩, fun x κ' hx => ⟨kd_sn hx hn, tg_sn_ne (nek hx hn), by rw [gi_sr, gi_nw, u1_ne _ _ (nek hx hn)]⟩, fun j hj => gr_sn_ne hj hne, frA_sn rfl hn⟩
/-- what is known of an object's row -/
def RowK (w : PH) (me k a tc N : Nat) : Prop := gr w me k = some a ∧ kd w a = some (.inr (tc, N)) ∧ tg w a = (me, k, 0) ∧ gi w a = fun _ => 0
theorem RowK.mv {w w' : PH} {me k a tc N : Nat} (H : RowK w me k a tc N) (h1 : ∀ x κ', kd w x = some κ' → kd w' x = some κ' ∧ tg w' x = tg w x ∧ gi w' x = gi w x) (h2 : gr w' me k = gr w me k) : RowK w' me k a tc N := by
  obtain ⟨q1, q2, q3, q4⟩ := H
  obtain ⟨p1, p2, p3⟩ := h1 a _ q2
  exact ⟨h2.trans q1, p1, p2.trans q3, p3.trans q4⟩
theorem rep_ini : RepR (upd (upd (upd (upd (upd (upd (upd (zr 1360 (fun _ => 0)) 7 (-9)) 0 1) 1 1) 2 1) 3 1) 58 1) 60 1) (xA iniX) := by
  have g : ∀ j, upd (upd (upd (upd (upd (upd (upd (zr 1360 (fun _ => 0)) 7 (-9)) 0 1) 1 1) 2 1) 3 1) 58 1) 60 1 j = if j = 60 then 1 else if j = 58 then 1 else if j = 3 then 1 else if j = 2 then 1 else if j = 1 then 1 else if j = 0 then 1 else if j = 7 then -9 else 0 := fun j => by
    unfold upd zr
    simp only [ite_self]
  refine ⟨?_, fun t ht => ?_, fun i hi => absurd hi (Nat.not_lt_zero _)⟩
  · unfold RowN
    simp only [g]
    exact ⟨⟨rfl, by decide⟩, ⟨rfl, by decide⟩, rfl, rfl, rfl, rfl, rfl, rfl, rfl, rfl⟩
  · have ht' : t < 1 := ht
    have e : t = 0 := by omega
    subst e
    refine ⟨fun k hk => ?_, ⟨?_, by decide⟩, fun j hj => absurd hj (Nat.not_lt_zero _), ⟨?_, by decide⟩, fun j hj => absurd hj (Nat.not_lt_zero _)⟩
    · rw [g]
      rcases (show k = 0 ∨ k = 1 ∨ k = 2 ∨ k = 3 ∨ k = 4 ∨ k = 5 ∨ k = 6 by omega) with rfl | rfl | rfl | rfl | rfl | rfl | rfl <;> rfl
    · rw [g]; rfl
    · rw [g]; rfl
set_option maxHeartbeats 4000000 in
set_option maxRecDepth 100000 in
theorem sp_X7_init {me : Nat} (hk : kd h me = some (.inl 7)) (ht : tg h me = (me, 0, 0)) (hz : ∀ j, gi h me j = 0) (k : ∀ h' ad, WM h' me ad iniX → FrA (fun x => x = me) h h' → Q (.inl none) h') : WPx E mX7_init 0 [some (.ref me)] [] (12, 26157) h Q := by
  refine wp_aload_n (M := mX7_init) (pc := 0) dX7_init_0 rfl ?_
  refine wp_objInit (M := mX7_init) (pc := 1) wl_X7_1 w_objI w_objC (LE rfl) (LE rfl) dX7_init_1 ?_
  refine wp_aload_n (M := mX7_init) (pc := 4) dX7_init_4 rfl ?_
  refine wp_sipush (M := mX7_init) (pc := 5) (v := 1360) dX7_init_5 ch_1360 ?_
  refine wp_newI (M := mX7_init) (pc := 8) (N := 1360) wa_int (fun _ => (me, 1, 0)) (by decide) (by decide) (by decide) (by decide) (by decide) dX7_init_8 (fun a8 n8 => ?_)
  refine so_putR (M := mX7_init) (pc := 10) fa_X7_7 (fun _ => ⟨rfl, _, _, rfl⟩) rfl dX7_init_10 (kd_old hk n8) ?_
  obtain ⟨⟨k1, t1⟩, ⟨r1, r2, r3, r4⟩, v1, g1, F1⟩ := ini_step (a := a8) (k := 1) (κ := .inr (0, 1360)) hk ht n8
  have P1 : RowK (sr (nw h a8 (.inr (0, 1360)) (me, 1, 0)) me 1 (some a8)) me 1 a8 0 1360 := ⟨r1, r2, r3, r4⟩
  have m1 : gi (sr (nw h a8 (.inr (0, 1360)) (me, 1, 0)) me 1 (some a8)) me = gi h me := (v1 me _ hk).2.2
  have O1 : FrA (fun x => x = me) h (sr (nw h a8 (.inr (0, 1360)) (me, 1, 0)) me 1 (some a8)) := F1
  generalize sr (nw h a8 (.inr (0, 1360)) (me, 1, 0)) me 1 (some a8) = w1 at *
  refine wp_aload_n (M := mX7_init) (pc := 13) dX7_init_13 rfl ?_
  refine wp_sipush (M := mX7_init) (pc := 14) (v := 1360) dX7_init_14 ch_1360 ?_
  refine wp_newI (M := mX7_init) (pc := 17) (N := 1360) wa_int (fun _ => (me, 2, 0)) (by decide) (by decide) (by decide) (by decide) (by decide) dX7_init_17 (fun a17 n17 => ?_)
  refine so_putR (M := mX7_init) (pc := 19) fa_X7_13 (fun _ => ⟨rfl, _, _, rfl⟩) rfl dX7_init_19 (kd_old k1 n17) ?_
  obtain ⟨⟨k2, t2⟩, ⟨r1, r2, r3, r4⟩, v2, g2, F2⟩ := ini_step (a := a17) (k := 2) (κ := .inr (0, 1360)) k1 t1 n17
  have P2 : RowK (sr (nw w1 a17 (.inr (0, 1360)) (me, 2, 0)) me 2 (some a17)) me 2 a17 0 1360 := ⟨r1, r2, r3, r4⟩
  have P1 := P1.mv v2 (g2 1 (by decide))
  have m2 : gi (sr (nw w1 a17 (.inr (0, 1360)) (me, 2, 0)) me 2 (some a17)) me = gi h me := ((v2 me _ k1).2.2).trans m1
  have O2 : FrA (fun x => x = me) h (sr (nw w1 a17 (.inr (0, 1360)) (me, 2, 0)) me 2 (some a17)) := O1.tr F2 (fun _ _ _ e => e)
  generalize sr (nw w1 a17 (.inr (0, 1360)) (me, 2, 0)) me 2 (some a17) = w2 at *
  refine wp_aload_n (M := mX7_init) (pc := 22) dX7_init_22 rfl ?_
  refine wp_sipush (M := mX7_init) (pc := 23) (v := 19040) dX7_init_23 ch_19040 ?_
  refine wp_newI (M := mX7_init) (pc := 26) (N := 19040) wa_int (fun _ => (me, 3, 0)) (by decide) (by decide) (by decide) (by decide) (by decide) dX7_init_26 (fun a26 n26 => ?_)
  refine so_putR (M := mX7_init) (pc := 28) fa_X7_16 (fun _ => ⟨rfl, _, _, rfl⟩) rfl dX7_init_28 (kd_old k2 n26) ?_
  obtain ⟨⟨k3, t3⟩, ⟨r1, r2, r3, r4⟩, v3, g3, F3⟩ := ini_step (a := a26) (k := 3) (κ := .inr (0, 19040)) k2 t2 n26
  have P3 : RowK (sr (nw w2 a26 (.inr (0, 19040)) (me, 3, 0)) me 3 (some a26)) me 3 a26 0 19040 := ⟨r1, r2, r3, r4⟩
  have P1 := P1.mv v3 (g3 1 (by decide))
  have P2 := P2.mv v3 (g3 2 (by decide))
  have m3 : gi (sr (nw w2 a26 (.inr (0, 19040)) (me, 3, 0)) me 3 (some a26)) me = gi h me := ((v3 me _ k2).2.2).trans m2
  have O3 : FrA (fun x => x = me) h (sr (nw w2 a26 (.inr (0, 19040)) (me, 3, 0)) me 3 (some a26)) := O2.tr F3 (fun _ _ _ e => e)
  generalize sr (nw w2 a26 (.inr (0, 19040)) (me, 3, 0)) me 3 (some a26) = w3 at *
  refine wp_aload_n (M := mX7_init) (pc := 31) dX7_init_31 rfl ?_
  refine wp_sipush (M := mX7_init) (pc := 32) (v := 2720) dX7_init_32 ch_2720 ?_
  refine wp_newI (M := mX7_init) (pc := 35) (N := 2720) wa_int (fun _ => (me, 6, 0)) (by decide) (by decide) (by decide) (by decide) (by decide) dX7_init_35 (fun a35 n35 => ?_)
  refine so_putR (M := mX7_init) (pc := 37) fa_X7_19 (fun _ => ⟨rfl, _, _, rfl⟩) rfl dX7_init_37 (kd_old k3 n35) ?_
  obtain ⟨⟨k4, t4⟩, ⟨r1, r2, r3, r4⟩, v4, g4, F4⟩ := ini_step (a := a35) (k := 6) (κ := .inr (0, 2720)) k3 t3 n35
  have P6 : RowK (sr (nw w3 a35 (.inr (0, 2720)) (me, 6, 0)) me 6 (some a35)) me 6 a35 0 2720 := ⟨r1, r2, r3, r4⟩
  have P1 := P1.mv v4 (g4 1 (by decide))
  have P2 := P2.mv v4 (g4 2 (by decide))
  have P3 := P3.mv v4 (g4 3 (by decide))
  have m4 : gi (sr (nw w3 a35 (.inr (0, 2720)) (me, 6, 0)) me 6 (some a35)) me = gi h me := ((v4 me _ k3).2.2).trans m3
  have O4 : FrA (fun x => x = me) h (sr (nw w3 a35 (.inr (0, 2720)) (me, 6, 0)) me 6 (some a35)) := O3.tr F4 (fun _ _ _ e => e)
  generalize sr (nw w3 a35 (.inr (0, 2720)) (me, 6, 0)) me 6 (some a35) = w4 at *
  refine wp_aload_n (M := mX7_init) (pc := 40) dX7_init_40 rfl ?_
  refine wp_iconst (M := mX7_init) (pc := 41) (v := 2) dX7_init_41 ci_2 ?_
  refine wp_newZ (M := mX7_init) (pc := 42) (N := 2) wa_boolean (fun _ => (me, 7, 0)) (by decide) (by decide) (by decide) (by decide) (by decide) dX7_init_42 (fun a42 n42 => ?_)
  refine so_putR (M := mX7_init) (pc := 44) fa_X7_22 (fun _ => ⟨rfl, _, _, rfl⟩) rfl dX7_init_44 (kd_old k4 n42) ?_
  obtain ⟨⟨k5, t5⟩, ⟨r1, r2, r3, r4⟩, v5, g5, F5⟩ := ini_step (a := a42) (k := 7) (κ := .inr (1, 2)) k4 t4 n42
  have P7 : RowK (sr (nw w4 a42 (.inr (1, 2)) (me, 7, 0)) me 7 (some a42)) me 7 a42 1 2 := ⟨r1, r2, r3, r4⟩
  have P1 := P1.mv v5 (g5 1 (by decide))
  have P2 := P2.mv v5 (g5 2 (by decide))
  have P3 := P3.mv v5 (g5 3 (by decide))
  have P6 := P6.mv v5 (g5 6 (by decide))
  have m5 : gi (sr (nw w4 a42 (.inr (1, 2)) (me, 7, 0)) me 7 (some a42)) me = gi h me := ((v5 me _ k4).2.2).trans m4
  have O5 : FrA (fun x => x = me) h (sr (nw w4 a42 (.inr (1, 2)) (me, 7, 0)) me 7 (some a42)) := O4.tr F5 (fun _ _ _ e => e)
  generalize sr (nw w4 a42 (.inr (1, 2)) (me, 7, 0)) me 7 (some a42) = w5 at *
  refine wp_aload_n (M := mX7_init) (pc := 47) dX7_init_47 rfl ?_
  refine wp_sipush (M := mX7_init) (pc := 48) (v := 160) dX7_init_48 ch_160 ?_
  refine wp_newI (M := mX7_init) (pc := 51) (N := 160) wa_int (fun _ => (me, 8, 0)) (by decide) (by decide) (by decide) (by decide) (by decide) dX7_init_51 (fun a51 n51 => ?_)
  refine so_putR (M := mX7_init) (pc := 53) fa_X7_26 (fun _ => ⟨rfl, _, _, rfl⟩) rfl dX7_init_53 (kd_old k5 n51) ?_
  obtain ⟨⟨k6, t6⟩, ⟨r1, r2, r3, r4⟩, v6, g6, F6⟩ := ini_step (a := a51) (k := 8) (κ := .inr (0, 160)) k5 t5 n51
  have P8 : RowK (sr (nw w5 a51 (.inr (0, 160)) (me, 8, 0)) me 8 (some a51)) me 8 a51 0 160 := ⟨r1, r2, r3, r4⟩
  have P1 := P1.mv v6 (g6 1 (by decide))
  have P2 := P2.mv v6 (g6 2 (by decide))
  have P3 := P3.mv v6 (g6 3 (by decide))
  have P6 := P6.mv v6 (g6 6 (by decide))
  have P7 := P7.mv v6 (g6 7 (by decide))
  have m6 : gi (sr (nw w5 a51 (.inr (0, 160)) (me, 8, 0)) me 8 (some a51)) me = gi h me := ((v6 me _ k5).2.2).trans m5
  have O6 : FrA (fun x => x = me) h (sr (nw w5 a51 (.inr (0, 160)) (me, 8, 0)) me 8 (some a51)) := O5.tr F6 (fun _ _ _ e => e)
  generalize sr (nw w5 a51 (.inr (0, 160)) (me, 8, 0)) me 8 (some a51) = w6 at *
  refine wp_aload_n (M := mX7_init) (pc := 56) dX7_init_56 rfl ?_
  refine wp_sipush (M := mX7_init) (pc := 57) (v := 1360) dX7_init_57 ch_1360 ?_
  refine wp_newI (M := mX7_init) (pc := 60) (N := 1360) wa_int (fun _ => (me, 11, 0)) (by decide) (by decide) (by decide) (by decide) (by decide) dX7_init_60 (fun a60 n60 => ?_)
  refine so_putR (M := mX7_init) (pc := 62) fa_X7_29 (fun _ => ⟨rfl, _, _, rfl⟩) rfl dX7_init_62 (kd_old k6 n60) ?_
  obtain ⟨⟨k7, t7⟩, ⟨r1, r2, r3, r4⟩, v7, g7, F7⟩ := ini_step (a := a60) (k := 11) (κ := .inr (0, 1360)) k6 t6 n60
  have P11 : RowK (sr (nw w6 a60 (.inr (0, 1360)) (me, 11, 0)) me 11 (some a60)) me 11 a60 0 1360 := ⟨r1, r2, r3, r4⟩
  have P1 := P1.mv v7 (g7 1 (by decide))
  have P2 := P2.mv v7 (g7 2 (by decide))
  have P3 := P3.mv v7 (g7 3 (by decide))
  have P6 := P6.mv v7 (g7 6 (by decide))
  have P7 := P7.mv v7 (g7 7 (by decide))
  have P8 := P8.mv v7 (g7 8 (by decide))
  have m7 : gi (sr (nw w6 a60 (.inr (0, 1360)) (me, 11, 0)) me 11 (some a60)) me = gi h me := ((v7 me _ k6).2.2).trans m6
  have O7 : FrA (fun x => x = me) h (sr (nw w6 a60 (.inr (0, 1360)) (me, 11, 0)) me 11 (some a60)) := O6.tr F7 (fun _ _ _ e => e)
  generalize sr (nw w6 a60 (.inr (0, 1360)) (me, 11, 0)) me 11 (some a60) = w7 at *
  refine wp_aload_n (M := mX7_init) (pc := 65) dX7_init_65 rfl ?_
  refine wp_bipush (M := mX7_init) (pc := 66) (v := 52) dX7_init_66 cb_52 ?_
  refine wp_newI (M := mX7_init) (pc := 68) (N := 52) wa_int (fun _ => (me, 12, 0)) (by decide) (by decide) (by decide) (by decide) (by decide) dX7_init_68 (fun a68 n68 => ?_)
  refine so_putR (M := mX7_init) (pc := 70) fa_X7_32 (fun _ => ⟨rfl, _, _, rfl⟩) rfl dX7_init_70 (kd_old k7 n68) ?_
  obtain ⟨⟨k8, t8⟩, ⟨r1, r2, r3, r4⟩, v8, g8, F8⟩ := ini_step (a := a68) (k := 12) (κ := .inr (0, 52)) k7 t7 n68
  have P12 : RowK (sr (nw w7 a68 (.inr (0, 52)) (me, 12, 0)) me 12 (some a68)) me 12 a68 0 52 := ⟨r1, r2, r3, r4⟩
  have P1 := P1.mv v8 (g8 1 (by decide))
  have P2 := P2.mv v8 (g8 2 (by decide))
  have P3 := P3.mv v8 (g8 3 (by decide))
  have P6 := P6.mv v8 (g8 6 (by decide))
  have P7 := P7.mv v8 (g8 7 (by decide))
  have P8 := P8.mv v8 (g8 8 (by decide))
  have P11 := P11.mv v8 (g8 11 (by decide))
  have m8 : gi (sr (nw w7 a68 (.inr (0, 52)) (me, 12, 0)) me 12 (some a68)) me = gi h me := ((v8 me _ k7).2.2).trans m7
  have O8 : FrA (fun x => x = me) h (sr (nw w7 a68 (.inr (0, 52)) (me, 12, 0)) me 12 (some a68)) := O7.tr F8 (fun _ _ _ e => e)
  generalize sr (nw w7 a68 (.inr (0, 52)) (me, 12, 0)) me 12 (some a68) = w8 at *
  refine wp_aload_n (M := mX7_init) (pc := 73) dX7_init_73 rfl ?_
  refine wp_bipush (M := mX7_init) (pc := 74) (v := 13) dX7_init_74 cb_13 ?_
  refine wp_newI (M := mX7_init) (pc := 76) (N := 13) wa_int (fun _ => (me, 14, 0)) (by decide) (by decide) (by decide) (by decide) (by decide) dX7_init_76 (fun a76 n76 => ?_)
  refine so_putR (M := mX7_init) (pc := 78) fa_X7_35 (fun _ => ⟨rfl, _, _, rfl⟩) rfl dX7_init_78 (kd_old k8 n76) ?_
  obtain ⟨⟨k9, t9⟩, ⟨r1, r2, r3, r4⟩, v9, g9, F9⟩ := ini_step (a := a76) (k := 14) (κ := .inr (0, 13)) k8 t8 n76
  have P14 : RowK (sr (nw w8 a76 (.inr (0, 13)) (me, 14, 0)) me 14 (some a76)) me 14 a76 0 13 := ⟨r1, r2, r3, r4⟩
  have P1 := P1.mv v9 (g9 1 (by decide))
  have P2 := P2.mv v9 (g9 2 (by decide))
  have P3 := P3.mv v9 (g9 3 (by decide))
  have P6 := P6.mv v9 (g9 6 (by decide))
  have P7 := P7.mv v9 (g9 7 (by decide))
  have P8 := P8.mv v9 (g9 8 (by decide))
  have P11 := P11.mv v9 (g9 11 (by decide))
  have P12 := P12.mv v9 (g9 12 (by decide))
  have m9 : gi (sr (nw w8 a76 (.inr (0, 13)) (me, 14, 0)) me 14 (some a76)) me = gi h me := ((v9 me _ k8).2.2).trans m8
  have O9 : FrA (fun x => x = me) h (sr (nw w8 a76 (.inr (0, 13)) (me, 14, 0)) me 14 (some a76)) := O8.tr F9 (fun _ _ _ e => e)
  generalize sr (nw w8 a76 (.inr (0, 13)) (me, 14, 0)) me 14 (some a76) = w9 at *
  refine wp_aload_n (M := mX7_init) (pc := 81) dX7_init_81 rfl ?_
  refine wp_bipush (M := mX7_init) (pc := 82) (v := 13) dX7_init_82 cb_13 ?_
  refine wp_newI (M := mX7_init) (pc := 84) (N := 13) wa_int (fun _ => (me, 15, 0)) (by decide) (by decide) (by decide) (by decide) (by decide) dX7_init_84 (fun a84 n84 => ?_)
  refine so_putR (M := mX7_init) (pc := 86) fa_X7_38 (fun _ => ⟨rfl, _, _, rfl⟩) rfl dX7_init_86 (kd_old k9 n84) ?_
  obtain ⟨⟨k10, t10⟩, ⟨r1, r2, r3, r4⟩, v10, g10, F10⟩ := ini_step (a := a84) (k := 15) (κ := .inr (0, 13)) k9 t9 n84
  have P15 : RowK (sr (nw w9 a84 (.inr (0, 13)) (me, 15, 0)) me 15 (some a84)) me 15 a84 0 13 := ⟨r1, r2, r3, r4⟩
  have P1 := P1.mv v10 (g10 1 (by decide))
  have P2 := P2.mv v10 (g10 2 (by decide))
  have P3 := P3.mv v10 (g10 3 (by decide))
  have P6 := P6.mv v10 (g10 6 (by decide))
  have P7 := P7.mv v10 (g10 7 (by decide))
  have P8 := P8.mv v10 (g10 8 (by decide))
  have P11 := P11.mv v10 (g10 11 (by decide))
  have P12 := P12.mv v10 (g10 12 (by decide))
  have P14 := P14.mv v10 (g10 14 (by decide))
  have m10 : gi (sr (nw w9 a84 (.inr (0, 13)) (me, 15, 0)) me 15 (some a84)) me = gi h me := ((v10 me _ k9).2.2).trans m9
  have O10 : FrA (fun x => x = me) h (sr (nw w9 a84 (.inr (0, 13)) (me, 15, 0)) me 15 (some a84)) := O9.tr F10 (fun _ _ _ e => e)
  generalize sr (nw w9 a84 (.inr (0, 13)) (me, 15, 0)) me 15 (some a84) = w10 at *
  refine wp_aload_n (M := mX7_init) (pc := 89) dX7_init_89 rfl ?_
  refine wp_bipush (M := mX7_init) (pc := 90) (v := 13) dX7_init_90 cb_13 ?_
  refine wp_newI (M := mX7_init) (pc := 92) (N := 13) wa_int (fun _ => (me, 16, 0)) (by decide) (by decide) (by decide) (by decide) (by decide) dX7_init_92 (fun a92 n92 => ?_)
  refine so_putR (M := mX7_init) (pc := 94) fa_X7_41 (fun _ => ⟨rfl, _, _, rfl⟩) rfl dX7_init_94 (kd_old k10 n92) ?_
  obtain ⟨⟨k11, t11⟩, ⟨r1, r2, r3, r4⟩, v11, g11, F11⟩ := ini_step (a := a92) (k := 16) (κ := .inr (0, 13)) k10 t10 n92
  have P16 : RowK (sr (nw w10 a92 (.inr (0, 13)) (me, 16, 0)) me 16 (some a92)) me 16 a92 0 13 := ⟨r1, r2, r3, r4⟩
  have P1 := P1.mv v11 (g11 1 (by decide))
  have P2 := P2.mv v11 (g11 2 (by decide))
  have P3 := P3.mv v11 (g11 3 (by decide))
  have P6 := P6.mv v11 (g11 6 (by decide))
  have P7 := P7.mv v11 (g11 7 (by decide))
  have P8 := P8.mv v11 (g11 8 (by decide))
  have P11 := P11.mv v11 (g11 11 (by decide))
  have P12 := P12.mv v11 (g11 12 (by decide))
  have P14 := P14.mv v11 (g11 14 (by decide))
  have P15 := P15.mv v11 (g11 15 (by decide))
  have m11 : gi (sr (nw w10 a92 (.inr (0, 13)) (me, 16, 0)) me 16 (some a92)) me = gi h me := ((v11 me _ k10).2.2).trans m10
  have O11 : FrA (fun x => x = me) h (sr (nw w10 a92 (.inr (0, 13)) (me, 16, 0)) me 16 (some a92)) := O10.tr F11 (fun _ _ _ e => e)
  generalize sr (nw w10 a92 (.inr (0, 13)) (me, 16, 0)) me 16 (some a92) = w11 at *
  refine wp_aload_n (M := mX7_init) (pc := 97) dX7_init_97 rfl ?_
  refine wp_bipush (M := mX7_init) (pc := 98) (v := 64) dX7_init_98 cb_64 ?_
  refine wp_newI (M := mX7_init) (pc := 100) (N := 64) wa_int (fun _ => (me, 20, 0)) (by decide) (by decide) (by decide) (by decide) (by decide) dX7_init_100 (fun a100 n100 => ?_)
  refine so_putR (M := mX7_init) (pc := 102) fa_X7_44 (fun _ => ⟨rfl, _, _, rfl⟩) rfl dX7_init_102 (kd_old k11 n100) ?_
  obtain ⟨⟨k12, t12⟩, ⟨r1, r2, r3, r4⟩, v12, g12, F12⟩ := ini_step (a := a100) (k := 20) (κ := .inr (0, 64)) k11 t11 n100
  have P20 : RowK (sr (nw w11 a100 (.inr (0, 64)) (me, 20, 0)) me 20 (some a100)) me 20 a100 0 64 := ⟨r1, r2, r3, r4⟩
  have P1 := P1.mv v12 (g12 1 (by decide))
  have P2 := P2.mv v12 (g12 2 (by decide))
  have P3 := P3.mv v12 (g12 3 (by decide))
  have P6 := P6.mv v12 (g12 6 (by decide))
  have P7 := P7.mv v12 (g12 7 (by decide))
  have P8 := P8.mv v12 (g12 8 (by decide))
  have P11 := P11.mv v12 (g12 11 (by decide))
  have P12 := P12.mv v12 (g12 12 (by decide))
  have P14 := P14.mv v12 (g12 14 (by decide))
  have P15 := P15.mv v12 (g12 15 (by decide))
  have P16 := P16.mv v12 (g12 16 (by decide))
  have m12 : gi (sr (nw w11 a100 (.inr (0, 64)) (me, 20, 0)) me 20 (some a100)) me = gi h me := ((v12 me _ k11).2.2).trans m11
  have O12 : FrA (fun x => x = me) h (sr (nw w11 a100 (.inr (0, 64)) (me, 20, 0)) me 20 (some a100)) := O11.tr F12 (fun _ _ _ e => e)
  generalize sr (nw w11 a100 (.inr (0, 64)) (me, 20, 0)) me 20 (some a100) = w12 at *
  have eA : ∀ k y, fsz k = some y → gr w12 me k = some (iad a8 a17 a26 a35 a42 a51 a60 a68 a76 a84 a92 a100 k) ∧ kd w12 (iad a8 a17 a26 a35 a42 a51 a60 a68 a76 a84 a92 a100 k) = some (.inr y) ∧ tg w12 (iad a8 a17 a26 a35 a42 a51 a60 a68 a76 a84 a92 a100 k) = (me, k, 0) := fun k y e => by
    have hk9 : k = 1 ∨ k = 2 ∨ k = 3 ∨ k = 6 ∨ k = 7 ∨ k = 8 ∨ k = 11 ∨ k = 12 ∨ k = 14 ∨ k = 15 ∨ k = 16 ∨ k = 20 := by
      unfold fsz at e
      split at e <;> first | omega | cases e
    rcases hk9 with rfl | rfl | rfl | rfl | rfl | rfl | rfl | rfl | rfl | rfl | rfl | rfl
    · cases e; exact ⟨P1.1, P1.2.1, P1.2.2.1⟩
    · cases e; exact ⟨P2.1, P2.2.1, P2.2.2.1⟩
    · cases e; exact ⟨P3.1, P3.2.1, P3.2.2.1⟩
    · cases e; exact ⟨P6.1, P6.2.1, P6.2.2.1⟩
    · cases e; exact ⟨P7.1, P7.2.1, P7.2.2.1⟩
    · cases e; exact ⟨P8.1, P8.2.1, P8.2.2.1⟩
    · cases e; exact ⟨P11.1, P11.2.1, P11.2.2.1⟩
    · cases e; exact ⟨P12.1, P12.2.1, P12.2.2.1⟩
    · cases e; exact ⟨P14.1, P14.2.1, P14.2.2.1⟩
    · cases e; exact ⟨P15.1, P15.2.1, P15.2.2.1⟩
    · cases e; exact ⟨P16.1, P16.2.1, P16.2.2.1⟩
    · cases e; exact ⟨P20.1, P20.2.1, P20.2.2.1⟩
  have Hm : MoL w12 me (iad a8 a17 a26 a35 a42 a51 a60 a68 a76 a84 a92 a100) := ⟨⟨k12, t12⟩, eA⟩
  refine wp_aload_n (M := mX7_init) (pc := 105) dX7_init_105 rfl ?_
  refine wp_getR (M := mX7_init) (pc := 106) fa_X7_7 rfl dX7_init_106 k12 P1.1 ?_
  refine so_S1 (M := mX7_init) (pc := 109) cs_X7_init_47 rfl rfl (LE rfl) (LE rfl) dX7_init_109 ?_
  refine sp_X7_clear P1.2.1 ?_
  refine kV ?_
  refine wp_aload_n (M := mX7_init) (pc := 112) dX7_init_112 rfl ?_
  refine wp_getR (M := mX7_init) (pc := 113) fa_X7_7 rfl dX7_init_113 k12 P1.1 ?_
  refine wp_iconst (M := mX7_init) (pc := 116) (v := 0) dX7_init_116 ci_0 ?_
  refine wp_iconst (M := mX7_init) (pc := 117) (v := 1) dX7_init_117 ci_1 ?_
  refine wr_iastore (M := mX7_init) (pc := 118) dX7_init_118 P1.2.1 (show (0 : Int32) = nI 0 from rfl) (by omega) (by decide) ?_
  refine wp_aload_n (M := mX7_init) (pc := 119) dX7_init_119 rfl ?_
  refine wp_getR (M := mX7_init) (pc := 120) fa_X7_7 rfl dX7_init_120 k12 P1.1 ?_
  refine wp_iconst (M := mX7_init) (pc := 123) (v := 1) dX7_init_123 ci_1 ?_
  refine wp_iconst (M := mX7_init) (pc := 124) (v := 1) dX7_init_124 ci_1 ?_
  refine wr_iastore (M := mX7_init) (pc := 125) dX7_init_125 P1.2.1 (show (1 : Int32) = nI 1 from rfl) (by omega) (by decide) ?_
  refine wp_aload_n (M := mX7_init) (pc := 126) dX7_init_126 rfl ?_
  refine wp_getR (M := mX7_init) (pc := 127) fa_X7_7 rfl dX7_init_127 k12 P1.1 ?_
  refine wp_iconst (M := mX7_init) (pc := 130) (v := 2) dX7_init_130 ci_2 ?_
  refine wp_iconst (M := mX7_init) (pc := 131) (v := 1) dX7_init_131 ci_1 ?_
  refine wr_iastore (M := mX7_init) (pc := 132) dX7_init_132 P1.2.1 (show (2 : Int32) = nI 2 from rfl) (by omega) (by decide) ?_
  refine wp_aload_n (M := mX7_init) (pc := 133) dX7_init_133 rfl ?_
  refine wp_getR (M := mX7_init) (pc := 134) fa_X7_7 rfl dX7_init_134 k12 P1.1 ?_
  refine wp_iconst (M := mX7_init) (pc := 137) (v := 3) dX7_init_137 ci_3 ?_
  refine wp_iconst (M := mX7_init) (pc := 138) (v := 1) dX7_init_138 ci_1 ?_
  refine wr_iastore (M := mX7_init) (pc := 139) dX7_init_139 P1.2.1 (show (3 : Int32) = nI 3 from rfl) (by omega) (by decide) ?_
  refine wp_aload_n (M := mX7_init) (pc := 140) dX7_init_140 rfl ?_
  refine wp_getR (M := mX7_init) (pc := 141) fa_X7_7 rfl dX7_init_141 k12 P1.1 ?_
  refine wp_bipush (M := mX7_init) (pc := 144) (v := 58) dX7_init_144 cb_58 ?_
  refine wp_iconst (M := mX7_init) (pc := 146) (v := 1) dX7_init_146 ci_1 ?_
  refine wr_iastore (M := mX7_init) (pc := 147) dX7_init_147 P1.2.1 (show (58 : Int32) = nI 58 from rfl) (by omega) (by decide) ?_
  refine wp_aload_n (M := mX7_init) (pc := 148) dX7_init_148 rfl ?_
  refine wp_getR (M := mX7_init) (pc := 149) fa_X7_7 rfl dX7_init_149 k12 P1.1 ?_
  refine wp_bipush (M := mX7_init) (pc := 152) (v := 60) dX7_init_152 cb_60 ?_
  refine wp_iconst (M := mX7_init) (pc := 154) (v := 1) dX7_init_154 ci_1 ?_
  refine wr_iastore (M := mX7_init) (pc := 155) dX7_init_155 P1.2.1 (show (60 : Int32) = nI 60 from rfl) (by omega) (by decide) ?_
  refine wp_return (M := mX7_init) (pc := 156) rfl dX7_init_156 ?_
  have n1 : me ≠ a8 := (Hm.ne (k := 1) rfl).symm
  refine qgen9 (P := fun hX => MoL hX me (iad a8 a17 a26 a35 a42 a51 a60 a68 a76 a84 a92 a100) ∧ gi hX a8 = upd (upd (upd (upd (upd (upd (upd (zr 1360 (fun _ => 0)) 7 (-9)) 0 1) 1 1) 2 1) 3 1) 58 1) 60 1 ∧ (∀ x, x ≠ a8 → gi hX x = gi w12 x) ∧ FrA (fun x => x = me) h hX) ⟨Hm, ?_, fun x hx => ?_, ?_⟩ (fun hX HX => ?_)
  · simp only [gi_si_at, gi_sw_at]
    rw [P1.2.2.2]
  · rw [gi_si_ne _ _ _ hx, gi_si_ne _ _ _ hx, gi_si_ne _ _ _ hx, gi_si_ne _ _ _ hx, gi_si_ne _ _ _ hx, gi_si_ne _ _ _ hx, gi_sw_ne _ _ hx]
  · refine O12.tr (S' := fun x => x = a8) (fun x κ e => ⟨e, rfl, rfl, fun hn => ⟨?_, rfl⟩⟩) (fun x κ e e2 => ?_)
    · rw [gi_si_ne _ _ _ hn, gi_si_ne _ _ _ hn, gi_si_ne _ _ _ hn, gi_si_ne _ _ _ hn, gi_si_ne _ _ _ hn, gi_si_ne _ _ _ hn, gi_sw_ne _ _ hn]
    · rw [e2] at e
      exact absurd e (by rw [n8]; intro q; cases q)
  · obtain ⟨X1, X2, X3, X4⟩ := HX
    have m0 : ∀ j, gi hX me j = 0 := fun j => by rw [X3 _ n1, m12]; exact hz j
    refine k hX _ ⟨X1, ?_, ⟨0, by decide, m0 5, fun i B hB => by cases hB⟩, ⟨m0 4, by decide⟩, fun j hj => Or.inl ⟨?_, rfl⟩, ⟨m0 9, by decide⟩, fun j hj => absurd hj (Nat.not_lt_zero _)⟩ X4
    · show RepR (gi hX a8) (xA iniX)
      rw [X2]; exact rep_ini
    · show gi hX a42 j = 0
      have n42 : a42 ≠ a8 := Hm.nn (j := 7) (k := 1) rfl rfl (by decide)
      rw [X3 _ n42, P7.2.2.2]
end SP
