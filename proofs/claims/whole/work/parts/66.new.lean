section SP
variable {E : Ev} {h : PH} {Q : Rt → PH → Prop}
def iniX : Abs := (addT (bgA 1 1 1 0) 1 0 0, [], fun _ => none, fun _ => 0, 0)
theorem new_gi {h : PH} {a k : Nat} {κ : Kd} {t : Tg} : gi (nw h a κ t) a k = nI 0 := by rw [gi_nw, u1_at]; rfl
theorem oth_me {h : PH} {me a : Nat} (ht : tg h me = (me, 0, 0)) (hn : me ≠ a) : ∀ y, (tg h y).1 = a → ¬ y = me := fun y e e2 => hn (by rw [e2, ht] at e; exact e)
theorem AuT.frA {S : Nat → Prop} {h h' : PH} {u ka pa fa la : Nat} (H : AuT h u ka pa fa la) (hF : FrA S h h') (hS : ∀ y, (tg h y).1 = u → ¬ S y) : AuT h' u ka pa fa la := by
  obtain ⟨⟨a1, ⟨b1, b2, b3, b4⟩, ⟨c1, c2, c3, c4⟩, a3, a4⟩, d0, d1, d2, d3, d4⟩ := H
  have e0 := hF u _ a1
  have e1 := hF ka _ c1
  have e2 := hF pa _ c2
  have e3 := hF fa _ c3
  have e4 := hF la _ c4
  have g0 := (e0.2.2.2 (hS u d0)).2
  exact ⟨⟨e0.1, ⟨by rw [g0]; exact b1, by rw [g0]; exact b2, by rw [g0]; exact b3, by rw [g0]; exact b4⟩, ⟨e1.1, e2.1, e3.1, e4.1⟩, a3, a4⟩, by rw [e0.2.1]; exact d0, by rw [e1.2.1]; exact d1, by rw [e2.2.1]; exact d2, by rw [e3.2.1]; exact d3, by rw [e4.2.1]; exact d4⟩
set_option maxHeartbeats 4000000 in
set_option maxRecDepth 100000 in
theorem sp_X6_init {me : Nat} (hk : kd h me = some (.inl 6)) (ht : tg h me = (me, 0, 0)) (k : ∀ h', WC h' me iniX → Of h h' → Q (.inl none) h') : WPx E mX6_init 0 [some (.ref me)] [] (76, 1227) h Q := by
  refine wp_aload_n (M := mX6_init) (pc := 0) dX6_init_0 rfl ?_
  refine wp_objInit (M := mX6_init) (pc := 1) wl_X6_3 w_objI w_objC (LE rfl) (LE rfl) dX6_init_1 ?_
  refine wp_aload_n (M := mX6_init) (pc := 4) dX6_init_4 rfl ?_
  refine wp_new (M := mX6_init) (pc := 5) nw_X6_9 (fun a => (a, 0, 0)) (by decide) (by decide) dX6_init_5 (fun a5 n5 => ?_)
  refine wp_dup (M := mX6_init) (pc := 8) dX6_init_8 rfl ?_
  refine so_IA0 (M := mX6_init) (pc := 9) (43, 735) cs_X6_init_11 (LE rfl) (LE rfl) (LE rfl) (LE rfl) dX6_init_9 ?_
  refine sp_X4_init kd_newk tg_newk (fun w0 l0 P0 G0 => ?_)
  have g0 : FrA (fun _ => False) h w0 := (FrA.nw n5).tr G0 (fun y κ e q9 => absurd q9 (nek e n5))
  have k0 : kd w0 me = some (.inl 6) := (g0 me _ hk).1
  have t0 : tg w0 me = (me, 0, 0) := ((g0 me _ hk).2.1).trans ht
  have e0 : gr w0 me = gr h me := ((g0 me _ hk).2.2.2 id).2
  have d0 : me ≠ a5 := nek (show kd h me = some (.inl 6) from hk) n5
  have P0a := P0.1.1
  refine kV1 ?_
  refine so_putR (M := mX6_init) (pc := 12) fa_X6_12 (fun _ => ⟨rfl, _, _, rfl⟩) rfl dX6_init_12 k0 ?_
  refine wp_aload_n (M := mX6_init) (pc := 15) dX6_init_15 rfl ?_
  refine wp_new (M := mX6_init) (pc := 16) nw_X6_9 (fun a => (a, 0, 0)) (by decide) (by decide) dX6_init_16 (fun a16 n16 => ?_)
  refine wp_dup (M := mX6_init) (pc := 19) dX6_init_19 rfl ?_
  refine so_IA0 (M := mX6_init) (pc := 20) (10, 243) cs_X6_init_11 (LE rfl) (LE rfl) (LE rfl) (LE rfl) dX6_init_20 ?_
  refine sp_X4_init kd_newk tg_newk (fun w1 l1 P1 G1 => ?_)
  have g1 : FrA (fun _ => False) (sr w0 me 0 (some a5)) w1 := (FrA.nw n16).tr G1 (fun y κ e q9 => absurd q9 (nek e n16))
  have k1 : kd w1 me = some (.inl 6) := (g1 me _ k0).1
  have t1 : tg w1 me = (me, 0, 0) := ((g1 me _ k0).2.1).trans t0
  have e1 : gr w1 me = gr (sr w0 me 0 (some a5)) me := ((g1 me _ k0).2.2.2 id).2
  have d1 : me ≠ a16 := nek (show kd (sr w0 me 0 (some a5)) me = some (.inl 6) from k0) n16
  have m1 : FrA (fun x => x = me) w0 w1 := (FrA.sr rfl).tr g1 (fun _ _ _ q9 => absurd q9 id)
  have P0 := P0.frA m1 (oth_me t0 d0)
  have r0 : gr w1 me 0 = some a5 := by rw [e1, gr_sr, u2_at]
  have dq : a16 ≠ a5 := fun e9 => nek (show kd (sr w0 me 0 (some a5)) a5 = some (.inl 4) from P0a) n16 e9.symm
  refine kV1 ?_
  refine so_putR (M := mX6_init) (pc := 23) fa_X6_16 (fun _ => ⟨rfl, _, _, rfl⟩) rfl dX6_init_23 k1 ?_
  refine wp_aload_n (M := mX6_init) (pc := 26) dX6_init_26 rfl ?_
  refine wp_new (M := mX6_init) (pc := 27) nw_X6_19 (fun a => (a, 0, 0)) (by decide) (by decide) dX6_init_27 (fun a27 n27 => ?_)
  refine wp_dup (M := mX6_init) (pc := 30) dX6_init_30 rfl ?_
  refine so_INA0 (M := mX6_init) (pc := 31) (5, 183) cs_X6_init_21 (LE rfl) (LE rfl) (LE rfl) (LE rfl) dX6_init_31 ?_
  refine sp_X0_init kd_newk tg_newk (fun ka pa fa la w2 P2 G2 => ?_)
  have g2 : FrA (fun _ => False) (sr w1 me 1 (some a16)) w2 := (FrA.nw n27).tr G2 (fun y κ e q9 => absurd q9 (nek e n27))
  have k2 : kd w2 me = some (.inl 6) := (g2 me _ k1).1
  have t2 : tg w2 me = (me, 0, 0) := ((g2 me _ k1).2.1).trans t1
  have e2 : gr w2 me = gr (sr w1 me 1 (some a16)) me := ((g2 me _ k1).2.2.2 id).2
  have d2 : me ≠ a27 := nek (show kd (sr w1 me 1 (some a16)) me = some (.inl 6) from k1) n27
  have m2 : FrA (fun x => x = me) w1 w2 := (FrA.sr rfl).tr g2 (fun _ _ _ q9 => absurd q9 id)
  have P0 := P0.frA m2 (oth_me t1 d0)
  have P1 := P1.frA m2 (oth_me t1 d1)
  have r0 : gr w2 me 0 = some a5 := by rw [e2, gr_sr, u2_ne _ _ (Or.inr (by decide))]; exact r0
  have r1 : gr w2 me 1 = some a16 := by rw [e2, gr_sr, u2_at]
  refine kV1 ?_
  refine so_putR (M := mX6_init) (pc := 34) fa_X6_22 (fun _ => ⟨rfl, _, _, rfl⟩) rfl dX6_init_34 k2 ?_
  refine wp_aload_n (M := mX6_init) (pc := 37) dX6_init_37 rfl ?_
  refine wp_new (M := mX6_init) (pc := 38) nw_X6_26 (fun a => (a, 0, 0)) (by decide) (by decide) dX6_init_38 (fun a38 n38 => ?_)
  refine wp_dup (M := mX6_init) (pc := 41) dX6_init_41 rfl ?_
  refine so_INA0 (M := mX6_init) (pc := 42) (3, 166) cs_X6_init_28 (LE rfl) (LE rfl) (LE rfl) (LE rfl) dX6_init_42 ?_
  refine sp_X2_init kd_newk tg_newk new_gi new_gi (fun hsa w3 P3 G3 => ?_)
  have g3 : FrA (fun _ => False) (sr w2 me 2 (some a27)) w3 := (FrA.nw n38).tr G3 (fun y κ e q9 => absurd q9 (nek e n38))
  have k3 : kd w3 me = some (.inl 6) := (g3 me _ k2).1
  have t3 : tg w3 me = (me, 0, 0) := ((g3 me _ k2).2.1).trans t2
  have e3 : gr w3 me = gr (sr w2 me 2 (some a27)) me := ((g3 me _ k2).2.2.2 id).2
  have d3 : me ≠ a38 := nek (show kd (sr w2 me 2 (some a27)) me = some (.inl 6) from k2) n38
  have m3 : FrA (fun x => x = me) w2 w3 := (FrA.sr rfl).tr g3 (fun _ _ _ q9 => absurd q9 id)
  have P0 := P0.frA m3 (oth_me t2 d0)
  have P1 := P1.frA m3 (oth_me t2 d1)
  have P2 := P2.frA m3 (oth_me t2 d2)
  have r0 : gr w3 me 0 = some a5 := by rw [e3, gr_sr, u2_ne _ _ (Or.inr (by decide))]; exact r0
  have r1 : gr w3 me 1 = some a16 := by rw [e3, gr_sr, u2_ne _ _ (Or.inr (by decide))]; exact r1
  have r2 : gr w3 me 2 = some a27 := by rw [e3, gr_sr, u2_at]
  refine kV1 ?_
  refine so_putR (M := mX6_init) (pc := 45) fa_X6_29 (fun _ => ⟨rfl, _, _, rfl⟩) rfl dX6_init_45 k3 ?_
  refine wp_aload_n (M := mX6_init) (pc := 48) dX6_init_48 rfl ?_
  refine wp_iconst (M := mX6_init) (pc := 49) (v := 2) dX6_init_49 ci_2 ?_
  refine wp_newA (M := mX6_init) (pc := 50) (tc := 5) (N := 2) (by decide) wk_X6_9 (fun _ => (me, 1, 0)) (by decide) (by decide) (by decide) (by decide) (by decide) dX6_init_50 (fun a50 n50 => ?_)
  generalize ew4 : nw (sr w3 me 3 (some a38)) a50 (.inr (5, 2)) (me, 1, 0) = w4
  have g4 : FrA (fun _ => False) (sr w3 me 3 (some a38)) w4 := by rw [← ew4]; exact FrA.nw n50
  have P4 : kd w4 a50 = some (.inr (5, 2)) ∧ tg w4 a50 = (me, 1, 0) ∧ ∀ j, gr w4 a50 j = none := by rw [← ew4]; exact ⟨kd_newk, tg_newk, fun j => by rw [gr_nw, u1_at]⟩
  have k4 : kd w4 me = some (.inl 6) := (g4 me _ k3).1
  have t4 : tg w4 me = (me, 0, 0) := ((g4 me _ k3).2.1).trans t3
  have e4 : gr w4 me = gr (sr w3 me 3 (some a38)) me := ((g4 me _ k3).2.2.2 id).2
  have d4 : me ≠ a50 := nek (show kd (sr w3 me 3 (some a38)) me = some (.inl 6) from k3) n50
  have m4 : FrA (fun x => x = me) w3 w4 := (FrA.sr rfl).tr g4 (fun _ _ _ q9 => absurd q9 id)
  have P0 := P0.frA m4 (oth_me t3 d0)
  have P1 := P1.frA m4 (oth_me t3 d1)
  have P2 := P2.frA m4 (oth_me t3 d2)
  have P3 := P3.frA m4 (oth_me t3 d3) (fun _ _ _ e9 => by cases e9)
  have r0 : gr w4 me 0 = some a5 := by rw [e4, gr_sr, u2_ne _ _ (Or.inr (by decide))]; exact r0
  have r1 : gr w4 me 1 = some a16 := by rw [e4, gr_sr, u2_ne _ _ (Or.inr (by decide))]; exact r1
  have r2 : gr w4 me 2 = some a27 := by rw [e4, gr_sr, u2_ne _ _ (Or.inr (by decide))]; exact r2
  have r3 : gr w4 me 3 = some a38 := by rw [e4, gr_sr, u2_at]
  refine so_putR (M := mX6_init) (pc := 53) fa_X6_33 (fun _ => ⟨rfl, _, _, rfl⟩) rfl dX6_init_53 k4 ?_
  refine wp_aload_n (M := mX6_init) (pc := 56) dX6_init_56 rfl ?_
  refine wp_new (M := mX6_init) (pc := 57) nw_X6_37 (fun a => (a, 0, 0)) (by decide) (by decide) dX6_init_57 (fun a57 n57 => ?_)
  refine wp_dup (M := mX6_init) (pc := 60) dX6_init_60 rfl ?_
  refine so_INA0 (M := mX6_init) (pc := 61) (0, 0) cs_X6_init_39 (LE rfl) (LE rfl) (LE rfl) (LE rfl) dX6_init_61 ?_
  refine sp_X1_init kd_newk tg_newk new_gi (fun txa w5 P5 G5 => ?_)
  have g5 : FrA (fun _ => False) (sr w4 me 4 (some a50)) w5 := (FrA.nw n57).tr G5 (fun y κ e q9 => absurd q9 (nek e n57))
  have k5 : kd w5 me = some (.inl 6) := (g5 me _ k4).1
  have t5 : tg w5 me = (me, 0, 0) := ((g5 me _ k4).2.1).trans t4
  have e5 : gr w5 me = gr (sr w4 me 4 (some a50)) me := ((g5 me _ k4).2.2.2 id).2
  have d5 : me ≠ a57 := nek (show kd (sr w4 me 4 (some a50)) me = some (.inl 6) from k4) n57
  have m5 : FrA (fun x => x = me) w4 w5 := (FrA.sr rfl).tr g5 (fun _ _ _ q9 => absurd q9 id)
  have P0 := P0.frA m5 (oth_me t4 d0)
  have P1 := P1.frA m5 (oth_me t4 d1)
  have P2 := P2.frA m5 (oth_me t4 d2)
  have P3 := P3.frA m5 (oth_me t4 d3) (fun _ _ _ e9 => by cases e9)
  have P4 : kd w5 a50 = some (.inr (5, 2)) ∧ tg w5 a50 = (me, 1, 0) ∧ ∀ j, gr w5 a50 j = none := ⟨(m5 a50 _ P4.1).1, ((m5 a50 _ P4.1).2.1).trans P4.2.1, fun j => by rw [((m5 a50 _ P4.1).2.2.2 (fun e9 => d4 e9.symm)).2]; exact P4.2.2 j⟩
  have r0 : gr w5 me 0 = some a5 := by rw [e5, gr_sr, u2_ne _ _ (Or.inr (by decide))]; exact r0
  have r1 : gr w5 me 1 = some a16 := by rw [e5, gr_sr, u2_ne _ _ (Or.inr (by decide))]; exact r1
  have r2 : gr w5 me 2 = some a27 := by rw [e5, gr_sr, u2_ne _ _ (Or.inr (by decide))]; exact r2
  have r3 : gr w5 me 3 = some a38 := by rw [e5, gr_sr, u2_ne _ _ (Or.inr (by decide))]; exact r3
  have r4 : gr w5 me 4 = some a50 := by rw [e5, gr_sr, u2_at]
  refine kV1 ?_
  refine so_putR (M := mX6_init) (pc := 64) fa_X6_40 (fun _ => ⟨rfl, _, _, rfl⟩) rfl dX6_init_64 k5 ?_
  have mf : FrA (fun x => x = me) w5 (sr w5 me 5 (some a57)) := FrA.sr rfl
  have kf : kd (sr w5 me 5 (some a57)) me = some (.inl 6) := k5
  have Lf := P0.frA mf (oth_me t5 d0)
  have rf0 : gr (sr w5 me 5 (some a57)) me 0 = some a5 := by rw [gr_sr, u2_ne _ _ (Or.inr (by decide))]; exact r0
  have Obf : ObC (sr w5 me 5 (some a57)) me a5 a16 a27 a38 a50 a57 := ⟨⟨k5, t5⟩, rf0, by rw [gr_sr, u2_ne _ _ (Or.inr (by decide))]; exact r1, by rw [gr_sr, u2_ne _ _ (Or.inr (by decide))]; exact r2, by rw [gr_sr, u2_ne _ _ (Or.inr (by decide))]; exact r3, by rw [gr_sr, u2_ne _ _ (Or.inr (by decide))]; exact r4, by rw [gr_sr, u2_at]⟩
  have P4f : kd (sr w5 me 5 (some a57)) a50 = some (.inr (5, 2)) ∧ tg (sr w5 me 5 (some a57)) a50 = (me, 1, 0) ∧ ∀ j, gr (sr w5 me 5 (some a57)) a50 j = none := ⟨P4.1, P4.2.1, fun j => by rw [gr_sr, u2_row _ _ (fun e9 => d4 e9.symm)]; exact P4.2.2 j⟩
  refine wp_aload_n (M := mX6_init) (pc := 67) dX6_init_67 rfl ?_
  refine wp_getR (M := mX6_init) (pc := 68) fa_X6_12 rfl dX6_init_68 kf rf0 ?_
  refine wp_iconst (M := mX6_init) (pc := 71) (v := 1) dX6_init_71 ci_1 ?_
  refine wp_iconst (M := mX6_init) (pc := 72) (v := 1) dX6_init_72 ci_1 ?_
  refine wp_iconst (M := mX6_init) (pc := 73) (v := 1) dX6_init_73 ci_1 ?_
  refine wp_iconst (M := mX6_init) (pc := 74) (v := 0) dX6_init_74 ci_0 ?_
  refine so_V4 (M := mX6_init) (pc := 75) cs_X6_init_44 rfl rfl (LE rfl) (LE rfl) dX6_init_75 Lf.1.1 ?_
  refine sp_X4_begin (tm := 1) Lf (fun h7 R7 F7 => ?_)
  have H7 : WP h7 me a5 a16 a27 a38 a50 a57 ka pa fa la hsa txa 0 l0 l1 (fun _ => none) (fun _ => none) (bgA 1 1 1 0, [], fun _ => none, fun _ => 0, 0) :=
    ⟨Obf.fr F7 d0, R7, (P1.frA mf (oth_me t5 d1)).fr F7 dq, (P2.frA mf (oth_me t5 d2)).fr F7 (nk (P2.frA mf (oth_me t5 d2)).1.1 Lf.1.1 (by simp)), (P3.frA mf (oth_me t5 d3) (fun _ _ _ e9 => by cases e9)).frA F7.A (fun y e9 e8 => nk (P3.frA mf (oth_me t5 d3) (fun _ _ _ e9 => by cases e9)).1.1.1 Lf.1.1 (by simp) (e9.symm.trans e8)) (fun _ _ _ e9 => by cases e9), (P5.frA mf (oth_me t5 d5)).fr F7 (nk (P5.frA mf (oth_me t5 d5)).1.1 Lf.1.1 (by simp)), ⟨⟨by rw [F7.1]; exact P4f.1, by rw [F7.2.1]; exact P4f.2.1⟩, fun j hj => ⟨by rw [(F7.2.2.2 a50 (by rw [P4f.2.1]; exact d0)).2]; exact P4f.2.2 j, Or.inl ⟨rfl, rfl⟩⟩⟩, dq, fun _ _ _ e9 => (by cases e9), fun _ _ _ e9 => (by cases e9), fun _ _ _ _ _ _ e9 => (by cases e9), fun _ _ e9 => (by cases e9)⟩
  have Oa : Of h h7 := by
    have b0 : FrA (fun x => x = me) h w0 := g0.mono (fun _ e9 => absurd e9 id)
    have b1 := b0.tr m1 (fun _ _ _ e9 => e9)
    have b2 := b1.tr m2 (fun _ _ _ e9 => e9)
    have b3 := b2.tr m3 (fun _ _ _ e9 => e9)
    have b4 := b3.tr m4 (fun _ _ _ e9 => e9)
    have b5 := b4.tr m5 (fun _ _ _ e9 => e9)
    have b6 := b5.tr mf (fun _ _ _ e9 => e9)
    exact (b6.Of (fun x e9 => by rw [e9, ht]; exact nF hk (by simp) (by simp))).tr (F7.Of (fun z e9 => by rw [e9]; exact nF Lf.1.1 (by simp) (by simp)))
  refine kV ?_
  refine wp_aload_n (M := mX6_init) (pc := 78) dX6_init_78 rfl ?_
  refine wp_getR (M := mX6_init) (pc := 79) fa_X6_12 rfl dX6_init_79 H7.kMe H7.ob.2.1 ?_
  refine wp_iconst (M := mX6_init) (pc := 82) (v := 1) dX6_init_82 ci_1 ?_
  refine wp_iconst (M := mX6_init) (pc := 83) (v := 0) dX6_init_83 ci_0 ?_
  refine wp_iconst (M := mX6_init) (pc := 84) (v := 0) dX6_init_84 ci_0 ?_
  refine so_V3 (M := mX6_init) (pc := 85) cs_X6_init_48 rfl rfl (LE rfl) (LE rfl) dX6_init_85 H7.kQ ?_
  refine sp_X4_addTenant H7.rep (by decide) (fun h8 R8 F8 => ?_)
  refine kV ?_
  refine wp_return (M := mX6_init) (pc := 88) rfl dX6_init_88 ?_
  exact k h8 (H7.q1 F8 R8).wc (Oa.tr (H7.q1O F8))
end SP
