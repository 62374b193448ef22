section SP
variable {E : Ev} {h : PH} {Q : Rt → PH → Prop}
/-- what was there is there; only what lies at S may have changed -/
def FrA (S : Nat → Prop) (h h' : PH) : Prop := ∀ x κ, kd h x = some κ → kd h' x = some κ ∧ tg h' x = tg h x ∧ gl h' x = gl h x ∧ (¬ S x → gi h' x = gi h x ∧ gr h' x = gr h x)
theorem FrA.rf {S : Nat → Prop} {h : PH} : FrA S h h := fun _ _ e => ⟨e, rfl, rfl, fun _ => ⟨rfl, rfl⟩⟩
theorem FrA.tr {S S' : Nat → Prop} {h h1 h2 : PH} (a : FrA S h h1) (b : FrA S' h1 h2) (hs : ∀ x κ, kd h x = some κ → S' x → S x) : FrA S h h2 := fun x κ e => by
  obtain ⟨a1, a2, a3, a4⟩ := a x κ e
  obtain ⟨b1, b2, b3, b4⟩ := b x κ a1
  refine ⟨b1, b2.trans a2, b3.trans a3, fun hn => ?_⟩
  have c1 := a4 hn
  have c2 := b4 (fun q => hn (hs x κ e q))
  exact ⟨c2.1.trans c1.1, c2.2.trans c1.2⟩
theorem FrA.mono {S S' : Nat → Prop} {h h' : PH} (a : FrA S h h') (hs : ∀ x, S x → S' x) : FrA S' h h' := fun x κ e => ⟨(a x κ e).1, (a x κ e).2.1, (a x κ e).2.2.1, fun hn => (a x κ e).2.2.2 (fun q => hn (hs x q))⟩
theorem nek {h : PH} {a b : Nat} {κ : Kd} (h1 : kd h a = some κ) (h2 : kd h b = none) : a ≠ b := fun e => by rw [e, h2] at h1; cases h1
theorem FrA.nw {S : Nat → Prop} {h : PH} {a : Nat} {κ : Kd} {t : Tg} (hn : kd h a = none) : FrA S h (nw h a κ t) := fun x κ' e => by
  have hx := nek e hn
  exact ⟨by rw [kd_nw, u1_ne _ _ hx, e], by rw [tg_nw, u1_ne _ _ hx], by rw [gl_nw, u1_ne _ _ hx], fun _ => ⟨by rw [gi_nw, u1_ne _ _ hx], by rw [gr_nw, u1_ne _ _ hx]⟩⟩
theorem FrA.sr {S : Nat → Prop} {h : PH} {a k : Nat} {v : Option Nat} (hs : S a) : FrA S h (sr h a k v) := fun x κ' e =>
  ⟨e, rfl, rfl, fun hn => ⟨rfl, by rw [gr_sr]; exact u2_row _ _ (fun q => hn (by rw [q]; exact hs))⟩⟩
theorem FrA.si {S : Nat → Prop} {h : PH} {a k : Nat} {v : Int32} (hs : S a) : FrA S h (si h a k v) := fun x κ' e =>
  ⟨e, rfl, rfl, fun hn => ⟨by rw [gi_si]; exact u2_row _ _ (fun q => hn (by rw [q]; exact hs)), rfl⟩⟩
theorem Fr.A {S : Nat → Prop} {h h' : PH} (a : Fr S h h') : FrA (fun x => S (tg h x).1) h h' := fun x κ e => ⟨by rw [a.1]; exact e, by rw [a.2.1], by rw [a.2.2.1], fun hn => a.2.2.2 x hn⟩
theorem kd_old {h : PH} {a b : Nat} {κ κ' : Kd} {t : Tg} (h1 : kd h a = some κ) (h2 : kd h b = none) : kd (nw h b κ' t) a = some κ := by rw [kd_nw, u1_ne _ _ (nek h1 h2), h1]
theorem kd_old2 {h : PH} {a b c a' k' : Nat} {v' : Option Nat} {κ κ1 κ2 : Kd} {t1 t2 : Tg} (h1 : kd h a = some κ) (h2 : kd h b = none) (h3 : kd (sr (nw h b κ1 t1) a' k' v') c = none) : kd (nw (sr (nw h b κ1 t1) a' k' v') c κ2 t2) a = some κ := kd_old (by rw [kd_sr]; exact kd_old h1 h2) h3
theorem kd_newk {h : PH} {b : Nat} {κ' : Kd} {t : Tg} : kd (nw h b κ' t) b = some κ' := by rw [kd_nw, u1_at]
theorem tg_newk {h : PH} {b : Nat} {κ' : Kd} {t : Tg} : tg (nw h b κ' t) b = t := by rw [tg_nw, u1_at]
theorem ne_new {h : PH} {a b a' k' : Nat} {v' : Option Nat} {κ' : Kd} {t : Tg} (h1 : kd (sr (nw h b κ' t) a' k' v') a = none) : b ≠ a := fun e => by
  rw [kd_sr, ← e, kd_newk] at h1; cases h1
theorem kd_none {h : PH} {a b : Nat} {κ' : Kd} {t : Tg} (h1 : kd (nw h b κ' t) a = none) : kd h a = none := by
  by_cases e : a = b
  · rw [e, kd_newk] at h1; cases h1
  · rw [kd_nw, u1_ne _ _ e] at h1; exact h1
/-- a state whose first i tenants and j orders are made -/
def LT1 (h : PH) (q ta t : Nat) : Prop := ∃ a m w, gr h ta t = some a ∧ (kd h a = some (.inl 5) ∧ tg h a = (q, 3, t)) ∧ (gr h a 8 = some m ∧ kd h m = some (.inr (0, 8)) ∧ tg h m = (q, 4, t)) ∧ (gr h a 9 = some w ∧ kd h w = some (.inr (0, 51)) ∧ tg h w = (q, 5, t))
def LO1 (h : PH) (q oa x : Nat) : Prop := ∃ a, gr h oa x = some a ∧ kd h a = some (.inl 3) ∧ tg h a = (q, 6, x)
def PLy (h : PH) (q ta oa i j : Nat) : Prop := (kd h q = some (.inl 4) ∧ tg h q = (q, 0, 0)) ∧ (gr h q 0 = some ta ∧ kd h ta = some (.inr (3, 6)) ∧ tg h ta = (q, 1, 0)) ∧ (gr h q 1 = some oa ∧ kd h oa = some (.inr (4, 12)) ∧ tg h oa = (q, 2, 0)) ∧ (∀ t, t < i → LT1 h q ta t) ∧ (∀ x, x < j → LO1 h q oa x)
theorem PLy.fr {h h' : PH} {q ta oa i j : Nat} (H : PLy h q ta oa i j) (hF : FrA (fun x => x = ta ∨ x = oa) h h') (h1 : ∀ t, t < i → gr h' ta t = gr h ta t) (h2 : ∀ x, x < j → gr h' oa x = gr h oa x) : PLy h' q ta oa i j := by
  obtain ⟨⟨a1, a2⟩, ⟨a3, a4, a5⟩, ⟨a6, a7, a8⟩, a9, a10⟩ := H
  have nq : ¬ (q = ta ∨ q = oa) := fun e => by
    rcases e with e | e
    · exact ne_tg a2 a5 (by simp) e
    · exact ne_tg a2 a8 (by simp) e
  obtain ⟨b1, b2, b3, b4⟩ := hF q _ a1
  obtain ⟨c1, c2, c3, c4⟩ := hF ta _ a4
  obtain ⟨d1, d2, d3, d4⟩ := hF oa _ a7
  refine ⟨⟨b1, b2.trans a2⟩, ⟨by rw [(b4 nq).2]; exact a3, c1, c2.trans a5⟩, ⟨by rw [(b4 nq).2]; exact a6, d1, d2.trans a8⟩, fun t ht => ?_, fun x hx => ?_⟩
  · obtain ⟨a, m, w, e1, ⟨e2, e3⟩, ⟨e4, e5, e6⟩, e7, e8, e9⟩ := a9 t ht
    obtain ⟨f1, f2, f3, f4⟩ := hF a _ e2
    obtain ⟨g1, g2, g3, g4⟩ := hF m _ e5
    obtain ⟨i1, i2, i3, i4⟩ := hF w _ e8
    have na : ¬ (a = ta ∨ a = oa) := fun e => by
      rcases e with e | e
      · exact ne_tg e3 a5 (by simp) e
      · exact ne_tg e3 a8 (by simp) e
    exact ⟨a, m, w, by rw [h1 t ht]; exact e1, ⟨f1, f2.trans e3⟩, ⟨by rw [(f4 na).2]; exact e4, g1, g2.trans e6⟩, by rw [(f4 na).2]; exact e7, i1, i2.trans e9⟩
  · obtain ⟨a, e1, e2, e3⟩ := a10 x hx
    obtain ⟨f1, f2, f3, f4⟩ := hF a _ e2
    exact ⟨a, by rw [h2 x hx]; exact e1, f1, f2.trans e3⟩
theorem PLy.lay {h : PH} {q ta oa : Nat} (H : PLy h q ta oa 6 12) : ∃ l, Lay h q l := by
  obtain ⟨a0, a3, a6, a9, a10⟩ := H
  refine ⟨(ta, oa, fun t => (gr h ta t).getD 0, fun t => (gr h ((gr h ta t).getD 0) 8).getD 0, fun t => (gr h ((gr h ta t).getD 0) 9).getD 0, fun t => (gr h oa t).getD 0), a0, a3, a6, fun t ht => ?_, fun i hi => ?_, fun i j hi hj e => ?_⟩
  · obtain ⟨a, m, w, e1, ⟨e2, e3⟩, ⟨e4, e5, e6⟩, e7, e8, e9⟩ := a9 t ht
    have q1 : (gr h ta t).getD 0 = a := by rw [e1]; rfl
    have q2 : (gr h a 8).getD 0 = m := by rw [e4]; rfl
    have q3 : (gr h a 9).getD 0 = w := by rw [e7]; rfl
    show gr h ta t = some ((gr h ta t).getD 0) ∧ (kd h ((gr h ta t).getD 0) = _ ∧ tg h ((gr h ta t).getD 0) = _) ∧ (gr h ((gr h ta t).getD 0) 8 = some ((gr h ((gr h ta t).getD 0) 8).getD 0) ∧ kd h ((gr h ((gr h ta t).getD 0) 8).getD 0) = _ ∧ tg h ((gr h ((gr h ta t).getD 0) 8).getD 0) = _) ∧ (gr h ((gr h ta t).getD 0) 9 = some ((gr h ((gr h ta t).getD 0) 9).getD 0) ∧ kd h ((gr h ((gr h ta t).getD 0) 9).getD 0) = _ ∧ tg h ((gr h ((gr h ta t).getD 0) 9).getD 0) = _)
    rw [q1, q2, q3]
    exact ⟨e1, ⟨e2, e3⟩, ⟨e4, e5, e6⟩, e7, e8, e9⟩
  · obtain ⟨a, e1, e2, e3⟩ := a10 i hi
    have q1 : (gr h oa i).getD 0 = a := by rw [e1]; rfl
    show gr h oa i = some ((gr h oa i).getD 0) ∧ kd h ((gr h oa i).getD 0) = _ ∧ ∃ j, tg h ((gr h oa i).getD 0) = _
    rw [q1]
    exact ⟨e1, e2, i, e3⟩
  · obtain ⟨a, e1, e2, e3⟩ := a10 i hi
    obtain ⟨b, f1, f2, f3⟩ := a10 j hj
    have e' : (gr h oa i).getD 0 = (gr h oa j).getD 0 := e
    rw [e1, f1] at e'
    have e'' : a = b := e'
    rw [e'', f3] at e3
    have := congrArg (fun z : Tg => z.2.2) e3
    exact this.symm
set_option maxHeartbeats 4000000 in
set_option maxRecDepth 100000 in
theorem sp_X5_init {a : Nat} (hk : kd h a = some (.inl 5)) (k : ∀ m w h', FrA (fun x => x = a) h h' → (gr h' a 8 = some m ∧ kd h' m = some (.inr (0, 8)) ∧ tg h' m = ((tg h a).1, 4, (tg h a).2.2)) → (gr h' a 9 = some w ∧ kd h' w = some (.inr (0, 51)) ∧ tg h' w = ((tg h a).1, 5, (tg h a).2.2)) → Q (.inl none) h') : WPx E mX5_init 0 [some (.ref a)] [] (2, 59) h Q := by
  refine wp_aload_n (M := mX5_init) (pc := 0) dX5_init_0 rfl ?_
  refine wp_objInit (M := mX5_init) (pc := 1) wl_X5_3 w_objI w_objC (LE rfl) (LE rfl) dX5_init_1 ?_
  refine wp_aload_n (M := mX5_init) (pc := 4) dX5_init_4 rfl ?_
  refine wp_bipush (M := mX5_init) (pc := 5) (v := 8) dX5_init_5 cb_8 ?_
  refine wp_newI (M := mX5_init) (pc := 7) (N := 8) wa_int (fun _ => ((tg h a).1, 4, (tg h a).2.2)) (by decide) (by decide) (by decide) (by decide) (by decide) dX5_init_7 (fun a7 n7 => ?_)
  refine so_putR (M := mX5_init) (pc := 9) fa_X5_9 (fun _ => ⟨rfl, _, _, rfl⟩) rfl dX5_init_9 (kd_old hk n7) ?_
  refine wp_aload_n (M := mX5_init) (pc := 12) dX5_init_12 rfl ?_
  refine wp_bipush (M := mX5_init) (pc := 13) (v := 51) dX5_init_13 cb_51 ?_
  refine wp_newI (M := mX5_init) (pc := 15) (N := 51) wa_int (fun _ => ((tg h a).1, 5, (tg h a).2.2)) (by decide) (by decide) (by decide) (by decide) (by decide) dX5_init_15 (fun a15 n15 => ?_)
  refine so_putR (M := mX5_init) (pc := 17) fa_X5_15 (fun _ => ⟨rfl, _, _, rfl⟩) rfl dX5_init_17 (kd_old2 hk n7 n15) ?_
  refine wp_return (M := mX5_init) (pc := 20) rfl dX5_init_20 ?_
  have n15' : kd h a15 = none := kd_none (by rw [kd_sr] at n15; exact n15)
  have x1 : a7 ≠ a15 := ne_new n15
  have x2 : a ≠ a15 := nek hk n15'
  have x3 : a ≠ a7 := nek hk n7
  refine k a7 a15 _ (((FrA.nw n7).tr (S' := fun x => x = a) (FrA.sr rfl) (fun _ _ _ e => e)).tr (S' := fun x => x = a) ((FrA.nw n15).tr (S' := fun x => x = a) (FrA.sr rfl) (fun _ _ _ e => e)) (fun _ _ _ e => e)) ⟨?_, ?_, ?_⟩ ⟨?_, ?_, ?_⟩
  · rw [gr_sr, u2_ne _ _ (Or.inr (by decide)), gr_nw, u1_ne _ _ x2, gr_sr, u2_at]
  · rw [kd_sr, kd_nw, u1_ne _ _ x1, kd_sr, kd_newk]
  · rw [tg_sr, tg_nw, u1_ne _ _ x1, tg_sr, tg_newk]
  · rw [gr_sr, u2_at]
  · rw [kd_sr, kd_newk]
  · rw [tg_sr, tg_newk]
set_option maxHeartbeats 4000000 in
set_option maxRecDepth 100000 in
theorem lo_X4_init {q ta oa : Nat} {h0 : PH} (hn1 : kd h0 ta = none) (hn2 : kd h0 oa = none) (k : ∀ h' l, Lay h' q l → FrA (fun x => x = q) h0 h' → Q (.inl none) h') : ∀ (m : Nat) (i : Nat) (h : PH) (r : Nat × Nat), 12 - i < m → (i ≤ 12) → (PLy h q ta oa 6 i) → (FrA (fun x => x = q) h0 h) → (12 - i ≤ r.1) → (4 * (12 - i) ≤ r.2) → WPx E mX4_init 54 [some (.ref q), some (.int (nI i))] [] r h Q := by
  intro m
  induction m with
  | zero => intro i h r hm; exact absurd hm (Nat.not_lt_zero _)
  | succ m ih =>
    intro i h r hm hi hP hF hr1 hr2
    obtain ⟨⟨kq, tq⟩, ⟨rT, kT, tT⟩, ⟨rO, kO, tO⟩, hT, hO⟩ := id hP
    refine wp_iload_n (M := mX4_init) (pc := 54) dX4_init_54 rfl ?_
    refine wp_aload_n (M := mX4_init) (pc := 55) dX4_init_55 rfl ?_
    refine wp_getR (M := mX4_init) (pc := 56) fa_X4_19 rfl dX4_init_56 (by first | exact kq | exact kO) (by first | exact rO | exact rT) ?_
    refine wp_alen (M := mX4_init) (pc := 59) dX4_init_59 (by first | exact kq | exact kO) (by decide) ?_
    refine wp_icmp_ge (M := mX4_init) (pc := 60) (tgt := 82) dX4_init_60 rfl (fun t60 => ?_) (fun f60 => ?_)
    · have hi2 := n_ge hi (by decide) t60
      subst hi2
      refine wp_return (M := mX4_init) (pc := 82) rfl dX4_init_82 ?_
      obtain ⟨l, hl⟩ := hP.lay
      exact k h l hl hF
    · have hlt := n_lt hi (by decide) f60
      refine wp_aload_n (M := mX4_init) (pc := 63) dX4_init_63 rfl ?_
      refine wp_getR (M := mX4_init) (pc := 64) fa_X4_19 rfl dX4_init_64 (by first | exact kq | exact kO) (by first | exact rO | exact rT) ?_
      refine wp_iload_n (M := mX4_init) (pc := 67) dX4_init_67 rfl ?_
      refine wp_new (M := mX4_init) (pc := 68) nw_X4_17 (fun _ => (q, 6, i)) (by omega) (by show 4 ≤ r.2; omega) dX4_init_68 (fun a68 n68 => ?_)
      refine wp_dup (M := mX4_init) (pc := 71) dX4_init_71 rfl ?_
      refine so_IN0 (M := mX4_init) (pc := 72) cs_X4_init_24 rfl (LE rfl) (LE rfl) dX4_init_72 ?_
      refine sp_X3_init ?_
      refine kV1 ?_
      refine wr_aastore (M := mX4_init) (pc := 75) dX4_init_75 (kd_old kO n68) kd_newk (by decide) rfl hlt (by decide) ?_
      refine so_iinc (M := mX4_init) (pc := 76) (lo' := [_, _]) dX4_init_76 rfl ci_1 (LE rfl) rfl ?_
      refine wp_goto (M := mX4_init) (pc := 79) (tgt := 54) dX4_init_79 rfl ?_
      rw [show nI i + 1 = nI (i + 1) from nI_1 i]
      have x1 : oa ≠ a68 := nek kO n68
      have x2 : ta ≠ a68 := nek kT n68
      have x3 : ta ≠ oa := ne_tg tT tO (by simp)
      have F1 : FrA (fun x => x = ta ∨ x = oa) h (sr (nw h a68 (.inl 3) (q, 6, i)) oa i (some a68)) := (FrA.nw n68).tr (S' := fun x => x = ta ∨ x = oa) (FrA.sr (Or.inr rfl)) (fun _ _ _ e => e)
      have P1 := hP.fr F1 (fun t _ => by rw [gr_sr, u2_ne _ _ (Or.inl x3), gr_nw, u1_ne _ _ x2]) (fun x hx => by rw [gr_sr, u2_ne _ _ (Or.inr (by omega)), gr_nw, u1_ne _ _ x1])
      refine ih (i + 1) _ (r.1 - 1, r.2 - 4) (by omega) (by omega) ⟨P1.1, P1.2.1, P1.2.2.1, P1.2.2.2.1, fun x hx => ?_⟩ (hF.tr F1 (fun x κ e q9 => ?_)) (by show 12 - (i + 1) ≤ r.1 - 1; omega) (by show 4 * (12 - (i + 1)) ≤ r.2 - 4; omega)
      · by_cases e : x = i
        · subst e
          exact ⟨a68, by rw [gr_sr, u2_at], by rw [kd_sr, kd_newk], by rw [tg_sr, tg_newk]⟩
        · exact P1.2.2.2.2 x (by omega)
      · rcases q9 with q9 | q9
        · rw [q9, hn1] at e; cases e
        · rw [q9, hn2] at e; cases e
set_option maxHeartbeats 4000000 in
set_option maxRecDepth 100000 in
theorem lt_X4_init {q ta oa : Nat} {h0 : PH} (hn1 : kd h0 ta = none) (hn2 : kd h0 oa = none) (k : ∀ h' l, Lay h' q l → FrA (fun x => x = q) h0 h' → Q (.inl none) h') : ∀ (m : Nat) (i : Nat) (h : PH) (r : Nat × Nat), 6 - i < m → (i ≤ 6) → (PLy h q ta oa i 0) → (FrA (fun x => x = q) h0 h) → (3 * (6 - i) + 12 ≤ r.1) → (69 * (6 - i) + 48 ≤ r.2) → WPx E mX4_init 24 [some (.ref q), some (.int (nI i))] [] r h Q := by
  intro m
  induction m with
  | zero => intro i h r hm; exact absurd hm (Nat.not_lt_zero _)
  | succ m ih =>
    intro i h r hm hi hP hF hr1 hr2
    obtain ⟨⟨kq, tq⟩, ⟨rT, kT, tT⟩, ⟨rO, kO, tO⟩, hT, hO⟩ := id hP
    refine wp_iload_n (M := mX4_init) (pc := 24) dX4_init_24 rfl ?_
    refine wp_aload_n (M := mX4_init) (pc := 25) dX4_init_25 rfl ?_
    refine wp_getR (M := mX4_init) (pc := 26) fa_X4_11 rfl dX4_init_26 (by first | exact kq | exact kT) (by first | exact rT | exact rO) ?_
    refine wp_alen (M := mX4_init) (pc := 29) dX4_init_29 (by first | exact kq | exact kT) (by decide) ?_
    refine wp_icmp_ge (M := mX4_init) (pc := 30) (tgt := 52) dX4_init_30 rfl (fun t30 => ?_) (fun f30 => ?_)
    · have hi2 := n_ge hi (by decide) t30
      subst hi2
      refine wp_iconst (M := mX4_init) (pc := 52) (v := 0) dX4_init_52 ci_0 ?_
      refine so_istore_n (M := mX4_init) (pc := 53) (lo' := [_, _]) dX4_init_53 (LE rfl) (LE rfl) (Or.inr rfl) rfl ?_
      exact lo_X4_init hn1 hn2 k 13 0 h r (by omega) (by omega) hP hF (by omega) (by omega)
    · have hlt := n_lt hi (by decide) f30
      refine wp_aload_n (M := mX4_init) (pc := 33) dX4_init_33 rfl ?_
      refine wp_getR (M := mX4_init) (pc := 34) fa_X4_11 rfl dX4_init_34 (by first | exact kq | exact kT) (by first | exact rT | exact rO) ?_
      refine wp_iload_n (M := mX4_init) (pc := 37) dX4_init_37 rfl ?_
      refine wp_new (M := mX4_init) (pc := 38) nw_X4_9 (fun _ => (q, 3, i)) (by omega) (by show 10 ≤ r.2; omega) dX4_init_38 (fun a38 n38 => ?_)
      refine wp_dup (M := mX4_init) (pc := 41) dX4_init_41 rfl ?_
      refine so_INA0 (M := mX4_init) (pc := 42) (r.1 - 3, r.2 - 69) cs_X4_init_23 (LE rfl) (LE rfl) (by show 2 + (r.1 - 3) ≤ r.1 - 1; omega) (by show 59 + (r.2 - 69) ≤ r.2 - 10; omega) dX4_init_42 ?_
      refine sp_X5_init kd_newk (fun m w h1 hG hm hw => ?_)
      refine kV1 ?_
      refine wr_aastore (M := mX4_init) (pc := 45) dX4_init_45 (hG ta _ (kd_old kT n38)).1 (hG a38 _ kd_newk).1 (by decide) rfl hlt (by decide) ?_
      refine so_iinc (M := mX4_init) (pc := 46) (lo' := [_, _]) dX4_init_46 rfl ci_1 (LE rfl) rfl ?_
      refine wp_goto (M := mX4_init) (pc := 49) (tgt := 24) dX4_init_49 rfl ?_
      rw [show nI i + 1 = nI (i + 1) from nI_1 i]
      rw [tg_newk] at hm hw
      have x1 : oa ≠ a38 := nek kO n38
      have x2 : ta ≠ a38 := nek kT n38
      have x3 : ta ≠ oa := ne_tg tT tO (by simp)
      have hGt := (hG ta _ (kd_old kT n38)).2.2.2 x2
      have hGa := hG a38 _ kd_newk
      rw [tg_newk] at hGa
      have F1 : FrA (fun x => x = ta ∨ x = oa) h (sr h1 ta i (some a38)) := ((FrA.nw n38).tr hG (fun x κ e q9 => absurd q9 (nek e n38))).tr (S' := fun x => x = ta ∨ x = oa) (FrA.sr (Or.inl rfl)) (fun _ _ _ e => e)
      have P1 := hP.fr F1 (fun t ht => by rw [gr_sr, u2_ne _ _ (Or.inr (by omega)), hGt.2, gr_nw, u1_ne _ _ x2]) (fun x hx => absurd hx (Nat.not_lt_zero _))
      refine ih (i + 1) _ (r.1 - 3, r.2 - 69) (by omega) (by omega) ⟨P1.1, P1.2.1, P1.2.2.1, fun x hx => ?_, P1.2.2.2.2⟩ (hF.tr F1 (fun x κ e q9 => ?_)) (by show 3 * (6 - (i + 1)) + 12 ≤ r.1 - 3; omega) (by show 69 * (6 - (i + 1)) + 48 ≤ r.2 - 69; omega)
      · by_cases e : x = i
        · subst e
          refine ⟨a38, m, w, by rw [gr_sr, u2_at], ⟨hGa.1, hGa.2.1⟩, ⟨?_, hm.2⟩, ?_, hw.2⟩
          · rw [gr_sr, u2_row _ _ x2.symm]; exact hm.1
          · rw [gr_sr, u2_row _ _ x2.symm]; exact hw.1
        · exact P1.2.2.2.1 x (by omega)
      · rcases q9 with q9 | q9
        · rw [q9, hn1] at e; cases e
        · rw [q9, hn2] at e; cases e
set_option maxHeartbeats 4000000 in
set_option maxRecDepth 100000 in
theorem sp_X4_init {q : Nat} (hk : kd h q = some (.inl 4)) (ht : tg h q = (q, 0, 0)) (k : ∀ h' l, Lay h' q l → FrA (fun x => x = q) h h' → Q (.inl none) h') : WPx E mX4_init 0 [some (.ref q), none] [] (32, 480) h Q := by
  refine wp_aload_n (M := mX4_init) (pc := 0) dX4_init_0 rfl ?_
  refine wp_objInit (M := mX4_init) (pc := 1) wl_X4_3 w_objI w_objC (LE rfl) (LE rfl) dX4_init_1 ?_
  refine wp_aload_n (M := mX4_init) (pc := 4) dX4_init_4 rfl ?_
  refine wp_bipush (M := mX4_init) (pc := 5) (v := 6) dX4_init_5 cb_6 ?_
  refine wp_newA (M := mX4_init) (pc := 7) (tc := 3) (N := 6) (by decide) wk_X4_9 (fun _ => (q, 1, 0)) (by decide) (by decide) (by decide) (by decide) (by decide) dX4_init_7 (fun a7 n7 => ?_)
  refine so_putR (M := mX4_init) (pc := 10) fa_X4_11 (fun _ => ⟨rfl, _, _, rfl⟩) rfl dX4_init_10 (kd_old hk n7) ?_
  refine wp_aload_n (M := mX4_init) (pc := 13) dX4_init_13 rfl ?_
  refine wp_bipush (M := mX4_init) (pc := 14) (v := 12) dX4_init_14 cb_12 ?_
  refine wp_newA (M := mX4_init) (pc := 16) (tc := 4) (N := 12) (by decide) wk_X4_17 (fun _ => (q, 2, 0)) (by decide) (by decide) (by decide) (by decide) (by decide) dX4_init_16 (fun a16 n16 => ?_)
  refine so_putR (M := mX4_init) (pc := 19) fa_X4_19 (fun _ => ⟨rfl, _, _, rfl⟩) rfl dX4_init_19 (kd_old2 hk n7 n16) ?_
  refine wp_iconst (M := mX4_init) (pc := 22) (v := 0) dX4_init_22 ci_0 ?_
  refine so_istore_n (M := mX4_init) (pc := 23) (lo' := [_, _]) dX4_init_23 (LE rfl) (LE rfl) (Or.inr rfl) rfl ?_
  have n16' : kd h a16 = none := kd_none (by rw [kd_sr] at n16; exact n16)
  have x1 : a7 ≠ a16 := ne_new n16
  have x2 : q ≠ a16 := nek hk n16'
  have x3 : q ≠ a7 := nek hk n7
  refine lt_X4_init (h0 := h) n7 n16' k 7 0 _ _ (by omega) (by omega) ⟨⟨?_, ?_⟩, ⟨?_, ?_, ?_⟩, ⟨?_, ?_, ?_⟩, fun t h9 => absurd h9 (Nat.not_lt_zero _), fun t h9 => absurd h9 (Nat.not_lt_zero _)⟩ (((FrA.nw n7).tr (S' := fun x => x = q) (FrA.sr rfl) (fun _ _ _ e => e)).tr (S' := fun x => x = q) ((FrA.nw n16).tr (S' := fun x => x = q) (FrA.sr rfl) (fun _ _ _ e => e)) (fun _ _ _ e => e)) (by decide) (by decide)
  · rw [kd_sr, kd_nw, u1_ne _ _ x2, kd_sr, kd_nw, u1_ne _ _ x3]; exact hk
  · rw [tg_sr, tg_nw, u1_ne _ _ x2, tg_sr, tg_nw, u1_ne _ _ x3]; exact ht
  · rw [gr_sr, u2_ne _ _ (Or.inr (by decide)), gr_nw, u1_ne _ _ x2, gr_sr, u2_at]
  · rw [kd_sr, kd_nw, u1_ne _ _ x1, kd_sr, kd_newk]
  · rw [tg_sr, tg_nw, u1_ne _ _ x1, tg_sr, tg_newk]
  · rw [gr_sr, u2_at]
  · rw [kd_sr, kd_newk]
  · rw [tg_sr, tg_newk]
end SP
