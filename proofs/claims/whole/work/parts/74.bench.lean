section SP
variable {E : Ev} {h : PH} {Q : Rt → PH → Prop}
/-! the reference's object: its rows and where they lie -/
def fsz : Nat → Option (Nat × Nat)
  | 1 => some (0, 1360)
  | 2 => some (0, 1360)
  | 3 => some (0, 19040)
  | 6 => some (0, 2720)
  | 7 => some (1, 2)
  | 8 => some (0, 160)
  | 11 => some (0, 1360)
  | 12 => some (0, 52)
  | 14 => some (0, 13)
  | 15 => some (0, 13)
  | 16 => some (0, 13)
  | 20 => some (0, 64)
  | _ => none
def MoL (h : PH) (m : Nat) (ad : Nat → Nat) : Prop := (kd h m = some (.inl 7) ∧ tg h m = (m, 0, 0)) ∧ ∀ k y, fsz k = some y → gr h m k = some (ad k) ∧ kd h (ad k) = some (.inr y) ∧ tg h (ad k) = (m, k, 0)
section
variable {h h' : PH} {me : Nat} {ad : Nat → Nat}
theorem MoL.k (H : MoL h me ad) : kd h me = some (.inl 7) := H.1.1
theorem MoL.r (H : MoL h me ad) {k : Nat} {y : Nat × Nat} (e : fsz k = some y) : gr h me k = some (ad k) := (H.2 k y e).1
theorem MoL.a (H : MoL h me ad) {k : Nat} {y : Nat × Nat} (e : fsz k = some y) : kd h (ad k) = some (.inr y) := (H.2 k y e).2.1
theorem MoL.ne (H : MoL h me ad) {k : Nat} {y : Nat × Nat} (e : fsz k = some y) : ad k ≠ me := nk (H.a e) H.k (by simp)
theorem MoL.nn (H : MoL h me ad) {j k : Nat} {y z : Nat × Nat} (e1 : fsz j = some y) (e2 : fsz k = some z) (hn : j ≠ k) : ad j ≠ ad k := ne_tg (H.2 j y e1).2.2 (H.2 k z e2).2.2 (by simp [hn])
/-- the bench (and Z) may have changed -/
def FrB (me : Nat) (ad : Nat → Nat) (Z : Nat → Prop) (h h' : PH) : Prop := (kd h' = kd h ∧ gr h' = gr h ∧ tg h' = tg h ∧ gl h' = gl h) ∧ (∀ x, ¬ Z x → x ≠ me → x ≠ ad 12 → x ≠ ad 14 → x ≠ ad 15 → x ≠ ad 16 → gi h' x = gi h x) ∧ (∀ k, k ≠ 13 → k ≠ 17 → k ≠ 18 → k ≠ 19 → gi h' me k = gi h me k)
abbrev Z0 : Nat → Prop := fun _ => False
theorem FrB.rf {Z : Nat → Prop} : FrB me ad Z h h := ⟨⟨rfl, rfl, rfl, rfl⟩, fun _ _ _ _ _ _ _ => rfl, fun _ _ _ _ _ => rfl⟩
theorem FrB.tr {Z : Nat → Prop} {h1 h2 : PH} (a : FrB me ad Z h h1) (b : FrB me ad Z h1 h2) : FrB me ad Z h h2 := ⟨⟨b.1.1.trans a.1.1, b.1.2.1.trans a.1.2.1, b.1.2.2.1.trans a.1.2.2.1, b.1.2.2.2.trans a.1.2.2.2⟩, fun x x0 x1 x2 x3 x4 x5 => (b.2.1 x x0 x1 x2 x3 x4 x5).trans (a.2.1 x x0 x1 x2 x3 x4 x5), fun k k1 k2 k3 k4 => (b.2.2 k k1 k2 k3 k4).trans (a.2.2 k k1 k2 k3 k4)⟩
theorem FrB.mono {Z Z' : Nat → Prop} (a : FrB me ad Z h h') (hz : ∀ x, Z x → Z' x) : FrB me ad Z' h h' := ⟨a.1, fun x x0 => a.2.1 x (fun q => x0 (hz x q)), a.2.2⟩
theorem FrB.sb {Z : Nat → Prop} (H : MoL h me ad) {x j : Nat} {v : Int32} (hx : x = 12 ∨ x = 14 ∨ x = 15 ∨ x = 16) : FrB me ad Z h (si h (ad x) j v) := by
  have hy : ∃ y, fsz x = some y := by rcases hx with rfl | rfl | rfl | rfl <;> exact ⟨_, rfl⟩
  obtain ⟨y, hy⟩ := hy
  refine ⟨⟨rfl, rfl, rfl, rfl⟩, fun z z0 z1 z2 z3 z4 z5 => gi_si_ne _ _ _ (fun e => ?_), fun k _ _ _ _ => by rw [gi_si_ne _ _ _ (H.ne hy).symm]⟩
  rcases hx with rfl | rfl | rfl | rfl
  · exact z2 e
  · exact z3 e
  · exact z4 e
  · exact z5 e
theorem FrB.sm {Z : Nat → Prop} {k : Nat} {v : Int32} (hk : k = 13 ∨ k = 17 ∨ k = 18 ∨ k = 19) : FrB me ad Z h (si h me k v) :=
  ⟨⟨rfl, rfl, rfl, rfl⟩, fun z z0 z1 _ _ _ _ => gi_si_ne _ _ _ z1, fun j j1 j2 j3 j4 => gi_si_oth (by omega)⟩
theorem RF.B {Z : Nat → Prop} {a : Nat} (F : RF a h h') (hz : Z a) (hm : a ≠ me) : FrB me ad Z h h' := ⟨⟨F.kd, F.gr, F.tg, F.gl⟩, fun x x0 _ _ _ _ _ => F.gi (fun e => x0 (by rw [e]; exact hz)), fun k _ _ _ _ => by rw [F.gi hm.symm]⟩
theorem MoL.B {Z : Nat → Prop} (H : MoL h me ad) (F : FrB me ad Z h h') : MoL h' me ad := by
  unfold MoL at H ⊢
  rw [F.1.1, F.1.2.1, F.1.2.2.1]
  exact H
end
/-- the bench holds these orders -/
def BenR (h : PH) (me : Nat) (ad : Nat → Nat) (B : List Ord) : Prop := (gi h me 13 = nI B.length ∧ B.length ≤ 13) ∧ ∀ j, j < B.length → gi h (ad 12) (4 * j + 1) = kB B j ∧ gi h (ad 12) (4 * j + 2) = pB B j ∧ gi h (ad 12) (4 * j + 3) = qB B j
theorem ben_add {h h' : PH} {me : Nat} {ad : Nat → Nat} {B : List Ord} {x : Ord} (H : BenR h me ad B) (h13 : B.length < 13) (hb : gi h' me 13 = nI (B.length + 1)) (ho : ∀ j, j < 4 * B.length → gi h' (ad 12) j = gi h (ad 12) j) (h1 : gi h' (ad 12) (4 * B.length + 1) = nI x.2.1) (h2 : gi h' (ad 12) (4 * B.length + 2) = x.2.2.1) (h3 : gi h' (ad 12) (4 * B.length + 3) = x.2.2.2) : BenR h' me ad (B ++ [x]) := by
  have el : (B ++ [x]).length = B.length + 1 := by rw [List.length_append]; rfl
  refine ⟨⟨by rw [el]; exact hb, by omega⟩, fun j hj => ?_⟩
  rw [el] at hj
  by_cases e : j < B.length
  · have := H.2 j e
    unfold kB pB qB at this ⊢
    rw [getD_app1 e, ho _ (by omega), ho _ (by omega), ho _ (by omega)]
    exact this
  · have e2 : j = B.length := by omega
    unfold kB pB qB
    rw [e2, getD_app2]
    exact ⟨h1, h2, h3⟩
theorem BenR.co {h h' : PH} {me : Nat} {ad : Nat → Nat} {B : List Ord} (H : BenR h me ad B) (e1 : gi h' me 13 = gi h me 13) (e2 : gi h' (ad 12) = gi h (ad 12)) : BenR h' me ad B := by
  unfold BenR at H ⊢
  rw [e1, e2]
  exact H
set_option maxHeartbeats 4000000 in
set_option maxRecDepth 100000 in
theorem l1_X7_layBench {me : Nat} {ad : Nat → Nat} {a i b : Nat} {A : Sta} {mk : Int32} {h0 : PH} (hi : i < 12) (hb : b < 13) (kk : ∀ h', MoL h' me ad → FrB me ad Z0 h0 h' → gi h' me 13 = nI b → (∀ y, y < 4 * b → gi h' (ad 12) y = gi h0 (ad 12) y) → (∀ y, y < 4 → gi h' (ad 12) (4 * b + y) = gi h0 a (10 + 4 * i + y)) → WPx E mX7_layBench 69 [some (.ref me), some (.ref a), some (.int mk), some (.int (nI i)), some (.int (nI 4))] [] (0, 0) h' Q) : ∀ (m : Nat) (j : Nat) (h : PH), 4 - j < m → (j ≤ 4) → (MoL h me ad) → (kd h a = some (.inr (0, 1360))) → (a ≠ me ∧ ∀ k y, (k = 12 ∨ k = 14 ∨ k = 15 ∨ k = 16) → fsz k = some y → a ≠ ad k) → (FrB me ad Z0 h0 h) → (gi h me 13 = nI b) → (∀ y, y < 4 * b → gi h (ad 12) y = gi h0 (ad 12) y) → (∀ y, y < j → gi h (ad 12) (4 * b + y) = gi h0 a (10 + 4 * i + y)) → (gi h a = gi h0 a) → WPx E mX7_layBench 34 [some (.ref me), some (.ref a), some (.int mk), some (.int (nI i)), some (.int (nI j))] [] (0, 0) h Q := by
  intro m
  induction m with
  | zero => intro j h hm; exact absurd hm (Nat.not_lt_zero _)
  | succ m ih =>
    intro j h hm hj Hm ka na F b13 g1 g2 ga
    refine wp_iload (M := mX7_layBench) (pc := 34) dX7_layBench_34 rfl ?_
    refine wp_iconst (M := mX7_layBench) (pc := 36) (v := 4) dX7_layBench_36 ci_4 ?_
    refine wp_icmp_ge (M := mX7_layBench) (pc := 37) (tgt := 69) dX7_layBench_37 rfl (fun t37 => ?_) (fun f37 => ?_)
    · have hj2 := n_ge (n := 4) hj (by decide) t37
      subst hj2
      exact kk h Hm F b13 g1 g2
    · have hlt := n_lt (n := 4) hj (by decide) f37
      refine wp_aload_n (M := mX7_layBench) (pc := 40) dX7_layBench_40 rfl ?_
      refine wp_getR (M := mX7_layBench) (pc := 41) fa_X7_32 rfl dX7_layBench_41 (by first | exact Hm.k | exact Hm.a rfl | exact ka | fail "kd") (Hm.r rfl) ?_
      refine wp_iconst (M := mX7_layBench) (pc := 44) (v := 4) dX7_layBench_44 ci_4 ?_
      refine wp_aload_n (M := mX7_layBench) (pc := 45) dX7_layBench_45 rfl ?_
      refine wp_getI (M := mX7_layBench) (pc := 46) fa_X7_153 rfl dX7_layBench_46 (by first | exact Hm.k | exact Hm.a rfl | exact ka | fail "kd") ?_
      refine wp_imul (M := mX7_layBench) (pc := 49) dX7_layBench_49 ?_
      refine wp_iload (M := mX7_layBench) (pc := 50) dX7_layBench_50 rfl ?_
      refine wp_iadd (M := mX7_layBench) (pc := 52) dX7_layBench_52 ?_
      refine wp_aload_n (M := mX7_layBench) (pc := 53) dX7_layBench_53 rfl ?_
      refine wp_iload_n (M := mX7_layBench) (pc := 54) dX7_layBench_54 rfl ?_
      refine so_S1 (M := mX7_layBench) (pc := 55) cs_X7_layBench_119 rfl rfl (LE rfl) (LE rfl) dX7_layBench_55 ?_
      refine sp_X7_orderAt ?_
      refine kI ?_
      refine wp_iload (M := mX7_layBench) (pc := 58) dX7_layBench_58 rfl ?_
      refine wp_iadd (M := mX7_layBench) (pc := 60) dX7_layBench_60 ?_
      refine wr_iaload (M := mX7_layBench) (pc := 61) dX7_layBench_61 (by first | exact Hm.k | exact Hm.a rfl | exact ka | fail "kd") (ia rfl rfl) (by omega) (by decide) ?_
      refine wr_iastore (M := mX7_layBench) (pc := 62) dX7_layBench_62 (by first | exact Hm.k | exact Hm.a rfl | exact ka | fail "kd") (ia (im (show (4 : Int32) = nI 4 from rfl) b13) rfl) (by omega) (by decide) ?_
      refine so_iinc (M := mX7_layBench) (pc := 63) (lo' := [_, _, _, _, _]) dX7_layBench_63 rfl ci_1 (LE rfl) rfl ?_
      refine wp_goto (M := mX7_layBench) (pc := 66) (tgt := 34) dX7_layBench_66 rfl ?_
      rw [show nI j + 1 = nI (j + 1) from nI_1 j, ga]
      refine ih (j + 1) _ (by omega) (by omega) (Hm.B (FrB.sb (Z := Z0) Hm (Or.inl rfl))) ka na (F.tr (FrB.sb Hm (Or.inl rfl))) ?_ (fun y hy => ?_) (fun y hy => ?_) ?_
      · rw [gi_si_ne _ _ _ (Hm.ne (k := 12) rfl).symm]; exact b13
      · rw [gi_si_at, upd_ne _ _ (by omega)]; exact g1 y hy
      · rw [gi_si_at]
        by_cases e : y = j
        · rw [e, upd_at]
        · rw [upd_ne _ _ (by omega)]; exact g2 y (by omega)
      · rw [gi_si_ne _ _ _ (na.2 12 _ (Or.inl rfl) rfl)]; exact ga
set_option maxHeartbeats 4000000 in
set_option maxRecDepth 100000 in
theorem lp_X7_layBench {me : Nat} {ad : Nat → Nat} {a : Nat} {A : Sta} {mk : Int32} {h0 : PH} (na : a ≠ me ∧ ∀ k y, (k = 12 ∨ k = 14 ∨ k = 15 ∨ k = 16) → fsz k = some y → a ≠ ad k) (k : ∀ h', MoL h' me ad → BenR h' me ad (bn A mk (sO A).length) → FrB me ad Z0 h0 h' → Q (.inl none) h') : ∀ (m : Nat) (i : Nat) (h : PH) (x4 : Option Value), (sO A).length - i < m → (i ≤ (sO A).length) → (MoL h me ad) → (kd h a = some (.inr (0, 1360))) → (RepR (gi h a) A) → (BenR h me ad (bn A mk i)) → (FrB me ad Z0 h0 h) → WPx E mX7_layBench 7 [some (.ref me), some (.ref a), some (.int mk), some (.int (nI i)), x4] [] (0, 0) h Q := by
  intro m
  induction m with
  | zero => intro i h x4 hm; exact absurd hm (Nat.not_lt_zero _)
  | succ m ih =>
    intro i h x4 hm hi Hm ka hR hB F
    have n6 := hR.n6
    have n12 := hR.n12
    have hbl := bn_len A mk i hi
    refine wp_iload_n (M := mX7_layBench) (pc := 7) dX7_layBench_7 rfl ?_
    refine wp_aload_n (M := mX7_layBench) (pc := 8) dX7_layBench_8 rfl ?_
    refine wp_bipush (M := mX7_layBench) (pc := 9) (v := 8) dX7_layBench_9 cb_8 ?_
    refine wr_iaload (M := mX7_layBench) (pc := 11) dX7_layBench_11 (by first | exact Hm.k | exact ka | fail "kd") (show (8 : Int32) = nI 8 from rfl) (by omega) (by decide) ?_
    refine wp_icmp_ge (M := mX7_layBench) (pc := 12) (tgt := 85) dX7_layBench_12 rfl (fun t12 => ?_) (fun f12 => ?_)
    · rw [hR.f8] at t12
      have hi2 := n_ge hi (by omega) t12
      subst hi2
      refine wp_return (M := mX7_layBench) (pc := 85) rfl dX7_layBench_85 ?_
      exact k h Hm hB F
    · rw [hR.f8] at f12
      have hlt := n_lt hi (by omega) f12
      obtain ⟨⟨o0, o1, o2, o3⟩, o4, o5⟩ := hR.o hlt
      refine wp_iload_n (M := mX7_layBench) (pc := 15) dX7_layBench_15 rfl ?_
      refine wp_aload_n (M := mX7_layBench) (pc := 16) dX7_layBench_16 rfl ?_
      refine wp_iload_n (M := mX7_layBench) (pc := 17) dX7_layBench_17 rfl ?_
      refine so_S1 (M := mX7_layBench) (pc := 18) cs_X7_layBench_119 rfl rfl (LE rfl) (LE rfl) dX7_layBench_18 ?_
      refine sp_X7_orderAt ?_
      refine kI ?_
      refine wp_iconst (M := mX7_layBench) (pc := 21) (v := 0) dX7_layBench_21 ci_0 ?_
      refine wp_iadd (M := mX7_layBench) (pc := 22) dX7_layBench_22 ?_
      refine wr_iaload (M := mX7_layBench) (pc := 23) dX7_layBench_23 (by first | exact Hm.k | exact ka | fail "kd") (ia rfl (show (0 : Int32) = nI 0 from rfl)) (by omega) (by decide) ?_
      refine wp_ishr (M := mX7_layBench) (pc := 24) dX7_layBench_24 ?_
      refine wp_iconst (M := mX7_layBench) (pc := 25) (v := 1) dX7_layBench_25 ci_1 ?_
      refine wp_iand (M := mX7_layBench) (pc := 26) dX7_layBench_26 ?_
      refine wp_iconst (M := mX7_layBench) (pc := 27) (v := 1) dX7_layBench_27 ci_1 ?_
      refine wp_icmp_ne (M := mX7_layBench) (pc := 28) (tgt := 79) dX7_layBench_28 rfl (fun t28 => ?_) (fun f28 => ?_)
      · rw [o0] at t28
        refine so_iinc (M := mX7_layBench) (pc := 79) (lo' := [_, _, _, _, _]) dX7_layBench_79 rfl ci_1 (LE rfl) rfl ?_
        refine wp_goto (M := mX7_layBench) (pc := 82) (tgt := 7) dX7_layBench_82 rfl ?_
        rw [show nI i + 1 = nI (i + 1) from nI_1 i]
        exact ih (i + 1) _ _ (by omega) (by omega) Hm ka hR (by rw [bn_no hlt t28]; exact hB) F
      · rw [o0] at f28
        refine wp_iconst (M := mX7_layBench) (pc := 31) (v := 0) dX7_layBench_31 ci_0 ?_
        refine so_istore (M := mX7_layBench) (pc := 32) (lo' := [_, _, _, _, _]) dX7_layBench_32 (LE rfl) (LE rfl) (Or.inr rfl) rfl ?_
        refine l1_X7_layBench (A := A) (b := (bn A mk i).length) (h0 := h) (by omega) (by omega) (fun h1 Hm1 F1 b1 g1 g2 => ?_) 5 0 h (by omega) (by omega) Hm ka na FrB.rf hB.1.1 (fun y _ => rfl) (fun y hy => absurd hy (Nat.not_lt_zero _)) rfl
        refine wp_aload_n (M := mX7_layBench) (pc := 69) dX7_layBench_69 rfl ?_
        refine wp_dup (M := mX7_layBench) (pc := 70) dX7_layBench_70 rfl ?_
        refine wp_getI (M := mX7_layBench) (pc := 71) fa_X7_153 rfl dX7_layBench_71 Hm1.k ?_
        refine wp_iconst (M := mX7_layBench) (pc := 74) (v := 1) dX7_layBench_74 ci_1 ?_
        refine wp_iadd (M := mX7_layBench) (pc := 75) dX7_layBench_75 ?_
        refine wp_putI (M := mX7_layBench) (pc := 76) fa_X7_153 (Or.inl rfl) dX7_layBench_76 Hm1.k ?_
        refine so_iinc (M := mX7_layBench) (pc := 79) (lo' := [_, _, _, _, _]) dX7_layBench_79 rfl ci_1 (LE rfl) rfl ?_
        refine wp_goto (M := mX7_layBench) (pc := 82) (tgt := 7) dX7_layBench_82 rfl ?_
        rw [show nI i + 1 = nI (i + 1) from nI_1 i, b1, show nI (bn A mk i).length + 1 = nI ((bn A mk i).length + 1) from nI_1 _]
        have F2 : FrB me ad Z0 h1 (si h1 me 13 (nI ((bn A mk i).length + 1))) := FrB.sm (Or.inl rfl)
        have ea : gi (si h1 me 13 (nI ((bn A mk i).length + 1))) a = gi h a := (F1.tr F2).2.1 a id na.1 (na.2 12 _ (by decide) rfl) (na.2 14 _ (by decide) rfl) (na.2 15 _ (by decide) rfl) (na.2 16 _ (by decide) rfl)
        refine ih (i + 1) _ _ (by omega) (by omega) (Hm1.B F2) (by rw [(F1.tr F2).1.1]; exact ka) (by rw [ea]; exact hR) ?_ (F.tr (F1.tr F2))
        rw [bn_ye hlt f28]
        have e12 : gi (si h1 me 13 (nI ((bn A mk i).length + 1))) (ad 12) = gi h1 (ad 12) := gi_si_ne _ _ _ (Hm1.ne (k := 12) rfl)
        refine ben_add hB (by omega) gi_si_same (fun j hj => ?_) ?_ ?_ ?_
        · rw [e12]; exact g1 j hj
        · rw [e12, g2 1 (by decide)]; exact o1
        · rw [e12, g2 2 (by decide)]; exact o2
        · rw [e12, g2 3 (by decide)]; exact o3
set_option maxHeartbeats 4000000 in
set_option maxRecDepth 100000 in
theorem sp_X7_layBench {me : Nat} {ad : Nat → Nat} {a : Nat} {A : Sta} {mk : Int32} (Hm : MoL h me ad) (ka : kd h a = some (.inr (0, 1360))) (hR : RepR (gi h a) A) (na : a ≠ me ∧ ∀ k y, (k = 12 ∨ k = 14 ∨ k = 15 ∨ k = 16) → fsz k = some y → a ≠ ad k) (k : ∀ h', MoL h' me ad → BenR h' me ad (bn A mk (sO A).length) → FrB me ad Z0 h h' → Q (.inl none) h') : WPx E mX7_layBench 0 [some (.ref me), some (.ref a), some (.int mk), none, none] [] (0, 0) h Q := by
  refine wp_aload_n (M := mX7_layBench) (pc := 0) dX7_layBench_0 rfl ?_
  refine wp_iconst (M := mX7_layBench) (pc := 1) (v := 0) dX7_layBench_1 ci_0 ?_
  refine wp_putI (M := mX7_layBench) (pc := 2) fa_X7_153 (Or.inl rfl) dX7_layBench_2 Hm.k ?_
  refine wp_iconst (M := mX7_layBench) (pc := 5) (v := 0) dX7_layBench_5 ci_0 ?_
  refine so_istore_n (M := mX7_layBench) (pc := 6) (lo' := [_, _, _, _, _]) dX7_layBench_6 (LE rfl) (LE rfl) (Or.inr rfl) rfl ?_
  have F2 : FrB me ad Z0 h (si h me 13 0) := FrB.sm (Or.inl rfl)
  have ea : gi (si h me 13 0) a = gi h a := gi_si_ne _ _ _ na.1
  exact lp_X7_layBench (h0 := h) na k ((sO A).length + 1) 0 _ none (by omega) (by omega) (Hm.B F2) ka (by rw [ea]; exact hR) ⟨⟨by rw [gi_si_same]; rfl, by simp [bn]⟩, fun j hj => by simp [bn] at hj⟩ F2
set_option maxHeartbeats 4000000 in
set_option maxRecDepth 100000 in
theorem sp_X7_benchMore {me : Nat} {ad : Nat → Nat} {B : List Ord} {t p z : Int32} {kn w : Nat} (Hm : MoL h me ad) (hB : BenR h me ad B) (h13 : B.length < 13) (k : ∀ h', MoL h' me ad → BenR h' me ad (B ++ [(w, kn, p, z)]) → FrB me ad Z0 h h' → Q (.inl none) h') : WPx E mX7_benchMore 0 [some (.ref me), some (.int t), some (.int (nI kn)), some (.int p), some (.int z)] [] (0, 0) h Q := by
  have ne := (Hm.ne (k := 12) rfl).symm
  refine wp_aload_n (M := mX7_benchMore) (pc := 0) dX7_benchMore_0 rfl ?_
  refine wp_getR (M := mX7_benchMore) (pc := 1) fa_X7_32 rfl dX7_benchMore_1 (by first | exact Hm.k | exact Hm.a rfl | exact ka | fail "kd") (Hm.r rfl) ?_
  refine wp_iconst (M := mX7_benchMore) (pc := 4) (v := 4) dX7_benchMore_4 ci_4 ?_
  refine wp_aload_n (M := mX7_benchMore) (pc := 5) dX7_benchMore_5 rfl ?_
  refine wp_getI (M := mX7_benchMore) (pc := 6) fa_X7_153 rfl dX7_benchMore_6 (by first | exact Hm.k | exact Hm.a rfl | exact ka | fail "kd") ?_
  refine wp_imul (M := mX7_benchMore) (pc := 9) dX7_benchMore_9 ?_
  refine wp_iconst (M := mX7_benchMore) (pc := 10) (v := 0) dX7_benchMore_10 ci_0 ?_
  refine wp_iadd (M := mX7_benchMore) (pc := 11) dX7_benchMore_11 ?_
  refine wp_iload_n (M := mX7_benchMore) (pc := 12) dX7_benchMore_12 rfl ?_
  refine wr_iastore (M := mX7_benchMore) (pc := 13) dX7_benchMore_13 (by first | exact Hm.k | exact Hm.a rfl | exact ka | fail "kd") (ia (im (show (4 : Int32) = nI 4 from rfl) hB.1.1) (show (0 : Int32) = nI 0 from rfl)) (by omega) (by decide) ?_
  refine wp_aload_n (M := mX7_benchMore) (pc := 14) dX7_benchMore_14 rfl ?_
  refine wp_getR (M := mX7_benchMore) (pc := 15) fa_X7_32 rfl dX7_benchMore_15 (by first | exact Hm.k | exact Hm.a rfl | exact ka | fail "kd") (Hm.r rfl) ?_
  refine wp_iconst (M := mX7_benchMore) (pc := 18) (v := 4) dX7_benchMore_18 ci_4 ?_
  refine wp_aload_n (M := mX7_benchMore) (pc := 19) dX7_benchMore_19 rfl ?_
  refine wp_getI (M := mX7_benchMore) (pc := 20) fa_X7_153 rfl dX7_benchMore_20 (by first | exact Hm.k | exact Hm.a rfl | exact ka | fail "kd") ?_
  refine wp_imul (M := mX7_benchMore) (pc := 23) dX7_benchMore_23 ?_
  refine wp_iconst (M := mX7_benchMore) (pc := 24) (v := 1) dX7_benchMore_24 ci_1 ?_
  refine wp_iadd (M := mX7_benchMore) (pc := 25) dX7_benchMore_25 ?_
  refine wp_iload_n (M := mX7_benchMore) (pc := 26) dX7_benchMore_26 rfl ?_
  refine wr_iastore (M := mX7_benchMore) (pc := 27) dX7_benchMore_27 (by first | exact Hm.k | exact Hm.a rfl | exact ka | fail "kd") (ia (im (show (4 : Int32) = nI 4 from rfl) (by simp only [gi_si_ne _ _ _ ne]; exact hB.1.1)) (show (1 : Int32) = nI 1 from rfl)) (by omega) (by decide) ?_
  refine wp_aload_n (M := mX7_benchMore) (pc := 28) dX7_benchMore_28 rfl ?_
  refine wp_getR (M := mX7_benchMore) (pc := 29) fa_X7_32 rfl dX7_benchMore_29 (by first | exact Hm.k | exact Hm.a rfl | exact ka | fail "kd") (Hm.r rfl) ?_
  refine wp_iconst (M := mX7_benchMore) (pc := 32) (v := 4) dX7_benchMore_32 ci_4 ?_
  refine wp_aload_n (M := mX7_benchMore) (pc := 33) dX7_benchMore_33 rfl ?_
  refine wp_getI (M := mX7_benchMore) (pc := 34) fa_X7_153 rfl dX7_benchMore_34 (by first | exact Hm.k | exact Hm.a rfl | exact ka | fail "kd") ?_
  refine wp_imul (M := mX7_benchMore) (pc := 37) dX7_benchMore_37 ?_
  refine wp_iconst (M := mX7_benchMore) (pc := 38) (v := 2) dX7_benchMore_38 ci_2 ?_
  refine wp_iadd (M := mX7_benchMore) (pc := 39) dX7_benchMore_39 ?_
  refine wp_iload_n (M := mX7_benchMore) (pc := 40) dX7_benchMore_40 rfl ?_
  refine wr_iastore (M := mX7_benchMore) (pc := 41) dX7_benchMore_41 (by first | exact Hm.k | exact Hm.a rfl | exact ka | fail "kd") (ia (im (show (4 : Int32) = nI 4 from rfl) (by simp only [gi_si_ne _ _ _ ne]; exact hB.1.1)) (show (2 : Int32) = nI 2 from rfl)) (by omega) (by decide) ?_
  refine wp_aload_n (M := mX7_benchMore) (pc := 42) dX7_benchMore_42 rfl ?_
  refine wp_getR (M := mX7_benchMore) (pc := 43) fa_X7_32 rfl dX7_benchMore_43 (by first | exact Hm.k | exact Hm.a rfl | exact ka | fail "kd") (Hm.r rfl) ?_
  refine wp_iconst (M := mX7_benchMore) (pc := 46) (v := 4) dX7_benchMore_46 ci_4 ?_
  refine wp_aload_n (M := mX7_benchMore) (pc := 47) dX7_benchMore_47 rfl ?_
  refine wp_getI (M := mX7_benchMore) (pc := 48) fa_X7_153 rfl dX7_benchMore_48 (by first | exact Hm.k | exact Hm.a rfl | exact ka | fail "kd") ?_
  refine wp_imul (M := mX7_benchMore) (pc := 51) dX7_benchMore_51 ?_
  refine wp_iconst (M := mX7_benchMore) (pc := 52) (v := 3) dX7_benchMore_52 ci_3 ?_
  refine wp_iadd (M := mX7_benchMore) (pc := 53) dX7_benchMore_53 ?_
  refine wp_iload (M := mX7_benchMore) (pc := 54) dX7_benchMore_54 rfl ?_
  refine wr_iastore (M := mX7_benchMore) (pc := 56) dX7_benchMore_56 (by first | exact Hm.k | exact Hm.a rfl | exact ka | fail "kd") (ia (im (show (4 : Int32) = nI 4 from rfl) (by simp only [gi_si_ne _ _ _ ne]; exact hB.1.1)) (show (3 : Int32) = nI 3 from rfl)) (by omega) (by decide) ?_
  refine wp_aload_n (M := mX7_benchMore) (pc := 57) dX7_benchMore_57 rfl ?_
  refine wp_dup (M := mX7_benchMore) (pc := 58) dX7_benchMore_58 rfl ?_
  refine wp_getI (M := mX7_benchMore) (pc := 59) fa_X7_153 rfl dX7_benchMore_59 (by first | exact Hm.k | exact Hm.a rfl | exact ka | fail "kd") ?_
  refine wp_iconst (M := mX7_benchMore) (pc := 62) (v := 1) dX7_benchMore_62 ci_1 ?_
  refine wp_iadd (M := mX7_benchMore) (pc := 63) dX7_benchMore_63 ?_
  refine wp_putI (M := mX7_benchMore) (pc := 64) fa_X7_153 (Or.inl rfl) dX7_benchMore_64 (by first | exact Hm.k | exact Hm.a rfl | exact ka | fail "kd") ?_
  refine wp_return (M := mX7_benchMore) (pc := 67) rfl dX7_benchMore_67 ?_
  simp only [gi_si_ne _ _ _ ne, hB.1.1]
  rw [show nI B.length + 1 = nI (B.length + 1) from nI_1 _]
  have F1 : FrB me ad Z0 h (si (si (si (si h (ad 12) (4 * B.length + 0) t) (ad 12) (4 * B.length + 1) (nI kn)) (ad 12) (4 * B.length + 2) p) (ad 12) (4 * B.length + 3) z) := (((FrB.sb Hm (Or.inl rfl)).tr (FrB.sb (h := si h (ad 12) (4 * B.length + 0) t) Hm (Or.inl rfl))).tr (FrB.sb (h := si (si h (ad 12) (4 * B.length + 0) t) (ad 12) (4 * B.length + 1) (nI kn)) Hm (Or.inl rfl))).tr (FrB.sb (h := si (si (si h (ad 12) (4 * B.length + 0) t) (ad 12) (4 * B.length + 1) (nI kn)) (ad 12) (4 * B.length + 2) p) Hm (Or.inl rfl))
  have F2 := F1.tr (FrB.sm (k := 13) (v := nI (B.length + 1)) (Or.inl rfl))
  refine k _ (Hm.B F2) (ben_add hB h13 gi_si_same (fun j hj => ?_) ?_ ?_ ?_) F2
  · rw [gi_si_ne _ _ _ ne.symm]
    simp only [gi_si_at]
    rw [upd_ne _ _ (by omega), upd_ne _ _ (by omega), upd_ne _ _ (by omega), upd_ne _ _ (by omega)]
  · rw [gi_si_ne _ _ _ ne.symm]
    simp only [gi_si_at]
    rw [upd_ne _ _ (by omega), upd_ne _ _ (by omega), upd_at]
  · rw [gi_si_ne _ _ _ ne.symm]
    simp only [gi_si_at]
    rw [upd_ne _ _ (by omega), upd_at]
  · rw [gi_si_ne _ _ _ ne.symm]
    simp only [gi_si_at]
    rw [upd_at]
/-- whether a younger order comes before another one of its side -/
def befP (B : List Ord) (i x : Nat) : Prop := if kB B i = 0 then pB B x < pB B i else (pB B i < pB B x ∨ (pB B i = pB B x ∧ kB B i < kB B x))
theorem befP_b {B : List Ord} {i x : Nat} (h : kB B i = 0) : befP B i x ↔ pB B x < pB B i := by unfold befP; rw [if_pos h]
theorem befP_a {B : List Ord} {i x : Nat} (h : ¬ kB B i = 0) : befP B i x ↔ (pB B i < pB B x ∨ (pB B i = pB B x ∧ kB B i < kB B x)) := by unfold befP; rw [if_neg h]
noncomputable def posF (B : List Ord) (i : Nat) (f : Nat → Nat) : Nat → Nat
  | 0 => 0
  | n + 1 => cif (befP B i (f n)) (posF B i f n) (n + 1)
theorem posF_y {B : List Ord} {i n : Nat} {f : Nat → Nat} (h : befP B i (f n)) : posF B i f (n + 1) = posF B i f n := cif_t h
theorem posF_n {B : List Ord} {i n : Nat} {f : Nat → Nat} (h : ¬ befP B i (f n)) : posF B i f (n + 1) = n + 1 := cif_f h
def insF (f : Nat → Nat) (p i : Nat) : Nat → Nat := fun j => if j < p then f j else if j = p then i else f (j - 1)
def isB (B : List Ord) (i : Nat) : Int32 := if kB B i = 0 then 1 else 0
/-- a side of the bench, sorted: places, and how many -/
noncomputable def sdF (B : List Ord) (v : Int32) : Nat → (Nat → Nat) × Nat
  | 0 => (fun _ => 0, 0)
  | i + 1 => if isB B i = v then (insF (sdF B v i).1 (posF B i (sdF B v i).1 (sdF B v i).2) i, (sdF B v i).2 + 1) else sdF B v i
theorem sdF_y {B : List Ord} {v : Int32} {i : Nat} (h : isB B i = v) : sdF B v (i + 1) = (insF (sdF B v i).1 (posF B i (sdF B v i).1 (sdF B v i).2) i, (sdF B v i).2 + 1) := if_pos h
theorem sdF_n {B : List Ord} {v : Int32} {i : Nat} (h : ¬ isB B i = v) : sdF B v (i + 1) = sdF B v i := if_neg h
theorem posF_le {B : List Ord} {i : Nat} {f : Nat → Nat} : ∀ n, posF B i f n ≤ n
  | 0 => Nat.le_refl _
  | n + 1 => by
    by_cases h : befP B i (f n)
    · rw [posF_y h]; have := posF_le (B := B) (i := i) (f := f) n; omega
    · rw [posF_n h]; exact Nat.le_refl _
theorem sdF_len (B : List Ord) (v : Int32) : ∀ i, (sdF B v i).2 ≤ i ∧ ∀ j, j < (sdF B v i).2 → (sdF B v i).1 j < i
  | 0 => ⟨Nat.le_refl _, fun j hj => absurd hj (Nat.not_lt_zero _)⟩
  | i + 1 => by
    obtain ⟨h1, h2⟩ := sdF_len B v i
    by_cases h : isB B i = v
    · rw [sdF_y h]
      refine ⟨by show (sdF B v i).2 + 1 ≤ i + 1; omega, fun j hj => ?_⟩
      have hj' : j < (sdF B v i).2 + 1 := hj
      show insF (sdF B v i).1 (posF B i (sdF B v i).1 (sdF B v i).2) i j < i + 1
      have hp := posF_le (B := B) (i := i) (f := (sdF B v i).1) (sdF B v i).2
      unfold insF
      by_cases e1 : j < posF B i (sdF B v i).1 (sdF B v i).2
      · rw [if_pos e1]; have := h2 j (by omega); omega
      · rw [if_neg e1]
        by_cases e2 : j = posF B i (sdF B v i).1 (sdF B v i).2
        · rw [if_pos e2]; omega
        · rw [if_neg e2]; have := h2 (j - 1) (by omega); omega
    · rw [sdF_n h]
      exact ⟨by omega, fun j hj => by have := h2 j hj; omega⟩
set_option maxHeartbeats 4000000 in
set_option maxRecDepth 100000 in
theorem sp_X7_isBefore {me : Nat} {ad : Nat → Nat} {B : List Ord} {i x : Nat} (Hm : MoL h me ad) (hB : BenR h me ad B) (hi : i < B.length) (hx : x < B.length) (k : Q (.inl (some (.int (b01 (befP B i x))))) h) : WPx E mX7_isBefore 0 [some (.ref me), some (.int (nI i)), some (.int (nI x)), none, none] [] (0, 0) h Q := by
  have b13 := hB.1.2
  obtain ⟨ki, pi, qi⟩ := hB.2 i hi
  obtain ⟨kx, px, qx⟩ := hB.2 x hx
  refine wp_aload_n (M := mX7_isBefore) (pc := 0) dX7_isBefore_0 rfl ?_
  refine wp_getR (M := mX7_isBefore) (pc := 1) fa_X7_32 rfl dX7_isBefore_1 (by first | exact Hm.k | exact Hm.a rfl | exact ka | fail "kd") (Hm.r rfl) ?_
  refine wp_iconst (M := mX7_isBefore) (pc := 4) (v := 4) dX7_isBefore_4 ci_4 ?_
  refine wp_iload_n (M := mX7_isBefore) (pc := 5) dX7_isBefore_5 rfl ?_
  refine wp_imul (M := mX7_isBefore) (pc := 6) dX7_isBefore_6 ?_
  refine wp_iconst (M := mX7_isBefore) (pc := 7) (v := 2) dX7_isBefore_7 ci_2 ?_
  refine wp_iadd (M := mX7_isBefore) (pc := 8) dX7_isBefore_8 ?_
  refine wr_iaload (M := mX7_isBefore) (pc := 9) dX7_isBefore_9 (by first | exact Hm.k | exact Hm.a rfl | exact ka | fail "kd") (ia (im (show (4 : Int32) = nI 4 from rfl) rfl) (show (2 : Int32) = nI 2 from rfl)) (by omega) (by decide) ?_
  refine so_istore_n (M := mX7_isBefore) (pc := 10) (lo' := [_, _, _, _, _]) dX7_isBefore_10 (LE rfl) (LE rfl) (Or.inr rfl) rfl ?_
  refine wp_aload_n (M := mX7_isBefore) (pc := 11) dX7_isBefore_11 rfl ?_
  refine wp_getR (M := mX7_isBefore) (pc := 12) fa_X7_32 rfl dX7_isBefore_12 (by first | exact Hm.k | exact Hm.a rfl | exact ka | fail "kd") (Hm.r rfl) ?_
  refine wp_iconst (M := mX7_isBefore) (pc := 15) (v := 4) dX7_isBefore_15 ci_4 ?_
  refine wp_iload_n (M := mX7_isBefore) (pc := 16) dX7_isBefore_16 rfl ?_
  refine wp_imul (M := mX7_isBefore) (pc := 17) dX7_isBefore_17 ?_
  refine wp_iconst (M := mX7_isBefore) (pc := 18) (v := 2) dX7_isBefore_18 ci_2 ?_
  refine wp_iadd (M := mX7_isBefore) (pc := 19) dX7_isBefore_19 ?_
  refine wr_iaload (M := mX7_isBefore) (pc := 20) dX7_isBefore_20 (by first | exact Hm.k | exact Hm.a rfl | exact ka | fail "kd") (ia (im (show (4 : Int32) = nI 4 from rfl) rfl) (show (2 : Int32) = nI 2 from rfl)) (by omega) (by decide) ?_
  refine so_istore (M := mX7_isBefore) (pc := 21) (lo' := [_, _, _, _, _]) dX7_isBefore_21 (LE rfl) (LE rfl) (Or.inr rfl) rfl ?_
  refine wp_aload_n (M := mX7_isBefore) (pc := 23) dX7_isBefore_23 rfl ?_
  refine wp_getR (M := mX7_isBefore) (pc := 24) fa_X7_32 rfl dX7_isBefore_24 (by first | exact Hm.k | exact Hm.a rfl | exact ka | fail "kd") (Hm.r rfl) ?_
  refine wp_iconst (M := mX7_isBefore) (pc := 27) (v := 4) dX7_isBefore_27 ci_4 ?_
  refine wp_iload_n (M := mX7_isBefore) (pc := 28) dX7_isBefore_28 rfl ?_
  refine wp_imul (M := mX7_isBefore) (pc := 29) dX7_isBefore_29 ?_
  refine wp_iconst (M := mX7_isBefore) (pc := 30) (v := 1) dX7_isBefore_30 ci_1 ?_
  refine wp_iadd (M := mX7_isBefore) (pc := 31) dX7_isBefore_31 ?_
  refine wr_iaload (M := mX7_isBefore) (pc := 32) dX7_isBefore_32 (by first | exact Hm.k | exact Hm.a rfl | exact ka | fail "kd") (ia (im (show (4 : Int32) = nI 4 from rfl) rfl) (show (1 : Int32) = nI 1 from rfl)) (by omega) (by decide) ?_
  refine wp_if_ne (M := mX7_isBefore) (pc := 33) (tgt := 48) dX7_isBefore_33 rfl (fun t33 => ?_) (fun f33 => ?_)
  · rw [ki] at t33
    refine wp_iload_n (M := mX7_isBefore) (pc := 48) dX7_isBefore_48 rfl ?_
    refine wp_iload (M := mX7_isBefore) (pc := 49) dX7_isBefore_49 rfl ?_
    refine wp_icmp_lt (M := mX7_isBefore) (pc := 51) (tgt := 83) dX7_isBefore_51 rfl (fun t51 => ?_) (fun f51 => ?_)
    · rw [pi, px] at t51
      refine wp_iconst (M := mX7_isBefore) (pc := 83) (v := 1) dX7_isBefore_83 ci_1 ?_
      refine wp_goto (M := mX7_isBefore) (pc := 84) (tgt := 88) dX7_isBefore_84 rfl ?_
      refine wp_zreturn (M := mX7_isBefore) (pc := 88) rfl (by decide) dX7_isBefore_88 ?_
      first
      | (rw [b01_f (fun q => Int32.not_lt.mpr t39 ((befP_b f33).mp q))] at k; exact k)
      | (rw [b01_t ((befP_b f33).mpr (Int32.not_le.mp f39))] at k; exact k)
      | (rw [b01_t ((befP_a t33).mpr (Or.inl t51))] at k; exact k)
      | (rw [b01_f (fun q => ((befP_a t33).mp q).elim f51 (fun q => t57 q.1))] at k; exact k)
      | (rw [b01_f (fun q => ((befP_a t33).mp q).elim f51 (fun q => Int32.not_lt.mpr t80 q.2))] at k; exact k)
      | (rw [b01_t ((befP_a t33).mpr (Or.inr ⟨f57, Int32.not_le.mp f80⟩))] at k; exact k)
      | fail "leaf"
    · rw [pi, px] at f51
      refine wp_iload_n (M := mX7_isBefore) (pc := 54) dX7_isBefore_54 rfl ?_
      refine wp_iload (M := mX7_isBefore) (pc := 55) dX7_isBefore_55 rfl ?_
      refine wp_icmp_ne (M := mX7_isBefore) (pc := 57) (tgt := 87) dX7_isBefore_57 rfl (fun t57 => ?_) (fun f57 => ?_)
      · rw [pi, px] at t57
        refine wp_iconst (M := mX7_isBefore) (pc := 87) (v := 0) dX7_isBefore_87 ci_0 ?_
        refine wp_zreturn (M := mX7_isBefore) (pc := 88) rfl (by decide) dX7_isBefore_88 ?_
        first
        | (rw [b01_f (fun q => Int32.not_lt.mpr t39 ((befP_b f33).mp q))] at k; exact k)
        | (rw [b01_t ((befP_b f33).mpr (Int32.not_le.mp f39))] at k; exact k)
        | (rw [b01_t ((befP_a t33).mpr (Or.inl t51))] at k; exact k)
        | (rw [b01_f (fun q => ((befP_a t33).mp q).elim f51 (fun q => t57 q.1))] at k; exact k)
        | (rw [b01_f (fun q => ((befP_a t33).mp q).elim f51 (fun q => Int32.not_lt.mpr t80 q.2))] at k; exact k)
        | (rw [b01_t ((befP_a t33).mpr (Or.inr ⟨f57, Int32.not_le.mp f80⟩))] at k; exact k)
        | fail "leaf"
      · rw [pi, px] at f57
        refine wp_aload_n (M := mX7_isBefore) (pc := 60) dX7_isBefore_60 rfl ?_
        refine wp_getR (M := mX7_isBefore) (pc := 61) fa_X7_32 rfl dX7_isBefore_61 (by first | exact Hm.k | exact Hm.a rfl | exact ka | fail "kd") (Hm.r rfl) ?_
        refine wp_iconst (M := mX7_isBefore) (pc := 64) (v := 4) dX7_isBefore_64 ci_4 ?_
        refine wp_iload_n (M := mX7_isBefore) (pc := 65) dX7_isBefore_65 rfl ?_
        refine wp_imul (M := mX7_isBefore) (pc := 66) dX7_isBefore_66 ?_
        refine wp_iconst (M := mX7_isBefore) (pc := 67) (v := 1) dX7_isBefore_67 ci_1 ?_
        refine wp_iadd (M := mX7_isBefore) (pc := 68) dX7_isBefore_68 ?_
        refine wr_iaload (M := mX7_isBefore) (pc := 69) dX7_isBefore_69 (by first | exact Hm.k | exact Hm.a rfl | exact ka | fail "kd") (ia (im (show (4 : Int32) = nI 4 from rfl) rfl) (show (1 : Int32) = nI 1 from rfl)) (by omega) (by decide) ?_
        refine wp_aload_n (M := mX7_isBefore) (pc := 70) dX7_isBefore_70 rfl ?_
        refine wp_getR (M := mX7_isBefore) (pc := 71) fa_X7_32 rfl dX7_isBefore_71 (by first | exact Hm.k | exact Hm.a rfl | exact ka | fail "kd") (Hm.r rfl) ?_
        refine wp_iconst (M := mX7_isBefore) (pc := 74) (v := 4) dX7_isBefore_74 ci_4 ?_
        refine wp_iload_n (M := mX7_isBefore) (pc := 75) dX7_isBefore_75 rfl ?_
        refine wp_imul (M := mX7_isBefore) (pc := 76) dX7_isBefore_76 ?_
        refine wp_iconst (M := mX7_isBefore) (pc := 77) (v := 1) dX7_isBefore_77 ci_1 ?_
        refine wp_iadd (M := mX7_isBefore) (pc := 78) dX7_isBefore_78 ?_
        refine wr_iaload (M := mX7_isBefore) (pc := 79) dX7_isBefore_79 (by first | exact Hm.k | exact Hm.a rfl | exact ka | fail "kd") (ia (im (show (4 : Int32) = nI 4 from rfl) rfl) (show (1 : Int32) = nI 1 from rfl)) (by omega) (by decide) ?_
        refine wp_icmp_ge (M := mX7_isBefore) (pc := 80) (tgt := 87) dX7_isBefore_80 rfl (fun t80 => ?_) (fun f80 => ?_)
        · rw [ki, kx] at t80
          refine wp_iconst (M := mX7_isBefore) (pc := 87) (v := 0) dX7_isBefore_87 ci_0 ?_
          refine wp_zreturn (M := mX7_isBefore) (pc := 88) rfl (by decide) dX7_isBefore_88 ?_
          first
          | (rw [b01_f (fun q => Int32.not_lt.mpr t39 ((befP_b f33).mp q))] at k; exact k)
          | (rw [b01_t ((befP_b f33).mpr (Int32.not_le.mp f39))] at k; exact k)
          | (rw [b01_t ((befP_a t33).mpr (Or.inl t51))] at k; exact k)
          | (rw [b01_f (fun q => ((befP_a t33).mp q).elim f51 (fun q => t57 q.1))] at k; exact k)
          | (rw [b01_f (fun q => ((befP_a t33).mp q).elim f51 (fun q => Int32.not_lt.mpr t80 q.2))] at k; exact k)
          | (rw [b01_t ((befP_a t33).mpr (Or.inr ⟨f57, Int32.not_le.mp f80⟩))] at k; exact k)
          | fail "leaf"
        · rw [ki, kx] at f80
          refine wp_iconst (M := mX7_isBefore) (pc := 83) (v := 1) dX7_isBefore_83 ci_1 ?_
          refine wp_goto (M := mX7_isBefore) (pc := 84) (tgt := 88) dX7_isBefore_84 rfl ?_
          refine wp_zreturn (M := mX7_isBefore) (pc := 88) rfl (by decide) dX7_isBefore_88 ?_
          first
          | (rw [b01_f (fun q => Int32.not_lt.mpr t39 ((befP_b f33).mp q))] at k; exact k)
          | (rw [b01_t ((befP_b f33).mpr (Int32.not_le.mp f39))] at k; exact k)
          | (rw [b01_t ((befP_a t33).mpr (Or.inl t51))] at k; exact k)
          | (rw [b01_f (fun q => ((befP_a t33).mp q).elim f51 (fun q => t57 q.1))] at k; exact k)
          | (rw [b01_f (fun q => ((befP_a t33).mp q).elim f51 (fun q => Int32.not_lt.mpr t80 q.2))] at k; exact k)
          | (rw [b01_t ((befP_a t33).mpr (Or.inr ⟨f57, Int32.not_le.mp f80⟩))] at k; exact k)
          | fail "leaf"
  · rw [ki] at f33
    refine wp_iload_n (M := mX7_isBefore) (pc := 36) dX7_isBefore_36 rfl ?_
    refine wp_iload (M := mX7_isBefore) (pc := 37) dX7_isBefore_37 rfl ?_
    refine wp_icmp_le (M := mX7_isBefore) (pc := 39) (tgt := 46) dX7_isBefore_39 rfl (fun t39 => ?_) (fun f39 => ?_)
    · rw [pi, px] at t39
      refine wp_iconst (M := mX7_isBefore) (pc := 46) (v := 0) dX7_isBefore_46 ci_0 ?_
      refine wp_zreturn (M := mX7_isBefore) (pc := 47) rfl (by decide) dX7_isBefore_47 ?_
      first
      | (rw [b01_f (fun q => Int32.not_lt.mpr t39 ((befP_b f33).mp q))] at k; exact k)
      | (rw [b01_t ((befP_b f33).mpr (Int32.not_le.mp f39))] at k; exact k)
      | (rw [b01_t ((befP_a t33).mpr (Or.inl t51))] at k; exact k)
      | (rw [b01_f (fun q => ((befP_a t33).mp q).elim f51 (fun q => t57 q.1))] at k; exact k)
      | (rw [b01_f (fun q => ((befP_a t33).mp q).elim f51 (fun q => Int32.not_lt.mpr t80 q.2))] at k; exact k)
      | (rw [b01_t ((befP_a t33).mpr (Or.inr ⟨f57, Int32.not_le.mp f80⟩))] at k; exact k)
      | fail "leaf"
    · rw [pi, px] at f39
      refine wp_iconst (M := mX7_isBefore) (pc := 42) (v := 1) dX7_isBefore_42 ci_1 ?_
      refine wp_goto (M := mX7_isBefore) (pc := 43) (tgt := 47) dX7_isBefore_43 rfl ?_
      refine wp_zreturn (M := mX7_isBefore) (pc := 47) rfl (by decide) dX7_isBefore_47 ?_
      first
      | (rw [b01_f (fun q => Int32.not_lt.mpr t39 ((befP_b f33).mp q))] at k; exact k)
      | (rw [b01_t ((befP_b f33).mpr (Int32.not_le.mp f39))] at k; exact k)
      | (rw [b01_t ((befP_a t33).mpr (Or.inl t51))] at k; exact k)
      | (rw [b01_f (fun q => ((befP_a t33).mp q).elim f51 (fun q => t57 q.1))] at k; exact k)
      | (rw [b01_f (fun q => ((befP_a t33).mp q).elim f51 (fun q => Int32.not_lt.mpr t80 q.2))] at k; exact k)
      | (rw [b01_t ((befP_a t33).mpr (Or.inr ⟨f57, Int32.not_le.mp f80⟩))] at k; exact k)
      | fail "leaf"
set_option maxHeartbeats 4000000 in
set_option maxRecDepth 100000 in
theorem l1_X7_laySide {me : Nat} {ad : Nat → Nat} {B : List Ord} {v : Int32} {i n x : Nat} {f : Nat → Nat} {h0 : PH} (hx : x = 14 ∨ x = 15) (hi : i < B.length) (hn : n ≤ i) (hf : ∀ j, j < n → f j < i) (kk : ∀ h', MoL h' me ad → FrB me ad Z0 h0 h' → gi h' me = gi h0 me → (∀ z, z ≠ ad x → gi h' z = gi h0 z) → (∀ j, j < posF B i f n → gi h' (ad x) j = nI (f j)) → (∀ j, posF B i f n < j → j ≤ n → gi h' (ad x) j = nI (f (j - 1))) → WPx E mX7_laySide 76 [some (.ref me), some (.ref (ad x)), some (.int v), some (.int (nI n)), some (.int (nI i)), some (.int (nI (posF B i f n)))] [] (0, 0) h' Q) : ∀ (m : Nat) (c : Nat) (h : PH), c < m → (c ≤ n) → (MoL h me ad) → (BenR h me ad B) → (FrB me ad Z0 h0 h) → (gi h me = gi h0 me) → (∀ z, z ≠ ad x → gi h z = gi h0 z) → (∀ j, j < c → gi h (ad x) j = nI (f j)) → (∀ j, c < j → j ≤ n → gi h (ad x) j = nI (f (j - 1))) → (posF B i f n = posF B i f c) → WPx E mX7_laySide 40 [some (.ref me), some (.ref (ad x)), some (.int v), some (.int (nI n)), some (.int (nI i)), some (.int (nI c))] [] (0, 0) h Q := by
  intro m
  induction m with
  | zero => intro c h hm; exact absurd hm (Nat.not_lt_zero _)
  | succ m ih =>
    intro c h hm hc Hm hB F gm go g1 g2 he
    have b13 := hB.1.2
    obtain ⟨y9, hy9, hl9⟩ : ∃ y, fsz x = some y ∧ y = (0, 13) := by rcases hx with rfl | rfl <;> exact ⟨_, rfl, rfl⟩
    subst hl9
    have kx : kd h (ad x) = some (.inr (0, 13)) := Hm.a hy9
    refine wp_iload (M := mX7_laySide) (pc := 40) dX7_laySide_40 rfl ?_
    refine wp_if_le (M := mX7_laySide) (pc := 42) (tgt := 76) dX7_laySide_42 rfl (fun t42 => ?_) (fun f42 => ?_)
    · have c0 : c = 0 := Nat.le_zero.mp ((i_le (b := 0) (by omega) (by decide)).mp t42)
      subst c0
      rw [show posF B i f 0 = 0 from rfl] at he
      have kk2 := kk h Hm F gm go
      rw [he] at kk2
      exact kk2 g1 g2
    · have cp : 0 < c := Nat.pos_of_ne_zero (fun e => f42 (by rw [e]; exact Int32.le_refl _))
      obtain ⟨c1, rfl⟩ : ∃ c1, c = c1 + 1 := ⟨c - 1, by omega⟩
      have ex : gi h (ad x) (c1 + 1 - 1) = nI (f c1) := g1 c1 (by omega)
      refine wp_aload_n (M := mX7_laySide) (pc := 45) dX7_laySide_45 rfl ?_
      refine wp_iload (M := mX7_laySide) (pc := 46) dX7_laySide_46 rfl ?_
      refine wp_aload_n (M := mX7_laySide) (pc := 48) dX7_laySide_48 rfl ?_
      refine wp_iload (M := mX7_laySide) (pc := 49) dX7_laySide_49 rfl ?_
      refine wp_iconst (M := mX7_laySide) (pc := 51) (v := 1) dX7_laySide_51 ci_1 ?_
      refine wp_isub (M := mX7_laySide) (pc := 52) dX7_laySide_52 ?_
      refine wr_iaload (M := mX7_laySide) (pc := 53) dX7_laySide_53 (by first | exact Hm.k | exact kx | fail "kd") (isb rfl (show (1 : Int32) = nI 1 from rfl) (by omega)) (by omega) (by decide) ?_
      refine so_V2 (M := mX7_laySide) (pc := 54) cs_X7_laySide_156 rfl rfl (LE rfl) (LE rfl) dX7_laySide_54 (by first | exact Hm.k | exact kx | fail "kd") ?_
      rw [ex]
      have hf1 := hf c1 (by omega)
      refine sp_X7_isBefore Hm hB hi (by omega) ?_
      refine kI ?_
      refine wp_if_eq (M := mX7_laySide) (pc := 57) (tgt := 76) dX7_laySide_57 rfl (fun t57 => ?_) (fun f57 => ?_)
      · rw [posF_n (b01_z t57)] at he
        have kk2 := kk h Hm F gm go
        rw [he] at kk2
        exact kk2 g1 g2
      · rw [posF_y (b01_n f57)] at he
        refine wp_aload_n (M := mX7_laySide) (pc := 60) dX7_laySide_60 rfl ?_
        refine wp_iload (M := mX7_laySide) (pc := 61) dX7_laySide_61 rfl ?_
        refine wp_aload_n (M := mX7_laySide) (pc := 63) dX7_laySide_63 rfl ?_
        refine wp_iload (M := mX7_laySide) (pc := 64) dX7_laySide_64 rfl ?_
        refine wp_iconst (M := mX7_laySide) (pc := 66) (v := 1) dX7_laySide_66 ci_1 ?_
        refine wp_isub (M := mX7_laySide) (pc := 67) dX7_laySide_67 ?_
        refine wr_iaload (M := mX7_laySide) (pc := 68) dX7_laySide_68 (by first | exact Hm.k | exact kx | fail "kd") (isb rfl (show (1 : Int32) = nI 1 from rfl) (by omega)) (by omega) (by decide) ?_
        refine wr_iastore (M := mX7_laySide) (pc := 69) dX7_laySide_69 (by first | exact Hm.k | exact kx | fail "kd") rfl (by omega) (by decide) ?_
        refine so_iinc (M := mX7_laySide) (pc := 70) (lo' := [_, _, _, _, _, _]) dX7_laySide_70 rfl ci_m1 (LE rfl) rfl ?_
        refine wp_goto (M := mX7_laySide) (pc := 73) (tgt := 40) dX7_laySide_73 rfl ?_
        rw [show nI (c1 + 1) + -1 = nI c1 from pk_m1 c1, ex]
        have F1 : FrB me ad Z0 h (si h (ad x) (c1 + 1) (nI (f c1))) := FrB.sb Hm (by omega)
        have n12 : ad 12 ≠ ad x := by rcases hx with rfl | rfl <;> exact Hm.nn rfl rfl (by decide)
        refine ih c1 _ (by omega) (by omega) (Hm.B F1) (hB.co (by rw [gi_si_ne _ _ _ (Hm.ne hy9).symm]) (gi_si_ne _ _ _ n12)) (F.tr F1) (by rw [gi_si_ne _ _ _ (Hm.ne hy9).symm]; exact gm) (fun z hz => by rw [gi_si_ne _ _ _ hz]; exact go z hz) (fun j hj => ?_) (fun j hj1 hj2 => ?_) he
        · rw [gi_si_at, upd_ne _ _ (by omega)]; exact g1 j (by omega)
        · rw [gi_si_at]
          by_cases e : j = c1 + 1
          · rw [e, upd_at]; rfl
          · rw [upd_ne _ _ e]; exact g2 j (by omega) hj2
set_option maxHeartbeats 4000000 in
set_option maxRecDepth 100000 in
theorem lp_X7_laySide {me : Nat} {ad : Nat → Nat} {B : List Ord} {v : Int32} {x : Nat} {h0 : PH} (hx : x = 14 ∨ x = 15) (hv : v = 0 ∨ v = 1) (k : ∀ h', MoL h' me ad → FrB me ad Z0 h0 h' → gi h' me = gi h0 me → (∀ z, z ≠ ad x → gi h' z = gi h0 z) → (∀ j, j < (sdF B v B.length).2 → gi h' (ad x) j = nI ((sdF B v B.length).1 j)) → Q (.inl (some (.int (nI (sdF B v B.length).2)))) h') : ∀ (m : Nat) (i : Nat) (h : PH) (x5 : Option Value), B.length - i < m → (i ≤ B.length) → (MoL h me ad) → (BenR h me ad B) → (FrB me ad Z0 h0 h) → (gi h me = gi h0 me) → (∀ z, z ≠ ad x → gi h z = gi h0 z) → (∀ j, j < (sdF B v i).2 → gi h (ad x) j = nI ((sdF B v i).1 j)) → WPx E mX7_laySide 5 [some (.ref me), some (.ref (ad x)), some (.int v), some (.int (nI (sdF B v i).2)), some (.int (nI i)), x5] [] (0, 0) h Q := by
  intro m
  induction m with
  | zero => intro i h x5 hm; exact absurd hm (Nat.not_lt_zero _)
  | succ m ih =>
    intro i h x5 hm hi Hm hB F gm go g1
    have b13 := hB.1.2
    obtain ⟨hs1, hs2⟩ := sdF_len B v i
    obtain ⟨y9, hy9, hl9⟩ : ∃ y, fsz x = some y ∧ y = (0, 13) := by rcases hx with rfl | rfl <;> exact ⟨_, rfl, rfl⟩
    subst hl9
    have kx : kd h (ad x) = some (.inr (0, 13)) := Hm.a hy9
    refine wp_iload (M := mX7_laySide) (pc := 5) dX7_laySide_5 rfl ?_
    refine wp_aload_n (M := mX7_laySide) (pc := 7) dX7_laySide_7 rfl ?_
    refine wp_getI (M := mX7_laySide) (pc := 8) fa_X7_153 rfl dX7_laySide_8 (by first | exact Hm.k | exact Hm.a rfl | fail "kd") ?_
    refine wp_icmp_ge (M := mX7_laySide) (pc := 11) (tgt := 91) dX7_laySide_11 rfl (fun t11 => ?_) (fun f11 => ?_)
    · rw [hB.1.1] at t11
      have hi2 := n_ge hi (by omega) t11
      subst hi2
      refine wp_iload_n (M := mX7_laySide) (pc := 91) dX7_laySide_91 rfl ?_
      refine wp_ireturn (M := mX7_laySide) (pc := 92) rfl dX7_laySide_92 ?_
      exact k h Hm F gm go g1
    · rw [hB.1.1] at f11
      have hlt := n_lt hi (by omega) f11
      have ek := (hB.2 i hlt).1
      refine wp_aload_n (M := mX7_laySide) (pc := 14) dX7_laySide_14 rfl ?_
      refine wp_getR (M := mX7_laySide) (pc := 15) fa_X7_32 rfl dX7_laySide_15 (by first | exact Hm.k | exact Hm.a rfl | fail "kd") (Hm.r rfl) ?_
      refine wp_iconst (M := mX7_laySide) (pc := 18) (v := 4) dX7_laySide_18 ci_4 ?_
      refine wp_iload (M := mX7_laySide) (pc := 19) dX7_laySide_19 rfl ?_
      refine wp_imul (M := mX7_laySide) (pc := 21) dX7_laySide_21 ?_
      refine wp_iconst (M := mX7_laySide) (pc := 22) (v := 1) dX7_laySide_22 ci_1 ?_
      refine wp_iadd (M := mX7_laySide) (pc := 23) dX7_laySide_23 ?_
      refine wr_iaload (M := mX7_laySide) (pc := 24) dX7_laySide_24 (by first | exact Hm.k | exact Hm.a rfl | fail "kd") (ia (im (show (4 : Int32) = nI 4 from rfl) rfl) (show (1 : Int32) = nI 1 from rfl)) (by omega) (by decide) ?_
      refine wp_if_ne (M := mX7_laySide) (pc := 25) (tgt := 32) dX7_laySide_25 rfl (fun t25 => ?_) (fun f25 => ?_)
      · rw [ek] at t25
        have hib : isB B i = 0 := if_neg t25
        refine wp_iconst (M := mX7_laySide) (pc := 32) (v := 0) dX7_laySide_32 ci_0 ?_
        refine wp_iload_n (M := mX7_laySide) (pc := 33) dX7_laySide_33 rfl ?_
        refine wp_icmp_ne (M := mX7_laySide) (pc := 34) (tgt := 85) dX7_laySide_34 rfl (fun t34 => ?_) (fun f34 => ?_)
        · refine so_iinc (M := mX7_laySide) (pc := 85) (lo' := [_, _, _, _, _, _]) dX7_laySide_85 rfl ci_1 (LE rfl) rfl ?_
          refine wp_goto (M := mX7_laySide) (pc := 88) (tgt := 5) dX7_laySide_88 rfl ?_
          rw [show nI i + 1 = nI (i + 1) from nI_1 i]
          have hz := fun y => ih (i + 1) h y (by omega) (by omega) Hm hB F gm go
          rw [sdF_n (by rw [hib]; exact t34)] at hz
          exact hz _ g1
        · refine wp_iload_n (M := mX7_laySide) (pc := 37) dX7_laySide_37 rfl ?_
          refine so_istore (M := mX7_laySide) (pc := 38) (lo' := [_, _, _, _, _, _]) dX7_laySide_38 (LE rfl) (LE rfl) (Or.inr rfl) rfl ?_
          refine l1_X7_laySide (n := (sdF B v i).2) (f := (sdF B v i).1) (h0 := h) hx hlt hs1 hs2 (fun h1 Hm1 F1 gm1 go1 p1 p2 => ?_) ((sdF B v i).2 + 1) (sdF B v i).2 h (by omega) (Nat.le_refl _) Hm hB FrB.rf rfl (fun _ _ => rfl) g1 (fun j j1 j2 => absurd j2 (by omega)) rfl
          have hp := posF_le (B := B) (i := i) (f := (sdF B v i).1) (sdF B v i).2
          have kx1 : kd h1 (ad x) = some (.inr (0, 13)) := Hm1.a hy9
          refine wp_aload_n (M := mX7_laySide) (pc := 76) dX7_laySide_76 rfl ?_
          refine wp_iload (M := mX7_laySide) (pc := 77) dX7_laySide_77 rfl ?_
          refine wp_iload (M := mX7_laySide) (pc := 79) dX7_laySide_79 rfl ?_
          refine wr_iastore (M := mX7_laySide) (pc := 81) dX7_laySide_81 kx1 rfl (by omega) (by decide) ?_
          refine so_iinc (M := mX7_laySide) (pc := 82) (lo' := [_, _, _, _, _, _]) dX7_laySide_82 rfl ci_1 (LE rfl) rfl ?_
          refine so_iinc (M := mX7_laySide) (pc := 85) (lo' := [_, _, _, _, _, _]) dX7_laySide_85 rfl ci_1 (LE rfl) rfl ?_
          refine wp_goto (M := mX7_laySide) (pc := 88) (tgt := 5) dX7_laySide_88 rfl ?_
          rw [show nI i + 1 = nI (i + 1) from nI_1 i, show nI (sdF B v i).2 + 1 = nI ((sdF B v i).2 + 1) from nI_1 _]
          have F2 : FrB me ad Z0 h1 (si h1 (ad x) (posF B i (sdF B v i).1 (sdF B v i).2) (nI i)) := FrB.sb Hm1 (by omega)
          have n12 : ad 12 ≠ ad x := by rcases hx with rfl | rfl <;> exact Hm.nn rfl rfl (by decide)
          have nm := (Hm.ne hy9).symm
          have hz := fun y => ih (i + 1) (si h1 (ad x) (posF B i (sdF B v i).1 (sdF B v i).2) (nI i)) y (by omega) (by omega) (Hm1.B F2) (hB.co (by rw [gi_si_ne _ _ _ nm, gm1]) (by rw [gi_si_ne _ _ _ n12, go1 _ n12])) (F.tr (F1.tr F2)) (by rw [gi_si_ne _ _ _ nm, gm1, gm]) (fun z hz => by rw [gi_si_ne _ _ _ hz, go1 z hz, go z hz])
          rw [sdF_y (by first | exact hib.trans f34 | fail "v")] at hz
          refine hz _ (fun j hj => ?_)
          have hj' : j < (sdF B v i).2 + 1 := hj
          show gi _ (ad x) j = nI (insF _ _ i j)
          rw [gi_si_at]
          unfold insF
          by_cases e1 : j < posF B i (sdF B v i).1 (sdF B v i).2
          · rw [if_pos e1, upd_ne _ _ (by omega)]; exact p1 j e1
          · by_cases e2 : j = posF B i (sdF B v i).1 (sdF B v i).2
            · rw [if_neg e1, if_pos e2, e2, upd_at]
            · rw [if_neg e1, if_neg e2, upd_ne _ _ e2]; exact p2 j (by omega) (by omega)
      · rw [ek] at f25
        have hib : isB B i = 1 := if_pos f25
        refine wp_iconst (M := mX7_laySide) (pc := 28) (v := 1) dX7_laySide_28 ci_1 ?_
        refine wp_goto (M := mX7_laySide) (pc := 29) (tgt := 33) dX7_laySide_29 rfl ?_
        refine wp_iload_n (M := mX7_laySide) (pc := 33) dX7_laySide_33 rfl ?_
        refine wp_icmp_ne (M := mX7_laySide) (pc := 34) (tgt := 85) dX7_laySide_34 rfl (fun t34 => ?_) (fun f34 => ?_)
        · refine so_iinc (M := mX7_laySide) (pc := 85) (lo' := [_, _, _, _, _, _]) dX7_laySide_85 rfl ci_1 (LE rfl) rfl ?_
          refine wp_goto (M := mX7_laySide) (pc := 88) (tgt := 5) dX7_laySide_88 rfl ?_
          rw [show nI i + 1 = nI (i + 1) from nI_1 i]
          have hz := fun y => ih (i + 1) h y (by omega) (by omega) Hm hB F gm go
          rw [sdF_n (by rw [hib]; exact t34)] at hz
          exact hz _ g1
        · refine wp_iload_n (M := mX7_laySide) (pc := 37) dX7_laySide_37 rfl ?_
          refine so_istore (M := mX7_laySide) (pc := 38) (lo' := [_, _, _, _, _, _]) dX7_laySide_38 (LE rfl) (LE rfl) (Or.inr rfl) rfl ?_
          refine l1_X7_laySide (n := (sdF B v i).2) (f := (sdF B v i).1) (h0 := h) hx hlt hs1 hs2 (fun h1 Hm1 F1 gm1 go1 p1 p2 => ?_) ((sdF B v i).2 + 1) (sdF B v i).2 h (by omega) (Nat.le_refl _) Hm hB FrB.rf rfl (fun _ _ => rfl) g1 (fun j j1 j2 => absurd j2 (by omega)) rfl
          have hp := posF_le (B := B) (i := i) (f := (sdF B v i).1) (sdF B v i).2
          have kx1 : kd h1 (ad x) = some (.inr (0, 13)) := Hm1.a hy9
          refine wp_aload_n (M := mX7_laySide) (pc := 76) dX7_laySide_76 rfl ?_
          refine wp_iload (M := mX7_laySide) (pc := 77) dX7_laySide_77 rfl ?_
          refine wp_iload (M := mX7_laySide) (pc := 79) dX7_laySide_79 rfl ?_
          refine wr_iastore (M := mX7_laySide) (pc := 81) dX7_laySide_81 kx1 rfl (by omega) (by decide) ?_
          refine so_iinc (M := mX7_laySide) (pc := 82) (lo' := [_, _, _, _, _, _]) dX7_laySide_82 rfl ci_1 (LE rfl) rfl ?_
          refine so_iinc (M := mX7_laySide) (pc := 85) (lo' := [_, _, _, _, _, _]) dX7_laySide_85 rfl ci_1 (LE rfl) rfl ?_
          refine wp_goto (M := mX7_laySide) (pc := 88) (tgt := 5) dX7_laySide_88 rfl ?_
          rw [show nI i + 1 = nI (i + 1) from nI_1 i, show nI (sdF B v i).2 + 1 = nI ((sdF B v i).2 + 1) from nI_1 _]
          have F2 : FrB me ad Z0 h1 (si h1 (ad x) (posF B i (sdF B v i).1 (sdF B v i).2) (nI i)) := FrB.sb Hm1 (by omega)
          have n12 : ad 12 ≠ ad x := by rcases hx with rfl | rfl <;> exact Hm.nn rfl rfl (by decide)
          have nm := (Hm.ne hy9).symm
          have hz := fun y => ih (i + 1) (si h1 (ad x) (posF B i (sdF B v i).1 (sdF B v i).2) (nI i)) y (by omega) (by omega) (Hm1.B F2) (hB.co (by rw [gi_si_ne _ _ _ nm, gm1]) (by rw [gi_si_ne _ _ _ n12, go1 _ n12])) (F.tr (F1.tr F2)) (by rw [gi_si_ne _ _ _ nm, gm1, gm]) (fun z hz => by rw [gi_si_ne _ _ _ hz, go1 z hz, go z hz])
          rw [sdF_y (by first | exact hib.trans f34 | fail "v")] at hz
          refine hz _ (fun j hj => ?_)
          have hj' : j < (sdF B v i).2 + 1 := hj
          show gi _ (ad x) j = nI (insF _ _ i j)
          rw [gi_si_at]
          unfold insF
          by_cases e1 : j < posF B i (sdF B v i).1 (sdF B v i).2
          · rw [if_pos e1, upd_ne _ _ (by omega)]; exact p1 j e1
          · by_cases e2 : j = posF B i (sdF B v i).1 (sdF B v i).2
            · rw [if_neg e1, if_pos e2, e2, upd_at]
            · rw [if_neg e1, if_neg e2, upd_ne _ _ e2]; exact p2 j (by omega) (by omega)
set_option maxHeartbeats 4000000 in
set_option maxRecDepth 100000 in
theorem sp_X7_laySide {me : Nat} {ad : Nat → Nat} {B : List Ord} {v : Int32} {x : Nat} (Hm : MoL h me ad) (hB : BenR h me ad B) (hx : x = 14 ∨ x = 15)  (hv : v = 0 ∨ v = 1) (k : ∀ h', MoL h' me ad → FrB me ad Z0 h h' → gi h' me = gi h me → (∀ z, z ≠ ad x → gi h' z = gi h z) → (∀ j, j < (sdF B v B.length).2 → gi h' (ad x) j = nI ((sdF B v B.length).1 j)) → Q (.inl (some (.int (nI (sdF B v B.length).2)))) h') : WPx E mX7_laySide 0 [some (.ref me), some (.ref (ad x)), some (.int v), none, none, none] [] (0, 0) h Q := by
  refine wp_iconst (M := mX7_laySide) (pc := 0) (v := 0) dX7_laySide_0 ci_0 ?_
  refine so_istore_n (M := mX7_laySide) (pc := 1) (lo' := [_, _, _, _, _, _]) dX7_laySide_1 (LE rfl) (LE rfl) (Or.inr rfl) rfl ?_
  refine wp_iconst (M := mX7_laySide) (pc := 2) (v := 0) dX7_laySide_2 ci_0 ?_
  refine so_istore (M := mX7_laySide) (pc := 3) (lo' := [_, _, _, _, _, _]) dX7_laySide_3 (LE rfl) (LE rfl) (Or.inr rfl) rfl ?_
  exact lp_X7_laySide hx hv k (B.length + 1) 0 h none (by omega) (by omega) Hm hB FrB.rf rfl (fun _ _ => rfl) (fun j hj => absurd hj (Nat.not_lt_zero _))
end SP
