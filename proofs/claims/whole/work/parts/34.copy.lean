section SP
variable {E : Ev} {h : PH} {Q : Rt → PH → Prop}
/-- the first i tenants and the first j orders hold A -/
def PC (h : PH) (q : Nat) (l : Lt) (A : Sta) (i j : Nat) : Prop := Lay h q l ∧ NumC h q A ∧ (∀ t, t < i → TenC h l t (sT A t)) ∧ (∀ x, x < j → OrdC h (lO l x) (sN A) (oA A x))
theorem PC.rep {h : PH} {q : Nat} {l : Lt} {A : Sta} (H : PC h q l A (sN A) (sO A).length) : RepC h q l A := H
theorem PC.ten {h h' : PH} {q : Nat} {l : Lt} {A : Sta} {t j : Nat} (H : PC h q l A t j) (ht6 : t < 6) (hj : j ≤ 12) (hk : kd h' = kd h) (hr : gr h' = gr h) (htg : tg h' = tg h) (hne : ∀ x, x ≠ lT l t → x ≠ lM l t → x ≠ lW l t → gi h' x = gi h x) (hT : TenC h' l t (sT A t)) : PC h' q l A (t + 1) j := by
  obtain ⟨hL, hN0, hT0, hO0⟩ := H
  have hL' : Lay h' q l := by
    unfold Lay LayT LayO at hL ⊢
    rw [hk, hr, htg]; exact hL
  obtain ⟨-, ⟨-, t1⟩, ⟨-, -, t2⟩, -, -, t3⟩ := hL.2.2.2.1 t ht6
  refine ⟨hL', ?_, fun t' h1 => ?_, fun i h1 => ?_⟩
  · have e0 := hL.1.2
    unfold NumC at hN0 ⊢
    rw [hne q (ne_tg e0 t1 (by simp)) (ne_tg e0 t2 (by simp)) (ne_tg e0 t3 (by simp))]
    exact hN0
  · by_cases e : t' = t
    · subst e; exact hT
    · obtain ⟨-, ⟨-, s1⟩, ⟨-, -, s2⟩, -, -, s3⟩ := hL.2.2.2.1 t' (by omega)
      have := hT0 t' (by omega)
      unfold TenC at this ⊢
      rw [hne _ (ne_tg s1 t1 (by simp [e])) (ne_tg s1 t2 (by simp)) (ne_tg s1 t3 (by simp)), hne _ (ne_tg s2 t1 (by simp)) (ne_tg s2 t2 (by simp [e])) (ne_tg s2 t3 (by simp)), hne _ (ne_tg s3 t1 (by simp)) (ne_tg s3 t2 (by simp)) (ne_tg s3 t3 (by simp [e]))]
      exact this
  · obtain ⟨-, -, j2, s1⟩ := hL.2.2.2.2.1 i (by omega)
    have := hO0 i h1
    unfold OrdC at this ⊢
    rw [hne _ (ne_tg s1 t1 (by simp)) (ne_tg s1 t2 (by simp)) (ne_tg s1 t3 (by simp))]
    exact this
theorem PC.ord {h h' : PH} {q : Nat} {l : Lt} {A : Sta} {i j : Nat} (H : PC h q l A i j) (hi6 : i ≤ 6) (hj : j < 12) (hk : kd h' = kd h) (hr : gr h' = gr h) (htg : tg h' = tg h) (hne : ∀ x, x ≠ lO l j → gi h' x = gi h x) (hx : OrdC h' (lO l j) (sN A) (oA A j)) : PC h' q l A i (j + 1) := by
  obtain ⟨hL, hN0, hT0, hO0⟩ := H
  have hL' : Lay h' q l := by
    unfold Lay LayT LayO at hL ⊢
    rw [hk, hr, htg]; exact hL
  obtain ⟨-, -, j2, t1⟩ := hL.2.2.2.2.1 j hj
  refine ⟨hL', ?_, fun t' h1 => ?_, fun x h1 => ?_⟩
  · unfold NumC at hN0 ⊢
    rw [hne q (ne_tg hL.1.2 t1 (by simp))]
    exact hN0
  · obtain ⟨-, ⟨-, s1⟩, ⟨-, -, s2⟩, -, -, s3⟩ := hL.2.2.2.1 t' (by omega)
    have := hT0 t' h1
    unfold TenC at this ⊢
    rw [hne _ (ne_tg s1 t1 (by simp)), hne _ (ne_tg s2 t1 (by simp)), hne _ (ne_tg s3 t1 (by simp))]
    exact this
  · by_cases e : x = j
    · subst e; exact hx
    · have := hO0 x (by omega)
      unfold OrdC at this ⊢
      rw [hne _ (fun q9 => e (hL.2.2.2.2.2 x j (by omega) hj q9))]
      exact this
theorem cpy_in {f g : Nat → Int32} {n j : Nat} (h : j < n) : va_cpy f g 0 0 n j = f j := by
  rw [pk_cpy_in (Nat.zero_le _) (by omega)]; simp
set_option maxHeartbeats 4000000 in
set_option maxRecDepth 100000 in
theorem lo_X4_copyFrom {q o : Nat} {l lo : Lt} {A : Sta} {h0 : PH} (hRo0 : RepC h0 o lo A) (hqo : q ≠ o) (k : ∀ h', RepC h' q l A → Fr (fun x => x = q) h0 h' → Q (.inl none) h') : ∀ (m : Nat) (i : Nat) (h : PH) (x3 : Option Value), (sO A).length - i < m → (i ≤ (sO A).length) → (PC h q l A (sN A) i) → (Fr (fun x => x = q) h0 h) → WPx E mX4_copyFrom 113 [some (.ref q), some (.ref o), some (.int (nI i)), x3] [] (0, 0) h Q := by
  intro m
  induction m with
  | zero => intro i h x3 hm; exact absurd hm (Nat.not_lt_zero _)
  | succ m ih =>
    intro i h x3 hm hi hP hF
    have hRo := hRo0.fr hF (fun e => hqo e.symm)
    obtain ⟨⟨ko, to⟩, ⟨roT, koT, toT⟩, ⟨roO, koO, toO⟩, hLTo, hLOo, -⟩ := id hRo.1
    obtain ⟨hL, hN, hT, hO⟩ := id hP
    obtain ⟨⟨kq, tq⟩, ⟨rT, kT, tT⟩, ⟨rO, kO, tO⟩, hLT, hLO, hinj⟩ := hL
    obtain ⟨⟨n2, n6⟩, ⟨n3, n12⟩, n4, n5, n6', n7, n8, n9, n10, n11⟩ := hN
    refine wp_iload_n (M := mX4_copyFrom) (pc := 113) dX4_copyFrom_113 rfl ?_
    refine wp_aload_n (M := mX4_copyFrom) (pc := 114) dX4_copyFrom_114 rfl ?_
    refine wp_getI (M := mX4_copyFrom) (pc := 115) fa_X4_41 rfl dX4_copyFrom_115 (by first | exact kq | exact ko | exact kO | exact koO | exact (hLO i (by omega)).2.1 | exact (hLOo i (by omega)).2.1) ?_
    refine wp_icmp_ge (M := mX4_copyFrom) (pc := 118) (tgt := 159) dX4_copyFrom_118 rfl (fun t118 => ?_) (fun f118 => ?_)
    · rw [n3] at t118
      have hi2 := n_ge hi (by omega) t118
      subst hi2
      refine wp_return (M := mX4_copyFrom) (pc := 159) rfl dX4_copyFrom_159 ?_
      exact k h hP.rep hF
    · rw [n3] at f118
      have hlt := n_lt hi (by omega) f118
      obtain ⟨⟨o0, o1, o2, o3⟩, o4, o5⟩ := hRo.2.2.2 i hlt
      refine wp_aload_n (M := mX4_copyFrom) (pc := 121) dX4_copyFrom_121 rfl ?_
      refine wp_getR (M := mX4_copyFrom) (pc := 122) fa_X4_19 rfl dX4_copyFrom_122 (by first | exact kq | exact ko | exact kO | exact koO | exact (hLO i (by omega)).2.1 | exact (hLOo i (by omega)).2.1) (by first | exact rO | exact roO | exact (hLO i (by omega)).1 | exact (hLOo i (by omega)).1) ?_
      refine wp_iload_n (M := mX4_copyFrom) (pc := 125) dX4_copyFrom_125 rfl ?_
      refine wr_aaload (M := mX4_copyFrom) (pc := 126) dX4_copyFrom_126 koO (by decide) rfl (by omega) (by decide) (hLOo i (by omega)).1 ?_
      refine so_astore_n (M := mX4_copyFrom) (pc := 127) (lo' := [_, _, _, _]) dX4_copyFrom_127 (LE rfl) (LE rfl) (Or.inr rfl) rfl ?_
      refine wp_aload_n (M := mX4_copyFrom) (pc := 128) dX4_copyFrom_128 rfl ?_
      refine wp_getR (M := mX4_copyFrom) (pc := 129) fa_X4_19 rfl dX4_copyFrom_129 (by first | exact kq | exact ko | exact kO | exact koO | exact (hLO i (by omega)).2.1 | exact (hLOo i (by omega)).2.1) (by first | exact rO | exact roO | exact (hLO i (by omega)).1 | exact (hLOo i (by omega)).1) ?_
      refine wp_iload_n (M := mX4_copyFrom) (pc := 132) dX4_copyFrom_132 rfl ?_
      refine wr_aaload (M := mX4_copyFrom) (pc := 133) dX4_copyFrom_133 kO (by decide) rfl (by omega) (by decide) (hLO i (by omega)).1 ?_
      refine wp_aload_n (M := mX4_copyFrom) (pc := 134) dX4_copyFrom_134 rfl ?_
      refine wp_getI (M := mX4_copyFrom) (pc := 135) fa_X4_64 rfl dX4_copyFrom_135 (by first | exact kq | exact ko | exact kO | exact koO | exact (hLO i (by omega)).2.1 | exact (hLOo i (by omega)).2.1) ?_
      refine wp_aload_n (M := mX4_copyFrom) (pc := 138) dX4_copyFrom_138 rfl ?_
      refine wp_getI (M := mX4_copyFrom) (pc := 139) fa_X4_67 rfl dX4_copyFrom_139 (by first | exact kq | exact ko | exact kO | exact koO | exact (hLO i (by omega)).2.1 | exact (hLOo i (by omega)).2.1) ?_
      refine wp_aload_n (M := mX4_copyFrom) (pc := 142) dX4_copyFrom_142 rfl ?_
      refine wp_getI (M := mX4_copyFrom) (pc := 143) fa_X4_70 rfl dX4_copyFrom_143 (by first | exact kq | exact ko | exact kO | exact koO | exact (hLO i (by omega)).2.1 | exact (hLOo i (by omega)).2.1) ?_
      refine wp_aload_n (M := mX4_copyFrom) (pc := 146) dX4_copyFrom_146 rfl ?_
      refine wp_getI (M := mX4_copyFrom) (pc := 147) fa_X4_73 rfl dX4_copyFrom_147 (by first | exact kq | exact ko | exact kO | exact koO | exact (hLO i (by omega)).2.1 | exact (hLOo i (by omega)).2.1) ?_
      refine so_V4 (M := mX4_copyFrom) (pc := 150) cs_X4_copyFrom_76 rfl rfl (LE rfl) (LE rfl) dX4_copyFrom_150 (by first | exact kq | exact ko | exact kO | exact koO | exact (hLO i (by omega)).2.1 | exact (hLOo i (by omega)).2.1) ?_
      refine sp_X3_begin (hLO i (by omega)).2.1 ?_
      refine kV ?_
      refine so_iinc (M := mX4_copyFrom) (pc := 153) (lo' := [_, _, _, _]) dX4_copyFrom_153 rfl ci_1 (LE rfl) rfl ?_
      refine wp_goto (M := mX4_copyFrom) (pc := 156) (tgt := 113) dX4_copyFrom_156 rfl ?_
      rw [show nI i + 1 = nI (i + 1) from nI_1 i, o0, o1, o2, o3]
      have own : (tg h (lO l i)).1 = q := by obtain ⟨-, -, j2, e⟩ := hLO i (by omega); rw [e]
      refine ih (i + 1) _ _ (by omega) (by omega) (hP.ord n6 (by omega) rfl rfl rfl (fun x hx => by rw [gi_si_ne _ _ _ hx, gi_si_ne _ _ _ hx, gi_si_ne _ _ _ hx, gi_si_ne _ _ _ hx]) ?_) (hF.tr (((Fr.si own).tr (Fr.si own)).tr ((Fr.si own).tr (Fr.si own))))
      refine ⟨⟨?_, ?_, ?_, ?_⟩, o4, o5⟩
      · rw [gi_si_at, gi_si_at, gi_si_at, gi_si_at, upd_ne _ _ (by decide), upd_ne _ _ (by decide), upd_ne _ _ (by decide), upd_at]
      · rw [gi_si_at, gi_si_at, gi_si_at, gi_si_at, upd_ne _ _ (by decide), upd_ne _ _ (by decide), upd_at]
      · rw [gi_si_at, gi_si_at, gi_si_at, gi_si_at, upd_ne _ _ (by decide), upd_at]
      · rw [gi_si_at, gi_si_at, gi_si_at, gi_si_at, upd_at]
set_option maxHeartbeats 4000000 in
set_option maxRecDepth 100000 in
theorem lt_X4_copyFrom {q o : Nat} {l lo : Lt} {A : Sta} {h0 : PH} (hRo0 : RepC h0 o lo A) (hqo : q ≠ o) (k : ∀ h', RepC h' q l A → Fr (fun x => x = q) h0 h' → Q (.inl none) h') : ∀ (m : Nat) (i : Nat) (h : PH) (x3 : Option Value), sN A - i < m → (i ≤ sN A) → (PC h q l A i 0) → (Fr (fun x => x = q) h0 h) → WPx E mX4_copyFrom 82 [some (.ref q), some (.ref o), some (.int (nI i)), x3] [] (0, 0) h Q := by
  intro m
  induction m with
  | zero => intro i h x3 hm; exact absurd hm (Nat.not_lt_zero _)
  | succ m ih =>
    intro i h x3 hm hi hP hF
    have hRo := hRo0.fr hF (fun e => hqo e.symm)
    obtain ⟨⟨ko, to⟩, ⟨roT, koT, toT⟩, ⟨roO, koO, toO⟩, hLTo, hLOo, -⟩ := id hRo.1
    obtain ⟨hL, hN, hT, hO⟩ := id hP
    obtain ⟨⟨kq, tq⟩, ⟨rT, kT, tT⟩, ⟨rO, kO, tO⟩, hLT, hLO, hinj⟩ := hL
    obtain ⟨⟨n2, n6⟩, ⟨n3, n12⟩, n4, n5, n6', n7, n8, n9, n10, n11⟩ := hN
    refine wp_iload_n (M := mX4_copyFrom) (pc := 82) dX4_copyFrom_82 rfl ?_
    refine wp_aload_n (M := mX4_copyFrom) (pc := 83) dX4_copyFrom_83 rfl ?_
    refine wp_getI (M := mX4_copyFrom) (pc := 84) fa_X4_38 rfl dX4_copyFrom_84 (by first | exact kq | exact ko | exact kT | exact koT) ?_
    refine wp_icmp_ge (M := mX4_copyFrom) (pc := 87) (tgt := 111) dX4_copyFrom_87 rfl (fun t87 => ?_) (fun f87 => ?_)
    · rw [n2] at t87
      have hi2 := n_ge hi (by omega) t87
      subst hi2
      refine wp_iconst (M := mX4_copyFrom) (pc := 111) (v := 0) dX4_copyFrom_111 ci_0 ?_
      refine so_istore_n (M := mX4_copyFrom) (pc := 112) (lo' := [_, _, _, _]) dX4_copyFrom_112 (LE rfl) (LE rfl) (Or.inr rfl) rfl ?_
      exact lo_X4_copyFrom hRo0 hqo k ((sO A).length + 1) 0 h x3 (by omega) (by omega) hP hF
    · rw [n2] at f87
      have hlt := n_lt hi (by omega) f87
      obtain ⟨a1, ⟨a2, a3⟩, ⟨a4, a5, a6⟩, a7, a8, a9⟩ := hLT i (by omega)
      obtain ⟨b1, ⟨b2, b3⟩, ⟨b4, b5, b6⟩, b7, b8, b9⟩ := hLTo i (by omega)
      have hoq : o ≠ q := hqo.symm
      refine wp_aload_n (M := mX4_copyFrom) (pc := 90) dX4_copyFrom_90 rfl ?_
      refine wp_getR (M := mX4_copyFrom) (pc := 91) fa_X4_11 rfl dX4_copyFrom_91 (by first | exact kq | exact ko | exact kT | exact koT) (by first | exact rT | exact roT) ?_
      refine wp_iload_n (M := mX4_copyFrom) (pc := 94) dX4_copyFrom_94 rfl ?_
      refine wr_aaload (M := mX4_copyFrom) (pc := 95) dX4_copyFrom_95 kT (by decide) rfl (by omega) (by decide) (hLT i (by omega)).1 ?_
      refine wp_aload_n (M := mX4_copyFrom) (pc := 96) dX4_copyFrom_96 rfl ?_
      refine wp_getR (M := mX4_copyFrom) (pc := 97) fa_X4_11 rfl dX4_copyFrom_97 (by first | exact kq | exact ko | exact kT | exact koT) (by first | exact rT | exact roT) ?_
      refine wp_iload_n (M := mX4_copyFrom) (pc := 100) dX4_copyFrom_100 rfl ?_
      refine wr_aaload (M := mX4_copyFrom) (pc := 101) dX4_copyFrom_101 koT (by decide) rfl (by omega) (by decide) (hLTo i (by omega)).1 ?_
      refine so_V1 (M := mX4_copyFrom) (pc := 102) cs_X4_copyFrom_60 rfl rfl (LE rfl) (LE rfl) dX4_copyFrom_102 a2 ?_
      refine sp_X5_copyFrom a2 a4 a5 a7 a8 b2 b4 b5 b7 b8 (ne_tg b3 a3 (by simp [hoq])) (ne_tg a6 a3 (by simp)) (ne_tg a9 a3 (by simp)) (ne_tg b6 a3 (by simp)) (ne_tg b9 a3 (by simp)) (ne_tg a9 a6 (by simp)) (ne_tg b9 a6 (by simp)) ?_
      refine kV ?_
      refine so_iinc (M := mX4_copyFrom) (pc := 105) (lo' := [_, _, _, _]) dX4_copyFrom_105 rfl ci_1 (LE rfl) rfl ?_
      refine wp_goto (M := mX4_copyFrom) (pc := 108) (tgt := 82) dX4_copyFrom_108 rfl ?_
      rw [show nI i + 1 = nI (i + 1) from nI_1 i]
      have w1 : (tg h (lT l i)).1 = q := by rw [a3]
      have w2 : (tg h (lM l i)).1 = q := by rw [a6]
      have w3 : (tg h (lW l i)).1 = q := by rw [a9]
      have x1 : lM l i ≠ lT l i := ne_tg a6 a3 (by simp)
      have x2 : lW l i ≠ lT l i := ne_tg a9 a3 (by simp)
      have x4 : lW l i ≠ lM l i := ne_tg a9 a6 (by simp)
      obtain ⟨t1, t2, t3, t4, t5⟩ := hRo.2.2.1 i hlt
      refine ih (i + 1) _ _ (by omega) (by omega) (hP.ten (by omega) (by omega) rfl rfl rfl (fun x h1 h2 h3 => by rw [gi_sw_ne _ _ h3, gi_sw_ne _ _ h2, gi_sw_ne _ _ h1]) ?_) (hF.tr (((Fr.sw w1).tr (Fr.sw w2)).tr (Fr.sw w3)))
      refine ⟨fun j hj => ?_, ?_, t3, fun j hj => ?_, fun j hj => ?_⟩
      · rw [gi_sw_ne _ _ x2.symm, gi_sw_ne _ _ x1.symm, gi_sw_at, if_pos (by omega)]; exact t1 j hj
      · rw [gi_sw_ne _ _ x2.symm, gi_sw_ne _ _ x1.symm, gi_sw_at, if_pos (by decide)]; exact t2
      · rw [gi_sw_ne _ _ x4.symm, gi_sw_at, cpy_in (by omega)]; exact t4 j hj
      · rw [gi_sw_at, cpy_in hj]; exact t5 j hj
set_option maxHeartbeats 4000000 in
set_option maxRecDepth 100000 in
theorem sp_X4_copyFrom {q o : Nat} {l lo : Lt} {A : Sta} (hL : Lay h q l) (hRo : RepC h o lo A) (hqo : q ≠ o) (k : ∀ h', RepC h' q l A → Fr (fun x => x = q) h h' → Q (.inl none) h') : WPx E mX4_copyFrom 0 [some (.ref q), some (.ref o), none, none] [] (0, 0) h Q := by
  refine wp_aload_n (M := mX4_copyFrom) (pc := 0) dX4_copyFrom_0 rfl ?_
  refine wp_aload_n (M := mX4_copyFrom) (pc := 1) dX4_copyFrom_1 rfl ?_
  refine wp_getI (M := mX4_copyFrom) (pc := 2) fa_X4_38 rfl dX4_copyFrom_2 (by first | exact hL.1.1 | exact hRo.1.1.1) ?_
  refine wp_putI (M := mX4_copyFrom) (pc := 5) fa_X4_38 (Or.inl rfl) dX4_copyFrom_5 (by first | exact hL.1.1 | exact hRo.1.1.1) ?_
  refine wp_aload_n (M := mX4_copyFrom) (pc := 8) dX4_copyFrom_8 rfl ?_
  refine wp_aload_n (M := mX4_copyFrom) (pc := 9) dX4_copyFrom_9 rfl ?_
  refine wp_getI (M := mX4_copyFrom) (pc := 10) fa_X4_41 rfl dX4_copyFrom_10 (by first | exact hL.1.1 | exact hRo.1.1.1) ?_
  refine wp_putI (M := mX4_copyFrom) (pc := 13) fa_X4_41 (Or.inl rfl) dX4_copyFrom_13 (by first | exact hL.1.1 | exact hRo.1.1.1) ?_
  refine wp_aload_n (M := mX4_copyFrom) (pc := 16) dX4_copyFrom_16 rfl ?_
  refine wp_aload_n (M := mX4_copyFrom) (pc := 17) dX4_copyFrom_17 rfl ?_
  refine wp_getI (M := mX4_copyFrom) (pc := 18) fa_X4_25 rfl dX4_copyFrom_18 (by first | exact hL.1.1 | exact hRo.1.1.1) ?_
  refine wp_putI (M := mX4_copyFrom) (pc := 21) fa_X4_25 (Or.inl rfl) dX4_copyFrom_21 (by first | exact hL.1.1 | exact hRo.1.1.1) ?_
  refine wp_aload_n (M := mX4_copyFrom) (pc := 24) dX4_copyFrom_24 rfl ?_
  refine wp_aload_n (M := mX4_copyFrom) (pc := 25) dX4_copyFrom_25 rfl ?_
  refine wp_getI (M := mX4_copyFrom) (pc := 26) fa_X4_29 rfl dX4_copyFrom_26 (by first | exact hL.1.1 | exact hRo.1.1.1) ?_
  refine wp_putI (M := mX4_copyFrom) (pc := 29) fa_X4_29 (Or.inl rfl) dX4_copyFrom_29 (by first | exact hL.1.1 | exact hRo.1.1.1) ?_
  refine wp_aload_n (M := mX4_copyFrom) (pc := 32) dX4_copyFrom_32 rfl ?_
  refine wp_aload_n (M := mX4_copyFrom) (pc := 33) dX4_copyFrom_33 rfl ?_
  refine wp_getI (M := mX4_copyFrom) (pc := 34) fa_X4_32 rfl dX4_copyFrom_34 (by first | exact hL.1.1 | exact hRo.1.1.1) ?_
  refine wp_putI (M := mX4_copyFrom) (pc := 37) fa_X4_32 (Or.inl rfl) dX4_copyFrom_37 (by first | exact hL.1.1 | exact hRo.1.1.1) ?_
  refine wp_aload_n (M := mX4_copyFrom) (pc := 40) dX4_copyFrom_40 rfl ?_
  refine wp_aload_n (M := mX4_copyFrom) (pc := 41) dX4_copyFrom_41 rfl ?_
  refine wp_getI (M := mX4_copyFrom) (pc := 42) fa_X4_35 rfl dX4_copyFrom_42 (by first | exact hL.1.1 | exact hRo.1.1.1) ?_
  refine wp_putI (M := mX4_copyFrom) (pc := 45) fa_X4_35 (Or.inl rfl) dX4_copyFrom_45 (by first | exact hL.1.1 | exact hRo.1.1.1) ?_
  refine wp_aload_n (M := mX4_copyFrom) (pc := 48) dX4_copyFrom_48 rfl ?_
  refine wp_aload_n (M := mX4_copyFrom) (pc := 49) dX4_copyFrom_49 rfl ?_
  refine wp_getI (M := mX4_copyFrom) (pc := 50) fa_X4_44 rfl dX4_copyFrom_50 (by first | exact hL.1.1 | exact hRo.1.1.1) ?_
  refine wp_putI (M := mX4_copyFrom) (pc := 53) fa_X4_44 (Or.inl rfl) dX4_copyFrom_53 (by first | exact hL.1.1 | exact hRo.1.1.1) ?_
  refine wp_aload_n (M := mX4_copyFrom) (pc := 56) dX4_copyFrom_56 rfl ?_
  refine wp_aload_n (M := mX4_copyFrom) (pc := 57) dX4_copyFrom_57 rfl ?_
  refine wp_getI (M := mX4_copyFrom) (pc := 58) fa_X4_47 rfl dX4_copyFrom_58 (by first | exact hL.1.1 | exact hRo.1.1.1) ?_
  refine wp_putI (M := mX4_copyFrom) (pc := 61) fa_X4_47 (Or.inl rfl) dX4_copyFrom_61 (by first | exact hL.1.1 | exact hRo.1.1.1) ?_
  refine wp_aload_n (M := mX4_copyFrom) (pc := 64) dX4_copyFrom_64 rfl ?_
  refine wp_aload_n (M := mX4_copyFrom) (pc := 65) dX4_copyFrom_65 rfl ?_
  refine wp_getI (M := mX4_copyFrom) (pc := 66) fa_X4_50 rfl dX4_copyFrom_66 (by first | exact hL.1.1 | exact hRo.1.1.1) ?_
  refine wp_putI (M := mX4_copyFrom) (pc := 69) fa_X4_50 (Or.inl rfl) dX4_copyFrom_69 (by first | exact hL.1.1 | exact hRo.1.1.1) ?_
  refine wp_aload_n (M := mX4_copyFrom) (pc := 72) dX4_copyFrom_72 rfl ?_
  refine wp_aload_n (M := mX4_copyFrom) (pc := 73) dX4_copyFrom_73 rfl ?_
  refine wp_getI (M := mX4_copyFrom) (pc := 74) fa_X4_53 rfl dX4_copyFrom_74 (by first | exact hL.1.1 | exact hRo.1.1.1) ?_
  refine wp_putI (M := mX4_copyFrom) (pc := 77) fa_X4_53 (Or.inl rfl) dX4_copyFrom_77 (by first | exact hL.1.1 | exact hRo.1.1.1) ?_
  refine wp_iconst (M := mX4_copyFrom) (pc := 80) (v := 0) dX4_copyFrom_80 ci_0 ?_
  refine so_istore_n (M := mX4_copyFrom) (pc := 81) (lo' := [_, _, _, _]) dX4_copyFrom_81 (LE rfl) (LE rfl) (Or.inr rfl) rfl ?_
  obtain ⟨⟨a1, a2⟩, ⟨b1, b2⟩, c4, c5, c6, c7, c8, c9, c10, c11⟩ := hRo.2.1
  have hoq : o ≠ q := hqo.symm
  simp only [gi_si_ne _ _ _ hoq]
  have w0 : (tg h q).1 = q := by rw [hL.1.2]
  refine lt_X4_copyFrom (h0 := h) (lo := lo) hRo hqo k (sN A + 1) 0 _ none (by omega) (by omega) ⟨hL, ?_, fun t ht => by omega, fun t ht => by omega⟩ (((((Fr.si w0).tr (Fr.si w0)).tr ((Fr.si w0).tr (Fr.si w0))).tr (((Fr.si w0).tr (Fr.si w0)).tr ((Fr.si w0).tr (Fr.si w0)))).tr ((Fr.si w0).tr (Fr.si w0)))
  unfold NumC
  simp only [gi_si_at]
  refine ⟨⟨?_, a2⟩, ⟨?_, b2⟩, ?_, ?_, ?_, ?_, ?_, ?_, ?_, ?_⟩
  · simp only [upd]; exact a1
  · simp only [upd]; exact b1
  · simp only [upd]; exact c4
  · simp only [upd]; exact c5
  · simp only [upd]; exact c6
  · simp only [upd]; exact c7
  · simp only [upd]; exact c8
  · simp only [upd]; exact c9
  · simp only [upd]; exact c10
  · simp only [upd]; exact c11
end SP
