/-! rows that make cells -/
theorem HR.made {b : Nat} {D : va_G} {cA : Nat → ClassId} {h h' : PH} {H1 : Heap} {L : List Nat} {a : Nat} {e : va_E} (g1 : ∀ a, a ∈ L ↔ kd h a ≠ none) (κ : Kd) (hkd : kd h' = u1 (kd h) a (some κ))
    (hne : ∀ x, x ≠ a → cel cA h' x = cel cA h x) (he : e = cel cA h' a) (p1 : va_P D classes (([] ++ va_pl L (cel cA h)) ++ [(a, e)]) H1) (d1 : va_D (fun q => b ≤ q) (([] ++ va_pl L (cel cA h)) ++ [(a, e)])) : HR b D cA h' H1 := by
  have hL : a ∉ L := by
    intro hm
    obtain ⟨k, hk⟩ := va_pl_get (X := []) (f := cel cA h) hm
    have hlt := (List.getElem?_eq_some_iff.mp hk).1
    have h2 : (([] ++ va_pl L (cel cA h)) ++ [(a, e)])[k]? = some (a, cel cA h a) := by rw [List.getElem?_append_left hlt]; exact hk
    have h3 : (([] ++ va_pl L (cel cA h)) ++ [(a, e)])[([] ++ va_pl L (cel cA h)).length]? = some (a, e) := by
      rw [List.getElem?_append_right (Nat.le_refl _), Nat.sub_self]; rfl
    have := d1.1 _ _ _ _ h2 h3 rfl
    omega
  have hs := va_pl_push (f := cel cA h) (e := e) hL
  have hc : va_pl (L ++ [a]) (va_up (cel cA h) a e) = va_pl (L ++ [a]) (cel cA h') := va_pl_congr fun x => by
    by_cases hx : x = a
    · subst hx; rw [va_up_self, he]
    · rw [va_up_ne _ _ hx, hne x hx]
  rw [List.nil_append, hs, hc] at p1 d1
  refine ⟨L ++ [a], fun x => ?_, p1, d1⟩
  rw [List.mem_append, List.mem_singleton, hkd]
  by_cases hx : x = a
  · subst hx; rw [u1_at]; exact ⟨fun _ q => (by cases q), fun _ => Or.inr rfl⟩
  · rw [u1_ne _ _ hx, ← g1 x]; exact ⟨fun q => q.elim id (fun e => absurd e hx), Or.inl⟩
theorem HR.isNew {b : Nat} {cA : Nat → ClassId} {h : PH} {L : List Nat} {a : Nat} {e : va_E} (g1 : ∀ a, a ∈ L ↔ kd h a ≠ none) (d1 : va_D (fun q => b ≤ q) (([] ++ va_pl L (cel cA h)) ++ [(a, e)])) : kd h a = none := by
  cases hkd : kd h a with
  | none => rfl
  | some κ =>
    exfalso
    have hm : a ∈ L := (g1 a).mpr (kd_some hkd)
    obtain ⟨k, hk⟩ := va_pl_get (X := []) (f := cel cA h) hm
    have hlt := (List.getElem?_eq_some_iff.mp hk).1
    have h2 : (([] ++ va_pl L (cel cA h)) ++ [(a, e)])[k]? = some (a, cel cA h a) := by rw [List.getElem?_append_left hlt]; exact hk
    have h3 : (([] ++ va_pl L (cel cA h)) ++ [(a, e)])[([] ++ va_pl L (cel cA h)).length]? = some (a, e) := by
      rw [List.getElem?_append_right (Nat.le_refl _), Nat.sub_self]; rfl
    have := d1.1 _ _ _ _ h2 h3 rfl
    omega
def dfl (ci k : Nat) : Value := if isR (fty ci k) then .null else .int 0
/-- the entry idx of own's pool is the class ci, which can be made -/
def NW (own : String) (idx ci : Nat) : Prop := ∃ (C : String) (T : u_T) (N : Nat), CKp ci C T N ∧ Cond.classLink own idx C ∈ gtb ∧ Cond.instantiable C N ∈ gtb ∧ Cond.initialized C ∈ gtb ∧ ∀ j, j < N → defaultValue (fty ci j) = dfl ci j
section Rows
variable {E : Ev} {M : MX} {pc : Nat} {lo : List (Option Value)} {st : List Value} {r : Nat × Nat} {h : PH} {Q : Rt → PH → Prop}
theorem wp_new {idx ci : Nat} (nw0 : NW (mN M).cls idx ci) (t : Nat → Tg) (r1 : 1 ≤ r.1) (r2 : fN ci ≤ r.2) (d : decode (mC M) pc = .ok (.new idx, 3)) (k : ∀ a, kd h a = none → WPx E M (pc + 3) lo (.ref a :: st) (r.1 - 1, r.2 - fN ci) (nw h a (.inl ci) (t a)) Q) : WPx E M pc lo st r h Q := by
  intro b D cA p l e s m args below meth c H locs cells slots ls C hL hH hS hc hs
  obtain ⟨Cn, T, N, ⟨q1, q2, q3, q4, q5⟩, q6, q7, q8, q9⟩ := nw0
  obtain ⟨L, g1, g2, g3⟩ := hH
  subst q5
  have hb := C.2.2.2.2.2.2.2.2.2.1
  refine va_new (fs := (List.range (fN ci)).map (dfl ci)) C.1 C.2.1 C.2.2.2.2.2.1 q2 (fty ci) q3 C.2.2.2.2.1 (C.2.2.2.2.2.1 _ q6) (C.2.2.2.2.2.1 _ q7) (C.2.2.2.2.2.1 _ q8) C.2.2.2.2.2.2.2.2.2.2.1.1 g2 g3 hS (fun q hq => Nat.le_trans hb hq) q1 (fun j hj => ?_) (by show cells + 1 ≤ (mG M).2.2.1; omega) (by show slots + fN ci ≤ (mG M).2.2.2; omega) d (fun q H1 p1 d1 s1 => ?_)
  · rw [q9 j hj]; simp [vp_V, hj]
  · have he : (.inr (ci, (List.range (fN ci)).map (dfl ci)) : va_E) = cel cA (nw h q (.inl ci) (t q)) q := by
      rw [cel_obj (h := nw h q (.inl ci) (t q)) (ci := ci) (by simp [kd_nw, u1_at])]
      congr 2
      unfold fl
      apply List.map_congr_left
      intro j _
      simp [fv, dfl, gr_nw, gi_nw, u1_at, va_rf]
    exact k q (HR.isNew g1 d1) C hL (HR.made g1 (.inl ci) rfl nw_ne he p1 d1) s1 (by show cells + 1 + (r.1 - 1) ≤ _; omega) (by show slots + fN ci + (r.2 - fN ci) ≤ _; omega)
theorem wp_newI {n : Int32} {N : Nat} (w : Cond.arrayClass .int ∈ gtb) (t : Nat → Tg) (hn : ¬ n < 0) (hN : n.toNatClampNeg = N) (hb0 : N * 4 ≤ 536870912) (r1 : 1 ≤ r.1) (r2 : N ≤ r.2) (d : decode (mC M) pc = .ok (.newarray .int, 2)) (k : ∀ a, kd h a = none → WPx E M (pc + 2) lo (.ref a :: st) (r.1 - 1, r.2 - N) (nw h a (.inr (0, N)) (t a)) Q) : WPx E M pc lo (.int n :: st) r h Q := by
  intro b D cA p l e s m args below meth c H locs cells slots ls C hL hH hS hc hs
  obtain ⟨L, g1, g2, g3⟩ := hH
  have hb := C.2.2.2.2.2.2.2.2.2.1
  have hK := C.2.2.2.2.2.2.2.2.2.2.1.1
  refine va_newa (atype := .int) (ty := .int) (a0 := (N, .inl (fun _ => 0))) C.1 C.2.1 (C.2.2.2.2.2.1 _ w) rfl hK g2 g3 hS (fun q hq => Nat.le_trans hb hq) (fun _ => rfl) hn hN hb0 (by show cells + 1 ≤ (mG M).2.2.1; omega) (by show slots + N ≤ (mG M).2.2.2; omega) d (fun q cA1 H1 k1 p1 d1 s1 => ?_)
  have ec : cA1 = cA 0 := Option.some.inj ((k1.2 6 (cA1, .int) rfl).2.symm.trans (hK.2 0 (cA 0, .int) rfl).2)
  subst ec
  refine k q (HR.isNew g1 d1) C hL (HR.made g1 (.inr (0, N)) rfl nw_ne ?_ p1 d1) s1 (by show cells + 1 + (r.1 - 1) ≤ _; omega) (by show slots + N + (r.2 - N) ≤ _; omega)
  rw [cel_arr (h := nw h q (.inr (0, N)) (t q)) (tc := 0) (n := N) (by simp [kd_nw, u1_at])]
  simp [ar, gi_nw, u1_at]
theorem wp_newZ {n : Int32} {N : Nat} (w : Cond.arrayClass .boolean ∈ gtb) (t : Nat → Tg) (hn : ¬ n < 0) (hN : n.toNatClampNeg = N) (hb0 : N * 1 ≤ 536870912) (r1 : 1 ≤ r.1) (r2 : N ≤ r.2) (d : decode (mC M) pc = .ok (.newarray .boolean, 2)) (k : ∀ a, kd h a = none → WPx E M (pc + 2) lo (.ref a :: st) (r.1 - 1, r.2 - N) (nw h a (.inr (1, N)) (t a)) Q) : WPx E M pc lo (.int n :: st) r h Q := by
  intro b D cA p l e s m args below meth c H locs cells slots ls C hL hH hS hc hs
  obtain ⟨L, g1, g2, g3⟩ := hH
  have hb := C.2.2.2.2.2.2.2.2.2.1
  have hK := C.2.2.2.2.2.2.2.2.2.2.1.1
  refine va_newa (atype := .boolean) (ty := .boolean) (a0 := (N, .inl (fun _ => 0))) C.1 C.2.1 (C.2.2.2.2.2.1 _ w) rfl hK g2 g3 hS (fun q hq => Nat.le_trans hb hq) (fun _ => rfl) hn hN hb0 (by show cells + 1 ≤ (mG M).2.2.1; omega) (by show slots + N ≤ (mG M).2.2.2; omega) d (fun q cA1 H1 k1 p1 d1 s1 => ?_)
  have ec : cA1 = cA 1 := Option.some.inj ((k1.2 6 (cA1, .boolean) rfl).2.symm.trans (hK.2 1 (cA 1, .boolean) rfl).2)
  subst ec
  refine k q (HR.isNew g1 d1) C hL (HR.made g1 (.inr (1, N)) rfl nw_ne ?_ p1 d1) s1 (by show cells + 1 + (r.1 - 1) ≤ _; omega) (by show slots + N + (r.2 - N) ≤ _; omega)
  rw [cel_arr (h := nw h q (.inr (1, N)) (t q)) (tc := 1) (n := N) (by simp [kd_nw, u1_at])]
  simp [ar, gi_nw, u1_at]
theorem wp_newL {n : Int32} {N : Nat} (w : Cond.arrayClass .long ∈ gtb) (t : Nat → Tg) (hn : ¬ n < 0) (hN : n.toNatClampNeg = N) (hb0 : N * 8 ≤ 536870912) (r1 : 1 ≤ r.1) (r2 : N ≤ r.2) (d : decode (mC M) pc = .ok (.newarray .long, 2)) (k : ∀ a, kd h a = none → WPx E M (pc + 2) lo (.ref a :: st) (r.1 - 1, r.2 - N) (nw h a (.inr (2, N)) (t a)) Q) : WPx E M pc lo (.int n :: st) r h Q := by
  intro b D cA p l e s m args below meth c H locs cells slots ls C hL hH hS hc hs
  obtain ⟨L, g1, g2, g3⟩ := hH
  have hb := C.2.2.2.2.2.2.2.2.2.1
  have hK := C.2.2.2.2.2.2.2.2.2.2.1.1
  refine va_newa (atype := .long) (ty := .long) (a0 := (N, .inr (.inl (fun _ => 0)))) C.1 C.2.1 (C.2.2.2.2.2.1 _ w) rfl hK g2 g3 hS (fun q hq => Nat.le_trans hb hq) (fun _ => rfl) hn hN hb0 (by show cells + 1 ≤ (mG M).2.2.1; omega) (by show slots + N ≤ (mG M).2.2.2; omega) d (fun q cA1 H1 k1 p1 d1 s1 => ?_)
  have ec : cA1 = cA 2 := Option.some.inj ((k1.2 6 (cA1, .long) rfl).2.symm.trans (hK.2 2 (cA 2, .long) rfl).2)
  subst ec
  refine k q (HR.isNew g1 d1) C hL (HR.made g1 (.inr (2, N)) rfl nw_ne ?_ p1 d1) s1 (by show cells + 1 + (r.1 - 1) ≤ _; omega) (by show slots + N + (r.2 - N) ≤ _; omega)
  rw [cel_arr (h := nw h q (.inr (2, N)) (t q)) (tc := 2) (n := N) (by simp [kd_nw, u1_at])]
  simp [ar, gl_nw, u1_at]
theorem wp_newA {n : Int32} {N idx tc : Nat} (htc : tc = 3 ∨ tc = 4 ∨ tc = 5) (w : Cond.classLink (mN M).cls idx (rNm tc) ∈ gtb) (t : Nat → Tg) (hn : ¬ n < 0) (hN : n.toNatClampNeg = N) (hb0 : N * 4 ≤ 536870912) (r1 : 1 ≤ r.1) (r2 : N ≤ r.2) (d : decode (mC M) pc = .ok (.anewarray idx, 3)) (k : ∀ a, kd h a = none → WPx E M (pc + 3) lo (.ref a :: st) (r.1 - 1, r.2 - N) (nw h a (.inr (tc, N)) (t a)) Q) : WPx E M pc lo (.int n :: st) r h Q := by
  intro b D cA p l e s m args below meth c H locs cells slots ls C hL hH hS hc hs
  obtain ⟨L, g1, g2, g3⟩ := hH
  have hb := C.2.2.2.2.2.2.2.2.2.1
  have hK := C.2.2.2.2.2.2.2.2.2.2.1.1
  have hO := C.2.2.2.2.2.2.2.2.2.2.1.2.2.2.2.2.1
  have hAO : va_AO (rNm tc) s := by rcases htc with rfl | rfl | rfl <;> exact hO _ (by simp [rNm])
  refine va_newq C.1 C.2.1 C.2.2.2.2.1 (C.2.2.2.2.2.1 _ w) hAO hK g2 g3 hS (fun q hq => Nat.le_trans hb hq) hn hN hb0 (by show cells + 1 ≤ (mG M).2.2.1; omega) (by show slots + N ≤ (mG M).2.2.2; omega) d (fun q cA1 H1 k1 p1 d1 s1 => ?_)
  have ec : cA1 = cA tc := by
    obtain ⟨_, _, -, -, -, f1⟩ := (k1.2 6 (cA1, .object (rNm tc)) rfl).2
    rcases htc with rfl | rfl | rfl
    · obtain ⟨_, _, -, -, -, f2⟩ := (hK.2 3 (cA 3, .object RX5) rfl).2
      exact Option.some.inj (f1.symm.trans f2)
    · obtain ⟨_, _, -, -, -, f2⟩ := (hK.2 4 (cA 4, .object RX3) rfl).2
      exact Option.some.inj (f1.symm.trans f2)
    · obtain ⟨_, _, -, -, -, f2⟩ := (hK.2 5 (cA 5, .object RX4) rfl).2
      exact Option.some.inj (f1.symm.trans f2)
  subst ec
  refine k q (HR.isNew g1 d1) C hL (HR.made g1 (.inr (tc, N)) rfl nw_ne ?_ p1 d1) s1 (by show cells + 1 + (r.1 - 1) ≤ _; omega) (by show slots + N + (r.2 - N) ≤ _; omega)
  rw [cel_arr (h := nw h q (.inr (tc, N)) (t q)) (tc := tc) (n := N) (by simp [kd_nw, u1_at])]
  rcases htc with rfl | rfl | rfl <;> simp [ar, gr_nw, u1_at]
/-- System.arraycopy over rows of ints, apart -/
theorem wp_copy {idx a0 a1 n0 n1 : Nat} {sp dp n : Int32} (w1 : Cond.methodLink (mN M).cls idx arraycopyName ∈ gtb) (w2 : Cond.native arraycopyName ∈ gtb) (w3 : Cond.static arraycopyName ∈ gtb) (w4 : Cond.initialized "java/lang/System" ∈ gtb) (hR : 1 ≤ (mG M).1) (hR2 : (st.map fun v => v.category).sum + (nativeFrameWords "java/lang/System" "arraycopy" 5 + 11) ≤ (mG M).2.1) (d : decode (mC M) pc = .ok (.invokestatic idx, 3))
    (hk0 : kd h a0 = some (.inr (0, n0))) (hk1 : kd h a1 = some (.inr (0, n1))) (h1 : ¬ sp < 0) (h2 : ¬ dp < 0) (h3 : ¬ n < 0) (h4 : sp.toNatClampNeg + n.toNatClampNeg ≤ n0) (h5 : dp.toNatClampNeg + n.toNatClampNeg ≤ n1)
    (k : WPx E M (pc + 3) lo st r (sw h a1 (va_cpy (gi h a0) (gi h a1) sp.toNatClampNeg dp.toNatClampNeg n.toNatClampNeg)) Q) : WPx E M pc lo (.int n :: .int dp :: .ref a1 :: .int sp :: .ref a0 :: st) r h Q := by
  intro b D cA p l e s m args below meth c H locs cells slots ls C hL hH hS hc hs
  obtain ⟨L, g1, g2, g3⟩ := hH
  have hK := C.2.2.2.2.2.2.2.2.2.2.1.1
  obtain ⟨k0, hk0'⟩ := va_pl_get (X := []) (f := cel cA h) ((g1 a0).mpr (kd_some hk0))
  obtain ⟨k1, hk1'⟩ := va_pl_get (X := []) (f := cel cA h) ((g1 a1).mpr (kd_some hk1))
  have hs2 := fun e => va_pl_set (e := e) g3 ((g1 a1).mpr (kd_some hk1)) hk1'
  rw [cel_arr hk0] at hk0'
  rw [cel_arr hk1] at hk1'
  refine va_copyi (ty := .int) C.1 C.2.1 (C.2.2.2.1.trans hL.1.symm) C.2.2.2.2.1 (C.2.2.2.2.2.1 _ w1) (C.2.2.2.2.2.1 _ w2) (C.2.2.2.2.2.1 _ w3) (C.2.2.2.2.2.1 _ w4) hK g2 g3 hS k0 k1 0 0 hk0' hk1' rfl rfl rfl h1 h2 h3 h4 h5 (fun _ _ => rfl) hR hR2 d (fun H1 locs1 p1 d1 s1 => ?_)
  have hcg : va_pl L (va_up (cel cA h) a1 (.inl (cA 0, n1, .inl (va_cpy (gi h a0) (gi h a1) sp.toNatClampNeg dp.toNatClampNeg n.toNatClampNeg)))) = va_pl L (cel cA (sw h a1 (va_cpy (gi h a0) (gi h a1) sp.toNatClampNeg dp.toNatClampNeg n.toNatClampNeg))) := va_pl_congr fun x => by
    by_cases hx : x = a1
    · subst hx
      rw [va_up_self, cel_arr (h := sw h x _) hk1]
      simp [ar, gi_sw, u1_at]
    · rw [va_up_ne _ _ hx, sw_ne x hx]
  rw [hs2, hcg] at p1 d1
  exact k C hL ⟨L, g1, p1, d1⟩ s1 hc hs
end Rows
