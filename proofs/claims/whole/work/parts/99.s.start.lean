section SP
variable {E : Ev} {h : PH} {Q : Rt → PH → Prop}
theorem sa_RX5 : Cond.arrayOver (.object RX5) ∈ lw_tbl := (List.mem_append_right _ (List.mem_of_getElem? (i := 33) (by decide +kernel)))
theorem sa_RX3 : Cond.arrayOver (.object RX3) ∈ lw_tbl := (List.mem_append_right _ (List.mem_of_getElem? (i := 35) (by decide +kernel)))
theorem sa_RX4 : Cond.arrayOver (.object RX4) ∈ lw_tbl := (List.mem_append_right _ (List.mem_of_getElem? (i := 204) (by decide +kernel)))
theorem sz_F : Cond.laysStatic RX6 "FACTORIALS" "[I" ∈ lw_tbl := (List.mem_append_right _ (List.mem_of_getElem? (i := 861) (by decide +kernel)))
theorem sz_U : Cond.laysStatic Bundle.tN "UNASSIGNED_STACK" Bundle.steD ∈ lw_tbl := (List.mem_append_right _ (List.mem_of_getElem? (i := 388) (by decide +kernel)))
theorem sz_N : Cond.laysStatic Bundle.tN "SUPPRESSED_SENTINEL" Bundle.listD ∈ lw_tbl := (List.mem_append_right _ (List.mem_of_getElem? (i := 390) (by decide +kernel)))
theorem ss_272 : Cond.stringRef RX6 272 "an argument is out of its range" ∈ lw_tbl := (List.mem_append_right _ (List.mem_of_getElem? (i := 402) (by decide +kernel)))
theorem ss_275 : Cond.stringRef RX6 275 "not possible now" ∈ lw_tbl := (List.mem_append_right _ (List.mem_of_getElem? (i := 445) (by decide +kernel)))
theorem ss_267 : Cond.stringRef RX6 267 "no such tenant, order or slot" ∈ lw_tbl := (List.mem_append_right _ (List.mem_of_getElem? (i := 514) (by decide +kernel)))
theorem ss_260 : Cond.stringRef RX6 260 "the slot is empty" ∈ lw_tbl := (List.mem_append_right _ (List.mem_of_getElem? (i := 959) (by decide +kernel)))
theorem sn_RX4_23 : Cond.methodLinkNest RX4 23 yX5_init RX6 ∈ lw_tbl := (List.mem_append_right _ (List.mem_of_getElem? (i := 37) (by decide +kernel)))
theorem sn_RX4_24 : Cond.methodLinkNest RX4 24 yX3_init RX6 ∈ lw_tbl := (List.mem_append_right _ (List.mem_of_getElem? (i := 86) (by decide +kernel)))
theorem sn_RX6_21 : Cond.methodLinkNest RX6 21 yX0_init RX6 ∈ lw_tbl := (List.mem_append_right _ (List.mem_of_getElem? (i := 163) (by decide +kernel)))
theorem sn_RX6_28 : Cond.methodLinkNest RX6 28 yX2_init RX6 ∈ lw_tbl := (List.mem_append_right _ (List.mem_of_getElem? (i := 199) (by decide +kernel)))
theorem sn_RX6_43 : Cond.methodLinkNest RX6 43 yX1_init RX6 ∈ lw_tbl := (List.mem_append_right _ (List.mem_of_getElem? (i := 218) (by decide +kernel)))
theorem sn_RX4_143 : Cond.methodLinkNest RX4 143 yX6_isTwoDigits RX6 ∈ lw_tbl := (List.mem_append_right _ (List.mem_of_getElem? (i := 919) (by decide +kernel)))
theorem sf_in : ∀ w ∈ fcs, w ∈ lw_tbl := by
  intro w hw
  rcases List.mem_cons.mp hw with rfl | hw
  · exact (List.mem_append_right _ (List.mem_of_getElem? (i := 363) (by decide +kernel)))
  rcases List.mem_cons.mp hw with rfl | hw
  · exact (List.mem_append_right _ (List.mem_of_getElem? (i := 438) (by decide +kernel)))
  rcases List.mem_cons.mp hw with rfl | hw
  · exact (List.mem_append_right _ (List.mem_of_getElem? (i := 507) (by decide +kernel)))
  rcases List.mem_cons.mp hw with rfl | hw
  · exact (List.mem_append_right _ (List.mem_of_getElem? (i := 365) (by decide +kernel)))
  rcases List.mem_cons.mp hw with rfl | hw
  · exact (List.mem_append_right _ (List.mem_of_getElem? (i := 367) (by decide +kernel)))
  rcases List.mem_cons.mp hw with rfl | hw
  · exact (List.mem_append_right _ (List.mem_of_getElem? (i := 369) (by decide +kernel)))
  cases hw
theorem sg {w : Cond} (h : w ∈ gtb) : w ∈ lw_tbl := (List.mem_filter.mp h).1
theorem st_arr {s : State} {args : Array Value} {ty : FieldType} (hty : ty = .int ∨ ty = .boolean ∨ ty = .long) (h : (Cond.arrayClass ty).before args s = true) : ∃ cA : ClassId, ArrOfT s cA ty ∧ va_RA s cA ty := by
  obtain ⟨c, k, comp, f1, f2, f3⟩ := Cond.arrayClass_spec h
  refine ⟨c, fun n z => ⟨(fun k h => by cases h), k, f2, comp, f3⟩, ?_⟩
  rcases hty with rfl | rfl | rfl <;> exact f1
theorem st_over {s : State} {args : Array Value} {C : String} (h : (Cond.arrayOver (.object C)).before args s = true) : ∃ cA : ClassId, ArrOfT s cA (.object C) ∧ va_RA s cA (.object C) := by
  obtain ⟨comp, c, k, h1, h2, h3, h4, h5⟩ := Cond.arrayOver_spec h
  exact ⟨c, fun n z => ⟨(fun k h => by cases h), k, h3, comp, h4⟩, k, comp, h3, h4, h1, h5⟩
theorem st_str {s : State} {args : Array Value} {k : Nat} {tx : String} (h1 : (Cond.stringRef RX6 k tx).before args s = true) (h2 : (Cond.exactly (.string RX6 k) "java/lang/String").before args s = true) : ∃ a, vk_R RX6 k tx a s := by
  obtain ⟨a, c, cA, kA, q1, q2, q3, q4, q5, q6, -⟩ := Cond.exactly_spec (args := args) (first := s) (o := none) (s := s) (idx := []) (t := .string RX6 k) (cls := "java/lang/String") h2
  exact ⟨a, vk_R.of h1 q1⟩
set_option maxHeartbeats 4000000 in
set_option maxRecDepth 100000 in
theorem st_K {s : State} {args : Array Value} (hts : ∀ w ∈ lw_tbl, w.before args s = true) : ∃ (D : va_G) (cA : Nat → ClassId), va_K D classes (tys cA) s := by
  obtain ⟨c0, iS0, hK0⟩ := u_known (C := RX0) (T := TX0) (N := 8) (n := 8) hts (fun w hw => sg (ck0.2.1 w hw)) (hts _ (sg wx_X0))
  obtain ⟨c1, iS1, hK1⟩ := u_known (C := RX1) (T := TX1) (N := 4) (n := 4) hts (fun w hw => sg (ck1.2.1 w hw)) (hts _ (sg wx_X1))
  obtain ⟨c2, iS2, hK2⟩ := u_known (C := RX2) (T := TX2) (N := 3) (n := 3) hts (fun w hw => sg (ck2.2.1 w hw)) (hts _ (sg wx_X2))
  obtain ⟨c3, iS3, hK3⟩ := u_known (C := RX3) (T := TX3) (N := 4) (n := 4) hts (fun w hw => sg (ck3.2.1 w hw)) (hts _ (sg wx_X3))
  obtain ⟨c4, iS4, hK4⟩ := u_known (C := RX4) (T := TX4) (N := 12) (n := 12) hts (fun w hw => sg (ck4.2.1 w hw)) (hts _ (sg wx_X4))
  obtain ⟨c5, iS5, hK5⟩ := u_known (C := RX5) (T := TX5) (N := 10) (n := 10) hts (fun w hw => sg (ck5.2.1 w hw)) (hts _ (sg wx_X5))
  obtain ⟨c6, iS6, hK6⟩ := u_known (C := RX6) (T := TX6) (N := 7) (n := 7) hts (fun w hw => sg (ck6.2.1 w hw)) (hts _ (sg wx_X6))
  obtain ⟨c7, iS7, hK7⟩ := u_known (C := RX7) (T := TX7) (N := 21) (n := 21) hts (fun w hw => sg (ck7.2.1 w hw)) (hts _ (sg wx_X7))
  obtain ⟨a0, p0⟩ := st_arr (Or.inl rfl) (hts _ (sg wa_int))
  obtain ⟨a1, p1⟩ := st_arr (Or.inr (Or.inl rfl)) (hts _ (sg wa_boolean))
  obtain ⟨a2, p2⟩ := st_arr (Or.inr (Or.inr rfl)) (hts _ (sg wa_long))
  obtain ⟨a3, p3⟩ := st_over (hts _ sa_RX5)
  obtain ⟨a4, p4⟩ := st_over (hts _ sa_RX3)
  obtain ⟨a5, p5⟩ := st_over (hts _ sa_RX4)
  refine ⟨(fun k => if k = 0 then c0 else if k = 1 then c1 else if k = 2 then c2 else if k = 3 then c3 else if k = 4 then c4 else if k = 5 then c5 else if k = 6 then c6 else c7, fun k => if k = 0 then iS0 else if k = 1 then iS1 else if k = 2 then iS2 else if k = 3 then iS3 else if k = 4 then iS4 else if k = 5 then iS5 else if k = 6 then iS6 else iS7), fun k => if k = 0 then a0 else if k = 1 then a1 else if k = 2 then a2 else if k = 3 then a3 else if k = 4 then a4 else a5, fun k q hq => ?_, fun k q hq => ?_⟩
  · match k, hq with
    | 0, hq => cases hq; exact hK0
    | 1, hq => cases hq; exact hK1
    | 2, hq => cases hq; exact hK2
    | 3, hq => cases hq; exact hK3
    | 4, hq => cases hq; exact hK4
    | 5, hq => cases hq; exact hK5
    | 6, hq => cases hq; exact hK6
    | 7, hq => cases hq; exact hK7
    | k + 8, hq => simp [classes] at hq
  · match k, hq with
    | 0, hq => cases hq; exact p0
    | 1, hq => cases hq; exact p1
    | 2, hq => cases hq; exact p2
    | 3, hq => cases hq; exact p3
    | 4, hq => cases hq; exact p4
    | 5, hq => cases hq; exact p5
    | k + 6, hq => simp [tys] at hq
set_option maxHeartbeats 4000000 in
set_option maxRecDepth 100000 in
theorem st_EN {s : State} {b L : Nat} {xs : Nat → Int32} (hts : ∀ w ∈ lw_tbl, w.before #[Value.ref b] s = true) (hX : va_X b L xs s s.heap) (hbl : b < s.heap.size) (hgv : (Jvm.Cond.and given_1 narrow_1).before #[Value.ref b] s = true) : ∃ (t : Nat) (D : va_G) (cA : Nat → ClassId), EN (b, L, xs, t) s.heap.size D cA s s.heap := by
  have hs := flat_of_before _ hgv
  have hA : ∀ a : Nat, a < s.heap.size → ¬ s.heap.size ≤ a := fun a h => Nat.not_le.mpr h
  obtain ⟨D, cA, hK⟩ := st_K hts
  have e0 := va_eqt (hs (Cond.eq (.elem (.static RX6 "FACTORIALS" "[I") (.int 0)) (.int 1)) (by decide +kernel))
  have e1 := va_eqt (hs (Cond.eq (.elem (.static RX6 "FACTORIALS" "[I") (.int 1)) (.int 1)) (by decide +kernel))
  have e2 := va_eqt (hs (Cond.eq (.elem (.static RX6 "FACTORIALS" "[I") (.int 2)) (.int 2)) (by decide +kernel))
  have e3 := va_eqt (hs (Cond.eq (.elem (.static RX6 "FACTORIALS" "[I") (.int 3)) (.int 6)) (by decide +kernel))
  have e4 := va_eqt (hs (Cond.eq (.elem (.static RX6 "FACTORIALS" "[I") (.int 4)) (.int 24)) (by decide +kernel))
  have e5 := va_eqt (hs (Cond.eq (.elem (.static RX6 "FACTORIALS" "[I") (.int 5)) (.int 120)) (by decide +kernel))
  have e6 := va_eqt (hs (Cond.eq (.elem (.static RX6 "FACTORIALS" "[I") (.int 6)) (.int 720)) (by decide +kernel))
  have el := va_eqt (hs (Cond.eq (.length (.static RX6 "FACTORIALS" "[I")) (.int 7)) (by decide +kernel))
  obtain ⟨t, ht, hT⟩ := va_Tof (tm := .static RX6 "FACTORIALS" "[I") (ty := .int) (N := 7) (f := fun j => .int (facv j)) (A := fun q => s.heap.size ≤ q) (by decide) (hs (Cond.arrayOf (.static RX6 "FACTORIALS" "[I") .int) (by decide +kernel)) el (fun j hj => by
    rcases (show j = 0 ∨ j = 1 ∨ j = 2 ∨ j = 3 ∨ j = 4 ∨ j = 5 ∨ j = 6 by omega) with rfl | rfl | rfl | rfl | rfl | rfl | rfl
    · exact e0
    · exact e1
    · exact e2
    · exact e3
    · exact e4
    · exact e5
    · exact e6) hA
  refine ⟨t, D, cA, hK, ⟨hX, Nat.not_le.mpr hbl⟩, ⟨va_Zof (hts _ sz_F) (hts _ (sg wn_X6)) ht hA, hT⟩, ⟨vx_Zqof (hts _ sz_U) (hts _ (sg wn_Throwable)) (hs (Cond.isRef (.static Bundle.tN "UNASSIGNED_STACK" Bundle.steD)) (by decide +kernel)) hA, vx_Zqof (hts _ sz_N) (hts _ (sg wn_Throwable)) (hs (Cond.isRef (.static Bundle.tN "SUPPRESSED_SENTINEL" Bundle.listD)) (by decide +kernel)) hA⟩, fun q hq => ?_, fun C hC => ?_, fun q hq => ?_, fun w hw => va_Nw.of (fcs_ok w hw).1 (hts w (sf_in w hw)), fun C hC C' hC' hn => ?_⟩
  · rcases List.mem_cons.mp hq with rfl | hq
    · exact st_str (hts _ ss_272) (hs _ (by decide +kernel))
    rcases List.mem_cons.mp hq with rfl | hq
    · exact st_str (hts _ ss_275) (hs _ (by decide +kernel))
    rcases List.mem_cons.mp hq with rfl | hq
    · exact st_str (hts _ ss_267) (hs _ (by decide +kernel))
    rcases List.mem_cons.mp hq with rfl | hq
    · exact st_str (hts _ ss_260) (hs _ (by decide +kernel))
    cases hq
  · rcases List.mem_cons.mp hC with rfl | hC
    · exact va_AO.of (hts _ sa_RX3)
    rcases List.mem_cons.mp hC with rfl | hC
    · exact va_AO.of (hts _ sa_RX4)
    rcases List.mem_cons.mp hC with rfl | hC
    · exact va_AO.of (hts _ sa_RX5)
    cases hC
  · rcases List.mem_cons.mp hq with rfl | hq
    · exact va_Nw.of rfl (hts _ sn_RX4_23)
    rcases List.mem_cons.mp hq with rfl | hq
    · exact va_Nw.of rfl (hts _ sn_RX4_24)
    rcases List.mem_cons.mp hq with rfl | hq
    · exact va_Nw.of rfl (hts _ sn_RX6_21)
    rcases List.mem_cons.mp hq with rfl | hq
    · exact va_Nw.of rfl (hts _ sn_RX6_28)
    rcases List.mem_cons.mp hq with rfl | hq
    · exact va_Nw.of rfl (hts _ sn_RX6_43)
    rcases List.mem_cons.mp hq with rfl | hq
    · exact va_Nw.of rfl (hts _ sn_RX4_143)
    cases hq
  · have key : ∀ C ∈ exs, ∀ C' ∈ exs, C ≠ C' → Cond.not (Cond.castable C C') ∈ flatC (Jvm.Cond.and given_1 narrow_1) := by decide +kernel
    exact va_Nc.of (hs _ (key C hC C' hC' hn))
end SP
