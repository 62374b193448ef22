section SP
variable {E : Ev} {h : PH} {Q : Rt → PH → Prop}
theorem fs_ok {K : Nat} {A : Sta} (H : IV K A) (hK : K ≤ 30000) : ∀ t, t ≤ sN A → (0 ≤ (fsm A t).toInt ∧ (fsm A t).toInt ≤ 2970792 * t) ∧ (0 ≤ (fsq A t).toInt ∧ (fsq A t).toInt ≤ 8825605107264 * t) ∧ ((fsm A t).toInt = 0 ↔ (fsq A t).toInt = 0)
  | 0, _ => ⟨⟨Int.le_refl _, Int.le_refl _⟩, ⟨Int.le_refl _, Int.le_refl _⟩, Iff.rfl⟩
  | t + 1, ht => by
    have T := IW.ten (A := A) H t (by omega)
    have n6 := IW.n6 (A := A) H
    have b1 := T.snt
    have b2 := msI_nn T.msg
    obtain ⟨i1, i2, i3⟩ := fs_ok H hK t (by omega)
    have mb := mul_bd (a := (fT A t 5).toInt) (b := (fT A t 5).toInt) (c := 2970792) (d := 2970792) b1.1 b1.1 (by show ((sT A t).1 5).toInt ≤ _; omega) (by show ((sT A t).1 5).toInt ≤ _; omega)
    have s0 : 0 ≤ (fT A t 5).toInt ∧ (fT A t 5).toInt ≤ 2970792 := ⟨b1.1, by show ((sT A t).1 5).toInt ≤ _; omega⟩
    have sq : (fT A t 5).toInt = 0 ↔ (fT A t 5).toInt * (fT A t 5).toInt = 0 := by
      rw [Int.mul_eq_zero]; omega
    rw [fsm, fsq]
    generalize fT A t 5 = x at *
    have m : (x.toInt64 * x.toInt64).toInt = x.toInt * x.toInt := by rw [mL9 (by rw [iL]; omega) (by rw [iL]; omega), iL]
    rw [aL (by rw [iL]; omega) (by rw [iL]; omega), iL, aL (by rw [m]; omega) (by rw [m]; omega), m]
    generalize x.toInt * x.toInt = y at *
    omega
theorem fai_eq {K : Nat} {A : Sta} {v : Int32} (H : IV K A) (hK : K ≤ 30000) : faiR A v = faiA A v ∧ okFa A := by
  have n6 := IW.n6 (A := A) H
  obtain ⟨i1, i2, i3⟩ := fs_ok H hK (sN A) (Nat.le_refl _)
  have z : (0 : Int64).toInt = 0 := rfl
  have e0 : fsm A (sN A) = 0 ↔ fsq A (sN A) = 0 := by rw [← Int64.toInt_inj, ← Int64.toInt_inj, z]; exact i3
  have ne : (nI (sN A)).toInt64.toInt = sN A := by rw [iL]; exact nIi (by omega)
  unfold faiR faiA okFa
  by_cases c : fsm A (sN A) = 0
  · exact ⟨by rw [if_pos c, if_pos (e0.mp c)], fun q => absurd c q⟩
  · have c2 : ¬ fsq A (sN A) = 0 := fun q => c (e0.mpr q)
    have p : 0 < (fsq A (sN A)).toInt := by
      have : ¬ (fsq A (sN A)).toInt = 0 := fun q => c2 (Int64.toInt_inj.mp q)
      omega
    have m1 := mul_bd (a := (fsm A (sN A)).toInt) (b := (fsm A (sN A)).toInt) (c := 17824752) (d := 17824752) i1.1 i1.1 (by omega) (by omega)
    have m2 := mul_bd (a := (sN A : Int)) (b := (fsq A (sN A)).toInt) (c := 6) (d := 52953630643584) (by omega) i2.1 (by omega) (by omega)
    have m3 : 0 < (sN A : Int) * (fsq A (sN A)).toInt := Int.mul_pos (by omega) p
    have t1 : (fsm A (sN A) * fsm A (sN A)).toInt = (fsm A (sN A)).toInt * (fsm A (sN A)).toInt := mL9 (by omega) (by omega)
    have t2 : ((nI (sN A)).toInt64 * fsq A (sN A)).toInt = (sN A : Int) * (fsq A (sN A)).toInt := by rw [mL9 (by rw [ne]; omega) (by rw [ne]; omega), ne]
    rw [← t1] at m1
    rw [← t2] at m2 m3
    rw [if_neg c, if_neg c2]
    unfold lowT
    generalize fsm A (sN A) * fsm A (sN A) = top at *
    generalize (nI (sN A)).toInt64 * fsq A (sN A) = bot at *
    obtain ⟨g, g0, g1, e1, e2⟩ := low_eq (top := top) (bot := bot) (by omega) m3 (by omega)
    obtain ⟨a, ha, ea, _⟩ := labs_n (x := top) (by omega)
    refine ⟨by rw [e1, e2], fun _ => ⟨?_, ?_, ?_⟩⟩
    · rw [ea, Int64.le_iff_toInt_le, pk_lT ha, z]; omega
    · rw [Int64.le_iff_toInt_le, z]; omega
    · rw [e2, lN0 (by omega)]; omega
end SP
