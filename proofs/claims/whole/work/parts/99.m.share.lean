section SP
variable {E : Ev} {h : PH} {Q : Rt → PH → Prop}
theorem su_ok {K : Nat} {A : Sta} (H : IV K A) (mk : Int32) : surA A mk = surR A mk ∧ 0 ≤ (surR A mk).toInt ∧ (surR A mk).toInt ≤ 126126 := by
  have o := IV.ok H
  have ob : okB (bn A mk (sO A).length) := by
    unfold bn
    rw [List.take_length]
    refine okB_of (n := sN A) ?_ ?_
    · have := List.length_filter_le (fun x => decide (inM mk x.1)) (sO A)
      have := o.1
      omega
    · intro x hx
      exact o.2 x (List.mem_filter.mp hx).1
  have F := mt_ok ob
  refine ⟨by unfold surA surR; rw [mt_eq ob]; rfl, ?_⟩
  unfold surR
  obtain ⟨f1, f2, f3, f4, f5, f6, f7, f8, f9⟩ := F
  omega
theorem fac_b : ∀ n : Nat, n < 7 → ∀ k : Nat, k < n → (1 ≤ (facv k).toInt ∧ (facv k).toInt ≤ 120) ∧ (1 ≤ (facv (n - 1 - k)).toInt ∧ (facv (n - 1 - k)).toInt ≤ 120) ∧ (1 ≤ (facv k).toInt * (facv (n - 1 - k)).toInt ∧ (facv k).toInt * (facv (n - 1 - k)).toInt ≤ 120) := by decide +kernel
theorem fac_c : ∀ n : Nat, n < 7 → 1 ≤ (facv n).toInt ∧ (facv n).toInt ≤ 720 := by decide
theorem mul_ab2 {p x b c : Int} (hp : 0 ≤ p ∧ p ≤ c) (hx : -b ≤ x ∧ x ≤ b) (hb : 0 ≤ b) : -(c * b) ≤ p * x ∧ p * x ≤ c * b := by
  have h1 : p * x ≤ p * b := Int.mul_le_mul_of_nonneg_left hx.2 hp.1
  have h2 : p * (-b) ≤ p * x := Int.mul_le_mul_of_nonneg_left hx.1 hp.1
  have h3 : p * b ≤ c * b := Int.mul_le_mul_of_nonneg_right hp.2 hb
  rw [Int.mul_neg] at h2
  omega
theorem sht_eq {K : Nat} {A : Sta} {t c : Nat} (H : IV K A) (hk : ones c < sN A) : (shTR A t c).toInt = (shT A t c).toInt ∧ -15135120 ≤ (shTR A t c).toInt ∧ (shTR A t c).toInt ≤ 15135120 := by
  have n6 := IW.n6 (A := A) H
  obtain ⟨e1, a1, a2⟩ := su_ok H (nI c ||| ownB t)
  obtain ⟨e2, b1, b2⟩ := su_ok H (nI c)
  obtain ⟨f1, f2, f3⟩ := fac_b (sN A) (by omega) (ones c) hk
  unfold shTR shT
  rw [e1, e2, facR_v _ (by omega), facR_v _ (by omega)]
  have d : (surR A (nI c ||| ownB t) - surR A (nI c)).toInt = (surR A (nI c ||| ownB t)).toInt - (surR A (nI c)).toInt := sI (by omega) (by omega)
  have db : -126126 ≤ (surR A (nI c ||| ownB t) - surR A (nI c)).toInt ∧ (surR A (nI c ||| ownB t) - surR A (nI c)).toInt ≤ 126126 := by rw [d]; omega
  generalize surR A (nI c ||| ownB t) - surR A (nI c) = x at *
  generalize facv (ones c) = p at *
  generalize facv (sN A - 1 - ones c) = q at *
  have h1 := mul_ab2 (p := p.toInt * q.toInt) (x := x.toInt) (b := 126126) (c := 120) ⟨by omega, f3.2⟩ db (by omega)
  have h2 := mul_ab2 (p := p.toInt) (x := x.toInt) (b := 126126) (c := 120) ⟨by omega, f1.2⟩ db (by omega)
  have t1 : (p * q).toInt = p.toInt * q.toInt := mI (by omega) (by omega)
  have t2 : (p * q * x).toInt = p.toInt * q.toInt * x.toInt := by rw [mI (by rw [t1]; omega) (by rw [t1]; omega), t1]
  have t3 : (x.toInt64 * p.toInt64).toInt = p.toInt * x.toInt := by rw [Int.mul_comm, mL9 (by rw [iL, iL, Int.mul_comm]; omega) (by rw [iL, iL, Int.mul_comm]; omega), iL, iL]
  have cm : p.toInt * x.toInt * q.toInt = p.toInt * q.toInt * x.toInt := by rw [Int.mul_assoc, Int.mul_comm x.toInt, Int.mul_assoc]
  have t4 : (x.toInt64 * p.toInt64 * q.toInt64).toInt = p.toInt * q.toInt * x.toInt := by rw [mL9 (by rw [t3, iL, cm]; omega) (by rw [t3, iL, cm]; omega), t3, iL, cm]
  rw [t2, t4]; omega
theorem sh_eq {K : Nat} {A : Sta} {t : Nat} (H : IV K A) (ht : t < sN A) : ∀ c, c ≤ 2 ^ sN A → (shR A t c).toInt = (shS A t c).toInt ∧ -(15135120 * (c : Int)) ≤ (shR A t c).toInt ∧ (shR A t c).toInt ≤ 15135120 * (c : Int)
  | 0, _ => ⟨rfl, Int.le_refl _, Int.le_refl _⟩
  | c + 1, hc => by
    have n6 := IW.n6 (A := A) H
    have p6 := two_n n6.2
    have ih := sh_eq H ht c (by omega)
    have so := sh_own (sN A) (by omega) t ht c (by omega)
    by_cases z : nI c &&& ownB t = 0
    · have hk := ones_s (sN A) (by omega) t ht c (by omega) z
      have s := sht_eq (t := t) H (c := c) (by omega)
      rw [shR_y (so.mpr z), shS_y z, aI (by omega) (by omega), aL (by omega) (by omega)]
      omega
    · rw [shR_n (fun q => z (so.mp q)), shS_n z]; omega
theorem dv_eq {x : Int32} {g : Nat} (hx : -1000000000 ≤ x.toInt ∧ x.toInt ≤ 1000000000) (g0 : 0 < g) (g1 : g ≤ 720) : (x.toInt64 / lN g).toInt32 = x / (lN g).toInt32 := by
  have eg : (lN g).toInt = g := pk_lT (by omega)
  have eg2 : (lN g).toInt32.toInt = g := by rw [Int64.toInt_toInt32, eg, Int.bmod_eq_of_le (by omega) (by omega)]
  have na : (x.toInt.tdiv g).natAbs ≤ x.toInt.natAbs := by rw [Int.natAbs_tdiv]; exact Nat.div_le_self _ _
  apply Int32.toInt_inj.mp
  rw [Int64.toInt_toInt32, Int64.toInt_div, Int32.toInt_div, eg, eg2, iL]
  generalize x.toInt.tdiv g = y at *
  rw [Int.bmod_eq_of_le (n := y) (m := 2 ^ 64) (by omega) (by omega)]
theorem sha_eq {K : Nat} {A : Sta} {t : Nat} {v : Int32} (H : IV K A) (ht : t < sN A) : shaR A t v = shaA A t v ∧ ¬ byR A t = 0 := by
  have n6 := IW.n6 (A := A) H
  have p6 := two_n n6.2
  obtain ⟨e, b1, b2⟩ := sh_eq H ht (2 ^ sN A) (Nat.le_refl _)
  have fc := fac_c (sN A) (by omega)
  have et : shS A t (2 ^ sN A) = (shR A t (2 ^ sN A)).toInt64 := Int64.toInt_inj.mp (by rw [iL]; exact e.symm)
  unfold shaR shaA byR lowT
  rw [et, facR_v _ (by omega)]
  have hb : -1000000000 ≤ (shR A t (2 ^ sN A)).toInt ∧ (shR A t (2 ^ sN A)).toInt ≤ 1000000000 := by omega
  generalize shR A t (2 ^ sN A) = s at *
  generalize facv (sN A) = f at *
  obtain ⟨g, g0, g1, e1, e2⟩ := low_eq (top := s.toInt64) (bot := f.toInt64) (by rw [iL]; omega) (by rw [iL]; omega) (by rw [iL]; omega)
  rw [iL] at g1
  rw [e1, e2]
  refine ⟨?_, fun q => ?_⟩
  · split
    · exact (dv_eq (by omega) g0 (by omega)).symm
    · exact (dv_eq hb g0 (by omega)).symm
  · have q' := congrArg Int32.toInt q
    rw [Int64.toInt_toInt32, pk_lT (by omega), Int.bmod_eq_of_le (by omega) (by omega)] at q'
    have z : (0 : Int32).toInt = 0 := rfl
    omega
end SP
