section SP
variable {E : Ev} {h : PH} {Q : Rt → PH → Prop}
theorem aL {a b : Int64} (h1 : -9223372036854775808 ≤ a.toInt + b.toInt) (h2 : a.toInt + b.toInt < 9223372036854775808) : (a + b).toInt = a.toInt + b.toInt := by rw [Int64.toInt_add, Int.bmod_eq_of_le (by omega) (by omega)]
theorem mL9 {a b : Int64} (h1 : -9223372036854775808 ≤ a.toInt * b.toInt) (h2 : a.toInt * b.toInt < 9223372036854775808) : (a * b).toInt = a.toInt * b.toInt := by rw [Int64.toInt_mul, Int.bmod_eq_of_le (by omega) (by omega)]
theorem iL (a : Int32) : a.toInt64.toInt = a.toInt := Int32.toInt_toInt64 a
theorem mul_ab {p x b : Int} (hp : 0 ≤ p ∧ p ≤ 99) (hx : -b ≤ x ∧ x ≤ b) (hb : 0 ≤ b) : -(99 * b) ≤ p * x ∧ p * x ≤ 99 * b := by
  have h1 : p * x ≤ p * b := Int.mul_le_mul_of_nonneg_left hx.2 hp.1
  have h2 : p * (-b) ≤ p * x := Int.mul_le_mul_of_nonneg_left hx.1 hp.1
  have h3 : p * b ≤ 99 * b := Int.mul_le_mul_of_nonneg_right hp.2 hb
  rw [Int.mul_neg] at h2
  omega
theorem wl_eq {K : Nat} {A : Sta} {t : Nat} (H : IV K A) (hK : K ≤ 30000) (ht : t < sN A) : (wlR A t).toInt = (wlt A t).toInt := by
  have T := IW.ten (A := A) H t ht
  have s1 := osum_nn (IW.nn (A := A) H (by decide) t).1
  have s2 := osum_nn (IW.nn (A := A) H (by decide) t).2
  have cs : ∃ z, (csa A t).toInt = z ∧ 0 ≤ z ∧ z ≤ 12 * 9801 := ⟨_, osm_i (A := A) (g := gc t) (c := fun x => (gc t x).toInt) (b := 9801) (by decide) (by decide) (IW.len (A := A) H) (fun x hx => by
    have o := IW.ord (A := A) H x hx
    refine ⟨rfl, ?_⟩
    show 0 ≤ (gc t x).toInt ∧ (gc t x).toInt ≤ 9801
    unfold gc
    split
    · have mb := mul_bd (a := x.2.2.1.toInt) (b := x.2.2.2.toInt) (c := 99) (d := 99) (by have := o.2.2.1; omega) (by have := o.2.2.2; omega) o.2.2.1.2 o.2.2.2.2
      rw [mI (by omega) (by omega)]; omega
    · exact ⟨Int.le_refl _, by decide⟩)⟩
  obtain ⟨z, c1, c2, c3⟩ := cs
  have qs : ∃ q, (qtyOf A t 1).toInt = q ∧ 0 ≤ q ∧ q ≤ 12 * 99 := ⟨_, osm_i (A := A) (g := gq t 1) (c := fun x => (gq t 1 x).toInt) (b := 99) (by decide) (by decide) (IW.len (A := A) H) (fun x hx => by
    have o := IW.ord (A := A) H x hx
    refine ⟨rfl, ?_⟩
    show 0 ≤ (gq t 1 x).toInt ∧ (gq t 1 x).toInt ≤ 99
    unfold gq
    split
    · have := o.2.2.2; omega
    · exact ⟨Int.le_refl _, by decide⟩)⟩
  obtain ⟨q, q1, q2, q3⟩ := qs
  have dd := dsum_i (l := (sT A t).2.2) (fun x hx => (T.deb x hx).1) (by have := T.dsm; omega)
  have dn := dsI_nn (l := (sT A t).2.2) (fun x hx => (T.deb x hx).1)
  have dm := T.dsm
  have lv : 0 ≤ (fT A t 2).toInt ∧ (fT A t 2).toInt ≤ 999 := T.lev
  have st : 0 ≤ (fT A t 3).toInt ∧ (fT A t 3).toInt + osum (oc t) (sO A) ≤ 99 * K := T.stk
  have ch : 0 ≤ (fT A t 4).toInt ∧ (fT A t 4).toInt + 99 * osum (oc t) (sO A) ≤ 9999 * (K + 1) := T.csh
  have e1 : (fT A t 4 + csa A t).toInt = (fT A t 4).toInt + z := by rw [aI (by omega) (by omega), c1]
  have e2 : (fT A t 2 + fT A t 3).toInt = (fT A t 2).toInt + (fT A t 3).toInt := aI (by omega) (by omega)
  have e3 : (fT A t 2 + fT A t 3 + qtyOf A t 1).toInt = (fT A t 2).toInt + (fT A t 3).toInt + q := by rw [aI (by omega) (by omega), e2, q1]
  have e4 : (fT A t 2 + fT A t 3 + qtyOf A t 1 - dsum (sT A t).2.2).toInt = (fT A t 2).toInt + (fT A t 3).toInt + q - dsI (sT A t).2.2 := by rw [sI (by omega) (by omega), e3, dd]
  have pp : ∃ p : Int, 0 ≤ p ∧ p ≤ 99 ∧ (if sG A 7 = -9 then (0 : Int32) else sG A 7).toInt = p ∧ (if sG A 7 = -9 then (0 : Int64) else (sG A 7).toInt64).toInt = p := by
    rcases IW.pri (A := A) H with h | h
    · exact ⟨0, by omega, by omega, by rw [if_pos h]; rfl, by rw [if_pos h]; rfl⟩
    · have n9 : ¬ sG A 7 = -9 := fun r => by rw [r] at h; exact absurd h.1 (by decide)
      exact ⟨(sG A 7).toInt, by omega, by omega, by rw [if_neg n9], by rw [if_neg n9]; exact iL _⟩
  obtain ⟨p, p1, p2, p3, p4⟩ := pp
  unfold wlR wlt
  generalize fT A t 2 + fT A t 3 + qtyOf A t 1 - dsum (sT A t).2.2 = X at *
  generalize fT A t 4 + csa A t = Y at *
  have mb := mul_ab (p := p) (x := X.toInt) (b := 3100000) ⟨p1, p2⟩ (by omega) (by omega)
  have m32 : ((if sG A 7 = -9 then (0 : Int32) else sG A 7) * X).toInt = p * X.toInt := by rw [mI (by rw [p3]; omega) (by rw [p3]; omega), p3]
  have m64 : ((if sG A 7 = -9 then (0 : Int64) else (sG A 7).toInt64) * X.toInt64).toInt = p * X.toInt := by rw [mL9 (by rw [p4, iL]; omega) (by rw [p4, iL]; omega), p4, iL]
  rw [aL (by rw [m64, iL]; omega) (by rw [m64, iL]; omega), m64, iL, aI (by rw [m32]; omega) (by rw [m32]; omega), m32]
end SP
