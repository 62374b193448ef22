section SP
variable {E : Ev} {h : PH} {Q : Rt → PH → Prop}
theorem rk_eq {K : Nat} {A : Sta} {t : Nat} (H : IV K A) (hK : K ≤ 30000) (ht : t < sN A) : ∀ u, u ≤ sN A → rkR A t u = rnk A t u
  | 0, _ => rfl
  | u + 1, hu => by
    have e1 := wl_eq H hK ht
    have e2 := wl_eq H hK (t := u) (by omega)
    have c : (wlR A t < wlR A u ∨ (wlR A u = wlR A t ∧ u < t)) ↔ (wlt A t < wlt A u ∨ (wlt A u = wlt A t ∧ u < t)) := by
      rw [Int64.lt_iff_toInt_lt, ltI, eqI, ← Int64.toInt_inj, e1, e2]
    have ih := rk_eq H hK ht u (by omega)
    rw [rkR, rnk, ih]
    by_cases h : wlt A t < wlt A u ∨ (wlt A u = wlt A t ∧ u < t)
    · rw [if_pos h, if_pos (c.mpr h)]
    · rw [if_neg h, if_neg (fun q => h (c.mp q))]; rfl
end SP
