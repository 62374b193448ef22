section SP
variable {E : Ev} {h : PH} {Q : Rt → PH → Prop}
theorem lN0 {b : Nat} (hb : b < 2 ^ 63) : lN b = 0 ↔ b = 0 := pk_lEQ (b := 0) hb (by decide)
theorem gcR_n : ∀ (f a b : Nat), a < 2 ^ 63 → b < 2 ^ 63 → b < f → gcR f (lN a) (lN b) = lN (Nat.gcd a b)
  | 0, a, b, _, _, h => absurd h (Nat.not_lt_zero _)
  | f + 1, a, b, ha, hb, h => by
    by_cases z : b = 0
    · rw [gcR_0 ((lN0 hb).mpr z), z, Nat.gcd_zero_right]
    · have m := Nat.mod_lt a (Nat.pos_of_ne_zero z)
      rw [gcR_s (fun q => z ((lN0 hb).mp q)), pk_lRem ha (Nat.pos_of_ne_zero z) hb, gcR_n f b (a % b) hb (by omega) (by omega), Nat.gcd_comm b, ← Nat.gcd_rec, Nat.gcd_comm]
theorem gcF_s {f a b : Nat} (ha : a < 2 ^ 63) (hb : b < 2 ^ 63) (z : ¬ b = 0) : gcdF (f + 1) (lN a) (lN b) = gcdF f (lN b) (lN (a % b)) := by
  rw [gcdF, if_neg (fun q => z ((lN0 hb).mp q)), pk_lRem ha (Nat.pos_of_ne_zero z) hb]
theorem gcF_0 {f a : Nat} : gcdF f (lN a) (lN 0) = lN a := by
  cases f
  · rfl
  · rw [gcdF, if_pos ((lN0 (by decide)).mpr rfl)]
theorem gcd_r (a b : Nat) : Nat.gcd b (a % b) = Nat.gcd a b := by rw [Nat.gcd_comm b, ← Nat.gcd_rec, Nat.gcd_comm]
theorem mod_half {b c : Nat} (h0 : 0 < c) (h : c < b) : 2 * (b % c) < b := by
  have h1 := Nat.mod_lt b h0
  have h2 := Nat.div_add_mod b c
  have h3 : 1 ≤ b / c := Nat.div_pos (Nat.le_of_lt h) h0
  have h4 : c * 1 ≤ c * (b / c) := Nat.mul_le_mul_left c h3
  omega
theorem gcF_100 {a b : Nat} (ha : a < 2 ^ 63) (hb : b < 2 ^ 49) : gcdF 100 (lN a) (lN b) = lN (Nat.gcd a b) := by
  have e2 : ∀ (f a b : Nat), a < 2 ^ 63 → b < 2 ^ 63 → ∀ k, b < 2 ^ k → 2 * k + 1 ≤ f → gcdF f (lN a) (lN b) = lN (Nat.gcd a b) := by
    intro f
    induction f using Nat.strongRecOn with
    | _ f ih =>
      intro a b ha hb k hk hf
      cases k with
      | zero =>
        have z : b = 0 := by rw [Nat.pow_zero] at hk; omega
        rw [z, gcF_0, Nat.gcd_zero_right]
      | succ k =>
        by_cases z : b = 0
        · rw [z, gcF_0, Nat.gcd_zero_right]
        · have m := Nat.mod_lt a (Nat.pos_of_ne_zero z)
          obtain ⟨f', rfl⟩ : ∃ f', f = f' + 2 := ⟨f - 2, by omega⟩
          rw [gcF_s ha hb z]
          by_cases y : a % b = 0
          · rw [← gcd_r a b, y, gcF_0, Nat.gcd_zero_right]
          · have hm := mod_half (b := b) (c := a % b) (Nat.pos_of_ne_zero y) m
            rw [Nat.pow_succ] at hk
            rw [gcF_s hb (by omega) y, ih f' (by omega) (a % b) (b % (a % b)) (by omega) (by omega) k (by omega) (by omega), gcd_r, gcd_r]
  exact e2 100 a b ha (by omega) 49 hb (by omega)
theorem lmax_1 {g : Nat} (h0 : 0 < g) (h : g < 2 ^ 63) : lmax 1 (lN g) = lN g := by
  unfold lmax
  have e : (1 : Int64) = lN 1 := rfl
  by_cases c : (1 : Int64) < lN g
  · rw [if_pos c]
  · rw [if_neg c, e]
    rw [e, pk_lLT (by decide) h] at c
    exact congrArg lN (by omega)
theorem labs_n {x : Int64} (h : -9223372036854775808 < x.toInt) : ∃ n : Nat, n < 2 ^ 63 ∧ labs x = lN n ∧ (n = 0 ↔ x = 0) := by
  have z : (0 : Int64).toInt = 0 := rfl
  have u := Int64.toInt_lt x
  unfold labs
  by_cases c : x < 0
  · rw [if_pos c]
    rw [Int64.lt_iff_toInt_lt, z] at c
    refine ⟨(-x.toInt).toNat, by omega, Int64.toInt_inj.mp ?_, ?_⟩
    · rw [pk_lT (by omega), Int64.toInt_neg, Int.bmod_eq_of_le (by omega) (by omega)]; omega
    · rw [← Int64.toInt_inj, z]; omega
  · rw [if_neg c]
    rw [Int64.lt_iff_toInt_lt, z] at c
    refine ⟨x.toInt.toNat, by omega, Int64.toInt_inj.mp ?_, ?_⟩
    · rw [pk_lT (by omega)]; omega
    · rw [← Int64.toInt_inj, z]; omega
/-- both divisors are the greatest common one -/
theorem low_eq {top bot : Int64} (ht : -9223372036854775808 < top.toInt) (hb : 0 < bot.toInt) (hb2 : bot.toInt < 2 ^ 49) : ∃ g : Nat, 0 < g ∧ (g : Int) ≤ bot.toInt ∧ lmax 1 (gcdF 100 (labs top) bot) = lN g ∧ gcR (bot.toInt.toNat + 1) (labs top) bot = lN g := by
  obtain ⟨a, ha, ea, _⟩ := labs_n ht
  have eb : bot = lN bot.toInt.toNat := by
    apply Int64.toInt_inj.mp
    rw [pk_lT (by omega)]; omega
  have g0 : 0 < Nat.gcd a bot.toInt.toNat := Nat.gcd_pos_of_pos_right _ (by omega)
  have g1 : Nat.gcd a bot.toInt.toNat ≤ bot.toInt.toNat := Nat.gcd_le_right _ (by omega)
  refine ⟨Nat.gcd a bot.toInt.toNat, g0, by omega, ?_, ?_⟩
  · rw [ea]
    rw [show gcdF 100 (lN a) bot = lN (Nat.gcd a bot.toInt.toNat) from by
      rw [show gcdF 100 (lN a) bot = gcdF 100 (lN a) (lN bot.toInt.toNat) from by rw [← eb]]
      exact gcF_100 ha (by omega)]
    exact lmax_1 g0 (by omega)
  · rw [ea]
    rw [show gcR (bot.toInt.toNat + 1) (lN a) bot = gcR (bot.toInt.toNat + 1) (lN a) (lN bot.toInt.toNat) from by rw [← eb]]
    exact gcR_n _ _ _ ha (by omega) (by omega)
end SP
