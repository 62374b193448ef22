section SP
variable {E : Ev} {h : PH} {Q : Rt → PH → Prop}
/-- u is before t -/
def bef (A : Sta) (u t : Nat) : Prop := wlt A t < wlt A u ∨ (wlt A u = wlt A t ∧ u < t)
theorem bef_i {A : Sta} {u t : Nat} : bef A u t ↔ ((wlt A t).toInt < (wlt A u).toInt ∨ ((wlt A u).toInt = (wlt A t).toInt ∧ u < t)) := by
  unfold bef; rw [ltI, eqI]
theorem rnk_s {A : Sta} {t u : Nat} : (bef A u t → rnk A t (u + 1) = rnk A t u + 1) ∧ (¬ bef A u t → rnk A t (u + 1) = rnk A t u) := by
  unfold bef
  constructor
  · intro h; rw [rnk, if_pos h]
  · intro h; rw [rnk, if_neg h]; rfl
theorem rnk_lt {A : Sta} {t : Nat} : ∀ u, t < u → rnk A t u < u
  | 0, h => absurd h (Nat.not_lt_zero _)
  | u + 1, h => by
    by_cases e : u = t
    · have n : ¬ bef A u t := by rw [bef_i, e]; omega
      rw [rnk_s.2 n]; have := rnk_le A t u; omega
    · have ih := rnk_lt (A := A) (t := t) u (by omega)
      by_cases b : bef A u t
      · rw [rnk_s.1 b]; omega
      · rw [rnk_s.2 b]; omega
theorem rnk_mn {A : Sta} {s t : Nat} (hb : bef A s t) : ∀ u, rnk A s u ≤ rnk A t u ∧ (s < u → rnk A s u < rnk A t u)
  | 0 => ⟨Nat.le_refl _, fun h => absurd h (Nat.not_lt_zero _)⟩
  | u + 1 => by
    have ih := rnk_mn hb u
    have tr : bef A u s → bef A u t := by rw [bef_i] at hb; rw [bef_i, bef_i]; omega
    by_cases e : u = s
    · have n : ¬ bef A u s := by rw [bef_i, e]; omega
      rw [rnk_s.2 n, rnk_s.1 (by rw [e]; exact hb)]; omega
    · by_cases b : bef A u s
      · rw [rnk_s.1 b, rnk_s.1 (tr b)]; omega
      · rw [rnk_s.2 b]
        by_cases c : bef A u t
        · rw [rnk_s.1 c]; omega
        · rw [rnk_s.2 c]; omega
theorem rnk_inj {A : Sta} {s t n : Nat} (hs : s < n) (ht : t < n) (e : rnk A s n = rnk A t n) : s = t := by
  by_cases h : s = t
  · exact h
  · have tot : bef A s t ∨ bef A t s := by rw [bef_i, bef_i]; omega
    rcases tot with q | q
    · have := (rnk_mn q n).2 hs; omega
    · have := (rnk_mn q n).2 ht; omega
theorem pigeon : ∀ (n : Nat) (f : Nat → Nat), (∀ t, t < n → f t < n) → (∀ s t, s < n → t < n → f s = f t → s = t) → ∀ i, i < n → ∃ t, t < n ∧ f t = i
  | 0, _, _, _, i, h => absurd h (Nat.not_lt_zero _)
  | n + 1, f, hf, hj, i, hi => by
    by_cases e : f n = i
    · exact ⟨n, by omega, e⟩
    · have fn := hf n (by omega)
      have ih := pigeon n (fun t => if f t = n then f n else f t) (fun t ht => by
        have := hf t (by omega)
        have := fun q => hj t n (by omega) (by omega) q
        show (if f t = n then f n else f t) < n
        split <;> omega) (fun s t hs ht q => by
        have a1 := fun q => hj s n (by omega) (by omega) q
        have a2 := fun q => hj t n (by omega) (by omega) q
        have a3 := fun q => hj s t (by omega) (by omega) q
        have q' : (if f s = n then f n else f s) = (if f t = n then f n else f t) := q
        split at q' <;> split at q' <;> omega)
      by_cases c : i = n
      · obtain ⟨t, ht, q⟩ := ih (f n) (by omega)
        have q' : (if f t = n then f n else f t) = f n := q
        have a2 := fun q => hj t n (by omega) (by omega) q
        refine ⟨t, by omega, ?_⟩
        split at q' <;> omega
      · obtain ⟨t, ht, q⟩ := ih i (by omega)
        have q' : (if f t = n then f n else f t) = i := q
        refine ⟨t, by omega, ?_⟩
        split at q' <;> omega
theorem wst_at {A : Sta} {i t : Nat} (e : rnk A t (sN A) = i) (ht : t < sN A) : ∀ f s, s + f = sN A → s ≤ t → wstA A i f s = nI t
  | 0, s, h1, h2 => by omega
  | f + 1, s, h1, h2 => by
    by_cases c : rnk A s (sN A) = i
    · rw [wstA_y c, rnk_inj (by omega) ht (c.trans e.symm)]
    · rw [wstA_n c]
      have : s ≠ t := fun q => c (by rw [q]; exact e)
      exact wst_at e ht f (s + 1) (by omega) (by omega)
theorem ws_at {K : Nat} {A : Sta} {i t : Nat} (H : IV K A) (hK : K ≤ 30000) (e : rnk A t (sN A) = i) (ht : t < sN A) : ∀ m, m ≤ sN A → t < m → wsR A i m = nI t
  | 0, _, h => absurd h (Nat.not_lt_zero _)
  | m + 1, h1, h2 => by
    have r := rk_eq H hK (t := m) (by omega) (sN A) (Nat.le_refl _)
    by_cases c : rnk A m (sN A) = i
    · rw [wsR_y (r.trans c), rnk_inj (by omega) ht (c.trans e.symm)]
    · rw [wsR_n (by rw [r]; exact c)]
      have : m ≠ t := fun q => c (by rw [q]; exact e)
      exact ws_at H hK e ht m (by omega) (by omega)
theorem ws_eq {K : Nat} {A : Sta} {i : Nat} (H : IV K A) (hK : K ≤ 30000) (hi : i < sN A) : wsR A i (sN A) = wstA A i (sN A) 0 := by
  obtain ⟨t, ht, e⟩ := pigeon (sN A) (fun t => rnk A t (sN A)) (fun t ht => rnk_lt _ ht) (fun s t hs ht e => rnk_inj hs ht e) i hi
  rw [wst_at e ht (sN A) 0 (by omega) (by omega), ws_at H hK e ht (sN A) (by omega) ht]
end SP
