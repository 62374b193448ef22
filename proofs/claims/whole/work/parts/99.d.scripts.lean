section SP
variable {E : Ev} {h : PH} {Q : Rt → PH → Prop}
theorem IV.mored {K K' : Nat} {A : Sta} (H : IV K A) (h : K ≤ K') : IV K' A := IW.more (A := A) H h
/-- good, with so many ticks and actions to come -/
def P9 (k : Nat) (B : Sta) : Prop := ∃ K, K + k ≤ 100000 ∧ IV K B
theorem P9_ok : OkP P9 := by
  refine ⟨fun k B n ⟨K, h, H⟩ hn => ⟨H.okT9 (by omega), K + n, by omega, (tks_ok H n (by omega)).2.1⟩, fun k B kd j p z ⟨K, h, H⟩ hk hj hp hz hc => ⟨K + 1, by omega, H.place (by omega) hk hj hp hz hc⟩, fun k B j z ⟨K, h, H⟩ hj hz h8 => ⟨K + 1, by omega, H.push hj hz h8⟩, fun k B ⟨K, h, H⟩ => ⟨K, by omega, H⟩⟩
theorem cmd_eq {k : Nat} {B : Sta} {cm t p z : Int32} (hP : P9 k B) (hk : 50 ≤ k) : cmdR B cm t p z = cmdA B cm t p z := by
  obtain ⟨K, h, H⟩ := hP
  unfold cmdR
  by_cases c : cm = 4
  · rw [cif_t c, c, cm_4]
    by_cases m : t = 0 ∧ p = 0 ∧ wth z 1 50
    · rw [cif_t m, cif_t m]
      obtain ⟨n, h1, h2, rfl⟩ := wth_1 (b := 50) (by decide) m.2.2
      rw [mis_n (by omega), (tks_ok H n (by omega)).1]
    · rw [cif_f m, cif_f m]
  · rw [cif_f c]
theorem grp_eq {k : Nat} {B : Sta} {g : Int32} (hP : P9 k B) (hk : 50 ≤ k) : grpR B g = grpA B g := cmd_eq hP hk
theorem P9.n6 {k : Nat} {B : Sta} (h : P9 k B) : sN B ≤ 6 := by
  obtain ⟨K, _, H⟩ := h
  exact (IW.n6 (A := B) H).2
theorem rs_eq {n : Nat} {s : Int64} : ∀ (f i k : Nat) (B : Sta), P9 k B → 50 * f ≤ k → rsR n s f i B = rsA n s f i B
  | 0, _, _, _, _, _ => rfl
  | f + 1, i, k, B, hP, hk => by
    have e := grp_eq (g := grpI n s i) hP (by omega)
    rw [rsR, rsA, e]
    cases h : grpA B (grpI n s i) with
    | none => rfl
    | some B' =>
      obtain ⟨k', h1, h2⟩ := P9_ok.grp (by omega) hP hP.n6 (show cmdA B _ _ _ _ = some B' from h)
      exact rs_eq f (i + 1) k' B' h2 (by omega)
theorem sm_eq {B : Sta} {x : Int64} (hP : P9 120 B) : ∀ i, i ≤ 60 → smR B x i = smA B x i ∧ P9 (120 - 2 * i) (smA B x i).1
  | 0, _ => ⟨rfl, hP⟩
  | i + 1, h => by
    obtain ⟨h1, h2⟩ := sm_eq hP i (by omega)
    have h3 := P9_ok.ra (k := 120 - 2 * i - 1) (r := rnI (rnX (smA B x i).2.1)) (by rw [show 120 - 2 * i - 1 + 1 = 120 - 2 * i by omega]; exact h2) h2.n6 (rnI_p _)
    obtain ⟨K, h4, H⟩ := id h3
    have e := (tks_ok H 1 (by omega)).1
    refine ⟨?_, ?_⟩
    · rw [smR, smA, h1, e]
    · have := (P9_ok.1 _ _ 1 h3 (by omega)).2
      rw [show 120 - 2 * (i + 1) = 120 - 2 * i - 1 - 1 by omega]; exact this
theorem aft_eq {A : Sta} {i j : Nat} {K : Nat} (H : IV K A) (hK : K + 100 ≤ 100000) : ∀ f k, f + k ≤ 100 → aftR A i j f k = aft A i j f k
  | 0, _, _ => rfl
  | f + 1, k, h => by rw [aftR, aft, (tks_ok H k (by omega)).1, aft_eq H hK f (k + 1) (by omega)]
theorem snt_eq {A : Sta} {i j : Nat} {K : Nat} (H : IV K A) (hK : K + 100 ≤ 100000) : sntR A i j = sntA A i j := by
  unfold sntR sntA
  rw [aft_eq H hK 99 1 (by omega)]
end SP
