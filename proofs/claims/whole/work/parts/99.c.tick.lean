section SP
variable {E : Ev} {h : PH} {Q : Rt → PH → Prop}
theorem cdAll_ok {K : Nat} {A : Sta} (H : IW K (sTi A) 1 A) (hK : K ≤ 100000) : ∀ i, i ≤ sN A → cdRa A i = cdAll A i ∧ IW K (sTi A) 1 (cdAll A i) ∧ (cdAll A i).1 = A.1 ∧ (∀ k, k ≠ 6 → sG (cdAll A i) k = sG A k) ∧ (∀ u, u < i → ∀ d ∈ (sT (cdAll A i) u).2.2, sTi A < d.2)
  | 0, _ => ⟨rfl, H, rfl, fun _ _ => rfl, fun u hu => absurd hu (by omega)⟩
  | i + 1, h => by
    obtain ⟨h1, h2, h3, h4, h5⟩ := cdAll_ok H hK i (by omega)
    have e : sTi (cdAll A i) = sTi A := by show (cdAll A i).1.2.1 = _; rw [h3]
    have h2' : IW K (sTi (cdAll A i)) 1 (cdAll A i) := by rw [e]; exact h2
    obtain ⟨g1, g2, g3, g4, g5, g6⟩ := cd_eq h2' hK (t := i) (by show i < (cdAll A i).1.1; rw [h3]; exact h)
    rw [e] at g2 g5
    refine ⟨?_, g2, g3.trans h3, fun k hk => (g4 k hk).trans (h4 k hk), fun u hu d hd => ?_⟩
    · rw [cdRa, h1]; exact g1
    · by_cases q : u = i
      · rw [q] at hd; exact g5 d hd
      · rw [show cdAll A (i + 1) = cdA (cdAll A i) i from rfl, g6 u q] at hd
        exact h5 u (by omega) d hd
theorem IW.tight {K lo lo' : Nat} {A : Sta} (H : IW K lo 1 A) (h : ∀ u, u < sN A → ∀ d ∈ (sT A u).2.2, lo' ≤ d.2) : IW K lo' 1 A :=
  ⟨H.n6, H.tm, H.ti, H.wid, H.itv, H.pen, H.pri, H.len, H.ord, fun u hu => by
    have T := H.ten u hu
    exact ⟨T.cap, T.rate, T.lev, T.stk, T.csh, T.snt, T.msl, T.msg, fun d hd => ⟨(T.deb d hd).1, h u hu d hd, (T.deb d hd).2.2⟩, T.srt, T.dsm⟩⟩
theorem tk2_t {A : Sta} (h : isAu A) : tk2 A = auA A := by unfold tk2; rw [if_pos h]
theorem tk2_f {A : Sta} (h : ¬ isAu A) : tk2 A = A := by unfold tk2; rw [if_neg h]
theorem tk2_ok {K lo : Nat} {A : Sta} (H : IW K lo 1 A) (hK : K ≤ 100000) (hlo : lo ≤ sTi A + sTm A) : tk2R A = tk2 A ∧ IW K lo 1 (tk2 A) ∧ okF A ∧ okD A ∧ (tk2 A).1 = A.1 ∧ (∀ k, k ≠ 7 → sG (tk2 A) k = sG A k) := by
  obtain ⟨a1, a2, a3, a4, a5, a6⟩ := au_ok H hK hlo
  have p : 0 < sG A 2 := ltI.mpr (by rw [tI0]; have := H.itv.1; omega)
  unfold tk2R
  by_cases c : nI (sTi A) - nI (sTi A) / sG A 2 * sG A 2 = 0
  · rw [cif_t c, tk2_t ⟨p, c⟩]; exact ⟨a1, a2, a3, a4, a5, a6⟩
  · rw [cif_f c, tk2_f (fun q => c q.2)]; exact ⟨rfl, H, a3, a4, rfl, fun _ _ => rfl⟩
/-- a tick is one thing in both, and keeps a state good -/
theorem tick_ok {K : Nat} {A : Sta} (H : IV K A) (hK : K + 1 ≤ 100000) : tkR A = tkA A ∧ IV (K + 1) (tkA A) ∧ okF (tk1 A) ∧ okU A ∧ sG (tkA A) 9 = sG (tk1 A) 9 ∧ (tkA A).1 = (sN A, sTi A + 1, sTm A) := by
  obtain ⟨b1, b2, b3, b4, b5, b6⟩ := tk1_ok H hK
  obtain ⟨c1, c2, c3, c4, c5, c6⟩ := tk2_ok b2 hK (by omega)
  have e2 : (tk2 (tk1 A)).1 = (sN A, sTi A + 1, sTm A) := c5.trans b3
  have es : sTi (tk2 (tk1 A)) = sTi (tk1 A) := by show (tk2 (tk1 A)).1.2.1 = (tk1 A).1.2.1; rw [c5]
  have c2' : IW (K + 1) (sTi (tk2 (tk1 A))) 1 (tk2 (tk1 A)) := by rw [es]; exact c2
  obtain ⟨d1, d2, d3, d4, d5⟩ := cdAll_ok c2' hK (sN A) (by show sN A ≤ (tk2 (tk1 A)).1.1; rw [e2]; exact Nat.le_refl _)
  have e3 : (tkA A).1 = (sN A, sTi A + 1, sTm A) := d3.trans e2
  refine ⟨?_, ?_, c3, ⟨?_, ?_, ?_⟩, ?_, e3⟩
  · unfold tkR tkA
    rw [b1, c1]; exact d1
  · have et : sTi (tkA A) = sTi (tk2 (tk1 A)) := by show (tkA A).1.2.1 = (tk2 (tk1 A)).1.2.1; rw [e3, e2]
    refine IW.tight (lo' := sTi (tkA A) + 1) (A := tkA A) d2 (fun u hu d hd => ?_)
    rw [et]
    exact d5 u (by have q : u < (tkA A).1.1 := hu; rw [e3] at q; exact q) d hd
  · have := IW.itv (A := A) H
    intro q; rw [q] at this; exact absurd this.1 (by decide)
  · rw [b1]; exact c4
  · intro t ht x hx
    rw [b1, c1] at hx
    have T := c2.ten t (by show t < (tk2 (tk1 A)).1.1; rw [e2]; exact ht)
    have q := (T.deb x hx).2.2
    have q2 := c2.ti
    have q3 := c2.tm
    omega
  · show sG (cdAll (tk2 (tk1 A)) (sN A)) 9 = _
    rw [d4 9 (by decide), c6 9 (by decide)]
theorem tks_ok {K : Nat} {A : Sta} (H : IV K A) : ∀ n, K + n ≤ 100000 → tksR n A = tks n A ∧ IV (K + n) (tks n A).1 ∧ (∀ j, j < n → okF (tk1 (tks j A).1)) ∧ (∀ j, j < n → okU (tksR j A).1) ∧ (tks n A).1.1 = (sN A, sTi A + n, sTm A)
  | 0, _ => ⟨rfl, H, fun j h => absurd h (by omega), fun j h => absurd h (by omega), rfl⟩
  | n + 1, hn => by
    obtain ⟨h1, h2, h3, h4, h5⟩ := tks_ok H n (by omega)
    obtain ⟨g1, g2, g3, g4, g5, g6⟩ := tick_ok h2 (by omega)
    refine ⟨?_, g2, fun j hj => ?_, fun j hj => ?_, ?_⟩
    · rw [tksR, tks, h1, g1, g5]
    · by_cases e : j = n
      · rw [e]; exact g3
      · exact h3 j (by omega)
    · by_cases e : j = n
      · rw [e, h1]; exact g4
      · exact h4 j (by omega)
    · show (tkA (tks n A).1).1 = _
      rw [g6]
      show ((tks n A).1.1.1, (tks n A).1.1.2.1 + 1, (tks n A).1.1.2.2) = _
      rw [h5]; rfl
theorem IV.okT9 {K : Nat} {A : Sta} (H : IV K A) {n : Nat} (hn : K + n ≤ 100000) : okT A n := by
  have a := IW.n6 (A := A) H
  have b := IW.ti (A := A) H
  have c := IW.tm (A := A) H
  exact ⟨by omega, by omega, c.2, (tks_ok H n hn).2.2.1⟩
theorem IV.okV9 {K : Nat} {A : Sta} (H : IV K A) {n : Nat} (hn : K + n ≤ 100000) : okV A n := by
  have a := IW.n6 (A := A) H
  have b := IW.ti (A := A) H
  exact ⟨by omega, by omega, (tks_ok H n hn).2.2.2.1⟩
end SP
