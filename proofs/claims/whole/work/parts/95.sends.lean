section SP
variable {E : Ev} {h : PH} {Q : Rt → PH → Prop}
theorem IT.late {K lo lo' hi hi' : Nat} {q s : Int} {T : Ten} (H : IT K lo hi q s T) (h : hi ≤ hi') (hl : lo' ≤ lo) : IT K lo' hi' q s T :=
  ⟨H.cap, H.rate, H.lev, H.stk, H.csh, H.snt, H.msl, H.msg, fun d hd => ⟨(H.deb d hd).1, Nat.le_trans hl (H.deb d hd).2.1, Nat.le_trans (H.deb d hd).2.2 h⟩, H.srt, H.dsm⟩
theorem IT.cg {K lo hi : Nat} {q s : Int} {T : Ten} {g : Nat → Int32} (H : IT K lo hi q s T) (h0 : g 0 = T.1 0) (h1 : g 1 = T.1 1) (h2 : 0 ≤ (g 2).toInt ∧ (g 2).toInt ≤ 999) (h3 : 0 ≤ (g 3).toInt ∧ (g 3).toInt + q ≤ 99 * K) (h4 : 0 ≤ (g 4).toInt ∧ (g 4).toInt + 99 * q ≤ 9999 * (K + 1)) (h5 : 0 ≤ (g 5).toInt ∧ (g 5).toInt + msI T.2.1 ≤ 99 * (K + 8)) : IT K lo hi q s (g, T.2) :=
  ⟨by show 1 ≤ (g 0).toInt ∧ (g 0).toInt ≤ 999; rw [h0]; exact H.cap, by show 0 ≤ (g 1).toInt ∧ (g 1).toInt ≤ 99; rw [h1]; exact H.rate, h2, h3, h4, h5, H.msl, H.msg, H.deb, H.srt, H.dsm⟩
theorem IT.ms {K lo hi : Nat} {q s : Int} {T : Ten} {g : Nat → Int32} {r : List Int32} (H : IT K lo hi q s T) (hg : ∀ k, k ≠ 5 → g k = T.1 k) (h5 : 0 ≤ (g 5).toInt ∧ (g 5).toInt + msI r ≤ 99 * (K + 8)) (hl : r.length ≤ 8) (hm : ∀ m ∈ r, 1 ≤ m.toInt ∧ m.toInt ≤ 99) : IT K lo hi q s (g, r, T.2.2) :=
  ⟨by show 1 ≤ (g 0).toInt ∧ (g 0).toInt ≤ 999; rw [hg 0 (by decide)]; exact H.cap, by show 0 ≤ (g 1).toInt ∧ (g 1).toInt ≤ 99; rw [hg 1 (by decide)]; exact H.rate, by show 0 ≤ (g 2).toInt ∧ (g 2).toInt ≤ 999; rw [hg 2 (by decide)]; exact H.lev, by show 0 ≤ (g 3).toInt ∧ (g 3).toInt + q ≤ 99 * K; rw [hg 3 (by decide)]; exact H.stk, by show 0 ≤ (g 4).toInt ∧ (g 4).toInt + 99 * q ≤ 9999 * (K + 1); rw [hg 4 (by decide)]; exact H.csh, h5, hl, hm, H.deb, H.srt, H.dsm⟩
/-- the clock goes on -/
theorem IV.clock {K : Nat} {A : Sta} (H : IV K A) : IW (K + 1) (sTi A + 1) 1 (wTi A (sTi A + 1)) := by
  refine ⟨IW.n6 (A := A) H, IW.tm (A := A) H, ?_, IW.wid (A := A) H, IW.itv (A := A) H, IW.pen (A := A) H, IW.pri (A := A) H, IW.len (A := A) H, IW.ord (A := A) H, fun t ht => ?_⟩
  · show sTi A + 1 ≤ K + 1
    have := IW.ti (A := A) H
    omega
  · exact ((IW.ten (A := A) H t ht).more (Nat.le_succ K)).late (by show sTi A + sTm A ≤ sTi A + 1 + sTm A; omega) (Nat.le_refl _)
theorem IW.g9 {K lo : Nat} {w : Int} {A : Sta} (H : IW K lo w A) {k : Nat} (v : Int32) (hk : k = 9 ∨ k = 6) : IW K lo w (wG A k v) := by
  have n1 : (1 : Nat) ≠ k := by omega
  have n2 : (2 : Nat) ≠ k := by omega
  have n4 : (4 : Nat) ≠ k := by omega
  have n7 : (7 : Nat) ≠ k := by omega
  refine ⟨IW.n6 (A := A) H, IW.tm (A := A) H, IW.ti (A := A) H, ?_, ?_, ?_, ?_, IW.len (A := A) H, IW.ord (A := A) H, IW.ten (A := A) H⟩
  · show 1 ≤ (upd (sG A) k v 1).toInt ∧ (upd (sG A) k v 1).toInt ≤ 999; rw [up_o n1]; exact H.wid
  · show 1 ≤ (upd (sG A) k v 2).toInt ∧ (upd (sG A) k v 2).toInt ≤ 20; rw [up_o n2]; exact H.itv
  · show 0 ≤ (upd (sG A) k v 4).toInt ∧ (upd (sG A) k v 4).toInt ≤ 99; rw [up_o n4]; exact H.pen
  · show upd (sG A) k v 7 = -9 ∨ (1 ≤ (upd (sG A) k v 7).toInt ∧ (upd (sG A) k v 7).toInt ≤ 99); rw [up_o n7]; exact H.pri
theorem fillB_ct {A : Sta} {t : Nat} (h : susp A t) : fillB A t = A := by unfold fillB; rw [if_pos h]
theorem fillB_cf {A : Sta} {t : Nat} (h : ¬ susp A t) : fillB A t = wF A t 2 (imin (fT A t 0) (fT A t 2 + fT A t 1)) := by unfold fillB; rw [if_neg h]
theorem IW.fill {K lo : Nat} {w : Int} {A : Sta} {t : Nat} (H : IW K lo w A) (ht : t < sN A) : IW K lo w (fillB A t) := by
  by_cases h : susp A t
  · rw [fillB_ct h]; exact H
  · rw [fillB_cf h]
    have T := H.ten t ht
    have a1 := T.cap
    have a2 := T.rate
    have a3 := T.lev
    have e := imin_m (fT A t 0) (fT A t 2 + fT A t 1)
    have e2 : (fT A t 2 + fT A t 1).toInt = ((sT A t).1 2).toInt + ((sT A t).1 1).toInt := aI (by show _ ≤ ((sT A t).1 2).toInt + ((sT A t).1 1).toInt; omega) (by show ((sT A t).1 2).toInt + ((sT A t).1 1).toInt < _; omega)
    have e3 : (imin (fT A t 0) (fT A t 2 + fT A t 1)).toInt = min ((sT A t).1 0).toInt (((sT A t).1 2).toInt + ((sT A t).1 1).toInt) := by rw [e, e2]
    refine H.one (Nat.le_refl K) (T.cg (up_o (by decide)) (up_o (by decide)) ?_ (by rw [up_o (by decide)]; exact T.stk) (by rw [up_o (by decide)]; exact T.csh) (by rw [up_o (by decide)]; exact T.snt))
    rw [up_s, e3]; omega
theorem fill_c1 (A : Sta) (t : Nat) : (fillB A t).1 = A.1 ∧ sG (fillB A t) = sG A ∧ sO (fillB A t) = sO A := by
  by_cases h : susp A t
  · rw [fillB_ct h]; exact ⟨rfl, rfl, rfl⟩
  · rw [fillB_cf h]; exact ⟨rfl, rfl, rfl⟩
theorem fbk_c1 (A : Sta) : ∀ i, (fbk A i).1 = A.1 ∧ sG (fbk A i) = sG A ∧ sO (fbk A i) = sO A
  | 0 => ⟨rfl, rfl, rfl⟩
  | i + 1 => by
    obtain ⟨h1, h2, h3⟩ := fbk_c1 A i
    obtain ⟨g1, g2, g3⟩ := fill_c1 (fbk A i) i
    exact ⟨g1.trans h1, g2.trans h2, g3.trans h3⟩
theorem IW.fbk9 {K lo : Nat} {w : Int} {A : Sta} (H : IW K lo w A) : ∀ i, i ≤ sN A → IW K lo w (fbk A i)
  | 0, _ => H
  | i + 1, h => (IW.fbk9 H i (by omega)).fill (by show i < (fbk A i).1.1; rw [(fbk_c1 A i).1]; exact h)
/-! sending -/
theorem sendT_ct {A : Sta} {t : Nat} (h : canS A t) : sendT A t = wG (sendA A t) 9 (sG A 9 + m0 A t) := by unfold sendT; rw [if_pos h]
theorem sendT_cf {A : Sta} {t : Nat} (h : ¬ canS A t) : sendT A t = A := by unfold sendT; rw [if_neg h]
def g9B (A : Sta) : Prop := 0 ≤ (sG A 9).toInt ∧ (sG A 9).toInt ≤ 999
theorem m0_cmem {A : Sta} {t : Nat} (h : 0 < (sT A t).2.1.length) : ∃ r, (sT A t).2.1 = m0 A t :: r := by
  unfold m0
  cases e : (sT A t).2.1 with
  | nil => rw [e] at h; exact absurd h (by simp)
  | cons a r => exact ⟨r, rfl⟩
theorem IW.send {K lo : Nat} {w : Int} {A : Sta} {t : Nat} (H : IW K lo w A) (hK : K ≤ 100000) (ht : t < sN A) (hg : g9B A) (h : canS A t) : IW K lo w (wG (sendA A t) 9 (sG A 9 + m0 A t)) ∧ g9B (wG (sendA A t) 9 (sG A 9 + m0 A t)) ∧ (sG A 9).toInt < (sG (wG (sendA A t) 9 (sG A 9 + m0 A t)) 9).toInt := by
  obtain ⟨r, er⟩ := m0_cmem h.1
  have T := H.ten t ht
  have mm := T.msg (m0 A t) (by rw [er]; exact List.mem_cons_self)
  have wd := H.wid
  obtain ⟨g1, g2⟩ := hg
  have hs := leI.mp h.2.2.2
  rw [aI (by omega) (by omega)] at hs
  have e9 : (sG A 9 + m0 A t).toInt = (sG A 9).toInt + (m0 A t).toInt := aI (by omega) (by omega)
  have e9' : sG (wG (sendA A t) 9 (sG A 9 + m0 A t)) 9 = sG A 9 + m0 A t := up_s (f := sG (sendA A t)) (k := 9)
  refine ⟨?_, ⟨by rw [e9', e9]; omega, by rw [e9', e9]; omega⟩, by rw [e9', e9]; omega⟩
  have T7 : IT K lo (sTi A + sTm A) (osum (oc t) (sO A)) (osum (oc2 t) (sO A)) (upd (sT A t).1 7 ((sT A t).1 7 - 1), (sT A t).2) := by
    exact T.cg (up_o (by decide)) (up_o (by decide)) (by rw [up_o (by decide)]; exact T.lev) (by rw [up_o (by decide)]; exact T.stk) (by rw [up_o (by decide)]; exact T.csh) (by rw [up_o (by decide)]; exact T.snt)
  have T8 := T7.take (n := m0 A t) (by omega)
  have s8 := T8.snt
  have f5 : tkF (upd (sT A t).1 7 ((sT A t).1 7 - 1)) (m0 A t) 5 = (sT A t).1 5 := by unfold tkF; rw [up_o (by decide), up_o (by decide), up_o (by decide)]
  have s9 : 0 ≤ ((sT A t).1 5).toInt ∧ ((sT A t).1 5).toInt + msI (sT A t).2.1 ≤ 99 * (K + 8) := T.snt
  have mr : msI (sT A t).2.1 = (m0 A t).toInt + msI r := by rw [er]; rfl
  have nr : 0 ≤ msI r := msI_nn (fun x hx => T.msg x (by rw [er]; exact List.mem_cons_of_mem _ hx))
  have e5 : ((sT A t).1 5 + m0 A t).toInt = ((sT A t).1 5).toInt + (m0 A t).toInt := aI (by omega) (by omega)
  have et : (sT A t).2.1.tail = r := by rw [er]; rfl
  refine IW.g9 (k := 9) (A := sendA A t) ?_ _ (Or.inl rfl)
  unfold sendA
  refine H.one (Nat.le_refl K) (T8.ms (fun k hk => up_o hk) ?_ ?_ (fun m hm => T.msg m (List.mem_of_mem_tail hm)))
  · show 0 ≤ (sfF (sT A t).1 (m0 A t) 5).toInt ∧ (sfF (sT A t).1 (m0 A t) 5).toInt + msI (sT A t).2.1.tail ≤ _; unfold sfF; rw [up_s, e5, et]; omega
  · rw [List.length_tail]; have := T.msl; omega
theorem send_c1 (A : Sta) (t : Nat) : (sendT A t).1 = A.1 ∧ sO (sendT A t) = sO A ∧ (∀ k, k ≠ 9 → sG (sendT A t) k = sG A k) := by
  by_cases h : canS A t
  · rw [sendT_ct h]; exact ⟨rfl, rfl, fun k hk => up_o hk⟩
  · rw [sendT_cf h]; exact ⟨rfl, rfl, fun _ _ => rfl⟩
theorem rnd_c1 (A : Sta) : ∀ i, (rnd A i).1 = A.1 ∧ sO (rnd A i) = sO A ∧ (∀ k, k ≠ 9 → sG (rnd A i) k = sG A k)
  | 0 => ⟨rfl, rfl, fun _ _ => rfl⟩
  | i + 1 => by
    obtain ⟨h1, h2, h3⟩ := rnd_c1 A i
    obtain ⟨g1, g2, g3⟩ := send_c1 (rnd A i) ((sTi A + i) % sN A)
    exact ⟨g1.trans h1, g2.trans h2, fun k hk => (g3 k hk).trans (h3 k hk)⟩
/-- a round: whether something was sent is told by the bytes -/
theorem IW.rnd9 {K lo : Nat} {w : Int} {A : Sta} (H : IW K lo w A) (hK : K ≤ 100000) (hg : g9B A) : ∀ i, IW K lo w (rnd A i) ∧ g9B (rnd A i) ∧ (sG A 9).toInt ≤ (sG (rnd A i) 9).toInt ∧ (sentB A i ↔ (sG A 9).toInt < (sG (rnd A i) 9).toInt)
  | 0 => ⟨H, hg, Int.le_refl _, ⟨fun h => absurd h (fun q => q), fun h => absurd h (by show ¬ (sG A 9).toInt < (sG A 9).toInt; omega)⟩⟩
  | i + 1 => by
    obtain ⟨h1, h2, h3, h4⟩ := IW.rnd9 H hK hg i
    have n0 := H.n6
    have hN : (sTi A + i) % sN A < sN (rnd A i) := by show _ < (rnd A i).1.1; rw [(rnd_c1 A i).1]; exact Nat.mod_lt _ (by omega)
    show IW K lo w (sendT (rnd A i) ((sTi A + i) % sN A)) ∧ g9B (sendT (rnd A i) ((sTi A + i) % sN A)) ∧ (sG A 9).toInt ≤ (sG (sendT (rnd A i) ((sTi A + i) % sN A)) 9).toInt ∧ ((canS (rnd A i) ((sTi A + i) % sN A) ∨ sentB A i) ↔ (sG A 9).toInt < (sG (sendT (rnd A i) ((sTi A + i) % sN A)) 9).toInt)
    by_cases c : canS (rnd A i) ((sTi A + i) % sN A)
    · obtain ⟨k1, k2, k3⟩ := h1.send hK hN h2 c
      rw [sendT_ct c]
      exact ⟨k1, k2, by omega, ⟨fun _ => by omega, fun _ => Or.inl c⟩⟩
    · rw [sendT_cf c]
      exact ⟨h1, h2, h3, ⟨fun q => h4.mp (q.resolve_left c), fun q => Or.inr (h4.mpr q)⟩⟩
theorem srun_eq {K lo : Nat} {w : Int} (hK : K ≤ 100000) : ∀ (f : Nat) (A : Sta), IW K lo w A → g9B A → sRun f A = srun f A ∧ IW K lo w (srun f A) ∧ g9B (srun f A) ∧ (srun f A).1 = A.1 ∧ sO (srun f A) = sO A ∧ (∀ k, k ≠ 9 → sG (srun f A) k = sG A k)
  | 0, A, H, hg => ⟨rfl, H, hg, rfl, rfl, fun _ _ => rfl⟩
  | f + 1, A, H, hg => by
    obtain ⟨h1, h2, h3, h4⟩ := H.rnd9 hK hg (sN A)
    obtain ⟨r1, r2, r3⟩ := rnd_c1 A (sN A)
    obtain ⟨i1, i2, i3, i4, i5, i6⟩ := srun_eq hK f (rnd A (sN A)) h1 h2
    rw [sRun, srun]
    by_cases c : sentB A (sN A)
    · rw [cif_t c, if_pos (ltI.mpr (h4.mp c))]
      exact ⟨i1, i2, i3, i4.trans r1, i5.trans r2, fun k hk => (i6 k hk).trans (r3 k hk)⟩
    · rw [cif_f c, if_neg (fun q => c (h4.mpr (ltI.mp q)))]
      exact ⟨rfl, h1, h2, r1, r2, r3⟩
/-- the first part of a tick -/
theorem tk1_ok {K : Nat} {A : Sta} (H : IV K A) (hK : K + 1 ≤ 100000) : tk1R A = tk1 A ∧ IW (K + 1) (sTi (tk1 A)) 1 (tk1 A) ∧ (tk1 A).1 = (sN A, sTi A + 1, sTm A) ∧ sO (tk1 A) = sO A ∧ (∀ k, k ≠ 9 → sG (tk1 A) k = sG A k) ∧ g9B (tk1 A) := by
  obtain ⟨f1, f2, f3⟩ := fbk_c1 (wTi A (sTi A + 1)) (sN A)
  have H1 := (H.clock).fbk9 (sN A) (Nat.le_refl _)
  have H2 := H1.g9 (k := 9) 0 (Or.inl rfl)
  obtain ⟨i1, i2, i3, i4, i5, i6⟩ := srun_eq hK 49 _ H2 ⟨by show 0 ≤ (upd (sG (fbk (wTi A (sTi A + 1)) (sN A))) 9 0 9).toInt; rw [up_s]; decide, by show (upd (sG (fbk (wTi A (sTi A + 1)) (sN A))) 9 0 9).toInt ≤ 999; rw [up_s]; decide⟩
  have e1 : (tk1 A).1 = (sN A, sTi A + 1, sTm A) := i4.trans f1
  have e2 : sTi (tk1 A) = sTi A + 1 := by show (tk1 A).1.2.1 = _; rw [e1]
  refine ⟨i1, ?_, e1, i5.trans f3, fun k hk => (i6 k hk).trans ?_, i3⟩
  · rw [e2]; exact i2
  · show upd (sG (fbk (wTi A (sTi A + 1)) (sN A))) 9 0 k = _
    rw [up_o hk, f2]; rfl
end SP
