section SP
variable {E : Ev} {h : PH} {Q : Rt → PH → Prop}
/-- something is sent among the first i tenants of a round -/
def sentB (A : Sta) : Nat → Prop
  | 0 => False
  | i + 1 => canS (rnd A i) ((sTi A + i) % sN A) ∨ sentB A i
noncomputable def sRun : Nat → Sta → Sta
  | 0, A => A
  | f + 1, A => cif (sentB A (sN A)) (sRun f (rnd A (sN A))) (rnd A (sN A))
theorem sRun_y {f : Nat} {A : Sta} (h : sentB A (sN A)) : sRun (f + 1) A = sRun f (rnd A (sN A)) := cif_t h
theorem sRun_n {f : Nat} {A : Sta} (h : ¬ sentB A (sN A)) : sRun (f + 1) A = rnd A (sN A) := cif_f h
/-- how many messages the first k tenants have -/
def tM (A : Sta) : Nat → Nat
  | 0 => 0
  | k + 1 => tM A k + (sT A k).2.1.length
theorem sendT_T {A : Sta} {t : Nat} (h : canS A t) : sT (sendT A t) = u1 (sT A) t (sfF (sT A t).1 (m0 A t), (sT A t).2.1.tail, (sT A t).2.2) := by rw [sendT_y h]; rfl
theorem tM_send {A : Sta} {t : Nat} (h : canS A t) : ∀ k, (k ≤ t → tM (sendT A t) k = tM A k) ∧ (t < k → tM (sendT A t) k + 1 = tM A k)
  | 0 => ⟨fun _ => rfl, fun q => absurd q (Nat.not_lt_zero _)⟩
  | k + 1 => by
    obtain ⟨h1, h2⟩ := tM_send h k
    have hl : (sT (sendT A t) k).2.1.length = if k = t then (sT A t).2.1.length - 1 else (sT A k).2.1.length := by
      rw [sendT_T h]
      by_cases e : k = t
      · rw [if_pos e, e, u1_at]; exact List.length_tail
      · rw [if_neg e, u1_ne _ _ e]
    have hp := h.1
    constructor
    · intro hk
      show tM (sendT A t) k + _ = tM A k + _
      rw [hl, if_neg (by omega), h1 (by omega)]
    · intro hk
      show tM (sendT A t) k + _ + 1 = tM A k + _
      by_cases e : k = t
      · rw [hl, if_pos e, h1 (by omega), e]; omega
      · rw [hl, if_neg e]
        have := h2 (by omega)
        omega
theorem tM_rnd {A : Sta} (hn : 0 < sN A) : ∀ i, (sentB A i → tM (rnd A i) (sN A) + 1 ≤ tM A (sN A)) ∧ tM (rnd A i) (sN A) ≤ tM A (sN A)
  | 0 => ⟨fun q => absurd q id, Nat.le_refl _⟩
  | i + 1 => by
    obtain ⟨h1, h2⟩ := tM_rnd hn i
    show (sentB A (i + 1) → tM (sendT (rnd A i) ((sTi A + i) % sN A)) (sN A) + 1 ≤ _) ∧ tM (sendT (rnd A i) ((sTi A + i) % sN A)) (sN A) ≤ _
    by_cases hc : canS (rnd A i) ((sTi A + i) % sN A)
    · have := (tM_send hc (sN A)).2 (Nat.mod_lt _ hn)
      exact ⟨fun _ => by omega, by omega⟩
    · rw [sendT_n hc]
      exact ⟨fun q => h1 (q.elim (fun q => absurd q hc) id), h2⟩
theorem tM_le {A : Sta} : ∀ k, (∀ t, t < k → (sT A t).2.1.length ≤ 8) → tM A k ≤ 8 * k
  | 0, _ => Nat.le_refl _
  | k + 1, h => by
    have h1 := tM_le k (fun t ht => h t (by omega))
    have h2 := h k (by omega)
    show tM A k + _ ≤ _
    omega
theorem rnd_N (A : Sta) (k : Nat) : sN (rnd A k) = sN A := by show (rnd A k).1.1 = _; rw [rnd_1]
theorem rnd_Ti (A : Sta) (k : Nat) : sTi (rnd A k) = sTi A := by show (rnd A k).1.2.1 = _; rw [rnd_1]
set_option maxHeartbeats 4000000 in
set_option maxRecDepth 100000 in
theorem l1_X7_sendAll {a : Nat} {A : Sta} {h0 : PH} (hn0 : 0 < sN A) (hn6 : sN A ≤ 6) (hti : sTi A < 2 ^ 30) (k : ∀ h', RepR (gi h' a) (rnd A (sN A)) → RF a h0 h' → WPx E mX7_sendAll 7 [some (.ref a), some (.int (b01 (sentB A (sN A)))), some (.int (nI (sN A)))] [] (0, 0) h' Q) : ∀ (m : Nat) (i : Nat) (h : PH), sN A - i < m → (i ≤ sN A) → (kd h a = some (.inr (0, 1360))) → (RepR (gi h a) (rnd A i)) → (RF a h0 h) → WPx E mX7_sendAll 15 [some (.ref a), some (.int (b01 (sentB A i))), some (.int (nI i))] [] (0, 0) h Q := by
  intro m
  induction m with
  | zero => intro i h hm; exact absurd hm (Nat.not_lt_zero _)
  | succ m ih =>
    intro i h hm hi ka hR F
    have e0 : gi h a 0 = nI (sN A) := by rw [hR.f0, rnd_N]
    have e5 : gi h a 5 = nI (sTi A) := by rw [hR.f5, rnd_Ti]
    refine wp_iload_n (M := mX7_sendAll) (pc := 15) dX7_sendAll_15 rfl ?_
    refine wp_aload_n (M := mX7_sendAll) (pc := 16) dX7_sendAll_16 rfl ?_
    refine wp_iconst (M := mX7_sendAll) (pc := 17) (v := 0) dX7_sendAll_17 ci_0 ?_
    refine wr_iaload (M := mX7_sendAll) (pc := 18) dX7_sendAll_18 ka (show (0 : Int32) = nI 0 from rfl) (by omega) (by decide) ?_
    refine wp_icmp_ge (M := mX7_sendAll) (pc := 19) (tgt := 54) dX7_sendAll_19 rfl (fun t19 => ?_) (fun f19 => ?_)
    · rw [e0] at t19
      have hi2 := n_ge hi (by omega) t19
      subst hi2
      refine wp_goto (M := mX7_sendAll) (pc := 54) (tgt := 7) dX7_sendAll_54 rfl ?_
      exact k h hR F
    · rw [e0] at f19
      have hlt := n_lt hi (by omega) f19
      refine wp_aload_n (M := mX7_sendAll) (pc := 22) dX7_sendAll_22 rfl ?_
      refine wp_aload_n (M := mX7_sendAll) (pc := 23) dX7_sendAll_23 rfl ?_
      refine wp_iconst (M := mX7_sendAll) (pc := 24) (v := 5) dX7_sendAll_24 ci_5 ?_
      refine wr_iaload (M := mX7_sendAll) (pc := 25) dX7_sendAll_25 ka (show (5 : Int32) = nI 5 from rfl) (by omega) (by decide) ?_
      refine wp_iload_n (M := mX7_sendAll) (pc := 26) dX7_sendAll_26 rfl ?_
      refine wp_iadd (M := mX7_sendAll) (pc := 27) dX7_sendAll_27 ?_
      refine wp_aload_n (M := mX7_sendAll) (pc := 28) dX7_sendAll_28 rfl ?_
      refine wp_iconst (M := mX7_sendAll) (pc := 29) (v := 0) dX7_sendAll_29 ci_0 ?_
      refine wr_iaload (M := mX7_sendAll) (pc := 30) dX7_sendAll_30 ka (show (0 : Int32) = nI 0 from rfl) (by omega) (by decide) ?_
      refine wp_irem (M := mX7_sendAll) (pc := 31) dX7_sendAll_31 (by rw [e0]; exact nI_ne0 hn0 (by omega)) ?_
      refine so_S2 (M := mX7_sendAll) (pc := 32) cs_X7_sendAll_185 rfl rfl (LE rfl) (LE rfl) dX7_sendAll_32 ?_
      rw [e5, e0, show nI (sTi A) + nI i = nI (sTi A + i) from nI_add _ _, show nI (sTi A + i) - nI (sTi A + i) / nI (sN A) * nI (sN A) = nI ((sTi A + i) % sN A) from pk_rem (by omega) hn0 (by omega)]
      refine sp_X7_sends ka hR (by rw [rnd_N]; exact Nat.mod_lt _ hn0) (fun hc h1 R1 F1 => ?_) (fun hc => ?_)
      · refine kI ?_
        refine wp_if_ne (M := mX7_sendAll) (pc := 35) (tgt := 42) dX7_sendAll_35 rfl (fun t35 => ?_) (fun f35 => ?_)
        · refine wp_iconst (M := mX7_sendAll) (pc := 42) (v := 1) dX7_sendAll_42 ci_1 ?_
          refine wp_goto (M := mX7_sendAll) (pc := 43) (tgt := 47) dX7_sendAll_43 rfl ?_
          refine so_istore_n (M := mX7_sendAll) (pc := 47) (lo' := [_, _, _]) dX7_sendAll_47 (LE rfl) (LE rfl) (Or.inr rfl) rfl ?_
          refine so_iinc (M := mX7_sendAll) (pc := 48) (lo' := [_, _, _]) dX7_sendAll_48 rfl ci_1 (LE rfl) rfl ?_
          refine wp_goto (M := mX7_sendAll) (pc := 51) (tgt := 15) dX7_sendAll_51 rfl ?_
          rw [show nI i + 1 = nI (i + 1) from nI_1 i]
          have hz := ih (i + 1) h1 (by omega) (by omega) (by rw [F1.kd]; exact ka) R1 (F.tr F1)
          rw [b01_t (show sentB A (i + 1) from Or.inl hc)] at hz
          exact hz
        · exact absurd f35 (by decide)
      · refine kI ?_
        refine wp_if_ne (M := mX7_sendAll) (pc := 35) (tgt := 42) dX7_sendAll_35 rfl (fun t35 => ?_) (fun f35 => ?_)
        · exact absurd rfl t35
        · refine wp_iload_n (M := mX7_sendAll) (pc := 38) dX7_sendAll_38 rfl ?_
          refine wp_if_eq (M := mX7_sendAll) (pc := 39) (tgt := 46) dX7_sendAll_39 rfl (fun t39 => ?_) (fun f39 => ?_)
          · refine wp_iconst (M := mX7_sendAll) (pc := 46) (v := 0) dX7_sendAll_46 ci_0 ?_
            refine so_istore_n (M := mX7_sendAll) (pc := 47) (lo' := [_, _, _]) dX7_sendAll_47 (LE rfl) (LE rfl) (Or.inr rfl) rfl ?_
            refine so_iinc (M := mX7_sendAll) (pc := 48) (lo' := [_, _, _]) dX7_sendAll_48 rfl ci_1 (LE rfl) rfl ?_
            refine wp_goto (M := mX7_sendAll) (pc := 51) (tgt := 15) dX7_sendAll_51 rfl ?_
            first
            | (rw [show nI i + 1 = nI (i + 1) from nI_1 i]
               have hz := ih (i + 1) h (by omega) (by omega) ka (show RepR (gi h a) (sendT (rnd A i) ((sTi A + i) % sN A)) by rw [sendT_n hc]; exact hR) F
               rw [b01_f (show ¬ sentB A (i + 1) from fun q => q.elim hc (b01_z t39))] at hz
               exact hz)
            | (rw [show nI i + 1 = nI (i + 1) from nI_1 i]
               have hz := ih (i + 1) h (by omega) (by omega) ka (show RepR (gi h a) (sendT (rnd A i) ((sTi A + i) % sN A)) by rw [sendT_n hc]; exact hR) F
               rw [b01_t (show sentB A (i + 1) from Or.inr (b01_n f39))] at hz
               exact hz)
            | fail "leaf"
          · refine wp_iconst (M := mX7_sendAll) (pc := 42) (v := 1) dX7_sendAll_42 ci_1 ?_
            refine wp_goto (M := mX7_sendAll) (pc := 43) (tgt := 47) dX7_sendAll_43 rfl ?_
            refine so_istore_n (M := mX7_sendAll) (pc := 47) (lo' := [_, _, _]) dX7_sendAll_47 (LE rfl) (LE rfl) (Or.inr rfl) rfl ?_
            refine so_iinc (M := mX7_sendAll) (pc := 48) (lo' := [_, _, _]) dX7_sendAll_48 rfl ci_1 (LE rfl) rfl ?_
            refine wp_goto (M := mX7_sendAll) (pc := 51) (tgt := 15) dX7_sendAll_51 rfl ?_
            first
            | (rw [show nI i + 1 = nI (i + 1) from nI_1 i]
               have hz := ih (i + 1) h (by omega) (by omega) ka (show RepR (gi h a) (sendT (rnd A i) ((sTi A + i) % sN A)) by rw [sendT_n hc]; exact hR) F
               rw [b01_f (show ¬ sentB A (i + 1) from fun q => q.elim hc (b01_z t39))] at hz
               exact hz)
            | (rw [show nI i + 1 = nI (i + 1) from nI_1 i]
               have hz := ih (i + 1) h (by omega) (by omega) ka (show RepR (gi h a) (sendT (rnd A i) ((sTi A + i) % sN A)) by rw [sendT_n hc]; exact hR) F
               rw [b01_t (show sentB A (i + 1) from Or.inr (b01_n f39))] at hz
               exact hz)
            | fail "leaf"
set_option maxHeartbeats 4000000 in
set_option maxRecDepth 100000 in
theorem l2_X7_sendAll {a n T : Nat} {h0 : PH} {res : Sta} (hn0 : 0 < n) (hti : T < 2 ^ 30) (k : ∀ h', RepR (gi h' a) res → RF a h0 h' → Q (.inl none) h') : ∀ (m : Nat) (fu : Nat) (h : PH) (A : Sta) (P : Prop) (x2 : Option Value), fu < m → (kd h a = some (.inr (0, 1360))) → (RepR (gi h a) A) → (RF a h0 h) → (sN A = n) → (sTi A = T) → (P → 0 < fu ∧ tM A n < fu ∧ sRun fu A = res) → (¬ P → A = res) → WPx E mX7_sendAll 7 [some (.ref a), some (.int (b01 P)), x2] [] (0, 0) h Q := by
  intro m
  induction m with
  | zero => intro fu h A P x2 hm; exact absurd hm (Nat.not_lt_zero _)
  | succ m ih =>
    intro fu h A P x2 hm ka hR F eN eT hP1 hP0
    refine wp_iload_n (M := mX7_sendAll) (pc := 7) dX7_sendAll_7 rfl ?_
    refine wp_if_eq (M := mX7_sendAll) (pc := 8) (tgt := 57) dX7_sendAll_8 rfl (fun t8 => ?_) (fun f8 => ?_)
    · have hno := b01_z t8
      refine wp_return (M := mX7_sendAll) (pc := 57) rfl dX7_sendAll_57 ?_
      rw [hP0 hno] at hR
      exact k h hR F
    · obtain ⟨hf0, hfu, hres⟩ := hP1 (b01_n f8)
      refine wp_iconst (M := mX7_sendAll) (pc := 11) (v := 0) dX7_sendAll_11 ci_0 ?_
      refine so_istore_n (M := mX7_sendAll) (pc := 12) (lo' := [_, _, _]) dX7_sendAll_12 (LE rfl) (LE rfl) (Or.inr rfl) rfl ?_
      refine wp_iconst (M := mX7_sendAll) (pc := 13) (v := 0) dX7_sendAll_13 ci_0 ?_
      refine so_istore_n (M := mX7_sendAll) (pc := 14) (lo' := [_, _, _]) dX7_sendAll_14 (LE rfl) (LE rfl) (Or.inr rfl) rfl ?_
      have n6 := hR.n6
      have key : WPx E mX7_sendAll 15 [some (.ref a), some (.int (b01 (sentB A 0))), some (.int (nI 0))] [] (0, 0) h Q := ?_
      · rw [b01_f (show ¬ sentB A 0 from fun q => q)] at key
        exact key
      refine l1_X7_sendAll (A := A) (h0 := h) (by omega) n6 (by omega) (fun h1 R1 F1 => ?_) (sN A + 1) 0 h (by omega) (by omega) ka hR RF.rf
      obtain ⟨fu1, rfl⟩ : ∃ fu1, fu = fu1 + 1 := ⟨fu - 1, by omega⟩
      have ht := tM_rnd (A := A) (by omega) (sN A)
      rw [eN] at ht
      refine ih fu1 h1 (rnd A (sN A)) (sentB A (sN A)) _ (by omega) (by rw [F1.kd]; exact ka) R1 (F.tr F1) (by rw [rnd_N]; exact eN) (by rw [rnd_Ti]; exact eT) (fun hs => ?_) (fun hs => ?_)
      · rw [sRun_y hs] at hres
        rw [eN] at hs
        have := ht.1 hs
        rw [eN] at hres ⊢
        exact ⟨by omega, by omega, hres⟩
      · rw [sRun_n hs] at hres
        exact hres
set_option maxHeartbeats 4000000 in
set_option maxRecDepth 100000 in
theorem sp_X7_sendAll {a : Nat} {A : Sta} (ka : kd h a = some (.inr (0, 1360))) (hR : RepR (gi h a) A) (hn0 : 0 < sN A) (hti : sTi A < 2 ^ 30) (k : ∀ h', RepR (gi h' a) (sRun 49 (wG A 9 0)) → RF a h h' → Q (.inl none) h') : WPx E mX7_sendAll 0 [some (.ref a), none, none] [] (0, 0) h Q := by
  have n6 := hR.n6
  have n12 := hR.n12
  refine wp_aload_n (M := mX7_sendAll) (pc := 0) dX7_sendAll_0 rfl ?_
  refine wp_bipush (M := mX7_sendAll) (pc := 1) (v := 9) dX7_sendAll_1 cb_9 ?_
  refine wp_iconst (M := mX7_sendAll) (pc := 3) (v := 0) dX7_sendAll_3 ci_0 ?_
  refine wr_iastore (M := mX7_sendAll) (pc := 4) dX7_sendAll_4 ka (show (9 : Int32) = nI 9 from rfl) (by omega) (by decide) ?_
  refine wp_iconst (M := mX7_sendAll) (pc := 5) (v := 1) dX7_sendAll_5 ci_1 ?_
  refine so_istore_n (M := mX7_sendAll) (pc := 6) (lo' := [_, _, _]) dX7_sendAll_6 (LE rfl) (LE rfl) (Or.inr rfl) rfl ?_
  have R1 := hR.sG (k := 9) (by decide) 0
  have h8 : ∀ t, t < sN A → (sT (wG A 9 0) t).2.1.length ≤ 8 := fun t ht => (hR.tM ht).2
  have ht := tM_le (A := wG A 9 0) (sN A) h8
  have hz := l2_X7_sendAll (E := E) (Q := Q) (a := a) (n := sN A) (T := sTi A) (h0 := h) (res := sRun 49 (wG A 9 0)) hn0 hti k 50 49 (si h a 9 0) (wG A 9 0) True none (by omega) ka (by rw [gi_si_at]; exact R1) RF.si rfl rfl (fun _ => ⟨by omega, by omega, rfl⟩) (fun q => absurd trivial q)
  rw [b01_t trivial] at hz
  exact hz
/-- the oldest debt leaves -/
def popD (A : Sta) (t : Nat) : Sta := wT A t ((sT A t).1, (sT A t).2.1, (sT A t).2.2.tail)
def col1R (A : Sta) (t : Nat) (d : Int32) : Sta × Int32 := if 0 < d - tkT (sT A t).1 d then (takeA (wdR t (sO A).length 0 (takeA A t d)) t (d - tkT (sT A t).1 d), d - tkT (sT A t).1 d - tkT (sT (wdR t (sO A).length 0 (takeA A t d)) t).1 (d - tkT (sT A t).1 d)) else (takeA A t d, d - tkT (sT A t).1 d)
def clR (A : Sta) (t : Nat) : Sta := popD (col2 (col1R A t ((sT A t).2.2.getD 0 (0, 0)).1).1 t (col1R A t ((sT A t).2.2.getD 0 (0, 0)).1).2) t
theorem wdR_1 (t : Nat) : ∀ (f i : Nat) (A : Sta), (wdR t f i A).1 = A.1
  | 0, _, _ => rfl
  | f + 1, i, A => by
    by_cases h : i < (sO A).length
    · by_cases h2 : (oA A i).1 = t
      · rw [wdR_y h h2, wdR_1 t f i]
        unfold wd1 eraO giveT
        split
        · rfl
        · split <;> rfl
      · rw [wdR_n h h2, wdR_1 t f (i + 1)]
    · rw [wdR_stop h]
theorem rep_pop {f G : Nat → Int32} {A : Sta} (H : RepR f A) {t : Nat} (ht : t < sN A) (h0 : 0 < (sT A t).2.2.length) (g1 : ∀ j, (j < 58 + 217 * t + 16 ∨ 58 + 217 * t + 217 ≤ j) → G j = f j) (g4 : G (58 + 217 * t + 16) = nI ((sT A t).2.2.length - 1)) (g5 : ∀ j, j < 2 * ((sT A t).2.2.length - 1) → G (58 + 217 * t + 17 + j) = f (58 + 217 * t + 17 + j + 2)) : RepR G (popD A t) := by
  obtain ⟨h1, ⟨h2, h3⟩, h4, ⟨h5, h6⟩, h7⟩ := H.2.1 t ht
  refine H.ten ht (fun j hj => g1 j (by omega)) ⟨fun k hk => ?_, ⟨?_, h3⟩, fun j hj => ?_, ⟨?_, ?_⟩, fun j hj => ?_⟩
  · rw [g1 _ (by omega)]; exact h1 k hk
  · rw [g1 _ (by omega)]; exact h2
  · have hj9 : j < (sT A t).2.1.length := hj
    rw [g1 _ (by omega)]; exact h4 j hj
  · rw [g4]; show _ = nI (sT A t).2.2.tail.length; rw [List.length_tail]
  · show (sT A t).2.2.tail.length ≤ 100; rw [List.length_tail]; omega
  · have hj9 : j < (sT A t).2.2.tail.length := hj
    rw [List.length_tail] at hj9
    show _ = ((sT A t).2.2.tail.getD j (0, 0)).1 ∧ _ = nI ((sT A t).2.2.tail.getD j (0, 0)).2
    have e : (sT A t).2.2.tail.getD j (0, 0) = (sT A t).2.2.getD (j + 1) (0, 0) := by rw [List.getD_eq_getElem?_getD, List.getD_eq_getElem?_getD, List.getElem?_tail]
    rw [e]
    have h8 := h7 (j + 1) (by omega)
    constructor
    · rw [g5 (2 * j) (by omega), ← h8.1]; congr 1
    · rw [show 58 + 217 * t + 17 + 2 * j + 1 = 58 + 217 * t + 17 + (2 * j + 1) by omega, g5 (2 * j + 1) (by omega), ← h8.2]; congr 1
set_option maxHeartbeats 4000000 in
set_option maxRecDepth 100000 in
theorem l3_X7_collect {a t n : Nat} {g : Nat → Int32} {z1 z3 : Option Value} (ka : kd h a = some (.inr (0, 1360))) (ht6 : t < 6) (hn : n ≤ 99) (h16 : g (58 + 217 * t + 16) = nI n) (k : Q (.inl none) (sw h a (shD 2 g (58 + 217 * t + 17) (58 + 217 * t + 17 + 2 * n)))) : ∀ (m : Nat) (i : Nat), 2 * n - i < m → (i ≤ 2 * n) → WPx E mX7_collect 107 [some (.ref a), z1, some (.int (nI (58 + 217 * t))), z3, some (.int (nI i))] [] (0, 0) (sw h a (shD 2 g (58 + 217 * t + 17) (58 + 217 * t + 17 + i))) Q := by
  intro m
  induction m with
  | zero => intro i hm; exact absurd hm (Nat.not_lt_zero _)
  | succ m ih =>
    intro i hm hi
    have e7 : gi (sw h a (shD 2 g (58 + 217 * t + 17) (58 + 217 * t + 17 + i))) a (58 + 217 * t + 16) = nI n := by rw [gi_sw_at, shD_lt (by omega)]; exact h16
    refine wp_iload (M := mX7_collect) (pc := 107) dX7_collect_107 rfl ?_
    refine wp_iconst (M := mX7_collect) (pc := 109) (v := 2) dX7_collect_109 ci_2 ?_
    refine wp_aload_n (M := mX7_collect) (pc := 110) dX7_collect_110 rfl ?_
    refine wp_iload_n (M := mX7_collect) (pc := 111) dX7_collect_111 rfl ?_
    refine wp_bipush (M := mX7_collect) (pc := 112) (v := 16) dX7_collect_112 cb_16 ?_
    refine wp_iadd (M := mX7_collect) (pc := 114) dX7_collect_114 ?_
    refine wr_iaload (M := mX7_collect) (pc := 115) dX7_collect_115 ka (ia rfl (show (16 : Int32) = nI 16 from rfl)) (by omega) (by decide) ?_
    refine wp_imul (M := mX7_collect) (pc := 116) dX7_collect_116 ?_
    refine wp_icmp_ge (M := mX7_collect) (pc := 117) (tgt := 146) dX7_collect_117 rfl (fun t117 => ?_) (fun f117 => ?_)
    · rw [e7, show (2 : Int32) * nI n = nI (2 * n) from im (show (2 : Int32) = nI 2 from rfl) rfl] at t117
      have hi2 := n_ge hi (by omega) t117
      subst hi2
      refine wp_return (M := mX7_collect) (pc := 146) rfl dX7_collect_146 ?_
      exact k
    · rw [e7, show (2 : Int32) * nI n = nI (2 * n) from im (show (2 : Int32) = nI 2 from rfl) rfl] at f117
      have hlt := n_lt hi (by omega) f117
      refine wp_aload_n (M := mX7_collect) (pc := 120) dX7_collect_120 rfl ?_
      refine wp_iload_n (M := mX7_collect) (pc := 121) dX7_collect_121 rfl ?_
      refine wp_bipush (M := mX7_collect) (pc := 122) (v := 17) dX7_collect_122 cb_17 ?_
      refine wp_iadd (M := mX7_collect) (pc := 124) dX7_collect_124 ?_
      refine wp_iload (M := mX7_collect) (pc := 125) dX7_collect_125 rfl ?_
      refine wp_iadd (M := mX7_collect) (pc := 127) dX7_collect_127 ?_
      refine wp_aload_n (M := mX7_collect) (pc := 128) dX7_collect_128 rfl ?_
      refine wp_iload_n (M := mX7_collect) (pc := 129) dX7_collect_129 rfl ?_
      refine wp_bipush (M := mX7_collect) (pc := 130) (v := 17) dX7_collect_130 cb_17 ?_
      refine wp_iadd (M := mX7_collect) (pc := 132) dX7_collect_132 ?_
      refine wp_iload (M := mX7_collect) (pc := 133) dX7_collect_133 rfl ?_
      refine wp_iadd (M := mX7_collect) (pc := 135) dX7_collect_135 ?_
      refine wp_iconst (M := mX7_collect) (pc := 136) (v := 2) dX7_collect_136 ci_2 ?_
      refine wp_iadd (M := mX7_collect) (pc := 137) dX7_collect_137 ?_
      refine wr_iaload (M := mX7_collect) (pc := 138) dX7_collect_138 ka (ia (ia (ia rfl (show (17 : Int32) = nI 17 from rfl)) rfl) (show (2 : Int32) = nI 2 from rfl)) (by omega) (by decide) ?_
      refine wr_iastore (M := mX7_collect) (pc := 139) dX7_collect_139 ka (ia (ia rfl (show (17 : Int32) = nI 17 from rfl)) rfl) (by omega) (by decide) ?_
      refine so_iinc (M := mX7_collect) (pc := 140) (lo' := [_, _, _, _, _]) dX7_collect_140 rfl ci_1 (LE rfl) rfl ?_
      refine wp_goto (M := mX7_collect) (pc := 143) (tgt := 107) dX7_collect_143 rfl ?_
      rw [gi_sw_at, shD_ge (by omega), si_sw, shD_up (by omega), show nI i + 1 = nI (i + 1) from nI_1 i]
      exact ih (i + 1) (by omega) (by omega)
set_option maxHeartbeats 4000000 in
set_option maxRecDepth 100000 in
theorem cb_X7_collect {a : Nat} {A : Sta} {t : Nat} {z1 z4 : Option Value} {m3 : Int32} (ka : kd h a = some (.inr (0, 1360))) (hR : RepR (gi h a) A) (ht : t < sN A) (hd : 0 < (sT A t).2.2.length) (k : ∀ h', RepR (gi h' a) (popD A t) → RF a h h' → Q (.inl none) h') : WPx E mX7_collect 94 [some (.ref a), z1, some (.int (nI (58 + 217 * t))), some (.int m3), z4] [] (0, 0) h Q := by
  have n6 := hR.n6
  have n12 := hR.n12
  have d100 := (hR.tD ht).2
  refine wp_aload_n (M := mX7_collect) (pc := 94) dX7_collect_94 rfl ?_
  refine wp_iload_n (M := mX7_collect) (pc := 95) dX7_collect_95 rfl ?_
  refine wp_bipush (M := mX7_collect) (pc := 96) (v := 16) dX7_collect_96 cb_16 ?_
  refine wp_iadd (M := mX7_collect) (pc := 98) dX7_collect_98 ?_
  refine wp_dup2 (M := mX7_collect) (pc := 99) dX7_collect_99 rfl rfl ?_
  refine wr_iaload (M := mX7_collect) (pc := 100) dX7_collect_100 ka (ia rfl (show (16 : Int32) = nI 16 from rfl)) (by omega) (by decide) ?_
  refine wp_iconst (M := mX7_collect) (pc := 101) (v := 1) dX7_collect_101 ci_1 ?_
  refine wp_isub (M := mX7_collect) (pc := 102) dX7_collect_102 ?_
  refine wr_iastore (M := mX7_collect) (pc := 103) dX7_collect_103 ka (ia rfl (show (16 : Int32) = nI 16 from rfl)) (by omega) (by decide) ?_
  refine wp_iconst (M := mX7_collect) (pc := 104) (v := 0) dX7_collect_104 ci_0 ?_
  refine so_istore (M := mX7_collect) (pc := 105) (lo' := [_, _, _, _, _]) dX7_collect_105 (LE rfl) (LE rfl) (Or.inr rfl) rfl ?_
  rw [(hR.tD ht).1, show nI (sT A t).2.2.length - 1 = nI ((sT A t).2.2.length - 1) from pk_sub (b := 1) (by omega)]
  refine wp_h (M := mX7_collect) (pc := 107) (h' := sw h a (shD 2 (upd (gi h a) (58 + 217 * t + 16) (nI ((sT A t).2.2.length - 1))) (58 + 217 * t + 17) (58 + 217 * t + 17 + 0))) (by rw [Nat.add_zero, shD_0, si_is]) (l3_X7_collect (t := t) (n := (sT A t).2.2.length - 1) (g := upd (gi h a) (58 + 217 * t + 16) (nI ((sT A t).2.2.length - 1))) ka (by omega) (by omega) (upd_at _ _ _) (k _ ?_ RF.sw) (2 * ((sT A t).2.2.length - 1) + 1) 0 (by omega) (by omega))
  rw [gi_sw_at]
  refine rep_pop hR ht hd (fun j hj => ?_) ?_ (fun j hj => ?_)
  · rcases hj with hj | hj
    · rw [shD_lt (by omega), upd_ne _ _ (by omega)]
    · rw [shD_ge (by omega), upd_ne _ _ (by omega)]
  · rw [shD_lt (by omega), upd_at]
  · rw [shD_in (by omega) (by omega), upd_ne _ _ (by omega)]
set_option maxHeartbeats 4000000 in
set_option maxRecDepth 100000 in
theorem l2_X7_collect {a t n T U : Nat} {h0 : PH} {z1 : Option Value} (ht : t < n) : ∀ (m : Nat) (c : Nat) (h : PH) (A : Sta) (z4 : Option Value), c < m → (kd h a = some (.inr (0, 1360))) → (RepR (gi h a) A) → (c < 2 ^ 31) → (RF a h0 h) → (A.1 = (n, T, U)) → (0 < (sT A t).2.2.length) → (∀ h', RepR (gi h' a) (popD (if (payA t c A).2 = 0 then (payA t c A).1 else wF (payA t c A).1 t 6 (nI T + 2 * nI U)) t) → RF a h0 h' → Q (.inl none) h') → WPx E mX7_collect 33 [some (.ref a), z1, some (.int (nI (58 + 217 * t))), some (.int (nI c)), z4] [] (0, 0) h Q := by
  intro m
  induction m with
  | zero => intro c h A z4 hm; exact absurd hm (Nat.not_lt_zero _)
  | succ m ih =>
    intro c h A z4 hm ka hR hc F e1 hd k
    have n6 := hR.n6
    have htA : t < sN A := by show t < A.1.1; rw [e1]; exact ht
    have e4 : gi h a (58 + 217 * t + 4) = fT A t 4 := hR.tF htA (by decide)
    have eU : gi h a 3 = nI U := by rw [hR.f3]; show nI A.1.2.2 = _; rw [e1]
    have eT : gi h a 5 = nI T := by rw [hR.f5]; show nI A.1.2.1 = _; rw [e1]
    refine wp_iload_n (M := mX7_collect) (pc := 33) dX7_collect_33 rfl ?_
    refine wp_if_le (M := mX7_collect) (pc := 34) (tgt := 75) dX7_collect_34 rfl (fun t34 => ?_) (fun f34 => ?_)
    · have c0 : c = 0 := Nat.le_zero.mp ((i_le (b := 0) hc (by decide)).mp t34)
      subst c0
      first
      | (refine wp_iload_n (M := mX7_collect) (pc := 75) dX7_collect_75 rfl ?_
         refine wp_if_le (M := mX7_collect) (pc := 76) (tgt := 94) dX7_collect_76 rfl (fun _ => ?_) (fun e => absurd (Int32.le_refl _) e)
         exact cb_X7_collect ka hR htA hd (fun h1 R1 F1 => k h1 R1 (F.tr F1)))
      | (rw [hp, if_neg (show ¬ (c1 + 1 = 0) by omega)] at k
         refine wp_iload_n (M := mX7_collect) (pc := 75) dX7_collect_75 rfl ?_
         refine wp_if_le (M := mX7_collect) (pc := 76) (tgt := 94) dX7_collect_76 rfl (fun e => absurd ((i_le (b := 0) hc (by decide)).mp e) (by omega)) (fun _ => ?_)
         refine wp_aload_n (M := mX7_collect) (pc := 79) dX7_collect_79 rfl ?_
         refine wp_iload_n (M := mX7_collect) (pc := 80) dX7_collect_80 rfl ?_
         refine wp_bipush (M := mX7_collect) (pc := 81) (v := 6) dX7_collect_81 cb_6 ?_
         refine wp_iadd (M := mX7_collect) (pc := 83) dX7_collect_83 ?_
         refine wp_aload_n (M := mX7_collect) (pc := 84) dX7_collect_84 rfl ?_
         refine wp_iconst (M := mX7_collect) (pc := 85) (v := 5) dX7_collect_85 ci_5 ?_
         refine wr_iaload (M := mX7_collect) (pc := 86) dX7_collect_86 ka (show (5 : Int32) = nI 5 from rfl) (by omega) (by decide) ?_
         refine wp_iconst (M := mX7_collect) (pc := 87) (v := 2) dX7_collect_87 ci_2 ?_
         refine wp_aload_n (M := mX7_collect) (pc := 88) dX7_collect_88 rfl ?_
         refine wp_iconst (M := mX7_collect) (pc := 89) (v := 3) dX7_collect_89 ci_3 ?_
         refine wr_iaload (M := mX7_collect) (pc := 90) dX7_collect_90 ka (show (3 : Int32) = nI 3 from rfl) (by omega) (by decide) ?_
         refine wp_imul (M := mX7_collect) (pc := 91) dX7_collect_91 ?_
         refine wp_iadd (M := mX7_collect) (pc := 92) dX7_collect_92 ?_
         refine wr_iastore (M := mX7_collect) (pc := 93) dX7_collect_93 ka (ia rfl (show (6 : Int32) = nI 6 from rfl)) (by omega) (by decide) ?_
         rw [eT, eU]
         have R1 := hR.sF htA (k := 6) (by decide) (nI T + 2 * nI U)
         exact cb_X7_collect (A := wF A t 6 (nI T + 2 * nI U)) ka (by rw [gi_si_at]; exact R1) htA (by show 0 < (u1 (sT A) t _ t).2.2.length; rw [u1_at]; exact hd) (fun h1 R1 F1 => k h1 R1 (F.tr (RF.si.tr F1))))
      | fail "leaf"
    · have cp : 0 < c := Nat.pos_of_ne_zero (fun e => f34 (by rw [e]; exact Int32.le_refl _))
      obtain ⟨c1, rfl⟩ : ∃ c1, c = c1 + 1 := ⟨c - 1, by omega⟩
      refine wp_aload_n (M := mX7_collect) (pc := 37) dX7_collect_37 rfl ?_
      refine wp_iload_n (M := mX7_collect) (pc := 38) dX7_collect_38 rfl ?_
      refine wp_iconst (M := mX7_collect) (pc := 39) (v := 4) dX7_collect_39 ci_4 ?_
      refine wp_iadd (M := mX7_collect) (pc := 40) dX7_collect_40 ?_
      refine wr_iaload (M := mX7_collect) (pc := 41) dX7_collect_41 ka (ia rfl (show (4 : Int32) = nI 4 from rfl)) (by omega) (by decide) ?_
      refine wp_aload_n (M := mX7_collect) (pc := 42) dX7_collect_42 rfl ?_
      refine wp_iconst (M := mX7_collect) (pc := 43) (v := 4) dX7_collect_43 ci_4 ?_
      refine wr_iaload (M := mX7_collect) (pc := 44) dX7_collect_44 ka (show (4 : Int32) = nI 4 from rfl) (by omega) (by decide) ?_
      refine wp_icmp_lt (M := mX7_collect) (pc := 45) (tgt := 75) dX7_collect_45 rfl (fun t45 => ?_) (fun f45 => ?_)
      · rw [e4, hR.f4] at t45
        have hp := payA_n (t := t) (c := c1) (A := A) (Int32.not_le.mpr t45)
        first
        | (refine wp_iload_n (M := mX7_collect) (pc := 75) dX7_collect_75 rfl ?_
           refine wp_if_le (M := mX7_collect) (pc := 76) (tgt := 94) dX7_collect_76 rfl (fun _ => ?_) (fun e => absurd (Int32.le_refl _) e)
           exact cb_X7_collect ka hR htA hd (fun h1 R1 F1 => k h1 R1 (F.tr F1)))
        | (rw [hp, if_neg (show ¬ (c1 + 1 = 0) by omega)] at k
           refine wp_iload_n (M := mX7_collect) (pc := 75) dX7_collect_75 rfl ?_
           refine wp_if_le (M := mX7_collect) (pc := 76) (tgt := 94) dX7_collect_76 rfl (fun e => absurd ((i_le (b := 0) hc (by decide)).mp e) (by omega)) (fun _ => ?_)
           refine wp_aload_n (M := mX7_collect) (pc := 79) dX7_collect_79 rfl ?_
           refine wp_iload_n (M := mX7_collect) (pc := 80) dX7_collect_80 rfl ?_
           refine wp_bipush (M := mX7_collect) (pc := 81) (v := 6) dX7_collect_81 cb_6 ?_
           refine wp_iadd (M := mX7_collect) (pc := 83) dX7_collect_83 ?_
           refine wp_aload_n (M := mX7_collect) (pc := 84) dX7_collect_84 rfl ?_
           refine wp_iconst (M := mX7_collect) (pc := 85) (v := 5) dX7_collect_85 ci_5 ?_
           refine wr_iaload (M := mX7_collect) (pc := 86) dX7_collect_86 ka (show (5 : Int32) = nI 5 from rfl) (by omega) (by decide) ?_
           refine wp_iconst (M := mX7_collect) (pc := 87) (v := 2) dX7_collect_87 ci_2 ?_
           refine wp_aload_n (M := mX7_collect) (pc := 88) dX7_collect_88 rfl ?_
           refine wp_iconst (M := mX7_collect) (pc := 89) (v := 3) dX7_collect_89 ci_3 ?_
           refine wr_iaload (M := mX7_collect) (pc := 90) dX7_collect_90 ka (show (3 : Int32) = nI 3 from rfl) (by omega) (by decide) ?_
           refine wp_imul (M := mX7_collect) (pc := 91) dX7_collect_91 ?_
           refine wp_iadd (M := mX7_collect) (pc := 92) dX7_collect_92 ?_
           refine wr_iastore (M := mX7_collect) (pc := 93) dX7_collect_93 ka (ia rfl (show (6 : Int32) = nI 6 from rfl)) (by omega) (by decide) ?_
           rw [eT, eU]
           have R1 := hR.sF htA (k := 6) (by decide) (nI T + 2 * nI U)
           exact cb_X7_collect (A := wF A t 6 (nI T + 2 * nI U)) ka (by rw [gi_si_at]; exact R1) htA (by show 0 < (u1 (sT A) t _ t).2.2.length; rw [u1_at]; exact hd) (fun h1 R1 F1 => k h1 R1 (F.tr (RF.si.tr F1))))
        | fail "leaf"
      · rw [e4, hR.f4] at f45
        have hp := payA_y (t := t) (c := c1) (A := A) (Int32.not_lt.mp f45)
        rw [hp] at k
        refine wp_aload_n (M := mX7_collect) (pc := 48) dX7_collect_48 rfl ?_
        refine wp_iload_n (M := mX7_collect) (pc := 49) dX7_collect_49 rfl ?_
        refine wp_iconst (M := mX7_collect) (pc := 50) (v := 4) dX7_collect_50 ci_4 ?_
        refine wp_iadd (M := mX7_collect) (pc := 51) dX7_collect_51 ?_
        refine wp_dup2 (M := mX7_collect) (pc := 52) dX7_collect_52 rfl rfl ?_
        refine wr_iaload (M := mX7_collect) (pc := 53) dX7_collect_53 ka (ia rfl (show (4 : Int32) = nI 4 from rfl)) (by omega) (by decide) ?_
        refine wp_aload_n (M := mX7_collect) (pc := 54) dX7_collect_54 rfl ?_
        refine wp_iconst (M := mX7_collect) (pc := 55) (v := 4) dX7_collect_55 ci_4 ?_
        refine wr_iaload (M := mX7_collect) (pc := 56) dX7_collect_56 ka (show (4 : Int32) = nI 4 from rfl) (by omega) (by decide) ?_
        refine wp_isub (M := mX7_collect) (pc := 57) dX7_collect_57 ?_
        refine wr_iastore (M := mX7_collect) (pc := 58) dX7_collect_58 ka (ia rfl (show (4 : Int32) = nI 4 from rfl)) (by omega) (by decide) ?_
        refine wp_aload_n (M := mX7_collect) (pc := 59) dX7_collect_59 rfl ?_
        refine wp_bipush (M := mX7_collect) (pc := 60) (v := 6) dX7_collect_60 cb_6 ?_
        refine wp_dup2 (M := mX7_collect) (pc := 62) dX7_collect_62 rfl rfl ?_
        refine wr_iaload (M := mX7_collect) (pc := 63) dX7_collect_63 ka (show (6 : Int32) = nI 6 from rfl) (by omega) (by decide) ?_
        refine wp_aload_n (M := mX7_collect) (pc := 64) dX7_collect_64 rfl ?_
        refine wp_iconst (M := mX7_collect) (pc := 65) (v := 4) dX7_collect_65 ci_4 ?_
        refine wr_iaload (M := mX7_collect) (pc := 66) dX7_collect_66 ka (show (4 : Int32) = nI 4 from rfl) (by omega) (by decide) ?_
        refine wp_iadd (M := mX7_collect) (pc := 67) dX7_collect_67 ?_
        refine wr_iastore (M := mX7_collect) (pc := 68) dX7_collect_68 ka (show (6 : Int32) = nI 6 from rfl) (by omega) (by decide) ?_
        refine so_iinc (M := mX7_collect) (pc := 69) (lo' := [_, _, _, _, _]) dX7_collect_69 rfl ci_m1 (LE rfl) rfl ?_
        refine wp_goto (M := mX7_collect) (pc := 72) (tgt := 33) dX7_collect_72 rfl ?_
        rw [show nI (c1 + 1) + -1 = nI c1 from pk_m1 c1]
        have R1 := (hR.sF htA (k := 4) (by decide) (fT A t 4 - sG A 4)).sG (k := 6) (by decide) (sG A 6 + sG A 4)
        refine ih c1 _ (wG (wF A t 4 (fT A t 4 - sG A 4)) 6 (sG A 6 + sG A 4)) _ (by omega) ka ?_ (by omega) (F.tr (RF.si.tr RF.si)) e1 (by show 0 < (u1 (sT A) t _ t).2.2.length; rw [u1_at]; exact hd) k
        rw [gi_si_at, gi_si_at, upd_ne _ _ (show 6 ≠ 58 + 217 * t + 4 by omega), upd_ne _ _ (show 4 ≠ 58 + 217 * t + 4 by omega), hR.f4, hR.f6, e4]
        exact R1
theorem ca_X7_collect {a : Nat} {A : Sta} {t : Nat} {m9 : Int32} {z1 z4 : Option Value} (ka : kd h a = some (.inr (0, 1360))) (hR : RepR (gi h a) A) (ht : t < sN A) (hd : 0 < (sT A t).2.2.length) (k : ∀ h', RepR (gi h' a) (popD (col2 A t m9) t) → RF a h h' → Q (.inl none) h') : WPx E mX7_collect 33 [some (.ref a), z1, some (.int (nI (58 + 217 * t))), some (.int m9), z4] [] (0, 0) h Q := by
  by_cases hm : m9 ≤ 0
  · have e0 : col2 A t m9 = A := by rw [col2, mis_0 hm]; rfl
    rw [e0] at k
    refine wp_iload_n (M := mX7_collect) (pc := 33) dX7_collect_33 rfl ?_
    refine wp_if_le (M := mX7_collect) (pc := 34) (tgt := 75) dX7_collect_34 rfl (fun _ => ?_) (fun e => absurd hm e)
    refine wp_iload_n (M := mX7_collect) (pc := 75) dX7_collect_75 rfl ?_
    refine wp_if_le (M := mX7_collect) (pc := 76) (tgt := 94) dX7_collect_76 rfl (fun _ => ?_) (fun e => absurd hm e)
    exact cb_X7_collect ka hR ht hd k
  · obtain ⟨e1, e2⟩ := mis_nI (mis_pos hm)
    have hz := l2_X7_collect (E := E) (Q := Q) (z1 := z1) (t := t) (n := sN A) (T := sTi A) (U := sTm A) (h0 := h) ht (mis m9 + 1) (mis m9) h A z4 (by omega) ka hR e2 RF.rf rfl hd k
    rw [← e1] at hz
    exact hz
theorem wdR_D (t : Nat) (u : Nat) : ∀ (f i : Nat) (A : Sta), (sT (wdR t f i A) u).2 = (sT A u).2
  | 0, _, _ => rfl
  | f + 1, i, A => by
    by_cases h : i < (sO A).length
    · by_cases h2 : (oA A i).1 = t
      · rw [wdR_y h h2, wdR_D t u f i]
        show (sT (giveT A i) u).2 = _
        unfold giveT
        have hh : ∀ w k v, (sT (wF A w k v) u).2 = (sT A u).2 := fun w k v => by
          show (u1 (sT A) w _ u).2 = _
          by_cases e : u = w
          · rw [e, u1_at]
          · rw [u1_ne _ _ e]
        split
        · exact hh _ _ _
        · split
          · exact hh _ _ _
          · rfl
      · rw [wdR_n h h2, wdR_D t u f (i + 1)]
    · rw [wdR_stop h]
theorem take_D (A : Sta) (t u : Nat) (n : Int32) : (sT (takeA A t n) u).2 = (sT A u).2 := by
  show (u1 (sT A) t _ u).2 = _
  by_cases e : u = t
  · rw [e, u1_at]
  · rw [u1_ne _ _ e]
set_option maxHeartbeats 4000000 in
set_option maxRecDepth 100000 in
theorem sp_X7_collect {a : Nat} {A : Sta} {t : Nat} (ka : kd h a = some (.inr (0, 1360))) (hR : RepR (gi h a) A) (ht : t < sN A) (hd : 0 < (sT A t).2.2.length) (k : ∀ h', RepR (gi h' a) (clR A t) → RF a h h' → Q (.inl none) h') : WPx E mX7_collect 0 [some (.ref a), some (.int (nI t)), none, none, none] [] (0, 0) h Q := by
  have n6 := hR.n6
  have n12 := hR.n12
  have ed : gi h a (58 + 217 * t + 17) = ((sT A t).2.2.getD 0 (0, 0)).1 := (hR.td ht hd).1
  refine wp_iload_n (M := mX7_collect) (pc := 0) dX7_collect_0 rfl ?_
  refine so_S1 (M := mX7_collect) (pc := 1) cs_X7_collect_90 rfl rfl (LE rfl) (LE rfl) dX7_collect_1 ?_
  refine sp_X7_at ?_
  refine kI ?_
  refine so_istore_n (M := mX7_collect) (pc := 4) (lo' := [_, _, _, _, _]) dX7_collect_4 (LE rfl) (LE rfl) (Or.inr rfl) rfl ?_
  refine wp_aload_n (M := mX7_collect) (pc := 5) dX7_collect_5 rfl ?_
  refine wp_iload_n (M := mX7_collect) (pc := 6) dX7_collect_6 rfl ?_
  refine wp_aload_n (M := mX7_collect) (pc := 7) dX7_collect_7 rfl ?_
  refine wp_iload_n (M := mX7_collect) (pc := 8) dX7_collect_8 rfl ?_
  refine wp_bipush (M := mX7_collect) (pc := 9) (v := 17) dX7_collect_9 cb_17 ?_
  refine wp_iadd (M := mX7_collect) (pc := 11) dX7_collect_11 ?_
  refine wr_iaload (M := mX7_collect) (pc := 12) dX7_collect_12 ka (ia rfl (show (17 : Int32) = nI 17 from rfl)) (by omega) (by decide) ?_
  refine so_S3 (M := mX7_collect) (pc := 13) cs_X7_collect_182 rfl rfl (LE rfl) (LE rfl) dX7_collect_13 ?_
  rw [ed]
  refine sp_X7_takeCredits ka hR ht (fun h1 R1 F1 => ?_)
  have ka1 : kd h1 a = some (.inr (0, 1360)) := by rw [F1.kd]; exact ka
  refine kI ?_
  refine so_istore_n (M := mX7_collect) (pc := 16) (lo' := [_, _, _, _, _]) dX7_collect_16 (LE rfl) (LE rfl) (Or.inr rfl) rfl ?_
  refine wp_iload_n (M := mX7_collect) (pc := 17) dX7_collect_17 rfl ?_
  refine wp_if_le (M := mX7_collect) (pc := 18) (tgt := 33) dX7_collect_18 rfl (fun t18 => ?_) (fun f18 => ?_)
  · first
    | (have e : col1R A t ((sT A t).2.2.getD 0 (0, 0)).1 = (takeA A t ((sT A t).2.2.getD 0 (0, 0)).1, ((sT A t).2.2.getD 0 (0, 0)).1 - tkT (sT A t).1 ((sT A t).2.2.getD 0 (0, 0)).1) := if_neg (Int32.not_lt.mpr t18)
       rw [clR, e] at k
       exact ca_X7_collect ka1 R1 ht (by rw [take_D]; exact hd) (fun h2 R2 F2 => k h2 R2 (F1.tr F2)))
    | (have e : col1R A t ((sT A t).2.2.getD 0 (0, 0)).1 = _ := if_pos (Int32.not_le.mp f18)
       rw [clR, e] at k
       exact ca_X7_collect ka3 R3 tN (by rw [take_D, wdR_D, take_D]; exact hd) (fun h4 R4 F4 => k h4 R4 (F1.tr (F2.tr (F3.tr F4)))))
    | fail "leaf"
  · refine wp_aload_n (M := mX7_collect) (pc := 21) dX7_collect_21 rfl ?_
    refine wp_iload_n (M := mX7_collect) (pc := 22) dX7_collect_22 rfl ?_
    refine so_S2 (M := mX7_collect) (pc := 23) cs_X7_collect_191 rfl rfl (LE rfl) (LE rfl) dX7_collect_23 ?_
    refine sp_X7_withdrawAll ka1 R1 (by omega) (fun h2 R2 F2 => ?_)
    have ka2 : kd h2 a = some (.inr (0, 1360)) := by rw [F2.kd]; exact ka1
    have tN : t < sN (wdR t (sO (takeA A t ((sT A t).2.2.getD 0 (0, 0)).1)).length 0 (takeA A t ((sT A t).2.2.getD 0 (0, 0)).1)) := by show t < (wdR t _ 0 _).1.1; rw [wdR_1]; exact ht
    refine kV ?_
    refine wp_aload_n (M := mX7_collect) (pc := 26) dX7_collect_26 rfl ?_
    refine wp_iload_n (M := mX7_collect) (pc := 27) dX7_collect_27 rfl ?_
    refine wp_iload_n (M := mX7_collect) (pc := 28) dX7_collect_28 rfl ?_
    refine so_S3 (M := mX7_collect) (pc := 29) cs_X7_collect_182 rfl rfl (LE rfl) (LE rfl) dX7_collect_29 ?_
    refine sp_X7_takeCredits ka2 R2 tN (fun h3 R3 F3 => ?_)
    have ka3 : kd h3 a = some (.inr (0, 1360)) := by rw [F3.kd]; exact ka2
    refine kI ?_
    refine so_istore_n (M := mX7_collect) (pc := 32) (lo' := [_, _, _, _, _]) dX7_collect_32 (LE rfl) (LE rfl) (Or.inr rfl) rfl ?_
    first
    | (have e : col1R A t ((sT A t).2.2.getD 0 (0, 0)).1 = (takeA A t ((sT A t).2.2.getD 0 (0, 0)).1, ((sT A t).2.2.getD 0 (0, 0)).1 - tkT (sT A t).1 ((sT A t).2.2.getD 0 (0, 0)).1) := if_neg (Int32.not_lt.mpr t18)
       rw [clR, e] at k
       exact ca_X7_collect ka1 R1 ht (by rw [take_D]; exact hd) (fun h2 R2 F2 => k h2 R2 (F1.tr F2)))
    | (have e : col1R A t ((sT A t).2.2.getD 0 (0, 0)).1 = _ := if_pos (Int32.not_le.mp f18)
       rw [clR, e] at k
       exact ca_X7_collect ka3 R3 tN (by rw [take_D, wdR_D, take_D]; exact hd) (fun h4 R4 F4 => k h4 R4 (F1.tr (F2.tr (F3.tr F4)))))
    | fail "leaf"
end SP
