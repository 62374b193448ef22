section SP
variable {E : Ev} {h : PH} {Q : Rt → PH → Prop}
theorem lt1_le {s : Nat → Nat} {n c p : Nat} {b : Bool} (h : p ≤ 160) (hn : n ≤ 160) : (lt1 s n c p b).1 ≤ 160 := by
  by_cases q : b = false ∧ p < n ∧ s p = c
  · rw [lt1_y q]; show p + 1 ≤ 160; omega
  · rw [lt1_n q]; exact h
theorem rdN_le {s : Nat → Nat} {n lo hi : Nat} (hn : n ≤ 160) : ∀ (k v p : Nat), p ≤ 160 → (rdN s n lo hi k v p).2.1 ≤ 160
  | 0, v, p, h => h
  | k + 1, v, p, h => by
    by_cases q : p < n ∧ 48 ≤ s p ∧ s p ≤ 57 ∧ (10 * v + (s p - 48)) * 10 ^ k ≤ hi ∧ lo < (10 * v + (s p - 48)) * 10 ^ k + 10 ^ k
    · rw [rdN_y q]; exact rdN_le hn k _ _ (by omega)
    · rw [rdN_n q]; exact h
theorem rdB_le {s : Nat → Nat} {n lo hi k v p : Nat} {b : Bool} (hn : n ≤ 160) (h : p ≤ 160) : (rdB s n lo hi k v p b).2.1 ≤ 160 := by
  by_cases q : b = true
  · rw [rdB_t q]; exact h
  · rw [rdB_f (by cases b; rfl; exact absurd rfl q)]; exact rdN_le hn _ _ _ h
/-- a number from a place -/
def rdX (s : Nat → Nat) (n lo hi k : Nat) (x : Nat × Bool) : Nat × Nat × Bool := rdB s n lo hi k 0 x.1 x.2
def ltX (s : Nat → Nat) (n c : Nat) (x : Nat × Bool) : Nat × Bool := lt1 s n c x.1 x.2
def rqX (A : Sta) (s : Nat → Nat) (n : Nat) (x : Nat × Bool) : Nat × Bool := if x.2 = false ∧ (x.1 < n ∧ 48 ≤ s x.1 ∧ s x.1 - 48 < sN A) ∧ (sT A (s x.1 - 48)).2.1.length < 8 then (x.1 + 1, false) else (x.1, true)
theorem rqX_y {A : Sta} {s : Nat → Nat} {n : Nat} {x : Nat × Bool} (h : x.2 = false ∧ (x.1 < n ∧ 48 ≤ s x.1 ∧ s x.1 - 48 < sN A) ∧ (sT A (s x.1 - 48)).2.1.length < 8) : rqX A s n x = (x.1 + 1, false) := if_pos h
theorem rqX_n {A : Sta} {s : Nat → Nat} {n : Nat} {x : Nat × Bool} (h : ¬ (x.2 = false ∧ (x.1 < n ∧ 48 ≤ s x.1 ∧ s x.1 - 48 < sN A) ∧ (sT A (s x.1 - 48)).2.1.length < 8)) : rqX A s n x = (x.1, true) := if_neg h
theorem rqX_le {A : Sta} {s : Nat → Nat} {n : Nat} {x : Nat × Bool} (h : x.1 ≤ 160) (hn : n ≤ 160) : (rqX A s n x).1 ≤ 160 := by
  by_cases q : x.2 = false ∧ (x.1 < n ∧ 48 ≤ s x.1 ∧ s x.1 - 48 < sN A) ∧ (sT A (s x.1 - 48)).2.1.length < 8
  · rw [rqX_y q]; show x.1 + 1 ≤ 160; omega
  · rw [rqX_n q]; exact h
theorem sg_isT {A : Sta} {s : Nat → Nat} {n p : Nat} (hs : p < n → s p ≤ 255) (h6 : sN A ≤ 6) : isT A (sgI s n p - 48) ↔ p < n ∧ 48 ≤ s p ∧ s p - 48 < sN A := by
  constructor
  · rintro ⟨j, hj, e⟩
    have h1 : ¬ sgI s n p - 48 < 0 := by rw [e]; exact nI_pos (by omega)
    have h2 := sg_nn hs h1
    rw [sg_sub h2.1 h2.2] at e
    have := (i_eq (by have := hs h2.1; omega) (by omega)).mp e
    exact ⟨h2.1, h2.2, by omega⟩
  · rintro ⟨h1, h2, h3⟩
    exact ⟨s p - 48, h3, sg_sub h1 h2⟩
theorem Fr.rd {S : Nat → Prop} {h : PH} {a p : Nat} {b : Bool} (hs : S (tg h a).1) : Fr S h (rdH h a p b) := (Fr.si hs).tr (Fr.si hs)
set_option maxHeartbeats 4000000 in
set_option maxRecDepth 100000 in
theorem sp_X1_readQueue {a sa n : Nat} {s : Nat → Nat} {p : Nat} {b : Bool} {q : Nat} {l : Lt} {A : Sta} (hX : TxC h a sa s n) (hp : gi h a 2 = nI p) (hp2 : p ≤ 160) (hb : gi h a 3 = bI b) (hR : RepC h q l A) (k : Q (.inl (some (.int (sgI s n p - 48)))) (rdH h a (rqX A s n (p, b)).1 (rqX A s n (p, b)).2)) : WPx E mX1_readQueue 0 [some (.ref a), some (.ref q), none] [] (0, 0) h Q := by
  have hR2 := hR
  obtain ⟨hL, hN, hT, hO⟩ := hR
  obtain ⟨⟨kq, tq⟩, ⟨rT, kT, tT⟩, ⟨rO, kO, tO⟩, hLT, hLO, hinj⟩ := hL
  obtain ⟨⟨n2, n6⟩, ⟨n3, n12⟩, n4, n5, n6', n7, n8, n9, n10, n11⟩ := hN
  have hs : p < n → s p ≤ 255 := fun e => (hX.2.2.2 p e).2
  refine wp_aload_n (M := mX1_readQueue) (pc := 0) dX1_readQueue_0 rfl ?_
  refine so_V0 (M := mX1_readQueue) (pc := 1) cs_X1_readQueue_50 rfl rfl (LE rfl) (LE rfl) dX1_readQueue_1 (by first | exact hX.1.1 | exact kq | exact kT | exact a2) ?_
  refine sp_X1_sign hX hp (by omega) ?_
  refine kI ?_
  refine wp_bipush (M := mX1_readQueue) (pc := 4) (v := 48) dX1_readQueue_4 cb_48 ?_
  refine wp_isub (M := mX1_readQueue) (pc := 6) dX1_readQueue_6 ?_
  refine so_istore_n (M := mX1_readQueue) (pc := 7) (lo' := [_, _, _]) dX1_readQueue_7 (LE rfl) (LE rfl) (Or.inr rfl) rfl ?_
  refine wp_aload_n (M := mX1_readQueue) (pc := 8) dX1_readQueue_8 rfl ?_
  refine wp_aload_n (M := mX1_readQueue) (pc := 9) dX1_readQueue_9 rfl ?_
  refine wp_getI (M := mX1_readQueue) (pc := 10) fa_X1_22 rfl dX1_readQueue_10 (by first | exact hX.1.1 | exact kq | exact kT | exact a2) ?_
  refine wp_if_ne (M := mX1_readQueue) (pc := 13) (tgt := 36) dX1_readQueue_13 rfl (fun t13 => ?_) (fun f13 => ?_)
  · rw [hb] at t13
    have hb1 := bI_n t13
    refine wp_iconst (M := mX1_readQueue) (pc := 36) (v := 1) dX1_readQueue_36 ci_1 ?_
    refine wp_goto (M := mX1_readQueue) (pc := 37) (tgt := 41) dX1_readQueue_37 rfl ?_
    refine wp_putI (M := mX1_readQueue) (pc := 41) fa_X1_22 (Or.inr ⟨rfl, (by decide)⟩) dX1_readQueue_41 (by first | exact hX.1.1 | exact kq | exact kT | exact a2) ?_
    refine wp_aload_n (M := mX1_readQueue) (pc := 44) dX1_readQueue_44 rfl ?_
    refine wp_getI (M := mX1_readQueue) (pc := 45) fa_X1_22 rfl dX1_readQueue_45 (by first | exact hX.1.1 | exact kq | exact kT | exact a2) ?_
    refine wp_if_ne (M := mX1_readQueue) (pc := 48) (tgt := 61) dX1_readQueue_48 rfl (fun t48 => ?_) (fun f48 => ?_)
    · refine wp_iload_n (M := mX1_readQueue) (pc := 61) dX1_readQueue_61 rfl ?_
      refine wp_ireturn (M := mX1_readQueue) (pc := 62) rfl dX1_readQueue_62 ?_
      have z0 : gi (si h a 3 0) a 3 = 0 := gi_si_same
      have z1 : gi (si h a 3 1) a 3 = 1 := gi_si_same
      have z2 : gi (si h a 3 0) a 2 = gi h a 2 := gi_si_oth (by decide)
      first
      | exact absurd z0 t48
      | (rw [z1] at f48; exact absurd f48 (by decide))
      | (rw [rqX_n (A := A) (s := s) (n := n) (x := (p, b)) (fun q9 => by have := q9.1; rw [hb1] at this; cases this)] at k; rw [← rdH_1 hp] at k; exact k)
      | (rw [rqX_n (A := A) (s := s) (n := n) (x := (p, b)) (fun q9 => hno q9.2.1)] at k; rw [← rdH_1 hp] at k; exact k)
      | (rw [rqX_n (A := A) (s := s) (n := n) (x := (p, b)) (fun q9 => hq q9.2.2)] at k; rw [← rdH_1 hp] at k; exact k)
      | (rw [z2, hp, show nI p + 1 = nI (p + 1) from nI_1 p]
         rw [rqX_y (A := A) (s := s) (n := n) (x := (p, b)) ⟨hb0, hye, hq⟩] at k; rw [← rdH_2] at k; exact k)
      | fail "leaf"
    · refine wp_aload_n (M := mX1_readQueue) (pc := 51) dX1_readQueue_51 rfl ?_
      refine wp_dup (M := mX1_readQueue) (pc := 52) dX1_readQueue_52 rfl ?_
      refine wp_getI (M := mX1_readQueue) (pc := 53) fa_X1_19 rfl dX1_readQueue_53 (by first | exact hX.1.1 | exact kq | exact kT | exact a2) ?_
      refine wp_iconst (M := mX1_readQueue) (pc := 56) (v := 1) dX1_readQueue_56 ci_1 ?_
      refine wp_iadd (M := mX1_readQueue) (pc := 57) dX1_readQueue_57 ?_
      refine wp_putI (M := mX1_readQueue) (pc := 58) fa_X1_19 (Or.inl rfl) dX1_readQueue_58 (by first | exact hX.1.1 | exact kq | exact kT | exact a2) ?_
      refine wp_iload_n (M := mX1_readQueue) (pc := 61) dX1_readQueue_61 rfl ?_
      refine wp_ireturn (M := mX1_readQueue) (pc := 62) rfl dX1_readQueue_62 ?_
      have z0 : gi (si h a 3 0) a 3 = 0 := gi_si_same
      have z1 : gi (si h a 3 1) a 3 = 1 := gi_si_same
      have z2 : gi (si h a 3 0) a 2 = gi h a 2 := gi_si_oth (by decide)
      first
      | exact absurd z0 t48
      | (rw [z1] at f48; exact absurd f48 (by decide))
      | (rw [rqX_n (A := A) (s := s) (n := n) (x := (p, b)) (fun q9 => by have := q9.1; rw [hb1] at this; cases this)] at k; rw [← rdH_1 hp] at k; exact k)
      | (rw [rqX_n (A := A) (s := s) (n := n) (x := (p, b)) (fun q9 => hno q9.2.1)] at k; rw [← rdH_1 hp] at k; exact k)
      | (rw [rqX_n (A := A) (s := s) (n := n) (x := (p, b)) (fun q9 => hq q9.2.2)] at k; rw [← rdH_1 hp] at k; exact k)
      | (rw [z2, hp, show nI p + 1 = nI (p + 1) from nI_1 p]
         rw [rqX_y (A := A) (s := s) (n := n) (x := (p, b)) ⟨hb0, hye, hq⟩] at k; rw [← rdH_2] at k; exact k)
      | fail "leaf"
  · rw [hb] at f13
    have hb0 := bI_0 f13
    refine wp_aload_n (M := mX1_readQueue) (pc := 16) dX1_readQueue_16 rfl ?_
    refine wp_iload_n (M := mX1_readQueue) (pc := 17) dX1_readQueue_17 rfl ?_
    refine so_V1 (M := mX1_readQueue) (pc := 18) cs_X1_readQueue_76 rfl rfl (LE rfl) (LE rfl) dX1_readQueue_18 (by first | exact hX.1.1 | exact kq | exact kT | exact a2) ?_
    refine sb_hasTenant hR2 ?_
    refine kI ?_
    refine wp_if_eq (M := mX1_readQueue) (pc := 21) (tgt := 36) dX1_readQueue_21 rfl (fun t21 => ?_) (fun f21 => ?_)
    · have hno : ¬ (p < n ∧ 48 ≤ s p ∧ s p - 48 < sN A) := fun q9 => b01_z t21 ((sg_isT hs n6).mpr q9)
      refine wp_iconst (M := mX1_readQueue) (pc := 36) (v := 1) dX1_readQueue_36 ci_1 ?_
      refine wp_goto (M := mX1_readQueue) (pc := 37) (tgt := 41) dX1_readQueue_37 rfl ?_
      refine wp_putI (M := mX1_readQueue) (pc := 41) fa_X1_22 (Or.inr ⟨rfl, (by decide)⟩) dX1_readQueue_41 (by first | exact hX.1.1 | exact kq | exact kT | exact a2) ?_
      refine wp_aload_n (M := mX1_readQueue) (pc := 44) dX1_readQueue_44 rfl ?_
      refine wp_getI (M := mX1_readQueue) (pc := 45) fa_X1_22 rfl dX1_readQueue_45 (by first | exact hX.1.1 | exact kq | exact kT | exact a2) ?_
      refine wp_if_ne (M := mX1_readQueue) (pc := 48) (tgt := 61) dX1_readQueue_48 rfl (fun t48 => ?_) (fun f48 => ?_)
      · refine wp_iload_n (M := mX1_readQueue) (pc := 61) dX1_readQueue_61 rfl ?_
        refine wp_ireturn (M := mX1_readQueue) (pc := 62) rfl dX1_readQueue_62 ?_
        have z0 : gi (si h a 3 0) a 3 = 0 := gi_si_same
        have z1 : gi (si h a 3 1) a 3 = 1 := gi_si_same
        have z2 : gi (si h a 3 0) a 2 = gi h a 2 := gi_si_oth (by decide)
        first
        | exact absurd z0 t48
        | (rw [z1] at f48; exact absurd f48 (by decide))
        | (rw [rqX_n (A := A) (s := s) (n := n) (x := (p, b)) (fun q9 => by have := q9.1; rw [hb1] at this; cases this)] at k; rw [← rdH_1 hp] at k; exact k)
        | (rw [rqX_n (A := A) (s := s) (n := n) (x := (p, b)) (fun q9 => hno q9.2.1)] at k; rw [← rdH_1 hp] at k; exact k)
        | (rw [rqX_n (A := A) (s := s) (n := n) (x := (p, b)) (fun q9 => hq q9.2.2)] at k; rw [← rdH_1 hp] at k; exact k)
        | (rw [z2, hp, show nI p + 1 = nI (p + 1) from nI_1 p]
           rw [rqX_y (A := A) (s := s) (n := n) (x := (p, b)) ⟨hb0, hye, hq⟩] at k; rw [← rdH_2] at k; exact k)
        | fail "leaf"
      · refine wp_aload_n (M := mX1_readQueue) (pc := 51) dX1_readQueue_51 rfl ?_
        refine wp_dup (M := mX1_readQueue) (pc := 52) dX1_readQueue_52 rfl ?_
        refine wp_getI (M := mX1_readQueue) (pc := 53) fa_X1_19 rfl dX1_readQueue_53 (by first | exact hX.1.1 | exact kq | exact kT | exact a2) ?_
        refine wp_iconst (M := mX1_readQueue) (pc := 56) (v := 1) dX1_readQueue_56 ci_1 ?_
        refine wp_iadd (M := mX1_readQueue) (pc := 57) dX1_readQueue_57 ?_
        refine wp_putI (M := mX1_readQueue) (pc := 58) fa_X1_19 (Or.inl rfl) dX1_readQueue_58 (by first | exact hX.1.1 | exact kq | exact kT | exact a2) ?_
        refine wp_iload_n (M := mX1_readQueue) (pc := 61) dX1_readQueue_61 rfl ?_
        refine wp_ireturn (M := mX1_readQueue) (pc := 62) rfl dX1_readQueue_62 ?_
        have z0 : gi (si h a 3 0) a 3 = 0 := gi_si_same
        have z1 : gi (si h a 3 1) a 3 = 1 := gi_si_same
        have z2 : gi (si h a 3 0) a 2 = gi h a 2 := gi_si_oth (by decide)
        first
        | exact absurd z0 t48
        | (rw [z1] at f48; exact absurd f48 (by decide))
        | (rw [rqX_n (A := A) (s := s) (n := n) (x := (p, b)) (fun q9 => by have := q9.1; rw [hb1] at this; cases this)] at k; rw [← rdH_1 hp] at k; exact k)
        | (rw [rqX_n (A := A) (s := s) (n := n) (x := (p, b)) (fun q9 => hno q9.2.1)] at k; rw [← rdH_1 hp] at k; exact k)
        | (rw [rqX_n (A := A) (s := s) (n := n) (x := (p, b)) (fun q9 => hq q9.2.2)] at k; rw [← rdH_1 hp] at k; exact k)
        | (rw [z2, hp, show nI p + 1 = nI (p + 1) from nI_1 p]
           rw [rqX_y (A := A) (s := s) (n := n) (x := (p, b)) ⟨hb0, hye, hq⟩] at k; rw [← rdH_2] at k; exact k)
        | fail "leaf"
    · have hye := (sg_isT hs n6).mp (b01_n f21)
      have ej := sg_sub hye.1 hye.2.1
      obtain ⟨a1, ⟨a2, a3⟩, ⟨a4, a5, a6⟩, -⟩ := hLT (s p - 48) (by omega)
      have e7 := (hT (s p - 48) hye.2.2).2.1
      have e8 := (hT (s p - 48) hye.2.2).2.2.1
      refine wp_aload_n (M := mX1_readQueue) (pc := 24) dX1_readQueue_24 rfl ?_
      refine wp_getR (M := mX1_readQueue) (pc := 25) fa_X1_66 rfl dX1_readQueue_25 (by first | exact hX.1.1 | exact kq | exact kT | exact a2) (by first | exact rT | exact a1) ?_
      refine wp_iload_n (M := mX1_readQueue) (pc := 28) dX1_readQueue_28 rfl ?_
      refine wr_aaload (M := mX1_readQueue) (pc := 29) dX1_readQueue_29 (by first | exact hX.1.1 | exact kq | exact kT | exact a2) (by decide) ej (by omega) (by decide) (by first | exact rT | exact a1) ?_
      refine so_V0 (M := mX1_readQueue) (pc := 30) cs_X1_readQueue_80 rfl rfl (LE rfl) (LE rfl) dX1_readQueue_30 (by first | exact hX.1.1 | exact kq | exact kT | exact a2) ?_
      refine sp_X5_isQueueFull a2 a4 a5 ?_
      refine kI ?_
      refine wp_if_eq (M := mX1_readQueue) (pc := 33) (tgt := 40) dX1_readQueue_33 rfl (fun t33 => ?_) (fun f33 => ?_)
      · rw [e7] at t33
        have hq : (sT A (s p - 48)).2.1.length < 8 := by
          by_cases q9 : nI (sT A (s p - 48)).2.1.length < nI 8
          · exact (i_lt (by omega) (by decide)).mp q9
          · rw [if_neg q9] at t33; exact absurd t33 (by decide)
        refine wp_iconst (M := mX1_readQueue) (pc := 40) (v := 0) dX1_readQueue_40 ci_0 ?_
        refine wp_putI (M := mX1_readQueue) (pc := 41) fa_X1_22 (Or.inr ⟨rfl, (by decide)⟩) dX1_readQueue_41 (by first | exact hX.1.1 | exact kq | exact kT | exact a2) ?_
        refine wp_aload_n (M := mX1_readQueue) (pc := 44) dX1_readQueue_44 rfl ?_
        refine wp_getI (M := mX1_readQueue) (pc := 45) fa_X1_22 rfl dX1_readQueue_45 (by first | exact hX.1.1 | exact kq | exact kT | exact a2) ?_
        refine wp_if_ne (M := mX1_readQueue) (pc := 48) (tgt := 61) dX1_readQueue_48 rfl (fun t48 => ?_) (fun f48 => ?_)
        · refine wp_iload_n (M := mX1_readQueue) (pc := 61) dX1_readQueue_61 rfl ?_
          refine wp_ireturn (M := mX1_readQueue) (pc := 62) rfl dX1_readQueue_62 ?_
          have z0 : gi (si h a 3 0) a 3 = 0 := gi_si_same
          have z1 : gi (si h a 3 1) a 3 = 1 := gi_si_same
          have z2 : gi (si h a 3 0) a 2 = gi h a 2 := gi_si_oth (by decide)
          first
          | exact absurd z0 t48
          | (rw [z1] at f48; exact absurd f48 (by decide))
          | (rw [rqX_n (A := A) (s := s) (n := n) (x := (p, b)) (fun q9 => by have := q9.1; rw [hb1] at this; cases this)] at k; rw [← rdH_1 hp] at k; exact k)
          | (rw [rqX_n (A := A) (s := s) (n := n) (x := (p, b)) (fun q9 => hno q9.2.1)] at k; rw [← rdH_1 hp] at k; exact k)
          | (rw [rqX_n (A := A) (s := s) (n := n) (x := (p, b)) (fun q9 => hq q9.2.2)] at k; rw [← rdH_1 hp] at k; exact k)
          | (rw [z2, hp, show nI p + 1 = nI (p + 1) from nI_1 p]
             rw [rqX_y (A := A) (s := s) (n := n) (x := (p, b)) ⟨hb0, hye, hq⟩] at k; rw [← rdH_2] at k; exact k)
          | fail "leaf"
        · refine wp_aload_n (M := mX1_readQueue) (pc := 51) dX1_readQueue_51 rfl ?_
          refine wp_dup (M := mX1_readQueue) (pc := 52) dX1_readQueue_52 rfl ?_
          refine wp_getI (M := mX1_readQueue) (pc := 53) fa_X1_19 rfl dX1_readQueue_53 (by first | exact hX.1.1 | exact kq | exact kT | exact a2) ?_
          refine wp_iconst (M := mX1_readQueue) (pc := 56) (v := 1) dX1_readQueue_56 ci_1 ?_
          refine wp_iadd (M := mX1_readQueue) (pc := 57) dX1_readQueue_57 ?_
          refine wp_putI (M := mX1_readQueue) (pc := 58) fa_X1_19 (Or.inl rfl) dX1_readQueue_58 (by first | exact hX.1.1 | exact kq | exact kT | exact a2) ?_
          refine wp_iload_n (M := mX1_readQueue) (pc := 61) dX1_readQueue_61 rfl ?_
          refine wp_ireturn (M := mX1_readQueue) (pc := 62) rfl dX1_readQueue_62 ?_
          have z0 : gi (si h a 3 0) a 3 = 0 := gi_si_same
          have z1 : gi (si h a 3 1) a 3 = 1 := gi_si_same
          have z2 : gi (si h a 3 0) a 2 = gi h a 2 := gi_si_oth (by decide)
          first
          | exact absurd z0 t48
          | (rw [z1] at f48; exact absurd f48 (by decide))
          | (rw [rqX_n (A := A) (s := s) (n := n) (x := (p, b)) (fun q9 => by have := q9.1; rw [hb1] at this; cases this)] at k; rw [← rdH_1 hp] at k; exact k)
          | (rw [rqX_n (A := A) (s := s) (n := n) (x := (p, b)) (fun q9 => hno q9.2.1)] at k; rw [← rdH_1 hp] at k; exact k)
          | (rw [rqX_n (A := A) (s := s) (n := n) (x := (p, b)) (fun q9 => hq q9.2.2)] at k; rw [← rdH_1 hp] at k; exact k)
          | (rw [z2, hp, show nI p + 1 = nI (p + 1) from nI_1 p]
             rw [rqX_y (A := A) (s := s) (n := n) (x := (p, b)) ⟨hb0, hye, hq⟩] at k; rw [← rdH_2] at k; exact k)
          | fail "leaf"
      · rw [e7] at f33
        have hq : ¬ (sT A (s p - 48)).2.1.length < 8 := fun q9 => by
          rw [if_pos ((i_lt (by omega) (by decide)).mpr q9)] at f33; exact absurd rfl f33
        refine wp_iconst (M := mX1_readQueue) (pc := 36) (v := 1) dX1_readQueue_36 ci_1 ?_
        refine wp_goto (M := mX1_readQueue) (pc := 37) (tgt := 41) dX1_readQueue_37 rfl ?_
        refine wp_putI (M := mX1_readQueue) (pc := 41) fa_X1_22 (Or.inr ⟨rfl, (by decide)⟩) dX1_readQueue_41 (by first | exact hX.1.1 | exact kq | exact kT | exact a2) ?_
        refine wp_aload_n (M := mX1_readQueue) (pc := 44) dX1_readQueue_44 rfl ?_
        refine wp_getI (M := mX1_readQueue) (pc := 45) fa_X1_22 rfl dX1_readQueue_45 (by first | exact hX.1.1 | exact kq | exact kT | exact a2) ?_
        refine wp_if_ne (M := mX1_readQueue) (pc := 48) (tgt := 61) dX1_readQueue_48 rfl (fun t48 => ?_) (fun f48 => ?_)
        · refine wp_iload_n (M := mX1_readQueue) (pc := 61) dX1_readQueue_61 rfl ?_
          refine wp_ireturn (M := mX1_readQueue) (pc := 62) rfl dX1_readQueue_62 ?_
          have z0 : gi (si h a 3 0) a 3 = 0 := gi_si_same
          have z1 : gi (si h a 3 1) a 3 = 1 := gi_si_same
          have z2 : gi (si h a 3 0) a 2 = gi h a 2 := gi_si_oth (by decide)
          first
          | exact absurd z0 t48
          | (rw [z1] at f48; exact absurd f48 (by decide))
          | (rw [rqX_n (A := A) (s := s) (n := n) (x := (p, b)) (fun q9 => by have := q9.1; rw [hb1] at this; cases this)] at k; rw [← rdH_1 hp] at k; exact k)
          | (rw [rqX_n (A := A) (s := s) (n := n) (x := (p, b)) (fun q9 => hno q9.2.1)] at k; rw [← rdH_1 hp] at k; exact k)
          | (rw [rqX_n (A := A) (s := s) (n := n) (x := (p, b)) (fun q9 => hq q9.2.2)] at k; rw [← rdH_1 hp] at k; exact k)
          | (rw [z2, hp, show nI p + 1 = nI (p + 1) from nI_1 p]
             rw [rqX_y (A := A) (s := s) (n := n) (x := (p, b)) ⟨hb0, hye, hq⟩] at k; rw [← rdH_2] at k; exact k)
          | fail "leaf"
        · refine wp_aload_n (M := mX1_readQueue) (pc := 51) dX1_readQueue_51 rfl ?_
          refine wp_dup (M := mX1_readQueue) (pc := 52) dX1_readQueue_52 rfl ?_
          refine wp_getI (M := mX1_readQueue) (pc := 53) fa_X1_19 rfl dX1_readQueue_53 (by first | exact hX.1.1 | exact kq | exact kT | exact a2) ?_
          refine wp_iconst (M := mX1_readQueue) (pc := 56) (v := 1) dX1_readQueue_56 ci_1 ?_
          refine wp_iadd (M := mX1_readQueue) (pc := 57) dX1_readQueue_57 ?_
          refine wp_putI (M := mX1_readQueue) (pc := 58) fa_X1_19 (Or.inl rfl) dX1_readQueue_58 (by first | exact hX.1.1 | exact kq | exact kT | exact a2) ?_
          refine wp_iload_n (M := mX1_readQueue) (pc := 61) dX1_readQueue_61 rfl ?_
          refine wp_ireturn (M := mX1_readQueue) (pc := 62) rfl dX1_readQueue_62 ?_
          have z0 : gi (si h a 3 0) a 3 = 0 := gi_si_same
          have z1 : gi (si h a 3 1) a 3 = 1 := gi_si_same
          have z2 : gi (si h a 3 0) a 2 = gi h a 2 := gi_si_oth (by decide)
          first
          | exact absurd z0 t48
          | (rw [z1] at f48; exact absurd f48 (by decide))
          | (rw [rqX_n (A := A) (s := s) (n := n) (x := (p, b)) (fun q9 => by have := q9.1; rw [hb1] at this; cases this)] at k; rw [← rdH_1 hp] at k; exact k)
          | (rw [rqX_n (A := A) (s := s) (n := n) (x := (p, b)) (fun q9 => hno q9.2.1)] at k; rw [← rdH_1 hp] at k; exact k)
          | (rw [rqX_n (A := A) (s := s) (n := n) (x := (p, b)) (fun q9 => hq q9.2.2)] at k; rw [← rdH_1 hp] at k; exact k)
          | (rw [z2, hp, show nI p + 1 = nI (p + 1) from nI_1 p]
             rw [rqX_y (A := A) (s := s) (n := n) (x := (p, b)) ⟨hb0, hye, hq⟩] at k; rw [← rdH_2] at k; exact k)
          | fail "leaf"
def lkW (s : Nat → Nat) (n : Nat) (x : Nat × Bool) := rdX s n 1 999 3 (ltX s n 76 x)
def lkI (s : Nat → Nat) (n : Nat) (x : Nat × Bool) := rdX s n 1 20 2 (lkW s n x).2
def lkT (s : Nat → Nat) (n : Nat) (x : Nat × Bool) := rdX s n 1 50 2 (lkI s n x).2
def lkP (s : Nat → Nat) (n : Nat) (x : Nat × Bool) := rdX s n 0 99 2 (lkT s n x).2
def lkA (s : Nat → Nat) (n : Nat) (x : Nat × Bool) : Sta := bgA (nI (lkW s n x).1) (nI (lkI s n x).1) (lkT s n x).1 (nI (lkP s n x).1)
def lkE (s : Nat → Nat) (n : Nat) (x : Nat × Bool) : Sta × Nat × Bool := (lkA s n x, (lkP s n x).2)
/-- the reader stands at x and has made A -/
def Rdr (h : PH) (a sa q : Nat) (l : Lt) (s : Nat → Nat) (n : Nat) (y : Sta × Nat × Bool) : Prop := RepC h q l y.1 ∧ TxC h a sa s n ∧ (gi h a 2 = nI y.2.1 ∧ y.2.1 ≤ 160) ∧ gi h a 3 = bI y.2.2
theorem Rdr.mk {h h' : PH} {a sa q p : Nat} {b : Bool} {l : Lt} {s : Nat → Nat} {n : Nat} {A : Sta} (hX : TxC h a sa s n) (haq : a ≠ q) (hp : p ≤ 160) (hR : RepC h' q l A) (hF : Fr (fun x => x = q) (rdH h a p b) h') : Rdr h' a sa q l s n (A, p, b) ∧ Fr (fun x => x = a ∨ x = q) h h' := by
  have ea : tg (rdH h a p b) a = (a, 0, 0) := hX.1.2
  have e1 := hF.2.2.2 a (by rw [ea]; exact haq)
  refine ⟨⟨hR, hX.rd.fr hF haq, ⟨by rw [e1.1, rdH_p], hp⟩, by rw [e1.1, rdH_b]⟩, Fr.tr (Fr.rd (Or.inl (by rw [hX.1.2]))) (hF.mono (fun x e => Or.inr e))⟩
set_option maxHeartbeats 4000000 in
set_option maxRecDepth 100000 in
theorem sp_X1_readLink {a sa n : Nat} {s : Nat → Nat} {q : Nat} {l : Lt} {p : Nat} {b : Bool} (hX : TxC h a sa s n) (hp : gi h a 2 = nI p) (hp2 : p ≤ 160) (hb : gi h a 3 = bI b) (hL : Lay h q l) (haq : a ≠ q) (k : ∀ h', Rdr h' a sa q l s n (lkE s n (p, b)) → Fr (fun x => x = a ∨ x = q) h h' → Q (.inl none) h') : WPx E mX1_readLink 0 [some (.ref a), some (.ref q), none, none, none, none] [] (0, 0) h Q := by
  have hn := hX.2.2.1.2
  refine wp_aload_n (M := mX1_readLink) (pc := 0) dX1_readLink_0 rfl ?_
  refine wp_bipush (M := mX1_readLink) (pc := 1) (v := 76) dX1_readLink_1 cb_76 ?_
  refine so_V1 (M := mX1_readLink) (pc := 3) cs_X1_readLink_36 rfl rfl (LE rfl) (LE rfl) dX1_readLink_3 (by first | exact hX.1.1 | exact hL.1.1) ?_
  refine sp_X1_readLetter (c := 76) hX hp (by omega) hb (by decide) ?_
  refine kV ?_
  refine wp_aload_n (M := mX1_readLink) (pc := 6) dX1_readLink_6 rfl ?_
  refine wp_iconst (M := mX1_readLink) (pc := 7) (v := 3) dX1_readLink_7 ci_3 ?_
  refine wp_iconst (M := mX1_readLink) (pc := 8) (v := 1) dX1_readLink_8 ci_1 ?_
  refine wp_sipush (M := mX1_readLink) (pc := 9) (v := 999) dX1_readLink_9 ch_999 ?_
  refine so_V3 (M := mX1_readLink) (pc := 12) cs_X1_readLink_40 rfl rfl (LE rfl) (LE rfl) dX1_readLink_12 (by first | exact hX.1.1 | exact hL.1.1) ?_
  have b1 := lt1_le (s := s) (c := 76) (b := b) hp2 hn
  refine sp_X1_readNumber (d := 3) (lo := 1) (hi := 999) hX.rd (by decide) (by decide) (by decide) rdH_p (by omega) rdH_b ?_
  refine kI ?_
  refine so_istore_n (M := mX1_readLink) (pc := 15) (lo' := [_, _, _, _, _, _]) dX1_readLink_15 (LE rfl) (LE rfl) (Or.inr rfl) rfl ?_
  refine wp_aload_n (M := mX1_readLink) (pc := 16) dX1_readLink_16 rfl ?_
  refine wp_iconst (M := mX1_readLink) (pc := 17) (v := 2) dX1_readLink_17 ci_2 ?_
  refine wp_iconst (M := mX1_readLink) (pc := 18) (v := 1) dX1_readLink_18 ci_1 ?_
  refine wp_bipush (M := mX1_readLink) (pc := 19) (v := 20) dX1_readLink_19 cb_20 ?_
  refine so_V3 (M := mX1_readLink) (pc := 21) cs_X1_readLink_40 rfl rfl (LE rfl) (LE rfl) dX1_readLink_21 (by first | exact hX.1.1 | exact hL.1.1) ?_
  have b2 := rdB_le (s := s) (lo := 1) (hi := 999) (k := 3) (v := 0) (b := (lt1 s n 76 p b).2) hn b1
  refine sp_X1_readNumber (d := 2) (lo := 1) (hi := 20) hX.rd.rd (by decide) (by decide) (by decide) rdH_p (by omega) rdH_b ?_
  refine kI ?_
  refine so_istore_n (M := mX1_readLink) (pc := 24) (lo' := [_, _, _, _, _, _]) dX1_readLink_24 (LE rfl) (LE rfl) (Or.inr rfl) rfl ?_
  refine wp_aload_n (M := mX1_readLink) (pc := 25) dX1_readLink_25 rfl ?_
  refine wp_iconst (M := mX1_readLink) (pc := 26) (v := 2) dX1_readLink_26 ci_2 ?_
  refine wp_iconst (M := mX1_readLink) (pc := 27) (v := 1) dX1_readLink_27 ci_1 ?_
  refine wp_bipush (M := mX1_readLink) (pc := 28) (v := 50) dX1_readLink_28 cb_50 ?_
  refine so_V3 (M := mX1_readLink) (pc := 30) cs_X1_readLink_40 rfl rfl (LE rfl) (LE rfl) dX1_readLink_30 (by first | exact hX.1.1 | exact hL.1.1) ?_
  have b3 := rdB_le (s := s) (lo := 1) (hi := 20) (k := 2) (v := 0) (b := (lkW s n (p, b)).2.2) hn b2
  refine sp_X1_readNumber (d := 2) (lo := 1) (hi := 50) hX.rd.rd.rd (by decide) (by decide) (by decide) rdH_p (show (lkI s n (p, b)).2.1 ≤ 1000 from Nat.le_trans b3 (by decide)) rdH_b ?_
  refine kI ?_
  refine so_istore (M := mX1_readLink) (pc := 33) (lo' := [_, _, _, _, _, _]) dX1_readLink_33 (LE rfl) (LE rfl) (Or.inr rfl) rfl ?_
  refine wp_aload_n (M := mX1_readLink) (pc := 35) dX1_readLink_35 rfl ?_
  refine wp_iconst (M := mX1_readLink) (pc := 36) (v := 2) dX1_readLink_36 ci_2 ?_
  refine wp_iconst (M := mX1_readLink) (pc := 37) (v := 0) dX1_readLink_37 ci_0 ?_
  refine wp_bipush (M := mX1_readLink) (pc := 38) (v := 99) dX1_readLink_38 cb_99 ?_
  refine so_V3 (M := mX1_readLink) (pc := 40) cs_X1_readLink_40 rfl rfl (LE rfl) (LE rfl) dX1_readLink_40 (by first | exact hX.1.1 | exact hL.1.1) ?_
  have b4 := rdB_le (s := s) (lo := 1) (hi := 50) (k := 2) (v := 0) (b := (lkI s n (p, b)).2.2) hn b3
  refine sp_X1_readNumber (d := 2) (lo := 0) (hi := 99) hX.rd.rd.rd.rd (by decide) (by decide) (by decide) rdH_p (show (lkT s n (p, b)).2.1 ≤ 1000 from Nat.le_trans b4 (by decide)) rdH_b ?_
  refine kI ?_
  refine so_istore (M := mX1_readLink) (pc := 43) (lo' := [_, _, _, _, _, _]) dX1_readLink_43 (LE rfl) (LE rfl) (Or.inr rfl) rfl ?_
  refine wp_aload_n (M := mX1_readLink) (pc := 45) dX1_readLink_45 rfl ?_
  refine wp_iload_n (M := mX1_readLink) (pc := 46) dX1_readLink_46 rfl ?_
  refine wp_iload_n (M := mX1_readLink) (pc := 47) dX1_readLink_47 rfl ?_
  refine wp_iload (M := mX1_readLink) (pc := 48) dX1_readLink_48 rfl ?_
  refine wp_iload (M := mX1_readLink) (pc := 50) dX1_readLink_50 rfl ?_
  refine so_V4 (M := mX1_readLink) (pc := 52) cs_X1_readLink_44 rfl rfl (LE rfl) (LE rfl) dX1_readLink_52 (by first | exact hX.1.1 | exact hL.1.1) ?_
  have b5 := rdB_le (s := s) (lo := 0) (hi := 99) (k := 2) (v := 0) (b := (lkT s n (p, b)).2.2) hn b4
  simp only [rdH_rdH]
  refine sp_X4_begin (tm := (lkT s n (p, b)).1) hL (fun h1 hR1 hF1 => ?_)
  refine kV ?_
  refine wp_return (M := mX1_readLink) (pc := 55) rfl dX1_readLink_55 ?_
  have hz := Rdr.mk (p := (lkP s n (p, b)).2.1) (b := (lkP s n (p, b)).2.2) hX haq b5 hR1 hF1
  exact k h1 hz.1 hz.2
end SP
