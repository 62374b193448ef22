section SP
variable {E : Ev} {h : PH} {Q : Rt → PH → Prop}
abbrev oA (A : Sta) (j : Nat) : Ord := (sO A).getD j (0, 0, 0, 0)
abbrev fT (A : Sta) (t k : Nat) : Int32 := (sT A t).1 k
def wF (A : Sta) (t k : Nat) (v : Int32) : Sta := wT A t (upd (sT A t).1 k v, (sT A t).2)
abbrev susp (A : Sta) (t : Nat) : Prop := nI (sTi A) < fT A t 6
def gq (t kd : Nat) (x : Ord) : Int32 := if x.1 = t ∧ x.2.1 = kd then x.2.2.2 else 0
def gc (t : Nat) (x : Ord) : Int32 := if x.1 = t ∧ x.2.1 = 0 then x.2.2.1 * x.2.2.2 else 0
def gw (p : Int32) (x : Ord) : Int32 := if x.2.1 = 0 ∧ p ≤ x.2.2.1 then x.2.2.2 else 0
def gf (p : Int32) (x : Ord) : Int32 := if ¬ x.2.1 = 0 ∧ x.2.2.1 ≤ p then x.2.2.2 else 0
def osm (g : Ord → Int32) (A : Sta) (i : Nat) : Int32 := sm (fun j => g (oA A j)) i
def qtyOf (A : Sta) (t kd : Nat) : Int32 := osm (gq t kd) A (sO A).length
def csa (A : Sta) (t : Nat) : Int32 := osm (gc t) A (sO A).length
def wantA (A : Sta) (p : Int32) : Int32 := osm (gw p) A (sO A).length
def offA (A : Sta) (p : Int32) : Int32 := osm (gf p) A (sO A).length
def dsum (ds : List (Int32 × Nat)) : Int32 := match ds with
  | [] => 0
  | x :: r => x.1 + dsum r
section
variable {y : Ord} {x0 x1 x2 p : Int32} {t kd n : Nat}
theorem gq_n1 (o0 : x0 = nI y.1) (c : ¬ x0 = nI t) : gq t kd y = 0 := if_neg (fun e => c (by rw [o0, e.1]))
theorem gq_n2 (o1 : x1 = nI y.2.1) (c : ¬ x1 = nI kd) : gq t kd y = 0 := if_neg (fun e => c (by rw [o1, e.2]))
theorem gq_y (o0 : x0 = nI y.1) (c0 : x0 = nI t) (o1 : x1 = nI y.2.1) (c1 : x1 = nI kd) (hn : y.1 < n) (hn6 : n ≤ 6) (h3 : y.2.1 < 3) (ht : t < 2 ^ 31) (hk : kd < 3) : gq t kd y = y.2.2.2 := if_pos ⟨(i_eq (by omega) ht).mp (o0.symm.trans c0), (i_eq (by omega) (by omega)).mp (o1.symm.trans c1)⟩
theorem gc_n1 (o0 : x0 = nI y.1) (c : ¬ x0 = nI t) : gc t y = 0 := if_neg (fun e => c (by rw [o0, e.1]))
theorem gc_n2 (o1 : x1 = nI y.2.1) (c : ¬ x1 = 0) : gc t y = 0 := if_neg (fun e => c (by rw [o1, e.2]; rfl))
theorem gc_y (o0 : x0 = nI y.1) (c0 : x0 = nI t) (o1 : x1 = nI y.2.1) (c1 : x1 = 0) (hn : y.1 < n) (hn6 : n ≤ 6) (h3 : y.2.1 < 3) (ht : t < 2 ^ 31) : gc t y = y.2.2.1 * y.2.2.2 := if_pos ⟨(i_eq (by omega) ht).mp (o0.symm.trans c0), (i_eq (b := 0) (by omega) (by omega)).mp (o1.symm.trans c1)⟩
theorem gw_n1 (o1 : x1 = nI y.2.1) (c : ¬ x1 = 0) : gw p y = 0 := if_neg (fun e => c (by rw [o1, e.1]; rfl))
theorem gw_n2 (o2 : x2 = y.2.2.1) (c : x2 < p) : gw p y = 0 := if_neg (fun e => Int32.not_le.mpr c (by rw [o2]; exact e.2))
theorem gw_y (o1 : x1 = nI y.2.1) (c1 : x1 = 0) (o2 : x2 = y.2.2.1) (c : ¬ x2 < p) (h3 : y.2.1 < 3) : gw p y = y.2.2.2 := if_pos ⟨(i_eq (b := 0) (by omega) (by omega)).mp (o1.symm.trans c1), by rw [← o2]; exact Int32.not_lt.mp c⟩
theorem gf_n1 (o1 : x1 = nI y.2.1) (c : x1 = 0) (h3 : y.2.1 < 3) : gf p y = 0 := if_neg (fun e => e.1 ((i_eq (b := 0) (by omega) (by omega)).mp (o1.symm.trans c)))
theorem gf_n2 (o2 : x2 = y.2.2.1) (c : p < x2) : gf p y = 0 := if_neg (fun e => Int32.not_lt.mpr e.2 (by rw [← o2]; exact c))
theorem gf_y (o1 : x1 = nI y.2.1) (c1 : ¬ x1 = 0) (o2 : x2 = y.2.2.1) (c : ¬ p < x2) : gf p y = y.2.2.2 := if_pos ⟨fun e => c1 (by rw [o1, e]; rfl), by rw [← o2]; exact Int32.not_lt.mp c⟩
end
theorem osm_no {g : Ord → Int32} {A : Sta} {i : Nat} (h : g (oA A i) = 0) : osm g A (i + 1) = osm g A i := by
  show sm _ i + g (oA A i) = sm _ i
  rw [h, Int32.add_zero]
theorem osm_ye {g : Ord → Int32} {A : Sta} {i : Nat} {v : Int32} (h : g (oA A i) = v) : osm g A (i + 1) = osm g A i + v := by
  show sm _ i + g (oA A i) = sm _ i + v
  rw [h]
theorem sm_congr {f g : Nat → Int32} : ∀ (n : Nat), (∀ j, j < n → f j = g j) → sm f n = sm g n
  | 0, _ => rfl
  | n + 1, h => by
    show sm f n + f n = sm g n + g n
    rw [sm_congr n (fun j hj => h j (by omega)), h n (by omega)]
theorem sm_add {f g : Nat → Int32} : ∀ (n : Nat), sm (fun j => f j + g j) n = sm f n + sm g n
  | 0 => rfl
  | n + 1 => by
    show sm (fun j => f j + g j) n + (f n + g n) = (sm f n + f n) + (sm g n + g n)
    rw [sm_add n]
    ac_rfl
theorem sm_one {a : Int32} {k : Nat} : ∀ (n : Nat), sm (fun j => if k = j then a else 0) n = if k < n then a else 0
  | 0 => by simp [sm]
  | n + 1 => by
    show sm _ n + (if k = n then a else 0) = _
    rw [sm_one n]
    by_cases h1 : k < n
    · have h2 : ¬ k = n := by omega
      have h3 : k < n + 1 := by omega
      simp [h1, h2, h3]
    · by_cases h2 : k = n
      · subst h2; simp
      · have h3 : ¬ k < n + 1 := by omega
        simp [h1, h2, h3]
theorem sm_0 : ∀ n, sm (fun _ => 0) n = 0
  | 0 => rfl
  | n + 1 => by show sm _ n + 0 = 0; rw [sm_0 n]; rfl
theorem ring_sum : ∀ (ds : List (Int32 × Nat)), sm (ring ds) 51 = dsum ds
  | [] => by
    show sm (fun _ => 0) 51 = 0
    exact sm_0 51
  | x :: r => by
    have e : ring (x :: r) = fun j => (if x.2 % 51 = j then x.1 else 0) + ring r j := rfl
    rw [e, sm_add, ring_sum r, sm_one, if_pos (Nat.mod_lt _ (by decide))]
    rfl
set_option maxHeartbeats 4000000 in
set_option maxRecDepth 100000 in
theorem sp_X4_hasTenant {q : Nat} {l : Lt} {A : Sta} {t : Int32} (hR : RepC h q l A) (k1 : ∀ j, j < sN A → t = nI j → Q (.inl (some (.int 1))) h) (k0 : (∀ j, j < sN A → t ≠ nI j) → Q (.inl (some (.int 0))) h) : WPx E mX4_hasTenant 0 [some (.ref q), some (.int t)] [] (0, 0) h Q := by
  obtain ⟨hL, hN, hT, hO⟩ := hR
  obtain ⟨⟨kq, tq⟩, ⟨rT, kT, tT⟩, ⟨rO, kO, tO⟩, hLT, hLO, hinj⟩ := hL
  obtain ⟨⟨n2, n6⟩, ⟨n3, n12⟩, n4, n5, n6', n7, n8, n9, n10, n11⟩ := hN
  have hcase : (∃ j, j < sN A ∧ t = nI j) ∨ (t < 0 ∨ nI (sN A) ≤ t) := by
    rcases pk_ix t (n := sN A) (by omega) with h1 | h1 | ⟨j, h1, h2⟩
    · exact Or.inr (Or.inl h1)
    · exact Or.inr (Or.inr h1)
    · exact Or.inl ⟨j, h1, h2⟩
  refine wp_iload_n (M := mX4_hasTenant) (pc := 0) dX4_hasTenant_0 rfl ?_
  refine wp_if_lt (M := mX4_hasTenant) (pc := 1) (tgt := 25) dX4_hasTenant_1 rfl (fun c1 => ?_) (fun c1 => ?_)
  · refine wp_iconst (M := mX4_hasTenant) (pc := 25) (v := 0) dX4_hasTenant_25 ci_0 ?_
    refine wp_zreturn (M := mX4_hasTenant) (pc := 26) rfl (by decide) dX4_hasTenant_26 ?_
    first
    | exact k0 (fun j hj e => absurd (e ▸ c1) (nI_pos (by omega)))
    | exact k0 (fun j hj e => by rw [n2, e] at c9; exact absurd ((i_le (by omega) (by omega)).mp c9) (by omega))
    | exact k0 (fun j hj e => by rw [e] at c18; exact absurd ((i_le (a := 6) (by omega) (by omega)).mp c18) (by omega))
    | (rcases hcase with ⟨j, h1, h2⟩ | h1 | h1
       · exact k1 j h1 h2
       · exact absurd h1 c1
       · exact absurd (by rw [n2]; exact h1) c9)
    | fail "leaf"
  · refine wp_iload_n (M := mX4_hasTenant) (pc := 4) dX4_hasTenant_4 rfl ?_
    refine wp_aload_n (M := mX4_hasTenant) (pc := 5) dX4_hasTenant_5 rfl ?_
    refine wp_getI (M := mX4_hasTenant) (pc := 6) fa_X4_38 rfl dX4_hasTenant_6 (by assumption) ?_
    refine wp_icmp_ge (M := mX4_hasTenant) (pc := 9) (tgt := 25) dX4_hasTenant_9 rfl (fun c9 => ?_) (fun c9 => ?_)
    · refine wp_iconst (M := mX4_hasTenant) (pc := 25) (v := 0) dX4_hasTenant_25 ci_0 ?_
      refine wp_zreturn (M := mX4_hasTenant) (pc := 26) rfl (by decide) dX4_hasTenant_26 ?_
      first
      | exact k0 (fun j hj e => absurd (e ▸ c1) (nI_pos (by omega)))
      | exact k0 (fun j hj e => by rw [n2, e] at c9; exact absurd ((i_le (by omega) (by omega)).mp c9) (by omega))
      | exact k0 (fun j hj e => by rw [e] at c18; exact absurd ((i_le (a := 6) (by omega) (by omega)).mp c18) (by omega))
      | (rcases hcase with ⟨j, h1, h2⟩ | h1 | h1
         · exact k1 j h1 h2
         · exact absurd h1 c1
         · exact absurd (by rw [n2]; exact h1) c9)
      | fail "leaf"
    · refine wp_iload_n (M := mX4_hasTenant) (pc := 12) dX4_hasTenant_12 rfl ?_
      refine wp_aload_n (M := mX4_hasTenant) (pc := 13) dX4_hasTenant_13 rfl ?_
      refine wp_getR (M := mX4_hasTenant) (pc := 14) fa_X4_11 rfl dX4_hasTenant_14 (by assumption) (by assumption) ?_
      refine wp_alen (M := mX4_hasTenant) (pc := 17) dX4_hasTenant_17 (by assumption) (by decide) ?_
      refine wp_icmp_ge (M := mX4_hasTenant) (pc := 18) (tgt := 25) dX4_hasTenant_18 rfl (fun c18 => ?_) (fun c18 => ?_)
      · refine wp_iconst (M := mX4_hasTenant) (pc := 25) (v := 0) dX4_hasTenant_25 ci_0 ?_
        refine wp_zreturn (M := mX4_hasTenant) (pc := 26) rfl (by decide) dX4_hasTenant_26 ?_
        first
        | exact k0 (fun j hj e => absurd (e ▸ c1) (nI_pos (by omega)))
        | exact k0 (fun j hj e => by rw [n2, e] at c9; exact absurd ((i_le (by omega) (by omega)).mp c9) (by omega))
        | exact k0 (fun j hj e => by rw [e] at c18; exact absurd ((i_le (a := 6) (by omega) (by omega)).mp c18) (by omega))
        | (rcases hcase with ⟨j, h1, h2⟩ | h1 | h1
           · exact k1 j h1 h2
           · exact absurd h1 c1
           · exact absurd (by rw [n2]; exact h1) c9)
        | fail "leaf"
      · refine wp_iconst (M := mX4_hasTenant) (pc := 21) (v := 1) dX4_hasTenant_21 ci_1 ?_
        refine wp_goto (M := mX4_hasTenant) (pc := 22) (tgt := 26) dX4_hasTenant_22 rfl ?_
        refine wp_zreturn (M := mX4_hasTenant) (pc := 26) rfl (by decide) dX4_hasTenant_26 ?_
        first
        | exact k0 (fun j hj e => absurd (e ▸ c1) (nI_pos (by omega)))
        | exact k0 (fun j hj e => by rw [n2, e] at c9; exact absurd ((i_le (by omega) (by omega)).mp c9) (by omega))
        | exact k0 (fun j hj e => by rw [e] at c18; exact absurd ((i_le (a := 6) (by omega) (by omega)).mp c18) (by omega))
        | (rcases hcase with ⟨j, h1, h2⟩ | h1 | h1
           · exact k1 j h1 h2
           · exact absurd h1 c1
           · exact absurd (by rw [n2]; exact h1) c9)
        | fail "leaf"
set_option maxHeartbeats 4000000 in
set_option maxRecDepth 100000 in
theorem sp_X4_hasOrder {q : Nat} {l : Lt} {A : Sta} {t : Int32} (hR : RepC h q l A) (k1 : ∀ j, j < (sO A).length → t = nI j → Q (.inl (some (.int 1))) h) (k0 : (∀ j, j < (sO A).length → t ≠ nI j) → Q (.inl (some (.int 0))) h) : WPx E mX4_hasOrder 0 [some (.ref q), some (.int t)] [] (0, 0) h Q := by
  obtain ⟨hL, hN, hT, hO⟩ := hR
  obtain ⟨⟨kq, tq⟩, ⟨rT, kT, tT⟩, ⟨rO, kO, tO⟩, hLT, hLO, hinj⟩ := hL
  obtain ⟨⟨n2, n6⟩, ⟨n3, n12⟩, n4, n5, n6', n7, n8, n9, n10, n11⟩ := hN
  have hcase : (∃ j, j < (sO A).length ∧ t = nI j) ∨ (t < 0 ∨ nI ((sO A).length) ≤ t) := by
    rcases pk_ix t (n := (sO A).length) (by omega) with h1 | h1 | ⟨j, h1, h2⟩
    · exact Or.inr (Or.inl h1)
    · exact Or.inr (Or.inr h1)
    · exact Or.inl ⟨j, h1, h2⟩
  refine wp_iload_n (M := mX4_hasOrder) (pc := 0) dX4_hasOrder_0 rfl ?_
  refine wp_if_lt (M := mX4_hasOrder) (pc := 1) (tgt := 25) dX4_hasOrder_1 rfl (fun c1 => ?_) (fun c1 => ?_)
  · refine wp_iconst (M := mX4_hasOrder) (pc := 25) (v := 0) dX4_hasOrder_25 ci_0 ?_
    refine wp_zreturn (M := mX4_hasOrder) (pc := 26) rfl (by decide) dX4_hasOrder_26 ?_
    first
    | exact k0 (fun j hj e => absurd (e ▸ c1) (nI_pos (by omega)))
    | exact k0 (fun j hj e => by rw [n3, e] at c9; exact absurd ((i_le (by omega) (by omega)).mp c9) (by omega))
    | exact k0 (fun j hj e => by rw [e] at c18; exact absurd ((i_le (a := 12) (by omega) (by omega)).mp c18) (by omega))
    | (rcases hcase with ⟨j, h1, h2⟩ | h1 | h1
       · exact k1 j h1 h2
       · exact absurd h1 c1
       · exact absurd (by rw [n3]; exact h1) c9)
    | fail "leaf"
  · refine wp_iload_n (M := mX4_hasOrder) (pc := 4) dX4_hasOrder_4 rfl ?_
    refine wp_aload_n (M := mX4_hasOrder) (pc := 5) dX4_hasOrder_5 rfl ?_
    refine wp_getI (M := mX4_hasOrder) (pc := 6) fa_X4_41 rfl dX4_hasOrder_6 (by assumption) ?_
    refine wp_icmp_ge (M := mX4_hasOrder) (pc := 9) (tgt := 25) dX4_hasOrder_9 rfl (fun c9 => ?_) (fun c9 => ?_)
    · refine wp_iconst (M := mX4_hasOrder) (pc := 25) (v := 0) dX4_hasOrder_25 ci_0 ?_
      refine wp_zreturn (M := mX4_hasOrder) (pc := 26) rfl (by decide) dX4_hasOrder_26 ?_
      first
      | exact k0 (fun j hj e => absurd (e ▸ c1) (nI_pos (by omega)))
      | exact k0 (fun j hj e => by rw [n3, e] at c9; exact absurd ((i_le (by omega) (by omega)).mp c9) (by omega))
      | exact k0 (fun j hj e => by rw [e] at c18; exact absurd ((i_le (a := 12) (by omega) (by omega)).mp c18) (by omega))
      | (rcases hcase with ⟨j, h1, h2⟩ | h1 | h1
         · exact k1 j h1 h2
         · exact absurd h1 c1
         · exact absurd (by rw [n3]; exact h1) c9)
      | fail "leaf"
    · refine wp_iload_n (M := mX4_hasOrder) (pc := 12) dX4_hasOrder_12 rfl ?_
      refine wp_aload_n (M := mX4_hasOrder) (pc := 13) dX4_hasOrder_13 rfl ?_
      refine wp_getR (M := mX4_hasOrder) (pc := 14) fa_X4_19 rfl dX4_hasOrder_14 (by assumption) (by assumption) ?_
      refine wp_alen (M := mX4_hasOrder) (pc := 17) dX4_hasOrder_17 (by assumption) (by decide) ?_
      refine wp_icmp_ge (M := mX4_hasOrder) (pc := 18) (tgt := 25) dX4_hasOrder_18 rfl (fun c18 => ?_) (fun c18 => ?_)
      · refine wp_iconst (M := mX4_hasOrder) (pc := 25) (v := 0) dX4_hasOrder_25 ci_0 ?_
        refine wp_zreturn (M := mX4_hasOrder) (pc := 26) rfl (by decide) dX4_hasOrder_26 ?_
        first
        | exact k0 (fun j hj e => absurd (e ▸ c1) (nI_pos (by omega)))
        | exact k0 (fun j hj e => by rw [n3, e] at c9; exact absurd ((i_le (by omega) (by omega)).mp c9) (by omega))
        | exact k0 (fun j hj e => by rw [e] at c18; exact absurd ((i_le (a := 12) (by omega) (by omega)).mp c18) (by omega))
        | (rcases hcase with ⟨j, h1, h2⟩ | h1 | h1
           · exact k1 j h1 h2
           · exact absurd h1 c1
           · exact absurd (by rw [n3]; exact h1) c9)
        | fail "leaf"
      · refine wp_iconst (M := mX4_hasOrder) (pc := 21) (v := 1) dX4_hasOrder_21 ci_1 ?_
        refine wp_goto (M := mX4_hasOrder) (pc := 22) (tgt := 26) dX4_hasOrder_22 rfl ?_
        refine wp_zreturn (M := mX4_hasOrder) (pc := 26) rfl (by decide) dX4_hasOrder_26 ?_
        first
        | exact k0 (fun j hj e => absurd (e ▸ c1) (nI_pos (by omega)))
        | exact k0 (fun j hj e => by rw [n3, e] at c9; exact absurd ((i_le (by omega) (by omega)).mp c9) (by omega))
        | exact k0 (fun j hj e => by rw [e] at c18; exact absurd ((i_le (a := 12) (by omega) (by omega)).mp c18) (by omega))
        | (rcases hcase with ⟨j, h1, h2⟩ | h1 | h1
           · exact k1 j h1 h2
           · exact absurd h1 c1
           · exact absurd (by rw [n3]; exact h1) c9)
        | fail "leaf"
set_option maxHeartbeats 4000000 in
set_option maxRecDepth 100000 in
theorem sp_X4_isSuspended {q : Nat} {l : Lt} {A : Sta} {t : Nat} (hR : RepC h q l A) (ht : t < sN A) (k : Q (.inl (some (.int (if susp A t then 1 else 0)))) h) : WPx E mX4_isSuspended 0 [some (.ref q), some (.ref (lT l t))] [] (0, 0) h Q := by
  obtain ⟨hL, hN, hT, hO⟩ := hR
  obtain ⟨⟨kq, tq⟩, ⟨rT, kT, tT⟩, ⟨rO, kO, tO⟩, hLT, hLO, hinj⟩ := hL
  obtain ⟨⟨n2, n6⟩, ⟨n3, n12⟩, n4, n5, n6', n7, n8, n9, n10, n11⟩ := hN
  have hLt := hLT t (by omega)
  have hTt : gi h (lT l t) 6 = fT A t 6 := (hT t ht).1 6 (by decide)
  refine wp_aload_n (M := mX4_isSuspended) (pc := 0) dX4_isSuspended_0 rfl ?_
  refine wp_getI (M := mX4_isSuspended) (pc := 1) fa_X4_79 rfl dX4_isSuspended_1 (by first | exact kq | exact hLt.2.1.1) ?_
  refine wp_aload_n (M := mX4_isSuspended) (pc := 4) dX4_isSuspended_4 rfl ?_
  refine wp_getI (M := mX4_isSuspended) (pc := 5) fa_X4_44 rfl dX4_isSuspended_5 (by first | exact kq | exact hLt.2.1.1) ?_
  refine wp_icmp_le (M := mX4_isSuspended) (pc := 8) (tgt := 15) dX4_isSuspended_8 rfl (fun c8 => ?_) (fun c8 => ?_)
  · refine wp_iconst (M := mX4_isSuspended) (pc := 15) (v := 0) dX4_isSuspended_15 ci_0 ?_
    refine wp_zreturn (M := mX4_isSuspended) (pc := 16) rfl (by decide) dX4_isSuspended_16 ?_
    rw [hTt, n8] at c8
    first
    | (rw [if_neg (Int32.not_lt.mpr c8)] at k; exact k)
    | (rw [if_pos (Int32.not_le.mp c8)] at k; exact k)
  · refine wp_iconst (M := mX4_isSuspended) (pc := 11) (v := 1) dX4_isSuspended_11 ci_1 ?_
    refine wp_goto (M := mX4_isSuspended) (pc := 12) (tgt := 16) dX4_isSuspended_12 rfl ?_
    refine wp_zreturn (M := mX4_isSuspended) (pc := 16) rfl (by decide) dX4_isSuspended_16 ?_
    rw [hTt, n8] at c8
    first
    | (rw [if_neg (Int32.not_lt.mpr c8)] at k; exact k)
    | (rw [if_pos (Int32.not_le.mp c8)] at k; exact k)
set_option maxHeartbeats 4000000 in
set_option maxRecDepth 100000 in
theorem lp_X4_quantityOf {q : Nat} {l : Lt} {A : Sta} {t kd : Nat} (hR : RepC h q l A) (ht : t < 2 ^ 31) (hkd : kd < 3) (k : Q (.inl (some (.int (osm (gq t kd) A (sO A).length)))) h) : ∀ (m : Nat) (i : Nat), (sO A).length - i < m → (i ≤ (sO A).length) → WPx E mX4_quantityOf 5 [some (.ref q), some (.int (nI t)), some (.int (nI kd)), some (.int (osm (gq t kd) A i)), some (.int (nI i))] [] (0, 0) h Q := by
  intro m
  induction m with
  | zero => intro i hm; exact absurd hm (Nat.not_lt_zero _)
  | succ m ih =>
    intro i hm hi
    obtain ⟨hL, hN, hT, hO⟩ := hR
    obtain ⟨⟨kq, tq⟩, ⟨rT, kT, tT⟩, ⟨rO, kO, tO⟩, hLT, hLO, hinj⟩ := hL
    obtain ⟨⟨n2, n6⟩, ⟨n3, n12⟩, n4, n5, n6', n7, n8, n9, n10, n11⟩ := hN
    refine wp_iload (M := mX4_quantityOf) (pc := 5) dX4_quantityOf_5 rfl ?_
    refine wp_aload_n (M := mX4_quantityOf) (pc := 7) dX4_quantityOf_7 rfl ?_
    refine wp_getI (M := mX4_quantityOf) (pc := 8) fa_X4_41 rfl dX4_quantityOf_8 (by first | exact kq | exact (hLO i (by omega)).2.1) ?_
    refine wp_icmp_ge (M := mX4_quantityOf) (pc := 11) (tgt := 61) dX4_quantityOf_11 rfl (fun t11 => ?_) (fun f11 => ?_)
    · rw [n3] at t11
      have hi2 := n_ge hi (by omega) t11
      subst hi2
      refine wp_iload_n (M := mX4_quantityOf) (pc := 61) dX4_quantityOf_61 rfl ?_
      refine wp_ireturn (M := mX4_quantityOf) (pc := 62) rfl dX4_quantityOf_62 ?_
      exact k
    · rw [n3] at f11
      have hlt := n_lt hi (by omega) f11
      obtain ⟨⟨o0, o1, o2, o3⟩, o4, o5⟩ := hO i hlt
      refine wp_aload_n (M := mX4_quantityOf) (pc := 14) dX4_quantityOf_14 rfl ?_
      refine wp_getR (M := mX4_quantityOf) (pc := 15) fa_X4_19 rfl dX4_quantityOf_15 (by first | exact kq | exact (hLO i (by omega)).2.1) (by first | exact rO | exact rT) ?_
      refine wp_iload (M := mX4_quantityOf) (pc := 18) dX4_quantityOf_18 rfl ?_
      refine wr_aaload (M := mX4_quantityOf) (pc := 20) dX4_quantityOf_20 kO (by decide) rfl (by omega) (by decide) (hLO i (by omega)).1 ?_
      refine wp_getI (M := mX4_quantityOf) (pc := 21) fa_X4_64 rfl dX4_quantityOf_21 (by first | exact kq | exact (hLO i (by omega)).2.1) ?_
      refine wp_iload_n (M := mX4_quantityOf) (pc := 24) dX4_quantityOf_24 rfl ?_
      refine wp_icmp_ne (M := mX4_quantityOf) (pc := 25) (tgt := 55) dX4_quantityOf_25 rfl (fun t25 => ?_) (fun f25 => ?_)
      · refine so_iinc (M := mX4_quantityOf) (pc := 55) (lo' := [_, _, _, _, _]) dX4_quantityOf_55 rfl ci_1 (LE rfl) rfl ?_
        refine wp_goto (M := mX4_quantityOf) (pc := 58) (tgt := 5) dX4_quantityOf_58 rfl ?_
        rw [show nI i + 1 = nI (i + 1) from nI_1 i]
        have hz := ih (i + 1) (by omega) (by omega)
        first
        | (rw [osm_no (gq_n1 o0 t25)] at hz; exact hz)
        | (rw [osm_no (gq_n2 o1 t39)] at hz; exact hz)
        | (rw [osm_ye (gq_y o0 f25 o1 f39 o4 n6 o5 ht hkd)] at hz; rw [o3]; exact hz)
        | (rw [osm_ye (gq_y o0 f25 o1 f39 o4 n6 o5 ht hkd)] at hz; rw [o2, o3]; exact hz)
        | fail "leaf"
      · refine wp_aload_n (M := mX4_quantityOf) (pc := 28) dX4_quantityOf_28 rfl ?_
        refine wp_getR (M := mX4_quantityOf) (pc := 29) fa_X4_19 rfl dX4_quantityOf_29 (by first | exact kq | exact (hLO i (by omega)).2.1) (by first | exact rO | exact rT) ?_
        refine wp_iload (M := mX4_quantityOf) (pc := 32) dX4_quantityOf_32 rfl ?_
        refine wr_aaload (M := mX4_quantityOf) (pc := 34) dX4_quantityOf_34 kO (by decide) rfl (by omega) (by decide) (hLO i (by omega)).1 ?_
        refine wp_getI (M := mX4_quantityOf) (pc := 35) fa_X4_67 rfl dX4_quantityOf_35 (by first | exact kq | exact (hLO i (by omega)).2.1) ?_
        refine wp_iload_n (M := mX4_quantityOf) (pc := 38) dX4_quantityOf_38 rfl ?_
        refine wp_icmp_ne (M := mX4_quantityOf) (pc := 39) (tgt := 55) dX4_quantityOf_39 rfl (fun t39 => ?_) (fun f39 => ?_)
        · refine so_iinc (M := mX4_quantityOf) (pc := 55) (lo' := [_, _, _, _, _]) dX4_quantityOf_55 rfl ci_1 (LE rfl) rfl ?_
          refine wp_goto (M := mX4_quantityOf) (pc := 58) (tgt := 5) dX4_quantityOf_58 rfl ?_
          rw [show nI i + 1 = nI (i + 1) from nI_1 i]
          have hz := ih (i + 1) (by omega) (by omega)
          first
          | (rw [osm_no (gq_n1 o0 t25)] at hz; exact hz)
          | (rw [osm_no (gq_n2 o1 t39)] at hz; exact hz)
          | (rw [osm_ye (gq_y o0 f25 o1 f39 o4 n6 o5 ht hkd)] at hz; rw [o3]; exact hz)
          | (rw [osm_ye (gq_y o0 f25 o1 f39 o4 n6 o5 ht hkd)] at hz; rw [o2, o3]; exact hz)
          | fail "leaf"
        · refine wp_iload_n (M := mX4_quantityOf) (pc := 42) dX4_quantityOf_42 rfl ?_
          refine wp_aload_n (M := mX4_quantityOf) (pc := 43) dX4_quantityOf_43 rfl ?_
          refine wp_getR (M := mX4_quantityOf) (pc := 44) fa_X4_19 rfl dX4_quantityOf_44 (by first | exact kq | exact (hLO i (by omega)).2.1) (by first | exact rO | exact rT) ?_
          refine wp_iload (M := mX4_quantityOf) (pc := 47) dX4_quantityOf_47 rfl ?_
          refine wr_aaload (M := mX4_quantityOf) (pc := 49) dX4_quantityOf_49 kO (by decide) rfl (by omega) (by decide) (hLO i (by omega)).1 ?_
          refine wp_getI (M := mX4_quantityOf) (pc := 50) fa_X4_73 rfl dX4_quantityOf_50 (by first | exact kq | exact (hLO i (by omega)).2.1) ?_
          refine wp_iadd (M := mX4_quantityOf) (pc := 53) dX4_quantityOf_53 ?_
          refine so_istore_n (M := mX4_quantityOf) (pc := 54) (lo' := [_, _, _, _, _]) dX4_quantityOf_54 (LE rfl) (LE rfl) (Or.inr rfl) rfl ?_
          refine so_iinc (M := mX4_quantityOf) (pc := 55) (lo' := [_, _, _, _, _]) dX4_quantityOf_55 rfl ci_1 (LE rfl) rfl ?_
          refine wp_goto (M := mX4_quantityOf) (pc := 58) (tgt := 5) dX4_quantityOf_58 rfl ?_
          rw [show nI i + 1 = nI (i + 1) from nI_1 i]
          have hz := ih (i + 1) (by omega) (by omega)
          first
          | (rw [osm_no (gq_n1 o0 t25)] at hz; exact hz)
          | (rw [osm_no (gq_n2 o1 t39)] at hz; exact hz)
          | (rw [osm_ye (gq_y o0 f25 o1 f39 o4 n6 o5 ht hkd)] at hz; rw [o3]; exact hz)
          | (rw [osm_ye (gq_y o0 f25 o1 f39 o4 n6 o5 ht hkd)] at hz; rw [o2, o3]; exact hz)
          | fail "leaf"
set_option maxHeartbeats 4000000 in
set_option maxRecDepth 100000 in
theorem sp_X4_quantityOf {q : Nat} {l : Lt} {A : Sta} {t kd : Nat} (hR : RepC h q l A) (ht : t < 2 ^ 31) (hkd : kd < 3) (k : Q (.inl (some (.int (osm (gq t kd) A (sO A).length)))) h) : WPx E mX4_quantityOf 0 [some (.ref q), some (.int (nI t)), some (.int (nI kd)), none, none] [] (0, 0) h Q := by
  refine wp_iconst (M := mX4_quantityOf) (pc := 0) (v := 0) dX4_quantityOf_0 ci_0 ?_
  refine so_istore_n (M := mX4_quantityOf) (pc := 1) (lo' := [_, _, _, _, _]) dX4_quantityOf_1 (LE rfl) (LE rfl) (Or.inr rfl) rfl ?_
  refine wp_iconst (M := mX4_quantityOf) (pc := 2) (v := 0) dX4_quantityOf_2 ci_0 ?_
  refine so_istore (M := mX4_quantityOf) (pc := 3) (lo' := [_, _, _, _, _]) dX4_quantityOf_3 (LE rfl) (LE rfl) (Or.inr rfl) rfl ?_
  exact lp_X4_quantityOf hR ht hkd k ((sO A).length + 1) 0 (by omega) (by omega)
set_option maxHeartbeats 4000000 in
set_option maxRecDepth 100000 in
theorem lp_X4_wantedAt {q : Nat} {l : Lt} {A : Sta} {p : Int32} (hR : RepC h q l A)  (k : Q (.inl (some (.int (osm (gw p) A (sO A).length)))) h) : ∀ (m : Nat) (i : Nat), (sO A).length - i < m → (i ≤ (sO A).length) → WPx E mX4_wantedAt 4 [some (.ref q), some (.int p), some (.int (osm (gw p) A i)), some (.int (nI i))] [] (0, 0) h Q := by
  intro m
  induction m with
  | zero => intro i hm; exact absurd hm (Nat.not_lt_zero _)
  | succ m ih =>
    intro i hm hi
    obtain ⟨hL, hN, hT, hO⟩ := hR
    obtain ⟨⟨kq, tq⟩, ⟨rT, kT, tT⟩, ⟨rO, kO, tO⟩, hLT, hLO, hinj⟩ := hL
    obtain ⟨⟨n2, n6⟩, ⟨n3, n12⟩, n4, n5, n6', n7, n8, n9, n10, n11⟩ := hN
    refine wp_iload_n (M := mX4_wantedAt) (pc := 4) dX4_wantedAt_4 rfl ?_
    refine wp_aload_n (M := mX4_wantedAt) (pc := 5) dX4_wantedAt_5 rfl ?_
    refine wp_getI (M := mX4_wantedAt) (pc := 6) fa_X4_41 rfl dX4_wantedAt_6 (by first | exact kq | exact (hLO i (by omega)).2.1) ?_
    refine wp_icmp_ge (M := mX4_wantedAt) (pc := 9) (tgt := 55) dX4_wantedAt_9 rfl (fun t9 => ?_) (fun f9 => ?_)
    · rw [n3] at t9
      have hi2 := n_ge hi (by omega) t9
      subst hi2
      refine wp_iload_n (M := mX4_wantedAt) (pc := 55) dX4_wantedAt_55 rfl ?_
      refine wp_ireturn (M := mX4_wantedAt) (pc := 56) rfl dX4_wantedAt_56 ?_
      exact k
    · rw [n3] at f9
      have hlt := n_lt hi (by omega) f9
      obtain ⟨⟨o0, o1, o2, o3⟩, o4, o5⟩ := hO i hlt
      refine wp_aload_n (M := mX4_wantedAt) (pc := 12) dX4_wantedAt_12 rfl ?_
      refine wp_getR (M := mX4_wantedAt) (pc := 13) fa_X4_19 rfl dX4_wantedAt_13 (by first | exact kq | exact (hLO i (by omega)).2.1) (by first | exact rO | exact rT) ?_
      refine wp_iload_n (M := mX4_wantedAt) (pc := 16) dX4_wantedAt_16 rfl ?_
      refine wr_aaload (M := mX4_wantedAt) (pc := 17) dX4_wantedAt_17 kO (by decide) rfl (by omega) (by decide) (hLO i (by omega)).1 ?_
      refine wp_getI (M := mX4_wantedAt) (pc := 18) fa_X4_67 rfl dX4_wantedAt_18 (by first | exact kq | exact (hLO i (by omega)).2.1) ?_
      refine wp_if_ne (M := mX4_wantedAt) (pc := 21) (tgt := 49) dX4_wantedAt_21 rfl (fun t21 => ?_) (fun f21 => ?_)
      · refine so_iinc (M := mX4_wantedAt) (pc := 49) (lo' := [_, _, _, _]) dX4_wantedAt_49 rfl ci_1 (LE rfl) rfl ?_
        refine wp_goto (M := mX4_wantedAt) (pc := 52) (tgt := 4) dX4_wantedAt_52 rfl ?_
        rw [show nI i + 1 = nI (i + 1) from nI_1 i]
        have hz := ih (i + 1) (by omega) (by omega)
        first
        | (rw [osm_no (gw_n1 o1 t21)] at hz; exact hz)
        | (rw [osm_no (gw_n2 o2 t34)] at hz; exact hz)
        | (rw [osm_ye (gw_y o1 f21 o2 f34 o5)] at hz; rw [o3]; exact hz)
        | (rw [osm_ye (gw_y o1 f21 o2 f34 o5)] at hz; rw [o2, o3]; exact hz)
        | fail "leaf"
      · refine wp_aload_n (M := mX4_wantedAt) (pc := 24) dX4_wantedAt_24 rfl ?_
        refine wp_getR (M := mX4_wantedAt) (pc := 25) fa_X4_19 rfl dX4_wantedAt_25 (by first | exact kq | exact (hLO i (by omega)).2.1) (by first | exact rO | exact rT) ?_
        refine wp_iload_n (M := mX4_wantedAt) (pc := 28) dX4_wantedAt_28 rfl ?_
        refine wr_aaload (M := mX4_wantedAt) (pc := 29) dX4_wantedAt_29 kO (by decide) rfl (by omega) (by decide) (hLO i (by omega)).1 ?_
        refine wp_getI (M := mX4_wantedAt) (pc := 30) fa_X4_70 rfl dX4_wantedAt_30 (by first | exact kq | exact (hLO i (by omega)).2.1) ?_
        refine wp_iload_n (M := mX4_wantedAt) (pc := 33) dX4_wantedAt_33 rfl ?_
        refine wp_icmp_lt (M := mX4_wantedAt) (pc := 34) (tgt := 49) dX4_wantedAt_34 rfl (fun t34 => ?_) (fun f34 => ?_)
        · refine so_iinc (M := mX4_wantedAt) (pc := 49) (lo' := [_, _, _, _]) dX4_wantedAt_49 rfl ci_1 (LE rfl) rfl ?_
          refine wp_goto (M := mX4_wantedAt) (pc := 52) (tgt := 4) dX4_wantedAt_52 rfl ?_
          rw [show nI i + 1 = nI (i + 1) from nI_1 i]
          have hz := ih (i + 1) (by omega) (by omega)
          first
          | (rw [osm_no (gw_n1 o1 t21)] at hz; exact hz)
          | (rw [osm_no (gw_n2 o2 t34)] at hz; exact hz)
          | (rw [osm_ye (gw_y o1 f21 o2 f34 o5)] at hz; rw [o3]; exact hz)
          | (rw [osm_ye (gw_y o1 f21 o2 f34 o5)] at hz; rw [o2, o3]; exact hz)
          | fail "leaf"
        · refine wp_iload_n (M := mX4_wantedAt) (pc := 37) dX4_wantedAt_37 rfl ?_
          refine wp_aload_n (M := mX4_wantedAt) (pc := 38) dX4_wantedAt_38 rfl ?_
          refine wp_getR (M := mX4_wantedAt) (pc := 39) fa_X4_19 rfl dX4_wantedAt_39 (by first | exact kq | exact (hLO i (by omega)).2.1) (by first | exact rO | exact rT) ?_
          refine wp_iload_n (M := mX4_wantedAt) (pc := 42) dX4_wantedAt_42 rfl ?_
          refine wr_aaload (M := mX4_wantedAt) (pc := 43) dX4_wantedAt_43 kO (by decide) rfl (by omega) (by decide) (hLO i (by omega)).1 ?_
          refine wp_getI (M := mX4_wantedAt) (pc := 44) fa_X4_73 rfl dX4_wantedAt_44 (by first | exact kq | exact (hLO i (by omega)).2.1) ?_
          refine wp_iadd (M := mX4_wantedAt) (pc := 47) dX4_wantedAt_47 ?_
          refine so_istore_n (M := mX4_wantedAt) (pc := 48) (lo' := [_, _, _, _]) dX4_wantedAt_48 (LE rfl) (LE rfl) (Or.inr rfl) rfl ?_
          refine so_iinc (M := mX4_wantedAt) (pc := 49) (lo' := [_, _, _, _]) dX4_wantedAt_49 rfl ci_1 (LE rfl) rfl ?_
          refine wp_goto (M := mX4_wantedAt) (pc := 52) (tgt := 4) dX4_wantedAt_52 rfl ?_
          rw [show nI i + 1 = nI (i + 1) from nI_1 i]
          have hz := ih (i + 1) (by omega) (by omega)
          first
          | (rw [osm_no (gw_n1 o1 t21)] at hz; exact hz)
          | (rw [osm_no (gw_n2 o2 t34)] at hz; exact hz)
          | (rw [osm_ye (gw_y o1 f21 o2 f34 o5)] at hz; rw [o3]; exact hz)
          | (rw [osm_ye (gw_y o1 f21 o2 f34 o5)] at hz; rw [o2, o3]; exact hz)
          | fail "leaf"
set_option maxHeartbeats 4000000 in
set_option maxRecDepth 100000 in
theorem sp_X4_wantedAt {q : Nat} {l : Lt} {A : Sta} {p : Int32} (hR : RepC h q l A)  (k : Q (.inl (some (.int (osm (gw p) A (sO A).length)))) h) : WPx E mX4_wantedAt 0 [some (.ref q), some (.int p), none, none] [] (0, 0) h Q := by
  refine wp_iconst (M := mX4_wantedAt) (pc := 0) (v := 0) dX4_wantedAt_0 ci_0 ?_
  refine so_istore_n (M := mX4_wantedAt) (pc := 1) (lo' := [_, _, _, _]) dX4_wantedAt_1 (LE rfl) (LE rfl) (Or.inr rfl) rfl ?_
  refine wp_iconst (M := mX4_wantedAt) (pc := 2) (v := 0) dX4_wantedAt_2 ci_0 ?_
  refine so_istore_n (M := mX4_wantedAt) (pc := 3) (lo' := [_, _, _, _]) dX4_wantedAt_3 (LE rfl) (LE rfl) (Or.inr rfl) rfl ?_
  exact lp_X4_wantedAt hR  k ((sO A).length + 1) 0 (by omega) (by omega)
set_option maxHeartbeats 4000000 in
set_option maxRecDepth 100000 in
theorem lp_X4_offeredAt {q : Nat} {l : Lt} {A : Sta} {p : Int32} (hR : RepC h q l A)  (k : Q (.inl (some (.int (osm (gf p) A (sO A).length)))) h) : ∀ (m : Nat) (i : Nat), (sO A).length - i < m → (i ≤ (sO A).length) → WPx E mX4_offeredAt 4 [some (.ref q), some (.int p), some (.int (osm (gf p) A i)), some (.int (nI i))] [] (0, 0) h Q := by
  intro m
  induction m with
  | zero => intro i hm; exact absurd hm (Nat.not_lt_zero _)
  | succ m ih =>
    intro i hm hi
    obtain ⟨hL, hN, hT, hO⟩ := hR
    obtain ⟨⟨kq, tq⟩, ⟨rT, kT, tT⟩, ⟨rO, kO, tO⟩, hLT, hLO, hinj⟩ := hL
    obtain ⟨⟨n2, n6⟩, ⟨n3, n12⟩, n4, n5, n6', n7, n8, n9, n10, n11⟩ := hN
    refine wp_iload_n (M := mX4_offeredAt) (pc := 4) dX4_offeredAt_4 rfl ?_
    refine wp_aload_n (M := mX4_offeredAt) (pc := 5) dX4_offeredAt_5 rfl ?_
    refine wp_getI (M := mX4_offeredAt) (pc := 6) fa_X4_41 rfl dX4_offeredAt_6 (by first | exact kq | exact (hLO i (by omega)).2.1) ?_
    refine wp_icmp_ge (M := mX4_offeredAt) (pc := 9) (tgt := 55) dX4_offeredAt_9 rfl (fun t9 => ?_) (fun f9 => ?_)
    · rw [n3] at t9
      have hi2 := n_ge hi (by omega) t9
      subst hi2
      refine wp_iload_n (M := mX4_offeredAt) (pc := 55) dX4_offeredAt_55 rfl ?_
      refine wp_ireturn (M := mX4_offeredAt) (pc := 56) rfl dX4_offeredAt_56 ?_
      exact k
    · rw [n3] at f9
      have hlt := n_lt hi (by omega) f9
      obtain ⟨⟨o0, o1, o2, o3⟩, o4, o5⟩ := hO i hlt
      refine wp_aload_n (M := mX4_offeredAt) (pc := 12) dX4_offeredAt_12 rfl ?_
      refine wp_getR (M := mX4_offeredAt) (pc := 13) fa_X4_19 rfl dX4_offeredAt_13 (by first | exact kq | exact (hLO i (by omega)).2.1) (by first | exact rO | exact rT) ?_
      refine wp_iload_n (M := mX4_offeredAt) (pc := 16) dX4_offeredAt_16 rfl ?_
      refine wr_aaload (M := mX4_offeredAt) (pc := 17) dX4_offeredAt_17 kO (by decide) rfl (by omega) (by decide) (hLO i (by omega)).1 ?_
      refine wp_getI (M := mX4_offeredAt) (pc := 18) fa_X4_67 rfl dX4_offeredAt_18 (by first | exact kq | exact (hLO i (by omega)).2.1) ?_
      refine wp_if_eq (M := mX4_offeredAt) (pc := 21) (tgt := 49) dX4_offeredAt_21 rfl (fun t21 => ?_) (fun f21 => ?_)
      · refine so_iinc (M := mX4_offeredAt) (pc := 49) (lo' := [_, _, _, _]) dX4_offeredAt_49 rfl ci_1 (LE rfl) rfl ?_
        refine wp_goto (M := mX4_offeredAt) (pc := 52) (tgt := 4) dX4_offeredAt_52 rfl ?_
        rw [show nI i + 1 = nI (i + 1) from nI_1 i]
        have hz := ih (i + 1) (by omega) (by omega)
        first
        | (rw [osm_no (gf_n1 o1 t21 o5)] at hz; exact hz)
        | (rw [osm_no (gf_n2 o2 t34)] at hz; exact hz)
        | (rw [osm_ye (gf_y o1 f21 o2 f34)] at hz; rw [o3]; exact hz)
        | (rw [osm_ye (gf_y o1 f21 o2 f34)] at hz; rw [o2, o3]; exact hz)
        | fail "leaf"
      · refine wp_aload_n (M := mX4_offeredAt) (pc := 24) dX4_offeredAt_24 rfl ?_
        refine wp_getR (M := mX4_offeredAt) (pc := 25) fa_X4_19 rfl dX4_offeredAt_25 (by first | exact kq | exact (hLO i (by omega)).2.1) (by first | exact rO | exact rT) ?_
        refine wp_iload_n (M := mX4_offeredAt) (pc := 28) dX4_offeredAt_28 rfl ?_
        refine wr_aaload (M := mX4_offeredAt) (pc := 29) dX4_offeredAt_29 kO (by decide) rfl (by omega) (by decide) (hLO i (by omega)).1 ?_
        refine wp_getI (M := mX4_offeredAt) (pc := 30) fa_X4_70 rfl dX4_offeredAt_30 (by first | exact kq | exact (hLO i (by omega)).2.1) ?_
        refine wp_iload_n (M := mX4_offeredAt) (pc := 33) dX4_offeredAt_33 rfl ?_
        refine wp_icmp_gt (M := mX4_offeredAt) (pc := 34) (tgt := 49) dX4_offeredAt_34 rfl (fun t34 => ?_) (fun f34 => ?_)
        · refine so_iinc (M := mX4_offeredAt) (pc := 49) (lo' := [_, _, _, _]) dX4_offeredAt_49 rfl ci_1 (LE rfl) rfl ?_
          refine wp_goto (M := mX4_offeredAt) (pc := 52) (tgt := 4) dX4_offeredAt_52 rfl ?_
          rw [show nI i + 1 = nI (i + 1) from nI_1 i]
          have hz := ih (i + 1) (by omega) (by omega)
          first
          | (rw [osm_no (gf_n1 o1 t21 o5)] at hz; exact hz)
          | (rw [osm_no (gf_n2 o2 t34)] at hz; exact hz)
          | (rw [osm_ye (gf_y o1 f21 o2 f34)] at hz; rw [o3]; exact hz)
          | (rw [osm_ye (gf_y o1 f21 o2 f34)] at hz; rw [o2, o3]; exact hz)
          | fail "leaf"
        · refine wp_iload_n (M := mX4_offeredAt) (pc := 37) dX4_offeredAt_37 rfl ?_
          refine wp_aload_n (M := mX4_offeredAt) (pc := 38) dX4_offeredAt_38 rfl ?_
          refine wp_getR (M := mX4_offeredAt) (pc := 39) fa_X4_19 rfl dX4_offeredAt_39 (by first | exact kq | exact (hLO i (by omega)).2.1) (by first | exact rO | exact rT) ?_
          refine wp_iload_n (M := mX4_offeredAt) (pc := 42) dX4_offeredAt_42 rfl ?_
          refine wr_aaload (M := mX4_offeredAt) (pc := 43) dX4_offeredAt_43 kO (by decide) rfl (by omega) (by decide) (hLO i (by omega)).1 ?_
          refine wp_getI (M := mX4_offeredAt) (pc := 44) fa_X4_73 rfl dX4_offeredAt_44 (by first | exact kq | exact (hLO i (by omega)).2.1) ?_
          refine wp_iadd (M := mX4_offeredAt) (pc := 47) dX4_offeredAt_47 ?_
          refine so_istore_n (M := mX4_offeredAt) (pc := 48) (lo' := [_, _, _, _]) dX4_offeredAt_48 (LE rfl) (LE rfl) (Or.inr rfl) rfl ?_
          refine so_iinc (M := mX4_offeredAt) (pc := 49) (lo' := [_, _, _, _]) dX4_offeredAt_49 rfl ci_1 (LE rfl) rfl ?_
          refine wp_goto (M := mX4_offeredAt) (pc := 52) (tgt := 4) dX4_offeredAt_52 rfl ?_
          rw [show nI i + 1 = nI (i + 1) from nI_1 i]
          have hz := ih (i + 1) (by omega) (by omega)
          first
          | (rw [osm_no (gf_n1 o1 t21 o5)] at hz; exact hz)
          | (rw [osm_no (gf_n2 o2 t34)] at hz; exact hz)
          | (rw [osm_ye (gf_y o1 f21 o2 f34)] at hz; rw [o3]; exact hz)
          | (rw [osm_ye (gf_y o1 f21 o2 f34)] at hz; rw [o2, o3]; exact hz)
          | fail "leaf"
set_option maxHeartbeats 4000000 in
set_option maxRecDepth 100000 in
theorem sp_X4_offeredAt {q : Nat} {l : Lt} {A : Sta} {p : Int32} (hR : RepC h q l A)  (k : Q (.inl (some (.int (osm (gf p) A (sO A).length)))) h) : WPx E mX4_offeredAt 0 [some (.ref q), some (.int p), none, none] [] (0, 0) h Q := by
  refine wp_iconst (M := mX4_offeredAt) (pc := 0) (v := 0) dX4_offeredAt_0 ci_0 ?_
  refine so_istore_n (M := mX4_offeredAt) (pc := 1) (lo' := [_, _, _, _]) dX4_offeredAt_1 (LE rfl) (LE rfl) (Or.inr rfl) rfl ?_
  refine wp_iconst (M := mX4_offeredAt) (pc := 2) (v := 0) dX4_offeredAt_2 ci_0 ?_
  refine so_istore_n (M := mX4_offeredAt) (pc := 3) (lo' := [_, _, _, _]) dX4_offeredAt_3 (LE rfl) (LE rfl) (Or.inr rfl) rfl ?_
  exact lp_X4_offeredAt hR  k ((sO A).length + 1) 0 (by omega) (by omega)
set_option maxHeartbeats 4000000 in
set_option maxRecDepth 100000 in
theorem lp_X4_cashSetAside {q : Nat} {l : Lt} {A : Sta} {t : Nat} (hR : RepC h q l A) (ht : t < 2 ^ 31) (k : Q (.inl (some (.int (osm (gc t) A (sO A).length)))) h) : ∀ (m : Nat) (i : Nat), (sO A).length - i < m → (i ≤ (sO A).length) → WPx E mX4_cashSetAside 4 [some (.ref q), some (.int (nI t)), some (.int (osm (gc t) A i)), some (.int (nI i))] [] (0, 0) h Q := by
  intro m
  induction m with
  | zero => intro i hm; exact absurd hm (Nat.not_lt_zero _)
  | succ m ih =>
    intro i hm hi
    obtain ⟨hL, hN, hT, hO⟩ := hR
    obtain ⟨⟨kq, tq⟩, ⟨rT, kT, tT⟩, ⟨rO, kO, tO⟩, hLT, hLO, hinj⟩ := hL
    obtain ⟨⟨n2, n6⟩, ⟨n3, n12⟩, n4, n5, n6', n7, n8, n9, n10, n11⟩ := hN
    refine wp_iload_n (M := mX4_cashSetAside) (pc := 4) dX4_cashSetAside_4 rfl ?_
    refine wp_aload_n (M := mX4_cashSetAside) (pc := 5) dX4_cashSetAside_5 rfl ?_
    refine wp_getI (M := mX4_cashSetAside) (pc := 6) fa_X4_41 rfl dX4_cashSetAside_6 (by first | exact kq | exact (hLO i (by omega)).2.1) ?_
    refine wp_icmp_ge (M := mX4_cashSetAside) (pc := 9) (tgt := 65) dX4_cashSetAside_9 rfl (fun t9 => ?_) (fun f9 => ?_)
    · rw [n3] at t9
      have hi2 := n_ge hi (by omega) t9
      subst hi2
      refine wp_iload_n (M := mX4_cashSetAside) (pc := 65) dX4_cashSetAside_65 rfl ?_
      refine wp_ireturn (M := mX4_cashSetAside) (pc := 66) rfl dX4_cashSetAside_66 ?_
      exact k
    · rw [n3] at f9
      have hlt := n_lt hi (by omega) f9
      obtain ⟨⟨o0, o1, o2, o3⟩, o4, o5⟩ := hO i hlt
      refine wp_aload_n (M := mX4_cashSetAside) (pc := 12) dX4_cashSetAside_12 rfl ?_
      refine wp_getR (M := mX4_cashSetAside) (pc := 13) fa_X4_19 rfl dX4_cashSetAside_13 (by first | exact kq | exact (hLO i (by omega)).2.1) (by first | exact rO | exact rT) ?_
      refine wp_iload_n (M := mX4_cashSetAside) (pc := 16) dX4_cashSetAside_16 rfl ?_
      refine wr_aaload (M := mX4_cashSetAside) (pc := 17) dX4_cashSetAside_17 kO (by decide) rfl (by omega) (by decide) (hLO i (by omega)).1 ?_
      refine wp_getI (M := mX4_cashSetAside) (pc := 18) fa_X4_64 rfl dX4_cashSetAside_18 (by first | exact kq | exact (hLO i (by omega)).2.1) ?_
      refine wp_iload_n (M := mX4_cashSetAside) (pc := 21) dX4_cashSetAside_21 rfl ?_
      refine wp_icmp_ne (M := mX4_cashSetAside) (pc := 22) (tgt := 59) dX4_cashSetAside_22 rfl (fun t22 => ?_) (fun f22 => ?_)
      · refine so_iinc (M := mX4_cashSetAside) (pc := 59) (lo' := [_, _, _, _]) dX4_cashSetAside_59 rfl ci_1 (LE rfl) rfl ?_
        refine wp_goto (M := mX4_cashSetAside) (pc := 62) (tgt := 4) dX4_cashSetAside_62 rfl ?_
        rw [show nI i + 1 = nI (i + 1) from nI_1 i]
        have hz := ih (i + 1) (by omega) (by omega)
        first
        | (rw [osm_no (gc_n1 o0 t22)] at hz; exact hz)
        | (rw [osm_no (gc_n2 o1 t34)] at hz; exact hz)
        | (rw [osm_ye (gc_y o0 f22 o1 f34 o4 n6 o5 ht)] at hz; rw [o3]; exact hz)
        | (rw [osm_ye (gc_y o0 f22 o1 f34 o4 n6 o5 ht)] at hz; rw [o2, o3]; exact hz)
        | fail "leaf"
      · refine wp_aload_n (M := mX4_cashSetAside) (pc := 25) dX4_cashSetAside_25 rfl ?_
        refine wp_getR (M := mX4_cashSetAside) (pc := 26) fa_X4_19 rfl dX4_cashSetAside_26 (by first | exact kq | exact (hLO i (by omega)).2.1) (by first | exact rO | exact rT) ?_
        refine wp_iload_n (M := mX4_cashSetAside) (pc := 29) dX4_cashSetAside_29 rfl ?_
        refine wr_aaload (M := mX4_cashSetAside) (pc := 30) dX4_cashSetAside_30 kO (by decide) rfl (by omega) (by decide) (hLO i (by omega)).1 ?_
        refine wp_getI (M := mX4_cashSetAside) (pc := 31) fa_X4_67 rfl dX4_cashSetAside_31 (by first | exact kq | exact (hLO i (by omega)).2.1) ?_
        refine wp_if_ne (M := mX4_cashSetAside) (pc := 34) (tgt := 59) dX4_cashSetAside_34 rfl (fun t34 => ?_) (fun f34 => ?_)
        · refine so_iinc (M := mX4_cashSetAside) (pc := 59) (lo' := [_, _, _, _]) dX4_cashSetAside_59 rfl ci_1 (LE rfl) rfl ?_
          refine wp_goto (M := mX4_cashSetAside) (pc := 62) (tgt := 4) dX4_cashSetAside_62 rfl ?_
          rw [show nI i + 1 = nI (i + 1) from nI_1 i]
          have hz := ih (i + 1) (by omega) (by omega)
          first
          | (rw [osm_no (gc_n1 o0 t22)] at hz; exact hz)
          | (rw [osm_no (gc_n2 o1 t34)] at hz; exact hz)
          | (rw [osm_ye (gc_y o0 f22 o1 f34 o4 n6 o5 ht)] at hz; rw [o3]; exact hz)
          | (rw [osm_ye (gc_y o0 f22 o1 f34 o4 n6 o5 ht)] at hz; rw [o2, o3]; exact hz)
          | fail "leaf"
        · refine wp_iload_n (M := mX4_cashSetAside) (pc := 37) dX4_cashSetAside_37 rfl ?_
          refine wp_aload_n (M := mX4_cashSetAside) (pc := 38) dX4_cashSetAside_38 rfl ?_
          refine wp_getR (M := mX4_cashSetAside) (pc := 39) fa_X4_19 rfl dX4_cashSetAside_39 (by first | exact kq | exact (hLO i (by omega)).2.1) (by first | exact rO | exact rT) ?_
          refine wp_iload_n (M := mX4_cashSetAside) (pc := 42) dX4_cashSetAside_42 rfl ?_
          refine wr_aaload (M := mX4_cashSetAside) (pc := 43) dX4_cashSetAside_43 kO (by decide) rfl (by omega) (by decide) (hLO i (by omega)).1 ?_
          refine wp_getI (M := mX4_cashSetAside) (pc := 44) fa_X4_70 rfl dX4_cashSetAside_44 (by first | exact kq | exact (hLO i (by omega)).2.1) ?_
          refine wp_aload_n (M := mX4_cashSetAside) (pc := 47) dX4_cashSetAside_47 rfl ?_
          refine wp_getR (M := mX4_cashSetAside) (pc := 48) fa_X4_19 rfl dX4_cashSetAside_48 (by first | exact kq | exact (hLO i (by omega)).2.1) (by first | exact rO | exact rT) ?_
          refine wp_iload_n (M := mX4_cashSetAside) (pc := 51) dX4_cashSetAside_51 rfl ?_
          refine wr_aaload (M := mX4_cashSetAside) (pc := 52) dX4_cashSetAside_52 kO (by decide) rfl (by omega) (by decide) (hLO i (by omega)).1 ?_
          refine wp_getI (M := mX4_cashSetAside) (pc := 53) fa_X4_73 rfl dX4_cashSetAside_53 (by first | exact kq | exact (hLO i (by omega)).2.1) ?_
          refine wp_imul (M := mX4_cashSetAside) (pc := 56) dX4_cashSetAside_56 ?_
          refine wp_iadd (M := mX4_cashSetAside) (pc := 57) dX4_cashSetAside_57 ?_
          refine so_istore_n (M := mX4_cashSetAside) (pc := 58) (lo' := [_, _, _, _]) dX4_cashSetAside_58 (LE rfl) (LE rfl) (Or.inr rfl) rfl ?_
          refine so_iinc (M := mX4_cashSetAside) (pc := 59) (lo' := [_, _, _, _]) dX4_cashSetAside_59 rfl ci_1 (LE rfl) rfl ?_
          refine wp_goto (M := mX4_cashSetAside) (pc := 62) (tgt := 4) dX4_cashSetAside_62 rfl ?_
          rw [show nI i + 1 = nI (i + 1) from nI_1 i]
          have hz := ih (i + 1) (by omega) (by omega)
          first
          | (rw [osm_no (gc_n1 o0 t22)] at hz; exact hz)
          | (rw [osm_no (gc_n2 o1 t34)] at hz; exact hz)
          | (rw [osm_ye (gc_y o0 f22 o1 f34 o4 n6 o5 ht)] at hz; rw [o3]; exact hz)
          | (rw [osm_ye (gc_y o0 f22 o1 f34 o4 n6 o5 ht)] at hz; rw [o2, o3]; exact hz)
          | fail "leaf"
set_option maxHeartbeats 4000000 in
set_option maxRecDepth 100000 in
theorem sp_X4_cashSetAside {q : Nat} {l : Lt} {A : Sta} {t : Nat} (hR : RepC h q l A) (ht : t < 2 ^ 31) (k : Q (.inl (some (.int (osm (gc t) A (sO A).length)))) h) : WPx E mX4_cashSetAside 0 [some (.ref q), some (.int (nI t)), none, none] [] (0, 0) h Q := by
  refine wp_iconst (M := mX4_cashSetAside) (pc := 0) (v := 0) dX4_cashSetAside_0 ci_0 ?_
  refine so_istore_n (M := mX4_cashSetAside) (pc := 1) (lo' := [_, _, _, _]) dX4_cashSetAside_1 (LE rfl) (LE rfl) (Or.inr rfl) rfl ?_
  refine wp_iconst (M := mX4_cashSetAside) (pc := 2) (v := 0) dX4_cashSetAside_2 ci_0 ?_
  refine so_istore_n (M := mX4_cashSetAside) (pc := 3) (lo' := [_, _, _, _]) dX4_cashSetAside_3 (LE rfl) (LE rfl) (Or.inr rfl) rfl ?_
  exact lp_X4_cashSetAside hR ht k ((sO A).length + 1) 0 (by omega) (by omega)
end SP
