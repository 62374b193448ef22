section SP
variable {E : Ev} {h : PH} {Q : Rt → PH → Prop}
/-! the text and its reader -/
def TxC (h : PH) (a sa : Nat) (s : Nat → Nat) (n : Nat) : Prop := (kd h a = some (.inl 1) ∧ tg h a = (a, 0, 0)) ∧ (gr h a 0 = some sa ∧ kd h sa = some (.inr (0, 160)) ∧ tg h sa = (a, 1, 0)) ∧ (gi h a 1 = nI n ∧ n ≤ 160) ∧ (∀ j, j < n → gi h sa j = nI (s j) ∧ s j ≤ 255)
def bI : Bool → Int32
  | true => 1
  | false => 0
def rdH (h : PH) (a p : Nat) (b : Bool) : PH := si (si h a 2 (nI p)) a 3 (bI b)
def sgI (s : Nat → Nat) (n p : Nat) : Int32 := if p < n then nI (s p) else -1
def lt1 (s : Nat → Nat) (n c p : Nat) (b : Bool) : Nat × Bool := if b = false ∧ p < n ∧ s p = c then (p + 1, false) else (p, true)
theorem lt1_y {s : Nat → Nat} {n c p : Nat} {b : Bool} (h : b = false ∧ p < n ∧ s p = c) : lt1 s n c p b = (p + 1, false) := if_pos h
theorem lt1_n {s : Nat → Nat} {n c p : Nat} {b : Bool} (h : ¬ (b = false ∧ p < n ∧ s p = c)) : lt1 s n c p b = (p, true) := if_neg h
theorem sgI_eq {s : Nat → Nat} {n p c : Nat} (hc : c ≤ 255) (hs : p < n → s p ≤ 255) : sgI s n p = nI c ↔ p < n ∧ s p = c := by
  unfold sgI
  by_cases h : p < n
  · rw [if_pos h]
    have := hs h
    exact ⟨fun e => ⟨h, (i_eq (by omega) (by omega)).mp e⟩, fun e => by rw [e.2]⟩
  · rw [if_neg h]
    refine ⟨fun e => ?_, fun e => absurd e.1 h⟩
    exact absurd (show nI c < 0 by rw [← e]; decide) (nI_pos (by omega))
theorem bI_0 {b : Bool} (h : bI b = 0) : b = false := by cases b; rfl; exact absurd h (by decide)
theorem bI_n {b : Bool} (h : ¬ bI b = 0) : b = true := by cases b; exact absurd rfl h; rfl
theorem si_same {h : PH} {a k : Nat} {v : Int32} (e : gi h a k = v) : si h a k v = h := by
  have : u2 h.2.1 a k v = h.2.1 := by
    funext x j
    by_cases q : x = a ∧ j = k
    · rw [q.1, q.2, u2_at]; exact e.symm
    · unfold u2; rw [if_neg q]
  unfold si
  rw [this]
theorem si_comm {h : PH} {a j k : Nat} {v w : Int32} (hn : j ≠ k) : si (si h a j v) a k w = si (si h a k w) a j v := by
  have : u2 (u2 h.2.1 a j v) a k w = u2 (u2 h.2.1 a k w) a j v := by
    funext x i
    unfold u2
    by_cases q : x = a ∧ i = k
    · rw [if_pos q, if_neg (fun q9 => hn (q9.2.symm.trans q.2)), if_pos q]
    · rw [if_neg q]
      by_cases q2 : x = a ∧ i = j
      · rw [if_pos q2, if_pos q2]
      · rw [if_neg q2, if_neg q2, if_neg q]
  show (h.1, u2 (u2 h.2.1 a j v) a k w, h.2.2) = (h.1, u2 (u2 h.2.1 a k w) a j v, h.2.2)
  rw [this]
theorem si_si {h : PH} {a k : Nat} {v w : Int32} : si (si h a k v) a k w = si h a k w := by
  have : u2 (u2 h.2.1 a k v) a k w = u2 h.2.1 a k w := by
    funext x i
    unfold u2
    by_cases q : x = a ∧ i = k
    · rw [if_pos q, if_pos q]
    · rw [if_neg q, if_neg q, if_neg q]
  show (h.1, u2 (u2 h.2.1 a k v) a k w, h.2.2) = (h.1, u2 h.2.1 a k w, h.2.2)
  rw [this]
theorem gi_si_same {h : PH} {a k : Nat} {v : Int32} : gi (si h a k v) a k = v := by rw [gi_si, u2_at]
theorem gi_si_oth {h : PH} {a j k : Nat} {v : Int32} (hn : j ≠ k) : gi (si h a k v) a j = gi h a j := by rw [gi_si, u2_ne _ _ (Or.inr hn)]
theorem rdH_1 {h : PH} {a p : Nat} {b : Bool} (hp : gi h a 2 = nI p) : si h a 3 (bI b) = rdH h a p b := by unfold rdH; rw [si_same hp]
theorem rdH_2 {h : PH} {a p : Nat} {b : Bool} : si (si h a 3 (bI b)) a 2 (nI p) = rdH h a p b := si_comm (by decide)
theorem rdH_rdH {h : PH} {a p p' : Nat} {b b' : Bool} : rdH (rdH h a p b) a p' b' = rdH h a p' b' := by
  unfold rdH
  rw [si_comm (h := si h a 2 (nI p)) (j := 3) (k := 2) (by decide), si_si, si_si]
theorem rdH_p {h : PH} {a p : Nat} {b : Bool} : gi (rdH h a p b) a 2 = nI p := by unfold rdH; rw [gi_si_oth (by decide), gi_si_same]
theorem rdH_b {h : PH} {a p : Nat} {b : Bool} : gi (rdH h a p b) a 3 = bI b := by unfold rdH; rw [gi_si_same]
theorem rdH_self {h : PH} {a p : Nat} {b : Bool} (hp : gi h a 2 = nI p) (hb : gi h a 3 = bI b) : rdH h a p b = h := by unfold rdH; rw [si_same hp, si_same hb]
theorem TxC.si {h : PH} {a sa k : Nat} {s : Nat → Nat} {n : Nat} {v : Int32} (H : TxC h a sa s n) (hk : k ≠ 1) : TxC (si h a k v) a sa s n := by
  obtain ⟨h1, h2, h3, h4⟩ := H
  have x1 : sa ≠ a := ne_tg h2.2.2 h1.2 (by simp)
  exact ⟨h1, h2, ⟨by rw [gi_si_oth (fun e => hk e.symm)]; exact h3.1, h3.2⟩, fun j hj => by rw [gi_si_ne _ _ _ x1]; exact h4 j hj⟩
theorem TxC.rd {h : PH} {a sa p : Nat} {b : Bool} {s : Nat → Nat} {n : Nat} (H : TxC h a sa s n) : TxC (rdH h a p b) a sa s n := (H.si (by decide)).si (by decide)
theorem TxC.fr {S : Nat → Prop} {h h' : PH} {a sa : Nat} {s : Nat → Nat} {n : Nat} (H : TxC h a sa s n) (hF : Fr S h h') (hn : ¬ S a) : TxC h' a sa s n := by
  obtain ⟨⟨h1, h1'⟩, ⟨h2, h2', h2''⟩, h3, h4⟩ := H
  obtain ⟨f1, f2, f3, f4⟩ := hF
  have e1 := f4 a (by rw [h1']; exact hn)
  have e2 := f4 sa (by rw [h2'']; exact hn)
  exact ⟨⟨by rw [f1]; exact h1, by rw [f2]; exact h1'⟩, ⟨by rw [e1.2]; exact h2, by rw [f1]; exact h2', by rw [f2]; exact h2''⟩, ⟨by rw [e1.1]; exact h3.1, h3.2⟩, fun j hj => by rw [e2.1]; exact h4 j hj⟩
set_option maxHeartbeats 4000000 in
set_option maxRecDepth 100000 in
theorem sp_X1_isFull {a sa n : Nat} {s : Nat → Nat} (hX : TxC h a sa s n) (k : Q (.inl (some (.int (b01 (160 ≤ n))))) h) : WPx E mX1_isFull 0 [some (.ref a)] [] (0, 0) h Q := by
  refine wp_aload_n (M := mX1_isFull) (pc := 0) dX1_isFull_0 rfl ?_
  refine wp_getI (M := mX1_isFull) (pc := 1) fa_X1_15 rfl dX1_isFull_1 hX.1.1 ?_
  refine wp_sipush (M := mX1_isFull) (pc := 4) (v := 160) dX1_isFull_4 ch_160 ?_
  refine wp_icmp_lt (M := mX1_isFull) (pc := 7) (tgt := 14) dX1_isFull_7 rfl (fun t7 => ?_) (fun f7 => ?_)
  · refine wp_iconst (M := mX1_isFull) (pc := 14) (v := 0) dX1_isFull_14 ci_0 ?_
    refine wp_zreturn (M := mX1_isFull) (pc := 15) rfl (by decide) dX1_isFull_15 ?_
    have e := hX.2.2.1.1
    have hn := hX.2.2.1.2
    first
    | (rw [e] at t7; rw [b01_f (fun c => absurd ((i_lt (b := 160) (by omega) (by decide)).mp t7) (by omega))] at k; exact k)
    | (rw [e] at f7; rw [b01_t (Nat.le_of_not_lt (fun c => f7 ((i_lt (b := 160) (by omega) (by decide)).mpr c)))] at k; exact k)
    | fail "leaf"
  · refine wp_iconst (M := mX1_isFull) (pc := 10) (v := 1) dX1_isFull_10 ci_1 ?_
    refine wp_goto (M := mX1_isFull) (pc := 11) (tgt := 15) dX1_isFull_11 rfl ?_
    refine wp_zreturn (M := mX1_isFull) (pc := 15) rfl (by decide) dX1_isFull_15 ?_
    have e := hX.2.2.1.1
    have hn := hX.2.2.1.2
    first
    | (rw [e] at t7; rw [b01_f (fun c => absurd ((i_lt (b := 160) (by omega) (by decide)).mp t7) (by omega))] at k; exact k)
    | (rw [e] at f7; rw [b01_t (Nat.le_of_not_lt (fun c => f7 ((i_lt (b := 160) (by omega) (by decide)).mpr c)))] at k; exact k)
    | fail "leaf"
set_option maxHeartbeats 4000000 in
set_option maxRecDepth 100000 in
theorem sp_X1_empty {a sa n : Nat} {s : Nat → Nat} (hX : TxC h a sa s n) (k : Q (.inl (some (.int (nI n)))) (si h a 1 (nI 0))) : WPx E mX1_empty 0 [some (.ref a), none] [] (0, 0) h Q := by
  refine wp_aload_n (M := mX1_empty) (pc := 0) dX1_empty_0 rfl ?_
  refine wp_getI (M := mX1_empty) (pc := 1) fa_X1_15 rfl dX1_empty_1 hX.1.1 ?_
  refine so_istore_n (M := mX1_empty) (pc := 4) (lo' := [_, _]) dX1_empty_4 (LE rfl) (LE rfl) (Or.inr rfl) rfl ?_
  refine wp_aload_n (M := mX1_empty) (pc := 5) dX1_empty_5 rfl ?_
  refine wp_iconst (M := mX1_empty) (pc := 6) (v := 0) dX1_empty_6 ci_0 ?_
  refine wp_putI (M := mX1_empty) (pc := 7) fa_X1_15 (Or.inl rfl) dX1_empty_7 hX.1.1 ?_
  refine wp_iload_n (M := mX1_empty) (pc := 10) dX1_empty_10 rfl ?_
  refine wp_ireturn (M := mX1_empty) (pc := 11) rfl dX1_empty_11 ?_
  rw [hX.2.2.1.1]; exact k
set_option maxHeartbeats 4000000 in
set_option maxRecDepth 100000 in
theorem sp_X1_add {a sa n : Nat} {s : Nat → Nat} {c : Int32} (hX : TxC h a sa s n) (hn : n < 160) (k : Q (.inl (some (.int (nI (n + 1))))) (si (si h sa n c) a 1 (nI (n + 1)))) : WPx E mX1_add 0 [some (.ref a), some (.int c)] [] (0, 0) h Q := by
  refine wp_aload_n (M := mX1_add) (pc := 0) dX1_add_0 rfl ?_
  refine wp_getI (M := mX1_add) (pc := 1) fa_X1_15 rfl dX1_add_1 (by first | exact hX.1.1 | exact hX.2.1.2.1) ?_
  refine wp_if_lt (M := mX1_add) (pc := 4) (tgt := 37) dX1_add_4 rfl (fun t4 => ?_) (fun f4 => ?_)
  · rw [hX.2.2.1.1] at t4; exact absurd t4 (nI_pos (by omega))
  · refine wp_aload_n (M := mX1_add) (pc := 7) dX1_add_7 rfl ?_
    refine wp_getI (M := mX1_add) (pc := 8) fa_X1_15 rfl dX1_add_8 (by first | exact hX.1.1 | exact hX.2.1.2.1) ?_
    refine wp_sipush (M := mX1_add) (pc := 11) (v := 160) dX1_add_11 ch_160 ?_
    refine wp_icmp_ge (M := mX1_add) (pc := 14) (tgt := 37) dX1_add_14 rfl (fun t14 => ?_) (fun f14 => ?_)
    · rw [hX.2.2.1.1] at t14; exact absurd ((i_le (a := 160) (by decide) (by omega)).mp t14) (by omega)
    · refine wp_aload_n (M := mX1_add) (pc := 17) dX1_add_17 rfl ?_
      refine wp_getR (M := mX1_add) (pc := 18) fa_X1_9 rfl dX1_add_18 (by first | exact hX.1.1 | exact hX.2.1.2.1) hX.2.1.1 ?_
      refine wp_aload_n (M := mX1_add) (pc := 21) dX1_add_21 rfl ?_
      refine wp_getI (M := mX1_add) (pc := 22) fa_X1_15 rfl dX1_add_22 (by first | exact hX.1.1 | exact hX.2.1.2.1) ?_
      refine wp_iload_n (M := mX1_add) (pc := 25) dX1_add_25 rfl ?_
      refine wr_iastore (M := mX1_add) (pc := 26) dX1_add_26 (by first | exact hX.1.1 | exact hX.2.1.2.1) hX.2.2.1.1 hn (by decide) ?_
      refine wp_aload_n (M := mX1_add) (pc := 27) dX1_add_27 rfl ?_
      refine wp_dup (M := mX1_add) (pc := 28) dX1_add_28 rfl ?_
      refine wp_getI (M := mX1_add) (pc := 29) fa_X1_15 rfl dX1_add_29 (by first | exact hX.1.1 | exact hX.2.1.2.1) ?_
      refine wp_iconst (M := mX1_add) (pc := 32) (v := 1) dX1_add_32 ci_1 ?_
      refine wp_iadd (M := mX1_add) (pc := 33) dX1_add_33 ?_
      refine wp_putI (M := mX1_add) (pc := 34) fa_X1_15 (Or.inl rfl) dX1_add_34 (by first | exact hX.1.1 | exact hX.2.1.2.1) ?_
      refine wp_aload_n (M := mX1_add) (pc := 37) dX1_add_37 rfl ?_
      refine wp_getI (M := mX1_add) (pc := 38) fa_X1_15 rfl dX1_add_38 (by first | exact hX.1.1 | exact hX.2.1.2.1) ?_
      refine wp_ireturn (M := mX1_add) (pc := 41) rfl dX1_add_41 ?_
      have x1 : a ≠ sa := ne_tg hX.1.2 hX.2.1.2.2 (by simp)
      rw [gi_si_ne _ _ _ x1, hX.2.2.1.1, gi_si_same, show nI n + 1 = nI (n + 1) from nI_1 n]
      exact k
set_option maxHeartbeats 4000000 in
set_option maxRecDepth 100000 in
theorem sp_X1_sign {a sa n : Nat} {s : Nat → Nat} {p : Nat} (hX : TxC h a sa s n) (hp : gi h a 2 = nI p) (hp2 : p ≤ 1000) (k : Q (.inl (some (.int (sgI s n p)))) h) : WPx E mX1_sign 0 [some (.ref a)] [] (0, 0) h Q := by
  refine wp_aload_n (M := mX1_sign) (pc := 0) dX1_sign_0 rfl ?_
  refine wp_getI (M := mX1_sign) (pc := 1) fa_X1_19 rfl dX1_sign_1 (by first | exact hX.1.1 | exact hX.2.1.2.1) ?_
  refine wp_if_lt (M := mX1_sign) (pc := 4) (tgt := 40) dX1_sign_4 rfl (fun t4 => ?_) (fun f4 => ?_)
  · rw [hp] at t4; exact absurd t4 (nI_pos (by omega))
  · refine wp_aload_n (M := mX1_sign) (pc := 7) dX1_sign_7 rfl ?_
    refine wp_getI (M := mX1_sign) (pc := 8) fa_X1_19 rfl dX1_sign_8 (by first | exact hX.1.1 | exact hX.2.1.2.1) ?_
    refine wp_aload_n (M := mX1_sign) (pc := 11) dX1_sign_11 rfl ?_
    refine wp_getI (M := mX1_sign) (pc := 12) fa_X1_15 rfl dX1_sign_12 (by first | exact hX.1.1 | exact hX.2.1.2.1) ?_
    refine wp_icmp_ge (M := mX1_sign) (pc := 15) (tgt := 40) dX1_sign_15 rfl (fun t15 => ?_) (fun f15 => ?_)
    · refine wp_iconst (M := mX1_sign) (pc := 40) (v := -1) dX1_sign_40 ci_m1 ?_
      refine wp_ireturn (M := mX1_sign) (pc := 41) rfl dX1_sign_41 ?_
      have e1 := hX.2.2.1.1
      have e2 := hX.2.2.1.2
      first
      | (rw [hp, e1] at t15
         rw [sgI, if_neg (fun c => absurd ((i_le (by omega) (by omega)).mp t15) (by omega))] at k; exact k)
      | (rw [hp] at t25
         rw [sgI, if_neg (fun c => absurd ((i_le (a := 160) (by omega) (by omega)).mp t25) (by omega))] at k; exact k)
      | (rw [hp, e1] at f15
         have hlt : p < n := Nat.lt_of_not_le (fun c => f15 ((i_le (by omega) (by omega)).mpr c))
         rw [(hX.2.2.2 p hlt).1]
         rw [sgI, if_pos hlt] at k; exact k)
      | fail "leaf"
    · refine wp_aload_n (M := mX1_sign) (pc := 18) dX1_sign_18 rfl ?_
      refine wp_getI (M := mX1_sign) (pc := 19) fa_X1_19 rfl dX1_sign_19 (by first | exact hX.1.1 | exact hX.2.1.2.1) ?_
      refine wp_sipush (M := mX1_sign) (pc := 22) (v := 160) dX1_sign_22 ch_160 ?_
      refine wp_icmp_ge (M := mX1_sign) (pc := 25) (tgt := 40) dX1_sign_25 rfl (fun t25 => ?_) (fun f25 => ?_)
      · refine wp_iconst (M := mX1_sign) (pc := 40) (v := -1) dX1_sign_40 ci_m1 ?_
        refine wp_ireturn (M := mX1_sign) (pc := 41) rfl dX1_sign_41 ?_
        have e1 := hX.2.2.1.1
        have e2 := hX.2.2.1.2
        first
        | (rw [hp, e1] at t15
           rw [sgI, if_neg (fun c => absurd ((i_le (by omega) (by omega)).mp t15) (by omega))] at k; exact k)
        | (rw [hp] at t25
           rw [sgI, if_neg (fun c => absurd ((i_le (a := 160) (by omega) (by omega)).mp t25) (by omega))] at k; exact k)
        | (rw [hp, e1] at f15
           have hlt : p < n := Nat.lt_of_not_le (fun c => f15 ((i_le (by omega) (by omega)).mpr c))
           rw [(hX.2.2.2 p hlt).1]
           rw [sgI, if_pos hlt] at k; exact k)
        | fail "leaf"
      · refine wp_aload_n (M := mX1_sign) (pc := 28) dX1_sign_28 rfl ?_
        refine wp_getR (M := mX1_sign) (pc := 29) fa_X1_9 rfl dX1_sign_29 (by first | exact hX.1.1 | exact hX.2.1.2.1) hX.2.1.1 ?_
        refine wp_aload_n (M := mX1_sign) (pc := 32) dX1_sign_32 rfl ?_
        refine wp_getI (M := mX1_sign) (pc := 33) fa_X1_19 rfl dX1_sign_33 (by first | exact hX.1.1 | exact hX.2.1.2.1) ?_
        refine wr_iaload (M := mX1_sign) (pc := 36) dX1_sign_36 (by first | exact hX.1.1 | exact hX.2.1.2.1) hp (by have := (i_le (a := 160) (b := p) (by decide) (by omega)); rw [hp] at f25; exact Nat.lt_of_not_le (fun e => f25 (this.mpr e))) (by decide) ?_
        refine wp_goto (M := mX1_sign) (pc := 37) (tgt := 41) dX1_sign_37 rfl ?_
        refine wp_ireturn (M := mX1_sign) (pc := 41) rfl dX1_sign_41 ?_
        have e1 := hX.2.2.1.1
        have e2 := hX.2.2.1.2
        first
        | (rw [hp, e1] at t15
           rw [sgI, if_neg (fun c => absurd ((i_le (by omega) (by omega)).mp t15) (by omega))] at k; exact k)
        | (rw [hp] at t25
           rw [sgI, if_neg (fun c => absurd ((i_le (a := 160) (by omega) (by omega)).mp t25) (by omega))] at k; exact k)
        | (rw [hp, e1] at f15
           have hlt : p < n := Nat.lt_of_not_le (fun c => f15 ((i_le (by omega) (by omega)).mpr c))
           rw [(hX.2.2.2 p hlt).1]
           rw [sgI, if_pos hlt] at k; exact k)
        | fail "leaf"
set_option maxHeartbeats 4000000 in
set_option maxRecDepth 100000 in
theorem sp_X1_readLetter {a sa n : Nat} {s : Nat → Nat} {p c : Nat} {b : Bool} (hX : TxC h a sa s n) (hp : gi h a 2 = nI p) (hp2 : p ≤ 1000) (hb : gi h a 3 = bI b) (hc : c ≤ 255) (k : Q (.inl none) (rdH h a (lt1 s n c p b).1 (lt1 s n c p b).2)) : WPx E mX1_readLetter 0 [some (.ref a), some (.int (nI c))] [] (0, 0) h Q := by
  refine wp_aload_n (M := mX1_readLetter) (pc := 0) dX1_readLetter_0 rfl ?_
  refine wp_aload_n (M := mX1_readLetter) (pc := 1) dX1_readLetter_1 rfl ?_
  refine wp_getI (M := mX1_readLetter) (pc := 2) fa_X1_22 rfl dX1_readLetter_2 hX.1.1 ?_
  refine wp_if_ne (M := mX1_readLetter) (pc := 5) (tgt := 16) dX1_readLetter_5 rfl (fun t5 => ?_) (fun f5 => ?_)
  · refine wp_iconst (M := mX1_readLetter) (pc := 16) (v := 1) dX1_readLetter_16 ci_1 ?_
    refine wp_goto (M := mX1_readLetter) (pc := 17) (tgt := 21) dX1_readLetter_17 rfl ?_
    refine wp_putI (M := mX1_readLetter) (pc := 21) fa_X1_22 (Or.inr ⟨rfl, (by decide)⟩) dX1_readLetter_21 hX.1.1 ?_
    refine wp_aload_n (M := mX1_readLetter) (pc := 24) dX1_readLetter_24 rfl ?_
    refine wp_getI (M := mX1_readLetter) (pc := 25) fa_X1_22 rfl dX1_readLetter_25 hX.1.1 ?_
    refine wp_if_ne (M := mX1_readLetter) (pc := 28) (tgt := 41) dX1_readLetter_28 rfl (fun t28 => ?_) (fun f28 => ?_)
    · refine wp_return (M := mX1_readLetter) (pc := 41) rfl dX1_readLetter_41 ?_
      have hs : p < n → s p ≤ 255 := fun e => (hX.2.2.2 p e).2
      have z0 : gi (si h a 3 0) a 3 = 0 := gi_si_same
      have z1 : gi (si h a 3 1) a 3 = 1 := gi_si_same
      have z2 : gi (si h a 3 0) a 2 = gi h a 2 := gi_si_oth (by decide)
      first
      | exact absurd z0 t28
      | (rw [z1] at f28; exact absurd f28 (by decide))
      | (rw [lt1_n (fun q9 => t5 (by rw [hb, q9.1]; rfl))] at k; rw [← rdH_1 hp] at k; exact k)
      | (rw [lt1_n (fun q9 => f13 ((sgI_eq hc hs).mpr q9.2))] at k; rw [← rdH_1 hp] at k; exact k)
      | (rw [z2, hp, show nI p + 1 = nI (p + 1) from nI_1 p]
         rw [lt1_y ⟨bI_0 (by rw [← hb]; exact f5), (sgI_eq hc hs).mp t13⟩] at k; rw [← rdH_2] at k; exact k)
      | fail "leaf"
    · refine wp_aload_n (M := mX1_readLetter) (pc := 31) dX1_readLetter_31 rfl ?_
      refine wp_dup (M := mX1_readLetter) (pc := 32) dX1_readLetter_32 rfl ?_
      refine wp_getI (M := mX1_readLetter) (pc := 33) fa_X1_19 rfl dX1_readLetter_33 hX.1.1 ?_
      refine wp_iconst (M := mX1_readLetter) (pc := 36) (v := 1) dX1_readLetter_36 ci_1 ?_
      refine wp_iadd (M := mX1_readLetter) (pc := 37) dX1_readLetter_37 ?_
      refine wp_putI (M := mX1_readLetter) (pc := 38) fa_X1_19 (Or.inl rfl) dX1_readLetter_38 hX.1.1 ?_
      refine wp_return (M := mX1_readLetter) (pc := 41) rfl dX1_readLetter_41 ?_
      have hs : p < n → s p ≤ 255 := fun e => (hX.2.2.2 p e).2
      have z0 : gi (si h a 3 0) a 3 = 0 := gi_si_same
      have z1 : gi (si h a 3 1) a 3 = 1 := gi_si_same
      have z2 : gi (si h a 3 0) a 2 = gi h a 2 := gi_si_oth (by decide)
      first
      | exact absurd z0 t28
      | (rw [z1] at f28; exact absurd f28 (by decide))
      | (rw [lt1_n (fun q9 => t5 (by rw [hb, q9.1]; rfl))] at k; rw [← rdH_1 hp] at k; exact k)
      | (rw [lt1_n (fun q9 => f13 ((sgI_eq hc hs).mpr q9.2))] at k; rw [← rdH_1 hp] at k; exact k)
      | (rw [z2, hp, show nI p + 1 = nI (p + 1) from nI_1 p]
         rw [lt1_y ⟨bI_0 (by rw [← hb]; exact f5), (sgI_eq hc hs).mp t13⟩] at k; rw [← rdH_2] at k; exact k)
      | fail "leaf"
  · refine wp_aload_n (M := mX1_readLetter) (pc := 8) dX1_readLetter_8 rfl ?_
    refine so_V0 (M := mX1_readLetter) (pc := 9) cs_X1_readLetter_50 rfl rfl (LE rfl) (LE rfl) dX1_readLetter_9 hX.1.1 ?_
    refine sp_X1_sign hX hp hp2 ?_
    refine kI ?_
    refine wp_iload_n (M := mX1_readLetter) (pc := 12) dX1_readLetter_12 rfl ?_
    refine wp_icmp_eq (M := mX1_readLetter) (pc := 13) (tgt := 20) dX1_readLetter_13 rfl (fun t13 => ?_) (fun f13 => ?_)
    · refine wp_iconst (M := mX1_readLetter) (pc := 20) (v := 0) dX1_readLetter_20 ci_0 ?_
      refine wp_putI (M := mX1_readLetter) (pc := 21) fa_X1_22 (Or.inr ⟨rfl, (by decide)⟩) dX1_readLetter_21 hX.1.1 ?_
      refine wp_aload_n (M := mX1_readLetter) (pc := 24) dX1_readLetter_24 rfl ?_
      refine wp_getI (M := mX1_readLetter) (pc := 25) fa_X1_22 rfl dX1_readLetter_25 hX.1.1 ?_
      refine wp_if_ne (M := mX1_readLetter) (pc := 28) (tgt := 41) dX1_readLetter_28 rfl (fun t28 => ?_) (fun f28 => ?_)
      · refine wp_return (M := mX1_readLetter) (pc := 41) rfl dX1_readLetter_41 ?_
        have hs : p < n → s p ≤ 255 := fun e => (hX.2.2.2 p e).2
        have z0 : gi (si h a 3 0) a 3 = 0 := gi_si_same
        have z1 : gi (si h a 3 1) a 3 = 1 := gi_si_same
        have z2 : gi (si h a 3 0) a 2 = gi h a 2 := gi_si_oth (by decide)
        first
        | exact absurd z0 t28
        | (rw [z1] at f28; exact absurd f28 (by decide))
        | (rw [lt1_n (fun q9 => t5 (by rw [hb, q9.1]; rfl))] at k; rw [← rdH_1 hp] at k; exact k)
        | (rw [lt1_n (fun q9 => f13 ((sgI_eq hc hs).mpr q9.2))] at k; rw [← rdH_1 hp] at k; exact k)
        | (rw [z2, hp, show nI p + 1 = nI (p + 1) from nI_1 p]
           rw [lt1_y ⟨bI_0 (by rw [← hb]; exact f5), (sgI_eq hc hs).mp t13⟩] at k; rw [← rdH_2] at k; exact k)
        | fail "leaf"
      · refine wp_aload_n (M := mX1_readLetter) (pc := 31) dX1_readLetter_31 rfl ?_
        refine wp_dup (M := mX1_readLetter) (pc := 32) dX1_readLetter_32 rfl ?_
        refine wp_getI (M := mX1_readLetter) (pc := 33) fa_X1_19 rfl dX1_readLetter_33 hX.1.1 ?_
        refine wp_iconst (M := mX1_readLetter) (pc := 36) (v := 1) dX1_readLetter_36 ci_1 ?_
        refine wp_iadd (M := mX1_readLetter) (pc := 37) dX1_readLetter_37 ?_
        refine wp_putI (M := mX1_readLetter) (pc := 38) fa_X1_19 (Or.inl rfl) dX1_readLetter_38 hX.1.1 ?_
        refine wp_return (M := mX1_readLetter) (pc := 41) rfl dX1_readLetter_41 ?_
        have hs : p < n → s p ≤ 255 := fun e => (hX.2.2.2 p e).2
        have z0 : gi (si h a 3 0) a 3 = 0 := gi_si_same
        have z1 : gi (si h a 3 1) a 3 = 1 := gi_si_same
        have z2 : gi (si h a 3 0) a 2 = gi h a 2 := gi_si_oth (by decide)
        first
        | exact absurd z0 t28
        | (rw [z1] at f28; exact absurd f28 (by decide))
        | (rw [lt1_n (fun q9 => t5 (by rw [hb, q9.1]; rfl))] at k; rw [← rdH_1 hp] at k; exact k)
        | (rw [lt1_n (fun q9 => f13 ((sgI_eq hc hs).mpr q9.2))] at k; rw [← rdH_1 hp] at k; exact k)
        | (rw [z2, hp, show nI p + 1 = nI (p + 1) from nI_1 p]
           rw [lt1_y ⟨bI_0 (by rw [← hb]; exact f5), (sgI_eq hc hs).mp t13⟩] at k; rw [← rdH_2] at k; exact k)
        | fail "leaf"
    · refine wp_iconst (M := mX1_readLetter) (pc := 16) (v := 1) dX1_readLetter_16 ci_1 ?_
      refine wp_goto (M := mX1_readLetter) (pc := 17) (tgt := 21) dX1_readLetter_17 rfl ?_
      refine wp_putI (M := mX1_readLetter) (pc := 21) fa_X1_22 (Or.inr ⟨rfl, (by decide)⟩) dX1_readLetter_21 hX.1.1 ?_
      refine wp_aload_n (M := mX1_readLetter) (pc := 24) dX1_readLetter_24 rfl ?_
      refine wp_getI (M := mX1_readLetter) (pc := 25) fa_X1_22 rfl dX1_readLetter_25 hX.1.1 ?_
      refine wp_if_ne (M := mX1_readLetter) (pc := 28) (tgt := 41) dX1_readLetter_28 rfl (fun t28 => ?_) (fun f28 => ?_)
      · refine wp_return (M := mX1_readLetter) (pc := 41) rfl dX1_readLetter_41 ?_
        have hs : p < n → s p ≤ 255 := fun e => (hX.2.2.2 p e).2
        have z0 : gi (si h a 3 0) a 3 = 0 := gi_si_same
        have z1 : gi (si h a 3 1) a 3 = 1 := gi_si_same
        have z2 : gi (si h a 3 0) a 2 = gi h a 2 := gi_si_oth (by decide)
        first
        | exact absurd z0 t28
        | (rw [z1] at f28; exact absurd f28 (by decide))
        | (rw [lt1_n (fun q9 => t5 (by rw [hb, q9.1]; rfl))] at k; rw [← rdH_1 hp] at k; exact k)
        | (rw [lt1_n (fun q9 => f13 ((sgI_eq hc hs).mpr q9.2))] at k; rw [← rdH_1 hp] at k; exact k)
        | (rw [z2, hp, show nI p + 1 = nI (p + 1) from nI_1 p]
           rw [lt1_y ⟨bI_0 (by rw [← hb]; exact f5), (sgI_eq hc hs).mp t13⟩] at k; rw [← rdH_2] at k; exact k)
        | fail "leaf"
      · refine wp_aload_n (M := mX1_readLetter) (pc := 31) dX1_readLetter_31 rfl ?_
        refine wp_dup (M := mX1_readLetter) (pc := 32) dX1_readLetter_32 rfl ?_
        refine wp_getI (M := mX1_readLetter) (pc := 33) fa_X1_19 rfl dX1_readLetter_33 hX.1.1 ?_
        refine wp_iconst (M := mX1_readLetter) (pc := 36) (v := 1) dX1_readLetter_36 ci_1 ?_
        refine wp_iadd (M := mX1_readLetter) (pc := 37) dX1_readLetter_37 ?_
        refine wp_putI (M := mX1_readLetter) (pc := 38) fa_X1_19 (Or.inl rfl) dX1_readLetter_38 hX.1.1 ?_
        refine wp_return (M := mX1_readLetter) (pc := 41) rfl dX1_readLetter_41 ?_
        have hs : p < n → s p ≤ 255 := fun e => (hX.2.2.2 p e).2
        have z0 : gi (si h a 3 0) a 3 = 0 := gi_si_same
        have z1 : gi (si h a 3 1) a 3 = 1 := gi_si_same
        have z2 : gi (si h a 3 0) a 2 = gi h a 2 := gi_si_oth (by decide)
        first
        | exact absurd z0 t28
        | (rw [z1] at f28; exact absurd f28 (by decide))
        | (rw [lt1_n (fun q9 => t5 (by rw [hb, q9.1]; rfl))] at k; rw [← rdH_1 hp] at k; exact k)
        | (rw [lt1_n (fun q9 => f13 ((sgI_eq hc hs).mpr q9.2))] at k; rw [← rdH_1 hp] at k; exact k)
        | (rw [z2, hp, show nI p + 1 = nI (p + 1) from nI_1 p]
           rw [lt1_y ⟨bI_0 (by rw [← hb]; exact f5), (sgI_eq hc hs).mp t13⟩] at k; rw [← rdH_2] at k; exact k)
        | fail "leaf"
end SP
