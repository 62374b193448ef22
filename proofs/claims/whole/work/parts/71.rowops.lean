section SP
variable {E : Ev} {h : PH} {Q : Rt → PH → Prop}
theorem getD_app1 {α : Type} {l r : List α} {i : Nat} {d : α} (h : i < l.length) : (l ++ r).getD i d = l.getD i d := by
  rw [List.getD_eq_getElem?_getD, List.getElem?_append_left h, ← List.getD_eq_getElem?_getD]
theorem getD_app2 {α : Type} {l : List α} {x d : α} : (l ++ [x]).getD l.length d = x := by
  rw [List.getD_eq_getElem?_getD, List.getElem?_append_right (Nat.le_refl _), Nat.sub_self]; rfl
theorem cpy_up {f g : Nat → Int32} {x y i : Nat} : upd (va_cpy f g x y i) (y + i) (f (x + i)) = va_cpy f g x y (i + 1) := by
  funext j
  by_cases e : j = y + i
  · rw [e, upd_at, pk_cpy_in (by omega) (by omega), show y + i - y = i by omega]
  · rw [upd_ne _ _ e]
    by_cases h1 : y ≤ j ∧ j < y + i
    · rw [pk_cpy_in h1.1 h1.2, pk_cpy_in h1.1 (by omega)]
    · rw [pk_cpy_out (by omega), pk_cpy_out (by omega)]
theorem cpy_0 {f g : Nat → Int32} {x y : Nat} : va_cpy f g x y 0 = g := by
  funext j
  rw [pk_cpy_out (by omega)]
section
variable {f g : Nat → Int32} {A : Sta}
theorem RepR.sNew (H : RepR f A) {t kn : Nat} {p z : Int32} (ht : t < sN A) (hk : kn < 3) (h12 : (sO A).length < 12) : RepR (upd (upd (upd (upd (upd f (10 + 4 * (sO A).length + 0) (nI t)) (10 + 4 * (sO A).length + 1) (nI kn)) (10 + 4 * (sO A).length + 2) p) (10 + 4 * (sO A).length + 3) z) 8 (nI ((sO A).length + 1))) (addO A (t, kn, p, z)) := by
  have n6 := H.n6
  have hlo : ∀ j, (j < 10 + 4 * (sO A).length ∨ 10 + 4 * (sO A).length + 4 ≤ j) → j ≠ 8 → upd (upd (upd (upd (upd f (10 + 4 * (sO A).length + 0) (nI t)) (10 + 4 * (sO A).length + 1) (nI kn)) (10 + 4 * (sO A).length + 2) p) (10 + 4 * (sO A).length + 3) z) 8 (nI ((sO A).length + 1)) j = f j := fun j h1 h2 => by
    rw [upd_ne _ _ h2, upd_ne _ _ (by omega), upd_ne _ _ (by omega), upd_ne _ _ (by omega), upd_ne _ _ (by omega)]
  have el : (sO (addO A (t, kn, p, z))).length = (sO A).length + 1 := by show (sO A ++ [_]).length = _; rw [List.length_append]; rfl
  refine ⟨?_, fun t' h1 => (H.2.1 t' h1).congr (fun j a b => hlo j (by omega) (by omega)), fun i hi => ?_⟩
  · have := H.1
    unfold RowN at this ⊢
    rw [hlo 0 (by omega) (by omega), hlo 1 (by omega) (by omega), hlo 2 (by omega) (by omega), hlo 3 (by omega) (by omega), hlo 4 (by omega) (by omega), hlo 5 (by omega) (by omega), hlo 6 (by omega) (by omega), hlo 7 (by omega) (by omega), hlo 9 (by omega) (by omega), upd_at, el]
    exact ⟨this.1, ⟨rfl, by omega⟩, this.2.2⟩
  · rw [el] at hi
    show RowO _ i (sN A) ((sO A ++ [(t, kn, p, z)]).getD i (0, 0, 0, 0))
    by_cases e : i < (sO A).length
    · rw [getD_app1 e]
      exact (H.o e).congr (fun j a b => hlo j (by omega) (by omega))
    · have e2 : i = (sO A).length := by omega
      rw [e2, getD_app2]
      refine ⟨⟨?_, ?_, ?_, ?_⟩, ht, hk⟩
      · rw [upd_ne _ _ (by omega), upd_ne _ _ (by omega), upd_ne _ _ (by omega), upd_ne _ _ (by omega), upd_at]
      · rw [upd_ne _ _ (by omega), upd_ne _ _ (by omega), upd_ne _ _ (by omega), upd_at]
      · rw [upd_ne _ _ (by omega), upd_ne _ _ (by omega), upd_at]
      · rw [upd_ne _ _ (by omega), upd_at]
theorem RepR.sPush (H : RepR f A) {t : Nat} {z : Int32} (ht : t < sN A) (h8 : (sT A t).2.1.length < 8) : RepR (upd (upd f (58 + 217 * t + 8 + (sT A t).2.1.length) z) (58 + 217 * t + 7) (nI ((sT A t).2.1.length + 1))) (pushA A t z) := by
  obtain ⟨h1, ⟨h2, h3⟩, h4, ⟨h5, h6⟩, h7⟩ := H.2.1 t ht
  have el : ((sT A t).2.1 ++ [z]).length = (sT A t).2.1.length + 1 := by rw [List.length_append]; rfl
  refine H.ten ht (fun j hj => by rw [upd_ne _ _ (by omega), upd_ne _ _ (by omega)]) ⟨fun k hk => ?_, ⟨?_, ?_⟩, fun j hj => ?_, ⟨?_, h6⟩, fun j hj => ⟨?_, ?_⟩⟩
  · rw [upd_ne _ _ (by omega), upd_ne _ _ (by omega)]; exact h1 k hk
  · rw [upd_at]; show _ = nI ((sT A t).2.1 ++ [z]).length; rw [el]
  · show ((sT A t).2.1 ++ [z]).length ≤ 8; omega
  · have hj' : j < ((sT A t).2.1 ++ [z]).length := hj
    show _ = ((sT A t).2.1 ++ [z]).getD j 0
    rw [upd_ne _ _ (by omega)]
    by_cases e : j < (sT A t).2.1.length
    · rw [getD_app1 e, upd_ne _ _ (by omega)]; exact h4 j e
    · have e2 : j = (sT A t).2.1.length := by omega
      rw [e2, getD_app2, upd_at]
  · rw [upd_ne _ _ (by omega), upd_ne _ _ (by omega)]; exact h5
  · rw [upd_ne _ _ (by omega), upd_ne _ _ (by omega)]; exact (h7 j hj).1
  · rw [upd_ne _ _ (by omega), upd_ne _ _ (by omega)]; exact (h7 j hj).2
/-- the book without an order -/
def eraO (A : Sta) (i : Nat) : Sta := wO A ((sO A).eraseIdx i)
def shD (d : Nat) (f : Nat → Int32) (lo k : Nat) : Nat → Int32 := fun j => if lo ≤ j ∧ j < k then f (j + d) else f j
theorem shD_up {d lo k : Nat} (h : lo ≤ k) : upd (shD d f lo k) k (f (k + d)) = shD d f lo (k + 1) := by
  funext j
  by_cases e : j = k
  · rw [e, upd_at, shD, if_pos ⟨h, by omega⟩]
  · rw [upd_ne _ _ e]
    unfold shD
    by_cases h1 : lo ≤ j ∧ j < k
    · rw [if_pos h1, if_pos ⟨h1.1, by omega⟩]
    · rw [if_neg h1, if_neg (by omega)]
theorem shD_0 {d lo : Nat} : shD d f lo lo = f := by
  funext j
  unfold shD
  rw [if_neg (by omega)]
theorem shD_ge {d lo k j : Nat} (h : k ≤ j) : shD d f lo k j = f j := by unfold shD; rw [if_neg (by omega)]
theorem shD_lt {d lo k j : Nat} (h : j < lo) : shD d f lo k j = f j := by unfold shD; rw [if_neg (by omega)]
theorem shD_in {d lo k j : Nat} (h1 : lo ≤ j) (h2 : j < k) : shD d f lo k j = f (j + d) := by unfold shD; rw [if_pos ⟨h1, h2⟩]
theorem RepR.era (H : RepR f A) {i : Nat} (hi : i < (sO A).length) (hlo : ∀ j, (j < 10 + 4 * i ∨ 58 ≤ j) → j ≠ 8 → g j = f j) (h8 : g 8 = nI ((sO A).length - 1)) (hsh : ∀ j, 10 + 4 * i ≤ j → j < 10 + 4 * ((sO A).length - 1) → g j = f (j + 4)) : RepR g (eraO A i) := by
  have n12 := H.n12
  have el : (sO (eraO A i)).length = (sO A).length - 1 := by show ((sO A).eraseIdx i).length = _; rw [List.length_eraseIdx_of_lt hi]
  refine ⟨?_, fun t' h1 => (H.2.1 t' h1).congr (fun j a b => hlo j (by omega) (by omega)), fun i' hi' => ?_⟩
  · have := H.1
    unfold RowN at this ⊢
    rw [hlo 0 (by omega) (by omega), hlo 1 (by omega) (by omega), hlo 2 (by omega) (by omega), hlo 3 (by omega) (by omega), hlo 4 (by omega) (by omega), hlo 5 (by omega) (by omega), hlo 6 (by omega) (by omega), hlo 7 (by omega) (by omega), hlo 9 (by omega) (by omega), h8, el]
    exact ⟨this.1, ⟨rfl, by omega⟩, this.2.2⟩
  · rw [el] at hi'
    show RowO g i' (sN A) (((sO A).eraseIdx i).getD i' (0, 0, 0, 0))
    by_cases e : i' < i
    · rw [List.getD_eq_getElem?_getD, List.getElem?_eraseIdx_of_lt e, ← List.getD_eq_getElem?_getD]
      exact (H.o (by omega)).congr (fun j a b => hlo j (by omega) (by omega))
    · rw [List.getD_eq_getElem?_getD, List.getElem?_eraseIdx_of_ge (by omega), ← List.getD_eq_getElem?_getD]
      obtain ⟨⟨o0, o1, o2, o3⟩, o4⟩ := H.o (i := i' + 1) (by omega)
      refine ⟨⟨?_, ?_, ?_, ?_⟩, o4⟩
      · rw [hsh _ (by omega) (by omega)]; exact o0
      · rw [hsh _ (by omega) (by omega)]; exact o1
      · rw [hsh _ (by omega) (by omega)]; exact o2
      · rw [hsh _ (by omega) (by omega)]; exact o3
end
theorem wF_self (A : Sta) (t k : Nat) : wF A t k (fT A t k) = A := by
  refine Prod.ext rfl (Prod.ext rfl (Prod.ext (funext fun y => ?_) rfl))
  show u1 (sT A) t (upd (sT A t).1 k ((sT A t).1 k), (sT A t).2) y = sT A y
  have e : upd (sT A t).1 k ((sT A t).1 k) = (sT A t).1 := by
    funext j
    by_cases ej : j = k
    · rw [ej, upd_at]
    · rw [upd_ne _ _ ej]
  by_cases ey : y = t
  · rw [ey, u1_at, e]
  · rw [u1_ne _ _ ey]
/-- an order is withdrawn -/
def wd1 (A : Sta) (i : Nat) : Sta := eraO (giveT A i) i
/-- all orders of a tenant are withdrawn, from the i-th on -/
def wdR (t : Nat) : Nat → Nat → Sta → Sta
  | 0, _, A => A
  | f + 1, i, A => if i < (sO A).length then (if (oA A i).1 = t then wdR t f i (wd1 A i) else wdR t f (i + 1) A) else A
theorem wdR_stop {t f i : Nat} {A : Sta} (h : ¬ i < (sO A).length) : wdR t f i A = A := by
  cases f
  · rfl
  · exact if_neg h
theorem wdR_y {t f i : Nat} {A : Sta} (h : i < (sO A).length) (h2 : (oA A i).1 = t) : wdR t (f + 1) i A = wdR t f i (wd1 A i) := (if_pos h).trans (if_pos h2)
theorem wdR_n {t f i : Nat} {A : Sta} (h : i < (sO A).length) (h2 : ¬ (oA A i).1 = t) : wdR t (f + 1) i A = wdR t f (i + 1) A := (if_pos h).trans (if_neg h2)
theorem wd1_len {A : Sta} {i : Nat} (h : i < (sO A).length) : (sO (wd1 A i)).length = (sO A).length - 1 := by
  show ((sO (giveT A i)).eraseIdx i).length = _
  rw [giveT_O, List.length_eraseIdx_of_lt h]
theorem wd1_N (A : Sta) (i : Nat) : sN (wd1 A i) = sN A := giveT_N A i
set_option maxHeartbeats 4000000 in
set_option maxRecDepth 100000 in
theorem lp_X7_clear {a : Nat} {g : Nat → Int32} (ka : kd h a = some (.inr (0, 1360))) (k : Q (.inl none) (sw h a (upd (zr 1360 g) 7 (-9)))) : ∀ (m : Nat) (i : Nat), 1360 - i < m → (i ≤ 1360) → WPx E mX7_clear 2 [some (.ref a), some (.int (nI i))] [] (0, 0) (sw h a (zr i g)) Q := by
  intro m
  induction m with
  | zero => intro i hm; exact absurd hm (Nat.not_lt_zero _)
  | succ m ih =>
    intro i hm hi
    refine wp_iload_n (M := mX7_clear) (pc := 2) dX7_clear_2 rfl ?_
    refine wp_sipush (M := mX7_clear) (pc := 3) (v := 1360) dX7_clear_3 ch_1360 ?_
    refine wp_icmp_ge (M := mX7_clear) (pc := 6) (tgt := 19) dX7_clear_6 rfl (fun t6 => ?_) (fun f6 => ?_)
    · have hi2 := n_ge hi (by decide) t6
      subst hi2
      refine wp_aload_n (M := mX7_clear) (pc := 19) dX7_clear_19 rfl ?_
      refine wp_bipush (M := mX7_clear) (pc := 20) (v := 7) dX7_clear_20 cb_7 ?_
      refine wp_bipush (M := mX7_clear) (pc := 22) (v := -9) dX7_clear_22 cb_m9 ?_
      refine wr_iastore (M := mX7_clear) (pc := 24) dX7_clear_24 ka (show (7 : Int32) = nI 7 from rfl) (by omega) (by decide) ?_
      refine wp_return (M := mX7_clear) (pc := 25) rfl dX7_clear_25 ?_
      rw [si_sw]
      exact k
    · have hlt := n_lt hi (by decide) f6
      refine wp_aload_n (M := mX7_clear) (pc := 9) dX7_clear_9 rfl ?_
      refine wp_iload_n (M := mX7_clear) (pc := 10) dX7_clear_10 rfl ?_
      refine wp_iconst (M := mX7_clear) (pc := 11) (v := 0) dX7_clear_11 ci_0 ?_
      refine wr_iastore (M := mX7_clear) (pc := 12) dX7_clear_12 ka rfl (by omega) (by decide) ?_
      refine so_iinc (M := mX7_clear) (pc := 13) (lo' := [_, _]) dX7_clear_13 rfl ci_1 (LE rfl) rfl ?_
      refine wp_goto (M := mX7_clear) (pc := 16) (tgt := 2) dX7_clear_16 rfl ?_
      rw [si_sw, zr_up, show nI i + 1 = nI (i + 1) from nI_1 i]
      exact ih (i + 1) (by omega) (by omega)
set_option maxHeartbeats 4000000 in
set_option maxRecDepth 100000 in
theorem sp_X7_clear {a : Nat} (ka : kd h a = some (.inr (0, 1360))) (k : Q (.inl none) (sw h a (upd (zr 1360 (gi h a)) 7 (-9)))) : WPx E mX7_clear 0 [some (.ref a), none] [] (0, 0) h Q := by
  refine wp_iconst (M := mX7_clear) (pc := 0) (v := 0) dX7_clear_0 ci_0 ?_
  refine so_istore_n (M := mX7_clear) (pc := 1) (lo' := [_, _]) dX7_clear_1 (LE rfl) (LE rfl) (Or.inr rfl) rfl ?_
  have k2 := lp_X7_clear (E := E) (Q := Q) (g := gi h a) ka k 1361 0 (by omega) (by omega)
  rw [zr_0, sw_self] at k2
  exact k2
set_option maxHeartbeats 4000000 in
set_option maxRecDepth 100000 in
theorem lp_X7_copy {b c N1 N2 x y : Nat} (kb : kd h b = some (.inr (0, N1))) (kc : kd h c = some (.inr (0, N2))) (hbc : b ≠ c) (hN1 : N1 < 2 ^ 31) (hN2 : N2 < 2 ^ 31) (h1 : x + 1360 ≤ N1) (h2 : y + 1360 ≤ N2) (k : Q (.inl none) (sw h c (va_cpy (gi h b) (gi h c) x y 1360))) : ∀ (m : Nat) (i : Nat), 1360 - i < m → (i ≤ 1360) → WPx E mX7_copy 3 [some (.ref b), some (.int (nI x)), some (.ref c), some (.int (nI y)), some (.int (nI i))] [] (0, 0) (sw h c (va_cpy (gi h b) (gi h c) x y i)) Q := by
  intro m
  induction m with
  | zero => intro i hm; exact absurd hm (Nat.not_lt_zero _)
  | succ m ih =>
    intro i hm hi
    refine wp_iload (M := mX7_copy) (pc := 3) dX7_copy_3 rfl ?_
    refine wp_sipush (M := mX7_copy) (pc := 5) (v := 1360) dX7_copy_5 ch_1360 ?_
    refine wp_icmp_ge (M := mX7_copy) (pc := 8) (tgt := 29) dX7_copy_8 rfl (fun t8 => ?_) (fun f8 => ?_)
    · have hi2 := n_ge hi (by decide) t8
      subst hi2
      refine wp_return (M := mX7_copy) (pc := 29) rfl dX7_copy_29 ?_
      exact k
    · have hlt := n_lt hi (by decide) f8
      refine wp_aload_n (M := mX7_copy) (pc := 11) dX7_copy_11 rfl ?_
      refine wp_iload_n (M := mX7_copy) (pc := 12) dX7_copy_12 rfl ?_
      refine wp_iload (M := mX7_copy) (pc := 13) dX7_copy_13 rfl ?_
      refine wp_iadd (M := mX7_copy) (pc := 15) dX7_copy_15 ?_
      refine wp_aload_n (M := mX7_copy) (pc := 16) dX7_copy_16 rfl ?_
      refine wp_iload_n (M := mX7_copy) (pc := 17) dX7_copy_17 rfl ?_
      refine wp_iload (M := mX7_copy) (pc := 18) dX7_copy_18 rfl ?_
      refine wp_iadd (M := mX7_copy) (pc := 20) dX7_copy_20 ?_
      refine wr_iaload (M := mX7_copy) (pc := 21) dX7_copy_21 (by first | exact kb | exact kc) (ia rfl rfl) (by omega) (by first | exact hN1 | exact hN2) ?_
      refine wr_iastore (M := mX7_copy) (pc := 22) dX7_copy_22 (by first | exact kb | exact kc) (ia rfl rfl) (by omega) (by first | exact hN1 | exact hN2) ?_
      refine so_iinc (M := mX7_copy) (pc := 23) (lo' := [_, _, _, _, _]) dX7_copy_23 rfl ci_1 (LE rfl) rfl ?_
      refine wp_goto (M := mX7_copy) (pc := 26) (tgt := 3) dX7_copy_26 rfl ?_
      rw [gi_sw_ne _ _ hbc, si_sw, cpy_up, show nI i + 1 = nI (i + 1) from nI_1 i]
      exact ih (i + 1) (by omega) (by omega)
set_option maxHeartbeats 4000000 in
set_option maxRecDepth 100000 in
theorem sp_X7_copy {b c N1 N2 x y : Nat} (kb : kd h b = some (.inr (0, N1))) (kc : kd h c = some (.inr (0, N2))) (hbc : b ≠ c) (hN1 : N1 < 2 ^ 31) (hN2 : N2 < 2 ^ 31) (h1 : x + 1360 ≤ N1) (h2 : y + 1360 ≤ N2) (k : Q (.inl none) (sw h c (va_cpy (gi h b) (gi h c) x y 1360))) : WPx E mX7_copy 0 [some (.ref b), some (.int (nI x)), some (.ref c), some (.int (nI y)), none] [] (0, 0) h Q := by
  refine wp_iconst (M := mX7_copy) (pc := 0) (v := 0) dX7_copy_0 ci_0 ?_
  refine so_istore (M := mX7_copy) (pc := 1) (lo' := [_, _, _, _, _]) dX7_copy_1 (LE rfl) (LE rfl) (Or.inr rfl) rfl ?_
  have k2 := lp_X7_copy (E := E) (Q := Q) kb kc hbc hN1 hN2 h1 h2 k 1361 0 (by omega) (by omega)
  rw [cpy_0, sw_self] at k2
  exact k2
set_option maxHeartbeats 4000000 in
set_option maxRecDepth 100000 in
theorem sp_X7_whyNot0 {a : Nat} {A : Sta} {t p z : Int32} (ka : kd h a = some (.inr (0, 1360))) (hR : RepR (gi h a) A) (k0 : ∀ j, j < sN A → t = nI j → wth p 1 99 → wth z 1 99 → canP A 0 j p z → Q (.inl (some (.int 0))) h) (k1 : ¬ isT A t → Q (.inl (some (.int 1))) h) (k2 : isT A t → ¬ (wth p 1 99 ∧ wth z 1 99) → Q (.inl (some (.int 2))) h) (k3 : ∀ j, j < sN A → t = nI j → wth p 1 99 → wth z 1 99 → ¬ canP A 0 j p z → Q (.inl (some (.int 3))) h) : WPx E mX7_whyNot 0 [some (.ref a), some (.int t), some (.int 0), some (.int p), some (.int z), none] [] (0, 0) h Q := by
  have n6 := hR.n6
  have n12 := hR.n12
  refine wp_aload_n (M := mX7_whyNot) (pc := 0) dX7_whyNot_0 rfl ?_
  refine wp_iload_n (M := mX7_whyNot) (pc := 1) dX7_whyNot_1 rfl ?_
  refine so_S2 (M := mX7_whyNot) (pc := 2) cs_X7_whyNot_94 rfl rfl (LE rfl) (LE rfl) dX7_whyNot_2 ?_
  refine sp_X7_isTenant ka hR ?_
  refine kI ?_
  refine wp_if_ne (M := mX7_whyNot) (pc := 5) (tgt := 10) dX7_whyNot_5 rfl (fun t5 => ?_) (fun f5 => ?_)
  · obtain ⟨j, hj, rfl⟩ := b01_n t5
    refine wp_iload_n (M := mX7_whyNot) (pc := 10) dX7_whyNot_10 rfl ?_
    refine wp_i2l (M := mX7_whyNot) (pc := 11) dX7_whyNot_11 ?_
    refine wp_lconst (M := mX7_whyNot) (pc := 12) (v := 1) dX7_whyNot_12 cl_1 ?_
    refine wp_ldc2_w (M := mX7_whyNot) (pc := 13) wv_X7_206 dX7_whyNot_13 ?_
    refine so_S3 (M := mX7_whyNot) (pc := 16) cs_X7_whyNot_65 rfl rfl (LE rfl) (LE rfl) dX7_whyNot_16 ?_
    refine sp_X7_in ?_
    rw [(b01_iff (wl (x := p) (a := 1) (b := 99) (a' := 1) (b' := 99) (by decide) (by decide)))]
    refine kI ?_
    refine wp_if_eq (M := mX7_whyNot) (pc := 19) (tgt := 35) dX7_whyNot_19 rfl (fun t19 => ?_) (fun f19 => ?_)
    · refine wp_iconst (M := mX7_whyNot) (pc := 35) (v := 2) dX7_whyNot_35 ci_2 ?_
      refine wp_ireturn (M := mX7_whyNot) (pc := 36) rfl dX7_whyNot_36 ?_
      first
      | exact k2 ⟨j, hj, rfl⟩ (fun e => b01_z t19 e.1)
      | exact k2 ⟨j, hj, rfl⟩ (fun e => b01_z f32 e.2)
      | fail "leaf"
    · refine wp_iload (M := mX7_whyNot) (pc := 22) dX7_whyNot_22 rfl ?_
      refine wp_i2l (M := mX7_whyNot) (pc := 24) dX7_whyNot_24 ?_
      refine wp_lconst (M := mX7_whyNot) (pc := 25) (v := 1) dX7_whyNot_25 cl_1 ?_
      refine wp_ldc2_w (M := mX7_whyNot) (pc := 26) wv_X7_206 dX7_whyNot_26 ?_
      refine so_S3 (M := mX7_whyNot) (pc := 29) cs_X7_whyNot_65 rfl rfl (LE rfl) (LE rfl) dX7_whyNot_29 ?_
      refine sp_X7_in ?_
      rw [(b01_iff (wl (x := z) (a := 1) (b := 99) (a' := 1) (b' := 99) (by decide) (by decide)))]
      refine kI ?_
      refine wp_if_ne (M := mX7_whyNot) (pc := 32) (tgt := 37) dX7_whyNot_32 rfl (fun t32 => ?_) (fun f32 => ?_)
      · refine wp_aload_n (M := mX7_whyNot) (pc := 37) dX7_whyNot_37 rfl ?_
        refine wp_bipush (M := mX7_whyNot) (pc := 38) (v := 8) dX7_whyNot_38 cb_8 ?_
        refine wr_iaload (M := mX7_whyNot) (pc := 40) dX7_whyNot_40 ka (show (8 : Int32) = nI 8 from rfl) (by omega) (by decide) ?_
        refine wp_bipush (M := mX7_whyNot) (pc := 41) (v := 12) dX7_whyNot_41 cb_12 ?_
        refine wp_icmp_ge (M := mX7_whyNot) (pc := 43) (tgt := 58) dX7_whyNot_43 rfl (fun t43 => ?_) (fun f43 => ?_)
        · rw [hR.f8] at t43
          have hl : ¬ (sO A).length < 12 := fun e => absurd ((i_le (a := 12) (by decide) (by omega)).mp t43) (by omega)
          refine wp_iconst (M := mX7_whyNot) (pc := 58) (v := 0) dX7_whyNot_58 ci_0 ?_
          refine so_istore (M := mX7_whyNot) (pc := 59) (lo' := [_, _, _, _, _, _]) dX7_whyNot_59 (LE rfl) (LE rfl) (Or.inr rfl) rfl ?_
          refine wp_iload_n (M := mX7_whyNot) (pc := 61) dX7_whyNot_61 rfl ?_
          refine wp_if_ne (M := mX7_whyNot) (pc := 62) (tgt := 95) dX7_whyNot_62 rfl (fun t62 => ?_) (fun f62 => ?_)
          · exact absurd rfl t62
          · refine wp_iload (M := mX7_whyNot) (pc := 65) dX7_whyNot_65 rfl ?_
            refine wp_if_eq (M := mX7_whyNot) (pc := 67) (tgt := 89) dX7_whyNot_67 rfl (fun t67 => ?_) (fun f67 => ?_)
            · refine wp_iconst (M := mX7_whyNot) (pc := 89) (v := 0) dX7_whyNot_89 ci_0 ?_
              refine so_istore (M := mX7_whyNot) (pc := 90) (lo' := [_, _, _, _, _, _]) dX7_whyNot_90 (LE rfl) (LE rfl) (Or.inr rfl) rfl ?_
              refine wp_goto (M := mX7_whyNot) (pc := 92) (tgt := 158) dX7_whyNot_92 rfl ?_
              refine wp_iload (M := mX7_whyNot) (pc := 158) dX7_whyNot_158 rfl ?_
              refine wp_if_eq (M := mX7_whyNot) (pc := 160) (tgt := 167) dX7_whyNot_160 rfl (fun t160 => ?_) (fun f160 => ?_)
              · refine wp_iconst (M := mX7_whyNot) (pc := 167) (v := 3) dX7_whyNot_167 ci_3 ?_
                refine wp_ireturn (M := mX7_whyNot) (pc := 168) rfl dX7_whyNot_168 ?_
                first
                | exact absurd t67 (by decide)
                | exact absurd rfl f67
                | exact absurd t102 (by decide)
                | exact absurd rfl f102
                | exact absurd t127 (by decide)
                | exact absurd rfl f127
                | exact absurd t160 (by decide)
                | exact absurd rfl f160
                | exact k3 j hj rfl (b01_n f19) (b01_n t32) (fun c => hl c.1)
                | exact k3 j hj rfl (b01_n f19) (b01_n t32) (fun c => c.2.1 (b01_n t51))
                | exact k3 j hj rfl (b01_n f19) (b01_n t32) (fun c => Int32.not_le.mpr t82 (by have := c.2.2; rw [if_pos rfl] at this; exact this))
                | exact k3 j hj rfl (b01_n f19) (b01_n t32) (fun c => Int32.not_le.mpr t112 (by have := c.2.2; rw [if_neg (by decide), if_pos rfl] at this; exact this))
                | exact k3 j hj rfl (b01_n f19) (b01_n t32) (fun c => Int32.not_le.mpr t148 (by have := c.2.2; rw [if_neg (by decide), if_neg (by decide)] at this; exact this))
                | exact k0 j hj rfl (b01_n f19) (b01_n t32) ⟨hl, b01_z f51, by rw [if_pos rfl]; exact Int32.not_lt.mp f82⟩
                | exact k0 j hj rfl (b01_n f19) (b01_n t32) ⟨hl, b01_z f51, by rw [if_neg (by decide), if_pos rfl]; exact Int32.not_lt.mp f112⟩
                | exact k0 j hj rfl (b01_n f19) (b01_n t32) ⟨hl, b01_z f51, by rw [if_neg (by decide), if_neg (by decide)]; exact Int32.not_lt.mp f148⟩
                | fail "leaf"
              · refine wp_iconst (M := mX7_whyNot) (pc := 163) (v := 0) dX7_whyNot_163 ci_0 ?_
                refine wp_goto (M := mX7_whyNot) (pc := 164) (tgt := 168) dX7_whyNot_164 rfl ?_
                refine wp_ireturn (M := mX7_whyNot) (pc := 168) rfl dX7_whyNot_168 ?_
                first
                | exact absurd t67 (by decide)
                | exact absurd rfl f67
                | exact absurd t102 (by decide)
                | exact absurd rfl f102
                | exact absurd t127 (by decide)
                | exact absurd rfl f127
                | exact absurd t160 (by decide)
                | exact absurd rfl f160
                | exact k3 j hj rfl (b01_n f19) (b01_n t32) (fun c => hl c.1)
                | exact k3 j hj rfl (b01_n f19) (b01_n t32) (fun c => c.2.1 (b01_n t51))
                | exact k3 j hj rfl (b01_n f19) (b01_n t32) (fun c => Int32.not_le.mpr t82 (by have := c.2.2; rw [if_pos rfl] at this; exact this))
                | exact k3 j hj rfl (b01_n f19) (b01_n t32) (fun c => Int32.not_le.mpr t112 (by have := c.2.2; rw [if_neg (by decide), if_pos rfl] at this; exact this))
                | exact k3 j hj rfl (b01_n f19) (b01_n t32) (fun c => Int32.not_le.mpr t148 (by have := c.2.2; rw [if_neg (by decide), if_neg (by decide)] at this; exact this))
                | exact k0 j hj rfl (b01_n f19) (b01_n t32) ⟨hl, b01_z f51, by rw [if_pos rfl]; exact Int32.not_lt.mp f82⟩
                | exact k0 j hj rfl (b01_n f19) (b01_n t32) ⟨hl, b01_z f51, by rw [if_neg (by decide), if_pos rfl]; exact Int32.not_lt.mp f112⟩
                | exact k0 j hj rfl (b01_n f19) (b01_n t32) ⟨hl, b01_z f51, by rw [if_neg (by decide), if_neg (by decide)]; exact Int32.not_lt.mp f148⟩
                | fail "leaf"
            · refine wp_aload_n (M := mX7_whyNot) (pc := 70) dX7_whyNot_70 rfl ?_
              refine wp_iload_n (M := mX7_whyNot) (pc := 71) dX7_whyNot_71 rfl ?_
              refine so_S1 (M := mX7_whyNot) (pc := 72) cs_X7_whyNot_90 rfl rfl (LE rfl) (LE rfl) dX7_whyNot_72 ?_
              refine sp_X7_at ?_
              refine kI ?_
              refine wp_iconst (M := mX7_whyNot) (pc := 75) (v := 4) dX7_whyNot_75 ci_4 ?_
              refine wp_iadd (M := mX7_whyNot) (pc := 76) dX7_whyNot_76 ?_
              refine wr_iaload (M := mX7_whyNot) (pc := 77) dX7_whyNot_77 ka (ia rfl (show (4 : Int32) = nI 4 from rfl)) (by omega) (by decide) ?_
              refine wp_iload_n (M := mX7_whyNot) (pc := 78) dX7_whyNot_78 rfl ?_
              refine wp_iload (M := mX7_whyNot) (pc := 79) dX7_whyNot_79 rfl ?_
              refine wp_imul (M := mX7_whyNot) (pc := 81) dX7_whyNot_81 ?_
              refine wp_icmp_lt (M := mX7_whyNot) (pc := 82) (tgt := 89) dX7_whyNot_82 rfl (fun t82 => ?_) (fun f82 => ?_)
              · rw [hR.tF hj (by decide)] at t82
                refine wp_iconst (M := mX7_whyNot) (pc := 89) (v := 0) dX7_whyNot_89 ci_0 ?_
                refine so_istore (M := mX7_whyNot) (pc := 90) (lo' := [_, _, _, _, _, _]) dX7_whyNot_90 (LE rfl) (LE rfl) (Or.inr rfl) rfl ?_
                refine wp_goto (M := mX7_whyNot) (pc := 92) (tgt := 158) dX7_whyNot_92 rfl ?_
                refine wp_iload (M := mX7_whyNot) (pc := 158) dX7_whyNot_158 rfl ?_
                refine wp_if_eq (M := mX7_whyNot) (pc := 160) (tgt := 167) dX7_whyNot_160 rfl (fun t160 => ?_) (fun f160 => ?_)
                · refine wp_iconst (M := mX7_whyNot) (pc := 167) (v := 3) dX7_whyNot_167 ci_3 ?_
                  refine wp_ireturn (M := mX7_whyNot) (pc := 168) rfl dX7_whyNot_168 ?_
                  first
                  | exact absurd t67 (by decide)
                  | exact absurd rfl f67
                  | exact absurd t102 (by decide)
                  | exact absurd rfl f102
                  | exact absurd t127 (by decide)
                  | exact absurd rfl f127
                  | exact absurd t160 (by decide)
                  | exact absurd rfl f160
                  | exact k3 j hj rfl (b01_n f19) (b01_n t32) (fun c => hl c.1)
                  | exact k3 j hj rfl (b01_n f19) (b01_n t32) (fun c => c.2.1 (b01_n t51))
                  | exact k3 j hj rfl (b01_n f19) (b01_n t32) (fun c => Int32.not_le.mpr t82 (by have := c.2.2; rw [if_pos rfl] at this; exact this))
                  | exact k3 j hj rfl (b01_n f19) (b01_n t32) (fun c => Int32.not_le.mpr t112 (by have := c.2.2; rw [if_neg (by decide), if_pos rfl] at this; exact this))
                  | exact k3 j hj rfl (b01_n f19) (b01_n t32) (fun c => Int32.not_le.mpr t148 (by have := c.2.2; rw [if_neg (by decide), if_neg (by decide)] at this; exact this))
                  | exact k0 j hj rfl (b01_n f19) (b01_n t32) ⟨hl, b01_z f51, by rw [if_pos rfl]; exact Int32.not_lt.mp f82⟩
                  | exact k0 j hj rfl (b01_n f19) (b01_n t32) ⟨hl, b01_z f51, by rw [if_neg (by decide), if_pos rfl]; exact Int32.not_lt.mp f112⟩
                  | exact k0 j hj rfl (b01_n f19) (b01_n t32) ⟨hl, b01_z f51, by rw [if_neg (by decide), if_neg (by decide)]; exact Int32.not_lt.mp f148⟩
                  | fail "leaf"
                · refine wp_iconst (M := mX7_whyNot) (pc := 163) (v := 0) dX7_whyNot_163 ci_0 ?_
                  refine wp_goto (M := mX7_whyNot) (pc := 164) (tgt := 168) dX7_whyNot_164 rfl ?_
                  refine wp_ireturn (M := mX7_whyNot) (pc := 168) rfl dX7_whyNot_168 ?_
                  first
                  | exact absurd t67 (by decide)
                  | exact absurd rfl f67
                  | exact absurd t102 (by decide)
                  | exact absurd rfl f102
                  | exact absurd t127 (by decide)
                  | exact absurd rfl f127
                  | exact absurd t160 (by decide)
                  | exact absurd rfl f160
                  | exact k3 j hj rfl (b01_n f19) (b01_n t32) (fun c => hl c.1)
                  | exact k3 j hj rfl (b01_n f19) (b01_n t32) (fun c => c.2.1 (b01_n t51))
                  | exact k3 j hj rfl (b01_n f19) (b01_n t32) (fun c => Int32.not_le.mpr t82 (by have := c.2.2; rw [if_pos rfl] at this; exact this))
                  | exact k3 j hj rfl (b01_n f19) (b01_n t32) (fun c => Int32.not_le.mpr t112 (by have := c.2.2; rw [if_neg (by decide), if_pos rfl] at this; exact this))
                  | exact k3 j hj rfl (b01_n f19) (b01_n t32) (fun c => Int32.not_le.mpr t148 (by have := c.2.2; rw [if_neg (by decide), if_neg (by decide)] at this; exact this))
                  | exact k0 j hj rfl (b01_n f19) (b01_n t32) ⟨hl, b01_z f51, by rw [if_pos rfl]; exact Int32.not_lt.mp f82⟩
                  | exact k0 j hj rfl (b01_n f19) (b01_n t32) ⟨hl, b01_z f51, by rw [if_neg (by decide), if_pos rfl]; exact Int32.not_lt.mp f112⟩
                  | exact k0 j hj rfl (b01_n f19) (b01_n t32) ⟨hl, b01_z f51, by rw [if_neg (by decide), if_neg (by decide)]; exact Int32.not_lt.mp f148⟩
                  | fail "leaf"
              · rw [hR.tF hj (by decide)] at f82
                refine wp_iconst (M := mX7_whyNot) (pc := 85) (v := 1) dX7_whyNot_85 ci_1 ?_
                refine wp_goto (M := mX7_whyNot) (pc := 86) (tgt := 90) dX7_whyNot_86 rfl ?_
                refine so_istore (M := mX7_whyNot) (pc := 90) (lo' := [_, _, _, _, _, _]) dX7_whyNot_90 (LE rfl) (LE rfl) (Or.inr rfl) rfl ?_
                refine wp_goto (M := mX7_whyNot) (pc := 92) (tgt := 158) dX7_whyNot_92 rfl ?_
                refine wp_iload (M := mX7_whyNot) (pc := 158) dX7_whyNot_158 rfl ?_
                refine wp_if_eq (M := mX7_whyNot) (pc := 160) (tgt := 167) dX7_whyNot_160 rfl (fun t160 => ?_) (fun f160 => ?_)
                · refine wp_iconst (M := mX7_whyNot) (pc := 167) (v := 3) dX7_whyNot_167 ci_3 ?_
                  refine wp_ireturn (M := mX7_whyNot) (pc := 168) rfl dX7_whyNot_168 ?_
                  first
                  | exact absurd t67 (by decide)
                  | exact absurd rfl f67
                  | exact absurd t102 (by decide)
                  | exact absurd rfl f102
                  | exact absurd t127 (by decide)
                  | exact absurd rfl f127
                  | exact absurd t160 (by decide)
                  | exact absurd rfl f160
                  | exact k3 j hj rfl (b01_n f19) (b01_n t32) (fun c => hl c.1)
                  | exact k3 j hj rfl (b01_n f19) (b01_n t32) (fun c => c.2.1 (b01_n t51))
                  | exact k3 j hj rfl (b01_n f19) (b01_n t32) (fun c => Int32.not_le.mpr t82 (by have := c.2.2; rw [if_pos rfl] at this; exact this))
                  | exact k3 j hj rfl (b01_n f19) (b01_n t32) (fun c => Int32.not_le.mpr t112 (by have := c.2.2; rw [if_neg (by decide), if_pos rfl] at this; exact this))
                  | exact k3 j hj rfl (b01_n f19) (b01_n t32) (fun c => Int32.not_le.mpr t148 (by have := c.2.2; rw [if_neg (by decide), if_neg (by decide)] at this; exact this))
                  | exact k0 j hj rfl (b01_n f19) (b01_n t32) ⟨hl, b01_z f51, by rw [if_pos rfl]; exact Int32.not_lt.mp f82⟩
                  | exact k0 j hj rfl (b01_n f19) (b01_n t32) ⟨hl, b01_z f51, by rw [if_neg (by decide), if_pos rfl]; exact Int32.not_lt.mp f112⟩
                  | exact k0 j hj rfl (b01_n f19) (b01_n t32) ⟨hl, b01_z f51, by rw [if_neg (by decide), if_neg (by decide)]; exact Int32.not_lt.mp f148⟩
                  | fail "leaf"
                · refine wp_iconst (M := mX7_whyNot) (pc := 163) (v := 0) dX7_whyNot_163 ci_0 ?_
                  refine wp_goto (M := mX7_whyNot) (pc := 164) (tgt := 168) dX7_whyNot_164 rfl ?_
                  refine wp_ireturn (M := mX7_whyNot) (pc := 168) rfl dX7_whyNot_168 ?_
                  first
                  | exact absurd t67 (by decide)
                  | exact absurd rfl f67
                  | exact absurd t102 (by decide)
                  | exact absurd rfl f102
                  | exact absurd t127 (by decide)
                  | exact absurd rfl f127
                  | exact absurd t160 (by decide)
                  | exact absurd rfl f160
                  | exact k3 j hj rfl (b01_n f19) (b01_n t32) (fun c => hl c.1)
                  | exact k3 j hj rfl (b01_n f19) (b01_n t32) (fun c => c.2.1 (b01_n t51))
                  | exact k3 j hj rfl (b01_n f19) (b01_n t32) (fun c => Int32.not_le.mpr t82 (by have := c.2.2; rw [if_pos rfl] at this; exact this))
                  | exact k3 j hj rfl (b01_n f19) (b01_n t32) (fun c => Int32.not_le.mpr t112 (by have := c.2.2; rw [if_neg (by decide), if_pos rfl] at this; exact this))
                  | exact k3 j hj rfl (b01_n f19) (b01_n t32) (fun c => Int32.not_le.mpr t148 (by have := c.2.2; rw [if_neg (by decide), if_neg (by decide)] at this; exact this))
                  | exact k0 j hj rfl (b01_n f19) (b01_n t32) ⟨hl, b01_z f51, by rw [if_pos rfl]; exact Int32.not_lt.mp f82⟩
                  | exact k0 j hj rfl (b01_n f19) (b01_n t32) ⟨hl, b01_z f51, by rw [if_neg (by decide), if_pos rfl]; exact Int32.not_lt.mp f112⟩
                  | exact k0 j hj rfl (b01_n f19) (b01_n t32) ⟨hl, b01_z f51, by rw [if_neg (by decide), if_neg (by decide)]; exact Int32.not_lt.mp f148⟩
                  | fail "leaf"
        · rw [hR.f8] at f43
          have hl : (sO A).length < 12 := Nat.lt_of_not_le (fun e => f43 ((i_le (a := 12) (by decide) (by omega)).mpr e))
          refine wp_aload_n (M := mX7_whyNot) (pc := 46) dX7_whyNot_46 rfl ?_
          refine wp_iload_n (M := mX7_whyNot) (pc := 47) dX7_whyNot_47 rfl ?_
          refine so_S2 (M := mX7_whyNot) (pc := 48) cs_X7_whyNot_130 rfl rfl (LE rfl) (LE rfl) dX7_whyNot_48 ?_
          refine sp_X7_isSuspended ka hR hj ?_
          refine kI ?_
          refine wp_if_ne (M := mX7_whyNot) (pc := 51) (tgt := 58) dX7_whyNot_51 rfl (fun t51 => ?_) (fun f51 => ?_)
          · refine wp_iconst (M := mX7_whyNot) (pc := 58) (v := 0) dX7_whyNot_58 ci_0 ?_
            refine so_istore (M := mX7_whyNot) (pc := 59) (lo' := [_, _, _, _, _, _]) dX7_whyNot_59 (LE rfl) (LE rfl) (Or.inr rfl) rfl ?_
            refine wp_iload_n (M := mX7_whyNot) (pc := 61) dX7_whyNot_61 rfl ?_
            refine wp_if_ne (M := mX7_whyNot) (pc := 62) (tgt := 95) dX7_whyNot_62 rfl (fun t62 => ?_) (fun f62 => ?_)
            · exact absurd rfl t62
            · refine wp_iload (M := mX7_whyNot) (pc := 65) dX7_whyNot_65 rfl ?_
              refine wp_if_eq (M := mX7_whyNot) (pc := 67) (tgt := 89) dX7_whyNot_67 rfl (fun t67 => ?_) (fun f67 => ?_)
              · refine wp_iconst (M := mX7_whyNot) (pc := 89) (v := 0) dX7_whyNot_89 ci_0 ?_
                refine so_istore (M := mX7_whyNot) (pc := 90) (lo' := [_, _, _, _, _, _]) dX7_whyNot_90 (LE rfl) (LE rfl) (Or.inr rfl) rfl ?_
                refine wp_goto (M := mX7_whyNot) (pc := 92) (tgt := 158) dX7_whyNot_92 rfl ?_
                refine wp_iload (M := mX7_whyNot) (pc := 158) dX7_whyNot_158 rfl ?_
                refine wp_if_eq (M := mX7_whyNot) (pc := 160) (tgt := 167) dX7_whyNot_160 rfl (fun t160 => ?_) (fun f160 => ?_)
                · refine wp_iconst (M := mX7_whyNot) (pc := 167) (v := 3) dX7_whyNot_167 ci_3 ?_
                  refine wp_ireturn (M := mX7_whyNot) (pc := 168) rfl dX7_whyNot_168 ?_
                  first
                  | exact absurd t67 (by decide)
                  | exact absurd rfl f67
                  | exact absurd t102 (by decide)
                  | exact absurd rfl f102
                  | exact absurd t127 (by decide)
                  | exact absurd rfl f127
                  | exact absurd t160 (by decide)
                  | exact absurd rfl f160
                  | exact k3 j hj rfl (b01_n f19) (b01_n t32) (fun c => hl c.1)
                  | exact k3 j hj rfl (b01_n f19) (b01_n t32) (fun c => c.2.1 (b01_n t51))
                  | exact k3 j hj rfl (b01_n f19) (b01_n t32) (fun c => Int32.not_le.mpr t82 (by have := c.2.2; rw [if_pos rfl] at this; exact this))
                  | exact k3 j hj rfl (b01_n f19) (b01_n t32) (fun c => Int32.not_le.mpr t112 (by have := c.2.2; rw [if_neg (by decide), if_pos rfl] at this; exact this))
                  | exact k3 j hj rfl (b01_n f19) (b01_n t32) (fun c => Int32.not_le.mpr t148 (by have := c.2.2; rw [if_neg (by decide), if_neg (by decide)] at this; exact this))
                  | exact k0 j hj rfl (b01_n f19) (b01_n t32) ⟨hl, b01_z f51, by rw [if_pos rfl]; exact Int32.not_lt.mp f82⟩
                  | exact k0 j hj rfl (b01_n f19) (b01_n t32) ⟨hl, b01_z f51, by rw [if_neg (by decide), if_pos rfl]; exact Int32.not_lt.mp f112⟩
                  | exact k0 j hj rfl (b01_n f19) (b01_n t32) ⟨hl, b01_z f51, by rw [if_neg (by decide), if_neg (by decide)]; exact Int32.not_lt.mp f148⟩
                  | fail "leaf"
                · refine wp_iconst (M := mX7_whyNot) (pc := 163) (v := 0) dX7_whyNot_163 ci_0 ?_
                  refine wp_goto (M := mX7_whyNot) (pc := 164) (tgt := 168) dX7_whyNot_164 rfl ?_
                  refine wp_ireturn (M := mX7_whyNot) (pc := 168) rfl dX7_whyNot_168 ?_
                  first
                  | exact absurd t67 (by decide)
                  | exact absurd rfl f67
                  | exact absurd t102 (by decide)
                  | exact absurd rfl f102
                  | exact absurd t127 (by decide)
                  | exact absurd rfl f127
                  | exact absurd t160 (by decide)
                  | exact absurd rfl f160
                  | exact k3 j hj rfl (b01_n f19) (b01_n t32) (fun c => hl c.1)
                  | exact k3 j hj rfl (b01_n f19) (b01_n t32) (fun c => c.2.1 (b01_n t51))
                  | exact k3 j hj rfl (b01_n f19) (b01_n t32) (fun c => Int32.not_le.mpr t82 (by have := c.2.2; rw [if_pos rfl] at this; exact this))
                  | exact k3 j hj rfl (b01_n f19) (b01_n t32) (fun c => Int32.not_le.mpr t112 (by have := c.2.2; rw [if_neg (by decide), if_pos rfl] at this; exact this))
                  | exact k3 j hj rfl (b01_n f19) (b01_n t32) (fun c => Int32.not_le.mpr t148 (by have := c.2.2; rw [if_neg (by decide), if_neg (by decide)] at this; exact this))
                  | exact k0 j hj rfl (b01_n f19) (b01_n t32) ⟨hl, b01_z f51, by rw [if_pos rfl]; exact Int32.not_lt.mp f82⟩
                  | exact k0 j hj rfl (b01_n f19) (b01_n t32) ⟨hl, b01_z f51, by rw [if_neg (by decide), if_pos rfl]; exact Int32.not_lt.mp f112⟩
                  | exact k0 j hj rfl (b01_n f19) (b01_n t32) ⟨hl, b01_z f51, by rw [if_neg (by decide), if_neg (by decide)]; exact Int32.not_lt.mp f148⟩
                  | fail "leaf"
              · refine wp_aload_n (M := mX7_whyNot) (pc := 70) dX7_whyNot_70 rfl ?_
                refine wp_iload_n (M := mX7_whyNot) (pc := 71) dX7_whyNot_71 rfl ?_
                refine so_S1 (M := mX7_whyNot) (pc := 72) cs_X7_whyNot_90 rfl rfl (LE rfl) (LE rfl) dX7_whyNot_72 ?_
                refine sp_X7_at ?_
                refine kI ?_
                refine wp_iconst (M := mX7_whyNot) (pc := 75) (v := 4) dX7_whyNot_75 ci_4 ?_
                refine wp_iadd (M := mX7_whyNot) (pc := 76) dX7_whyNot_76 ?_
                refine wr_iaload (M := mX7_whyNot) (pc := 77) dX7_whyNot_77 ka (ia rfl (show (4 : Int32) = nI 4 from rfl)) (by omega) (by decide) ?_
                refine wp_iload_n (M := mX7_whyNot) (pc := 78) dX7_whyNot_78 rfl ?_
                refine wp_iload (M := mX7_whyNot) (pc := 79) dX7_whyNot_79 rfl ?_
                refine wp_imul (M := mX7_whyNot) (pc := 81) dX7_whyNot_81 ?_
                refine wp_icmp_lt (M := mX7_whyNot) (pc := 82) (tgt := 89) dX7_whyNot_82 rfl (fun t82 => ?_) (fun f82 => ?_)
                · rw [hR.tF hj (by decide)] at t82
                  refine wp_iconst (M := mX7_whyNot) (pc := 89) (v := 0) dX7_whyNot_89 ci_0 ?_
                  refine so_istore (M := mX7_whyNot) (pc := 90) (lo' := [_, _, _, _, _, _]) dX7_whyNot_90 (LE rfl) (LE rfl) (Or.inr rfl) rfl ?_
                  refine wp_goto (M := mX7_whyNot) (pc := 92) (tgt := 158) dX7_whyNot_92 rfl ?_
                  refine wp_iload (M := mX7_whyNot) (pc := 158) dX7_whyNot_158 rfl ?_
                  refine wp_if_eq (M := mX7_whyNot) (pc := 160) (tgt := 167) dX7_whyNot_160 rfl (fun t160 => ?_) (fun f160 => ?_)
                  · refine wp_iconst (M := mX7_whyNot) (pc := 167) (v := 3) dX7_whyNot_167 ci_3 ?_
                    refine wp_ireturn (M := mX7_whyNot) (pc := 168) rfl dX7_whyNot_168 ?_
                    first
                    | exact absurd t67 (by decide)
                    | exact absurd rfl f67
                    | exact absurd t102 (by decide)
                    | exact absurd rfl f102
                    | exact absurd t127 (by decide)
                    | exact absurd rfl f127
                    | exact absurd t160 (by decide)
                    | exact absurd rfl f160
                    | exact k3 j hj rfl (b01_n f19) (b01_n t32) (fun c => hl c.1)
                    | exact k3 j hj rfl (b01_n f19) (b01_n t32) (fun c => c.2.1 (b01_n t51))
                    | exact k3 j hj rfl (b01_n f19) (b01_n t32) (fun c => Int32.not_le.mpr t82 (by have := c.2.2; rw [if_pos rfl] at this; exact this))
                    | exact k3 j hj rfl (b01_n f19) (b01_n t32) (fun c => Int32.not_le.mpr t112 (by have := c.2.2; rw [if_neg (by decide), if_pos rfl] at this; exact this))
                    | exact k3 j hj rfl (b01_n f19) (b01_n t32) (fun c => Int32.not_le.mpr t148 (by have := c.2.2; rw [if_neg (by decide), if_neg (by decide)] at this; exact this))
                    | exact k0 j hj rfl (b01_n f19) (b01_n t32) ⟨hl, b01_z f51, by rw [if_pos rfl]; exact Int32.not_lt.mp f82⟩
                    | exact k0 j hj rfl (b01_n f19) (b01_n t32) ⟨hl, b01_z f51, by rw [if_neg (by decide), if_pos rfl]; exact Int32.not_lt.mp f112⟩
                    | exact k0 j hj rfl (b01_n f19) (b01_n t32) ⟨hl, b01_z f51, by rw [if_neg (by decide), if_neg (by decide)]; exact Int32.not_lt.mp f148⟩
                    | fail "leaf"
                  · refine wp_iconst (M := mX7_whyNot) (pc := 163) (v := 0) dX7_whyNot_163 ci_0 ?_
                    refine wp_goto (M := mX7_whyNot) (pc := 164) (tgt := 168) dX7_whyNot_164 rfl ?_
                    refine wp_ireturn (M := mX7_whyNot) (pc := 168) rfl dX7_whyNot_168 ?_
                    first
                    | exact absurd t67 (by decide)
                    | exact absurd rfl f67
                    | exact absurd t102 (by decide)
                    | exact absurd rfl f102
                    | exact absurd t127 (by decide)
                    | exact absurd rfl f127
                    | exact absurd t160 (by decide)
                    | exact absurd rfl f160
                    | exact k3 j hj rfl (b01_n f19) (b01_n t32) (fun c => hl c.1)
                    | exact k3 j hj rfl (b01_n f19) (b01_n t32) (fun c => c.2.1 (b01_n t51))
                    | exact k3 j hj rfl (b01_n f19) (b01_n t32) (fun c => Int32.not_le.mpr t82 (by have := c.2.2; rw [if_pos rfl] at this; exact this))
                    | exact k3 j hj rfl (b01_n f19) (b01_n t32) (fun c => Int32.not_le.mpr t112 (by have := c.2.2; rw [if_neg (by decide), if_pos rfl] at this; exact this))
                    | exact k3 j hj rfl (b01_n f19) (b01_n t32) (fun c => Int32.not_le.mpr t148 (by have := c.2.2; rw [if_neg (by decide), if_neg (by decide)] at this; exact this))
                    | exact k0 j hj rfl (b01_n f19) (b01_n t32) ⟨hl, b01_z f51, by rw [if_pos rfl]; exact Int32.not_lt.mp f82⟩
                    | exact k0 j hj rfl (b01_n f19) (b01_n t32) ⟨hl, b01_z f51, by rw [if_neg (by decide), if_pos rfl]; exact Int32.not_lt.mp f112⟩
                    | exact k0 j hj rfl (b01_n f19) (b01_n t32) ⟨hl, b01_z f51, by rw [if_neg (by decide), if_neg (by decide)]; exact Int32.not_lt.mp f148⟩
                    | fail "leaf"
                · rw [hR.tF hj (by decide)] at f82
                  refine wp_iconst (M := mX7_whyNot) (pc := 85) (v := 1) dX7_whyNot_85 ci_1 ?_
                  refine wp_goto (M := mX7_whyNot) (pc := 86) (tgt := 90) dX7_whyNot_86 rfl ?_
                  refine so_istore (M := mX7_whyNot) (pc := 90) (lo' := [_, _, _, _, _, _]) dX7_whyNot_90 (LE rfl) (LE rfl) (Or.inr rfl) rfl ?_
                  refine wp_goto (M := mX7_whyNot) (pc := 92) (tgt := 158) dX7_whyNot_92 rfl ?_
                  refine wp_iload (M := mX7_whyNot) (pc := 158) dX7_whyNot_158 rfl ?_
                  refine wp_if_eq (M := mX7_whyNot) (pc := 160) (tgt := 167) dX7_whyNot_160 rfl (fun t160 => ?_) (fun f160 => ?_)
                  · refine wp_iconst (M := mX7_whyNot) (pc := 167) (v := 3) dX7_whyNot_167 ci_3 ?_
                    refine wp_ireturn (M := mX7_whyNot) (pc := 168) rfl dX7_whyNot_168 ?_
                    first
                    | exact absurd t67 (by decide)
                    | exact absurd rfl f67
                    | exact absurd t102 (by decide)
                    | exact absurd rfl f102
                    | exact absurd t127 (by decide)
                    | exact absurd rfl f127
                    | exact absurd t160 (by decide)
                    | exact absurd rfl f160
                    | exact k3 j hj rfl (b01_n f19) (b01_n t32) (fun c => hl c.1)
                    | exact k3 j hj rfl (b01_n f19) (b01_n t32) (fun c => c.2.1 (b01_n t51))
                    | exact k3 j hj rfl (b01_n f19) (b01_n t32) (fun c => Int32.not_le.mpr t82 (by have := c.2.2; rw [if_pos rfl] at this; exact this))
                    | exact k3 j hj rfl (b01_n f19) (b01_n t32) (fun c => Int32.not_le.mpr t112 (by have := c.2.2; rw [if_neg (by decide), if_pos rfl] at this; exact this))
                    | exact k3 j hj rfl (b01_n f19) (b01_n t32) (fun c => Int32.not_le.mpr t148 (by have := c.2.2; rw [if_neg (by decide), if_neg (by decide)] at this; exact this))
                    | exact k0 j hj rfl (b01_n f19) (b01_n t32) ⟨hl, b01_z f51, by rw [if_pos rfl]; exact Int32.not_lt.mp f82⟩
                    | exact k0 j hj rfl (b01_n f19) (b01_n t32) ⟨hl, b01_z f51, by rw [if_neg (by decide), if_pos rfl]; exact Int32.not_lt.mp f112⟩
                    | exact k0 j hj rfl (b01_n f19) (b01_n t32) ⟨hl, b01_z f51, by rw [if_neg (by decide), if_neg (by decide)]; exact Int32.not_lt.mp f148⟩
                    | fail "leaf"
                  · refine wp_iconst (M := mX7_whyNot) (pc := 163) (v := 0) dX7_whyNot_163 ci_0 ?_
                    refine wp_goto (M := mX7_whyNot) (pc := 164) (tgt := 168) dX7_whyNot_164 rfl ?_
                    refine wp_ireturn (M := mX7_whyNot) (pc := 168) rfl dX7_whyNot_168 ?_
                    first
                    | exact absurd t67 (by decide)
                    | exact absurd rfl f67
                    | exact absurd t102 (by decide)
                    | exact absurd rfl f102
                    | exact absurd t127 (by decide)
                    | exact absurd rfl f127
                    | exact absurd t160 (by decide)
                    | exact absurd rfl f160
                    | exact k3 j hj rfl (b01_n f19) (b01_n t32) (fun c => hl c.1)
                    | exact k3 j hj rfl (b01_n f19) (b01_n t32) (fun c => c.2.1 (b01_n t51))
                    | exact k3 j hj rfl (b01_n f19) (b01_n t32) (fun c => Int32.not_le.mpr t82 (by have := c.2.2; rw [if_pos rfl] at this; exact this))
                    | exact k3 j hj rfl (b01_n f19) (b01_n t32) (fun c => Int32.not_le.mpr t112 (by have := c.2.2; rw [if_neg (by decide), if_pos rfl] at this; exact this))
                    | exact k3 j hj rfl (b01_n f19) (b01_n t32) (fun c => Int32.not_le.mpr t148 (by have := c.2.2; rw [if_neg (by decide), if_neg (by decide)] at this; exact this))
                    | exact k0 j hj rfl (b01_n f19) (b01_n t32) ⟨hl, b01_z f51, by rw [if_pos rfl]; exact Int32.not_lt.mp f82⟩
                    | exact k0 j hj rfl (b01_n f19) (b01_n t32) ⟨hl, b01_z f51, by rw [if_neg (by decide), if_pos rfl]; exact Int32.not_lt.mp f112⟩
                    | exact k0 j hj rfl (b01_n f19) (b01_n t32) ⟨hl, b01_z f51, by rw [if_neg (by decide), if_neg (by decide)]; exact Int32.not_lt.mp f148⟩
                    | fail "leaf"
          · refine wp_iconst (M := mX7_whyNot) (pc := 54) (v := 1) dX7_whyNot_54 ci_1 ?_
            refine wp_goto (M := mX7_whyNot) (pc := 55) (tgt := 59) dX7_whyNot_55 rfl ?_
            refine so_istore (M := mX7_whyNot) (pc := 59) (lo' := [_, _, _, _, _, _]) dX7_whyNot_59 (LE rfl) (LE rfl) (Or.inr rfl) rfl ?_
            refine wp_iload_n (M := mX7_whyNot) (pc := 61) dX7_whyNot_61 rfl ?_
            refine wp_if_ne (M := mX7_whyNot) (pc := 62) (tgt := 95) dX7_whyNot_62 rfl (fun t62 => ?_) (fun f62 => ?_)
            · exact absurd rfl t62
            · refine wp_iload (M := mX7_whyNot) (pc := 65) dX7_whyNot_65 rfl ?_
              refine wp_if_eq (M := mX7_whyNot) (pc := 67) (tgt := 89) dX7_whyNot_67 rfl (fun t67 => ?_) (fun f67 => ?_)
              · refine wp_iconst (M := mX7_whyNot) (pc := 89) (v := 0) dX7_whyNot_89 ci_0 ?_
                refine so_istore (M := mX7_whyNot) (pc := 90) (lo' := [_, _, _, _, _, _]) dX7_whyNot_90 (LE rfl) (LE rfl) (Or.inr rfl) rfl ?_
                refine wp_goto (M := mX7_whyNot) (pc := 92) (tgt := 158) dX7_whyNot_92 rfl ?_
                refine wp_iload (M := mX7_whyNot) (pc := 158) dX7_whyNot_158 rfl ?_
                refine wp_if_eq (M := mX7_whyNot) (pc := 160) (tgt := 167) dX7_whyNot_160 rfl (fun t160 => ?_) (fun f160 => ?_)
                · refine wp_iconst (M := mX7_whyNot) (pc := 167) (v := 3) dX7_whyNot_167 ci_3 ?_
                  refine wp_ireturn (M := mX7_whyNot) (pc := 168) rfl dX7_whyNot_168 ?_
                  first
                  | exact absurd t67 (by decide)
                  | exact absurd rfl f67
                  | exact absurd t102 (by decide)
                  | exact absurd rfl f102
                  | exact absurd t127 (by decide)
                  | exact absurd rfl f127
                  | exact absurd t160 (by decide)
                  | exact absurd rfl f160
                  | exact k3 j hj rfl (b01_n f19) (b01_n t32) (fun c => hl c.1)
                  | exact k3 j hj rfl (b01_n f19) (b01_n t32) (fun c => c.2.1 (b01_n t51))
                  | exact k3 j hj rfl (b01_n f19) (b01_n t32) (fun c => Int32.not_le.mpr t82 (by have := c.2.2; rw [if_pos rfl] at this; exact this))
                  | exact k3 j hj rfl (b01_n f19) (b01_n t32) (fun c => Int32.not_le.mpr t112 (by have := c.2.2; rw [if_neg (by decide), if_pos rfl] at this; exact this))
                  | exact k3 j hj rfl (b01_n f19) (b01_n t32) (fun c => Int32.not_le.mpr t148 (by have := c.2.2; rw [if_neg (by decide), if_neg (by decide)] at this; exact this))
                  | exact k0 j hj rfl (b01_n f19) (b01_n t32) ⟨hl, b01_z f51, by rw [if_pos rfl]; exact Int32.not_lt.mp f82⟩
                  | exact k0 j hj rfl (b01_n f19) (b01_n t32) ⟨hl, b01_z f51, by rw [if_neg (by decide), if_pos rfl]; exact Int32.not_lt.mp f112⟩
                  | exact k0 j hj rfl (b01_n f19) (b01_n t32) ⟨hl, b01_z f51, by rw [if_neg (by decide), if_neg (by decide)]; exact Int32.not_lt.mp f148⟩
                  | fail "leaf"
                · refine wp_iconst (M := mX7_whyNot) (pc := 163) (v := 0) dX7_whyNot_163 ci_0 ?_
                  refine wp_goto (M := mX7_whyNot) (pc := 164) (tgt := 168) dX7_whyNot_164 rfl ?_
                  refine wp_ireturn (M := mX7_whyNot) (pc := 168) rfl dX7_whyNot_168 ?_
                  first
                  | exact absurd t67 (by decide)
                  | exact absurd rfl f67
                  | exact absurd t102 (by decide)
                  | exact absurd rfl f102
                  | exact absurd t127 (by decide)
                  | exact absurd rfl f127
                  | exact absurd t160 (by decide)
                  | exact absurd rfl f160
                  | exact k3 j hj rfl (b01_n f19) (b01_n t32) (fun c => hl c.1)
                  | exact k3 j hj rfl (b01_n f19) (b01_n t32) (fun c => c.2.1 (b01_n t51))
                  | exact k3 j hj rfl (b01_n f19) (b01_n t32) (fun c => Int32.not_le.mpr t82 (by have := c.2.2; rw [if_pos rfl] at this; exact this))
                  | exact k3 j hj rfl (b01_n f19) (b01_n t32) (fun c => Int32.not_le.mpr t112 (by have := c.2.2; rw [if_neg (by decide), if_pos rfl] at this; exact this))
                  | exact k3 j hj rfl (b01_n f19) (b01_n t32) (fun c => Int32.not_le.mpr t148 (by have := c.2.2; rw [if_neg (by decide), if_neg (by decide)] at this; exact this))
                  | exact k0 j hj rfl (b01_n f19) (b01_n t32) ⟨hl, b01_z f51, by rw [if_pos rfl]; exact Int32.not_lt.mp f82⟩
                  | exact k0 j hj rfl (b01_n f19) (b01_n t32) ⟨hl, b01_z f51, by rw [if_neg (by decide), if_pos rfl]; exact Int32.not_lt.mp f112⟩
                  | exact k0 j hj rfl (b01_n f19) (b01_n t32) ⟨hl, b01_z f51, by rw [if_neg (by decide), if_neg (by decide)]; exact Int32.not_lt.mp f148⟩
                  | fail "leaf"
              · refine wp_aload_n (M := mX7_whyNot) (pc := 70) dX7_whyNot_70 rfl ?_
                refine wp_iload_n (M := mX7_whyNot) (pc := 71) dX7_whyNot_71 rfl ?_
                refine so_S1 (M := mX7_whyNot) (pc := 72) cs_X7_whyNot_90 rfl rfl (LE rfl) (LE rfl) dX7_whyNot_72 ?_
                refine sp_X7_at ?_
                refine kI ?_
                refine wp_iconst (M := mX7_whyNot) (pc := 75) (v := 4) dX7_whyNot_75 ci_4 ?_
                refine wp_iadd (M := mX7_whyNot) (pc := 76) dX7_whyNot_76 ?_
                refine wr_iaload (M := mX7_whyNot) (pc := 77) dX7_whyNot_77 ka (ia rfl (show (4 : Int32) = nI 4 from rfl)) (by omega) (by decide) ?_
                refine wp_iload_n (M := mX7_whyNot) (pc := 78) dX7_whyNot_78 rfl ?_
                refine wp_iload (M := mX7_whyNot) (pc := 79) dX7_whyNot_79 rfl ?_
                refine wp_imul (M := mX7_whyNot) (pc := 81) dX7_whyNot_81 ?_
                refine wp_icmp_lt (M := mX7_whyNot) (pc := 82) (tgt := 89) dX7_whyNot_82 rfl (fun t82 => ?_) (fun f82 => ?_)
                · rw [hR.tF hj (by decide)] at t82
                  refine wp_iconst (M := mX7_whyNot) (pc := 89) (v := 0) dX7_whyNot_89 ci_0 ?_
                  refine so_istore (M := mX7_whyNot) (pc := 90) (lo' := [_, _, _, _, _, _]) dX7_whyNot_90 (LE rfl) (LE rfl) (Or.inr rfl) rfl ?_
                  refine wp_goto (M := mX7_whyNot) (pc := 92) (tgt := 158) dX7_whyNot_92 rfl ?_
                  refine wp_iload (M := mX7_whyNot) (pc := 158) dX7_whyNot_158 rfl ?_
                  refine wp_if_eq (M := mX7_whyNot) (pc := 160) (tgt := 167) dX7_whyNot_160 rfl (fun t160 => ?_) (fun f160 => ?_)
                  · refine wp_iconst (M := mX7_whyNot) (pc := 167) (v := 3) dX7_whyNot_167 ci_3 ?_
                    refine wp_ireturn (M := mX7_whyNot) (pc := 168) rfl dX7_whyNot_168 ?_
                    first
                    | exact absurd t67 (by decide)
                    | exact absurd rfl f67
                    | exact absurd t102 (by decide)
                    | exact absurd rfl f102
                    | exact absurd t127 (by decide)
                    | exact absurd rfl f127
                    | exact absurd t160 (by decide)
                    | exact absurd rfl f160
                    | exact k3 j hj rfl (b01_n f19) (b01_n t32) (fun c => hl c.1)
                    | exact k3 j hj rfl (b01_n f19) (b01_n t32) (fun c => c.2.1 (b01_n t51))
                    | exact k3 j hj rfl (b01_n f19) (b01_n t32) (fun c => Int32.not_le.mpr t82 (by have := c.2.2; rw [if_pos rfl] at this; exact this))
                    | exact k3 j hj rfl (b01_n f19) (b01_n t32) (fun c => Int32.not_le.mpr t112 (by have := c.2.2; rw [if_neg (by decide), if_pos rfl] at this; exact this))
                    | exact k3 j hj rfl (b01_n f19) (b01_n t32) (fun c => Int32.not_le.mpr t148 (by have := c.2.2; rw [if_neg (by decide), if_neg (by decide)] at this; exact this))
                    | exact k0 j hj rfl (b01_n f19) (b01_n t32) ⟨hl, b01_z f51, by rw [if_pos rfl]; exact Int32.not_lt.mp f82⟩
                    | exact k0 j hj rfl (b01_n f19) (b01_n t32) ⟨hl, b01_z f51, by rw [if_neg (by decide), if_pos rfl]; exact Int32.not_lt.mp f112⟩
                    | exact k0 j hj rfl (b01_n f19) (b01_n t32) ⟨hl, b01_z f51, by rw [if_neg (by decide), if_neg (by decide)]; exact Int32.not_lt.mp f148⟩
                    | fail "leaf"
                  · refine wp_iconst (M := mX7_whyNot) (pc := 163) (v := 0) dX7_whyNot_163 ci_0 ?_
                    refine wp_goto (M := mX7_whyNot) (pc := 164) (tgt := 168) dX7_whyNot_164 rfl ?_
                    refine wp_ireturn (M := mX7_whyNot) (pc := 168) rfl dX7_whyNot_168 ?_
                    first
                    | exact absurd t67 (by decide)
                    | exact absurd rfl f67
                    | exact absurd t102 (by decide)
                    | exact absurd rfl f102
                    | exact absurd t127 (by decide)
                    | exact absurd rfl f127
                    | exact absurd t160 (by decide)
                    | exact absurd rfl f160
                    | exact k3 j hj rfl (b01_n f19) (b01_n t32) (fun c => hl c.1)
                    | exact k3 j hj rfl (b01_n f19) (b01_n t32) (fun c => c.2.1 (b01_n t51))
                    | exact k3 j hj rfl (b01_n f19) (b01_n t32) (fun c => Int32.not_le.mpr t82 (by have := c.2.2; rw [if_pos rfl] at this; exact this))
                    | exact k3 j hj rfl (b01_n f19) (b01_n t32) (fun c => Int32.not_le.mpr t112 (by have := c.2.2; rw [if_neg (by decide), if_pos rfl] at this; exact this))
                    | exact k3 j hj rfl (b01_n f19) (b01_n t32) (fun c => Int32.not_le.mpr t148 (by have := c.2.2; rw [if_neg (by decide), if_neg (by decide)] at this; exact this))
                    | exact k0 j hj rfl (b01_n f19) (b01_n t32) ⟨hl, b01_z f51, by rw [if_pos rfl]; exact Int32.not_lt.mp f82⟩
                    | exact k0 j hj rfl (b01_n f19) (b01_n t32) ⟨hl, b01_z f51, by rw [if_neg (by decide), if_pos rfl]; exact Int32.not_lt.mp f112⟩
                    | exact k0 j hj rfl (b01_n f19) (b01_n t32) ⟨hl, b01_z f51, by rw [if_neg (by decide), if_neg (by decide)]; exact Int32.not_lt.mp f148⟩
                    | fail "leaf"
                · rw [hR.tF hj (by decide)] at f82
                  refine wp_iconst (M := mX7_whyNot) (pc := 85) (v := 1) dX7_whyNot_85 ci_1 ?_
                  refine wp_goto (M := mX7_whyNot) (pc := 86) (tgt := 90) dX7_whyNot_86 rfl ?_
                  refine so_istore (M := mX7_whyNot) (pc := 90) (lo' := [_, _, _, _, _, _]) dX7_whyNot_90 (LE rfl) (LE rfl) (Or.inr rfl) rfl ?_
                  refine wp_goto (M := mX7_whyNot) (pc := 92) (tgt := 158) dX7_whyNot_92 rfl ?_
                  refine wp_iload (M := mX7_whyNot) (pc := 158) dX7_whyNot_158 rfl ?_
                  refine wp_if_eq (M := mX7_whyNot) (pc := 160) (tgt := 167) dX7_whyNot_160 rfl (fun t160 => ?_) (fun f160 => ?_)
                  · refine wp_iconst (M := mX7_whyNot) (pc := 167) (v := 3) dX7_whyNot_167 ci_3 ?_
                    refine wp_ireturn (M := mX7_whyNot) (pc := 168) rfl dX7_whyNot_168 ?_
                    first
                    | exact absurd t67 (by decide)
                    | exact absurd rfl f67
                    | exact absurd t102 (by decide)
                    | exact absurd rfl f102
                    | exact absurd t127 (by decide)
                    | exact absurd rfl f127
                    | exact absurd t160 (by decide)
                    | exact absurd rfl f160
                    | exact k3 j hj rfl (b01_n f19) (b01_n t32) (fun c => hl c.1)
                    | exact k3 j hj rfl (b01_n f19) (b01_n t32) (fun c => c.2.1 (b01_n t51))
                    | exact k3 j hj rfl (b01_n f19) (b01_n t32) (fun c => Int32.not_le.mpr t82 (by have := c.2.2; rw [if_pos rfl] at this; exact this))
                    | exact k3 j hj rfl (b01_n f19) (b01_n t32) (fun c => Int32.not_le.mpr t112 (by have := c.2.2; rw [if_neg (by decide), if_pos rfl] at this; exact this))
                    | exact k3 j hj rfl (b01_n f19) (b01_n t32) (fun c => Int32.not_le.mpr t148 (by have := c.2.2; rw [if_neg (by decide), if_neg (by decide)] at this; exact this))
                    | exact k0 j hj rfl (b01_n f19) (b01_n t32) ⟨hl, b01_z f51, by rw [if_pos rfl]; exact Int32.not_lt.mp f82⟩
                    | exact k0 j hj rfl (b01_n f19) (b01_n t32) ⟨hl, b01_z f51, by rw [if_neg (by decide), if_pos rfl]; exact Int32.not_lt.mp f112⟩
                    | exact k0 j hj rfl (b01_n f19) (b01_n t32) ⟨hl, b01_z f51, by rw [if_neg (by decide), if_neg (by decide)]; exact Int32.not_lt.mp f148⟩
                    | fail "leaf"
                  · refine wp_iconst (M := mX7_whyNot) (pc := 163) (v := 0) dX7_whyNot_163 ci_0 ?_
                    refine wp_goto (M := mX7_whyNot) (pc := 164) (tgt := 168) dX7_whyNot_164 rfl ?_
                    refine wp_ireturn (M := mX7_whyNot) (pc := 168) rfl dX7_whyNot_168 ?_
                    first
                    | exact absurd t67 (by decide)
                    | exact absurd rfl f67
                    | exact absurd t102 (by decide)
                    | exact absurd rfl f102
                    | exact absurd t127 (by decide)
                    | exact absurd rfl f127
                    | exact absurd t160 (by decide)
                    | exact absurd rfl f160
                    | exact k3 j hj rfl (b01_n f19) (b01_n t32) (fun c => hl c.1)
                    | exact k3 j hj rfl (b01_n f19) (b01_n t32) (fun c => c.2.1 (b01_n t51))
                    | exact k3 j hj rfl (b01_n f19) (b01_n t32) (fun c => Int32.not_le.mpr t82 (by have := c.2.2; rw [if_pos rfl] at this; exact this))
                    | exact k3 j hj rfl (b01_n f19) (b01_n t32) (fun c => Int32.not_le.mpr t112 (by have := c.2.2; rw [if_neg (by decide), if_pos rfl] at this; exact this))
                    | exact k3 j hj rfl (b01_n f19) (b01_n t32) (fun c => Int32.not_le.mpr t148 (by have := c.2.2; rw [if_neg (by decide), if_neg (by decide)] at this; exact this))
                    | exact k0 j hj rfl (b01_n f19) (b01_n t32) ⟨hl, b01_z f51, by rw [if_pos rfl]; exact Int32.not_lt.mp f82⟩
                    | exact k0 j hj rfl (b01_n f19) (b01_n t32) ⟨hl, b01_z f51, by rw [if_neg (by decide), if_pos rfl]; exact Int32.not_lt.mp f112⟩
                    | exact k0 j hj rfl (b01_n f19) (b01_n t32) ⟨hl, b01_z f51, by rw [if_neg (by decide), if_neg (by decide)]; exact Int32.not_lt.mp f148⟩
                    | fail "leaf"
      · refine wp_iconst (M := mX7_whyNot) (pc := 35) (v := 2) dX7_whyNot_35 ci_2 ?_
        refine wp_ireturn (M := mX7_whyNot) (pc := 36) rfl dX7_whyNot_36 ?_
        first
        | exact k2 ⟨j, hj, rfl⟩ (fun e => b01_z t19 e.1)
        | exact k2 ⟨j, hj, rfl⟩ (fun e => b01_z f32 e.2)
        | fail "leaf"
  · refine wp_iconst (M := mX7_whyNot) (pc := 8) (v := 1) dX7_whyNot_8 ci_1 ?_
    refine wp_ireturn (M := mX7_whyNot) (pc := 9) rfl dX7_whyNot_9 ?_
    exact k1 (b01_z f5)
set_option maxHeartbeats 4000000 in
set_option maxRecDepth 100000 in
theorem sp_X7_whyNot1 {a : Nat} {A : Sta} {t p z : Int32} (ka : kd h a = some (.inr (0, 1360))) (hR : RepR (gi h a) A) (k0 : ∀ j, j < sN A → t = nI j → wth p 1 99 → wth z 1 99 → canP A 1 j p z → Q (.inl (some (.int 0))) h) (k1 : ¬ isT A t → Q (.inl (some (.int 1))) h) (k2 : isT A t → ¬ (wth p 1 99 ∧ wth z 1 99) → Q (.inl (some (.int 2))) h) (k3 : ∀ j, j < sN A → t = nI j → wth p 1 99 → wth z 1 99 → ¬ canP A 1 j p z → Q (.inl (some (.int 3))) h) : WPx E mX7_whyNot 0 [some (.ref a), some (.int t), some (.int 1), some (.int p), some (.int z), none] [] (0, 0) h Q := by
  have n6 := hR.n6
  have n12 := hR.n12
  refine wp_aload_n (M := mX7_whyNot) (pc := 0) dX7_whyNot_0 rfl ?_
  refine wp_iload_n (M := mX7_whyNot) (pc := 1) dX7_whyNot_1 rfl ?_
  refine so_S2 (M := mX7_whyNot) (pc := 2) cs_X7_whyNot_94 rfl rfl (LE rfl) (LE rfl) dX7_whyNot_2 ?_
  refine sp_X7_isTenant ka hR ?_
  refine kI ?_
  refine wp_if_ne (M := mX7_whyNot) (pc := 5) (tgt := 10) dX7_whyNot_5 rfl (fun t5 => ?_) (fun f5 => ?_)
  · obtain ⟨j, hj, rfl⟩ := b01_n t5
    refine wp_iload_n (M := mX7_whyNot) (pc := 10) dX7_whyNot_10 rfl ?_
    refine wp_i2l (M := mX7_whyNot) (pc := 11) dX7_whyNot_11 ?_
    refine wp_lconst (M := mX7_whyNot) (pc := 12) (v := 1) dX7_whyNot_12 cl_1 ?_
    refine wp_ldc2_w (M := mX7_whyNot) (pc := 13) wv_X7_206 dX7_whyNot_13 ?_
    refine so_S3 (M := mX7_whyNot) (pc := 16) cs_X7_whyNot_65 rfl rfl (LE rfl) (LE rfl) dX7_whyNot_16 ?_
    refine sp_X7_in ?_
    rw [(b01_iff (wl (x := p) (a := 1) (b := 99) (a' := 1) (b' := 99) (by decide) (by decide)))]
    refine kI ?_
    refine wp_if_eq (M := mX7_whyNot) (pc := 19) (tgt := 35) dX7_whyNot_19 rfl (fun t19 => ?_) (fun f19 => ?_)
    · refine wp_iconst (M := mX7_whyNot) (pc := 35) (v := 2) dX7_whyNot_35 ci_2 ?_
      refine wp_ireturn (M := mX7_whyNot) (pc := 36) rfl dX7_whyNot_36 ?_
      first
      | exact k2 ⟨j, hj, rfl⟩ (fun e => b01_z t19 e.1)
      | exact k2 ⟨j, hj, rfl⟩ (fun e => b01_z f32 e.2)
      | fail "leaf"
    · refine wp_iload (M := mX7_whyNot) (pc := 22) dX7_whyNot_22 rfl ?_
      refine wp_i2l (M := mX7_whyNot) (pc := 24) dX7_whyNot_24 ?_
      refine wp_lconst (M := mX7_whyNot) (pc := 25) (v := 1) dX7_whyNot_25 cl_1 ?_
      refine wp_ldc2_w (M := mX7_whyNot) (pc := 26) wv_X7_206 dX7_whyNot_26 ?_
      refine so_S3 (M := mX7_whyNot) (pc := 29) cs_X7_whyNot_65 rfl rfl (LE rfl) (LE rfl) dX7_whyNot_29 ?_
      refine sp_X7_in ?_
      rw [(b01_iff (wl (x := z) (a := 1) (b := 99) (a' := 1) (b' := 99) (by decide) (by decide)))]
      refine kI ?_
      refine wp_if_ne (M := mX7_whyNot) (pc := 32) (tgt := 37) dX7_whyNot_32 rfl (fun t32 => ?_) (fun f32 => ?_)
      · refine wp_aload_n (M := mX7_whyNot) (pc := 37) dX7_whyNot_37 rfl ?_
        refine wp_bipush (M := mX7_whyNot) (pc := 38) (v := 8) dX7_whyNot_38 cb_8 ?_
        refine wr_iaload (M := mX7_whyNot) (pc := 40) dX7_whyNot_40 ka (show (8 : Int32) = nI 8 from rfl) (by omega) (by decide) ?_
        refine wp_bipush (M := mX7_whyNot) (pc := 41) (v := 12) dX7_whyNot_41 cb_12 ?_
        refine wp_icmp_ge (M := mX7_whyNot) (pc := 43) (tgt := 58) dX7_whyNot_43 rfl (fun t43 => ?_) (fun f43 => ?_)
        · rw [hR.f8] at t43
          have hl : ¬ (sO A).length < 12 := fun e => absurd ((i_le (a := 12) (by decide) (by omega)).mp t43) (by omega)
          refine wp_iconst (M := mX7_whyNot) (pc := 58) (v := 0) dX7_whyNot_58 ci_0 ?_
          refine so_istore (M := mX7_whyNot) (pc := 59) (lo' := [_, _, _, _, _, _]) dX7_whyNot_59 (LE rfl) (LE rfl) (Or.inr rfl) rfl ?_
          refine wp_iload_n (M := mX7_whyNot) (pc := 61) dX7_whyNot_61 rfl ?_
          refine wp_if_ne (M := mX7_whyNot) (pc := 62) (tgt := 95) dX7_whyNot_62 rfl (fun t62 => ?_) (fun f62 => ?_)
          · refine wp_iload_n (M := mX7_whyNot) (pc := 95) dX7_whyNot_95 rfl ?_
            refine wp_iconst (M := mX7_whyNot) (pc := 96) (v := 1) dX7_whyNot_96 ci_1 ?_
            refine wp_icmp_ne (M := mX7_whyNot) (pc := 97) (tgt := 125) dX7_whyNot_97 rfl (fun t97 => ?_) (fun f97 => ?_)
            · exact absurd rfl t97
            · refine wp_iload (M := mX7_whyNot) (pc := 100) dX7_whyNot_100 rfl ?_
              refine wp_if_eq (M := mX7_whyNot) (pc := 102) (tgt := 119) dX7_whyNot_102 rfl (fun t102 => ?_) (fun f102 => ?_)
              · refine wp_iconst (M := mX7_whyNot) (pc := 119) (v := 0) dX7_whyNot_119 ci_0 ?_
                refine so_istore (M := mX7_whyNot) (pc := 120) (lo' := [_, _, _, _, _, _]) dX7_whyNot_120 (LE rfl) (LE rfl) (Or.inr rfl) rfl ?_
                refine wp_goto (M := mX7_whyNot) (pc := 122) (tgt := 158) dX7_whyNot_122 rfl ?_
                refine wp_iload (M := mX7_whyNot) (pc := 158) dX7_whyNot_158 rfl ?_
                refine wp_if_eq (M := mX7_whyNot) (pc := 160) (tgt := 167) dX7_whyNot_160 rfl (fun t160 => ?_) (fun f160 => ?_)
                · refine wp_iconst (M := mX7_whyNot) (pc := 167) (v := 3) dX7_whyNot_167 ci_3 ?_
                  refine wp_ireturn (M := mX7_whyNot) (pc := 168) rfl dX7_whyNot_168 ?_
                  first
                  | exact absurd t67 (by decide)
                  | exact absurd rfl f67
                  | exact absurd t102 (by decide)
                  | exact absurd rfl f102
                  | exact absurd t127 (by decide)
                  | exact absurd rfl f127
                  | exact absurd t160 (by decide)
                  | exact absurd rfl f160
                  | exact k3 j hj rfl (b01_n f19) (b01_n t32) (fun c => hl c.1)
                  | exact k3 j hj rfl (b01_n f19) (b01_n t32) (fun c => c.2.1 (b01_n t51))
                  | exact k3 j hj rfl (b01_n f19) (b01_n t32) (fun c => Int32.not_le.mpr t82 (by have := c.2.2; rw [if_pos rfl] at this; exact this))
                  | exact k3 j hj rfl (b01_n f19) (b01_n t32) (fun c => Int32.not_le.mpr t112 (by have := c.2.2; rw [if_neg (by decide), if_pos rfl] at this; exact this))
                  | exact k3 j hj rfl (b01_n f19) (b01_n t32) (fun c => Int32.not_le.mpr t148 (by have := c.2.2; rw [if_neg (by decide), if_neg (by decide)] at this; exact this))
                  | exact k0 j hj rfl (b01_n f19) (b01_n t32) ⟨hl, b01_z f51, by rw [if_pos rfl]; exact Int32.not_lt.mp f82⟩
                  | exact k0 j hj rfl (b01_n f19) (b01_n t32) ⟨hl, b01_z f51, by rw [if_neg (by decide), if_pos rfl]; exact Int32.not_lt.mp f112⟩
                  | exact k0 j hj rfl (b01_n f19) (b01_n t32) ⟨hl, b01_z f51, by rw [if_neg (by decide), if_neg (by decide)]; exact Int32.not_lt.mp f148⟩
                  | fail "leaf"
                · refine wp_iconst (M := mX7_whyNot) (pc := 163) (v := 0) dX7_whyNot_163 ci_0 ?_
                  refine wp_goto (M := mX7_whyNot) (pc := 164) (tgt := 168) dX7_whyNot_164 rfl ?_
                  refine wp_ireturn (M := mX7_whyNot) (pc := 168) rfl dX7_whyNot_168 ?_
                  first
                  | exact absurd t67 (by decide)
                  | exact absurd rfl f67
                  | exact absurd t102 (by decide)
                  | exact absurd rfl f102
                  | exact absurd t127 (by decide)
                  | exact absurd rfl f127
                  | exact absurd t160 (by decide)
                  | exact absurd rfl f160
                  | exact k3 j hj rfl (b01_n f19) (b01_n t32) (fun c => hl c.1)
                  | exact k3 j hj rfl (b01_n f19) (b01_n t32) (fun c => c.2.1 (b01_n t51))
                  | exact k3 j hj rfl (b01_n f19) (b01_n t32) (fun c => Int32.not_le.mpr t82 (by have := c.2.2; rw [if_pos rfl] at this; exact this))
                  | exact k3 j hj rfl (b01_n f19) (b01_n t32) (fun c => Int32.not_le.mpr t112 (by have := c.2.2; rw [if_neg (by decide), if_pos rfl] at this; exact this))
                  | exact k3 j hj rfl (b01_n f19) (b01_n t32) (fun c => Int32.not_le.mpr t148 (by have := c.2.2; rw [if_neg (by decide), if_neg (by decide)] at this; exact this))
                  | exact k0 j hj rfl (b01_n f19) (b01_n t32) ⟨hl, b01_z f51, by rw [if_pos rfl]; exact Int32.not_lt.mp f82⟩
                  | exact k0 j hj rfl (b01_n f19) (b01_n t32) ⟨hl, b01_z f51, by rw [if_neg (by decide), if_pos rfl]; exact Int32.not_lt.mp f112⟩
                  | exact k0 j hj rfl (b01_n f19) (b01_n t32) ⟨hl, b01_z f51, by rw [if_neg (by decide), if_neg (by decide)]; exact Int32.not_lt.mp f148⟩
                  | fail "leaf"
              · refine wp_aload_n (M := mX7_whyNot) (pc := 105) dX7_whyNot_105 rfl ?_
                refine wp_iload_n (M := mX7_whyNot) (pc := 106) dX7_whyNot_106 rfl ?_
                refine so_S2 (M := mX7_whyNot) (pc := 107) cs_X7_whyNot_179 rfl rfl (LE rfl) (LE rfl) dX7_whyNot_107 ?_
                refine sp_X7_credits ka hR hj ?_
                refine kI ?_
                refine wp_iload (M := mX7_whyNot) (pc := 110) dX7_whyNot_110 rfl ?_
                refine wp_icmp_lt (M := mX7_whyNot) (pc := 112) (tgt := 119) dX7_whyNot_112 rfl (fun t112 => ?_) (fun f112 => ?_)
                · refine wp_iconst (M := mX7_whyNot) (pc := 119) (v := 0) dX7_whyNot_119 ci_0 ?_
                  refine so_istore (M := mX7_whyNot) (pc := 120) (lo' := [_, _, _, _, _, _]) dX7_whyNot_120 (LE rfl) (LE rfl) (Or.inr rfl) rfl ?_
                  refine wp_goto (M := mX7_whyNot) (pc := 122) (tgt := 158) dX7_whyNot_122 rfl ?_
                  refine wp_iload (M := mX7_whyNot) (pc := 158) dX7_whyNot_158 rfl ?_
                  refine wp_if_eq (M := mX7_whyNot) (pc := 160) (tgt := 167) dX7_whyNot_160 rfl (fun t160 => ?_) (fun f160 => ?_)
                  · refine wp_iconst (M := mX7_whyNot) (pc := 167) (v := 3) dX7_whyNot_167 ci_3 ?_
                    refine wp_ireturn (M := mX7_whyNot) (pc := 168) rfl dX7_whyNot_168 ?_
                    first
                    | exact absurd t67 (by decide)
                    | exact absurd rfl f67
                    | exact absurd t102 (by decide)
                    | exact absurd rfl f102
                    | exact absurd t127 (by decide)
                    | exact absurd rfl f127
                    | exact absurd t160 (by decide)
                    | exact absurd rfl f160
                    | exact k3 j hj rfl (b01_n f19) (b01_n t32) (fun c => hl c.1)
                    | exact k3 j hj rfl (b01_n f19) (b01_n t32) (fun c => c.2.1 (b01_n t51))
                    | exact k3 j hj rfl (b01_n f19) (b01_n t32) (fun c => Int32.not_le.mpr t82 (by have := c.2.2; rw [if_pos rfl] at this; exact this))
                    | exact k3 j hj rfl (b01_n f19) (b01_n t32) (fun c => Int32.not_le.mpr t112 (by have := c.2.2; rw [if_neg (by decide), if_pos rfl] at this; exact this))
                    | exact k3 j hj rfl (b01_n f19) (b01_n t32) (fun c => Int32.not_le.mpr t148 (by have := c.2.2; rw [if_neg (by decide), if_neg (by decide)] at this; exact this))
                    | exact k0 j hj rfl (b01_n f19) (b01_n t32) ⟨hl, b01_z f51, by rw [if_pos rfl]; exact Int32.not_lt.mp f82⟩
                    | exact k0 j hj rfl (b01_n f19) (b01_n t32) ⟨hl, b01_z f51, by rw [if_neg (by decide), if_pos rfl]; exact Int32.not_lt.mp f112⟩
                    | exact k0 j hj rfl (b01_n f19) (b01_n t32) ⟨hl, b01_z f51, by rw [if_neg (by decide), if_neg (by decide)]; exact Int32.not_lt.mp f148⟩
                    | fail "leaf"
                  · refine wp_iconst (M := mX7_whyNot) (pc := 163) (v := 0) dX7_whyNot_163 ci_0 ?_
                    refine wp_goto (M := mX7_whyNot) (pc := 164) (tgt := 168) dX7_whyNot_164 rfl ?_
                    refine wp_ireturn (M := mX7_whyNot) (pc := 168) rfl dX7_whyNot_168 ?_
                    first
                    | exact absurd t67 (by decide)
                    | exact absurd rfl f67
                    | exact absurd t102 (by decide)
                    | exact absurd rfl f102
                    | exact absurd t127 (by decide)
                    | exact absurd rfl f127
                    | exact absurd t160 (by decide)
                    | exact absurd rfl f160
                    | exact k3 j hj rfl (b01_n f19) (b01_n t32) (fun c => hl c.1)
                    | exact k3 j hj rfl (b01_n f19) (b01_n t32) (fun c => c.2.1 (b01_n t51))
                    | exact k3 j hj rfl (b01_n f19) (b01_n t32) (fun c => Int32.not_le.mpr t82 (by have := c.2.2; rw [if_pos rfl] at this; exact this))
                    | exact k3 j hj rfl (b01_n f19) (b01_n t32) (fun c => Int32.not_le.mpr t112 (by have := c.2.2; rw [if_neg (by decide), if_pos rfl] at this; exact this))
                    | exact k3 j hj rfl (b01_n f19) (b01_n t32) (fun c => Int32.not_le.mpr t148 (by have := c.2.2; rw [if_neg (by decide), if_neg (by decide)] at this; exact this))
                    | exact k0 j hj rfl (b01_n f19) (b01_n t32) ⟨hl, b01_z f51, by rw [if_pos rfl]; exact Int32.not_lt.mp f82⟩
                    | exact k0 j hj rfl (b01_n f19) (b01_n t32) ⟨hl, b01_z f51, by rw [if_neg (by decide), if_pos rfl]; exact Int32.not_lt.mp f112⟩
                    | exact k0 j hj rfl (b01_n f19) (b01_n t32) ⟨hl, b01_z f51, by rw [if_neg (by decide), if_neg (by decide)]; exact Int32.not_lt.mp f148⟩
                    | fail "leaf"
                · refine wp_iconst (M := mX7_whyNot) (pc := 115) (v := 1) dX7_whyNot_115 ci_1 ?_
                  refine wp_goto (M := mX7_whyNot) (pc := 116) (tgt := 120) dX7_whyNot_116 rfl ?_
                  refine so_istore (M := mX7_whyNot) (pc := 120) (lo' := [_, _, _, _, _, _]) dX7_whyNot_120 (LE rfl) (LE rfl) (Or.inr rfl) rfl ?_
                  refine wp_goto (M := mX7_whyNot) (pc := 122) (tgt := 158) dX7_whyNot_122 rfl ?_
                  refine wp_iload (M := mX7_whyNot) (pc := 158) dX7_whyNot_158 rfl ?_
                  refine wp_if_eq (M := mX7_whyNot) (pc := 160) (tgt := 167) dX7_whyNot_160 rfl (fun t160 => ?_) (fun f160 => ?_)
                  · refine wp_iconst (M := mX7_whyNot) (pc := 167) (v := 3) dX7_whyNot_167 ci_3 ?_
                    refine wp_ireturn (M := mX7_whyNot) (pc := 168) rfl dX7_whyNot_168 ?_
                    first
                    | exact absurd t67 (by decide)
                    | exact absurd rfl f67
                    | exact absurd t102 (by decide)
                    | exact absurd rfl f102
                    | exact absurd t127 (by decide)
                    | exact absurd rfl f127
                    | exact absurd t160 (by decide)
                    | exact absurd rfl f160
                    | exact k3 j hj rfl (b01_n f19) (b01_n t32) (fun c => hl c.1)
                    | exact k3 j hj rfl (b01_n f19) (b01_n t32) (fun c => c.2.1 (b01_n t51))
                    | exact k3 j hj rfl (b01_n f19) (b01_n t32) (fun c => Int32.not_le.mpr t82 (by have := c.2.2; rw [if_pos rfl] at this; exact this))
                    | exact k3 j hj rfl (b01_n f19) (b01_n t32) (fun c => Int32.not_le.mpr t112 (by have := c.2.2; rw [if_neg (by decide), if_pos rfl] at this; exact this))
                    | exact k3 j hj rfl (b01_n f19) (b01_n t32) (fun c => Int32.not_le.mpr t148 (by have := c.2.2; rw [if_neg (by decide), if_neg (by decide)] at this; exact this))
                    | exact k0 j hj rfl (b01_n f19) (b01_n t32) ⟨hl, b01_z f51, by rw [if_pos rfl]; exact Int32.not_lt.mp f82⟩
                    | exact k0 j hj rfl (b01_n f19) (b01_n t32) ⟨hl, b01_z f51, by rw [if_neg (by decide), if_pos rfl]; exact Int32.not_lt.mp f112⟩
                    | exact k0 j hj rfl (b01_n f19) (b01_n t32) ⟨hl, b01_z f51, by rw [if_neg (by decide), if_neg (by decide)]; exact Int32.not_lt.mp f148⟩
                    | fail "leaf"
                  · refine wp_iconst (M := mX7_whyNot) (pc := 163) (v := 0) dX7_whyNot_163 ci_0 ?_
                    refine wp_goto (M := mX7_whyNot) (pc := 164) (tgt := 168) dX7_whyNot_164 rfl ?_
                    refine wp_ireturn (M := mX7_whyNot) (pc := 168) rfl dX7_whyNot_168 ?_
                    first
                    | exact absurd t67 (by decide)
                    | exact absurd rfl f67
                    | exact absurd t102 (by decide)
                    | exact absurd rfl f102
                    | exact absurd t127 (by decide)
                    | exact absurd rfl f127
                    | exact absurd t160 (by decide)
                    | exact absurd rfl f160
                    | exact k3 j hj rfl (b01_n f19) (b01_n t32) (fun c => hl c.1)
                    | exact k3 j hj rfl (b01_n f19) (b01_n t32) (fun c => c.2.1 (b01_n t51))
                    | exact k3 j hj rfl (b01_n f19) (b01_n t32) (fun c => Int32.not_le.mpr t82 (by have := c.2.2; rw [if_pos rfl] at this; exact this))
                    | exact k3 j hj rfl (b01_n f19) (b01_n t32) (fun c => Int32.not_le.mpr t112 (by have := c.2.2; rw [if_neg (by decide), if_pos rfl] at this; exact this))
                    | exact k3 j hj rfl (b01_n f19) (b01_n t32) (fun c => Int32.not_le.mpr t148 (by have := c.2.2; rw [if_neg (by decide), if_neg (by decide)] at this; exact this))
                    | exact k0 j hj rfl (b01_n f19) (b01_n t32) ⟨hl, b01_z f51, by rw [if_pos rfl]; exact Int32.not_lt.mp f82⟩
                    | exact k0 j hj rfl (b01_n f19) (b01_n t32) ⟨hl, b01_z f51, by rw [if_neg (by decide), if_pos rfl]; exact Int32.not_lt.mp f112⟩
                    | exact k0 j hj rfl (b01_n f19) (b01_n t32) ⟨hl, b01_z f51, by rw [if_neg (by decide), if_neg (by decide)]; exact Int32.not_lt.mp f148⟩
                    | fail "leaf"
          · exact absurd f62 (by decide)
        · rw [hR.f8] at f43
          have hl : (sO A).length < 12 := Nat.lt_of_not_le (fun e => f43 ((i_le (a := 12) (by decide) (by omega)).mpr e))
          refine wp_aload_n (M := mX7_whyNot) (pc := 46) dX7_whyNot_46 rfl ?_
          refine wp_iload_n (M := mX7_whyNot) (pc := 47) dX7_whyNot_47 rfl ?_
          refine so_S2 (M := mX7_whyNot) (pc := 48) cs_X7_whyNot_130 rfl rfl (LE rfl) (LE rfl) dX7_whyNot_48 ?_
          refine sp_X7_isSuspended ka hR hj ?_
          refine kI ?_
          refine wp_if_ne (M := mX7_whyNot) (pc := 51) (tgt := 58) dX7_whyNot_51 rfl (fun t51 => ?_) (fun f51 => ?_)
          · refine wp_iconst (M := mX7_whyNot) (pc := 58) (v := 0) dX7_whyNot_58 ci_0 ?_
            refine so_istore (M := mX7_whyNot) (pc := 59) (lo' := [_, _, _, _, _, _]) dX7_whyNot_59 (LE rfl) (LE rfl) (Or.inr rfl) rfl ?_
            refine wp_iload_n (M := mX7_whyNot) (pc := 61) dX7_whyNot_61 rfl ?_
            refine wp_if_ne (M := mX7_whyNot) (pc := 62) (tgt := 95) dX7_whyNot_62 rfl (fun t62 => ?_) (fun f62 => ?_)
            · refine wp_iload_n (M := mX7_whyNot) (pc := 95) dX7_whyNot_95 rfl ?_
              refine wp_iconst (M := mX7_whyNot) (pc := 96) (v := 1) dX7_whyNot_96 ci_1 ?_
              refine wp_icmp_ne (M := mX7_whyNot) (pc := 97) (tgt := 125) dX7_whyNot_97 rfl (fun t97 => ?_) (fun f97 => ?_)
              · exact absurd rfl t97
              · refine wp_iload (M := mX7_whyNot) (pc := 100) dX7_whyNot_100 rfl ?_
                refine wp_if_eq (M := mX7_whyNot) (pc := 102) (tgt := 119) dX7_whyNot_102 rfl (fun t102 => ?_) (fun f102 => ?_)
                · refine wp_iconst (M := mX7_whyNot) (pc := 119) (v := 0) dX7_whyNot_119 ci_0 ?_
                  refine so_istore (M := mX7_whyNot) (pc := 120) (lo' := [_, _, _, _, _, _]) dX7_whyNot_120 (LE rfl) (LE rfl) (Or.inr rfl) rfl ?_
                  refine wp_goto (M := mX7_whyNot) (pc := 122) (tgt := 158) dX7_whyNot_122 rfl ?_
                  refine wp_iload (M := mX7_whyNot) (pc := 158) dX7_whyNot_158 rfl ?_
                  refine wp_if_eq (M := mX7_whyNot) (pc := 160) (tgt := 167) dX7_whyNot_160 rfl (fun t160 => ?_) (fun f160 => ?_)
                  · refine wp_iconst (M := mX7_whyNot) (pc := 167) (v := 3) dX7_whyNot_167 ci_3 ?_
                    refine wp_ireturn (M := mX7_whyNot) (pc := 168) rfl dX7_whyNot_168 ?_
                    first
                    | exact absurd t67 (by decide)
                    | exact absurd rfl f67
                    | exact absurd t102 (by decide)
                    | exact absurd rfl f102
                    | exact absurd t127 (by decide)
                    | exact absurd rfl f127
                    | exact absurd t160 (by decide)
                    | exact absurd rfl f160
                    | exact k3 j hj rfl (b01_n f19) (b01_n t32) (fun c => hl c.1)
                    | exact k3 j hj rfl (b01_n f19) (b01_n t32) (fun c => c.2.1 (b01_n t51))
                    | exact k3 j hj rfl (b01_n f19) (b01_n t32) (fun c => Int32.not_le.mpr t82 (by have := c.2.2; rw [if_pos rfl] at this; exact this))
                    | exact k3 j hj rfl (b01_n f19) (b01_n t32) (fun c => Int32.not_le.mpr t112 (by have := c.2.2; rw [if_neg (by decide), if_pos rfl] at this; exact this))
                    | exact k3 j hj rfl (b01_n f19) (b01_n t32) (fun c => Int32.not_le.mpr t148 (by have := c.2.2; rw [if_neg (by decide), if_neg (by decide)] at this; exact this))
                    | exact k0 j hj rfl (b01_n f19) (b01_n t32) ⟨hl, b01_z f51, by rw [if_pos rfl]; exact Int32.not_lt.mp f82⟩
                    | exact k0 j hj rfl (b01_n f19) (b01_n t32) ⟨hl, b01_z f51, by rw [if_neg (by decide), if_pos rfl]; exact Int32.not_lt.mp f112⟩
                    | exact k0 j hj rfl (b01_n f19) (b01_n t32) ⟨hl, b01_z f51, by rw [if_neg (by decide), if_neg (by decide)]; exact Int32.not_lt.mp f148⟩
                    | fail "leaf"
                  · refine wp_iconst (M := mX7_whyNot) (pc := 163) (v := 0) dX7_whyNot_163 ci_0 ?_
                    refine wp_goto (M := mX7_whyNot) (pc := 164) (tgt := 168) dX7_whyNot_164 rfl ?_
                    refine wp_ireturn (M := mX7_whyNot) (pc := 168) rfl dX7_whyNot_168 ?_
                    first
                    | exact absurd t67 (by decide)
                    | exact absurd rfl f67
                    | exact absurd t102 (by decide)
                    | exact absurd rfl f102
                    | exact absurd t127 (by decide)
                    | exact absurd rfl f127
                    | exact absurd t160 (by decide)
                    | exact absurd rfl f160
                    | exact k3 j hj rfl (b01_n f19) (b01_n t32) (fun c => hl c.1)
                    | exact k3 j hj rfl (b01_n f19) (b01_n t32) (fun c => c.2.1 (b01_n t51))
                    | exact k3 j hj rfl (b01_n f19) (b01_n t32) (fun c => Int32.not_le.mpr t82 (by have := c.2.2; rw [if_pos rfl] at this; exact this))
                    | exact k3 j hj rfl (b01_n f19) (b01_n t32) (fun c => Int32.not_le.mpr t112 (by have := c.2.2; rw [if_neg (by decide), if_pos rfl] at this; exact this))
                    | exact k3 j hj rfl (b01_n f19) (b01_n t32) (fun c => Int32.not_le.mpr t148 (by have := c.2.2; rw [if_neg (by decide), if_neg (by decide)] at this; exact this))
                    | exact k0 j hj rfl (b01_n f19) (b01_n t32) ⟨hl, b01_z f51, by rw [if_pos rfl]; exact Int32.not_lt.mp f82⟩
                    | exact k0 j hj rfl (b01_n f19) (b01_n t32) ⟨hl, b01_z f51, by rw [if_neg (by decide), if_pos rfl]; exact Int32.not_lt.mp f112⟩
                    | exact k0 j hj rfl (b01_n f19) (b01_n t32) ⟨hl, b01_z f51, by rw [if_neg (by decide), if_neg (by decide)]; exact Int32.not_lt.mp f148⟩
                    | fail "leaf"
                · refine wp_aload_n (M := mX7_whyNot) (pc := 105) dX7_whyNot_105 rfl ?_
                  refine wp_iload_n (M := mX7_whyNot) (pc := 106) dX7_whyNot_106 rfl ?_
                  refine so_S2 (M := mX7_whyNot) (pc := 107) cs_X7_whyNot_179 rfl rfl (LE rfl) (LE rfl) dX7_whyNot_107 ?_
                  refine sp_X7_credits ka hR hj ?_
                  refine kI ?_
                  refine wp_iload (M := mX7_whyNot) (pc := 110) dX7_whyNot_110 rfl ?_
                  refine wp_icmp_lt (M := mX7_whyNot) (pc := 112) (tgt := 119) dX7_whyNot_112 rfl (fun t112 => ?_) (fun f112 => ?_)
                  · refine wp_iconst (M := mX7_whyNot) (pc := 119) (v := 0) dX7_whyNot_119 ci_0 ?_
                    refine so_istore (M := mX7_whyNot) (pc := 120) (lo' := [_, _, _, _, _, _]) dX7_whyNot_120 (LE rfl) (LE rfl) (Or.inr rfl) rfl ?_
                    refine wp_goto (M := mX7_whyNot) (pc := 122) (tgt := 158) dX7_whyNot_122 rfl ?_
                    refine wp_iload (M := mX7_whyNot) (pc := 158) dX7_whyNot_158 rfl ?_
                    refine wp_if_eq (M := mX7_whyNot) (pc := 160) (tgt := 167) dX7_whyNot_160 rfl (fun t160 => ?_) (fun f160 => ?_)
                    · refine wp_iconst (M := mX7_whyNot) (pc := 167) (v := 3) dX7_whyNot_167 ci_3 ?_
                      refine wp_ireturn (M := mX7_whyNot) (pc := 168) rfl dX7_whyNot_168 ?_
                      first
                      | exact absurd t67 (by decide)
                      | exact absurd rfl f67
                      | exact absurd t102 (by decide)
                      | exact absurd rfl f102
                      | exact absurd t127 (by decide)
                      | exact absurd rfl f127
                      | exact absurd t160 (by decide)
                      | exact absurd rfl f160
                      | exact k3 j hj rfl (b01_n f19) (b01_n t32) (fun c => hl c.1)
                      | exact k3 j hj rfl (b01_n f19) (b01_n t32) (fun c => c.2.1 (b01_n t51))
                      | exact k3 j hj rfl (b01_n f19) (b01_n t32) (fun c => Int32.not_le.mpr t82 (by have := c.2.2; rw [if_pos rfl] at this; exact this))
                      | exact k3 j hj rfl (b01_n f19) (b01_n t32) (fun c => Int32.not_le.mpr t112 (by have := c.2.2; rw [if_neg (by decide), if_pos rfl] at this; exact this))
                      | exact k3 j hj rfl (b01_n f19) (b01_n t32) (fun c => Int32.not_le.mpr t148 (by have := c.2.2; rw [if_neg (by decide), if_neg (by decide)] at this; exact this))
                      | exact k0 j hj rfl (b01_n f19) (b01_n t32) ⟨hl, b01_z f51, by rw [if_pos rfl]; exact Int32.not_lt.mp f82⟩
                      | exact k0 j hj rfl (b01_n f19) (b01_n t32) ⟨hl, b01_z f51, by rw [if_neg (by decide), if_pos rfl]; exact Int32.not_lt.mp f112⟩
                      | exact k0 j hj rfl (b01_n f19) (b01_n t32) ⟨hl, b01_z f51, by rw [if_neg (by decide), if_neg (by decide)]; exact Int32.not_lt.mp f148⟩
                      | fail "leaf"
                    · refine wp_iconst (M := mX7_whyNot) (pc := 163) (v := 0) dX7_whyNot_163 ci_0 ?_
                      refine wp_goto (M := mX7_whyNot) (pc := 164) (tgt := 168) dX7_whyNot_164 rfl ?_
                      refine wp_ireturn (M := mX7_whyNot) (pc := 168) rfl dX7_whyNot_168 ?_
                      first
                      | exact absurd t67 (by decide)
                      | exact absurd rfl f67
                      | exact absurd t102 (by decide)
                      | exact absurd rfl f102
                      | exact absurd t127 (by decide)
                      | exact absurd rfl f127
                      | exact absurd t160 (by decide)
                      | exact absurd rfl f160
                      | exact k3 j hj rfl (b01_n f19) (b01_n t32) (fun c => hl c.1)
                      | exact k3 j hj rfl (b01_n f19) (b01_n t32) (fun c => c.2.1 (b01_n t51))
                      | exact k3 j hj rfl (b01_n f19) (b01_n t32) (fun c => Int32.not_le.mpr t82 (by have := c.2.2; rw [if_pos rfl] at this; exact this))
                      | exact k3 j hj rfl (b01_n f19) (b01_n t32) (fun c => Int32.not_le.mpr t112 (by have := c.2.2; rw [if_neg (by decide), if_pos rfl] at this; exact this))
                      | exact k3 j hj rfl (b01_n f19) (b01_n t32) (fun c => Int32.not_le.mpr t148 (by have := c.2.2; rw [if_neg (by decide), if_neg (by decide)] at this; exact this))
                      | exact k0 j hj rfl (b01_n f19) (b01_n t32) ⟨hl, b01_z f51, by rw [if_pos rfl]; exact Int32.not_lt.mp f82⟩
                      | exact k0 j hj rfl (b01_n f19) (b01_n t32) ⟨hl, b01_z f51, by rw [if_neg (by decide), if_pos rfl]; exact Int32.not_lt.mp f112⟩
                      | exact k0 j hj rfl (b01_n f19) (b01_n t32) ⟨hl, b01_z f51, by rw [if_neg (by decide), if_neg (by decide)]; exact Int32.not_lt.mp f148⟩
                      | fail "leaf"
                  · refine wp_iconst (M := mX7_whyNot) (pc := 115) (v := 1) dX7_whyNot_115 ci_1 ?_
                    refine wp_goto (M := mX7_whyNot) (pc := 116) (tgt := 120) dX7_whyNot_116 rfl ?_
                    refine so_istore (M := mX7_whyNot) (pc := 120) (lo' := [_, _, _, _, _, _]) dX7_whyNot_120 (LE rfl) (LE rfl) (Or.inr rfl) rfl ?_
                    refine wp_goto (M := mX7_whyNot) (pc := 122) (tgt := 158) dX7_whyNot_122 rfl ?_
                    refine wp_iload (M := mX7_whyNot) (pc := 158) dX7_whyNot_158 rfl ?_
                    refine wp_if_eq (M := mX7_whyNot) (pc := 160) (tgt := 167) dX7_whyNot_160 rfl (fun t160 => ?_) (fun f160 => ?_)
                    · refine wp_iconst (M := mX7_whyNot) (pc := 167) (v := 3) dX7_whyNot_167 ci_3 ?_
                      refine wp_ireturn (M := mX7_whyNot) (pc := 168) rfl dX7_whyNot_168 ?_
                      first
                      | exact absurd t67 (by decide)
                      | exact absurd rfl f67
                      | exact absurd t102 (by decide)
                      | exact absurd rfl f102
                      | exact absurd t127 (by decide)
                      | exact absurd rfl f127
                      | exact absurd t160 (by decide)
                      | exact absurd rfl f160
                      | exact k3 j hj rfl (b01_n f19) (b01_n t32) (fun c => hl c.1)
                      | exact k3 j hj rfl (b01_n f19) (b01_n t32) (fun c => c.2.1 (b01_n t51))
                      | exact k3 j hj rfl (b01_n f19) (b01_n t32) (fun c => Int32.not_le.mpr t82 (by have := c.2.2; rw [if_pos rfl] at this; exact this))
                      | exact k3 j hj rfl (b01_n f19) (b01_n t32) (fun c => Int32.not_le.mpr t112 (by have := c.2.2; rw [if_neg (by decide), if_pos rfl] at this; exact this))
                      | exact k3 j hj rfl (b01_n f19) (b01_n t32) (fun c => Int32.not_le.mpr t148 (by have := c.2.2; rw [if_neg (by decide), if_neg (by decide)] at this; exact this))
                      | exact k0 j hj rfl (b01_n f19) (b01_n t32) ⟨hl, b01_z f51, by rw [if_pos rfl]; exact Int32.not_lt.mp f82⟩
                      | exact k0 j hj rfl (b01_n f19) (b01_n t32) ⟨hl, b01_z f51, by rw [if_neg (by decide), if_pos rfl]; exact Int32.not_lt.mp f112⟩
                      | exact k0 j hj rfl (b01_n f19) (b01_n t32) ⟨hl, b01_z f51, by rw [if_neg (by decide), if_neg (by decide)]; exact Int32.not_lt.mp f148⟩
                      | fail "leaf"
                    · refine wp_iconst (M := mX7_whyNot) (pc := 163) (v := 0) dX7_whyNot_163 ci_0 ?_
                      refine wp_goto (M := mX7_whyNot) (pc := 164) (tgt := 168) dX7_whyNot_164 rfl ?_
                      refine wp_ireturn (M := mX7_whyNot) (pc := 168) rfl dX7_whyNot_168 ?_
                      first
                      | exact absurd t67 (by decide)
                      | exact absurd rfl f67
                      | exact absurd t102 (by decide)
                      | exact absurd rfl f102
                      | exact absurd t127 (by decide)
                      | exact absurd rfl f127
                      | exact absurd t160 (by decide)
                      | exact absurd rfl f160
                      | exact k3 j hj rfl (b01_n f19) (b01_n t32) (fun c => hl c.1)
                      | exact k3 j hj rfl (b01_n f19) (b01_n t32) (fun c => c.2.1 (b01_n t51))
                      | exact k3 j hj rfl (b01_n f19) (b01_n t32) (fun c => Int32.not_le.mpr t82 (by have := c.2.2; rw [if_pos rfl] at this; exact this))
                      | exact k3 j hj rfl (b01_n f19) (b01_n t32) (fun c => Int32.not_le.mpr t112 (by have := c.2.2; rw [if_neg (by decide), if_pos rfl] at this; exact this))
                      | exact k3 j hj rfl (b01_n f19) (b01_n t32) (fun c => Int32.not_le.mpr t148 (by have := c.2.2; rw [if_neg (by decide), if_neg (by decide)] at this; exact this))
                      | exact k0 j hj rfl (b01_n f19) (b01_n t32) ⟨hl, b01_z f51, by rw [if_pos rfl]; exact Int32.not_lt.mp f82⟩
                      | exact k0 j hj rfl (b01_n f19) (b01_n t32) ⟨hl, b01_z f51, by rw [if_neg (by decide), if_pos rfl]; exact Int32.not_lt.mp f112⟩
                      | exact k0 j hj rfl (b01_n f19) (b01_n t32) ⟨hl, b01_z f51, by rw [if_neg (by decide), if_neg (by decide)]; exact Int32.not_lt.mp f148⟩
                      | fail "leaf"
            · exact absurd f62 (by decide)
          · refine wp_iconst (M := mX7_whyNot) (pc := 54) (v := 1) dX7_whyNot_54 ci_1 ?_
            refine wp_goto (M := mX7_whyNot) (pc := 55) (tgt := 59) dX7_whyNot_55 rfl ?_
            refine so_istore (M := mX7_whyNot) (pc := 59) (lo' := [_, _, _, _, _, _]) dX7_whyNot_59 (LE rfl) (LE rfl) (Or.inr rfl) rfl ?_
            refine wp_iload_n (M := mX7_whyNot) (pc := 61) dX7_whyNot_61 rfl ?_
            refine wp_if_ne (M := mX7_whyNot) (pc := 62) (tgt := 95) dX7_whyNot_62 rfl (fun t62 => ?_) (fun f62 => ?_)
            · refine wp_iload_n (M := mX7_whyNot) (pc := 95) dX7_whyNot_95 rfl ?_
              refine wp_iconst (M := mX7_whyNot) (pc := 96) (v := 1) dX7_whyNot_96 ci_1 ?_
              refine wp_icmp_ne (M := mX7_whyNot) (pc := 97) (tgt := 125) dX7_whyNot_97 rfl (fun t97 => ?_) (fun f97 => ?_)
              · exact absurd rfl t97
              · refine wp_iload (M := mX7_whyNot) (pc := 100) dX7_whyNot_100 rfl ?_
                refine wp_if_eq (M := mX7_whyNot) (pc := 102) (tgt := 119) dX7_whyNot_102 rfl (fun t102 => ?_) (fun f102 => ?_)
                · refine wp_iconst (M := mX7_whyNot) (pc := 119) (v := 0) dX7_whyNot_119 ci_0 ?_
                  refine so_istore (M := mX7_whyNot) (pc := 120) (lo' := [_, _, _, _, _, _]) dX7_whyNot_120 (LE rfl) (LE rfl) (Or.inr rfl) rfl ?_
                  refine wp_goto (M := mX7_whyNot) (pc := 122) (tgt := 158) dX7_whyNot_122 rfl ?_
                  refine wp_iload (M := mX7_whyNot) (pc := 158) dX7_whyNot_158 rfl ?_
                  refine wp_if_eq (M := mX7_whyNot) (pc := 160) (tgt := 167) dX7_whyNot_160 rfl (fun t160 => ?_) (fun f160 => ?_)
                  · refine wp_iconst (M := mX7_whyNot) (pc := 167) (v := 3) dX7_whyNot_167 ci_3 ?_
                    refine wp_ireturn (M := mX7_whyNot) (pc := 168) rfl dX7_whyNot_168 ?_
                    first
                    | exact absurd t67 (by decide)
                    | exact absurd rfl f67
                    | exact absurd t102 (by decide)
                    | exact absurd rfl f102
                    | exact absurd t127 (by decide)
                    | exact absurd rfl f127
                    | exact absurd t160 (by decide)
                    | exact absurd rfl f160
                    | exact k3 j hj rfl (b01_n f19) (b01_n t32) (fun c => hl c.1)
                    | exact k3 j hj rfl (b01_n f19) (b01_n t32) (fun c => c.2.1 (b01_n t51))
                    | exact k3 j hj rfl (b01_n f19) (b01_n t32) (fun c => Int32.not_le.mpr t82 (by have := c.2.2; rw [if_pos rfl] at this; exact this))
                    | exact k3 j hj rfl (b01_n f19) (b01_n t32) (fun c => Int32.not_le.mpr t112 (by have := c.2.2; rw [if_neg (by decide), if_pos rfl] at this; exact this))
                    | exact k3 j hj rfl (b01_n f19) (b01_n t32) (fun c => Int32.not_le.mpr t148 (by have := c.2.2; rw [if_neg (by decide), if_neg (by decide)] at this; exact this))
                    | exact k0 j hj rfl (b01_n f19) (b01_n t32) ⟨hl, b01_z f51, by rw [if_pos rfl]; exact Int32.not_lt.mp f82⟩
                    | exact k0 j hj rfl (b01_n f19) (b01_n t32) ⟨hl, b01_z f51, by rw [if_neg (by decide), if_pos rfl]; exact Int32.not_lt.mp f112⟩
                    | exact k0 j hj rfl (b01_n f19) (b01_n t32) ⟨hl, b01_z f51, by rw [if_neg (by decide), if_neg (by decide)]; exact Int32.not_lt.mp f148⟩
                    | fail "leaf"
                  · refine wp_iconst (M := mX7_whyNot) (pc := 163) (v := 0) dX7_whyNot_163 ci_0 ?_
                    refine wp_goto (M := mX7_whyNot) (pc := 164) (tgt := 168) dX7_whyNot_164 rfl ?_
                    refine wp_ireturn (M := mX7_whyNot) (pc := 168) rfl dX7_whyNot_168 ?_
                    first
                    | exact absurd t67 (by decide)
                    | exact absurd rfl f67
                    | exact absurd t102 (by decide)
                    | exact absurd rfl f102
                    | exact absurd t127 (by decide)
                    | exact absurd rfl f127
                    | exact absurd t160 (by decide)
                    | exact absurd rfl f160
                    | exact k3 j hj rfl (b01_n f19) (b01_n t32) (fun c => hl c.1)
                    | exact k3 j hj rfl (b01_n f19) (b01_n t32) (fun c => c.2.1 (b01_n t51))
                    | exact k3 j hj rfl (b01_n f19) (b01_n t32) (fun c => Int32.not_le.mpr t82 (by have := c.2.2; rw [if_pos rfl] at this; exact this))
                    | exact k3 j hj rfl (b01_n f19) (b01_n t32) (fun c => Int32.not_le.mpr t112 (by have := c.2.2; rw [if_neg (by decide), if_pos rfl] at this; exact this))
                    | exact k3 j hj rfl (b01_n f19) (b01_n t32) (fun c => Int32.not_le.mpr t148 (by have := c.2.2; rw [if_neg (by decide), if_neg (by decide)] at this; exact this))
                    | exact k0 j hj rfl (b01_n f19) (b01_n t32) ⟨hl, b01_z f51, by rw [if_pos rfl]; exact Int32.not_lt.mp f82⟩
                    | exact k0 j hj rfl (b01_n f19) (b01_n t32) ⟨hl, b01_z f51, by rw [if_neg (by decide), if_pos rfl]; exact Int32.not_lt.mp f112⟩
                    | exact k0 j hj rfl (b01_n f19) (b01_n t32) ⟨hl, b01_z f51, by rw [if_neg (by decide), if_neg (by decide)]; exact Int32.not_lt.mp f148⟩
                    | fail "leaf"
                · refine wp_aload_n (M := mX7_whyNot) (pc := 105) dX7_whyNot_105 rfl ?_
                  refine wp_iload_n (M := mX7_whyNot) (pc := 106) dX7_whyNot_106 rfl ?_
                  refine so_S2 (M := mX7_whyNot) (pc := 107) cs_X7_whyNot_179 rfl rfl (LE rfl) (LE rfl) dX7_whyNot_107 ?_
                  refine sp_X7_credits ka hR hj ?_
                  refine kI ?_
                  refine wp_iload (M := mX7_whyNot) (pc := 110) dX7_whyNot_110 rfl ?_
                  refine wp_icmp_lt (M := mX7_whyNot) (pc := 112) (tgt := 119) dX7_whyNot_112 rfl (fun t112 => ?_) (fun f112 => ?_)
                  · refine wp_iconst (M := mX7_whyNot) (pc := 119) (v := 0) dX7_whyNot_119 ci_0 ?_
                    refine so_istore (M := mX7_whyNot) (pc := 120) (lo' := [_, _, _, _, _, _]) dX7_whyNot_120 (LE rfl) (LE rfl) (Or.inr rfl) rfl ?_
                    refine wp_goto (M := mX7_whyNot) (pc := 122) (tgt := 158) dX7_whyNot_122 rfl ?_
                    refine wp_iload (M := mX7_whyNot) (pc := 158) dX7_whyNot_158 rfl ?_
                    refine wp_if_eq (M := mX7_whyNot) (pc := 160) (tgt := 167) dX7_whyNot_160 rfl (fun t160 => ?_) (fun f160 => ?_)
                    · refine wp_iconst (M := mX7_whyNot) (pc := 167) (v := 3) dX7_whyNot_167 ci_3 ?_
                      refine wp_ireturn (M := mX7_whyNot) (pc := 168) rfl dX7_whyNot_168 ?_
                      first
                      | exact absurd t67 (by decide)
                      | exact absurd rfl f67
                      | exact absurd t102 (by decide)
                      | exact absurd rfl f102
                      | exact absurd t127 (by decide)
                      | exact absurd rfl f127
                      | exact absurd t160 (by decide)
                      | exact absurd rfl f160
                      | exact k3 j hj rfl (b01_n f19) (b01_n t32) (fun c => hl c.1)
                      | exact k3 j hj rfl (b01_n f19) (b01_n t32) (fun c => c.2.1 (b01_n t51))
                      | exact k3 j hj rfl (b01_n f19) (b01_n t32) (fun c => Int32.not_le.mpr t82 (by have := c.2.2; rw [if_pos rfl] at this; exact this))
                      | exact k3 j hj rfl (b01_n f19) (b01_n t32) (fun c => Int32.not_le.mpr t112 (by have := c.2.2; rw [if_neg (by decide), if_pos rfl] at this; exact this))
                      | exact k3 j hj rfl (b01_n f19) (b01_n t32) (fun c => Int32.not_le.mpr t148 (by have := c.2.2; rw [if_neg (by decide), if_neg (by decide)] at this; exact this))
                      | exact k0 j hj rfl (b01_n f19) (b01_n t32) ⟨hl, b01_z f51, by rw [if_pos rfl]; exact Int32.not_lt.mp f82⟩
                      | exact k0 j hj rfl (b01_n f19) (b01_n t32) ⟨hl, b01_z f51, by rw [if_neg (by decide), if_pos rfl]; exact Int32.not_lt.mp f112⟩
                      | exact k0 j hj rfl (b01_n f19) (b01_n t32) ⟨hl, b01_z f51, by rw [if_neg (by decide), if_neg (by decide)]; exact Int32.not_lt.mp f148⟩
                      | fail "leaf"
                    · refine wp_iconst (M := mX7_whyNot) (pc := 163) (v := 0) dX7_whyNot_163 ci_0 ?_
                      refine wp_goto (M := mX7_whyNot) (pc := 164) (tgt := 168) dX7_whyNot_164 rfl ?_
                      refine wp_ireturn (M := mX7_whyNot) (pc := 168) rfl dX7_whyNot_168 ?_
                      first
                      | exact absurd t67 (by decide)
                      | exact absurd rfl f67
                      | exact absurd t102 (by decide)
                      | exact absurd rfl f102
                      | exact absurd t127 (by decide)
                      | exact absurd rfl f127
                      | exact absurd t160 (by decide)
                      | exact absurd rfl f160
                      | exact k3 j hj rfl (b01_n f19) (b01_n t32) (fun c => hl c.1)
                      | exact k3 j hj rfl (b01_n f19) (b01_n t32) (fun c => c.2.1 (b01_n t51))
                      | exact k3 j hj rfl (b01_n f19) (b01_n t32) (fun c => Int32.not_le.mpr t82 (by have := c.2.2; rw [if_pos rfl] at this; exact this))
                      | exact k3 j hj rfl (b01_n f19) (b01_n t32) (fun c => Int32.not_le.mpr t112 (by have := c.2.2; rw [if_neg (by decide), if_pos rfl] at this; exact this))
                      | exact k3 j hj rfl (b01_n f19) (b01_n t32) (fun c => Int32.not_le.mpr t148 (by have := c.2.2; rw [if_neg (by decide), if_neg (by decide)] at this; exact this))
                      | exact k0 j hj rfl (b01_n f19) (b01_n t32) ⟨hl, b01_z f51, by rw [if_pos rfl]; exact Int32.not_lt.mp f82⟩
                      | exact k0 j hj rfl (b01_n f19) (b01_n t32) ⟨hl, b01_z f51, by rw [if_neg (by decide), if_pos rfl]; exact Int32.not_lt.mp f112⟩
                      | exact k0 j hj rfl (b01_n f19) (b01_n t32) ⟨hl, b01_z f51, by rw [if_neg (by decide), if_neg (by decide)]; exact Int32.not_lt.mp f148⟩
                      | fail "leaf"
                  · refine wp_iconst (M := mX7_whyNot) (pc := 115) (v := 1) dX7_whyNot_115 ci_1 ?_
                    refine wp_goto (M := mX7_whyNot) (pc := 116) (tgt := 120) dX7_whyNot_116 rfl ?_
                    refine so_istore (M := mX7_whyNot) (pc := 120) (lo' := [_, _, _, _, _, _]) dX7_whyNot_120 (LE rfl) (LE rfl) (Or.inr rfl) rfl ?_
                    refine wp_goto (M := mX7_whyNot) (pc := 122) (tgt := 158) dX7_whyNot_122 rfl ?_
                    refine wp_iload (M := mX7_whyNot) (pc := 158) dX7_whyNot_158 rfl ?_
                    refine wp_if_eq (M := mX7_whyNot) (pc := 160) (tgt := 167) dX7_whyNot_160 rfl (fun t160 => ?_) (fun f160 => ?_)
                    · refine wp_iconst (M := mX7_whyNot) (pc := 167) (v := 3) dX7_whyNot_167 ci_3 ?_
                      refine wp_ireturn (M := mX7_whyNot) (pc := 168) rfl dX7_whyNot_168 ?_
                      first
                      | exact absurd t67 (by decide)
                      | exact absurd rfl f67
                      | exact absurd t102 (by decide)
                      | exact absurd rfl f102
                      | exact absurd t127 (by decide)
                      | exact absurd rfl f127
                      | exact absurd t160 (by decide)
                      | exact absurd rfl f160
                      | exact k3 j hj rfl (b01_n f19) (b01_n t32) (fun c => hl c.1)
                      | exact k3 j hj rfl (b01_n f19) (b01_n t32) (fun c => c.2.1 (b01_n t51))
                      | exact k3 j hj rfl (b01_n f19) (b01_n t32) (fun c => Int32.not_le.mpr t82 (by have := c.2.2; rw [if_pos rfl] at this; exact this))
                      | exact k3 j hj rfl (b01_n f19) (b01_n t32) (fun c => Int32.not_le.mpr t112 (by have := c.2.2; rw [if_neg (by decide), if_pos rfl] at this; exact this))
                      | exact k3 j hj rfl (b01_n f19) (b01_n t32) (fun c => Int32.not_le.mpr t148 (by have := c.2.2; rw [if_neg (by decide), if_neg (by decide)] at this; exact this))
                      | exact k0 j hj rfl (b01_n f19) (b01_n t32) ⟨hl, b01_z f51, by rw [if_pos rfl]; exact Int32.not_lt.mp f82⟩
                      | exact k0 j hj rfl (b01_n f19) (b01_n t32) ⟨hl, b01_z f51, by rw [if_neg (by decide), if_pos rfl]; exact Int32.not_lt.mp f112⟩
                      | exact k0 j hj rfl (b01_n f19) (b01_n t32) ⟨hl, b01_z f51, by rw [if_neg (by decide), if_neg (by decide)]; exact Int32.not_lt.mp f148⟩
                      | fail "leaf"
                    · refine wp_iconst (M := mX7_whyNot) (pc := 163) (v := 0) dX7_whyNot_163 ci_0 ?_
                      refine wp_goto (M := mX7_whyNot) (pc := 164) (tgt := 168) dX7_whyNot_164 rfl ?_
                      refine wp_ireturn (M := mX7_whyNot) (pc := 168) rfl dX7_whyNot_168 ?_
                      first
                      | exact absurd t67 (by decide)
                      | exact absurd rfl f67
                      | exact absurd t102 (by decide)
                      | exact absurd rfl f102
                      | exact absurd t127 (by decide)
                      | exact absurd rfl f127
                      | exact absurd t160 (by decide)
                      | exact absurd rfl f160
                      | exact k3 j hj rfl (b01_n f19) (b01_n t32) (fun c => hl c.1)
                      | exact k3 j hj rfl (b01_n f19) (b01_n t32) (fun c => c.2.1 (b01_n t51))
                      | exact k3 j hj rfl (b01_n f19) (b01_n t32) (fun c => Int32.not_le.mpr t82 (by have := c.2.2; rw [if_pos rfl] at this; exact this))
                      | exact k3 j hj rfl (b01_n f19) (b01_n t32) (fun c => Int32.not_le.mpr t112 (by have := c.2.2; rw [if_neg (by decide), if_pos rfl] at this; exact this))
                      | exact k3 j hj rfl (b01_n f19) (b01_n t32) (fun c => Int32.not_le.mpr t148 (by have := c.2.2; rw [if_neg (by decide), if_neg (by decide)] at this; exact this))
                      | exact k0 j hj rfl (b01_n f19) (b01_n t32) ⟨hl, b01_z f51, by rw [if_pos rfl]; exact Int32.not_lt.mp f82⟩
                      | exact k0 j hj rfl (b01_n f19) (b01_n t32) ⟨hl, b01_z f51, by rw [if_neg (by decide), if_pos rfl]; exact Int32.not_lt.mp f112⟩
                      | exact k0 j hj rfl (b01_n f19) (b01_n t32) ⟨hl, b01_z f51, by rw [if_neg (by decide), if_neg (by decide)]; exact Int32.not_lt.mp f148⟩
                      | fail "leaf"
            · exact absurd f62 (by decide)
      · refine wp_iconst (M := mX7_whyNot) (pc := 35) (v := 2) dX7_whyNot_35 ci_2 ?_
        refine wp_ireturn (M := mX7_whyNot) (pc := 36) rfl dX7_whyNot_36 ?_
        first
        | exact k2 ⟨j, hj, rfl⟩ (fun e => b01_z t19 e.1)
        | exact k2 ⟨j, hj, rfl⟩ (fun e => b01_z f32 e.2)
        | fail "leaf"
  · refine wp_iconst (M := mX7_whyNot) (pc := 8) (v := 1) dX7_whyNot_8 ci_1 ?_
    refine wp_ireturn (M := mX7_whyNot) (pc := 9) rfl dX7_whyNot_9 ?_
    exact k1 (b01_z f5)
set_option maxHeartbeats 4000000 in
set_option maxRecDepth 100000 in
theorem sp_X7_whyNot2 {a : Nat} {A : Sta} {t p z : Int32} (ka : kd h a = some (.inr (0, 1360))) (hR : RepR (gi h a) A) (k0 : ∀ j, j < sN A → t = nI j → wth p 1 99 → wth z 1 99 → canP A 2 j p z → Q (.inl (some (.int 0))) h) (k1 : ¬ isT A t → Q (.inl (some (.int 1))) h) (k2 : isT A t → ¬ (wth p 1 99 ∧ wth z 1 99) → Q (.inl (some (.int 2))) h) (k3 : ∀ j, j < sN A → t = nI j → wth p 1 99 → wth z 1 99 → ¬ canP A 2 j p z → Q (.inl (some (.int 3))) h) : WPx E mX7_whyNot 0 [some (.ref a), some (.int t), some (.int 2), some (.int p), some (.int z), none] [] (0, 0) h Q := by
  have n6 := hR.n6
  have n12 := hR.n12
  refine wp_aload_n (M := mX7_whyNot) (pc := 0) dX7_whyNot_0 rfl ?_
  refine wp_iload_n (M := mX7_whyNot) (pc := 1) dX7_whyNot_1 rfl ?_
  refine so_S2 (M := mX7_whyNot) (pc := 2) cs_X7_whyNot_94 rfl rfl (LE rfl) (LE rfl) dX7_whyNot_2 ?_
  refine sp_X7_isTenant ka hR ?_
  refine kI ?_
  refine wp_if_ne (M := mX7_whyNot) (pc := 5) (tgt := 10) dX7_whyNot_5 rfl (fun t5 => ?_) (fun f5 => ?_)
  · obtain ⟨j, hj, rfl⟩ := b01_n t5
    refine wp_iload_n (M := mX7_whyNot) (pc := 10) dX7_whyNot_10 rfl ?_
    refine wp_i2l (M := mX7_whyNot) (pc := 11) dX7_whyNot_11 ?_
    refine wp_lconst (M := mX7_whyNot) (pc := 12) (v := 1) dX7_whyNot_12 cl_1 ?_
    refine wp_ldc2_w (M := mX7_whyNot) (pc := 13) wv_X7_206 dX7_whyNot_13 ?_
    refine so_S3 (M := mX7_whyNot) (pc := 16) cs_X7_whyNot_65 rfl rfl (LE rfl) (LE rfl) dX7_whyNot_16 ?_
    refine sp_X7_in ?_
    rw [(b01_iff (wl (x := p) (a := 1) (b := 99) (a' := 1) (b' := 99) (by decide) (by decide)))]
    refine kI ?_
    refine wp_if_eq (M := mX7_whyNot) (pc := 19) (tgt := 35) dX7_whyNot_19 rfl (fun t19 => ?_) (fun f19 => ?_)
    · refine wp_iconst (M := mX7_whyNot) (pc := 35) (v := 2) dX7_whyNot_35 ci_2 ?_
      refine wp_ireturn (M := mX7_whyNot) (pc := 36) rfl dX7_whyNot_36 ?_
      first
      | exact k2 ⟨j, hj, rfl⟩ (fun e => b01_z t19 e.1)
      | exact k2 ⟨j, hj, rfl⟩ (fun e => b01_z f32 e.2)
      | fail "leaf"
    · refine wp_iload (M := mX7_whyNot) (pc := 22) dX7_whyNot_22 rfl ?_
      refine wp_i2l (M := mX7_whyNot) (pc := 24) dX7_whyNot_24 ?_
      refine wp_lconst (M := mX7_whyNot) (pc := 25) (v := 1) dX7_whyNot_25 cl_1 ?_
      refine wp_ldc2_w (M := mX7_whyNot) (pc := 26) wv_X7_206 dX7_whyNot_26 ?_
      refine so_S3 (M := mX7_whyNot) (pc := 29) cs_X7_whyNot_65 rfl rfl (LE rfl) (LE rfl) dX7_whyNot_29 ?_
      refine sp_X7_in ?_
      rw [(b01_iff (wl (x := z) (a := 1) (b := 99) (a' := 1) (b' := 99) (by decide) (by decide)))]
      refine kI ?_
      refine wp_if_ne (M := mX7_whyNot) (pc := 32) (tgt := 37) dX7_whyNot_32 rfl (fun t32 => ?_) (fun f32 => ?_)
      · refine wp_aload_n (M := mX7_whyNot) (pc := 37) dX7_whyNot_37 rfl ?_
        refine wp_bipush (M := mX7_whyNot) (pc := 38) (v := 8) dX7_whyNot_38 cb_8 ?_
        refine wr_iaload (M := mX7_whyNot) (pc := 40) dX7_whyNot_40 ka (show (8 : Int32) = nI 8 from rfl) (by omega) (by decide) ?_
        refine wp_bipush (M := mX7_whyNot) (pc := 41) (v := 12) dX7_whyNot_41 cb_12 ?_
        refine wp_icmp_ge (M := mX7_whyNot) (pc := 43) (tgt := 58) dX7_whyNot_43 rfl (fun t43 => ?_) (fun f43 => ?_)
        · rw [hR.f8] at t43
          have hl : ¬ (sO A).length < 12 := fun e => absurd ((i_le (a := 12) (by decide) (by omega)).mp t43) (by omega)
          refine wp_iconst (M := mX7_whyNot) (pc := 58) (v := 0) dX7_whyNot_58 ci_0 ?_
          refine so_istore (M := mX7_whyNot) (pc := 59) (lo' := [_, _, _, _, _, _]) dX7_whyNot_59 (LE rfl) (LE rfl) (Or.inr rfl) rfl ?_
          refine wp_iload_n (M := mX7_whyNot) (pc := 61) dX7_whyNot_61 rfl ?_
          refine wp_if_ne (M := mX7_whyNot) (pc := 62) (tgt := 95) dX7_whyNot_62 rfl (fun t62 => ?_) (fun f62 => ?_)
          · refine wp_iload_n (M := mX7_whyNot) (pc := 95) dX7_whyNot_95 rfl ?_
            refine wp_iconst (M := mX7_whyNot) (pc := 96) (v := 1) dX7_whyNot_96 ci_1 ?_
            refine wp_icmp_ne (M := mX7_whyNot) (pc := 97) (tgt := 125) dX7_whyNot_97 rfl (fun t97 => ?_) (fun f97 => ?_)
            · refine wp_iload (M := mX7_whyNot) (pc := 125) dX7_whyNot_125 rfl ?_
              refine wp_if_eq (M := mX7_whyNot) (pc := 127) (tgt := 155) dX7_whyNot_127 rfl (fun t127 => ?_) (fun f127 => ?_)
              · refine wp_iconst (M := mX7_whyNot) (pc := 155) (v := 0) dX7_whyNot_155 ci_0 ?_
                refine so_istore (M := mX7_whyNot) (pc := 156) (lo' := [_, _, _, _, _, _]) dX7_whyNot_156 (LE rfl) (LE rfl) (Or.inr rfl) rfl ?_
                refine wp_iload (M := mX7_whyNot) (pc := 158) dX7_whyNot_158 rfl ?_
                refine wp_if_eq (M := mX7_whyNot) (pc := 160) (tgt := 167) dX7_whyNot_160 rfl (fun t160 => ?_) (fun f160 => ?_)
                · refine wp_iconst (M := mX7_whyNot) (pc := 167) (v := 3) dX7_whyNot_167 ci_3 ?_
                  refine wp_ireturn (M := mX7_whyNot) (pc := 168) rfl dX7_whyNot_168 ?_
                  first
                  | exact absurd t67 (by decide)
                  | exact absurd rfl f67
                  | exact absurd t102 (by decide)
                  | exact absurd rfl f102
                  | exact absurd t127 (by decide)
                  | exact absurd rfl f127
                  | exact absurd t160 (by decide)
                  | exact absurd rfl f160
                  | exact k3 j hj rfl (b01_n f19) (b01_n t32) (fun c => hl c.1)
                  | exact k3 j hj rfl (b01_n f19) (b01_n t32) (fun c => c.2.1 (b01_n t51))
                  | exact k3 j hj rfl (b01_n f19) (b01_n t32) (fun c => Int32.not_le.mpr t82 (by have := c.2.2; rw [if_pos rfl] at this; exact this))
                  | exact k3 j hj rfl (b01_n f19) (b01_n t32) (fun c => Int32.not_le.mpr t112 (by have := c.2.2; rw [if_neg (by decide), if_pos rfl] at this; exact this))
                  | exact k3 j hj rfl (b01_n f19) (b01_n t32) (fun c => Int32.not_le.mpr t148 (by have := c.2.2; rw [if_neg (by decide), if_neg (by decide)] at this; exact this))
                  | exact k0 j hj rfl (b01_n f19) (b01_n t32) ⟨hl, b01_z f51, by rw [if_pos rfl]; exact Int32.not_lt.mp f82⟩
                  | exact k0 j hj rfl (b01_n f19) (b01_n t32) ⟨hl, b01_z f51, by rw [if_neg (by decide), if_pos rfl]; exact Int32.not_lt.mp f112⟩
                  | exact k0 j hj rfl (b01_n f19) (b01_n t32) ⟨hl, b01_z f51, by rw [if_neg (by decide), if_neg (by decide)]; exact Int32.not_lt.mp f148⟩
                  | fail "leaf"
                · refine wp_iconst (M := mX7_whyNot) (pc := 163) (v := 0) dX7_whyNot_163 ci_0 ?_
                  refine wp_goto (M := mX7_whyNot) (pc := 164) (tgt := 168) dX7_whyNot_164 rfl ?_
                  refine wp_ireturn (M := mX7_whyNot) (pc := 168) rfl dX7_whyNot_168 ?_
                  first
                  | exact absurd t67 (by decide)
                  | exact absurd rfl f67
                  | exact absurd t102 (by decide)
                  | exact absurd rfl f102
                  | exact absurd t127 (by decide)
                  | exact absurd rfl f127
                  | exact absurd t160 (by decide)
                  | exact absurd rfl f160
                  | exact k3 j hj rfl (b01_n f19) (b01_n t32) (fun c => hl c.1)
                  | exact k3 j hj rfl (b01_n f19) (b01_n t32) (fun c => c.2.1 (b01_n t51))
                  | exact k3 j hj rfl (b01_n f19) (b01_n t32) (fun c => Int32.not_le.mpr t82 (by have := c.2.2; rw [if_pos rfl] at this; exact this))
                  | exact k3 j hj rfl (b01_n f19) (b01_n t32) (fun c => Int32.not_le.mpr t112 (by have := c.2.2; rw [if_neg (by decide), if_pos rfl] at this; exact this))
                  | exact k3 j hj rfl (b01_n f19) (b01_n t32) (fun c => Int32.not_le.mpr t148 (by have := c.2.2; rw [if_neg (by decide), if_neg (by decide)] at this; exact this))
                  | exact k0 j hj rfl (b01_n f19) (b01_n t32) ⟨hl, b01_z f51, by rw [if_pos rfl]; exact Int32.not_lt.mp f82⟩
                  | exact k0 j hj rfl (b01_n f19) (b01_n t32) ⟨hl, b01_z f51, by rw [if_neg (by decide), if_pos rfl]; exact Int32.not_lt.mp f112⟩
                  | exact k0 j hj rfl (b01_n f19) (b01_n t32) ⟨hl, b01_z f51, by rw [if_neg (by decide), if_neg (by decide)]; exact Int32.not_lt.mp f148⟩
                  | fail "leaf"
              · refine wp_aload_n (M := mX7_whyNot) (pc := 130) dX7_whyNot_130 rfl ?_
                refine wp_iload_n (M := mX7_whyNot) (pc := 131) dX7_whyNot_131 rfl ?_
                refine so_S2 (M := mX7_whyNot) (pc := 132) cs_X7_whyNot_126 rfl rfl (LE rfl) (LE rfl) dX7_whyNot_132 ?_
                refine sp_X7_debts ka hR hj ?_
                refine kI ?_
                refine wp_aload_n (M := mX7_whyNot) (pc := 135) dX7_whyNot_135 rfl ?_
                refine wp_iload_n (M := mX7_whyNot) (pc := 136) dX7_whyNot_136 rfl ?_
                refine wp_iconst (M := mX7_whyNot) (pc := 137) (v := 2) dX7_whyNot_137 ci_2 ?_
                refine wp_iconst (M := mX7_whyNot) (pc := 138) (v := 0) dX7_whyNot_138 ci_0 ?_
                refine so_S4 (M := mX7_whyNot) (pc := 139) cs_X7_whyNot_122 rfl rfl (LE rfl) (LE rfl) dX7_whyNot_139 ?_
                refine sp_X7_inBook (kn := 2) (c := 0) ka hR (by omega) (by decide) ?_
                refine kI ?_
                refine wp_iadd (M := mX7_whyNot) (pc := 142) dX7_whyNot_142 ?_
                refine wp_iload (M := mX7_whyNot) (pc := 143) dX7_whyNot_143 rfl ?_
                refine wp_iadd (M := mX7_whyNot) (pc := 145) dX7_whyNot_145 ?_
                refine wp_bipush (M := mX7_whyNot) (pc := 146) (v := 99) dX7_whyNot_146 cb_99 ?_
                refine wp_icmp_gt (M := mX7_whyNot) (pc := 148) (tgt := 155) dX7_whyNot_148 rfl (fun t148 => ?_) (fun f148 => ?_)
                · rw [gk_q] at t148
                  refine wp_iconst (M := mX7_whyNot) (pc := 155) (v := 0) dX7_whyNot_155 ci_0 ?_
                  refine so_istore (M := mX7_whyNot) (pc := 156) (lo' := [_, _, _, _, _, _]) dX7_whyNot_156 (LE rfl) (LE rfl) (Or.inr rfl) rfl ?_
                  refine wp_iload (M := mX7_whyNot) (pc := 158) dX7_whyNot_158 rfl ?_
                  refine wp_if_eq (M := mX7_whyNot) (pc := 160) (tgt := 167) dX7_whyNot_160 rfl (fun t160 => ?_) (fun f160 => ?_)
                  · refine wp_iconst (M := mX7_whyNot) (pc := 167) (v := 3) dX7_whyNot_167 ci_3 ?_
                    refine wp_ireturn (M := mX7_whyNot) (pc := 168) rfl dX7_whyNot_168 ?_
                    first
                    | exact absurd t67 (by decide)
                    | exact absurd rfl f67
                    | exact absurd t102 (by decide)
                    | exact absurd rfl f102
                    | exact absurd t127 (by decide)
                    | exact absurd rfl f127
                    | exact absurd t160 (by decide)
                    | exact absurd rfl f160
                    | exact k3 j hj rfl (b01_n f19) (b01_n t32) (fun c => hl c.1)
                    | exact k3 j hj rfl (b01_n f19) (b01_n t32) (fun c => c.2.1 (b01_n t51))
                    | exact k3 j hj rfl (b01_n f19) (b01_n t32) (fun c => Int32.not_le.mpr t82 (by have := c.2.2; rw [if_pos rfl] at this; exact this))
                    | exact k3 j hj rfl (b01_n f19) (b01_n t32) (fun c => Int32.not_le.mpr t112 (by have := c.2.2; rw [if_neg (by decide), if_pos rfl] at this; exact this))
                    | exact k3 j hj rfl (b01_n f19) (b01_n t32) (fun c => Int32.not_le.mpr t148 (by have := c.2.2; rw [if_neg (by decide), if_neg (by decide)] at this; exact this))
                    | exact k0 j hj rfl (b01_n f19) (b01_n t32) ⟨hl, b01_z f51, by rw [if_pos rfl]; exact Int32.not_lt.mp f82⟩
                    | exact k0 j hj rfl (b01_n f19) (b01_n t32) ⟨hl, b01_z f51, by rw [if_neg (by decide), if_pos rfl]; exact Int32.not_lt.mp f112⟩
                    | exact k0 j hj rfl (b01_n f19) (b01_n t32) ⟨hl, b01_z f51, by rw [if_neg (by decide), if_neg (by decide)]; exact Int32.not_lt.mp f148⟩
                    | fail "leaf"
                  · refine wp_iconst (M := mX7_whyNot) (pc := 163) (v := 0) dX7_whyNot_163 ci_0 ?_
                    refine wp_goto (M := mX7_whyNot) (pc := 164) (tgt := 168) dX7_whyNot_164 rfl ?_
                    refine wp_ireturn (M := mX7_whyNot) (pc := 168) rfl dX7_whyNot_168 ?_
                    first
                    | exact absurd t67 (by decide)
                    | exact absurd rfl f67
                    | exact absurd t102 (by decide)
                    | exact absurd rfl f102
                    | exact absurd t127 (by decide)
                    | exact absurd rfl f127
                    | exact absurd t160 (by decide)
                    | exact absurd rfl f160
                    | exact k3 j hj rfl (b01_n f19) (b01_n t32) (fun c => hl c.1)
                    | exact k3 j hj rfl (b01_n f19) (b01_n t32) (fun c => c.2.1 (b01_n t51))
                    | exact k3 j hj rfl (b01_n f19) (b01_n t32) (fun c => Int32.not_le.mpr t82 (by have := c.2.2; rw [if_pos rfl] at this; exact this))
                    | exact k3 j hj rfl (b01_n f19) (b01_n t32) (fun c => Int32.not_le.mpr t112 (by have := c.2.2; rw [if_neg (by decide), if_pos rfl] at this; exact this))
                    | exact k3 j hj rfl (b01_n f19) (b01_n t32) (fun c => Int32.not_le.mpr t148 (by have := c.2.2; rw [if_neg (by decide), if_neg (by decide)] at this; exact this))
                    | exact k0 j hj rfl (b01_n f19) (b01_n t32) ⟨hl, b01_z f51, by rw [if_pos rfl]; exact Int32.not_lt.mp f82⟩
                    | exact k0 j hj rfl (b01_n f19) (b01_n t32) ⟨hl, b01_z f51, by rw [if_neg (by decide), if_pos rfl]; exact Int32.not_lt.mp f112⟩
                    | exact k0 j hj rfl (b01_n f19) (b01_n t32) ⟨hl, b01_z f51, by rw [if_neg (by decide), if_neg (by decide)]; exact Int32.not_lt.mp f148⟩
                    | fail "leaf"
                · rw [gk_q] at f148
                  refine wp_iconst (M := mX7_whyNot) (pc := 151) (v := 1) dX7_whyNot_151 ci_1 ?_
                  refine wp_goto (M := mX7_whyNot) (pc := 152) (tgt := 156) dX7_whyNot_152 rfl ?_
                  refine so_istore (M := mX7_whyNot) (pc := 156) (lo' := [_, _, _, _, _, _]) dX7_whyNot_156 (LE rfl) (LE rfl) (Or.inr rfl) rfl ?_
                  refine wp_iload (M := mX7_whyNot) (pc := 158) dX7_whyNot_158 rfl ?_
                  refine wp_if_eq (M := mX7_whyNot) (pc := 160) (tgt := 167) dX7_whyNot_160 rfl (fun t160 => ?_) (fun f160 => ?_)
                  · refine wp_iconst (M := mX7_whyNot) (pc := 167) (v := 3) dX7_whyNot_167 ci_3 ?_
                    refine wp_ireturn (M := mX7_whyNot) (pc := 168) rfl dX7_whyNot_168 ?_
                    first
                    | exact absurd t67 (by decide)
                    | exact absurd rfl f67
                    | exact absurd t102 (by decide)
                    | exact absurd rfl f102
                    | exact absurd t127 (by decide)
                    | exact absurd rfl f127
                    | exact absurd t160 (by decide)
                    | exact absurd rfl f160
                    | exact k3 j hj rfl (b01_n f19) (b01_n t32) (fun c => hl c.1)
                    | exact k3 j hj rfl (b01_n f19) (b01_n t32) (fun c => c.2.1 (b01_n t51))
                    | exact k3 j hj rfl (b01_n f19) (b01_n t32) (fun c => Int32.not_le.mpr t82 (by have := c.2.2; rw [if_pos rfl] at this; exact this))
                    | exact k3 j hj rfl (b01_n f19) (b01_n t32) (fun c => Int32.not_le.mpr t112 (by have := c.2.2; rw [if_neg (by decide), if_pos rfl] at this; exact this))
                    | exact k3 j hj rfl (b01_n f19) (b01_n t32) (fun c => Int32.not_le.mpr t148 (by have := c.2.2; rw [if_neg (by decide), if_neg (by decide)] at this; exact this))
                    | exact k0 j hj rfl (b01_n f19) (b01_n t32) ⟨hl, b01_z f51, by rw [if_pos rfl]; exact Int32.not_lt.mp f82⟩
                    | exact k0 j hj rfl (b01_n f19) (b01_n t32) ⟨hl, b01_z f51, by rw [if_neg (by decide), if_pos rfl]; exact Int32.not_lt.mp f112⟩
                    | exact k0 j hj rfl (b01_n f19) (b01_n t32) ⟨hl, b01_z f51, by rw [if_neg (by decide), if_neg (by decide)]; exact Int32.not_lt.mp f148⟩
                    | fail "leaf"
                  · refine wp_iconst (M := mX7_whyNot) (pc := 163) (v := 0) dX7_whyNot_163 ci_0 ?_
                    refine wp_goto (M := mX7_whyNot) (pc := 164) (tgt := 168) dX7_whyNot_164 rfl ?_
                    refine wp_ireturn (M := mX7_whyNot) (pc := 168) rfl dX7_whyNot_168 ?_
                    first
                    | exact absurd t67 (by decide)
                    | exact absurd rfl f67
                    | exact absurd t102 (by decide)
                    | exact absurd rfl f102
                    | exact absurd t127 (by decide)
                    | exact absurd rfl f127
                    | exact absurd t160 (by decide)
                    | exact absurd rfl f160
                    | exact k3 j hj rfl (b01_n f19) (b01_n t32) (fun c => hl c.1)
                    | exact k3 j hj rfl (b01_n f19) (b01_n t32) (fun c => c.2.1 (b01_n t51))
                    | exact k3 j hj rfl (b01_n f19) (b01_n t32) (fun c => Int32.not_le.mpr t82 (by have := c.2.2; rw [if_pos rfl] at this; exact this))
                    | exact k3 j hj rfl (b01_n f19) (b01_n t32) (fun c => Int32.not_le.mpr t112 (by have := c.2.2; rw [if_neg (by decide), if_pos rfl] at this; exact this))
                    | exact k3 j hj rfl (b01_n f19) (b01_n t32) (fun c => Int32.not_le.mpr t148 (by have := c.2.2; rw [if_neg (by decide), if_neg (by decide)] at this; exact this))
                    | exact k0 j hj rfl (b01_n f19) (b01_n t32) ⟨hl, b01_z f51, by rw [if_pos rfl]; exact Int32.not_lt.mp f82⟩
                    | exact k0 j hj rfl (b01_n f19) (b01_n t32) ⟨hl, b01_z f51, by rw [if_neg (by decide), if_pos rfl]; exact Int32.not_lt.mp f112⟩
                    | exact k0 j hj rfl (b01_n f19) (b01_n t32) ⟨hl, b01_z f51, by rw [if_neg (by decide), if_neg (by decide)]; exact Int32.not_lt.mp f148⟩
                    | fail "leaf"
            · exact absurd f97 (by decide)
          · exact absurd f62 (by decide)
        · rw [hR.f8] at f43
          have hl : (sO A).length < 12 := Nat.lt_of_not_le (fun e => f43 ((i_le (a := 12) (by decide) (by omega)).mpr e))
          refine wp_aload_n (M := mX7_whyNot) (pc := 46) dX7_whyNot_46 rfl ?_
          refine wp_iload_n (M := mX7_whyNot) (pc := 47) dX7_whyNot_47 rfl ?_
          refine so_S2 (M := mX7_whyNot) (pc := 48) cs_X7_whyNot_130 rfl rfl (LE rfl) (LE rfl) dX7_whyNot_48 ?_
          refine sp_X7_isSuspended ka hR hj ?_
          refine kI ?_
          refine wp_if_ne (M := mX7_whyNot) (pc := 51) (tgt := 58) dX7_whyNot_51 rfl (fun t51 => ?_) (fun f51 => ?_)
          · refine wp_iconst (M := mX7_whyNot) (pc := 58) (v := 0) dX7_whyNot_58 ci_0 ?_
            refine so_istore (M := mX7_whyNot) (pc := 59) (lo' := [_, _, _, _, _, _]) dX7_whyNot_59 (LE rfl) (LE rfl) (Or.inr rfl) rfl ?_
            refine wp_iload_n (M := mX7_whyNot) (pc := 61) dX7_whyNot_61 rfl ?_
            refine wp_if_ne (M := mX7_whyNot) (pc := 62) (tgt := 95) dX7_whyNot_62 rfl (fun t62 => ?_) (fun f62 => ?_)
            · refine wp_iload_n (M := mX7_whyNot) (pc := 95) dX7_whyNot_95 rfl ?_
              refine wp_iconst (M := mX7_whyNot) (pc := 96) (v := 1) dX7_whyNot_96 ci_1 ?_
              refine wp_icmp_ne (M := mX7_whyNot) (pc := 97) (tgt := 125) dX7_whyNot_97 rfl (fun t97 => ?_) (fun f97 => ?_)
              · refine wp_iload (M := mX7_whyNot) (pc := 125) dX7_whyNot_125 rfl ?_
                refine wp_if_eq (M := mX7_whyNot) (pc := 127) (tgt := 155) dX7_whyNot_127 rfl (fun t127 => ?_) (fun f127 => ?_)
                · refine wp_iconst (M := mX7_whyNot) (pc := 155) (v := 0) dX7_whyNot_155 ci_0 ?_
                  refine so_istore (M := mX7_whyNot) (pc := 156) (lo' := [_, _, _, _, _, _]) dX7_whyNot_156 (LE rfl) (LE rfl) (Or.inr rfl) rfl ?_
                  refine wp_iload (M := mX7_whyNot) (pc := 158) dX7_whyNot_158 rfl ?_
                  refine wp_if_eq (M := mX7_whyNot) (pc := 160) (tgt := 167) dX7_whyNot_160 rfl (fun t160 => ?_) (fun f160 => ?_)
                  · refine wp_iconst (M := mX7_whyNot) (pc := 167) (v := 3) dX7_whyNot_167 ci_3 ?_
                    refine wp_ireturn (M := mX7_whyNot) (pc := 168) rfl dX7_whyNot_168 ?_
                    first
                    | exact absurd t67 (by decide)
                    | exact absurd rfl f67
                    | exact absurd t102 (by decide)
                    | exact absurd rfl f102
                    | exact absurd t127 (by decide)
                    | exact absurd rfl f127
                    | exact absurd t160 (by decide)
                    | exact absurd rfl f160
                    | exact k3 j hj rfl (b01_n f19) (b01_n t32) (fun c => hl c.1)
                    | exact k3 j hj rfl (b01_n f19) (b01_n t32) (fun c => c.2.1 (b01_n t51))
                    | exact k3 j hj rfl (b01_n f19) (b01_n t32) (fun c => Int32.not_le.mpr t82 (by have := c.2.2; rw [if_pos rfl] at this; exact this))
                    | exact k3 j hj rfl (b01_n f19) (b01_n t32) (fun c => Int32.not_le.mpr t112 (by have := c.2.2; rw [if_neg (by decide), if_pos rfl] at this; exact this))
                    | exact k3 j hj rfl (b01_n f19) (b01_n t32) (fun c => Int32.not_le.mpr t148 (by have := c.2.2; rw [if_neg (by decide), if_neg (by decide)] at this; exact this))
                    | exact k0 j hj rfl (b01_n f19) (b01_n t32) ⟨hl, b01_z f51, by rw [if_pos rfl]; exact Int32.not_lt.mp f82⟩
                    | exact k0 j hj rfl (b01_n f19) (b01_n t32) ⟨hl, b01_z f51, by rw [if_neg (by decide), if_pos rfl]; exact Int32.not_lt.mp f112⟩
                    | exact k0 j hj rfl (b01_n f19) (b01_n t32) ⟨hl, b01_z f51, by rw [if_neg (by decide), if_neg (by decide)]; exact Int32.not_lt.mp f148⟩
                    | fail "leaf"
                  · refine wp_iconst (M := mX7_whyNot) (pc := 163) (v := 0) dX7_whyNot_163 ci_0 ?_
                    refine wp_goto (M := mX7_whyNot) (pc := 164) (tgt := 168) dX7_whyNot_164 rfl ?_
                    refine wp_ireturn (M := mX7_whyNot) (pc := 168) rfl dX7_whyNot_168 ?_
                    first
                    | exact absurd t67 (by decide)
                    | exact absurd rfl f67
                    | exact absurd t102 (by decide)
                    | exact absurd rfl f102
                    | exact absurd t127 (by decide)
                    | exact absurd rfl f127
                    | exact absurd t160 (by decide)
                    | exact absurd rfl f160
                    | exact k3 j hj rfl (b01_n f19) (b01_n t32) (fun c => hl c.1)
                    | exact k3 j hj rfl (b01_n f19) (b01_n t32) (fun c => c.2.1 (b01_n t51))
                    | exact k3 j hj rfl (b01_n f19) (b01_n t32) (fun c => Int32.not_le.mpr t82 (by have := c.2.2; rw [if_pos rfl] at this; exact this))
                    | exact k3 j hj rfl (b01_n f19) (b01_n t32) (fun c => Int32.not_le.mpr t112 (by have := c.2.2; rw [if_neg (by decide), if_pos rfl] at this; exact this))
                    | exact k3 j hj rfl (b01_n f19) (b01_n t32) (fun c => Int32.not_le.mpr t148 (by have := c.2.2; rw [if_neg (by decide), if_neg (by decide)] at this; exact this))
                    | exact k0 j hj rfl (b01_n f19) (b01_n t32) ⟨hl, b01_z f51, by rw [if_pos rfl]; exact Int32.not_lt.mp f82⟩
                    | exact k0 j hj rfl (b01_n f19) (b01_n t32) ⟨hl, b01_z f51, by rw [if_neg (by decide), if_pos rfl]; exact Int32.not_lt.mp f112⟩
                    | exact k0 j hj rfl (b01_n f19) (b01_n t32) ⟨hl, b01_z f51, by rw [if_neg (by decide), if_neg (by decide)]; exact Int32.not_lt.mp f148⟩
                    | fail "leaf"
                · refine wp_aload_n (M := mX7_whyNot) (pc := 130) dX7_whyNot_130 rfl ?_
                  refine wp_iload_n (M := mX7_whyNot) (pc := 131) dX7_whyNot_131 rfl ?_
                  refine so_S2 (M := mX7_whyNot) (pc := 132) cs_X7_whyNot_126 rfl rfl (LE rfl) (LE rfl) dX7_whyNot_132 ?_
                  refine sp_X7_debts ka hR hj ?_
                  refine kI ?_
                  refine wp_aload_n (M := mX7_whyNot) (pc := 135) dX7_whyNot_135 rfl ?_
                  refine wp_iload_n (M := mX7_whyNot) (pc := 136) dX7_whyNot_136 rfl ?_
                  refine wp_iconst (M := mX7_whyNot) (pc := 137) (v := 2) dX7_whyNot_137 ci_2 ?_
                  refine wp_iconst (M := mX7_whyNot) (pc := 138) (v := 0) dX7_whyNot_138 ci_0 ?_
                  refine so_S4 (M := mX7_whyNot) (pc := 139) cs_X7_whyNot_122 rfl rfl (LE rfl) (LE rfl) dX7_whyNot_139 ?_
                  refine sp_X7_inBook (kn := 2) (c := 0) ka hR (by omega) (by decide) ?_
                  refine kI ?_
                  refine wp_iadd (M := mX7_whyNot) (pc := 142) dX7_whyNot_142 ?_
                  refine wp_iload (M := mX7_whyNot) (pc := 143) dX7_whyNot_143 rfl ?_
                  refine wp_iadd (M := mX7_whyNot) (pc := 145) dX7_whyNot_145 ?_
                  refine wp_bipush (M := mX7_whyNot) (pc := 146) (v := 99) dX7_whyNot_146 cb_99 ?_
                  refine wp_icmp_gt (M := mX7_whyNot) (pc := 148) (tgt := 155) dX7_whyNot_148 rfl (fun t148 => ?_) (fun f148 => ?_)
                  · rw [gk_q] at t148
                    refine wp_iconst (M := mX7_whyNot) (pc := 155) (v := 0) dX7_whyNot_155 ci_0 ?_
                    refine so_istore (M := mX7_whyNot) (pc := 156) (lo' := [_, _, _, _, _, _]) dX7_whyNot_156 (LE rfl) (LE rfl) (Or.inr rfl) rfl ?_
                    refine wp_iload (M := mX7_whyNot) (pc := 158) dX7_whyNot_158 rfl ?_
                    refine wp_if_eq (M := mX7_whyNot) (pc := 160) (tgt := 167) dX7_whyNot_160 rfl (fun t160 => ?_) (fun f160 => ?_)
                    · refine wp_iconst (M := mX7_whyNot) (pc := 167) (v := 3) dX7_whyNot_167 ci_3 ?_
                      refine wp_ireturn (M := mX7_whyNot) (pc := 168) rfl dX7_whyNot_168 ?_
                      first
                      | exact absurd t67 (by decide)
                      | exact absurd rfl f67
                      | exact absurd t102 (by decide)
                      | exact absurd rfl f102
                      | exact absurd t127 (by decide)
                      | exact absurd rfl f127
                      | exact absurd t160 (by decide)
                      | exact absurd rfl f160
                      | exact k3 j hj rfl (b01_n f19) (b01_n t32) (fun c => hl c.1)
                      | exact k3 j hj rfl (b01_n f19) (b01_n t32) (fun c => c.2.1 (b01_n t51))
                      | exact k3 j hj rfl (b01_n f19) (b01_n t32) (fun c => Int32.not_le.mpr t82 (by have := c.2.2; rw [if_pos rfl] at this; exact this))
                      | exact k3 j hj rfl (b01_n f19) (b01_n t32) (fun c => Int32.not_le.mpr t112 (by have := c.2.2; rw [if_neg (by decide), if_pos rfl] at this; exact this))
                      | exact k3 j hj rfl (b01_n f19) (b01_n t32) (fun c => Int32.not_le.mpr t148 (by have := c.2.2; rw [if_neg (by decide), if_neg (by decide)] at this; exact this))
                      | exact k0 j hj rfl (b01_n f19) (b01_n t32) ⟨hl, b01_z f51, by rw [if_pos rfl]; exact Int32.not_lt.mp f82⟩
                      | exact k0 j hj rfl (b01_n f19) (b01_n t32) ⟨hl, b01_z f51, by rw [if_neg (by decide), if_pos rfl]; exact Int32.not_lt.mp f112⟩
                      | exact k0 j hj rfl (b01_n f19) (b01_n t32) ⟨hl, b01_z f51, by rw [if_neg (by decide), if_neg (by decide)]; exact Int32.not_lt.mp f148⟩
                      | fail "leaf"
                    · refine wp_iconst (M := mX7_whyNot) (pc := 163) (v := 0) dX7_whyNot_163 ci_0 ?_
                      refine wp_goto (M := mX7_whyNot) (pc := 164) (tgt := 168) dX7_whyNot_164 rfl ?_
                      refine wp_ireturn (M := mX7_whyNot) (pc := 168) rfl dX7_whyNot_168 ?_
                      first
                      | exact absurd t67 (by decide)
                      | exact absurd rfl f67
                      | exact absurd t102 (by decide)
                      | exact absurd rfl f102
                      | exact absurd t127 (by decide)
                      | exact absurd rfl f127
                      | exact absurd t160 (by decide)
                      | exact absurd rfl f160
                      | exact k3 j hj rfl (b01_n f19) (b01_n t32) (fun c => hl c.1)
                      | exact k3 j hj rfl (b01_n f19) (b01_n t32) (fun c => c.2.1 (b01_n t51))
                      | exact k3 j hj rfl (b01_n f19) (b01_n t32) (fun c => Int32.not_le.mpr t82 (by have := c.2.2; rw [if_pos rfl] at this; exact this))
                      | exact k3 j hj rfl (b01_n f19) (b01_n t32) (fun c => Int32.not_le.mpr t112 (by have := c.2.2; rw [if_neg (by decide), if_pos rfl] at this; exact this))
                      | exact k3 j hj rfl (b01_n f19) (b01_n t32) (fun c => Int32.not_le.mpr t148 (by have := c.2.2; rw [if_neg (by decide), if_neg (by decide)] at this; exact this))
                      | exact k0 j hj rfl (b01_n f19) (b01_n t32) ⟨hl, b01_z f51, by rw [if_pos rfl]; exact Int32.not_lt.mp f82⟩
                      | exact k0 j hj rfl (b01_n f19) (b01_n t32) ⟨hl, b01_z f51, by rw [if_neg (by decide), if_pos rfl]; exact Int32.not_lt.mp f112⟩
                      | exact k0 j hj rfl (b01_n f19) (b01_n t32) ⟨hl, b01_z f51, by rw [if_neg (by decide), if_neg (by decide)]; exact Int32.not_lt.mp f148⟩
                      | fail "leaf"
                  · rw [gk_q] at f148
                    refine wp_iconst (M := mX7_whyNot) (pc := 151) (v := 1) dX7_whyNot_151 ci_1 ?_
                    refine wp_goto (M := mX7_whyNot) (pc := 152) (tgt := 156) dX7_whyNot_152 rfl ?_
                    refine so_istore (M := mX7_whyNot) (pc := 156) (lo' := [_, _, _, _, _, _]) dX7_whyNot_156 (LE rfl) (LE rfl) (Or.inr rfl) rfl ?_
                    refine wp_iload (M := mX7_whyNot) (pc := 158) dX7_whyNot_158 rfl ?_
                    refine wp_if_eq (M := mX7_whyNot) (pc := 160) (tgt := 167) dX7_whyNot_160 rfl (fun t160 => ?_) (fun f160 => ?_)
                    · refine wp_iconst (M := mX7_whyNot) (pc := 167) (v := 3) dX7_whyNot_167 ci_3 ?_
                      refine wp_ireturn (M := mX7_whyNot) (pc := 168) rfl dX7_whyNot_168 ?_
                      first
                      | exact absurd t67 (by decide)
                      | exact absurd rfl f67
                      | exact absurd t102 (by decide)
                      | exact absurd rfl f102
                      | exact absurd t127 (by decide)
                      | exact absurd rfl f127
                      | exact absurd t160 (by decide)
                      | exact absurd rfl f160
                      | exact k3 j hj rfl (b01_n f19) (b01_n t32) (fun c => hl c.1)
                      | exact k3 j hj rfl (b01_n f19) (b01_n t32) (fun c => c.2.1 (b01_n t51))
                      | exact k3 j hj rfl (b01_n f19) (b01_n t32) (fun c => Int32.not_le.mpr t82 (by have := c.2.2; rw [if_pos rfl] at this; exact this))
                      | exact k3 j hj rfl (b01_n f19) (b01_n t32) (fun c => Int32.not_le.mpr t112 (by have := c.2.2; rw [if_neg (by decide), if_pos rfl] at this; exact this))
                      | exact k3 j hj rfl (b01_n f19) (b01_n t32) (fun c => Int32.not_le.mpr t148 (by have := c.2.2; rw [if_neg (by decide), if_neg (by decide)] at this; exact this))
                      | exact k0 j hj rfl (b01_n f19) (b01_n t32) ⟨hl, b01_z f51, by rw [if_pos rfl]; exact Int32.not_lt.mp f82⟩
                      | exact k0 j hj rfl (b01_n f19) (b01_n t32) ⟨hl, b01_z f51, by rw [if_neg (by decide), if_pos rfl]; exact Int32.not_lt.mp f112⟩
                      | exact k0 j hj rfl (b01_n f19) (b01_n t32) ⟨hl, b01_z f51, by rw [if_neg (by decide), if_neg (by decide)]; exact Int32.not_lt.mp f148⟩
                      | fail "leaf"
                    · refine wp_iconst (M := mX7_whyNot) (pc := 163) (v := 0) dX7_whyNot_163 ci_0 ?_
                      refine wp_goto (M := mX7_whyNot) (pc := 164) (tgt := 168) dX7_whyNot_164 rfl ?_
                      refine wp_ireturn (M := mX7_whyNot) (pc := 168) rfl dX7_whyNot_168 ?_
                      first
                      | exact absurd t67 (by decide)
                      | exact absurd rfl f67
                      | exact absurd t102 (by decide)
                      | exact absurd rfl f102
                      | exact absurd t127 (by decide)
                      | exact absurd rfl f127
                      | exact absurd t160 (by decide)
                      | exact absurd rfl f160
                      | exact k3 j hj rfl (b01_n f19) (b01_n t32) (fun c => hl c.1)
                      | exact k3 j hj rfl (b01_n f19) (b01_n t32) (fun c => c.2.1 (b01_n t51))
                      | exact k3 j hj rfl (b01_n f19) (b01_n t32) (fun c => Int32.not_le.mpr t82 (by have := c.2.2; rw [if_pos rfl] at this; exact this))
                      | exact k3 j hj rfl (b01_n f19) (b01_n t32) (fun c => Int32.not_le.mpr t112 (by have := c.2.2; rw [if_neg (by decide), if_pos rfl] at this; exact this))
                      | exact k3 j hj rfl (b01_n f19) (b01_n t32) (fun c => Int32.not_le.mpr t148 (by have := c.2.2; rw [if_neg (by decide), if_neg (by decide)] at this; exact this))
                      | exact k0 j hj rfl (b01_n f19) (b01_n t32) ⟨hl, b01_z f51, by rw [if_pos rfl]; exact Int32.not_lt.mp f82⟩
                      | exact k0 j hj rfl (b01_n f19) (b01_n t32) ⟨hl, b01_z f51, by rw [if_neg (by decide), if_pos rfl]; exact Int32.not_lt.mp f112⟩
                      | exact k0 j hj rfl (b01_n f19) (b01_n t32) ⟨hl, b01_z f51, by rw [if_neg (by decide), if_neg (by decide)]; exact Int32.not_lt.mp f148⟩
                      | fail "leaf"
              · exact absurd f97 (by decide)
            · exact absurd f62 (by decide)
          · refine wp_iconst (M := mX7_whyNot) (pc := 54) (v := 1) dX7_whyNot_54 ci_1 ?_
            refine wp_goto (M := mX7_whyNot) (pc := 55) (tgt := 59) dX7_whyNot_55 rfl ?_
            refine so_istore (M := mX7_whyNot) (pc := 59) (lo' := [_, _, _, _, _, _]) dX7_whyNot_59 (LE rfl) (LE rfl) (Or.inr rfl) rfl ?_
            refine wp_iload_n (M := mX7_whyNot) (pc := 61) dX7_whyNot_61 rfl ?_
            refine wp_if_ne (M := mX7_whyNot) (pc := 62) (tgt := 95) dX7_whyNot_62 rfl (fun t62 => ?_) (fun f62 => ?_)
            · refine wp_iload_n (M := mX7_whyNot) (pc := 95) dX7_whyNot_95 rfl ?_
              refine wp_iconst (M := mX7_whyNot) (pc := 96) (v := 1) dX7_whyNot_96 ci_1 ?_
              refine wp_icmp_ne (M := mX7_whyNot) (pc := 97) (tgt := 125) dX7_whyNot_97 rfl (fun t97 => ?_) (fun f97 => ?_)
              · refine wp_iload (M := mX7_whyNot) (pc := 125) dX7_whyNot_125 rfl ?_
                refine wp_if_eq (M := mX7_whyNot) (pc := 127) (tgt := 155) dX7_whyNot_127 rfl (fun t127 => ?_) (fun f127 => ?_)
                · refine wp_iconst (M := mX7_whyNot) (pc := 155) (v := 0) dX7_whyNot_155 ci_0 ?_
                  refine so_istore (M := mX7_whyNot) (pc := 156) (lo' := [_, _, _, _, _, _]) dX7_whyNot_156 (LE rfl) (LE rfl) (Or.inr rfl) rfl ?_
                  refine wp_iload (M := mX7_whyNot) (pc := 158) dX7_whyNot_158 rfl ?_
                  refine wp_if_eq (M := mX7_whyNot) (pc := 160) (tgt := 167) dX7_whyNot_160 rfl (fun t160 => ?_) (fun f160 => ?_)
                  · refine wp_iconst (M := mX7_whyNot) (pc := 167) (v := 3) dX7_whyNot_167 ci_3 ?_
                    refine wp_ireturn (M := mX7_whyNot) (pc := 168) rfl dX7_whyNot_168 ?_
                    first
                    | exact absurd t67 (by decide)
                    | exact absurd rfl f67
                    | exact absurd t102 (by decide)
                    | exact absurd rfl f102
                    | exact absurd t127 (by decide)
                    | exact absurd rfl f127
                    | exact absurd t160 (by decide)
                    | exact absurd rfl f160
                    | exact k3 j hj rfl (b01_n f19) (b01_n t32) (fun c => hl c.1)
                    | exact k3 j hj rfl (b01_n f19) (b01_n t32) (fun c => c.2.1 (b01_n t51))
                    | exact k3 j hj rfl (b01_n f19) (b01_n t32) (fun c => Int32.not_le.mpr t82 (by have := c.2.2; rw [if_pos rfl] at this; exact this))
                    | exact k3 j hj rfl (b01_n f19) (b01_n t32) (fun c => Int32.not_le.mpr t112 (by have := c.2.2; rw [if_neg (by decide), if_pos rfl] at this; exact this))
                    | exact k3 j hj rfl (b01_n f19) (b01_n t32) (fun c => Int32.not_le.mpr t148 (by have := c.2.2; rw [if_neg (by decide), if_neg (by decide)] at this; exact this))
                    | exact k0 j hj rfl (b01_n f19) (b01_n t32) ⟨hl, b01_z f51, by rw [if_pos rfl]; exact Int32.not_lt.mp f82⟩
                    | exact k0 j hj rfl (b01_n f19) (b01_n t32) ⟨hl, b01_z f51, by rw [if_neg (by decide), if_pos rfl]; exact Int32.not_lt.mp f112⟩
                    | exact k0 j hj rfl (b01_n f19) (b01_n t32) ⟨hl, b01_z f51, by rw [if_neg (by decide), if_neg (by decide)]; exact Int32.not_lt.mp f148⟩
                    | fail "leaf"
                  · refine wp_iconst (M := mX7_whyNot) (pc := 163) (v := 0) dX7_whyNot_163 ci_0 ?_
                    refine wp_goto (M := mX7_whyNot) (pc := 164) (tgt := 168) dX7_whyNot_164 rfl ?_
                    refine wp_ireturn (M := mX7_whyNot) (pc := 168) rfl dX7_whyNot_168 ?_
                    first
                    | exact absurd t67 (by decide)
                    | exact absurd rfl f67
                    | exact absurd t102 (by decide)
                    | exact absurd rfl f102
                    | exact absurd t127 (by decide)
                    | exact absurd rfl f127
                    | exact absurd t160 (by decide)
                    | exact absurd rfl f160
                    | exact k3 j hj rfl (b01_n f19) (b01_n t32) (fun c => hl c.1)
                    | exact k3 j hj rfl (b01_n f19) (b01_n t32) (fun c => c.2.1 (b01_n t51))
                    | exact k3 j hj rfl (b01_n f19) (b01_n t32) (fun c => Int32.not_le.mpr t82 (by have := c.2.2; rw [if_pos rfl] at this; exact this))
                    | exact k3 j hj rfl (b01_n f19) (b01_n t32) (fun c => Int32.not_le.mpr t112 (by have := c.2.2; rw [if_neg (by decide), if_pos rfl] at this; exact this))
                    | exact k3 j hj rfl (b01_n f19) (b01_n t32) (fun c => Int32.not_le.mpr t148 (by have := c.2.2; rw [if_neg (by decide), if_neg (by decide)] at this; exact this))
                    | exact k0 j hj rfl (b01_n f19) (b01_n t32) ⟨hl, b01_z f51, by rw [if_pos rfl]; exact Int32.not_lt.mp f82⟩
                    | exact k0 j hj rfl (b01_n f19) (b01_n t32) ⟨hl, b01_z f51, by rw [if_neg (by decide), if_pos rfl]; exact Int32.not_lt.mp f112⟩
                    | exact k0 j hj rfl (b01_n f19) (b01_n t32) ⟨hl, b01_z f51, by rw [if_neg (by decide), if_neg (by decide)]; exact Int32.not_lt.mp f148⟩
                    | fail "leaf"
                · refine wp_aload_n (M := mX7_whyNot) (pc := 130) dX7_whyNot_130 rfl ?_
                  refine wp_iload_n (M := mX7_whyNot) (pc := 131) dX7_whyNot_131 rfl ?_
                  refine so_S2 (M := mX7_whyNot) (pc := 132) cs_X7_whyNot_126 rfl rfl (LE rfl) (LE rfl) dX7_whyNot_132 ?_
                  refine sp_X7_debts ka hR hj ?_
                  refine kI ?_
                  refine wp_aload_n (M := mX7_whyNot) (pc := 135) dX7_whyNot_135 rfl ?_
                  refine wp_iload_n (M := mX7_whyNot) (pc := 136) dX7_whyNot_136 rfl ?_
                  refine wp_iconst (M := mX7_whyNot) (pc := 137) (v := 2) dX7_whyNot_137 ci_2 ?_
                  refine wp_iconst (M := mX7_whyNot) (pc := 138) (v := 0) dX7_whyNot_138 ci_0 ?_
                  refine so_S4 (M := mX7_whyNot) (pc := 139) cs_X7_whyNot_122 rfl rfl (LE rfl) (LE rfl) dX7_whyNot_139 ?_
                  refine sp_X7_inBook (kn := 2) (c := 0) ka hR (by omega) (by decide) ?_
                  refine kI ?_
                  refine wp_iadd (M := mX7_whyNot) (pc := 142) dX7_whyNot_142 ?_
                  refine wp_iload (M := mX7_whyNot) (pc := 143) dX7_whyNot_143 rfl ?_
                  refine wp_iadd (M := mX7_whyNot) (pc := 145) dX7_whyNot_145 ?_
                  refine wp_bipush (M := mX7_whyNot) (pc := 146) (v := 99) dX7_whyNot_146 cb_99 ?_
                  refine wp_icmp_gt (M := mX7_whyNot) (pc := 148) (tgt := 155) dX7_whyNot_148 rfl (fun t148 => ?_) (fun f148 => ?_)
                  · rw [gk_q] at t148
                    refine wp_iconst (M := mX7_whyNot) (pc := 155) (v := 0) dX7_whyNot_155 ci_0 ?_
                    refine so_istore (M := mX7_whyNot) (pc := 156) (lo' := [_, _, _, _, _, _]) dX7_whyNot_156 (LE rfl) (LE rfl) (Or.inr rfl) rfl ?_
                    refine wp_iload (M := mX7_whyNot) (pc := 158) dX7_whyNot_158 rfl ?_
                    refine wp_if_eq (M := mX7_whyNot) (pc := 160) (tgt := 167) dX7_whyNot_160 rfl (fun t160 => ?_) (fun f160 => ?_)
                    · refine wp_iconst (M := mX7_whyNot) (pc := 167) (v := 3) dX7_whyNot_167 ci_3 ?_
                      refine wp_ireturn (M := mX7_whyNot) (pc := 168) rfl dX7_whyNot_168 ?_
                      first
                      | exact absurd t67 (by decide)
                      | exact absurd rfl f67
                      | exact absurd t102 (by decide)
                      | exact absurd rfl f102
                      | exact absurd t127 (by decide)
                      | exact absurd rfl f127
                      | exact absurd t160 (by decide)
                      | exact absurd rfl f160
                      | exact k3 j hj rfl (b01_n f19) (b01_n t32) (fun c => hl c.1)
                      | exact k3 j hj rfl (b01_n f19) (b01_n t32) (fun c => c.2.1 (b01_n t51))
                      | exact k3 j hj rfl (b01_n f19) (b01_n t32) (fun c => Int32.not_le.mpr t82 (by have := c.2.2; rw [if_pos rfl] at this; exact this))
                      | exact k3 j hj rfl (b01_n f19) (b01_n t32) (fun c => Int32.not_le.mpr t112 (by have := c.2.2; rw [if_neg (by decide), if_pos rfl] at this; exact this))
                      | exact k3 j hj rfl (b01_n f19) (b01_n t32) (fun c => Int32.not_le.mpr t148 (by have := c.2.2; rw [if_neg (by decide), if_neg (by decide)] at this; exact this))
                      | exact k0 j hj rfl (b01_n f19) (b01_n t32) ⟨hl, b01_z f51, by rw [if_pos rfl]; exact Int32.not_lt.mp f82⟩
                      | exact k0 j hj rfl (b01_n f19) (b01_n t32) ⟨hl, b01_z f51, by rw [if_neg (by decide), if_pos rfl]; exact Int32.not_lt.mp f112⟩
                      | exact k0 j hj rfl (b01_n f19) (b01_n t32) ⟨hl, b01_z f51, by rw [if_neg (by decide), if_neg (by decide)]; exact Int32.not_lt.mp f148⟩
                      | fail "leaf"
                    · refine wp_iconst (M := mX7_whyNot) (pc := 163) (v := 0) dX7_whyNot_163 ci_0 ?_
                      refine wp_goto (M := mX7_whyNot) (pc := 164) (tgt := 168) dX7_whyNot_164 rfl ?_
                      refine wp_ireturn (M := mX7_whyNot) (pc := 168) rfl dX7_whyNot_168 ?_
                      first
                      | exact absurd t67 (by decide)
                      | exact absurd rfl f67
                      | exact absurd t102 (by decide)
                      | exact absurd rfl f102
                      | exact absurd t127 (by decide)
                      | exact absurd rfl f127
                      | exact absurd t160 (by decide)
                      | exact absurd rfl f160
                      | exact k3 j hj rfl (b01_n f19) (b01_n t32) (fun c => hl c.1)
                      | exact k3 j hj rfl (b01_n f19) (b01_n t32) (fun c => c.2.1 (b01_n t51))
                      | exact k3 j hj rfl (b01_n f19) (b01_n t32) (fun c => Int32.not_le.mpr t82 (by have := c.2.2; rw [if_pos rfl] at this; exact this))
                      | exact k3 j hj rfl (b01_n f19) (b01_n t32) (fun c => Int32.not_le.mpr t112 (by have := c.2.2; rw [if_neg (by decide), if_pos rfl] at this; exact this))
                      | exact k3 j hj rfl (b01_n f19) (b01_n t32) (fun c => Int32.not_le.mpr t148 (by have := c.2.2; rw [if_neg (by decide), if_neg (by decide)] at this; exact this))
                      | exact k0 j hj rfl (b01_n f19) (b01_n t32) ⟨hl, b01_z f51, by rw [if_pos rfl]; exact Int32.not_lt.mp f82⟩
                      | exact k0 j hj rfl (b01_n f19) (b01_n t32) ⟨hl, b01_z f51, by rw [if_neg (by decide), if_pos rfl]; exact Int32.not_lt.mp f112⟩
                      | exact k0 j hj rfl (b01_n f19) (b01_n t32) ⟨hl, b01_z f51, by rw [if_neg (by decide), if_neg (by decide)]; exact Int32.not_lt.mp f148⟩
                      | fail "leaf"
                  · rw [gk_q] at f148
                    refine wp_iconst (M := mX7_whyNot) (pc := 151) (v := 1) dX7_whyNot_151 ci_1 ?_
                    refine wp_goto (M := mX7_whyNot) (pc := 152) (tgt := 156) dX7_whyNot_152 rfl ?_
                    refine so_istore (M := mX7_whyNot) (pc := 156) (lo' := [_, _, _, _, _, _]) dX7_whyNot_156 (LE rfl) (LE rfl) (Or.inr rfl) rfl ?_
                    refine wp_iload (M := mX7_whyNot) (pc := 158) dX7_whyNot_158 rfl ?_
                    refine wp_if_eq (M := mX7_whyNot) (pc := 160) (tgt := 167) dX7_whyNot_160 rfl (fun t160 => ?_) (fun f160 => ?_)
                    · refine wp_iconst (M := mX7_whyNot) (pc := 167) (v := 3) dX7_whyNot_167 ci_3 ?_
                      refine wp_ireturn (M := mX7_whyNot) (pc := 168) rfl dX7_whyNot_168 ?_
                      first
                      | exact absurd t67 (by decide)
                      | exact absurd rfl f67
                      | exact absurd t102 (by decide)
                      | exact absurd rfl f102
                      | exact absurd t127 (by decide)
                      | exact absurd rfl f127
                      | exact absurd t160 (by decide)
                      | exact absurd rfl f160
                      | exact k3 j hj rfl (b01_n f19) (b01_n t32) (fun c => hl c.1)
                      | exact k3 j hj rfl (b01_n f19) (b01_n t32) (fun c => c.2.1 (b01_n t51))
                      | exact k3 j hj rfl (b01_n f19) (b01_n t32) (fun c => Int32.not_le.mpr t82 (by have := c.2.2; rw [if_pos rfl] at this; exact this))
                      | exact k3 j hj rfl (b01_n f19) (b01_n t32) (fun c => Int32.not_le.mpr t112 (by have := c.2.2; rw [if_neg (by decide), if_pos rfl] at this; exact this))
                      | exact k3 j hj rfl (b01_n f19) (b01_n t32) (fun c => Int32.not_le.mpr t148 (by have := c.2.2; rw [if_neg (by decide), if_neg (by decide)] at this; exact this))
                      | exact k0 j hj rfl (b01_n f19) (b01_n t32) ⟨hl, b01_z f51, by rw [if_pos rfl]; exact Int32.not_lt.mp f82⟩
                      | exact k0 j hj rfl (b01_n f19) (b01_n t32) ⟨hl, b01_z f51, by rw [if_neg (by decide), if_pos rfl]; exact Int32.not_lt.mp f112⟩
                      | exact k0 j hj rfl (b01_n f19) (b01_n t32) ⟨hl, b01_z f51, by rw [if_neg (by decide), if_neg (by decide)]; exact Int32.not_lt.mp f148⟩
                      | fail "leaf"
                    · refine wp_iconst (M := mX7_whyNot) (pc := 163) (v := 0) dX7_whyNot_163 ci_0 ?_
                      refine wp_goto (M := mX7_whyNot) (pc := 164) (tgt := 168) dX7_whyNot_164 rfl ?_
                      refine wp_ireturn (M := mX7_whyNot) (pc := 168) rfl dX7_whyNot_168 ?_
                      first
                      | exact absurd t67 (by decide)
                      | exact absurd rfl f67
                      | exact absurd t102 (by decide)
                      | exact absurd rfl f102
                      | exact absurd t127 (by decide)
                      | exact absurd rfl f127
                      | exact absurd t160 (by decide)
                      | exact absurd rfl f160
                      | exact k3 j hj rfl (b01_n f19) (b01_n t32) (fun c => hl c.1)
                      | exact k3 j hj rfl (b01_n f19) (b01_n t32) (fun c => c.2.1 (b01_n t51))
                      | exact k3 j hj rfl (b01_n f19) (b01_n t32) (fun c => Int32.not_le.mpr t82 (by have := c.2.2; rw [if_pos rfl] at this; exact this))
                      | exact k3 j hj rfl (b01_n f19) (b01_n t32) (fun c => Int32.not_le.mpr t112 (by have := c.2.2; rw [if_neg (by decide), if_pos rfl] at this; exact this))
                      | exact k3 j hj rfl (b01_n f19) (b01_n t32) (fun c => Int32.not_le.mpr t148 (by have := c.2.2; rw [if_neg (by decide), if_neg (by decide)] at this; exact this))
                      | exact k0 j hj rfl (b01_n f19) (b01_n t32) ⟨hl, b01_z f51, by rw [if_pos rfl]; exact Int32.not_lt.mp f82⟩
                      | exact k0 j hj rfl (b01_n f19) (b01_n t32) ⟨hl, b01_z f51, by rw [if_neg (by decide), if_pos rfl]; exact Int32.not_lt.mp f112⟩
                      | exact k0 j hj rfl (b01_n f19) (b01_n t32) ⟨hl, b01_z f51, by rw [if_neg (by decide), if_neg (by decide)]; exact Int32.not_lt.mp f148⟩
                      | fail "leaf"
              · exact absurd f97 (by decide)
            · exact absurd f62 (by decide)
      · refine wp_iconst (M := mX7_whyNot) (pc := 35) (v := 2) dX7_whyNot_35 ci_2 ?_
        refine wp_ireturn (M := mX7_whyNot) (pc := 36) rfl dX7_whyNot_36 ?_
        first
        | exact k2 ⟨j, hj, rfl⟩ (fun e => b01_z t19 e.1)
        | exact k2 ⟨j, hj, rfl⟩ (fun e => b01_z f32 e.2)
        | fail "leaf"
  · refine wp_iconst (M := mX7_whyNot) (pc := 8) (v := 1) dX7_whyNot_8 ci_1 ?_
    refine wp_ireturn (M := mX7_whyNot) (pc := 9) rfl dX7_whyNot_9 ?_
    exact k1 (b01_z f5)
theorem sp_X7_whyNot {a : Nat} {A : Sta} {kn : Nat} {t p z : Int32} (ka : kd h a = some (.inr (0, 1360))) (hR : RepR (gi h a) A) (hkn : kn < 3) (k0 : ∀ j, j < sN A → t = nI j → wth p 1 99 → wth z 1 99 → canP A kn j p z → Q (.inl (some (.int 0))) h) (k1 : ¬ isT A t → Q (.inl (some (.int 1))) h) (k2 : isT A t → ¬ (wth p 1 99 ∧ wth z 1 99) → Q (.inl (some (.int 2))) h) (k3 : ∀ j, j < sN A → t = nI j → wth p 1 99 → wth z 1 99 → ¬ canP A kn j p z → Q (.inl (some (.int 3))) h) : WPx E mX7_whyNot 0 [some (.ref a), some (.int t), some (.int (nI kn)), some (.int p), some (.int z), none] [] (0, 0) h Q := by
  rcases (show kn = 0 ∨ kn = 1 ∨ kn = 2 by omega) with rfl | rfl | rfl
  · exact sp_X7_whyNot0 ka hR k0 k1 k2 k3
  · exact sp_X7_whyNot1 ka hR k0 k1 k2 k3
  · exact sp_X7_whyNot2 ka hR k0 k1 k2 k3
set_option maxHeartbeats 4000000 in
set_option maxRecDepth 100000 in
theorem pl_X7_addOrder {a : Nat} {A : Sta} {t kn : Nat} {p z : Int32} {x1 x2 x3 x4 x5 : Option Value} (ka : kd h a = some (.inr (0, 1360))) (hR : RepR (gi h a) A) (ht : t < sN A) (hkn : kn < 3) (h12 : (sO A).length < 12) (e1 : x1 = some (.int (nI t))) (e2 : x2 = some (.int (nI kn))) (e3 : x3 = some (.int p)) (e4 : x4 = some (.int z)) (e5 : x5 = some (.int (nI (10 + 4 * (sO A).length)))) (k : ∀ h', RepR (gi h' a) (addO A (t, kn, p, z)) → RF a h h' → Q (.inl (some (.int (nI (sO A).length)))) h') : WPx E mX7_addOrder 41 [some (.ref a), x1, x2, x3, x4, x5] [] (0, 0) h Q := by
  subst e1 e2 e3 e4 e5
  have n6 := hR.n6
  have n12 := hR.n12
  refine wp_aload_n (M := mX7_addOrder) (pc := 41) dX7_addOrder_41 rfl ?_
  refine wp_iload (M := mX7_addOrder) (pc := 42) dX7_addOrder_42 rfl ?_
  refine wp_iconst (M := mX7_addOrder) (pc := 44) (v := 0) dX7_addOrder_44 ci_0 ?_
  refine wp_iadd (M := mX7_addOrder) (pc := 45) dX7_addOrder_45 ?_
  refine wp_iload_n (M := mX7_addOrder) (pc := 46) dX7_addOrder_46 rfl ?_
  refine wr_iastore (M := mX7_addOrder) (pc := 47) dX7_addOrder_47 ka (ia rfl (show (0 : Int32) = nI 0 from rfl)) (by omega) (by decide) ?_
  refine wp_aload_n (M := mX7_addOrder) (pc := 48) dX7_addOrder_48 rfl ?_
  refine wp_iload (M := mX7_addOrder) (pc := 49) dX7_addOrder_49 rfl ?_
  refine wp_iconst (M := mX7_addOrder) (pc := 51) (v := 1) dX7_addOrder_51 ci_1 ?_
  refine wp_iadd (M := mX7_addOrder) (pc := 52) dX7_addOrder_52 ?_
  refine wp_iload_n (M := mX7_addOrder) (pc := 53) dX7_addOrder_53 rfl ?_
  refine wr_iastore (M := mX7_addOrder) (pc := 54) dX7_addOrder_54 ka (ia rfl (show (1 : Int32) = nI 1 from rfl)) (by omega) (by decide) ?_
  refine wp_aload_n (M := mX7_addOrder) (pc := 55) dX7_addOrder_55 rfl ?_
  refine wp_iload (M := mX7_addOrder) (pc := 56) dX7_addOrder_56 rfl ?_
  refine wp_iconst (M := mX7_addOrder) (pc := 58) (v := 2) dX7_addOrder_58 ci_2 ?_
  refine wp_iadd (M := mX7_addOrder) (pc := 59) dX7_addOrder_59 ?_
  refine wp_iload_n (M := mX7_addOrder) (pc := 60) dX7_addOrder_60 rfl ?_
  refine wr_iastore (M := mX7_addOrder) (pc := 61) dX7_addOrder_61 ka (ia rfl (show (2 : Int32) = nI 2 from rfl)) (by omega) (by decide) ?_
  refine wp_aload_n (M := mX7_addOrder) (pc := 62) dX7_addOrder_62 rfl ?_
  refine wp_iload (M := mX7_addOrder) (pc := 63) dX7_addOrder_63 rfl ?_
  refine wp_iconst (M := mX7_addOrder) (pc := 65) (v := 3) dX7_addOrder_65 ci_3 ?_
  refine wp_iadd (M := mX7_addOrder) (pc := 66) dX7_addOrder_66 ?_
  refine wp_iload (M := mX7_addOrder) (pc := 67) dX7_addOrder_67 rfl ?_
  refine wr_iastore (M := mX7_addOrder) (pc := 69) dX7_addOrder_69 ka (ia rfl (show (3 : Int32) = nI 3 from rfl)) (by omega) (by decide) ?_
  refine wp_aload_n (M := mX7_addOrder) (pc := 70) dX7_addOrder_70 rfl ?_
  refine wp_bipush (M := mX7_addOrder) (pc := 71) (v := 8) dX7_addOrder_71 cb_8 ?_
  refine wp_dup2 (M := mX7_addOrder) (pc := 73) dX7_addOrder_73 rfl rfl ?_
  refine wr_iaload (M := mX7_addOrder) (pc := 74) dX7_addOrder_74 ka (show (8 : Int32) = nI 8 from rfl) (by omega) (by decide) ?_
  refine wp_iconst (M := mX7_addOrder) (pc := 75) (v := 1) dX7_addOrder_75 ci_1 ?_
  refine wp_iadd (M := mX7_addOrder) (pc := 76) dX7_addOrder_76 ?_
  refine wr_iastore (M := mX7_addOrder) (pc := 77) dX7_addOrder_77 ka (show (8 : Int32) = nI 8 from rfl) (by omega) (by decide) ?_
  refine wp_aload_n (M := mX7_addOrder) (pc := 78) dX7_addOrder_78 rfl ?_
  refine wp_bipush (M := mX7_addOrder) (pc := 79) (v := 8) dX7_addOrder_79 cb_8 ?_
  refine wr_iaload (M := mX7_addOrder) (pc := 81) dX7_addOrder_81 ka (show (8 : Int32) = nI 8 from rfl) (by omega) (by decide) ?_
  refine wp_iconst (M := mX7_addOrder) (pc := 82) (v := 1) dX7_addOrder_82 ci_1 ?_
  refine wp_isub (M := mX7_addOrder) (pc := 83) dX7_addOrder_83 ?_
  refine wp_ireturn (M := mX7_addOrder) (pc := 84) rfl dX7_addOrder_84 ?_
  have e8 : gi (si (si (si (si h a (10 + 4 * (sO A).length + 0) (nI t)) a (10 + 4 * (sO A).length + 1) (nI kn)) a (10 + 4 * (sO A).length + 2) p) a (10 + 4 * (sO A).length + 3) z) a 8 = nI (sO A).length := by
    simp only [gi_si_at]
    rw [upd_ne _ _ (by omega), upd_ne _ _ (by omega), upd_ne _ _ (by omega), upd_ne _ _ (by omega)]
    exact hR.f8
  rw [e8, gi_si_same, show nI (sO A).length + 1 = nI ((sO A).length + 1) from nI_1 _, show nI ((sO A).length + 1) - 1 = nI (sO A).length from nI_pred _]
  refine k _ ?_ (((((RF.si).tr RF.si).tr RF.si).tr RF.si).tr RF.si)
  simp only [gi_si_at]
  exact hR.sNew ht hkn h12
set_option maxHeartbeats 4000000 in
set_option maxRecDepth 100000 in
theorem sp_X7_addOrder0 {a : Nat} {A : Sta} {t : Nat} {p z : Int32} (ka : kd h a = some (.inr (0, 1360))) (hR : RepR (gi h a) A) (ht : t < sN A) (h12 : (sO A).length < 12) (k : ∀ h', RepR (gi h' a) (placeA A 0 t p z) → RF a h h' → Q (.inl (some (.int (nI (sO A).length)))) h') : WPx E mX7_addOrder 0 [some (.ref a), some (.int (nI t)), some (.int 0), some (.int p), some (.int z), none] [] (0, 0) h Q := by
  have n6 := hR.n6
  have n12 := hR.n12
  refine wp_aload_n (M := mX7_addOrder) (pc := 0) dX7_addOrder_0 rfl ?_
  refine wp_bipush (M := mX7_addOrder) (pc := 1) (v := 8) dX7_addOrder_1 cb_8 ?_
  refine wr_iaload (M := mX7_addOrder) (pc := 3) dX7_addOrder_3 ka (show (8 : Int32) = nI 8 from rfl) (by omega) (by decide) ?_
  refine so_S1 (M := mX7_addOrder) (pc := 4) cs_X7_addOrder_119 rfl rfl (LE rfl) (LE rfl) dX7_addOrder_4 ?_
  rw [hR.f8]
  refine sp_X7_orderAt ?_
  refine kI ?_
  refine so_istore (M := mX7_addOrder) (pc := 7) (lo' := [_, _, _, _, _, _]) dX7_addOrder_7 (LE rfl) (LE rfl) (Or.inr rfl) rfl ?_
  refine wp_iload_n (M := mX7_addOrder) (pc := 9) dX7_addOrder_9 rfl ?_
  refine wp_if_ne (M := mX7_addOrder) (pc := 10) (tgt := 28) dX7_addOrder_10 rfl (fun t10 => ?_) (fun f10 => ?_)
  · exact absurd rfl t10
  · refine wp_aload_n (M := mX7_addOrder) (pc := 13) dX7_addOrder_13 rfl ?_
    refine wp_iload_n (M := mX7_addOrder) (pc := 14) dX7_addOrder_14 rfl ?_
    refine so_S1 (M := mX7_addOrder) (pc := 15) cs_X7_addOrder_90 rfl rfl (LE rfl) (LE rfl) dX7_addOrder_15 ?_
    refine sp_X7_at ?_
    refine kI ?_
    refine wp_iconst (M := mX7_addOrder) (pc := 18) (v := 4) dX7_addOrder_18 ci_4 ?_
    refine wp_iadd (M := mX7_addOrder) (pc := 19) dX7_addOrder_19 ?_
    refine wp_dup2 (M := mX7_addOrder) (pc := 20) dX7_addOrder_20 rfl rfl ?_
    refine wr_iaload (M := mX7_addOrder) (pc := 21) dX7_addOrder_21 ka (ia rfl (show (4 : Int32) = nI 4 from rfl)) (by omega) (by decide) ?_
    refine wp_iload_n (M := mX7_addOrder) (pc := 22) dX7_addOrder_22 rfl ?_
    refine wp_iload (M := mX7_addOrder) (pc := 23) dX7_addOrder_23 rfl ?_
    refine wp_imul (M := mX7_addOrder) (pc := 25) dX7_addOrder_25 ?_
    refine wp_isub (M := mX7_addOrder) (pc := 26) dX7_addOrder_26 ?_
    refine wr_iastore (M := mX7_addOrder) (pc := 27) dX7_addOrder_27 ka (ia rfl (show (4 : Int32) = nI 4 from rfl)) (by omega) (by decide) ?_
    refine wp_iload_n (M := mX7_addOrder) (pc := 28) dX7_addOrder_28 rfl ?_
    refine wp_iconst (M := mX7_addOrder) (pc := 29) (v := 1) dX7_addOrder_29 ci_1 ?_
    refine wp_icmp_ne (M := mX7_addOrder) (pc := 30) (tgt := 41) dX7_addOrder_30 rfl (fun t30 => ?_) (fun f30 => ?_)
    · rw [placeA, placeT, if_pos rfl] at k
      have R1 := hR.sF ht (k := 4) (by decide) (fT A t 4 - p * z)
      rw [hR.tF ht (by decide)]
      refine pl_X7_addOrder (A := wF A t 4 (fT A t 4 - p * z)) (t := t) (kn := 0) (p := p) (z := z) ka ?_ ht (by decide) h12 rfl rfl rfl rfl rfl (fun h2 R2 F2 => k h2 R2 (RF.si.tr F2))
      rw [gi_si_at]; exact R1
    · exact absurd f30 (by decide)
set_option maxHeartbeats 4000000 in
set_option maxRecDepth 100000 in
theorem sp_X7_addOrderN {a : Nat} {A : Sta} {t kn : Nat} {p z : Int32} (ka : kd h a = some (.inr (0, 1360))) (hR : RepR (gi h a) A) (ht : t < sN A) (hkn : kn < 3) (ek0 : ¬ kn = 0) (h12 : (sO A).length < 12) (k : ∀ h', RepR (gi h' a) (placeA A kn t p z) → RF a h h' → Q (.inl (some (.int (nI (sO A).length)))) h') : WPx E mX7_addOrder 0 [some (.ref a), some (.int (nI t)), some (.int (nI kn)), some (.int p), some (.int z), none] [] (0, 0) h Q := by
  have n6 := hR.n6
  have n12 := hR.n12
  refine wp_aload_n (M := mX7_addOrder) (pc := 0) dX7_addOrder_0 rfl ?_
  refine wp_bipush (M := mX7_addOrder) (pc := 1) (v := 8) dX7_addOrder_1 cb_8 ?_
  refine wr_iaload (M := mX7_addOrder) (pc := 3) dX7_addOrder_3 ka (show (8 : Int32) = nI 8 from rfl) (by omega) (by decide) ?_
  refine so_S1 (M := mX7_addOrder) (pc := 4) cs_X7_addOrder_119 rfl rfl (LE rfl) (LE rfl) dX7_addOrder_4 ?_
  rw [hR.f8]
  refine sp_X7_orderAt ?_
  refine kI ?_
  refine so_istore (M := mX7_addOrder) (pc := 7) (lo' := [_, _, _, _, _, _]) dX7_addOrder_7 (LE rfl) (LE rfl) (Or.inr rfl) rfl ?_
  refine wp_iload_n (M := mX7_addOrder) (pc := 9) dX7_addOrder_9 rfl ?_
  refine wp_if_ne (M := mX7_addOrder) (pc := 10) (tgt := 28) dX7_addOrder_10 rfl (fun t10 => ?_) (fun f10 => ?_)
  · refine wp_iload_n (M := mX7_addOrder) (pc := 28) dX7_addOrder_28 rfl ?_
    refine wp_iconst (M := mX7_addOrder) (pc := 29) (v := 1) dX7_addOrder_29 ci_1 ?_
    refine wp_icmp_ne (M := mX7_addOrder) (pc := 30) (tgt := 41) dX7_addOrder_30 rfl (fun t30 => ?_) (fun f30 => ?_)
    · have ek1 : ¬ kn = 1 := fun e => t30 (by rw [e]; rfl)
      first
      | (rw [placeA, placeT, if_neg ek0, if_pos ek] at k
         exact pl_X7_addOrder (A := takeA A t z) (t := t) (kn := kn) (p := p) (z := z) (by rw [F1.kd]; exact ka) R1 ht hkn h12 rfl rfl rfl rfl rfl (fun h2 R2 F2 => k h2 R2 (F1.tr F2)))
      | (rw [placeA, placeT, if_neg ek0, if_neg ek1] at k
         exact pl_X7_addOrder (A := A) (t := t) (kn := kn) (p := p) (z := z) ka hR ht hkn h12 rfl rfl rfl rfl rfl (fun h2 R2 F2 => k h2 R2 F2))
      | fail "leaf"
    · refine wp_aload_n (M := mX7_addOrder) (pc := 33) dX7_addOrder_33 rfl ?_
      refine wp_iload_n (M := mX7_addOrder) (pc := 34) dX7_addOrder_34 rfl ?_
      refine wp_iload (M := mX7_addOrder) (pc := 35) dX7_addOrder_35 rfl ?_
      refine so_S3 (M := mX7_addOrder) (pc := 37) cs_X7_addOrder_182 rfl rfl (LE rfl) (LE rfl) dX7_addOrder_37 ?_
      refine sp_X7_takeCredits ka hR ht (fun h1 R1 F1 => ?_)
      have ek : kn = 1 := (i_eq (b := 1) (by omega) (by decide)).mp f30
      refine kI ?_
      refine wp_pop (M := mX7_addOrder) (pc := 40) dX7_addOrder_40 rfl ?_
      first
      | (rw [placeA, placeT, if_neg ek0, if_pos ek] at k
         exact pl_X7_addOrder (A := takeA A t z) (t := t) (kn := kn) (p := p) (z := z) (by rw [F1.kd]; exact ka) R1 ht hkn h12 rfl rfl rfl rfl rfl (fun h2 R2 F2 => k h2 R2 (F1.tr F2)))
      | (rw [placeA, placeT, if_neg ek0, if_neg ek1] at k
         exact pl_X7_addOrder (A := A) (t := t) (kn := kn) (p := p) (z := z) ka hR ht hkn h12 rfl rfl rfl rfl rfl (fun h2 R2 F2 => k h2 R2 F2))
      | fail "leaf"
  · exact absurd ((i_eq (b := 0) (by omega) (by decide)).mp f10) ek0
theorem sp_X7_addOrder {a : Nat} {A : Sta} {t kn : Nat} {p z : Int32} (ka : kd h a = some (.inr (0, 1360))) (hR : RepR (gi h a) A)  (ht : t < sN A) (hkn : kn < 3) (h12 : (sO A).length < 12) (k : ∀ h', RepR (gi h' a) (placeA A kn t p z) → RF a h h' → Q (.inl (some (.int (nI (sO A).length)))) h') : WPx E mX7_addOrder 0 [some (.ref a), some (.int (nI t)), some (.int (nI kn)), some (.int p), some (.int z), none] [] (0, 0) h Q := by
  by_cases e : kn = 0
  · subst e; exact sp_X7_addOrder0 ka hR ht h12 k
  · exact sp_X7_addOrderN ka hR ht hkn e h12 k
set_option maxHeartbeats 4000000 in
set_option maxRecDepth 100000 in
theorem sp_X7_whyNotPushed {a : Nat} {A : Sta} {t z : Int32} (ka : kd h a = some (.inr (0, 1360))) (hR : RepR (gi h a) A) (k0 : ∀ j, j < sN A → t = nI j → wth z 1 99 → (sT A j).2.1.length < 8 → Q (.inl (some (.int 0))) h) (k1 : ¬ isT A t → Q (.inl (some (.int 1))) h) (k2 : isT A t → ¬ wth z 1 99 → Q (.inl (some (.int 2))) h) (k3 : ∀ j, j < sN A → t = nI j → wth z 1 99 → ¬ (sT A j).2.1.length < 8 → Q (.inl (some (.int 3))) h) : WPx E mX7_whyNotPushed 0 [some (.ref a), some (.int t), some (.int z)] [] (0, 0) h Q := by
  have n6 := hR.n6
  have n12 := hR.n12
  refine wp_aload_n (M := mX7_whyNotPushed) (pc := 0) dX7_whyNotPushed_0 rfl ?_
  refine wp_iload_n (M := mX7_whyNotPushed) (pc := 1) dX7_whyNotPushed_1 rfl ?_
  refine so_S2 (M := mX7_whyNotPushed) (pc := 2) cs_X7_whyNotPushed_94 rfl rfl (LE rfl) (LE rfl) dX7_whyNotPushed_2 ?_
  refine sp_X7_isTenant ka hR ?_
  refine kI ?_
  refine wp_if_ne (M := mX7_whyNotPushed) (pc := 5) (tgt := 12) dX7_whyNotPushed_5 rfl (fun t5 => ?_) (fun f5 => ?_)
  · obtain ⟨j, hj, rfl⟩ := b01_n t5
    have h88 := (hR.tM hj).2
    refine wp_iload_n (M := mX7_whyNotPushed) (pc := 12) dX7_whyNotPushed_12 rfl ?_
    refine wp_i2l (M := mX7_whyNotPushed) (pc := 13) dX7_whyNotPushed_13 ?_
    refine wp_lconst (M := mX7_whyNotPushed) (pc := 14) (v := 1) dX7_whyNotPushed_14 cl_1 ?_
    refine wp_ldc2_w (M := mX7_whyNotPushed) (pc := 15) wv_X7_206 dX7_whyNotPushed_15 ?_
    refine so_S3 (M := mX7_whyNotPushed) (pc := 18) cs_X7_whyNotPushed_65 rfl rfl (LE rfl) (LE rfl) dX7_whyNotPushed_18 ?_
    refine sp_X7_in ?_
    rw [(b01_iff (wl (x := z) (a := 1) (b := 99) (a' := 1) (b' := 99) (by decide) (by decide)))]
    refine kI ?_
    refine wp_if_ne (M := mX7_whyNotPushed) (pc := 21) (tgt := 28) dX7_whyNotPushed_21 rfl (fun t21 => ?_) (fun f21 => ?_)
    · refine wp_aload_n (M := mX7_whyNotPushed) (pc := 28) dX7_whyNotPushed_28 rfl ?_
      refine wp_iload_n (M := mX7_whyNotPushed) (pc := 29) dX7_whyNotPushed_29 rfl ?_
      refine so_S1 (M := mX7_whyNotPushed) (pc := 30) cs_X7_whyNotPushed_90 rfl rfl (LE rfl) (LE rfl) dX7_whyNotPushed_30 ?_
      refine sp_X7_at ?_
      refine kI ?_
      refine wp_bipush (M := mX7_whyNotPushed) (pc := 33) (v := 7) dX7_whyNotPushed_33 cb_7 ?_
      refine wp_iadd (M := mX7_whyNotPushed) (pc := 35) dX7_whyNotPushed_35 ?_
      refine wr_iaload (M := mX7_whyNotPushed) (pc := 36) dX7_whyNotPushed_36 ka (ia rfl (show (7 : Int32) = nI 7 from rfl)) (by omega) (by decide) ?_
      refine wp_bipush (M := mX7_whyNotPushed) (pc := 37) (v := 8) dX7_whyNotPushed_37 cb_8 ?_
      refine wp_icmp_ne (M := mX7_whyNotPushed) (pc := 39) (tgt := 46) dX7_whyNotPushed_39 rfl (fun t39 => ?_) (fun f39 => ?_)
      · rw [(hR.tM hj).1] at t39
        have e8 : (sT A j).2.1.length < 8 := Nat.lt_of_le_of_ne h88 (fun e => t39 (by rw [e]; rfl))
        refine wp_iconst (M := mX7_whyNotPushed) (pc := 46) (v := 0) dX7_whyNotPushed_46 ci_0 ?_
        refine wp_ireturn (M := mX7_whyNotPushed) (pc := 47) rfl dX7_whyNotPushed_47 ?_
        first
        | exact k1 (b01_z f5)
        | exact k2 ⟨j, hj, rfl⟩ (b01_z f21)
        | exact k0 j hj rfl (b01_n t21) e8
        | exact k3 j hj rfl (b01_n t21) e8
        | fail "leaf"
      · rw [(hR.tM hj).1] at f39
        have e8 : ¬ (sT A j).2.1.length < 8 := fun e => absurd ((i_eq (b := 8) (by omega) (by decide)).mp f39) (by omega)
        refine wp_iconst (M := mX7_whyNotPushed) (pc := 42) (v := 3) dX7_whyNotPushed_42 ci_3 ?_
        refine wp_goto (M := mX7_whyNotPushed) (pc := 43) (tgt := 47) dX7_whyNotPushed_43 rfl ?_
        refine wp_ireturn (M := mX7_whyNotPushed) (pc := 47) rfl dX7_whyNotPushed_47 ?_
        first
        | exact k1 (b01_z f5)
        | exact k2 ⟨j, hj, rfl⟩ (b01_z f21)
        | exact k0 j hj rfl (b01_n t21) e8
        | exact k3 j hj rfl (b01_n t21) e8
        | fail "leaf"
    · refine wp_iconst (M := mX7_whyNotPushed) (pc := 24) (v := 2) dX7_whyNotPushed_24 ci_2 ?_
      refine wp_goto (M := mX7_whyNotPushed) (pc := 25) (tgt := 47) dX7_whyNotPushed_25 rfl ?_
      refine wp_ireturn (M := mX7_whyNotPushed) (pc := 47) rfl dX7_whyNotPushed_47 ?_
      first
      | exact k1 (b01_z f5)
      | exact k2 ⟨j, hj, rfl⟩ (b01_z f21)
      | exact k0 j hj rfl (b01_n t21) e8
      | exact k3 j hj rfl (b01_n t21) e8
      | fail "leaf"
  · refine wp_iconst (M := mX7_whyNotPushed) (pc := 8) (v := 1) dX7_whyNotPushed_8 ci_1 ?_
    refine wp_goto (M := mX7_whyNotPushed) (pc := 9) (tgt := 47) dX7_whyNotPushed_9 rfl ?_
    refine wp_ireturn (M := mX7_whyNotPushed) (pc := 47) rfl dX7_whyNotPushed_47 ?_
    first
    | exact k1 (b01_z f5)
    | exact k2 ⟨j, hj, rfl⟩ (b01_z f21)
    | exact k0 j hj rfl (b01_n t21) e8
    | exact k3 j hj rfl (b01_n t21) e8
    | fail "leaf"
set_option maxHeartbeats 4000000 in
set_option maxRecDepth 100000 in
theorem sp_X7_pushOn {a : Nat} {A : Sta} {t : Nat} {z : Int32} (ka : kd h a = some (.inr (0, 1360))) (hR : RepR (gi h a) A) (ht : t < sN A) (h8 : (sT A t).2.1.length < 8) (k : ∀ h', RepR (gi h' a) (pushA A t z) → RF a h h' → Q (.inl (some (.int (nI ((sT A t).2.1.length + 1))))) h') : WPx E mX7_pushOn 0 [some (.ref a), some (.int (nI t)), some (.int z), none] [] (0, 0) h Q := by
  have n6 := hR.n6
  have n12 := hR.n12
  refine wp_iload_n (M := mX7_pushOn) (pc := 0) dX7_pushOn_0 rfl ?_
  refine so_S1 (M := mX7_pushOn) (pc := 1) cs_X7_pushOn_90 rfl rfl (LE rfl) (LE rfl) dX7_pushOn_1 ?_
  refine sp_X7_at ?_
  refine kI ?_
  refine so_istore_n (M := mX7_pushOn) (pc := 4) (lo' := [_, _, _, _]) dX7_pushOn_4 (LE rfl) (LE rfl) (Or.inr rfl) rfl ?_
  refine wp_aload_n (M := mX7_pushOn) (pc := 5) dX7_pushOn_5 rfl ?_
  refine wp_iload_n (M := mX7_pushOn) (pc := 6) dX7_pushOn_6 rfl ?_
  refine wp_bipush (M := mX7_pushOn) (pc := 7) (v := 8) dX7_pushOn_7 cb_8 ?_
  refine wp_iadd (M := mX7_pushOn) (pc := 9) dX7_pushOn_9 ?_
  refine wp_aload_n (M := mX7_pushOn) (pc := 10) dX7_pushOn_10 rfl ?_
  refine wp_iload_n (M := mX7_pushOn) (pc := 11) dX7_pushOn_11 rfl ?_
  refine wp_bipush (M := mX7_pushOn) (pc := 12) (v := 7) dX7_pushOn_12 cb_7 ?_
  refine wp_iadd (M := mX7_pushOn) (pc := 14) dX7_pushOn_14 ?_
  refine wr_iaload (M := mX7_pushOn) (pc := 15) dX7_pushOn_15 ka (ia rfl (show (7 : Int32) = nI 7 from rfl)) (by omega) (by decide) ?_
  refine wp_iadd (M := mX7_pushOn) (pc := 16) dX7_pushOn_16 ?_
  refine wp_iload_n (M := mX7_pushOn) (pc := 17) dX7_pushOn_17 rfl ?_
  refine wr_iastore (M := mX7_pushOn) (pc := 18) dX7_pushOn_18 ka (ia (ia rfl (show (8 : Int32) = nI 8 from rfl)) (hR.tM ht).1) (by omega) (by decide) ?_
  refine wp_aload_n (M := mX7_pushOn) (pc := 19) dX7_pushOn_19 rfl ?_
  refine wp_iload_n (M := mX7_pushOn) (pc := 20) dX7_pushOn_20 rfl ?_
  refine wp_bipush (M := mX7_pushOn) (pc := 21) (v := 7) dX7_pushOn_21 cb_7 ?_
  refine wp_iadd (M := mX7_pushOn) (pc := 23) dX7_pushOn_23 ?_
  refine wp_dup2 (M := mX7_pushOn) (pc := 24) dX7_pushOn_24 rfl rfl ?_
  refine wr_iaload (M := mX7_pushOn) (pc := 25) dX7_pushOn_25 ka (ia rfl (show (7 : Int32) = nI 7 from rfl)) (by omega) (by decide) ?_
  refine wp_iconst (M := mX7_pushOn) (pc := 26) (v := 1) dX7_pushOn_26 ci_1 ?_
  refine wp_iadd (M := mX7_pushOn) (pc := 27) dX7_pushOn_27 ?_
  refine wr_iastore (M := mX7_pushOn) (pc := 28) dX7_pushOn_28 ka (ia rfl (show (7 : Int32) = nI 7 from rfl)) (by omega) (by decide) ?_
  refine wp_aload_n (M := mX7_pushOn) (pc := 29) dX7_pushOn_29 rfl ?_
  refine wp_iload_n (M := mX7_pushOn) (pc := 30) dX7_pushOn_30 rfl ?_
  refine wp_bipush (M := mX7_pushOn) (pc := 31) (v := 7) dX7_pushOn_31 cb_7 ?_
  refine wp_iadd (M := mX7_pushOn) (pc := 33) dX7_pushOn_33 ?_
  refine wr_iaload (M := mX7_pushOn) (pc := 34) dX7_pushOn_34 ka (ia rfl (show (7 : Int32) = nI 7 from rfl)) (by omega) (by decide) ?_
  refine wp_ireturn (M := mX7_pushOn) (pc := 35) rfl dX7_pushOn_35 ?_
  have e7 : gi (si h a (58 + 217 * t + 8 + (sT A t).2.1.length) z) a (58 + 217 * t + 7) = nI (sT A t).2.1.length := by rw [gi_si_at, upd_ne _ _ (by omega)]; exact (hR.tM ht).1
  rw [e7, gi_si_same, show nI (sT A t).2.1.length + 1 = nI ((sT A t).2.1.length + 1) from nI_1 _]
  refine k _ ?_ (RF.si.tr RF.si)
  rw [gi_si_at, gi_si_at]
  exact hR.sPush ht h8
set_option maxHeartbeats 4000000 in
set_option maxRecDepth 100000 in
theorem sp_X7_orders {a : Nat} {A : Sta} {kn : Nat} {t p z : Int32} (ka : kd h a = some (.inr (0, 1360))) (hR : RepR (gi h a) A) (hkn : kn < 3) (k1 : ∀ j, j < sN A → t = nI j → wth p 1 99 → wth z 1 99 → canP A kn j p z → ∀ h', RepR (gi h' a) (placeA A kn j p z) → RF a h h' → Q (.inl (some (.int 1))) h') (k0 : ¬ mayP A kn t p z → Q (.inl (some (.int 0))) h) : WPx E mX7_orders 0 [some (.ref a), some (.int t), some (.int (nI kn)), some (.int p), some (.int z), none] [] (0, 0) h Q := by
  refine wp_aload_n (M := mX7_orders) (pc := 0) dX7_orders_0 rfl ?_
  refine wp_iload_n (M := mX7_orders) (pc := 1) dX7_orders_1 rfl ?_
  refine wp_iload_n (M := mX7_orders) (pc := 2) dX7_orders_2 rfl ?_
  refine wp_iload_n (M := mX7_orders) (pc := 3) dX7_orders_3 rfl ?_
  refine wp_iload (M := mX7_orders) (pc := 4) dX7_orders_4 rfl ?_
  refine so_S5 (M := mX7_orders) (pc := 6) cs_X7_orders_208 rfl rfl (LE rfl) (LE rfl) dX7_orders_6 ?_
  have hno : ∀ v : Int32, ¬ v = 0 → ¬ mayP A kn t p z → WPx E mX7_orders 9 [some (.ref a), some (.int t), some (.int (nI kn)), some (.int p), some (.int z), none] [.int v] (0, 0) h Q := fun v hv hn => by
    refine wp_if_ne (M := mX7_orders) (pc := 9) (tgt := 16) dX7_orders_9 rfl (fun _ => ?_) (fun e => absurd e hv)
    refine wp_iconst (M := mX7_orders) (pc := 16) (v := 0) dX7_orders_16 ci_0 ?_
    refine so_istore (M := mX7_orders) (pc := 17) (lo' := [_, _, _, _, _, _]) dX7_orders_17 (LE rfl) (LE rfl) (Or.inr rfl) rfl ?_
    refine wp_iload (M := mX7_orders) (pc := 19) dX7_orders_19 rfl ?_
    refine wp_if_eq (M := mX7_orders) (pc := 21) (tgt := 34) dX7_orders_21 rfl (fun _ => ?_) (fun e => absurd rfl e)
    refine wp_iload (M := mX7_orders) (pc := 34) dX7_orders_34 rfl ?_
    refine wp_zreturn (M := mX7_orders) (pc := 36) rfl (by decide) dX7_orders_36 (k0 hn)
  refine sp_X7_whyNot ka hR hkn (fun j hj et hp hz hc => ?_) (fun hn => kI (hno 1 (by decide) (fun ⟨j, hj, et, _⟩ => hn ⟨j, hj, et⟩))) (fun ht hn => kI (hno 2 (by decide) (fun ⟨_, _, _, hp, hz, _⟩ => hn ⟨hp, hz⟩))) (fun j hj et hp hz hc => kI (hno 3 (by decide) (fun ⟨j2, hj2, et2, _, _, hc2⟩ => hc ((i_eq (by have := hR.n6; omega) (by have := hR.n6; omega)).mp (et.symm.trans et2) ▸ hc2))))
  refine kI ?_
  refine wp_if_ne (M := mX7_orders) (pc := 9) (tgt := 16) dX7_orders_9 rfl (fun e => absurd rfl e) (fun _ => ?_)
  refine wp_iconst (M := mX7_orders) (pc := 12) (v := 1) dX7_orders_12 ci_1 ?_
  refine wp_goto (M := mX7_orders) (pc := 13) (tgt := 17) dX7_orders_13 rfl ?_
  refine so_istore (M := mX7_orders) (pc := 17) (lo' := [_, _, _, _, _, _]) dX7_orders_17 (LE rfl) (LE rfl) (Or.inr rfl) rfl ?_
  refine wp_iload (M := mX7_orders) (pc := 19) dX7_orders_19 rfl ?_
  refine wp_if_eq (M := mX7_orders) (pc := 21) (tgt := 34) dX7_orders_21 rfl (fun e => absurd e (by decide)) (fun _ => ?_)
  refine wp_aload_n (M := mX7_orders) (pc := 24) dX7_orders_24 rfl ?_
  refine wp_iload_n (M := mX7_orders) (pc := 25) dX7_orders_25 rfl ?_
  refine wp_iload_n (M := mX7_orders) (pc := 26) dX7_orders_26 rfl ?_
  refine wp_iload_n (M := mX7_orders) (pc := 27) dX7_orders_27 rfl ?_
  refine wp_iload (M := mX7_orders) (pc := 28) dX7_orders_28 rfl ?_
  refine so_S5 (M := mX7_orders) (pc := 30) cs_X7_orders_215 rfl rfl (LE rfl) (LE rfl) dX7_orders_30 ?_
  subst et
  refine sp_X7_addOrder ka hR hj hkn hc.1 (fun h1 R1 F1 => ?_)
  refine kI ?_
  refine wp_pop (M := mX7_orders) (pc := 33) dX7_orders_33 rfl ?_
  refine wp_iload (M := mX7_orders) (pc := 34) dX7_orders_34 rfl ?_
  refine wp_zreturn (M := mX7_orders) (pc := 36) rfl (by decide) dX7_orders_36 ?_
  exact k1 j hj rfl hp hz hc h1 R1 F1
set_option maxHeartbeats 4000000 in
set_option maxRecDepth 100000 in
theorem sp_X7_pushes {a : Nat} {A : Sta} {t z : Int32} (ka : kd h a = some (.inr (0, 1360))) (hR : RepR (gi h a) A) (k1 : ∀ j, j < sN A → t = nI j → wth z 1 99 → (sT A j).2.1.length < 8 → ∀ h', RepR (gi h' a) (pushA A j z) → RF a h h' → Q (.inl (some (.int 1))) h') (k0 : ¬ mayQ A t z → Q (.inl (some (.int 0))) h) : WPx E mX7_pushes 0 [some (.ref a), some (.int t), some (.int z), none] [] (0, 0) h Q := by
  refine wp_aload_n (M := mX7_pushes) (pc := 0) dX7_pushes_0 rfl ?_
  refine wp_iload_n (M := mX7_pushes) (pc := 1) dX7_pushes_1 rfl ?_
  refine wp_iload_n (M := mX7_pushes) (pc := 2) dX7_pushes_2 rfl ?_
  refine so_S3 (M := mX7_pushes) (pc := 3) cs_X7_pushes_222 rfl rfl (LE rfl) (LE rfl) dX7_pushes_3 ?_
  have hno : ∀ v : Int32, ¬ v = 0 → ¬ mayQ A t z → WPx E mX7_pushes 6 [some (.ref a), some (.int t), some (.int z), none] [.int v] (0, 0) h Q := fun v hv hn => by
    refine wp_if_ne (M := mX7_pushes) (pc := 6) (tgt := 13) dX7_pushes_6 rfl (fun _ => ?_) (fun e => absurd e hv)
    refine wp_iconst (M := mX7_pushes) (pc := 13) (v := 0) dX7_pushes_13 ci_0 ?_
    refine so_istore_n (M := mX7_pushes) (pc := 14) (lo' := [_, _, _, _]) dX7_pushes_14 (LE rfl) (LE rfl) (Or.inr rfl) rfl ?_
    refine wp_iload_n (M := mX7_pushes) (pc := 15) dX7_pushes_15 rfl ?_
    refine wp_if_eq (M := mX7_pushes) (pc := 16) (tgt := 26) dX7_pushes_16 rfl (fun _ => ?_) (fun e => absurd rfl e)
    refine wp_iload_n (M := mX7_pushes) (pc := 26) dX7_pushes_26 rfl ?_
    refine wp_zreturn (M := mX7_pushes) (pc := 27) rfl (by decide) dX7_pushes_27 (k0 hn)
  refine sp_X7_whyNotPushed ka hR (fun j hj et hz h8 => ?_) (fun hn => kI (hno 1 (by decide) (fun ⟨j, hj, et, _⟩ => hn ⟨j, hj, et⟩))) (fun ht hn => kI (hno 2 (by decide) (fun ⟨_, _, _, hz, _⟩ => hn hz))) (fun j hj et hz hc => kI (hno 3 (by decide) (fun ⟨j2, hj2, et2, _, hc2⟩ => hc ((i_eq (by have := hR.n6; omega) (by have := hR.n6; omega)).mp (et.symm.trans et2) ▸ hc2))))
  refine kI ?_
  refine wp_if_ne (M := mX7_pushes) (pc := 6) (tgt := 13) dX7_pushes_6 rfl (fun e => absurd rfl e) (fun _ => ?_)
  refine wp_iconst (M := mX7_pushes) (pc := 9) (v := 1) dX7_pushes_9 ci_1 ?_
  refine wp_goto (M := mX7_pushes) (pc := 10) (tgt := 14) dX7_pushes_10 rfl ?_
  refine so_istore_n (M := mX7_pushes) (pc := 14) (lo' := [_, _, _, _]) dX7_pushes_14 (LE rfl) (LE rfl) (Or.inr rfl) rfl ?_
  refine wp_iload_n (M := mX7_pushes) (pc := 15) dX7_pushes_15 rfl ?_
  refine wp_if_eq (M := mX7_pushes) (pc := 16) (tgt := 26) dX7_pushes_16 rfl (fun e => absurd e (by decide)) (fun _ => ?_)
  refine wp_aload_n (M := mX7_pushes) (pc := 19) dX7_pushes_19 rfl ?_
  refine wp_iload_n (M := mX7_pushes) (pc := 20) dX7_pushes_20 rfl ?_
  refine wp_iload_n (M := mX7_pushes) (pc := 21) dX7_pushes_21 rfl ?_
  refine so_S3 (M := mX7_pushes) (pc := 22) cs_X7_pushes_225 rfl rfl (LE rfl) (LE rfl) dX7_pushes_22 ?_
  subst et
  refine sp_X7_pushOn ka hR hj h8 (fun h1 R1 F1 => ?_)
  refine kI ?_
  refine wp_pop (M := mX7_pushes) (pc := 25) dX7_pushes_25 rfl ?_
  refine wp_iload_n (M := mX7_pushes) (pc := 26) dX7_pushes_26 rfl ?_
  refine wp_zreturn (M := mX7_pushes) (pc := 27) rfl (by decide) dX7_pushes_27 ?_
  exact k1 j hj rfl hz h8 h1 R1 F1
end SP
