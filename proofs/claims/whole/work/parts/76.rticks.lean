section SP
variable {E : Ev} {h : PH} {Q : Rt → PH → Prop}
theorem rep_debt {f : Nat → Int32} {A : Sta} (H : RepR f A) {t : Nat} {v : Int32} (ht : t < sN A) (h100 : (sT A t).2.2.length < 100) : RepR (upd (upd (upd f (58 + 217 * t + 17 + 2 * (sT A t).2.2.length) v) (58 + 217 * t + 17 + 2 * (sT A t).2.2.length + 1) (nI (sTi A + sTm A))) (58 + 217 * t + 16) (nI ((sT A t).2.2.length + 1))) (addD A t v) := by
  obtain ⟨h1, ⟨h2, h3⟩, h4, ⟨h5, h6⟩, h7⟩ := H.2.1 t ht
  have el : ((sT A t).2.2 ++ [(v, sTi A + sTm A)]).length = (sT A t).2.2.length + 1 := by rw [List.length_append]; rfl
  refine H.ten ht (fun j hj => by rw [upd_ne _ _ (by omega), upd_ne _ _ (by omega), upd_ne _ _ (by omega)]) ⟨fun k hk => ?_, ⟨?_, h3⟩, fun j hj => ?_, ⟨?_, ?_⟩, fun j hj => ?_⟩
  · rw [upd_ne _ _ (by omega), upd_ne _ _ (by omega), upd_ne _ _ (by omega)]; exact h1 k hk
  · rw [upd_ne _ _ (by omega), upd_ne _ _ (by omega), upd_ne _ _ (by omega)]; exact h2
  · have hj9 : j < (sT A t).2.1.length := hj
    rw [upd_ne _ _ (by omega), upd_ne _ _ (by omega), upd_ne _ _ (by omega)]; exact h4 j hj
  · rw [upd_at]; show _ = nI ((sT A t).2.2 ++ [(v, sTi A + sTm A)]).length; rw [el]
  · show ((sT A t).2.2 ++ [(v, sTi A + sTm A)]).length ≤ 100; omega
  · have hj9 : j < ((sT A t).2.2 ++ [(v, sTi A + sTm A)]).length := hj
    show _ = (((sT A t).2.2 ++ [(v, sTi A + sTm A)]).getD j (0, 0)).1 ∧ _ = nI (((sT A t).2.2 ++ [(v, sTi A + sTm A)]).getD j (0, 0)).2
    by_cases e : j < (sT A t).2.2.length
    · rw [getD_app1 e, upd_ne _ _ (by omega), upd_ne _ _ (by omega), upd_ne _ _ (by omega), upd_ne _ _ (by omega), upd_ne _ _ (by omega), upd_ne _ _ (by omega)]
      exact h7 j e
    · have e2 : j = (sT A t).2.2.length := by omega
      rw [e2, getD_app2, upd_ne _ _ (by omega), upd_ne _ _ (by omega), upd_at, upd_ne _ _ (by omega), upd_at]
      exact ⟨rfl, rfl⟩
theorem stlT_T {A : Sta} {i : Nat} {v p : Int32} (u : Nat) : (sT (stlT A i v p) u).2 = (sT A u).2 := by
  have hh : ∀ (A : Sta) w k x, (sT (wF A w k x) u).2 = (sT A u).2 := fun A w k x => by
    show (u1 (sT A) w _ u).2 = _
    by_cases e : u = w
    · rw [e, u1_at]
    · rw [u1_ne _ _ e]
  unfold stlT
  split
  · rw [hh, hh]
  · rw [hh]
theorem imin_comm (a b : Int32) : imin a b = imin b a := by
  unfold imin
  by_cases h1 : b < a
  · rw [if_pos h1, if_neg (Int32.not_lt.mpr (Int32.le_of_lt h1))]
  · rw [if_neg h1]
    by_cases h2 : a < b
    · rw [if_pos h2]
    · rw [if_neg h2]; exact Int32.le_antisymm (Int32.not_lt.mp h1) (Int32.not_lt.mp h2)
theorem stlA_G {A : Sta} {i : Nat} {v p : Int32} : (stlA A i v p).2.1 = A.2.1 := by
  show (stlD A i v p).2.1 = _
  unfold stlD
  have h1 : (stlT A i v p).2.1 = A.2.1 := by
    unfold stlT
    split <;> rfl
  split
  · exact h1
  · exact h1
theorem stl_G7 (A : Sta) (F : Nat → Int32) (p : Int32) : ∀ i, sG (stl A F p i) 7 = sG A 7
  | 0 => rfl
  | i + 1 => by
    show (stlA (stl A F p i) i (F i) p).2.1 7 = _
    rw [stlA_G]
    exact stl_G7 A F p i
/-- orders of which nothing is left go, the last one first -/
def rmO : Nat → Sta → Sta
  | 0, A => A
  | i + 1, A => rmO i (if (oA A i).2.2.2 = 0 then eraO A i else A)
theorem rmO_y {i : Nat} {A : Sta} (h : (oA A i).2.2.2 = 0) : rmO (i + 1) A = rmO i (eraO A i) := by rw [rmO, if_pos h]
theorem rmO_n {i : Nat} {A : Sta} (h : ¬ (oA A i).2.2.2 = 0) : rmO (i + 1) A = rmO i A := by rw [rmO, if_neg h]
noncomputable def auR (A : Sta) : Sta := rmO (sO A).length (wG (stl A (mtB (sO A)).1 (mtB (sO A)).2.2.1 (sO A).length) 7 (if 0 < (mtB (sO A)).2.1 then (mtB (sO A)).2.2.1 else sG A 7))
def okD (B : Sta) : Prop := ∀ i t, i < (sO B).length → t < sN B → (sT (stl B (mtB (sO B)).1 (mtB (sO B)).2.2.1 i) t).2.2.length < 100
theorem rmO_1 : ∀ (i : Nat) (A : Sta), (rmO i A).1 = A.1
  | 0, _ => rfl
  | i + 1, A => by
    by_cases h : (oA A i).2.2.2 = 0
    · rw [rmO_y h, rmO_1 i]; rfl
    · rw [rmO_n h, rmO_1 i]
theorem auR_1 (A : Sta) : (auR A).1 = A.1 := by unfold auR; rw [rmO_1]; exact stl_1 _ _ _ _
/-- debts that are due, one by one -/
def cdR (t : Nat) : Nat → Sta → Sta
  | 0, A => A
  | f + 1, A => if 0 < (sT A t).2.2.length ∧ ((sT A t).2.2.getD 0 (0, 0)).2 ≤ sTi A then cdR t f (clR A t) else A
theorem cdR_y {t f : Nat} {A : Sta} (h : 0 < (sT A t).2.2.length ∧ ((sT A t).2.2.getD 0 (0, 0)).2 ≤ sTi A) : cdR t (f + 1) A = cdR t f (clR A t) := if_pos h
theorem cdR_n {t f : Nat} {A : Sta} (h : ¬ (0 < (sT A t).2.2.length ∧ ((sT A t).2.2.getD 0 (0, 0)).2 ≤ sTi A)) : cdR t f A = A := by
  cases f
  · rfl
  · exact if_neg h
def cdRa (A : Sta) : Nat → Sta
  | 0 => A
  | t + 1 => cdR t (sT (cdRa A t) t).2.2.length (cdRa A t)
theorem col1R_1 (A : Sta) (t : Nat) (d : Int32) : (col1R A t d).1.1 = A.1 := by
  unfold col1R
  split
  · show (wdR t _ 0 (takeA A t d)).1 = _; rw [wdR_1]; rfl
  · rfl
theorem col2_1 (A : Sta) (t : Nat) (m : Int32) : (col2 A t m).1 = A.1 := by
  unfold col2
  split
  · exact (payA_1 t _ A).1
  · exact (payA_1 t _ A).1
theorem clR_1 (A : Sta) (t : Nat) : (clR A t).1 = A.1 := by
  show (col2 _ t _).1 = _
  rw [col2_1, col1R_1]
theorem cdR_1 (t : Nat) : ∀ (f : Nat) (A : Sta), (cdR t f A).1 = A.1
  | 0, _ => rfl
  | f + 1, A => by
    by_cases h : 0 < (sT A t).2.2.length ∧ ((sT A t).2.2.getD 0 (0, 0)).2 ≤ sTi A
    · rw [cdR_y h, cdR_1 t f, clR_1]
    · rw [cdR_n h]
theorem cdRa_1 (A : Sta) : ∀ i, (cdRa A i).1 = A.1
  | 0 => rfl
  | i + 1 => by show (cdR i _ _).1 = _; rw [cdR_1, cdRa_1 A i]
theorem payA_D (t u : Nat) : ∀ (c : Nat) (A : Sta), (sT (payA t c A).1 u).2 = (sT A u).2
  | 0, _ => rfl
  | c + 1, A => by
    by_cases h : sG A 4 ≤ fT A t 4
    · rw [payA_y h, payA_D t u c]
      show (u1 (sT A) t _ u).2 = _
      by_cases e : u = t
      · rw [e, u1_at]
      · rw [u1_ne _ _ e]
    · rw [payA_n h]
theorem col2_D (A : Sta) (t u : Nat) (m : Int32) : (sT (col2 A t m) u).2 = (sT A u).2 := by
  unfold col2
  split
  · exact payA_D t u _ A
  · show (u1 (sT (payA t (mis m) A).1) t _ u).2 = _
    by_cases e : u = t
    · rw [e, u1_at]; exact payA_D t t _ A
    · rw [u1_ne _ _ e]; exact payA_D t u _ A
theorem col1R_D (A : Sta) (t u : Nat) (d : Int32) : (sT (col1R A t d).1 u).2 = (sT A u).2 := by
  unfold col1R
  split
  · show (sT (takeA _ t _) u).2 = _; rw [take_D, wdR_D, take_D]
  · exact take_D _ _ _ _
theorem clR_D (A : Sta) (t : Nat) : (sT (clR A t) t).2.2 = (sT A t).2.2.tail := by
  show (u1 (sT (col2 (col1R A t ((sT A t).2.2.getD 0 (0, 0)).1).1 t (col1R A t ((sT A t).2.2.getD 0 (0, 0)).1).2)) t _ t).2.2 = _
  rw [u1_at]
  show (sT (col2 _ t _) t).2.2.tail = _
  rw [col2_D, col1R_D]
noncomputable def tk1R (A : Sta) : Sta := sRun 49 (wG (fbk (wTi A (sTi A + 1)) (sN A)) 9 0)
noncomputable def tk2R (A : Sta) : Sta := cif (nI (sTi A) - nI (sTi A) / sG A 2 * sG A 2 = 0) (auR A) A
noncomputable def tkR (A : Sta) : Sta := cdRa (tk2R (tk1R A)) (sN A)
theorem sRun_1 : ∀ (k : Nat) (A : Sta), (sRun k A).1 = A.1
  | 0, _ => rfl
  | k + 1, A => by
    by_cases h : sentB A (sN A)
    · rw [sRun_y h, sRun_1 k, rnd_1]
    · rw [sRun_n h, rnd_1]
theorem sRun_G2 : ∀ (k : Nat) (A : Sta), sG (sRun k A) 2 = sG A 2
  | 0, _ => rfl
  | k + 1, A => by
    have hr : ∀ i, sG (rnd A i) 2 = sG A 2 := fun i => by
      induction i with
      | zero => rfl
      | succ i ih =>
        show sG (sendT (rnd A i) _) 2 = _
        by_cases hc : canS (rnd A i) ((sTi A + i) % sN A)
        · rw [sendT_y hc]; show upd (sG (rnd A i)) 9 (sG (rnd A i) 9 + m0 (rnd A i) ((sTi A + i) % sN A)) 2 = _; rw [upd_ne _ _ (by decide)]; exact ih
        · rw [sendT_n hc]; exact ih
    by_cases h : sentB A (sN A)
    · rw [sRun_y h, sRun_G2 k]; exact hr _
    · rw [sRun_n h]; exact hr _
theorem fbk_G (A : Sta) : ∀ i, (fbk A i).2.1 = A.2.1
  | 0 => rfl
  | i + 1 => by
    show (fillB (fbk A i) i).2.1 = _
    by_cases h : susp (fbk A i) i
    · rw [fillB_y h]; exact fbk_G A i
    · rw [fillB_n h]; exact fbk_G A i
theorem tk1R_1 (A : Sta) : (tk1R A).1 = (sN A, sTi A + 1, sTm A) := by
  show (sRun 49 _).1 = _
  rw [sRun_1]
  show (fbk _ _).1 = _
  rw [fbk_1]
  rfl
theorem tk1R_G2 (A : Sta) : sG (tk1R A) 2 = sG A 2 := by
  show sG (sRun 49 _) 2 = _
  rw [sRun_G2]
  show upd (fbk (wTi A (sTi A + 1)) (sN A)).2.1 9 0 2 = _
  rw [upd_ne _ _ (by decide), fbk_G]
  rfl
theorem tk2R_1 (A : Sta) : (tk2R A).1 = A.1 := by
  unfold tk2R
  by_cases h : nI (sTi A) - nI (sTi A) / sG A 2 * sG A 2 = 0
  · rw [cif_t h, auR_1]
  · rw [cif_f h]
theorem tkR_1 (A : Sta) : (tkR A).1 = (sN A, sTi A + 1, sTm A) := by
  show (cdRa _ _).1 = _
  rw [cdRa_1, tk2R_1, tk1R_1]
noncomputable def tksR : Nat → Sta → Sta × Int32
  | 0, A => (A, 0)
  | k + 1, A => (tkR (tksR k A).1, (tksR k A).2 + sG (tkR (tksR k A).1) 9)
theorem tksR_1 (A : Sta) : ∀ k, (tksR k A).1.1 = (sN A, sTi A + k, sTm A)
  | 0 => rfl
  | k + 1 => by
    show (tkR (tksR k A).1).1 = _
    rw [tkR_1]
    have := tksR_1 A k
    show ((tksR k A).1.1.1, (tksR k A).1.1.2.1 + 1, (tksR k A).1.1.2.2) = _
    rw [this]
    rfl
set_option maxHeartbeats 4000000 in
set_option maxRecDepth 100000 in
theorem sp_X7_settle {me : Nat} {ad : Nat → Nat} {a : Nat} {A : Sta} {i : Nat} {v p : Int32} (Hm : MoL h me ad) (ka : kd h a = some (.inr (0, 1360))) (hR : RepR (gi h a) A) (na : a ≠ me ∧ ∀ k y, (k = 12 ∨ k = 14 ∨ k = 15 ∨ k = 16) → fsz k = some y → a ≠ ad k) (hi : i < (sO A).length) (hv : gi h (ad 16) i = v) (hp : gi h me 18 = p) (hD : ∀ t, t < sN A → (sT A t).2.2.length < 100) (k : ∀ h', RepR (gi h' a) (stlA A i v p) → RF a h h' → Q (.inl none) h') : WPx E mX7_settle 0 [some (.ref me), some (.ref a), some (.int (nI i)), none, none, none, none] [] (0, 0) h Q := by
  have n6 := hR.n6
  have n12 := hR.n12
  have na0 := na.1
  have na16 := na.2 16 _ (by decide) rfl
  obtain ⟨⟨o0, o1, o2, o3⟩, o4, o5⟩ := hR.o hi
  have e4 : gi h a (58 + 217 * (oA A i).1 + 4) = fT A (oA A i).1 4 := hR.tF o4 (by decide)
  have e3 : gi h a (58 + 217 * (oA A i).1 + 3) = fT A (oA A i).1 3 := hR.tF o4 (by decide)
  refine wp_iload_n (M := mX7_settle) (pc := 0) dX7_settle_0 rfl ?_
  refine so_S1 (M := mX7_settle) (pc := 1) cs_X7_settle_119 rfl rfl (LE rfl) (LE rfl) dX7_settle_1 ?_
  refine sp_X7_orderAt ?_
  refine kI ?_
  refine so_istore_n (M := mX7_settle) (pc := 4) (lo' := [_, _, _, _, _, _, _]) dX7_settle_4 (LE rfl) (LE rfl) (Or.inr rfl) rfl ?_
  refine wp_aload_n (M := mX7_settle) (pc := 5) dX7_settle_5 rfl ?_
  refine wp_iload_n (M := mX7_settle) (pc := 6) dX7_settle_6 rfl ?_
  refine wp_iconst (M := mX7_settle) (pc := 7) (v := 0) dX7_settle_7 ci_0 ?_
  refine wp_iadd (M := mX7_settle) (pc := 8) dX7_settle_8 ?_
  refine wr_iaload (M := mX7_settle) (pc := 9) dX7_settle_9 (by first | exact Hm.k | exact Hm.a rfl | exact ka2 | exact ka1 | exact ka | fail "kd") (ia rfl (show (0 : Int32) = nI 0 from rfl)) (by omega) (by decide) ?_
  refine so_S1 (M := mX7_settle) (pc := 10) cs_X7_settle_90 rfl rfl (LE rfl) (LE rfl) dX7_settle_10 ?_
  rw [o0]
  refine sp_X7_at ?_
  refine kI ?_
  refine so_istore (M := mX7_settle) (pc := 13) (lo' := [_, _, _, _, _, _, _]) dX7_settle_13 (LE rfl) (LE rfl) (Or.inr rfl) rfl ?_
  refine wp_aload_n (M := mX7_settle) (pc := 15) dX7_settle_15 rfl ?_
  refine wp_getR (M := mX7_settle) (pc := 16) fa_X7_41 rfl dX7_settle_16 (by first | exact Hm.k | exact Hm.a rfl | exact ka2 | exact ka1 | exact ka | fail "kd") (Hm.r rfl) ?_
  refine wp_iload_n (M := mX7_settle) (pc := 19) dX7_settle_19 rfl ?_
  refine wr_iaload (M := mX7_settle) (pc := 20) dX7_settle_20 (by first | exact Hm.k | exact Hm.a rfl | exact ka2 | exact ka1 | exact ka | fail "kd") rfl (by omega) (by decide) ?_
  refine so_istore (M := mX7_settle) (pc := 21) (lo' := [_, _, _, _, _, _, _]) dX7_settle_21 (LE rfl) (LE rfl) (Or.inr rfl) rfl ?_
  refine wp_aload_n (M := mX7_settle) (pc := 23) dX7_settle_23 rfl ?_
  refine wp_iload_n (M := mX7_settle) (pc := 24) dX7_settle_24 rfl ?_
  refine wp_iconst (M := mX7_settle) (pc := 25) (v := 1) dX7_settle_25 ci_1 ?_
  refine wp_iadd (M := mX7_settle) (pc := 26) dX7_settle_26 ?_
  refine wr_iaload (M := mX7_settle) (pc := 27) dX7_settle_27 (by first | exact Hm.k | exact Hm.a rfl | exact ka2 | exact ka1 | exact ka | fail "kd") (ia rfl (show (1 : Int32) = nI 1 from rfl)) (by omega) (by decide) ?_
  refine wp_if_ne (M := mX7_settle) (pc := 28) (tgt := 67) dX7_settle_28 rfl (fun t28 => ?_) (fun f28 => ?_)
  · rw [o1] at t28
    have k0 : ¬ (oA A i).2.1 = 0 := fun e => t28 (by rw [e]; rfl)
    refine wp_aload_n (M := mX7_settle) (pc := 67) dX7_settle_67 rfl ?_
    refine wp_iload (M := mX7_settle) (pc := 68) dX7_settle_68 rfl ?_
    refine wp_iconst (M := mX7_settle) (pc := 70) (v := 4) dX7_settle_70 ci_4 ?_
    refine wp_iadd (M := mX7_settle) (pc := 71) dX7_settle_71 ?_
    refine wp_dup2 (M := mX7_settle) (pc := 72) dX7_settle_72 rfl rfl ?_
    refine wr_iaload (M := mX7_settle) (pc := 73) dX7_settle_73 (by first | exact Hm.k | exact Hm.a rfl | exact ka2 | exact ka1 | exact ka | fail "kd") (ia rfl (show (4 : Int32) = nI 4 from rfl)) (by omega) (by decide) ?_
    refine wp_aload_n (M := mX7_settle) (pc := 74) dX7_settle_74 rfl ?_
    refine wp_getI (M := mX7_settle) (pc := 75) fa_X7_167 rfl dX7_settle_75 (by first | exact Hm.k | exact Hm.a rfl | exact ka2 | exact ka1 | exact ka | fail "kd") ?_
    refine wp_iload (M := mX7_settle) (pc := 78) dX7_settle_78 rfl ?_
    refine wp_imul (M := mX7_settle) (pc := 80) dX7_settle_80 ?_
    refine wp_iadd (M := mX7_settle) (pc := 81) dX7_settle_81 ?_
    refine wr_iastore (M := mX7_settle) (pc := 82) dX7_settle_82 (by first | exact Hm.k | exact Hm.a rfl | exact ka2 | exact ka1 | exact ka | fail "kd") (ia rfl (show (4 : Int32) = nI 4 from rfl)) (by omega) (by decide) ?_
    refine wp_gen (M := mX7_settle) (pc := 83) (P := fun hX => RepR (gi hX a) (stlT A i v p) ∧ RF a h hX) ?_ (fun hX HX => ?_)
    first
    | (refine ⟨?_, RF.si.tr RF.si⟩
       have g1 : gi (si h a (58 + 217 * (oA A i).1 + 3) (gi h a (58 + 217 * (oA A i).1 + 3) + gi h (ad 16) i)) me 18 = p := by rw [gi_si_ne _ _ _ na0.symm]; exact hp
       rw [g1, gi_si_at, gi_si_at, upd_ne _ _ (by omega), upd_ne _ _ (by omega), e3, e4, o2, hv, stlT, if_pos k0]
       exact (hR.sF o4 (k := 3) (by decide) _).sF o4 (k := 4) (by decide) _)
    | (refine ⟨?_, RF.si⟩
       rw [hp, gi_si_at, e4, hv, stlT, if_neg k0]
       exact hR.sF o4 (k := 4) (by decide) _)
    | fail "leaf"
    obtain ⟨RX, FX⟩ := HX
    have ka1 : kd hX a = some (.inr (0, 1360)) := by rw [FX.kd]; exact ka
    have oe : sO (stlT A i v p) = sO A := (stlT_O A i v p).1
    have ne1 : (stlT A i v p).1 = A.1 := (stlT_O A i v p).2
    have o4' : (oA A i).1 < sN (stlT A i v p) := by show _ < (stlT A i v p).1.1; rw [ne1]; exact o4
    have hi' : i < (sO (stlT A i v p)).length := by rw [oe]; exact hi
    have oq : oA (stlT A i v p) i = oA A i := by show (sO (stlT A i v p)).getD i _ = _; rw [oe]
    obtain ⟨⟨p0, p1, p2, p3⟩, p4, p5⟩ := RX.o hi'
    rw [oq] at p1
    have hd9 := hD _ o4
    have eD : (sT (stlT A i v p) (oA A i).1).2.2.length = (sT A (oA A i).1).2.2.length := by rw [stlT_T]
    have dL : gi hX a (58 + 217 * (oA A i).1 + 16) = nI (sT A (oA A i).1).2.2.length := by rw [(RX.tD o4').1, eD]
    refine wp_aload_n (M := mX7_settle) (pc := 83) dX7_settle_83 rfl ?_
    refine wp_iload_n (M := mX7_settle) (pc := 84) dX7_settle_84 rfl ?_
    refine wp_iconst (M := mX7_settle) (pc := 85) (v := 1) dX7_settle_85 ci_1 ?_
    refine wp_iadd (M := mX7_settle) (pc := 86) dX7_settle_86 ?_
    refine wr_iaload (M := mX7_settle) (pc := 87) dX7_settle_87 (by first | exact Hm.k | exact Hm.a rfl | exact ka2 | exact ka1 | exact ka | fail "kd") (ia rfl (show (1 : Int32) = nI 1 from rfl)) (by omega) (by decide) ?_
    refine wp_iconst (M := mX7_settle) (pc := 88) (v := 2) dX7_settle_88 ci_2 ?_
    refine wp_icmp_ne (M := mX7_settle) (pc := 89) (tgt := 144) dX7_settle_89 rfl (fun t89 => ?_) (fun f89 => ?_)
    · rw [p1] at t89
      have k2 : ¬ (oA A i).2.1 = 2 := fun e => t89 (by rw [e]; rfl)
      refine wp_gen (M := mX7_settle) (pc := 144) (P := fun hY => RepR (gi hY a) (stlD A i v p) ∧ RF a h hY) ?_ (fun hY HY => ?_)
      first
      | (refine ⟨?_, FX⟩
         rw [stlD, if_neg (fun q => k2 q.1)]
         exact RX)
      | (refine ⟨?_, FX⟩
         rw [stlD, if_neg (fun q => Int32.not_lt.mpr t94 (by rw [hv]; exact q.2))]
         exact RX)
      | (refine ⟨?_, FX.tr ((RF.si.tr RF.si).tr RF.si)⟩
         have f0 : 0 < v := by rw [← hv]; exact Int32.not_le.mp f94
         rw [stlD, if_pos ⟨k2, f0⟩]
         have g5 : gi (si hX a (58 + 217 * (oA A i).1 + 17 + 2 * (sT A (oA A i).1).2.2.length) (gi h (ad 16) i)) a 5 = nI (sTi A) := by
           rw [gi_si_at, upd_ne _ _ (by omega), RX.f5]; show nI (stlT A i v p).1.2.1 = _; rw [ne1]
         have g3 : gi (si hX a (58 + 217 * (oA A i).1 + 17 + 2 * (sT A (oA A i).1).2.2.length) (gi h (ad 16) i)) a 3 = nI (sTm A) := by
           rw [gi_si_at, upd_ne _ _ (by omega), RX.f3]; show nI (stlT A i v p).1.2.2 = _; rw [ne1]
         have RD := rep_debt (v := v) RX o4' (by rw [eD]; exact hd9)
         rw [eD, show sTi (stlT A i v p) + sTm (stlT A i v p) = sTi A + sTm A by show (stlT A i v p).1.2.1 + (stlT A i v p).1.2.2 = _; rw [ne1]] at RD
         rw [g5, g3, hv, gi_si_at, gi_si_at, gi_si_at, upd_ne _ _ (by omega), upd_ne _ _ (by omega), dL, nI_add, show nI (sT A (oA A i).1).2.2.length + 1 = nI ((sT A (oA A i).1).2.2.length + 1) from nI_1 _]
         exact RD)
      | fail "leaf"
      obtain ⟨RY, FY⟩ := HY
      have ka2 : kd hY a = some (.inr (0, 1360)) := by rw [FY.kd]; exact ka
      have oe2 : sO (stlD A i v p) = sO A := (stlD_O A i v p).1
      have hi2 : i < (sO (stlD A i v p)).length := by rw [oe2]; exact hi
      have oq2 : oA (stlD A i v p) i = oA A i := by show (sO (stlD A i v p)).getD i _ = _; rw [oe2]
      have p3y := (RY.o hi2).1.2.2.2
      rw [oq2] at p3y
      refine wp_aload_n (M := mX7_settle) (pc := 144) dX7_settle_144 rfl ?_
      refine wp_iload_n (M := mX7_settle) (pc := 145) dX7_settle_145 rfl ?_
      refine wp_iconst (M := mX7_settle) (pc := 146) (v := 3) dX7_settle_146 ci_3 ?_
      refine wp_iadd (M := mX7_settle) (pc := 147) dX7_settle_147 ?_
      refine wp_dup2 (M := mX7_settle) (pc := 148) dX7_settle_148 rfl rfl ?_
      refine wr_iaload (M := mX7_settle) (pc := 149) dX7_settle_149 (by first | exact Hm.k | exact Hm.a rfl | exact ka2 | exact ka1 | exact ka | fail "kd") (ia rfl (show (3 : Int32) = nI 3 from rfl)) (by omega) (by decide) ?_
      refine wp_iload (M := mX7_settle) (pc := 150) dX7_settle_150 rfl ?_
      refine wp_isub (M := mX7_settle) (pc := 152) dX7_settle_152 ?_
      refine wr_iastore (M := mX7_settle) (pc := 153) dX7_settle_153 (by first | exact Hm.k | exact Hm.a rfl | exact ka2 | exact ka1 | exact ka | fail "kd") (ia rfl (show (3 : Int32) = nI 3 from rfl)) (by omega) (by decide) ?_
      refine wp_return (M := mX7_settle) (pc := 154) rfl dX7_settle_154 ?_
      rw [p3y, hv]
      refine k _ ?_ (FY.tr RF.si)
      rw [gi_si_at]
      exact RY.sQ hi2 _
    · rw [p1] at f89
      have k2 : (oA A i).2.1 = 2 := (i_eq (b := 2) (by omega) (by decide)).mp f89
      refine wp_iload (M := mX7_settle) (pc := 92) dX7_settle_92 rfl ?_
      refine wp_if_le (M := mX7_settle) (pc := 94) (tgt := 144) dX7_settle_94 rfl (fun t94 => ?_) (fun f94 => ?_)
      · refine wp_gen (M := mX7_settle) (pc := 144) (P := fun hY => RepR (gi hY a) (stlD A i v p) ∧ RF a h hY) ?_ (fun hY HY => ?_)
        first
        | (refine ⟨?_, FX⟩
           rw [stlD, if_neg (fun q => k2 q.1)]
           exact RX)
        | (refine ⟨?_, FX⟩
           rw [stlD, if_neg (fun q => Int32.not_lt.mpr t94 (by rw [hv]; exact q.2))]
           exact RX)
        | (refine ⟨?_, FX.tr ((RF.si.tr RF.si).tr RF.si)⟩
           have f0 : 0 < v := by rw [← hv]; exact Int32.not_le.mp f94
           rw [stlD, if_pos ⟨k2, f0⟩]
           have g5 : gi (si hX a (58 + 217 * (oA A i).1 + 17 + 2 * (sT A (oA A i).1).2.2.length) (gi h (ad 16) i)) a 5 = nI (sTi A) := by
             rw [gi_si_at, upd_ne _ _ (by omega), RX.f5]; show nI (stlT A i v p).1.2.1 = _; rw [ne1]
           have g3 : gi (si hX a (58 + 217 * (oA A i).1 + 17 + 2 * (sT A (oA A i).1).2.2.length) (gi h (ad 16) i)) a 3 = nI (sTm A) := by
             rw [gi_si_at, upd_ne _ _ (by omega), RX.f3]; show nI (stlT A i v p).1.2.2 = _; rw [ne1]
           have RD := rep_debt (v := v) RX o4' (by rw [eD]; exact hd9)
           rw [eD, show sTi (stlT A i v p) + sTm (stlT A i v p) = sTi A + sTm A by show (stlT A i v p).1.2.1 + (stlT A i v p).1.2.2 = _; rw [ne1]] at RD
           rw [g5, g3, hv, gi_si_at, gi_si_at, gi_si_at, upd_ne _ _ (by omega), upd_ne _ _ (by omega), dL, nI_add, show nI (sT A (oA A i).1).2.2.length + 1 = nI ((sT A (oA A i).1).2.2.length + 1) from nI_1 _]
           exact RD)
        | fail "leaf"
        obtain ⟨RY, FY⟩ := HY
        have ka2 : kd hY a = some (.inr (0, 1360)) := by rw [FY.kd]; exact ka
        have oe2 : sO (stlD A i v p) = sO A := (stlD_O A i v p).1
        have hi2 : i < (sO (stlD A i v p)).length := by rw [oe2]; exact hi
        have oq2 : oA (stlD A i v p) i = oA A i := by show (sO (stlD A i v p)).getD i _ = _; rw [oe2]
        have p3y := (RY.o hi2).1.2.2.2
        rw [oq2] at p3y
        refine wp_aload_n (M := mX7_settle) (pc := 144) dX7_settle_144 rfl ?_
        refine wp_iload_n (M := mX7_settle) (pc := 145) dX7_settle_145 rfl ?_
        refine wp_iconst (M := mX7_settle) (pc := 146) (v := 3) dX7_settle_146 ci_3 ?_
        refine wp_iadd (M := mX7_settle) (pc := 147) dX7_settle_147 ?_
        refine wp_dup2 (M := mX7_settle) (pc := 148) dX7_settle_148 rfl rfl ?_
        refine wr_iaload (M := mX7_settle) (pc := 149) dX7_settle_149 (by first | exact Hm.k | exact Hm.a rfl | exact ka2 | exact ka1 | exact ka | fail "kd") (ia rfl (show (3 : Int32) = nI 3 from rfl)) (by omega) (by decide) ?_
        refine wp_iload (M := mX7_settle) (pc := 150) dX7_settle_150 rfl ?_
        refine wp_isub (M := mX7_settle) (pc := 152) dX7_settle_152 ?_
        refine wr_iastore (M := mX7_settle) (pc := 153) dX7_settle_153 (by first | exact Hm.k | exact Hm.a rfl | exact ka2 | exact ka1 | exact ka | fail "kd") (ia rfl (show (3 : Int32) = nI 3 from rfl)) (by omega) (by decide) ?_
        refine wp_return (M := mX7_settle) (pc := 154) rfl dX7_settle_154 ?_
        rw [p3y, hv]
        refine k _ ?_ (FY.tr RF.si)
        rw [gi_si_at]
        exact RY.sQ hi2 _
      · refine wp_iload (M := mX7_settle) (pc := 97) dX7_settle_97 rfl ?_
        refine wp_bipush (M := mX7_settle) (pc := 99) (v := 17) dX7_settle_99 cb_17 ?_
        refine wp_iadd (M := mX7_settle) (pc := 101) dX7_settle_101 ?_
        refine wp_iconst (M := mX7_settle) (pc := 102) (v := 2) dX7_settle_102 ci_2 ?_
        refine wp_aload_n (M := mX7_settle) (pc := 103) dX7_settle_103 rfl ?_
        refine wp_iload (M := mX7_settle) (pc := 104) dX7_settle_104 rfl ?_
        refine wp_bipush (M := mX7_settle) (pc := 106) (v := 16) dX7_settle_106 cb_16 ?_
        refine wp_iadd (M := mX7_settle) (pc := 108) dX7_settle_108 ?_
        refine wr_iaload (M := mX7_settle) (pc := 109) dX7_settle_109 (by first | exact Hm.k | exact Hm.a rfl | exact ka2 | exact ka1 | exact ka | fail "kd") (ia rfl (show (16 : Int32) = nI 16 from rfl)) (by omega) (by decide) ?_
        refine wp_imul (M := mX7_settle) (pc := 110) dX7_settle_110 ?_
        refine wp_iadd (M := mX7_settle) (pc := 111) dX7_settle_111 ?_
        refine so_istore (M := mX7_settle) (pc := 112) (lo' := [_, _, _, _, _, _, _]) dX7_settle_112 (LE rfl) (LE rfl) (Or.inr rfl) rfl ?_
        rw [dL, show nI (58 + 217 * (oA A i).1) + 17 + 2 * nI (sT A (oA A i).1).2.2.length = nI (58 + 217 * (oA A i).1 + 17 + 2 * (sT A (oA A i).1).2.2.length) from ia (ia rfl (show (17 : Int32) = nI 17 from rfl)) (im (show (2 : Int32) = nI 2 from rfl) rfl)]
        refine wp_aload_n (M := mX7_settle) (pc := 114) dX7_settle_114 rfl ?_
        refine wp_iload (M := mX7_settle) (pc := 115) dX7_settle_115 rfl ?_
        refine wp_iload (M := mX7_settle) (pc := 117) dX7_settle_117 rfl ?_
        refine wr_iastore (M := mX7_settle) (pc := 119) dX7_settle_119 (by first | exact Hm.k | exact Hm.a rfl | exact ka2 | exact ka1 | exact ka | fail "kd") rfl (by omega) (by decide) ?_
        refine wp_aload_n (M := mX7_settle) (pc := 120) dX7_settle_120 rfl ?_
        refine wp_iload (M := mX7_settle) (pc := 121) dX7_settle_121 rfl ?_
        refine wp_iconst (M := mX7_settle) (pc := 123) (v := 1) dX7_settle_123 ci_1 ?_
        refine wp_iadd (M := mX7_settle) (pc := 124) dX7_settle_124 ?_
        refine wp_aload_n (M := mX7_settle) (pc := 125) dX7_settle_125 rfl ?_
        refine wp_iconst (M := mX7_settle) (pc := 126) (v := 5) dX7_settle_126 ci_5 ?_
        refine wr_iaload (M := mX7_settle) (pc := 127) dX7_settle_127 (by first | exact Hm.k | exact Hm.a rfl | exact ka2 | exact ka1 | exact ka | fail "kd") (show (5 : Int32) = nI 5 from rfl) (by omega) (by decide) ?_
        refine wp_aload_n (M := mX7_settle) (pc := 128) dX7_settle_128 rfl ?_
        refine wp_iconst (M := mX7_settle) (pc := 129) (v := 3) dX7_settle_129 ci_3 ?_
        refine wr_iaload (M := mX7_settle) (pc := 130) dX7_settle_130 (by first | exact Hm.k | exact Hm.a rfl | exact ka2 | exact ka1 | exact ka | fail "kd") (show (3 : Int32) = nI 3 from rfl) (by omega) (by decide) ?_
        refine wp_iadd (M := mX7_settle) (pc := 131) dX7_settle_131 ?_
        refine wr_iastore (M := mX7_settle) (pc := 132) dX7_settle_132 (by first | exact Hm.k | exact Hm.a rfl | exact ka2 | exact ka1 | exact ka | fail "kd") (ia rfl (show (1 : Int32) = nI 1 from rfl)) (by omega) (by decide) ?_
        refine wp_aload_n (M := mX7_settle) (pc := 133) dX7_settle_133 rfl ?_
        refine wp_iload (M := mX7_settle) (pc := 134) dX7_settle_134 rfl ?_
        refine wp_bipush (M := mX7_settle) (pc := 136) (v := 16) dX7_settle_136 cb_16 ?_
        refine wp_iadd (M := mX7_settle) (pc := 138) dX7_settle_138 ?_
        refine wp_dup2 (M := mX7_settle) (pc := 139) dX7_settle_139 rfl rfl ?_
        refine wr_iaload (M := mX7_settle) (pc := 140) dX7_settle_140 (by first | exact Hm.k | exact Hm.a rfl | exact ka2 | exact ka1 | exact ka | fail "kd") (ia rfl (show (16 : Int32) = nI 16 from rfl)) (by omega) (by decide) ?_
        refine wp_iconst (M := mX7_settle) (pc := 141) (v := 1) dX7_settle_141 ci_1 ?_
        refine wp_iadd (M := mX7_settle) (pc := 142) dX7_settle_142 ?_
        refine wr_iastore (M := mX7_settle) (pc := 143) dX7_settle_143 (by first | exact Hm.k | exact Hm.a rfl | exact ka2 | exact ka1 | exact ka | fail "kd") (ia rfl (show (16 : Int32) = nI 16 from rfl)) (by omega) (by decide) ?_
        refine wp_gen (M := mX7_settle) (pc := 144) (P := fun hY => RepR (gi hY a) (stlD A i v p) ∧ RF a h hY) ?_ (fun hY HY => ?_)
        first
        | (refine ⟨?_, FX⟩
           rw [stlD, if_neg (fun q => k2 q.1)]
           exact RX)
        | (refine ⟨?_, FX⟩
           rw [stlD, if_neg (fun q => Int32.not_lt.mpr t94 (by rw [hv]; exact q.2))]
           exact RX)
        | (refine ⟨?_, FX.tr ((RF.si.tr RF.si).tr RF.si)⟩
           have f0 : 0 < v := by rw [← hv]; exact Int32.not_le.mp f94
           rw [stlD, if_pos ⟨k2, f0⟩]
           have g5 : gi (si hX a (58 + 217 * (oA A i).1 + 17 + 2 * (sT A (oA A i).1).2.2.length) (gi h (ad 16) i)) a 5 = nI (sTi A) := by
             rw [gi_si_at, upd_ne _ _ (by omega), RX.f5]; show nI (stlT A i v p).1.2.1 = _; rw [ne1]
           have g3 : gi (si hX a (58 + 217 * (oA A i).1 + 17 + 2 * (sT A (oA A i).1).2.2.length) (gi h (ad 16) i)) a 3 = nI (sTm A) := by
             rw [gi_si_at, upd_ne _ _ (by omega), RX.f3]; show nI (stlT A i v p).1.2.2 = _; rw [ne1]
           have RD := rep_debt (v := v) RX o4' (by rw [eD]; exact hd9)
           rw [eD, show sTi (stlT A i v p) + sTm (stlT A i v p) = sTi A + sTm A by show (stlT A i v p).1.2.1 + (stlT A i v p).1.2.2 = _; rw [ne1]] at RD
           rw [g5, g3, hv, gi_si_at, gi_si_at, gi_si_at, upd_ne _ _ (by omega), upd_ne _ _ (by omega), dL, nI_add, show nI (sT A (oA A i).1).2.2.length + 1 = nI ((sT A (oA A i).1).2.2.length + 1) from nI_1 _]
           exact RD)
        | fail "leaf"
        obtain ⟨RY, FY⟩ := HY
        have ka2 : kd hY a = some (.inr (0, 1360)) := by rw [FY.kd]; exact ka
        have oe2 : sO (stlD A i v p) = sO A := (stlD_O A i v p).1
        have hi2 : i < (sO (stlD A i v p)).length := by rw [oe2]; exact hi
        have oq2 : oA (stlD A i v p) i = oA A i := by show (sO (stlD A i v p)).getD i _ = _; rw [oe2]
        have p3y := (RY.o hi2).1.2.2.2
        rw [oq2] at p3y
        refine wp_aload_n (M := mX7_settle) (pc := 144) dX7_settle_144 rfl ?_
        refine wp_iload_n (M := mX7_settle) (pc := 145) dX7_settle_145 rfl ?_
        refine wp_iconst (M := mX7_settle) (pc := 146) (v := 3) dX7_settle_146 ci_3 ?_
        refine wp_iadd (M := mX7_settle) (pc := 147) dX7_settle_147 ?_
        refine wp_dup2 (M := mX7_settle) (pc := 148) dX7_settle_148 rfl rfl ?_
        refine wr_iaload (M := mX7_settle) (pc := 149) dX7_settle_149 (by first | exact Hm.k | exact Hm.a rfl | exact ka2 | exact ka1 | exact ka | fail "kd") (ia rfl (show (3 : Int32) = nI 3 from rfl)) (by omega) (by decide) ?_
        refine wp_iload (M := mX7_settle) (pc := 150) dX7_settle_150 rfl ?_
        refine wp_isub (M := mX7_settle) (pc := 152) dX7_settle_152 ?_
        refine wr_iastore (M := mX7_settle) (pc := 153) dX7_settle_153 (by first | exact Hm.k | exact Hm.a rfl | exact ka2 | exact ka1 | exact ka | fail "kd") (ia rfl (show (3 : Int32) = nI 3 from rfl)) (by omega) (by decide) ?_
        refine wp_return (M := mX7_settle) (pc := 154) rfl dX7_settle_154 ?_
        rw [p3y, hv]
        refine k _ ?_ (FY.tr RF.si)
        rw [gi_si_at]
        exact RY.sQ hi2 _
  · rw [o1] at f28
    have k0 : (oA A i).2.1 = 0 := (i_eq (b := 0) (by omega) (by decide)).mp f28
    refine wp_aload_n (M := mX7_settle) (pc := 31) dX7_settle_31 rfl ?_
    refine wp_iload (M := mX7_settle) (pc := 32) dX7_settle_32 rfl ?_
    refine wp_iconst (M := mX7_settle) (pc := 34) (v := 3) dX7_settle_34 ci_3 ?_
    refine wp_iadd (M := mX7_settle) (pc := 35) dX7_settle_35 ?_
    refine wp_dup2 (M := mX7_settle) (pc := 36) dX7_settle_36 rfl rfl ?_
    refine wr_iaload (M := mX7_settle) (pc := 37) dX7_settle_37 (by first | exact Hm.k | exact Hm.a rfl | exact ka2 | exact ka1 | exact ka | fail "kd") (ia rfl (show (3 : Int32) = nI 3 from rfl)) (by omega) (by decide) ?_
    refine wp_iload (M := mX7_settle) (pc := 38) dX7_settle_38 rfl ?_
    refine wp_iadd (M := mX7_settle) (pc := 40) dX7_settle_40 ?_
    refine wr_iastore (M := mX7_settle) (pc := 41) dX7_settle_41 (by first | exact Hm.k | exact Hm.a rfl | exact ka2 | exact ka1 | exact ka | fail "kd") (ia rfl (show (3 : Int32) = nI 3 from rfl)) (by omega) (by decide) ?_
    refine wp_aload_n (M := mX7_settle) (pc := 42) dX7_settle_42 rfl ?_
    refine wp_iload (M := mX7_settle) (pc := 43) dX7_settle_43 rfl ?_
    refine wp_iconst (M := mX7_settle) (pc := 45) (v := 4) dX7_settle_45 ci_4 ?_
    refine wp_iadd (M := mX7_settle) (pc := 46) dX7_settle_46 ?_
    refine wp_dup2 (M := mX7_settle) (pc := 47) dX7_settle_47 rfl rfl ?_
    refine wr_iaload (M := mX7_settle) (pc := 48) dX7_settle_48 (by first | exact Hm.k | exact Hm.a rfl | exact ka2 | exact ka1 | exact ka | fail "kd") (ia rfl (show (4 : Int32) = nI 4 from rfl)) (by omega) (by decide) ?_
    refine wp_aload_n (M := mX7_settle) (pc := 49) dX7_settle_49 rfl ?_
    refine wp_iload_n (M := mX7_settle) (pc := 50) dX7_settle_50 rfl ?_
    refine wp_iconst (M := mX7_settle) (pc := 51) (v := 2) dX7_settle_51 ci_2 ?_
    refine wp_iadd (M := mX7_settle) (pc := 52) dX7_settle_52 ?_
    refine wr_iaload (M := mX7_settle) (pc := 53) dX7_settle_53 (by first | exact Hm.k | exact Hm.a rfl | exact ka2 | exact ka1 | exact ka | fail "kd") (ia rfl (show (2 : Int32) = nI 2 from rfl)) (by omega) (by decide) ?_
    refine wp_aload_n (M := mX7_settle) (pc := 54) dX7_settle_54 rfl ?_
    refine wp_getI (M := mX7_settle) (pc := 55) fa_X7_167 rfl dX7_settle_55 (by first | exact Hm.k | exact Hm.a rfl | exact ka2 | exact ka1 | exact ka | fail "kd") ?_
    refine wp_isub (M := mX7_settle) (pc := 58) dX7_settle_58 ?_
    refine wp_iload (M := mX7_settle) (pc := 59) dX7_settle_59 rfl ?_
    refine wp_imul (M := mX7_settle) (pc := 61) dX7_settle_61 ?_
    refine wp_iadd (M := mX7_settle) (pc := 62) dX7_settle_62 ?_
    refine wr_iastore (M := mX7_settle) (pc := 63) dX7_settle_63 (by first | exact Hm.k | exact Hm.a rfl | exact ka2 | exact ka1 | exact ka | fail "kd") (ia rfl (show (4 : Int32) = nI 4 from rfl)) (by omega) (by decide) ?_
    refine wp_goto (M := mX7_settle) (pc := 64) (tgt := 83) dX7_settle_64 rfl ?_
    refine wp_gen (M := mX7_settle) (pc := 83) (P := fun hX => RepR (gi hX a) (stlT A i v p) ∧ RF a h hX) ?_ (fun hX HX => ?_)
    first
    | (refine ⟨?_, RF.si.tr RF.si⟩
       have g1 : gi (si h a (58 + 217 * (oA A i).1 + 3) (gi h a (58 + 217 * (oA A i).1 + 3) + gi h (ad 16) i)) me 18 = p := by rw [gi_si_ne _ _ _ na0.symm]; exact hp
       rw [g1, gi_si_at, gi_si_at, upd_ne _ _ (by omega), upd_ne _ _ (by omega), e3, e4, o2, hv, stlT, if_pos k0]
       exact (hR.sF o4 (k := 3) (by decide) _).sF o4 (k := 4) (by decide) _)
    | (refine ⟨?_, RF.si⟩
       rw [hp, gi_si_at, e4, hv, stlT, if_neg k0]
       exact hR.sF o4 (k := 4) (by decide) _)
    | fail "leaf"
    obtain ⟨RX, FX⟩ := HX
    have ka1 : kd hX a = some (.inr (0, 1360)) := by rw [FX.kd]; exact ka
    have oe : sO (stlT A i v p) = sO A := (stlT_O A i v p).1
    have ne1 : (stlT A i v p).1 = A.1 := (stlT_O A i v p).2
    have o4' : (oA A i).1 < sN (stlT A i v p) := by show _ < (stlT A i v p).1.1; rw [ne1]; exact o4
    have hi' : i < (sO (stlT A i v p)).length := by rw [oe]; exact hi
    have oq : oA (stlT A i v p) i = oA A i := by show (sO (stlT A i v p)).getD i _ = _; rw [oe]
    obtain ⟨⟨p0, p1, p2, p3⟩, p4, p5⟩ := RX.o hi'
    rw [oq] at p1
    have hd9 := hD _ o4
    have eD : (sT (stlT A i v p) (oA A i).1).2.2.length = (sT A (oA A i).1).2.2.length := by rw [stlT_T]
    have dL : gi hX a (58 + 217 * (oA A i).1 + 16) = nI (sT A (oA A i).1).2.2.length := by rw [(RX.tD o4').1, eD]
    refine wp_aload_n (M := mX7_settle) (pc := 83) dX7_settle_83 rfl ?_
    refine wp_iload_n (M := mX7_settle) (pc := 84) dX7_settle_84 rfl ?_
    refine wp_iconst (M := mX7_settle) (pc := 85) (v := 1) dX7_settle_85 ci_1 ?_
    refine wp_iadd (M := mX7_settle) (pc := 86) dX7_settle_86 ?_
    refine wr_iaload (M := mX7_settle) (pc := 87) dX7_settle_87 (by first | exact Hm.k | exact Hm.a rfl | exact ka2 | exact ka1 | exact ka | fail "kd") (ia rfl (show (1 : Int32) = nI 1 from rfl)) (by omega) (by decide) ?_
    refine wp_iconst (M := mX7_settle) (pc := 88) (v := 2) dX7_settle_88 ci_2 ?_
    refine wp_icmp_ne (M := mX7_settle) (pc := 89) (tgt := 144) dX7_settle_89 rfl (fun t89 => ?_) (fun f89 => ?_)
    · rw [p1] at t89
      have k2 : ¬ (oA A i).2.1 = 2 := fun e => t89 (by rw [e]; rfl)
      refine wp_gen (M := mX7_settle) (pc := 144) (P := fun hY => RepR (gi hY a) (stlD A i v p) ∧ RF a h hY) ?_ (fun hY HY => ?_)
      first
      | (refine ⟨?_, FX⟩
         rw [stlD, if_neg (fun q => k2 q.1)]
         exact RX)
      | (refine ⟨?_, FX⟩
         rw [stlD, if_neg (fun q => Int32.not_lt.mpr t94 (by rw [hv]; exact q.2))]
         exact RX)
      | (refine ⟨?_, FX.tr ((RF.si.tr RF.si).tr RF.si)⟩
         have f0 : 0 < v := by rw [← hv]; exact Int32.not_le.mp f94
         rw [stlD, if_pos ⟨k2, f0⟩]
         have g5 : gi (si hX a (58 + 217 * (oA A i).1 + 17 + 2 * (sT A (oA A i).1).2.2.length) (gi h (ad 16) i)) a 5 = nI (sTi A) := by
           rw [gi_si_at, upd_ne _ _ (by omega), RX.f5]; show nI (stlT A i v p).1.2.1 = _; rw [ne1]
         have g3 : gi (si hX a (58 + 217 * (oA A i).1 + 17 + 2 * (sT A (oA A i).1).2.2.length) (gi h (ad 16) i)) a 3 = nI (sTm A) := by
           rw [gi_si_at, upd_ne _ _ (by omega), RX.f3]; show nI (stlT A i v p).1.2.2 = _; rw [ne1]
         have RD := rep_debt (v := v) RX o4' (by rw [eD]; exact hd9)
         rw [eD, show sTi (stlT A i v p) + sTm (stlT A i v p) = sTi A + sTm A by show (stlT A i v p).1.2.1 + (stlT A i v p).1.2.2 = _; rw [ne1]] at RD
         rw [g5, g3, hv, gi_si_at, gi_si_at, gi_si_at, upd_ne _ _ (by omega), upd_ne _ _ (by omega), dL, nI_add, show nI (sT A (oA A i).1).2.2.length + 1 = nI ((sT A (oA A i).1).2.2.length + 1) from nI_1 _]
         exact RD)
      | fail "leaf"
      obtain ⟨RY, FY⟩ := HY
      have ka2 : kd hY a = some (.inr (0, 1360)) := by rw [FY.kd]; exact ka
      have oe2 : sO (stlD A i v p) = sO A := (stlD_O A i v p).1
      have hi2 : i < (sO (stlD A i v p)).length := by rw [oe2]; exact hi
      have oq2 : oA (stlD A i v p) i = oA A i := by show (sO (stlD A i v p)).getD i _ = _; rw [oe2]
      have p3y := (RY.o hi2).1.2.2.2
      rw [oq2] at p3y
      refine wp_aload_n (M := mX7_settle) (pc := 144) dX7_settle_144 rfl ?_
      refine wp_iload_n (M := mX7_settle) (pc := 145) dX7_settle_145 rfl ?_
      refine wp_iconst (M := mX7_settle) (pc := 146) (v := 3) dX7_settle_146 ci_3 ?_
      refine wp_iadd (M := mX7_settle) (pc := 147) dX7_settle_147 ?_
      refine wp_dup2 (M := mX7_settle) (pc := 148) dX7_settle_148 rfl rfl ?_
      refine wr_iaload (M := mX7_settle) (pc := 149) dX7_settle_149 (by first | exact Hm.k | exact Hm.a rfl | exact ka2 | exact ka1 | exact ka | fail "kd") (ia rfl (show (3 : Int32) = nI 3 from rfl)) (by omega) (by decide) ?_
      refine wp_iload (M := mX7_settle) (pc := 150) dX7_settle_150 rfl ?_
      refine wp_isub (M := mX7_settle) (pc := 152) dX7_settle_152 ?_
      refine wr_iastore (M := mX7_settle) (pc := 153) dX7_settle_153 (by first | exact Hm.k | exact Hm.a rfl | exact ka2 | exact ka1 | exact ka | fail "kd") (ia rfl (show (3 : Int32) = nI 3 from rfl)) (by omega) (by decide) ?_
      refine wp_return (M := mX7_settle) (pc := 154) rfl dX7_settle_154 ?_
      rw [p3y, hv]
      refine k _ ?_ (FY.tr RF.si)
      rw [gi_si_at]
      exact RY.sQ hi2 _
    · rw [p1] at f89
      have k2 : (oA A i).2.1 = 2 := (i_eq (b := 2) (by omega) (by decide)).mp f89
      refine wp_iload (M := mX7_settle) (pc := 92) dX7_settle_92 rfl ?_
      refine wp_if_le (M := mX7_settle) (pc := 94) (tgt := 144) dX7_settle_94 rfl (fun t94 => ?_) (fun f94 => ?_)
      · refine wp_gen (M := mX7_settle) (pc := 144) (P := fun hY => RepR (gi hY a) (stlD A i v p) ∧ RF a h hY) ?_ (fun hY HY => ?_)
        first
        | (refine ⟨?_, FX⟩
           rw [stlD, if_neg (fun q => k2 q.1)]
           exact RX)
        | (refine ⟨?_, FX⟩
           rw [stlD, if_neg (fun q => Int32.not_lt.mpr t94 (by rw [hv]; exact q.2))]
           exact RX)
        | (refine ⟨?_, FX.tr ((RF.si.tr RF.si).tr RF.si)⟩
           have f0 : 0 < v := by rw [← hv]; exact Int32.not_le.mp f94
           rw [stlD, if_pos ⟨k2, f0⟩]
           have g5 : gi (si hX a (58 + 217 * (oA A i).1 + 17 + 2 * (sT A (oA A i).1).2.2.length) (gi h (ad 16) i)) a 5 = nI (sTi A) := by
             rw [gi_si_at, upd_ne _ _ (by omega), RX.f5]; show nI (stlT A i v p).1.2.1 = _; rw [ne1]
           have g3 : gi (si hX a (58 + 217 * (oA A i).1 + 17 + 2 * (sT A (oA A i).1).2.2.length) (gi h (ad 16) i)) a 3 = nI (sTm A) := by
             rw [gi_si_at, upd_ne _ _ (by omega), RX.f3]; show nI (stlT A i v p).1.2.2 = _; rw [ne1]
           have RD := rep_debt (v := v) RX o4' (by rw [eD]; exact hd9)
           rw [eD, show sTi (stlT A i v p) + sTm (stlT A i v p) = sTi A + sTm A by show (stlT A i v p).1.2.1 + (stlT A i v p).1.2.2 = _; rw [ne1]] at RD
           rw [g5, g3, hv, gi_si_at, gi_si_at, gi_si_at, upd_ne _ _ (by omega), upd_ne _ _ (by omega), dL, nI_add, show nI (sT A (oA A i).1).2.2.length + 1 = nI ((sT A (oA A i).1).2.2.length + 1) from nI_1 _]
           exact RD)
        | fail "leaf"
        obtain ⟨RY, FY⟩ := HY
        have ka2 : kd hY a = some (.inr (0, 1360)) := by rw [FY.kd]; exact ka
        have oe2 : sO (stlD A i v p) = sO A := (stlD_O A i v p).1
        have hi2 : i < (sO (stlD A i v p)).length := by rw [oe2]; exact hi
        have oq2 : oA (stlD A i v p) i = oA A i := by show (sO (stlD A i v p)).getD i _ = _; rw [oe2]
        have p3y := (RY.o hi2).1.2.2.2
        rw [oq2] at p3y
        refine wp_aload_n (M := mX7_settle) (pc := 144) dX7_settle_144 rfl ?_
        refine wp_iload_n (M := mX7_settle) (pc := 145) dX7_settle_145 rfl ?_
        refine wp_iconst (M := mX7_settle) (pc := 146) (v := 3) dX7_settle_146 ci_3 ?_
        refine wp_iadd (M := mX7_settle) (pc := 147) dX7_settle_147 ?_
        refine wp_dup2 (M := mX7_settle) (pc := 148) dX7_settle_148 rfl rfl ?_
        refine wr_iaload (M := mX7_settle) (pc := 149) dX7_settle_149 (by first | exact Hm.k | exact Hm.a rfl | exact ka2 | exact ka1 | exact ka | fail "kd") (ia rfl (show (3 : Int32) = nI 3 from rfl)) (by omega) (by decide) ?_
        refine wp_iload (M := mX7_settle) (pc := 150) dX7_settle_150 rfl ?_
        refine wp_isub (M := mX7_settle) (pc := 152) dX7_settle_152 ?_
        refine wr_iastore (M := mX7_settle) (pc := 153) dX7_settle_153 (by first | exact Hm.k | exact Hm.a rfl | exact ka2 | exact ka1 | exact ka | fail "kd") (ia rfl (show (3 : Int32) = nI 3 from rfl)) (by omega) (by decide) ?_
        refine wp_return (M := mX7_settle) (pc := 154) rfl dX7_settle_154 ?_
        rw [p3y, hv]
        refine k _ ?_ (FY.tr RF.si)
        rw [gi_si_at]
        exact RY.sQ hi2 _
      · refine wp_iload (M := mX7_settle) (pc := 97) dX7_settle_97 rfl ?_
        refine wp_bipush (M := mX7_settle) (pc := 99) (v := 17) dX7_settle_99 cb_17 ?_
        refine wp_iadd (M := mX7_settle) (pc := 101) dX7_settle_101 ?_
        refine wp_iconst (M := mX7_settle) (pc := 102) (v := 2) dX7_settle_102 ci_2 ?_
        refine wp_aload_n (M := mX7_settle) (pc := 103) dX7_settle_103 rfl ?_
        refine wp_iload (M := mX7_settle) (pc := 104) dX7_settle_104 rfl ?_
        refine wp_bipush (M := mX7_settle) (pc := 106) (v := 16) dX7_settle_106 cb_16 ?_
        refine wp_iadd (M := mX7_settle) (pc := 108) dX7_settle_108 ?_
        refine wr_iaload (M := mX7_settle) (pc := 109) dX7_settle_109 (by first | exact Hm.k | exact Hm.a rfl | exact ka2 | exact ka1 | exact ka | fail "kd") (ia rfl (show (16 : Int32) = nI 16 from rfl)) (by omega) (by decide) ?_
        refine wp_imul (M := mX7_settle) (pc := 110) dX7_settle_110 ?_
        refine wp_iadd (M := mX7_settle) (pc := 111) dX7_settle_111 ?_
        refine so_istore (M := mX7_settle) (pc := 112) (lo' := [_, _, _, _, _, _, _]) dX7_settle_112 (LE rfl) (LE rfl) (Or.inr rfl) rfl ?_
        rw [dL, show nI (58 + 217 * (oA A i).1) + 17 + 2 * nI (sT A (oA A i).1).2.2.length = nI (58 + 217 * (oA A i).1 + 17 + 2 * (sT A (oA A i).1).2.2.length) from ia (ia rfl (show (17 : Int32) = nI 17 from rfl)) (im (show (2 : Int32) = nI 2 from rfl) rfl)]
        refine wp_aload_n (M := mX7_settle) (pc := 114) dX7_settle_114 rfl ?_
        refine wp_iload (M := mX7_settle) (pc := 115) dX7_settle_115 rfl ?_
        refine wp_iload (M := mX7_settle) (pc := 117) dX7_settle_117 rfl ?_
        refine wr_iastore (M := mX7_settle) (pc := 119) dX7_settle_119 (by first | exact Hm.k | exact Hm.a rfl | exact ka2 | exact ka1 | exact ka | fail "kd") rfl (by omega) (by decide) ?_
        refine wp_aload_n (M := mX7_settle) (pc := 120) dX7_settle_120 rfl ?_
        refine wp_iload (M := mX7_settle) (pc := 121) dX7_settle_121 rfl ?_
        refine wp_iconst (M := mX7_settle) (pc := 123) (v := 1) dX7_settle_123 ci_1 ?_
        refine wp_iadd (M := mX7_settle) (pc := 124) dX7_settle_124 ?_
        refine wp_aload_n (M := mX7_settle) (pc := 125) dX7_settle_125 rfl ?_
        refine wp_iconst (M := mX7_settle) (pc := 126) (v := 5) dX7_settle_126 ci_5 ?_
        refine wr_iaload (M := mX7_settle) (pc := 127) dX7_settle_127 (by first | exact Hm.k | exact Hm.a rfl | exact ka2 | exact ka1 | exact ka | fail "kd") (show (5 : Int32) = nI 5 from rfl) (by omega) (by decide) ?_
        refine wp_aload_n (M := mX7_settle) (pc := 128) dX7_settle_128 rfl ?_
        refine wp_iconst (M := mX7_settle) (pc := 129) (v := 3) dX7_settle_129 ci_3 ?_
        refine wr_iaload (M := mX7_settle) (pc := 130) dX7_settle_130 (by first | exact Hm.k | exact Hm.a rfl | exact ka2 | exact ka1 | exact ka | fail "kd") (show (3 : Int32) = nI 3 from rfl) (by omega) (by decide) ?_
        refine wp_iadd (M := mX7_settle) (pc := 131) dX7_settle_131 ?_
        refine wr_iastore (M := mX7_settle) (pc := 132) dX7_settle_132 (by first | exact Hm.k | exact Hm.a rfl | exact ka2 | exact ka1 | exact ka | fail "kd") (ia rfl (show (1 : Int32) = nI 1 from rfl)) (by omega) (by decide) ?_
        refine wp_aload_n (M := mX7_settle) (pc := 133) dX7_settle_133 rfl ?_
        refine wp_iload (M := mX7_settle) (pc := 134) dX7_settle_134 rfl ?_
        refine wp_bipush (M := mX7_settle) (pc := 136) (v := 16) dX7_settle_136 cb_16 ?_
        refine wp_iadd (M := mX7_settle) (pc := 138) dX7_settle_138 ?_
        refine wp_dup2 (M := mX7_settle) (pc := 139) dX7_settle_139 rfl rfl ?_
        refine wr_iaload (M := mX7_settle) (pc := 140) dX7_settle_140 (by first | exact Hm.k | exact Hm.a rfl | exact ka2 | exact ka1 | exact ka | fail "kd") (ia rfl (show (16 : Int32) = nI 16 from rfl)) (by omega) (by decide) ?_
        refine wp_iconst (M := mX7_settle) (pc := 141) (v := 1) dX7_settle_141 ci_1 ?_
        refine wp_iadd (M := mX7_settle) (pc := 142) dX7_settle_142 ?_
        refine wr_iastore (M := mX7_settle) (pc := 143) dX7_settle_143 (by first | exact Hm.k | exact Hm.a rfl | exact ka2 | exact ka1 | exact ka | fail "kd") (ia rfl (show (16 : Int32) = nI 16 from rfl)) (by omega) (by decide) ?_
        refine wp_gen (M := mX7_settle) (pc := 144) (P := fun hY => RepR (gi hY a) (stlD A i v p) ∧ RF a h hY) ?_ (fun hY HY => ?_)
        first
        | (refine ⟨?_, FX⟩
           rw [stlD, if_neg (fun q => k2 q.1)]
           exact RX)
        | (refine ⟨?_, FX⟩
           rw [stlD, if_neg (fun q => Int32.not_lt.mpr t94 (by rw [hv]; exact q.2))]
           exact RX)
        | (refine ⟨?_, FX.tr ((RF.si.tr RF.si).tr RF.si)⟩
           have f0 : 0 < v := by rw [← hv]; exact Int32.not_le.mp f94
           rw [stlD, if_pos ⟨k2, f0⟩]
           have g5 : gi (si hX a (58 + 217 * (oA A i).1 + 17 + 2 * (sT A (oA A i).1).2.2.length) (gi h (ad 16) i)) a 5 = nI (sTi A) := by
             rw [gi_si_at, upd_ne _ _ (by omega), RX.f5]; show nI (stlT A i v p).1.2.1 = _; rw [ne1]
           have g3 : gi (si hX a (58 + 217 * (oA A i).1 + 17 + 2 * (sT A (oA A i).1).2.2.length) (gi h (ad 16) i)) a 3 = nI (sTm A) := by
             rw [gi_si_at, upd_ne _ _ (by omega), RX.f3]; show nI (stlT A i v p).1.2.2 = _; rw [ne1]
           have RD := rep_debt (v := v) RX o4' (by rw [eD]; exact hd9)
           rw [eD, show sTi (stlT A i v p) + sTm (stlT A i v p) = sTi A + sTm A by show (stlT A i v p).1.2.1 + (stlT A i v p).1.2.2 = _; rw [ne1]] at RD
           rw [g5, g3, hv, gi_si_at, gi_si_at, gi_si_at, upd_ne _ _ (by omega), upd_ne _ _ (by omega), dL, nI_add, show nI (sT A (oA A i).1).2.2.length + 1 = nI ((sT A (oA A i).1).2.2.length + 1) from nI_1 _]
           exact RD)
        | fail "leaf"
        obtain ⟨RY, FY⟩ := HY
        have ka2 : kd hY a = some (.inr (0, 1360)) := by rw [FY.kd]; exact ka
        have oe2 : sO (stlD A i v p) = sO A := (stlD_O A i v p).1
        have hi2 : i < (sO (stlD A i v p)).length := by rw [oe2]; exact hi
        have oq2 : oA (stlD A i v p) i = oA A i := by show (sO (stlD A i v p)).getD i _ = _; rw [oe2]
        have p3y := (RY.o hi2).1.2.2.2
        rw [oq2] at p3y
        refine wp_aload_n (M := mX7_settle) (pc := 144) dX7_settle_144 rfl ?_
        refine wp_iload_n (M := mX7_settle) (pc := 145) dX7_settle_145 rfl ?_
        refine wp_iconst (M := mX7_settle) (pc := 146) (v := 3) dX7_settle_146 ci_3 ?_
        refine wp_iadd (M := mX7_settle) (pc := 147) dX7_settle_147 ?_
        refine wp_dup2 (M := mX7_settle) (pc := 148) dX7_settle_148 rfl rfl ?_
        refine wr_iaload (M := mX7_settle) (pc := 149) dX7_settle_149 (by first | exact Hm.k | exact Hm.a rfl | exact ka2 | exact ka1 | exact ka | fail "kd") (ia rfl (show (3 : Int32) = nI 3 from rfl)) (by omega) (by decide) ?_
        refine wp_iload (M := mX7_settle) (pc := 150) dX7_settle_150 rfl ?_
        refine wp_isub (M := mX7_settle) (pc := 152) dX7_settle_152 ?_
        refine wr_iastore (M := mX7_settle) (pc := 153) dX7_settle_153 (by first | exact Hm.k | exact Hm.a rfl | exact ka2 | exact ka1 | exact ka | fail "kd") (ia rfl (show (3 : Int32) = nI 3 from rfl)) (by omega) (by decide) ?_
        refine wp_return (M := mX7_settle) (pc := 154) rfl dX7_settle_154 ?_
        rw [p3y, hv]
        refine k _ ?_ (FY.tr RF.si)
        rw [gi_si_at]
        exact RY.sQ hi2 _
set_option maxHeartbeats 4000000 in
set_option maxRecDepth 100000 in
theorem l1_X7_auctionOn {me : Nat} {ad : Nat → Nat} {a : Nat} {A : Sta} {F : Nat → Int32} {p : Int32} {h0 : PH} (kk : ∀ h', MoL h' me ad → RepR (gi h' a) (stl A F p (sO A).length) → RF a h0 h' → WPx E mX7_auctionOn 33 [some (.ref me), some (.ref a), some (.int (nI (sO A).length))] [] (0, 0) h' Q) : ∀ (m : Nat) (i : Nat) (h : PH), (sO A).length - i < m → (i ≤ (sO A).length) → (MoL h me ad) → (kd h a = some (.inr (0, 1360))) → (a ≠ me ∧ ∀ k y, (k = 12 ∨ k = 14 ∨ k = 15 ∨ k = 16) → fsz k = some y → a ≠ ad k) → (RepR (gi h a) (stl A F p i)) → (RF a h0 h) → (∀ j, j < (sO A).length → gi h (ad 16) j = F j) → (gi h me 18 = p) → (∀ i t, i < (sO A).length → t < sN A → (sT (stl A F p i) t).2.2.length < 100) → WPx E mX7_auctionOn 13 [some (.ref me), some (.ref a), some (.int (nI i))] [] (0, 0) h Q := by
  intro m
  induction m with
  | zero => intro i h hm; exact absurd hm (Nat.not_lt_zero _)
  | succ m ih =>
    intro i h hm hi Hm ka na hR Fr hF hp hD
    have n12 := hR.n12
    rw [stl_len] at n12
    have e8 : gi h a 8 = nI (sO A).length := by rw [hR.f8, stl_len]
    have eN : sN (stl A F p i) = sN A := by show (stl A F p i).1.1 = _; rw [stl_1]
    refine wp_iload_n (M := mX7_auctionOn) (pc := 13) dX7_auctionOn_13 rfl ?_
    refine wp_aload_n (M := mX7_auctionOn) (pc := 14) dX7_auctionOn_14 rfl ?_
    refine wp_bipush (M := mX7_auctionOn) (pc := 15) (v := 8) dX7_auctionOn_15 cb_8 ?_
    refine wr_iaload (M := mX7_auctionOn) (pc := 17) dX7_auctionOn_17 (by first | exact Hm.k | exact ka | fail "kd") (show (8 : Int32) = nI 8 from rfl) (by omega) (by decide) ?_
    refine wp_icmp_ge (M := mX7_auctionOn) (pc := 18) (tgt := 33) dX7_auctionOn_18 rfl (fun t18 => ?_) (fun f18 => ?_)
    · rw [e8] at t18
      have hi2 := n_ge hi (by omega) t18
      subst hi2
      exact kk h Hm hR Fr
    · rw [e8] at f18
      have hlt := n_lt hi (by omega) f18
      refine wp_aload_n (M := mX7_auctionOn) (pc := 21) dX7_auctionOn_21 rfl ?_
      refine wp_aload_n (M := mX7_auctionOn) (pc := 22) dX7_auctionOn_22 rfl ?_
      refine wp_iload_n (M := mX7_auctionOn) (pc := 23) dX7_auctionOn_23 rfl ?_
      refine so_V2 (M := mX7_auctionOn) (pc := 24) cs_X7_auctionOn_176 rfl rfl (LE rfl) (LE rfl) dX7_auctionOn_24 (by first | exact Hm.k | exact ka | fail "kd") ?_
      refine sp_X7_settle (v := F i) (p := p) Hm ka hR na (by rw [stl_len]; exact hlt) (hF i hlt) hp (fun t ht => hD i t hlt (by rw [eN] at ht; exact ht)) (fun h1 R1 F1 => ?_)
      refine kV ?_
      refine so_iinc (M := mX7_auctionOn) (pc := 27) (lo' := [_, _, _]) dX7_auctionOn_27 rfl ci_1 (LE rfl) rfl ?_
      refine wp_goto (M := mX7_auctionOn) (pc := 30) (tgt := 13) dX7_auctionOn_30 rfl ?_
      rw [show nI i + 1 = nI (i + 1) from nI_1 i]
      exact ih (i + 1) h1 (by omega) (by omega) (Hm.B (F1.B (Z := fun x => x = a) rfl na.1)) (by rw [F1.kd]; exact ka) na R1 (Fr.tr F1) (fun j hj => by rw [F1.gi (na.2 16 _ (by decide) rfl).symm]; exact hF j hj) (by rw [F1.gi na.1.symm]; exact hp) hD
set_option maxHeartbeats 4000000 in
set_option maxRecDepth 100000 in
theorem l2_X7_auctionOn {me : Nat} {a : Nat} {res : Sta} {h0 : PH} (k : ∀ h', RepR (gi h' a) res → RF a h0 h' → Q (.inl none) h') : ∀ (m : Nat) (c : Nat) (h : PH) (A : Sta), c < m → (c ≤ (sO A).length) → (kd h a = some (.inr (0, 1360))) → (RepR (gi h a) A) → (RF a h0 h) → (rmO c A = res) → WPx E mX7_auctionOn 62 [some (.ref me), some (.ref a), some (.int (nI c - 1))] [] (0, 0) h Q := by
  intro m
  induction m with
  | zero => intro c h A hm; exact absurd hm (Nat.not_lt_zero _)
  | succ m ih =>
    intro c h A hm hc ka hR Fr he
    have n12 := hR.n12
    refine wp_iload_n (M := mX7_auctionOn) (pc := 62) dX7_auctionOn_62 rfl ?_
    refine wp_if_lt (M := mX7_auctionOn) (pc := 63) (tgt := 88) dX7_auctionOn_63 rfl (fun t63 => ?_) (fun f63 => ?_)
    · have c0 : c = 0 := by
        rcases Nat.eq_zero_or_pos c with e | e
        · exact e
        · rw [show nI c - 1 = nI (c - 1) from pk_sub (b := 1) (by omega)] at t63; exact absurd t63 (nI_pos (by omega))
      subst c0
      refine wp_return (M := mX7_auctionOn) (pc := 88) rfl dX7_auctionOn_88 ?_
      rw [show rmO 0 A = A from rfl] at he
      rw [he] at hR
      exact k h hR Fr
    · have cp : 0 < c := Nat.pos_of_ne_zero (fun e => f63 (by rw [e]; decide))
      obtain ⟨c1, rfl⟩ : ∃ c1, c = c1 + 1 := ⟨c - 1, by omega⟩
      rw [show nI (c1 + 1) - 1 = nI c1 from nI_pred c1]
      obtain ⟨⟨o0, o1, o2, o3⟩, o4, o5⟩ := hR.o (i := c1) (by omega)
      refine wp_aload_n (M := mX7_auctionOn) (pc := 66) dX7_auctionOn_66 rfl ?_
      refine wp_iload_n (M := mX7_auctionOn) (pc := 67) dX7_auctionOn_67 rfl ?_
      refine so_S1 (M := mX7_auctionOn) (pc := 68) cs_X7_auctionOn_119 rfl rfl (LE rfl) (LE rfl) dX7_auctionOn_68 ?_
      refine sp_X7_orderAt ?_
      refine kI ?_
      refine wp_iconst (M := mX7_auctionOn) (pc := 71) (v := 3) dX7_auctionOn_71 ci_3 ?_
      refine wp_iadd (M := mX7_auctionOn) (pc := 72) dX7_auctionOn_72 ?_
      refine wr_iaload (M := mX7_auctionOn) (pc := 73) dX7_auctionOn_73 ka (ia rfl (show (3 : Int32) = nI 3 from rfl)) (by omega) (by decide) ?_
      refine wp_if_ne (M := mX7_auctionOn) (pc := 74) (tgt := 82) dX7_auctionOn_74 rfl (fun t74 => ?_) (fun f74 => ?_)
      · rw [o3] at t74
        rw [rmO_n t74] at he
        refine so_iinc (M := mX7_auctionOn) (pc := 82) (lo' := [_, _, _]) dX7_auctionOn_82 rfl ci_m1 (LE rfl) rfl ?_
        refine wp_goto (M := mX7_auctionOn) (pc := 85) (tgt := 62) dX7_auctionOn_85 rfl ?_
        first
        | (rw [show nI c1 + -1 = nI c1 - 1 from (Int32.sub_eq_add_neg ..).symm]
           exact ih c1 h1 (eraO A c1) (by omega) (by omega) (by rw [F1.kd]; exact ka) R1 (Fr.tr F1) he)
        | (rw [show nI c1 + -1 = nI c1 - 1 from (Int32.sub_eq_add_neg ..).symm]
           exact ih c1 h A (by omega) (by omega) ka hR Fr he)
        | fail "leaf"
      · rw [o3] at f74
        rw [rmO_y f74] at he
        refine wp_aload_n (M := mX7_auctionOn) (pc := 77) dX7_auctionOn_77 rfl ?_
        refine wp_iload_n (M := mX7_auctionOn) (pc := 78) dX7_auctionOn_78 rfl ?_
        refine so_S2 (M := mX7_auctionOn) (pc := 79) cs_X7_auctionOn_173 rfl rfl (LE rfl) (LE rfl) dX7_auctionOn_79 ?_
        refine sp_X7_removeOrder ka hR (by omega) (fun h1 R1 F1 => ?_)
        have el : (sO (eraO A c1)).length = (sO A).length - 1 := by show ((sO A).eraseIdx c1).length = _; rw [List.length_eraseIdx_of_lt (by omega)]
        refine kV ?_
        refine so_iinc (M := mX7_auctionOn) (pc := 82) (lo' := [_, _, _]) dX7_auctionOn_82 rfl ci_m1 (LE rfl) rfl ?_
        refine wp_goto (M := mX7_auctionOn) (pc := 85) (tgt := 62) dX7_auctionOn_85 rfl ?_
        first
        | (rw [show nI c1 + -1 = nI c1 - 1 from (Int32.sub_eq_add_neg ..).symm]
           exact ih c1 h1 (eraO A c1) (by omega) (by omega) (by rw [F1.kd]; exact ka) R1 (Fr.tr F1) he)
        | (rw [show nI c1 + -1 = nI c1 - 1 from (Int32.sub_eq_add_neg ..).symm]
           exact ih c1 h A (by omega) (by omega) ka hR Fr he)
        | fail "leaf"
set_option maxHeartbeats 4000000 in
set_option maxRecDepth 100000 in
theorem sp_X7_auctionOn {me : Nat} {ad : Nat → Nat} {a : Nat} {A : Sta} (Hm : MoL h me ad) (ka : kd h a = some (.inr (0, 1360))) (hR : RepR (gi h a) A) (na : a ≠ me ∧ ∀ k y, (k = 12 ∨ k = 14 ∨ k = 15 ∨ k = 16) → fsz k = some y → a ≠ ad k) (hD : okD A) (k : ∀ h', MoL h' me ad → RepR (gi h' a) (auR A) → FrB me ad (fun x => x = a) h h' → Q (.inl none) h') : WPx E mX7_auctionOn 0 [some (.ref me), some (.ref a), none] [] (0, 0) h Q := by
  have n6 := hR.n6
  have n12 := hR.n12
  have na0 := na.1
  have na16 := na.2 16 _ (by decide) rfl
  have ew : bn A 63 (sO A).length = sO A := bn_63 n6 (fun i hi => (hR.o hi).2.1)
  refine wp_aload_n (M := mX7_auctionOn) (pc := 0) dX7_auctionOn_0 rfl ?_
  refine wp_aload_n (M := mX7_auctionOn) (pc := 1) dX7_auctionOn_1 rfl ?_
  refine wp_bipush (M := mX7_auctionOn) (pc := 2) (v := 63) dX7_auctionOn_2 cb_63 ?_
  refine so_V2 (M := mX7_auctionOn) (pc := 4) cs_X7_auctionOn_146 rfl rfl (LE rfl) (LE rfl) dX7_auctionOn_4 (by first | exact Hm1.k | exact Hm.k | fail "kd") ?_
  refine sp_X7_layBench Hm ka hR na (fun h1 Hm1 B1 F1 => ?_)
  rw [ew] at B1
  have ga1 : gi h1 a = gi h a := F1.2.1 a id na0 (na.2 12 _ (by decide) rfl) (na.2 14 _ (by decide) rfl) (na.2 15 _ (by decide) rfl) na16
  refine kV ?_
  refine wp_aload_n (M := mX7_auctionOn) (pc := 7) dX7_auctionOn_7 rfl ?_
  refine so_V0 (M := mX7_auctionOn) (pc := 8) cs_X7_auctionOn_150 rfl rfl (LE rfl) (LE rfl) dX7_auctionOn_8 (by first | exact Hm1.k | exact Hm.k | fail "kd") ?_
  refine sp_X7_match Hm1 B1 (fun h2 Hm2 B2 F2 M2 => ?_)
  have ga2 : gi h2 a = gi h a := (F2.2.1 a id na0 (na.2 12 _ (by decide) rfl) (na.2 14 _ (by decide) rfl) (na.2 15 _ (by decide) rfl) na16).trans ga1
  have ka2 : kd h2 a = some (.inr (0, 1360)) := by rw [F2.1.1, F1.1.1]; exact ka
  have F12 : FrB me ad (fun x => x = a) h h2 := (F1.tr F2).mono (fun _ q => absurd q id)
  refine kV ?_
  refine wp_iconst (M := mX7_auctionOn) (pc := 11) (v := 0) dX7_auctionOn_11 ci_0 ?_
  refine so_istore_n (M := mX7_auctionOn) (pc := 12) (lo' := [_, _, _]) dX7_auctionOn_12 (LE rfl) (LE rfl) (Or.inr rfl) rfl ?_
  refine l1_X7_auctionOn (A := A) (F := (mtB (sO A)).1) (p := (mtB (sO A)).2.2.1) (h0 := h2) (fun h3 Hm3 R3 F3 => ?_) ((sO A).length + 1) 0 h2 (by omega) (by omega) Hm2 ka2 na (by rw [ga2]; exact hR) RF.rf M2.1 M2.2.2.1 hD
  have ka3 : kd h3 a = some (.inr (0, 1360)) := by rw [F3.kd]; exact ka2
  have gm3 : gi h3 me = gi h2 me := F3.gi na0.symm
  have e7 : gi h3 a 7 = sG A 7 := by
    rw [R3.f7]
    exact stl_G7 _ _ _ _
  have hl3 : (sO (stl A (mtB (sO A)).1 (mtB (sO A)).2.2.1 (sO A).length)).length = (sO A).length := stl_len _ _ _ _
  have hfin : ∀ v, v = (if 0 < (mtB (sO A)).2.1 then (mtB (sO A)).2.2.1 else sG A 7) → WPx E mX7_auctionOn 55 [some (.ref me), some (.ref a), some (.int (nI (sO A).length))] [] (0, 0) (si h3 a 7 v) Q := fun v hv => by
    have R4 := R3.sG (k := 7) (by decide) v
    refine wp_aload_n (M := mX7_auctionOn) (pc := 55) dX7_auctionOn_55 rfl ?_
    refine wp_bipush (M := mX7_auctionOn) (pc := 56) (v := 8) dX7_auctionOn_56 cb_8 ?_
    refine wr_iaload (M := mX7_auctionOn) (pc := 58) dX7_auctionOn_58 ka3 (show (8 : Int32) = nI 8 from rfl) (by omega) (by decide) ?_
    refine wp_iconst (M := mX7_auctionOn) (pc := 59) (v := 1) dX7_auctionOn_59 ci_1 ?_
    refine wp_isub (M := mX7_auctionOn) (pc := 60) dX7_auctionOn_60 ?_
    refine so_istore_n (M := mX7_auctionOn) (pc := 61) (lo' := [_, _, _]) dX7_auctionOn_61 (LE rfl) (LE rfl) (Or.inr rfl) rfl ?_
    have e8 : gi (si h3 a 7 v) a 8 = nI (sO A).length := by rw [gi_si_at, upd_ne _ _ (by decide), R3.f8, hl3]
    rw [e8]
    exact l2_X7_auctionOn (fun h5 R5 F5 => k h5 ((Hm3.B (RF.B (Z := fun x => x = a) RF.si rfl na0)).B (F5.B (Z := fun x => x = a) rfl na0)) R5 (F12.tr (((F3.tr RF.si).tr F5).B rfl na0))) ((sO A).length + 1) (sO A).length _ (wG (stl A (mtB (sO A)).1 (mtB (sO A)).2.2.1 (sO A).length) 7 v) (by omega) (by show (sO A).length ≤ (sO (stl A (mtB (sO A)).1 (mtB (sO A)).2.2.1 (sO A).length)).length; omega) ka3 (by rw [gi_si_at]; exact R4) RF.rf (by rw [auR, ← hv])
  refine wp_aload_n (M := mX7_auctionOn) (pc := 33) dX7_auctionOn_33 rfl ?_
  refine wp_bipush (M := mX7_auctionOn) (pc := 34) (v := 7) dX7_auctionOn_34 cb_7 ?_
  refine wp_aload_n (M := mX7_auctionOn) (pc := 36) dX7_auctionOn_36 rfl ?_
  refine wp_getI (M := mX7_auctionOn) (pc := 37) fa_X7_164 rfl dX7_auctionOn_37 (by first | exact Hm3.k | exact ka3) ?_
  refine wp_if_le (M := mX7_auctionOn) (pc := 40) (tgt := 50) dX7_auctionOn_40 rfl (fun t40 => ?_) (fun f40 => ?_)
  · refine wp_aload_n (M := mX7_auctionOn) (pc := 50) dX7_auctionOn_50 rfl ?_
    refine wp_bipush (M := mX7_auctionOn) (pc := 51) (v := 7) dX7_auctionOn_51 cb_7 ?_
    refine wr_iaload (M := mX7_auctionOn) (pc := 53) dX7_auctionOn_53 (by first | exact Hm3.k | exact ka3) (show (7 : Int32) = nI 7 from rfl) (by omega) (by decide) ?_
    refine wr_iastore (M := mX7_auctionOn) (pc := 54) dX7_auctionOn_54 (by first | exact Hm3.k | exact ka3) (show (7 : Int32) = nI 7 from rfl) (by omega) (by decide) ?_
    first
    | exact hfin _ (by rw [if_neg (fun q => by rw [gm3, M2.2.1] at t40; exact Int32.not_lt.mpr t40 q)]; exact e7)
    | exact hfin _ (by rw [if_pos (by rw [gm3, M2.2.1] at f40; exact Int32.not_le.mp f40), gm3, M2.2.2.1])
    | fail "leaf"
  · refine wp_aload_n (M := mX7_auctionOn) (pc := 43) dX7_auctionOn_43 rfl ?_
    refine wp_getI (M := mX7_auctionOn) (pc := 44) fa_X7_167 rfl dX7_auctionOn_44 (by first | exact Hm3.k | exact ka3) ?_
    refine wp_goto (M := mX7_auctionOn) (pc := 47) (tgt := 54) dX7_auctionOn_47 rfl ?_
    refine wr_iastore (M := mX7_auctionOn) (pc := 54) dX7_auctionOn_54 (by first | exact Hm3.k | exact ka3) (show (7 : Int32) = nI 7 from rfl) (by omega) (by decide) ?_
    first
    | exact hfin _ (by rw [if_neg (fun q => by rw [gm3, M2.2.1] at t40; exact Int32.not_lt.mpr t40 q)]; exact e7)
    | exact hfin _ (by rw [if_pos (by rw [gm3, M2.2.1] at f40; exact Int32.not_le.mp f40), gm3, M2.2.2.1])
    | fail "leaf"
end SP
