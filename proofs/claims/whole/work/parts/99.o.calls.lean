section SP
variable {E : Ev} {h : PH} {Q : Rt → PH → Prop}
theorem wd_iv {K : Nat} {A : Sta} {i : Nat} (H : IV K A) (hK : K ≤ 100000) (hi : i < (sO A).length) : IV K (wd1 A i) := by
  have e : sTi (wd1 A i) = sTi A := by rw [wd1_e]; show (giveT A i).1.2.1 = A.1.2.1; rw [(giveT_1 A i).1]
  show IW K (sTi (wd1 A i) + 1) 1 (wd1 A i)
  rw [e]; exact IW.wd H hK (by decide) hi
theorem ahd_eq {K : Nat} {A : Sta} {n i j : Nat} (H : IV K A) (hK : K + n ≤ 100000) (hi : i < sN A) : tnumR (tksR n A).1 i j = tnumA (tks n A).1 i j := by
  obtain ⟨e1, e2, _, _, e5⟩ := tks_ok H n hK
  rw [e1]
  exact tnum_eq e2 (by show i < (tks n A).1.1.1; rw [e5]; exact hi) j
theorem P9.dn {k k' : Nat} {B : Sta} (H : P9 k B) (h : k' ≤ k) : P9 k' B := by
  obtain ⟨K, h1, h2⟩ := H
  exact ⟨K, by omega, h2⟩
theorem rs_hP {n i : Nat} {s : Int64} {B : Sta} (hn : n ≤ 3) (hi : i < n) (hB : P9 (150 - 50 * i) B) : okV B 50 ∧ ∀ B', grpR B (grpI n s i) = some B' → P9 (150 - 50 * (i + 1)) B' := by
  refine ⟨?_, fun B' e => ?_⟩
  · obtain ⟨K, h1, H⟩ := hB
    exact H.okV9 (by omega)
  · rw [grp_eq hB (by omega)] at e
    obtain ⟨k', h1, h2⟩ := P9_ok.grp (by omega) hB hB.n6 (show cmdA B _ _ _ _ = some B' from e)
    exact h2.dn (by omega)
theorem sm_hP {i : Nat} {r : Int32} {B : Sta} (hi : i < 60) (hB : P9 (120 - 2 * i) B) : 0 < sN B ∧ (¬ r < 0 → okV (raA B r) 1 ∧ P9 (120 - 2 * (i + 1)) (tksR 1 (raA B r)).1) := by
  refine ⟨?_, fun hr => ?_⟩
  · obtain ⟨K, h1, H⟩ := hB
    exact (IW.n6 (A := B) H).1
  · have h3 := P9_ok.ra (k := 120 - 2 * i - 1) (r := r) (by rw [show 120 - 2 * i - 1 + 1 = 120 - 2 * i by omega]; exact hB) hB.n6 hr
    obtain ⟨K, h4, H⟩ := id h3
    refine ⟨H.okV9 (by omega), ?_⟩
    rw [(tks_ok H 1 (by omega)).1]
    have := (P9_ok.1 _ _ 1 h3 (by omega)).2
    rw [show 120 - 2 * (i + 1) = 120 - 2 * i - 1 - 1 by omega]; exact this
theorem sv_good {K j : Nat} {X : Abs} (hG : GX K X) : GX (K + 50) (xA X, xH X, u1 (xS X) j (some (xA X)), X.2.2.2) := by
  have h := hG.more (K' := K + 50) (by omega)
  refine ⟨h.1, h.2.1, fun i B e => ?_, h.2.2.2⟩
  have e' : u1 (xS X) j (some (xA X)) i = some B := e
  by_cases c : i = j
  · rw [c, u1_at] at e'; cases e'; exact h.1
  · rw [u1_ne _ _ c] at e'; exact h.2.2.1 i B e'
def rl_append (X : Abs) (w : Int32) (c a : Int32) (X' : Abs) : Prop := (∃ j : Nat, j ≤ 255 ∧ w = nI j ∧ xn X < 160 ∧ c = 0 ∧ a = nI (xn X + 1) ∧ X' = (xA X, xH X, xS X, u1 (xs X) (xn X) j, xn X + 1)) ∨ (¬ wth w 0 255 ∧ c = 1 ∧ a = 0 ∧ X = X') ∨ (wth w 0 255 ∧ 160 ≤ xn X ∧ c = 2 ∧ a = 0 ∧ X = X')
theorem gd_append {K : Nat} {X X' : Abs} {w : Int32} {c a : Int32} (hG : GX K X) (hK : K ≤ 30000) (R : rl_append X w c a X') : GX (K + 50) X' := by
  rcases R with ⟨j, A0, A1, A2, rfl, rfl, rfl⟩ | ⟨A0, rfl, rfl, rfl⟩ | ⟨A0, A1, rfl, rfl, rfl⟩
  · exact ⟨(hG.more (K' := K + 50) (by omega)).1, (hG.more (K' := K + 50) (by omega)).2.1, (hG.more (K' := K + 50) (by omega)).2.2.1, (by show xn X + 1 ≤ 160; omega)⟩
  · exact hG.more (by omega)
  · exact hG.more (by omega)
def rl_load (X : Abs)  (c a : Int32) (X' : Abs) : Prop := (rdE (xs X) (xn X) = -9 ∧ c = 0 ∧ a = nI (sN (rdA (xs X) (xn X)).1) ∧ X' = ((rdA (xs X) (xn X)).1, [], (fun _ => none), xs X, xn X)) ∨ (¬ (rdE (xs X) (xn X) = -9) ∧ c = 1 ∧ a = 0 ∧ X = X')
theorem gd_load {K : Nat} {X X' : Abs}  {c a : Int32} (hG : GX K X) (hK : K ≤ 30000) (R : rl_load X  c a X') : GX (K + 50) X' := by
  rcases R with ⟨A0, rfl, rfl, rfl⟩ | ⟨A0, rfl, rfl, rfl⟩
  · exact ⟨(rd_ok hG.2.2.2 A0).mored (by omega), (fun B hB => by cases hB), (fun j B e => by cases e), hG.2.2.2⟩
  · exact hG.more (by omega)
def rl_about (X : Abs) (w : Int32) (c a : Int32) (X' : Abs) : Prop := (∃ j : Nat, j ≤ 9 ∧ w = nI j ∧ c = 0 ∧ a = numA (xA X) j ∧ X = X') ∨ (¬ wth w 0 9 ∧ c = 1 ∧ a = 0 ∧ X = X')
theorem gd_about {K : Nat} {X X' : Abs} {w : Int32} {c a : Int32} (hG : GX K X) (hK : K ≤ 30000) (R : rl_about X w c a X') : GX (K + 50) X' := by
  rcases R with ⟨j, A0, A1, rfl, rfl, rfl⟩ | ⟨A0, rfl, rfl, rfl⟩
  · exact hG.more (by omega)
  · exact hG.more (by omega)
def rl_tenant (X : Abs) (t : Int32) (w : Int32) (c a : Int32) (X' : Abs) : Prop := (∃ i : Nat, ∃ j : Nat, i < sN (xA X) ∧ t = nI i ∧ j ≤ 11 ∧ w = nI j ∧ c = 0 ∧ a = tnumA (xA X) i j ∧ X = X') ∨ (¬ isT (xA X) t ∧ c = 1 ∧ a = 0 ∧ X = X') ∨ (isT (xA X) t ∧ ¬ wth w 0 11 ∧ c = 2 ∧ a = 0 ∧ X = X')
theorem gd_tenant {K : Nat} {X X' : Abs} {t : Int32} {w : Int32} {c a : Int32} (hG : GX K X) (hK : K ≤ 30000) (R : rl_tenant X t w c a X') : GX (K + 50) X' := by
  rcases R with ⟨i, j, A0, A1, A2, A3, rfl, rfl, rfl⟩ | ⟨A0, rfl, rfl, rfl⟩ | ⟨A0, A1, rfl, rfl, rfl⟩
  · exact hG.more (by omega)
  · exact hG.more (by omega)
  · exact hG.more (by omega)
def rl_message (X : Abs) (t : Int32) (w : Int32) (c a : Int32) (X' : Abs) : Prop := (∃ i : Nat, ∃ j : Nat, i < sN (xA X) ∧ t = nI i ∧ j ≤ 7 ∧ w = nI j ∧ c = 0 ∧ a = msgA (xA X) i j ∧ X = X') ∨ (¬ isT (xA X) t ∧ c = 1 ∧ a = 0 ∧ X = X') ∨ (isT (xA X) t ∧ ¬ wth w 0 7 ∧ c = 2 ∧ a = 0 ∧ X = X')
theorem gd_message {K : Nat} {X X' : Abs} {t : Int32} {w : Int32} {c a : Int32} (hG : GX K X) (hK : K ≤ 30000) (R : rl_message X t w c a X') : GX (K + 50) X' := by
  rcases R with ⟨i, j, A0, A1, A2, A3, rfl, rfl, rfl⟩ | ⟨A0, rfl, rfl, rfl⟩ | ⟨A0, A1, rfl, rfl, rfl⟩
  · exact hG.more (by omega)
  · exact hG.more (by omega)
  · exact hG.more (by omega)
def rl_order (X : Abs) (t : Int32) (w : Int32) (c a : Int32) (X' : Abs) : Prop := (∃ i : Nat, ∃ j : Nat, i < (sO (xA X)).length ∧ t = nI i ∧ j ≤ 4 ∧ w = nI j ∧ c = 0 ∧ a = ordA (xA X) i j ∧ X = X') ∨ (¬ isO (xA X) t ∧ c = 1 ∧ a = 0 ∧ X = X') ∨ (isO (xA X) t ∧ ¬ wth w 0 4 ∧ c = 2 ∧ a = 0 ∧ X = X')
theorem gd_order {K : Nat} {X X' : Abs} {t : Int32} {w : Int32} {c a : Int32} (hG : GX K X) (hK : K ≤ 30000) (R : rl_order X t w c a X') : GX (K + 50) X' := by
  rcases R with ⟨i, j, A0, A1, A2, A3, rfl, rfl, rfl⟩ | ⟨A0, rfl, rfl, rfl⟩ | ⟨A0, A1, rfl, rfl, rfl⟩
  · exact hG.more (by omega)
  · exact hG.more (by omega)
  · exact hG.more (by omega)
def rl_bid (X : Abs) (t : Int32) (p : Int32) (z : Int32) (c a : Int32) (X' : Abs) : Prop := (∃ i : Nat, i < sN (xA X) ∧ t = nI i ∧ wth p 1 99 ∧ wth z 1 99 ∧ canP (xA X) 0 i p z ∧ c = 0 ∧ a = nI (sO (xA X)).length ∧ X' = actX X (placeA (xA X) 0 i p z)) ∨ (¬ isT (xA X) t ∧ c = 1 ∧ a = 0 ∧ X = X') ∨ (isT (xA X) t ∧ ¬ (wth p 1 99 ∧ wth z 1 99) ∧ c = 2 ∧ a = 0 ∧ X = X') ∨ (∃ i : Nat, i < sN (xA X) ∧ t = nI i ∧ wth p 1 99 ∧ wth z 1 99 ∧ ¬ canP (xA X) 0 i p z ∧ c = 3 ∧ a = 0 ∧ X = X')
theorem gd_bid {K : Nat} {X X' : Abs} {t : Int32} {p : Int32} {z : Int32} {c a : Int32} (hG : GX K X) (hK : K ≤ 30000) (R : rl_bid X t p z c a X') : GX (K + 50) X' := by
  rcases R with ⟨i, A0, A1, A2, A3, A4, rfl, rfl, rfl⟩ | ⟨A0, rfl, rfl, rfl⟩ | ⟨A0, A1, rfl, rfl, rfl⟩ | ⟨i, A0, A1, A2, A3, A4, rfl, rfl, rfl⟩
  · exact hG.act (by omega) ((hG.1.place (by omega) (by decide) A0 A2 A3 A4).mored (by omega))
  · exact hG.more (by omega)
  · exact hG.more (by omega)
  · exact hG.more (by omega)
def rl_ask (X : Abs) (t : Int32) (p : Int32) (z : Int32) (c a : Int32) (X' : Abs) : Prop := (∃ i : Nat, i < sN (xA X) ∧ t = nI i ∧ wth p 1 99 ∧ wth z 1 99 ∧ canP (xA X) 1 i p z ∧ c = 0 ∧ a = nI (sO (xA X)).length ∧ X' = actX X (placeA (xA X) 1 i p z)) ∨ (¬ isT (xA X) t ∧ c = 1 ∧ a = 0 ∧ X = X') ∨ (isT (xA X) t ∧ ¬ (wth p 1 99 ∧ wth z 1 99) ∧ c = 2 ∧ a = 0 ∧ X = X') ∨ (∃ i : Nat, i < sN (xA X) ∧ t = nI i ∧ wth p 1 99 ∧ wth z 1 99 ∧ ¬ canP (xA X) 1 i p z ∧ c = 3 ∧ a = 0 ∧ X = X')
theorem gd_ask {K : Nat} {X X' : Abs} {t : Int32} {p : Int32} {z : Int32} {c a : Int32} (hG : GX K X) (hK : K ≤ 30000) (R : rl_ask X t p z c a X') : GX (K + 50) X' := by
  rcases R with ⟨i, A0, A1, A2, A3, A4, rfl, rfl, rfl⟩ | ⟨A0, rfl, rfl, rfl⟩ | ⟨A0, A1, rfl, rfl, rfl⟩ | ⟨i, A0, A1, A2, A3, A4, rfl, rfl, rfl⟩
  · exact hG.act (by omega) ((hG.1.place (by omega) (by decide) A0 A2 A3 A4).mored (by omega))
  · exact hG.more (by omega)
  · exact hG.more (by omega)
  · exact hG.more (by omega)
def rl_askShort (X : Abs) (t : Int32) (p : Int32) (z : Int32) (c a : Int32) (X' : Abs) : Prop := (∃ i : Nat, i < sN (xA X) ∧ t = nI i ∧ wth p 1 99 ∧ wth z 1 99 ∧ canP (xA X) 2 i p z ∧ c = 0 ∧ a = nI (sO (xA X)).length ∧ X' = actX X (placeA (xA X) 2 i p z)) ∨ (¬ isT (xA X) t ∧ c = 1 ∧ a = 0 ∧ X = X') ∨ (isT (xA X) t ∧ ¬ (wth p 1 99 ∧ wth z 1 99) ∧ c = 2 ∧ a = 0 ∧ X = X') ∨ (∃ i : Nat, i < sN (xA X) ∧ t = nI i ∧ wth p 1 99 ∧ wth z 1 99 ∧ ¬ canP (xA X) 2 i p z ∧ c = 3 ∧ a = 0 ∧ X = X')
theorem gd_askShort {K : Nat} {X X' : Abs} {t : Int32} {p : Int32} {z : Int32} {c a : Int32} (hG : GX K X) (hK : K ≤ 30000) (R : rl_askShort X t p z c a X') : GX (K + 50) X' := by
  rcases R with ⟨i, A0, A1, A2, A3, A4, rfl, rfl, rfl⟩ | ⟨A0, rfl, rfl, rfl⟩ | ⟨A0, A1, rfl, rfl, rfl⟩ | ⟨i, A0, A1, A2, A3, A4, rfl, rfl, rfl⟩
  · exact hG.act (by omega) ((hG.1.place (by omega) (by decide) A0 A2 A3 A4).mored (by omega))
  · exact hG.more (by omega)
  · exact hG.more (by omega)
  · exact hG.more (by omega)
def rl_withdraw (X : Abs) (w : Int32) (c a : Int32) (X' : Abs) : Prop := (∃ i : Nat, i < (sO (xA X)).length ∧ w = nI i ∧ c = 0 ∧ a = (oA (xA X) i).2.2.2 ∧ X' = actX X (remE (giveA (xA X) i))) ∨ (¬ isO (xA X) w ∧ c = 1 ∧ a = 0 ∧ X = X')
theorem gd_withdraw {K : Nat} {X X' : Abs} {w : Int32} {c a : Int32} (hG : GX K X) (hK : K ≤ 30000) (R : rl_withdraw X w c a X') : GX (K + 50) X' := by
  rcases R with ⟨i, A0, A1, rfl, rfl, rfl⟩ | ⟨A0, rfl, rfl, rfl⟩
  · exact hG.act (by omega) ((by rw [wd_eq hG.1 A0]; exact wd_iv hG.1 (by omega) A0 : IV K (remE (giveA (xA X) i))).mored (by omega))
  · exact hG.more (by omega)
def rl_push (X : Abs) (t : Int32) (z : Int32) (c a : Int32) (X' : Abs) : Prop := (∃ i : Nat, i < sN (xA X) ∧ t = nI i ∧ wth z 1 99 ∧ (sT (xA X) i).2.1.length < 8 ∧ c = 0 ∧ a = nI ((sT (xA X) i).2.1.length + 1) ∧ X' = actX X (pushA (xA X) i z)) ∨ (¬ isT (xA X) t ∧ c = 1 ∧ a = 0 ∧ X = X') ∨ (isT (xA X) t ∧ ¬ wth z 1 99 ∧ c = 2 ∧ a = 0 ∧ X = X') ∨ (∃ i : Nat, i < sN (xA X) ∧ t = nI i ∧ wth z 1 99 ∧ ¬ ((sT (xA X) i).2.1.length < 8) ∧ c = 3 ∧ a = 0 ∧ X = X')
theorem gd_push {K : Nat} {X X' : Abs} {t : Int32} {z : Int32} {c a : Int32} (hG : GX K X) (hK : K ≤ 30000) (R : rl_push X t z c a X') : GX (K + 50) X' := by
  rcases R with ⟨i, A0, A1, A2, A3, rfl, rfl, rfl⟩ | ⟨A0, rfl, rfl, rfl⟩ | ⟨A0, A1, rfl, rfl, rfl⟩ | ⟨i, A0, A1, A2, A3, rfl, rfl, rfl⟩
  · exact hG.act (by omega) ((hG.1.push A0 A2 A3).mored (by omega))
  · exact hG.more (by omega)
  · exact hG.more (by omega)
  · exact hG.more (by omega)
def rl_deposit (X : Abs) (t : Int32) (z : Int32) (c a : Int32) (X' : Abs) : Prop := (∃ i : Nat, i < sN (xA X) ∧ t = nI i ∧ wth z 1 9999 ∧ fT (xA X) i 4 + z ≤ 99999 ∧ c = 0 ∧ a = fT (xA X) i 4 + z ∧ X' = actX X (wF (xA X) i 4 (fT (xA X) i 4 + z))) ∨ (¬ isT (xA X) t ∧ c = 1 ∧ a = 0 ∧ X = X') ∨ (isT (xA X) t ∧ ¬ wth z 1 9999 ∧ c = 2 ∧ a = 0 ∧ X = X') ∨ (∃ i : Nat, i < sN (xA X) ∧ t = nI i ∧ wth z 1 9999 ∧ ¬ (fT (xA X) i 4 + z ≤ 99999) ∧ c = 3 ∧ a = 0 ∧ X = X')
theorem gd_deposit {K : Nat} {X X' : Abs} {t : Int32} {z : Int32} {c a : Int32} (hG : GX K X) (hK : K ≤ 30000) (R : rl_deposit X t z c a X') : GX (K + 50) X' := by
  rcases R with ⟨i, A0, A1, A2, A3, rfl, rfl, rfl⟩ | ⟨A0, rfl, rfl, rfl⟩ | ⟨A0, A1, rfl, rfl, rfl⟩ | ⟨i, A0, A1, A2, A3, rfl, rfl, rfl⟩
  · exact hG.act (by omega) ((hG.1.deposit (by omega) A0 A2).mored (by omega))
  · exact hG.more (by omega)
  · exact hG.more (by omega)
  · exact hG.more (by omega)
def rl_tick (X : Abs) (w : Int32) (c a : Int32) (X' : Abs) : Prop := (∃ n : Nat, 1 ≤ n ∧ n ≤ 50 ∧ w = nI n ∧ c = 0 ∧ a = (tks n (xA X)).2 ∧ X' = actX X (tks n (xA X)).1) ∨ (¬ wth w 1 50 ∧ c = 1 ∧ a = 0 ∧ X = X')
theorem gd_tick {K : Nat} {X X' : Abs} {w : Int32} {c a : Int32} (hG : GX K X) (hK : K ≤ 30000) (R : rl_tick X w c a X') : GX (K + 50) X' := by
  rcases R with ⟨n, A0, A1, A2, rfl, rfl, rfl⟩ | ⟨A0, rfl, rfl, rfl⟩
  · exact hG.act (by omega) ((tks_ok hG.1 n (by omega)).2.1.mored (by omega))
  · exact hG.more (by omega)
def rl_setRate (X : Abs) (t : Int32) (z : Int32) (c a : Int32) (X' : Abs) : Prop := (∃ i : Nat, i < sN (xA X) ∧ t = nI i ∧ wth z 0 99 ∧ c = 0 ∧ a = fT (xA X) i 1 ∧ X' = actX X (wF (xA X) i 1 z)) ∨ (¬ isT (xA X) t ∧ c = 1 ∧ a = 0 ∧ X = X') ∨ (isT (xA X) t ∧ ¬ wth z 0 99 ∧ c = 2 ∧ a = 0 ∧ X = X')
theorem gd_setRate {K : Nat} {X X' : Abs} {t : Int32} {z : Int32} {c a : Int32} (hG : GX K X) (hK : K ≤ 30000) (R : rl_setRate X t z c a X') : GX (K + 50) X' := by
  rcases R with ⟨i, A0, A1, A2, rfl, rfl, rfl⟩ | ⟨A0, rfl, rfl, rfl⟩ | ⟨A0, A1, rfl, rfl, rfl⟩
  · exact hG.act (by omega) ((hG.1.setRate A0 A2).mored (by omega))
  · exact hG.more (by omega)
  · exact hG.more (by omega)
def rl_setWidth (X : Abs) (z : Int32) (c a : Int32) (X' : Abs) : Prop := (wth z 1 999 ∧ c = 0 ∧ a = sG (xA X) 1 ∧ X' = actX X (wG (xA X) 1 z)) ∨ (¬ wth z 1 999 ∧ c = 1 ∧ a = 0 ∧ X = X')
theorem gd_setWidth {K : Nat} {X X' : Abs} {z : Int32} {c a : Int32} (hG : GX K X) (hK : K ≤ 30000) (R : rl_setWidth X z c a X') : GX (K + 50) X' := by
  rcases R with ⟨A0, rfl, rfl, rfl⟩ | ⟨A0, rfl, rfl, rfl⟩
  · exact hG.act (by omega) ((hG.1.setWidth A0).mored (by omega))
  · exact hG.more (by omega)
def rl_undo (X : Abs)  (c a : Int32) (X' : Abs) : Prop := (∃ B : Sta, ∃ hs : List Sta, xH X = B :: hs ∧ c = 0 ∧ a = nI hs.length ∧ X' = (B, hs, X.2.2)) ∨ (xH X = [] ∧ c = 1 ∧ a = 0 ∧ X = X')
theorem gd_undo {K : Nat} {X X' : Abs}  {c a : Int32} (hG : GX K X) (hK : K ≤ 30000) (R : rl_undo X  c a X') : GX (K + 50) X' := by
  rcases R with ⟨B, hs, A0, rfl, rfl, rfl⟩ | ⟨A0, rfl, rfl, rfl⟩
  · exact ⟨(hG.2.1 B (by rw [A0]; exact List.mem_cons_self)).mored (by omega), (fun C hC => (hG.2.1 C (by rw [A0]; exact List.mem_cons_of_mem _ hC)).mored (by omega)), (hG.more (K' := K + 50) (by omega)).2.2.1, hG.2.2.2⟩
  · exact hG.more (by omega)
def rl_demand (X : Abs) (w : Int32) (c a : Int32) (X' : Abs) : Prop := (wth w 1 99 ∧ c = 0 ∧ a = wantA (xA X) w ∧ X = X') ∨ (¬ wth w 1 99 ∧ c = 1 ∧ a = 0 ∧ X = X')
theorem gd_demand {K : Nat} {X X' : Abs} {w : Int32} {c a : Int32} (hG : GX K X) (hK : K ≤ 30000) (R : rl_demand X w c a X') : GX (K + 50) X' := by
  rcases R with ⟨A0, rfl, rfl, rfl⟩ | ⟨A0, rfl, rfl, rfl⟩
  · exact hG.more (by omega)
  · exact hG.more (by omega)
def rl_supply (X : Abs) (w : Int32) (c a : Int32) (X' : Abs) : Prop := (wth w 1 99 ∧ c = 0 ∧ a = offA (xA X) w ∧ X = X') ∨ (¬ wth w 1 99 ∧ c = 1 ∧ a = 0 ∧ X = X')
theorem gd_supply {K : Nat} {X X' : Abs} {w : Int32} {c a : Int32} (hG : GX K X) (hK : K ≤ 30000) (R : rl_supply X w c a X') : GX (K + 50) X' := by
  rcases R with ⟨A0, rfl, rfl, rfl⟩ | ⟨A0, rfl, rfl, rfl⟩
  · exact hG.more (by omega)
  · exact hG.more (by omega)
def rl_auction (X : Abs) (w : Int32) (c a : Int32) (X' : Abs) : Prop := (∃ j : Nat, j ≤ 3 ∧ w = nI j ∧ c = 0 ∧ a = aucA (xA X) j ∧ X = X') ∨ (¬ wth w 0 3 ∧ c = 1 ∧ a = 0 ∧ X = X')
theorem gd_auction {K : Nat} {X X' : Abs} {w : Int32} {c a : Int32} (hG : GX K X) (hK : K ≤ 30000) (R : rl_auction X w c a X') : GX (K + 50) X' := by
  rcases R with ⟨j, A0, A1, rfl, rfl, rfl⟩ | ⟨A0, rfl, rfl, rfl⟩
  · exact hG.more (by omega)
  · exact hG.more (by omega)
def rl_volumeIf (X : Abs) (t : Int32) (y : Int32) (p : Int32) (z : Int32) (c a : Int32) (X' : Abs) : Prop := (∃ j : Nat, isT (xA X) t ∧ j ≤ 2 ∧ y = nI j ∧ wth p 1 99 ∧ wth z 1 99 ∧ c = 0 ∧ a = volA (xA X) j p z ∧ X = X') ∨ (¬ isT (xA X) t ∧ c = 1 ∧ a = 0 ∧ X = X') ∨ (isT (xA X) t ∧ ¬ (wth y 0 2 ∧ wth p 1 99 ∧ wth z 1 99) ∧ c = 2 ∧ a = 0 ∧ X = X')
theorem gd_volumeIf {K : Nat} {X X' : Abs} {t : Int32} {y : Int32} {p : Int32} {z : Int32} {c a : Int32} (hG : GX K X) (hK : K ≤ 30000) (R : rl_volumeIf X t y p z c a X') : GX (K + 50) X' := by
  rcases R with ⟨j, A0, A1, A2, A3, A4, rfl, rfl, rfl⟩ | ⟨A0, rfl, rfl, rfl⟩ | ⟨A0, A1, rfl, rfl, rfl⟩
  · exact hG.more (by omega)
  · exact hG.more (by omega)
  · exact hG.more (by omega)
def rl_priceFor (X : Abs) (z : Int32) (c a : Int32) (X' : Abs) : Prop := (wth z 1 99 ∧ c = 0 ∧ a = pfA (xA X) z 99 1 ∧ X = X') ∨ (¬ wth z 1 99 ∧ c = 1 ∧ a = 0 ∧ X = X')
theorem gd_priceFor {K : Nat} {X X' : Abs} {z : Int32} {c a : Int32} (hG : GX K X) (hK : K ≤ 30000) (R : rl_priceFor X z c a X') : GX (K + 50) X' := by
  rcases R with ⟨A0, rfl, rfl, rfl⟩ | ⟨A0, rfl, rfl, rfl⟩
  · exact hG.more (by omega)
  · exact hG.more (by omega)
def rl_share (X : Abs) (w : Int32) (v : Int32) (c a : Int32) (X' : Abs) : Prop := (∃ t : Nat, t < sN (xA X) ∧ w = nI t ∧ c = 0 ∧ a = shaA (xA X) t v ∧ X = X') ∨ (¬ isT (xA X) w ∧ c = 1 ∧ a = 0 ∧ X = X')
theorem gd_share {K : Nat} {X X' : Abs} {w : Int32} {v : Int32} {c a : Int32} (hG : GX K X) (hK : K ≤ 30000) (R : rl_share X w v c a X') : GX (K + 50) X' := by
  rcases R with ⟨t, A0, A1, rfl, rfl, rfl⟩ | ⟨A0, rfl, rfl, rfl⟩
  · exact hG.more (by omega)
  · exact hG.more (by omega)
def rl_ahead (X : Abs) (y : Int32) (t : Int32) (w : Int32) (c a : Int32) (X' : Abs) : Prop := (∃ n : Nat, ∃ i : Nat, ∃ j : Nat, n ≤ 99 ∧ y = nI n ∧ i < sN (xA X) ∧ t = nI i ∧ j ≤ 11 ∧ w = nI j ∧ c = 0 ∧ a = tnumA (tks n (xA X)).1 i j ∧ X = X') ∨ (¬ isT (xA X) t ∧ c = 1 ∧ a = 0 ∧ X = X') ∨ (isT (xA X) t ∧ ¬ (wth y 0 99 ∧ wth w 0 11) ∧ c = 2 ∧ a = 0 ∧ X = X')
theorem gd_ahead {K : Nat} {X X' : Abs} {y : Int32} {t : Int32} {w : Int32} {c a : Int32} (hG : GX K X) (hK : K ≤ 30000) (R : rl_ahead X y t w c a X') : GX (K + 50) X' := by
  rcases R with ⟨n, i, j, A0, A1, A2, A3, A4, A5, rfl, rfl, rfl⟩ | ⟨A0, rfl, rfl, rfl⟩ | ⟨A0, A1, rfl, rfl, rfl⟩
  · exact hG.more (by omega)
  · exact hG.more (by omega)
  · exact hG.more (by omega)
def rl_sentAfter (X : Abs) (t : Int32) (w : Int32) (c a : Int32) (X' : Abs) : Prop := (∃ i : Nat, ∃ j : Nat, i < sN (xA X) ∧ t = nI i ∧ j ≤ 7 ∧ w = nI j ∧ c = 0 ∧ a = sntA (xA X) i j ∧ X = X') ∨ (¬ isT (xA X) t ∧ c = 1 ∧ a = 0 ∧ X = X') ∨ (isT (xA X) t ∧ ¬ wth w 0 7 ∧ c = 2 ∧ a = 0 ∧ X = X')
theorem gd_sentAfter {K : Nat} {X X' : Abs} {t : Int32} {w : Int32} {c a : Int32} (hG : GX K X) (hK : K ≤ 30000) (R : rl_sentAfter X t w c a X') : GX (K + 50) X' := by
  rcases R with ⟨i, j, A0, A1, A2, A3, rfl, rfl, rfl⟩ | ⟨A0, rfl, rfl, rfl⟩ | ⟨A0, A1, rfl, rfl, rfl⟩
  · exact hG.more (by omega)
  · exact hG.more (by omega)
  · exact hG.more (by omega)
def rl_unused (X : Abs) (w : Int32) (c a : Int32) (X' : Abs) : Prop := (∃ n : Nat, 1 ≤ n ∧ n ≤ 99 ∧ w = nI n ∧ c = 0 ∧ a = nI n * sG (xA X) 1 - (tks n (xA X)).2 ∧ X = X') ∨ (¬ wth w 1 99 ∧ c = 1 ∧ a = 0 ∧ X = X')
theorem gd_unused {K : Nat} {X X' : Abs} {w : Int32} {c a : Int32} (hG : GX K X) (hK : K ≤ 30000) (R : rl_unused X w c a X') : GX (K + 50) X' := by
  rcases R with ⟨n, A0, A1, A2, rfl, rfl, rfl⟩ | ⟨A0, rfl, rfl, rfl⟩
  · exact hG.more (by omega)
  · exact hG.more (by omega)
def rl_wealthiest (X : Abs) (w : Int32) (c a : Int32) (X' : Abs) : Prop := (∃ i : Nat, i < sN (xA X) ∧ w = nI i ∧ c = 0 ∧ a = wstA (xA X) i (sN (xA X)) 0 ∧ X = X') ∨ (¬ isT (xA X) w ∧ c = 1 ∧ a = 0 ∧ X = X')
theorem gd_wealthiest {K : Nat} {X X' : Abs} {w : Int32} {c a : Int32} (hG : GX K X) (hK : K ≤ 30000) (R : rl_wealthiest X w c a X') : GX (K + 50) X' := by
  rcases R with ⟨i, A0, A1, rfl, rfl, rfl⟩ | ⟨A0, rfl, rfl, rfl⟩
  · exact hG.more (by omega)
  · exact hG.more (by omega)
def rl_runScript (X : Abs) (w : Int32) (s : Int64) (c a : Int32) (X' : Abs) : Prop := (∃ n : Nat, 1 ≤ n ∧ n ≤ 3 ∧ w = nI n ∧ 0 ≤ s ∧ s < unitG n ∧ c = 0 ∧ a = rsA n s n 0 (xA X) ∧ X = X') ∨ ((¬ wth w 1 3 ∨ ∀ n, w = nI n → n ≤ 3 → ¬ (0 ≤ s ∧ s < unitG n)) ∧ c = 1 ∧ a = 0 ∧ X = X')
theorem gd_runScript {K : Nat} {X X' : Abs} {w : Int32} {s : Int64} {c a : Int32} (hG : GX K X) (hK : K ≤ 30000) (R : rl_runScript X w s c a X') : GX (K + 50) X' := by
  rcases R with ⟨n, A0, A1, A2, A3, A4, rfl, rfl, rfl⟩ | ⟨A0, rfl, rfl, rfl⟩
  · exact hG.more (by omega)
  · exact hG.more (by omega)
def rl_simulate (X : Abs) (s : Int64) (w : Int32) (c a : Int32) (X' : Abs) : Prop := (∃ n : Nat, 1 ≤ n ∧ n ≤ 60 ∧ w = nI n ∧ c = 0 ∧ a = (smA (xA X) s n).2.2 ∧ X = X') ∨ (¬ wth w 1 60 ∧ c = 1 ∧ a = 0 ∧ X = X')
theorem gd_simulate {K : Nat} {X X' : Abs} {s : Int64} {w : Int32} {c a : Int32} (hG : GX K X) (hK : K ≤ 30000) (R : rl_simulate X s w c a X') : GX (K + 50) X' := by
  rcases R with ⟨n, A0, A1, A2, rfl, rfl, rfl⟩ | ⟨A0, rfl, rfl, rfl⟩
  · exact hG.more (by omega)
  · exact hG.more (by omega)
def rl_save (X : Abs) (w : Int32) (c a : Int32) (X' : Abs) : Prop := (∃ j : Nat, j < 2 ∧ w = nI j ∧ c = 0 ∧ a = nI (sTi (xA X)) ∧ X' = (xA X, xH X, u1 (xS X) j (some (xA X)), X.2.2.2)) ∨ (¬ wth w 0 1 ∧ c = 1 ∧ a = 0 ∧ X = X')
theorem gd_save {K : Nat} {X X' : Abs} {w : Int32} {c a : Int32} (hG : GX K X) (hK : K ≤ 30000) (R : rl_save X w c a X') : GX (K + 50) X' := by
  rcases R with ⟨j, A0, A1, rfl, rfl, rfl⟩ | ⟨A0, rfl, rfl, rfl⟩
  · exact sv_good hG
  · exact hG.more (by omega)
def rl_restore (X : Abs) (w : Int32) (c a : Int32) (X' : Abs) : Prop := (∃ j : Nat, ∃ A : Sta, j < 2 ∧ w = nI j ∧ xS X j = some A ∧ c = 0 ∧ a = nI (sTi A) ∧ X' = (A, [], X.2.2)) ∨ (¬ wth w 0 1 ∧ c = 1 ∧ a = 0 ∧ X = X') ∨ (∃ j : Nat, j < 2 ∧ w = nI j ∧ xS X j = none ∧ c = 2 ∧ a = 0 ∧ X = X')
theorem gd_restore {K : Nat} {X X' : Abs} {w : Int32} {c a : Int32} (hG : GX K X) (hK : K ≤ 30000) (R : rl_restore X w c a X') : GX (K + 50) X' := by
  rcases R with ⟨j, A, A0, A1, A2, rfl, rfl, rfl⟩ | ⟨A0, rfl, rfl, rfl⟩ | ⟨j, A0, A1, A2, rfl, rfl, rfl⟩
  · exact ⟨(hG.2.2.1 j A A2).mored (by omega), (fun B hB => by cases hB), (hG.more (K' := K + 50) (by omega)).2.2.1, hG.2.2.2⟩
  · exact hG.more (by omega)
  · exact hG.more (by omega)
set_option maxHeartbeats 1000000 in
theorem md_append {m : Nat} {ad : Nat → Nat} {K : Nat} {X X' : Abs} {w : Int32} {c a : Int32} (HM : WM h m ad X) (hG : GX K X) (hK : K ≤ 30000) (R : rl_append X w c a X') (k : ∀ h' b, WM h' m ad X' → gi h' m 0 = c → Ow m h h' → (c = 0 → b = a) → Q (.inl (some (.int b))) h') : WPx E mX7_append 0 [some (.ref m), some (.int w)] [] (0, 0) h Q := by
  have n6 := hG.n6
  have o12 := hG.o12
  rcases R with ⟨j, A0, A1, A2, rfl, rfl, rfl⟩ | ⟨A0, rfl, rfl, rfl⟩ | ⟨A0, A1, rfl, rfl, rfl⟩
  · refine sp_X7_append HM  ?_ ?_ ?_
    · intro j' B0 B1 B2 h' W z9 O9
      obtain rfl := nIj (i := j) (j := j') (by omega) (by omega) (A1.symm.trans B1)
      exact k h' _ W z9 O9 (fun _ => rfl)
    · intro B0 h' W z9 O9
      exact absurd (wq (b := 255) rfl (by decide) A0 A1) B0
    · intro B0 B1 h' W z9 O9
      omega
  · refine sp_X7_append HM  ?_ ?_ ?_
    · intro j' B0 B1 B2 h' W z9 O9
      exact absurd (wq (b := 255) rfl (by decide) B0 B1) A0
    · intro B0 h' W z9 O9
      exact k h' 0 W z9 O9 (fun _ => rfl)
    · intro B0 B1 h' W z9 O9
      exact absurd B0 A0
  · refine sp_X7_append HM  ?_ ?_ ?_
    · intro j' B0 B1 B2 h' W z9 O9
      omega
    · intro B0 h' W z9 O9
      exact absurd A0 B0
    · intro B0 B1 h' W z9 O9
      exact k h' 0 W z9 O9 (fun _ => rfl)
set_option maxHeartbeats 1000000 in
theorem md_load {m : Nat} {ad : Nat → Nat} {K : Nat} {X X' : Abs}  {c a : Int32} (HM : WM h m ad X) (hG : GX K X) (hK : K ≤ 30000) (R : rl_load X  c a X') (k : ∀ h' b, WM h' m ad X' → gi h' m 0 = c → Ow m h h' → (c = 0 → b = a) → Q (.inl (some (.int b))) h') : WPx E mX7_load 0 [some (.ref m)] [] (0, 0) h Q := by
  have n6 := hG.n6
  have o12 := hG.o12
  rcases R with ⟨A0, rfl, rfl, rfl⟩ | ⟨A0, rfl, rfl, rfl⟩
  · refine sp_X7_load HM  ?_ ?_
    · intro B0 h' W z9 O9
      exact k h' _ W z9 O9 (fun _ => rfl)
    · intro B0 h' W z9 O9
      exact absurd A0 B0
  · refine sp_X7_load HM  ?_ ?_
    · intro B0 h' W z9 O9
      exact absurd B0 A0
    · intro B0 h' W z9 O9
      exact k h' 0 W z9 O9 (fun _ => rfl)
set_option maxHeartbeats 1000000 in
theorem md_about {m : Nat} {ad : Nat → Nat} {K : Nat} {X X' : Abs} {w : Int32} {c a : Int32} (HM : WM h m ad X) (hG : GX K X) (hK : K ≤ 30000) (R : rl_about X w c a X') (k : ∀ h' b, WM h' m ad X' → gi h' m 0 = c → Ow m h h' → (c = 0 → b = a) → Q (.inl (some (.int b))) h') : WPx E mX7_about 0 [some (.ref m), some (.int w)] [] (0, 0) h Q := by
  have n6 := hG.n6
  have o12 := hG.o12
  rcases R with ⟨j, A0, A1, rfl, rfl, rfl⟩ | ⟨A0, rfl, rfl, rfl⟩
  · refine sp_X7_about HM  ?_ ?_
    · intro j' B0 B1 h' W z9 O9
      obtain rfl := nIj (i := j) (j := j') (by omega) (by omega) (A1.symm.trans B1)
      exact k h' _ W z9 O9 (fun _ => rfl)
    · intro B0 h' W z9 O9
      exact absurd (wq (b := 9) rfl (by decide) A0 A1) B0
  · refine sp_X7_about HM  ?_ ?_
    · intro j' B0 B1 h' W z9 O9
      exact absurd (wq (b := 9) rfl (by decide) B0 B1) A0
    · intro B0 h' W z9 O9
      exact k h' 0 W z9 O9 (fun _ => rfl)
set_option maxHeartbeats 1000000 in
theorem md_tenant {m : Nat} {ad : Nat → Nat} {K : Nat} {X X' : Abs} {t : Int32} {w : Int32} {c a : Int32} (HM : WM h m ad X) (hG : GX K X) (hK : K ≤ 30000) (R : rl_tenant X t w c a X') (k : ∀ h' b, WM h' m ad X' → gi h' m 0 = c → Ow m h h' → (c = 0 → b = a) → Q (.inl (some (.int b))) h') : WPx E mX7_tenant 0 [some (.ref m), some (.int t), some (.int w)] [] (0, 0) h Q := by
  have n6 := hG.n6
  have o12 := hG.o12
  rcases R with ⟨i, j, A0, A1, A2, A3, rfl, rfl, rfl⟩ | ⟨A0, rfl, rfl, rfl⟩ | ⟨A0, A1, rfl, rfl, rfl⟩
  · refine sp_X7_tenant HM  ?_ ?_ ?_
    · intro i' j' B0 B1 B2 B3 h' W z9 O9
      obtain rfl := nIj (i := i) (j := i') (by omega) (by omega) (A1.symm.trans B1)
      obtain rfl := nIj (i := j) (j := j') (by omega) (by omega) (A3.symm.trans B3)
      exact k h' _ W z9 O9 (fun _ => tnum_eq hG.1 A0 j)
    · intro B0 h' W z9 O9
      exact absurd ⟨i, A0, A1⟩ B0
    · intro B0 B1 h' W z9 O9
      exact absurd (wq (b := 11) rfl (by decide) A2 A3) B1
  · refine sp_X7_tenant HM  ?_ ?_ ?_
    · intro i' j' B0 B1 B2 B3 h' W z9 O9
      exact absurd ⟨i', B0, B1⟩ A0
    · intro B0 h' W z9 O9
      exact k h' 0 W z9 O9 (fun _ => rfl)
    · intro B0 B1 h' W z9 O9
      exact absurd B0 A0
  · refine sp_X7_tenant HM  ?_ ?_ ?_
    · intro i' j' B0 B1 B2 B3 h' W z9 O9
      exact absurd (wq (b := 11) rfl (by decide) B2 B3) A1
    · intro B0 h' W z9 O9
      exact absurd A0 B0
    · intro B0 B1 h' W z9 O9
      exact k h' 0 W z9 O9 (fun _ => rfl)
set_option maxHeartbeats 1000000 in
theorem md_message {m : Nat} {ad : Nat → Nat} {K : Nat} {X X' : Abs} {t : Int32} {w : Int32} {c a : Int32} (HM : WM h m ad X) (hG : GX K X) (hK : K ≤ 30000) (R : rl_message X t w c a X') (k : ∀ h' b, WM h' m ad X' → gi h' m 0 = c → Ow m h h' → (c = 0 → b = a) → Q (.inl (some (.int b))) h') : WPx E mX7_message 0 [some (.ref m), some (.int t), some (.int w)] [] (0, 0) h Q := by
  have n6 := hG.n6
  have o12 := hG.o12
  rcases R with ⟨i, j, A0, A1, A2, A3, rfl, rfl, rfl⟩ | ⟨A0, rfl, rfl, rfl⟩ | ⟨A0, A1, rfl, rfl, rfl⟩
  · refine sp_X7_message HM  ?_ ?_ ?_
    · intro i' j' B0 B1 B2 B3 h' W z9 O9
      obtain rfl := nIj (i := i) (j := i') (by omega) (by omega) (A1.symm.trans B1)
      obtain rfl := nIj (i := j) (j := j') (by omega) (by omega) (A3.symm.trans B3)
      exact k h' _ W z9 O9 (fun _ => rfl)
    · intro B0 h' W z9 O9
      exact absurd ⟨i, A0, A1⟩ B0
    · intro B0 B1 h' W z9 O9
      exact absurd (wq (b := 7) rfl (by decide) A2 A3) B1
  · refine sp_X7_message HM  ?_ ?_ ?_
    · intro i' j' B0 B1 B2 B3 h' W z9 O9
      exact absurd ⟨i', B0, B1⟩ A0
    · intro B0 h' W z9 O9
      exact k h' 0 W z9 O9 (fun _ => rfl)
    · intro B0 B1 h' W z9 O9
      exact absurd B0 A0
  · refine sp_X7_message HM  ?_ ?_ ?_
    · intro i' j' B0 B1 B2 B3 h' W z9 O9
      exact absurd (wq (b := 7) rfl (by decide) B2 B3) A1
    · intro B0 h' W z9 O9
      exact absurd A0 B0
    · intro B0 B1 h' W z9 O9
      exact k h' 0 W z9 O9 (fun _ => rfl)
set_option maxHeartbeats 1000000 in
theorem md_order {m : Nat} {ad : Nat → Nat} {K : Nat} {X X' : Abs} {t : Int32} {w : Int32} {c a : Int32} (HM : WM h m ad X) (hG : GX K X) (hK : K ≤ 30000) (R : rl_order X t w c a X') (k : ∀ h' b, WM h' m ad X' → gi h' m 0 = c → Ow m h h' → (c = 0 → b = a) → Q (.inl (some (.int b))) h') : WPx E mX7_order 0 [some (.ref m), some (.int t), some (.int w)] [] (0, 0) h Q := by
  have n6 := hG.n6
  have o12 := hG.o12
  rcases R with ⟨i, j, A0, A1, A2, A3, rfl, rfl, rfl⟩ | ⟨A0, rfl, rfl, rfl⟩ | ⟨A0, A1, rfl, rfl, rfl⟩
  · refine sp_X7_order HM  ?_ ?_ ?_
    · intro i' j' B0 B1 B2 B3 h' W z9 O9
      obtain rfl := nIj (i := i) (j := i') (by omega) (by omega) (A1.symm.trans B1)
      obtain rfl := nIj (i := j) (j := j') (by omega) (by omega) (A3.symm.trans B3)
      exact k h' _ W z9 O9 (fun _ => ord_eq (IV.ok hG.1) i j)
    · intro B0 h' W z9 O9
      exact absurd ⟨i, A0, A1⟩ B0
    · intro B0 B1 h' W z9 O9
      exact absurd (wq (b := 4) rfl (by decide) A2 A3) B1
  · refine sp_X7_order HM  ?_ ?_ ?_
    · intro i' j' B0 B1 B2 B3 h' W z9 O9
      exact absurd ⟨i', B0, B1⟩ A0
    · intro B0 h' W z9 O9
      exact k h' 0 W z9 O9 (fun _ => rfl)
    · intro B0 B1 h' W z9 O9
      exact absurd B0 A0
  · refine sp_X7_order HM  ?_ ?_ ?_
    · intro i' j' B0 B1 B2 B3 h' W z9 O9
      exact absurd (wq (b := 4) rfl (by decide) B2 B3) A1
    · intro B0 h' W z9 O9
      exact absurd A0 B0
    · intro B0 B1 h' W z9 O9
      exact k h' 0 W z9 O9 (fun _ => rfl)
set_option maxHeartbeats 1000000 in
theorem md_bid {m : Nat} {ad : Nat → Nat} {K : Nat} {X X' : Abs} {t : Int32} {p : Int32} {z : Int32} {c a : Int32} (HM : WM h m ad X) (hG : GX K X) (hK : K ≤ 30000) (R : rl_bid X t p z c a X') (k : ∀ h' b, WM h' m ad X' → gi h' m 0 = c → Ow m h h' → (c = 0 → b = a) → Q (.inl (some (.int b))) h') : WPx E mX7_bid 0 [some (.ref m), some (.int t), some (.int p), some (.int z)] [] (0, 0) h Q := by
  have n6 := hG.n6
  have o12 := hG.o12
  rcases R with ⟨i, A0, A1, A2, A3, A4, rfl, rfl, rfl⟩ | ⟨A0, rfl, rfl, rfl⟩ | ⟨A0, A1, rfl, rfl, rfl⟩ | ⟨i, A0, A1, A2, A3, A4, rfl, rfl, rfl⟩
  · refine sp_X7_bid HM  ?_ ?_ ?_ ?_
    · intro i' B0 B1 B2 B3 B4 h' W z9 O9
      obtain rfl := nIj (i := i) (j := i') (by omega) (by omega) (A1.symm.trans B1)
      exact k h' _ W z9 O9 (fun _ => rfl)
    · intro B0 h' W z9 O9
      exact absurd ⟨i, A0, A1⟩ B0
    · intro B0 B1 h' W z9 O9
      exact absurd ⟨A2, A3⟩ B1
    · intro i' B0 B1 B2 B3 B4 h' W z9 O9
      obtain rfl := nIj (i := i) (j := i') (by omega) (by omega) (A1.symm.trans B1)
      exact absurd A4 B4
  · refine sp_X7_bid HM  ?_ ?_ ?_ ?_
    · intro i' B0 B1 B2 B3 B4 h' W z9 O9
      exact absurd ⟨i', B0, B1⟩ A0
    · intro B0 h' W z9 O9
      exact k h' 0 W z9 O9 (fun _ => rfl)
    · intro B0 B1 h' W z9 O9
      exact absurd B0 A0
    · intro i' B0 B1 B2 B3 B4 h' W z9 O9
      exact absurd ⟨i', B0, B1⟩ A0
  · refine sp_X7_bid HM  ?_ ?_ ?_ ?_
    · intro i' B0 B1 B2 B3 B4 h' W z9 O9
      exact absurd ⟨B2, B3⟩ A1
    · intro B0 h' W z9 O9
      exact absurd A0 B0
    · intro B0 B1 h' W z9 O9
      exact k h' 0 W z9 O9 (fun _ => rfl)
    · intro i' B0 B1 B2 B3 B4 h' W z9 O9
      exact absurd ⟨B2, B3⟩ A1
  · refine sp_X7_bid HM  ?_ ?_ ?_ ?_
    · intro i' B0 B1 B2 B3 B4 h' W z9 O9
      obtain rfl := nIj (i := i) (j := i') (by omega) (by omega) (A1.symm.trans B1)
      exact absurd B4 A4
    · intro B0 h' W z9 O9
      exact absurd ⟨i, A0, A1⟩ B0
    · intro B0 B1 h' W z9 O9
      exact absurd ⟨A2, A3⟩ B1
    · intro i' B0 B1 B2 B3 B4 h' W z9 O9
      obtain rfl := nIj (i := i) (j := i') (by omega) (by omega) (A1.symm.trans B1)
      exact k h' 0 W z9 O9 (fun _ => rfl)
set_option maxHeartbeats 1000000 in
theorem md_ask {m : Nat} {ad : Nat → Nat} {K : Nat} {X X' : Abs} {t : Int32} {p : Int32} {z : Int32} {c a : Int32} (HM : WM h m ad X) (hG : GX K X) (hK : K ≤ 30000) (R : rl_ask X t p z c a X') (k : ∀ h' b, WM h' m ad X' → gi h' m 0 = c → Ow m h h' → (c = 0 → b = a) → Q (.inl (some (.int b))) h') : WPx E mX7_ask 0 [some (.ref m), some (.int t), some (.int p), some (.int z)] [] (0, 0) h Q := by
  have n6 := hG.n6
  have o12 := hG.o12
  rcases R with ⟨i, A0, A1, A2, A3, A4, rfl, rfl, rfl⟩ | ⟨A0, rfl, rfl, rfl⟩ | ⟨A0, A1, rfl, rfl, rfl⟩ | ⟨i, A0, A1, A2, A3, A4, rfl, rfl, rfl⟩
  · refine sp_X7_ask HM  ?_ ?_ ?_ ?_
    · intro i' B0 B1 B2 B3 B4 h' W z9 O9
      obtain rfl := nIj (i := i) (j := i') (by omega) (by omega) (A1.symm.trans B1)
      exact k h' _ W z9 O9 (fun _ => rfl)
    · intro B0 h' W z9 O9
      exact absurd ⟨i, A0, A1⟩ B0
    · intro B0 B1 h' W z9 O9
      exact absurd ⟨A2, A3⟩ B1
    · intro i' B0 B1 B2 B3 B4 h' W z9 O9
      obtain rfl := nIj (i := i) (j := i') (by omega) (by omega) (A1.symm.trans B1)
      exact absurd A4 B4
  · refine sp_X7_ask HM  ?_ ?_ ?_ ?_
    · intro i' B0 B1 B2 B3 B4 h' W z9 O9
      exact absurd ⟨i', B0, B1⟩ A0
    · intro B0 h' W z9 O9
      exact k h' 0 W z9 O9 (fun _ => rfl)
    · intro B0 B1 h' W z9 O9
      exact absurd B0 A0
    · intro i' B0 B1 B2 B3 B4 h' W z9 O9
      exact absurd ⟨i', B0, B1⟩ A0
  · refine sp_X7_ask HM  ?_ ?_ ?_ ?_
    · intro i' B0 B1 B2 B3 B4 h' W z9 O9
      exact absurd ⟨B2, B3⟩ A1
    · intro B0 h' W z9 O9
      exact absurd A0 B0
    · intro B0 B1 h' W z9 O9
      exact k h' 0 W z9 O9 (fun _ => rfl)
    · intro i' B0 B1 B2 B3 B4 h' W z9 O9
      exact absurd ⟨B2, B3⟩ A1
  · refine sp_X7_ask HM  ?_ ?_ ?_ ?_
    · intro i' B0 B1 B2 B3 B4 h' W z9 O9
      obtain rfl := nIj (i := i) (j := i') (by omega) (by omega) (A1.symm.trans B1)
      exact absurd B4 A4
    · intro B0 h' W z9 O9
      exact absurd ⟨i, A0, A1⟩ B0
    · intro B0 B1 h' W z9 O9
      exact absurd ⟨A2, A3⟩ B1
    · intro i' B0 B1 B2 B3 B4 h' W z9 O9
      obtain rfl := nIj (i := i) (j := i') (by omega) (by omega) (A1.symm.trans B1)
      exact k h' 0 W z9 O9 (fun _ => rfl)
set_option maxHeartbeats 1000000 in
theorem md_askShort {m : Nat} {ad : Nat → Nat} {K : Nat} {X X' : Abs} {t : Int32} {p : Int32} {z : Int32} {c a : Int32} (HM : WM h m ad X) (hG : GX K X) (hK : K ≤ 30000) (R : rl_askShort X t p z c a X') (k : ∀ h' b, WM h' m ad X' → gi h' m 0 = c → Ow m h h' → (c = 0 → b = a) → Q (.inl (some (.int b))) h') : WPx E mX7_askShort 0 [some (.ref m), some (.int t), some (.int p), some (.int z)] [] (0, 0) h Q := by
  have n6 := hG.n6
  have o12 := hG.o12
  rcases R with ⟨i, A0, A1, A2, A3, A4, rfl, rfl, rfl⟩ | ⟨A0, rfl, rfl, rfl⟩ | ⟨A0, A1, rfl, rfl, rfl⟩ | ⟨i, A0, A1, A2, A3, A4, rfl, rfl, rfl⟩
  · refine sp_X7_askShort HM  ?_ ?_ ?_ ?_
    · intro i' B0 B1 B2 B3 B4 h' W z9 O9
      obtain rfl := nIj (i := i) (j := i') (by omega) (by omega) (A1.symm.trans B1)
      exact k h' _ W z9 O9 (fun _ => rfl)
    · intro B0 h' W z9 O9
      exact absurd ⟨i, A0, A1⟩ B0
    · intro B0 B1 h' W z9 O9
      exact absurd ⟨A2, A3⟩ B1
    · intro i' B0 B1 B2 B3 B4 h' W z9 O9
      obtain rfl := nIj (i := i) (j := i') (by omega) (by omega) (A1.symm.trans B1)
      exact absurd A4 B4
  · refine sp_X7_askShort HM  ?_ ?_ ?_ ?_
    · intro i' B0 B1 B2 B3 B4 h' W z9 O9
      exact absurd ⟨i', B0, B1⟩ A0
    · intro B0 h' W z9 O9
      exact k h' 0 W z9 O9 (fun _ => rfl)
    · intro B0 B1 h' W z9 O9
      exact absurd B0 A0
    · intro i' B0 B1 B2 B3 B4 h' W z9 O9
      exact absurd ⟨i', B0, B1⟩ A0
  · refine sp_X7_askShort HM  ?_ ?_ ?_ ?_
    · intro i' B0 B1 B2 B3 B4 h' W z9 O9
      exact absurd ⟨B2, B3⟩ A1
    · intro B0 h' W z9 O9
      exact absurd A0 B0
    · intro B0 B1 h' W z9 O9
      exact k h' 0 W z9 O9 (fun _ => rfl)
    · intro i' B0 B1 B2 B3 B4 h' W z9 O9
      exact absurd ⟨B2, B3⟩ A1
  · refine sp_X7_askShort HM  ?_ ?_ ?_ ?_
    · intro i' B0 B1 B2 B3 B4 h' W z9 O9
      obtain rfl := nIj (i := i) (j := i') (by omega) (by omega) (A1.symm.trans B1)
      exact absurd B4 A4
    · intro B0 h' W z9 O9
      exact absurd ⟨i, A0, A1⟩ B0
    · intro B0 B1 h' W z9 O9
      exact absurd ⟨A2, A3⟩ B1
    · intro i' B0 B1 B2 B3 B4 h' W z9 O9
      obtain rfl := nIj (i := i) (j := i') (by omega) (by omega) (A1.symm.trans B1)
      exact k h' 0 W z9 O9 (fun _ => rfl)
set_option maxHeartbeats 1000000 in
theorem md_withdraw {m : Nat} {ad : Nat → Nat} {K : Nat} {X X' : Abs} {w : Int32} {c a : Int32} (HM : WM h m ad X) (hG : GX K X) (hK : K ≤ 30000) (R : rl_withdraw X w c a X') (k : ∀ h' b, WM h' m ad X' → gi h' m 0 = c → Ow m h h' → (c = 0 → b = a) → Q (.inl (some (.int b))) h') : WPx E mX7_withdraw 0 [some (.ref m), some (.int w), none] [] (0, 0) h Q := by
  have n6 := hG.n6
  have o12 := hG.o12
  rcases R with ⟨i, A0, A1, rfl, rfl, rfl⟩ | ⟨A0, rfl, rfl, rfl⟩
  · refine sp_X7_withdraw HM  ?_ ?_
    · intro i' B0 B1 h' W z9 O9
      obtain rfl := nIj (i := i) (j := i') (by omega) (by omega) (A1.symm.trans B1)
      rw [← wd_eq hG.1 A0] at W
      exact k h' _ W z9 O9 (fun _ => rfl)
    · intro B0 h' W z9 O9
      exact absurd ⟨i, A0, A1⟩ B0
  · refine sp_X7_withdraw HM  ?_ ?_
    · intro i' B0 B1 h' W z9 O9
      exact absurd ⟨i', B0, B1⟩ A0
    · intro B0 h' W z9 O9
      exact k h' 0 W z9 O9 (fun _ => rfl)
set_option maxHeartbeats 1000000 in
theorem md_push {m : Nat} {ad : Nat → Nat} {K : Nat} {X X' : Abs} {t : Int32} {z : Int32} {c a : Int32} (HM : WM h m ad X) (hG : GX K X) (hK : K ≤ 30000) (R : rl_push X t z c a X') (k : ∀ h' b, WM h' m ad X' → gi h' m 0 = c → Ow m h h' → (c = 0 → b = a) → Q (.inl (some (.int b))) h') : WPx E mX7_push 0 [some (.ref m), some (.int t), some (.int z)] [] (0, 0) h Q := by
  have n6 := hG.n6
  have o12 := hG.o12
  rcases R with ⟨i, A0, A1, A2, A3, rfl, rfl, rfl⟩ | ⟨A0, rfl, rfl, rfl⟩ | ⟨A0, A1, rfl, rfl, rfl⟩ | ⟨i, A0, A1, A2, A3, rfl, rfl, rfl⟩
  · refine sp_X7_push HM  ?_ ?_ ?_ ?_
    · intro i' B0 B1 B2 B3 h' W z9 O9
      obtain rfl := nIj (i := i) (j := i') (by omega) (by omega) (A1.symm.trans B1)
      exact k h' _ W z9 O9 (fun _ => rfl)
    · intro B0 h' W z9 O9
      exact absurd ⟨i, A0, A1⟩ B0
    · intro B0 B1 h' W z9 O9
      exact absurd A2 B1
    · intro i' B0 B1 B2 B3 h' W z9 O9
      obtain rfl := nIj (i := i) (j := i') (by omega) (by omega) (A1.symm.trans B1)
      exact absurd A3 B3
  · refine sp_X7_push HM  ?_ ?_ ?_ ?_
    · intro i' B0 B1 B2 B3 h' W z9 O9
      exact absurd ⟨i', B0, B1⟩ A0
    · intro B0 h' W z9 O9
      exact k h' 0 W z9 O9 (fun _ => rfl)
    · intro B0 B1 h' W z9 O9
      exact absurd B0 A0
    · intro i' B0 B1 B2 B3 h' W z9 O9
      exact absurd ⟨i', B0, B1⟩ A0
  · refine sp_X7_push HM  ?_ ?_ ?_ ?_
    · intro i' B0 B1 B2 B3 h' W z9 O9
      exact absurd B2 A1
    · intro B0 h' W z9 O9
      exact absurd A0 B0
    · intro B0 B1 h' W z9 O9
      exact k h' 0 W z9 O9 (fun _ => rfl)
    · intro i' B0 B1 B2 B3 h' W z9 O9
      exact absurd B2 A1
  · refine sp_X7_push HM  ?_ ?_ ?_ ?_
    · intro i' B0 B1 B2 B3 h' W z9 O9
      obtain rfl := nIj (i := i) (j := i') (by omega) (by omega) (A1.symm.trans B1)
      exact absurd B3 A3
    · intro B0 h' W z9 O9
      exact absurd ⟨i, A0, A1⟩ B0
    · intro B0 B1 h' W z9 O9
      exact absurd A2 B1
    · intro i' B0 B1 B2 B3 h' W z9 O9
      obtain rfl := nIj (i := i) (j := i') (by omega) (by omega) (A1.symm.trans B1)
      exact k h' 0 W z9 O9 (fun _ => rfl)
set_option maxHeartbeats 1000000 in
theorem md_deposit {m : Nat} {ad : Nat → Nat} {K : Nat} {X X' : Abs} {t : Int32} {z : Int32} {c a : Int32} (HM : WM h m ad X) (hG : GX K X) (hK : K ≤ 30000) (R : rl_deposit X t z c a X') (k : ∀ h' b, WM h' m ad X' → gi h' m 0 = c → Ow m h h' → (c = 0 → b = a) → Q (.inl (some (.int b))) h') : WPx E mX7_deposit 0 [some (.ref m), some (.int t), some (.int z)] [] (0, 0) h Q := by
  have n6 := hG.n6
  have o12 := hG.o12
  rcases R with ⟨i, A0, A1, A2, A3, rfl, rfl, rfl⟩ | ⟨A0, rfl, rfl, rfl⟩ | ⟨A0, A1, rfl, rfl, rfl⟩ | ⟨i, A0, A1, A2, A3, rfl, rfl, rfl⟩
  · refine sp_X7_deposit HM  ?_ ?_ ?_ ?_
    · intro i' B0 B1 B2 B3 h' W z9 O9
      obtain rfl := nIj (i := i) (j := i') (by omega) (by omega) (A1.symm.trans B1)
      exact k h' _ W z9 O9 (fun _ => rfl)
    · intro B0 h' W z9 O9
      exact absurd ⟨i, A0, A1⟩ B0
    · intro B0 B1 h' W z9 O9
      exact absurd A2 B1
    · intro i' B0 B1 B2 B3 h' W z9 O9
      obtain rfl := nIj (i := i) (j := i') (by omega) (by omega) (A1.symm.trans B1)
      exact absurd A3 B3
  · refine sp_X7_deposit HM  ?_ ?_ ?_ ?_
    · intro i' B0 B1 B2 B3 h' W z9 O9
      exact absurd ⟨i', B0, B1⟩ A0
    · intro B0 h' W z9 O9
      exact k h' 0 W z9 O9 (fun _ => rfl)
    · intro B0 B1 h' W z9 O9
      exact absurd B0 A0
    · intro i' B0 B1 B2 B3 h' W z9 O9
      exact absurd ⟨i', B0, B1⟩ A0
  · refine sp_X7_deposit HM  ?_ ?_ ?_ ?_
    · intro i' B0 B1 B2 B3 h' W z9 O9
      exact absurd B2 A1
    · intro B0 h' W z9 O9
      exact absurd A0 B0
    · intro B0 B1 h' W z9 O9
      exact k h' 0 W z9 O9 (fun _ => rfl)
    · intro i' B0 B1 B2 B3 h' W z9 O9
      exact absurd B2 A1
  · refine sp_X7_deposit HM  ?_ ?_ ?_ ?_
    · intro i' B0 B1 B2 B3 h' W z9 O9
      obtain rfl := nIj (i := i) (j := i') (by omega) (by omega) (A1.symm.trans B1)
      exact absurd B3 A3
    · intro B0 h' W z9 O9
      exact absurd ⟨i, A0, A1⟩ B0
    · intro B0 B1 h' W z9 O9
      exact absurd A2 B1
    · intro i' B0 B1 B2 B3 h' W z9 O9
      obtain rfl := nIj (i := i) (j := i') (by omega) (by omega) (A1.symm.trans B1)
      exact k h' 0 W z9 O9 (fun _ => rfl)
set_option maxHeartbeats 1000000 in
theorem md_tick {m : Nat} {ad : Nat → Nat} {K : Nat} {X X' : Abs} {w : Int32} {c a : Int32} (HM : WM h m ad X) (hG : GX K X) (hK : K ≤ 30000) (R : rl_tick X w c a X') (k : ∀ h' b, WM h' m ad X' → gi h' m 0 = c → Ow m h h' → (c = 0 → b = a) → Q (.inl (some (.int b))) h') : WPx E mX7_tick 0 [some (.ref m), some (.int w)] [] (0, 0) h Q := by
  have n6 := hG.n6
  have o12 := hG.o12
  rcases R with ⟨n, A0, A1, A2, rfl, rfl, rfl⟩ | ⟨A0, rfl, rfl, rfl⟩
  · refine sp_X7_tick HM (hG.1.okV9 (n := 50) (by omega)).1 (by have := IW.ti (A := xA X) hG.1; omega) (hG.1.okV9 (n := 50) (by omega)).2.2 ?_ ?_
    · intro n' B0 B1 B2 h' W z9 O9
      obtain rfl := nIj (i := n) (j := n') (by omega) (by omega) (A2.symm.trans B2)
      rw [(tks_ok hG.1 n (by omega)).1] at W
      exact k h' _ W z9 O9 (fun _ => by rw [(tks_ok hG.1 n (by omega)).1])
    · intro B0 h' W z9 O9
      exact absurd (wq1 (b := 50) rfl (by decide) A0 A1 A2) B0
  · refine sp_X7_tick HM (hG.1.okV9 (n := 50) (by omega)).1 (by have := IW.ti (A := xA X) hG.1; omega) (hG.1.okV9 (n := 50) (by omega)).2.2 ?_ ?_
    · intro n' B0 B1 B2 h' W z9 O9
      exact absurd (wq1 (b := 50) rfl (by decide) B0 B1 B2) A0
    · intro B0 h' W z9 O9
      exact k h' 0 W z9 O9 (fun _ => rfl)
set_option maxHeartbeats 1000000 in
theorem md_setRate {m : Nat} {ad : Nat → Nat} {K : Nat} {X X' : Abs} {t : Int32} {z : Int32} {c a : Int32} (HM : WM h m ad X) (hG : GX K X) (hK : K ≤ 30000) (R : rl_setRate X t z c a X') (k : ∀ h' b, WM h' m ad X' → gi h' m 0 = c → Ow m h h' → (c = 0 → b = a) → Q (.inl (some (.int b))) h') : WPx E mX7_setRate 0 [some (.ref m), some (.int t), some (.int z), none] [] (0, 0) h Q := by
  have n6 := hG.n6
  have o12 := hG.o12
  rcases R with ⟨i, A0, A1, A2, rfl, rfl, rfl⟩ | ⟨A0, rfl, rfl, rfl⟩ | ⟨A0, A1, rfl, rfl, rfl⟩
  · refine sp_X7_setRate HM  ?_ ?_ ?_
    · intro i' B0 B1 B2 h' W z9 O9
      obtain rfl := nIj (i := i) (j := i') (by omega) (by omega) (A1.symm.trans B1)
      exact k h' _ W z9 O9 (fun _ => rfl)
    · intro B0 h' W z9 O9
      exact absurd ⟨i, A0, A1⟩ B0
    · intro B0 B1 h' W z9 O9
      exact absurd A2 B1
  · refine sp_X7_setRate HM  ?_ ?_ ?_
    · intro i' B0 B1 B2 h' W z9 O9
      exact absurd ⟨i', B0, B1⟩ A0
    · intro B0 h' W z9 O9
      exact k h' 0 W z9 O9 (fun _ => rfl)
    · intro B0 B1 h' W z9 O9
      exact absurd B0 A0
  · refine sp_X7_setRate HM  ?_ ?_ ?_
    · intro i' B0 B1 B2 h' W z9 O9
      exact absurd B2 A1
    · intro B0 h' W z9 O9
      exact absurd A0 B0
    · intro B0 B1 h' W z9 O9
      exact k h' 0 W z9 O9 (fun _ => rfl)
set_option maxHeartbeats 1000000 in
theorem md_setWidth {m : Nat} {ad : Nat → Nat} {K : Nat} {X X' : Abs} {z : Int32} {c a : Int32} (HM : WM h m ad X) (hG : GX K X) (hK : K ≤ 30000) (R : rl_setWidth X z c a X') (k : ∀ h' b, WM h' m ad X' → gi h' m 0 = c → Ow m h h' → (c = 0 → b = a) → Q (.inl (some (.int b))) h') : WPx E mX7_setWidth 0 [some (.ref m), some (.int z), none] [] (0, 0) h Q := by
  have n6 := hG.n6
  have o12 := hG.o12
  rcases R with ⟨A0, rfl, rfl, rfl⟩ | ⟨A0, rfl, rfl, rfl⟩
  · refine sp_X7_setWidth HM  ?_ ?_
    · intro B0 h' W z9 O9
      exact k h' _ W z9 O9 (fun _ => rfl)
    · intro B0 h' W z9 O9
      exact absurd A0 B0
  · refine sp_X7_setWidth HM  ?_ ?_
    · intro B0 h' W z9 O9
      exact absurd B0 A0
    · intro B0 h' W z9 O9
      exact k h' 0 W z9 O9 (fun _ => rfl)
set_option maxHeartbeats 1000000 in
theorem md_undo {m : Nat} {ad : Nat → Nat} {K : Nat} {X X' : Abs}  {c a : Int32} (HM : WM h m ad X) (hG : GX K X) (hK : K ≤ 30000) (R : rl_undo X  c a X') (k : ∀ h' b, WM h' m ad X' → gi h' m 0 = c → Ow m h h' → (c = 0 → b = a) → Q (.inl (some (.int b))) h') : WPx E mX7_undo 0 [some (.ref m)] [] (0, 0) h Q := by
  have n6 := hG.n6
  have o12 := hG.o12
  rcases R with ⟨B, hs, A0, rfl, rfl, rfl⟩ | ⟨A0, rfl, rfl, rfl⟩
  · refine sp_X7_undo HM  ?_ ?_
    · intro B' hs' B0 h' W z9 O9
      obtain ⟨rfl, rfl⟩ := List.cons.inj (A0.symm.trans B0)
      exact k h' _ W z9 O9 (fun _ => rfl)
    · intro B0 h' W z9 O9
      exact absurd (A0.symm.trans B0) (by simp)
  · refine sp_X7_undo HM  ?_ ?_
    · intro B' hs' B0 h' W z9 O9
      exact absurd (A0.symm.trans B0) (by simp)
    · intro B0 h' W z9 O9
      exact k h' 0 W z9 O9 (fun _ => rfl)
set_option maxHeartbeats 1000000 in
theorem md_demand {m : Nat} {ad : Nat → Nat} {K : Nat} {X X' : Abs} {w : Int32} {c a : Int32} (HM : WM h m ad X) (hG : GX K X) (hK : K ≤ 30000) (R : rl_demand X w c a X') (k : ∀ h' b, WM h' m ad X' → gi h' m 0 = c → Ow m h h' → (c = 0 → b = a) → Q (.inl (some (.int b))) h') : WPx E mX7_demand 0 [some (.ref m), some (.int w)] [] (0, 0) h Q := by
  have n6 := hG.n6
  have o12 := hG.o12
  rcases R with ⟨A0, rfl, rfl, rfl⟩ | ⟨A0, rfl, rfl, rfl⟩
  · refine sp_X7_demand HM  ?_ ?_
    · intro B0 h' W z9 O9
      exact k h' _ W z9 O9 (fun _ => rfl)
    · intro B0 h' W z9 O9
      exact absurd A0 B0
  · refine sp_X7_demand HM  ?_ ?_
    · intro B0 h' W z9 O9
      exact absurd B0 A0
    · intro B0 h' W z9 O9
      exact k h' 0 W z9 O9 (fun _ => rfl)
set_option maxHeartbeats 1000000 in
theorem md_supply {m : Nat} {ad : Nat → Nat} {K : Nat} {X X' : Abs} {w : Int32} {c a : Int32} (HM : WM h m ad X) (hG : GX K X) (hK : K ≤ 30000) (R : rl_supply X w c a X') (k : ∀ h' b, WM h' m ad X' → gi h' m 0 = c → Ow m h h' → (c = 0 → b = a) → Q (.inl (some (.int b))) h') : WPx E mX7_supply 0 [some (.ref m), some (.int w)] [] (0, 0) h Q := by
  have n6 := hG.n6
  have o12 := hG.o12
  rcases R with ⟨A0, rfl, rfl, rfl⟩ | ⟨A0, rfl, rfl, rfl⟩
  · refine sp_X7_supply HM  ?_ ?_
    · intro B0 h' W z9 O9
      exact k h' _ W z9 O9 (fun _ => rfl)
    · intro B0 h' W z9 O9
      exact absurd A0 B0
  · refine sp_X7_supply HM  ?_ ?_
    · intro B0 h' W z9 O9
      exact absurd B0 A0
    · intro B0 h' W z9 O9
      exact k h' 0 W z9 O9 (fun _ => rfl)
set_option maxHeartbeats 1000000 in
theorem md_auction {m : Nat} {ad : Nat → Nat} {K : Nat} {X X' : Abs} {w : Int32} {c a : Int32} (HM : WM h m ad X) (hG : GX K X) (hK : K ≤ 30000) (R : rl_auction X w c a X') (k : ∀ h' b, WM h' m ad X' → gi h' m 0 = c → Ow m h h' → (c = 0 → b = a) → Q (.inl (some (.int b))) h') : WPx E mX7_auction 0 [some (.ref m), some (.int w)] [] (0, 0) h Q := by
  have n6 := hG.n6
  have o12 := hG.o12
  rcases R with ⟨j, A0, A1, rfl, rfl, rfl⟩ | ⟨A0, rfl, rfl, rfl⟩
  · refine sp_X7_auction HM  ?_ ?_
    · intro j' B0 B1 h' W z9 O9
      obtain rfl := nIj (i := j) (j := j') (by omega) (by omega) (A1.symm.trans B1)
      exact k h' _ W z9 O9 (fun _ => auc_eq (IV.ok hG.1) j)
    · intro B0 h' W z9 O9
      exact absurd (wq (b := 3) rfl (by decide) A0 A1) B0
  · refine sp_X7_auction HM  ?_ ?_
    · intro j' B0 B1 h' W z9 O9
      exact absurd (wq (b := 3) rfl (by decide) B0 B1) A0
    · intro B0 h' W z9 O9
      exact k h' 0 W z9 O9 (fun _ => rfl)
set_option maxHeartbeats 1000000 in
theorem md_volumeIf {m : Nat} {ad : Nat → Nat} {K : Nat} {X X' : Abs} {t : Int32} {y : Int32} {p : Int32} {z : Int32} {c a : Int32} (HM : WM h m ad X) (hG : GX K X) (hK : K ≤ 30000) (R : rl_volumeIf X t y p z c a X') (k : ∀ h' b, WM h' m ad X' → gi h' m 0 = c → Ow m h h' → (c = 0 → b = a) → Q (.inl (some (.int b))) h') : WPx E mX7_volumeIf 0 [some (.ref m), some (.int t), some (.int y), some (.int p), some (.int z), none] [] (0, 0) h Q := by
  have n6 := hG.n6
  have o12 := hG.o12
  rcases R with ⟨j, A0, A1, A2, A3, A4, rfl, rfl, rfl⟩ | ⟨A0, rfl, rfl, rfl⟩ | ⟨A0, A1, rfl, rfl, rfl⟩
  · refine sp_X7_volumeIf HM  ?_ ?_ ?_
    · intro j' B0 B1 B2 B3 B4 h' W z9 O9
      obtain rfl := nIj (i := j) (j := j') (by omega) (by omega) (A2.symm.trans B2)
      exact k h' _ W z9 O9 (fun _ => vol_eq (IV.ok hG.1) (IW.n6 (A := xA X) hG.1).1 (by omega) A3 A4)
    · intro B0 h' W z9 O9
      exact absurd A0 B0
    · intro B0 B1 h' W z9 O9
      exact absurd ⟨(wq (b := 2) rfl (by decide) A1 A2), A3, A4⟩ B1
  · refine sp_X7_volumeIf HM  ?_ ?_ ?_
    · intro j' B0 B1 B2 B3 B4 h' W z9 O9
      exact absurd B0 A0
    · intro B0 h' W z9 O9
      exact k h' 0 W z9 O9 (fun _ => rfl)
    · intro B0 B1 h' W z9 O9
      exact absurd B0 A0
  · refine sp_X7_volumeIf HM  ?_ ?_ ?_
    · intro j' B0 B1 B2 B3 B4 h' W z9 O9
      exact absurd ⟨(wq (b := 2) rfl (by decide) B1 B2), B3, B4⟩ A1
    · intro B0 h' W z9 O9
      exact absurd A0 B0
    · intro B0 B1 h' W z9 O9
      exact k h' 0 W z9 O9 (fun _ => rfl)
set_option maxHeartbeats 1000000 in
theorem md_priceFor {m : Nat} {ad : Nat → Nat} {K : Nat} {X X' : Abs} {z : Int32} {c a : Int32} (HM : WM h m ad X) (hG : GX K X) (hK : K ≤ 30000) (R : rl_priceFor X z c a X') (k : ∀ h' b, WM h' m ad X' → gi h' m 0 = c → Ow m h h' → (c = 0 → b = a) → Q (.inl (some (.int b))) h') : WPx E mX7_priceFor 0 [some (.ref m), some (.int z), none] [] (0, 0) h Q := by
  have n6 := hG.n6
  have o12 := hG.o12
  rcases R with ⟨A0, rfl, rfl, rfl⟩ | ⟨A0, rfl, rfl, rfl⟩
  · refine sp_X7_priceFor HM  ?_ ?_
    · intro B0 h' W z9 O9
      exact k h' _ W z9 O9 (fun _ => pf_eq (IV.ok hG.1) (IW.n6 (A := xA X) hG.1).1 A0 99 1 (by decide) (by decide))
    · intro B0 h' W z9 O9
      exact absurd A0 B0
  · refine sp_X7_priceFor HM  ?_ ?_
    · intro B0 h' W z9 O9
      exact absurd B0 A0
    · intro B0 h' W z9 O9
      exact k h' 0 W z9 O9 (fun _ => rfl)
set_option maxHeartbeats 1000000 in
theorem md_share {m : Nat} {ad : Nat → Nat} {K : Nat} {X X' : Abs} {w : Int32} {v : Int32} {c a : Int32} (HM : WM h m ad X) (hG : GX K X) (hK : K ≤ 30000) (R : rl_share X w v c a X') (k : ∀ h' b, WM h' m ad X' → gi h' m 0 = c → Ow m h h' → (c = 0 → b = a) → Q (.inl (some (.int b))) h') : WPx E mX7_share 0 [some (.ref m), some (.int w), some (.int v), none, none, none, none] [] (0, 0) h Q := by
  have n6 := hG.n6
  have o12 := hG.o12
  rcases R with ⟨t, A0, A1, rfl, rfl, rfl⟩ | ⟨A0, rfl, rfl, rfl⟩
  · refine sp_X7_share HM (fun t ht => (sha_eq (v := v) hG.1 ht).2) ?_ ?_
    · intro t' B0 B1 h' W z9 O9
      obtain rfl := nIj (i := t) (j := t') (by omega) (by omega) (A1.symm.trans B1)
      exact k h' _ W z9 O9 (fun _ => (sha_eq hG.1 A0).1)
    · intro B0 h' W z9 O9
      exact absurd ⟨t, A0, A1⟩ B0
  · refine sp_X7_share HM (fun t ht => (sha_eq (v := v) hG.1 ht).2) ?_ ?_
    · intro t' B0 B1 h' W z9 O9
      exact absurd ⟨t', B0, B1⟩ A0
    · intro B0 h' W z9 O9
      exact k h' 0 W z9 O9 (fun _ => rfl)
set_option maxHeartbeats 1000000 in
theorem md_ahead {m : Nat} {ad : Nat → Nat} {K : Nat} {X X' : Abs} {y : Int32} {t : Int32} {w : Int32} {c a : Int32} (HM : WM h m ad X) (hG : GX K X) (hK : K ≤ 30000) (R : rl_ahead X y t w c a X') (k : ∀ h' b, WM h' m ad X' → gi h' m 0 = c → Ow m h h' → (c = 0 → b = a) → Q (.inl (some (.int b))) h') : WPx E mX7_ahead 0 [some (.ref m), some (.int y), some (.int t), some (.int w)] [] (0, 0) h Q := by
  have n6 := hG.n6
  have o12 := hG.o12
  rcases R with ⟨n, i, j, A0, A1, A2, A3, A4, A5, rfl, rfl, rfl⟩ | ⟨A0, rfl, rfl, rfl⟩ | ⟨A0, A1, rfl, rfl, rfl⟩
  · refine sp_X7_ahead HM (hG.1.okV9 (n := 99) (by omega)).1 (by have := IW.ti (A := xA X) hG.1; omega) (hG.1.okV9 (n := 99) (by omega)).2.2 ?_ ?_ ?_
    · intro n' i' j' B0 B1 B2 B3 B4 B5 h' W z9 O9
      obtain rfl := nIj (i := n) (j := n') (by omega) (by omega) (A1.symm.trans B1)
      obtain rfl := nIj (i := i) (j := i') (by omega) (by omega) (A3.symm.trans B3)
      obtain rfl := nIj (i := j) (j := j') (by omega) (by omega) (A5.symm.trans B5)
      exact k h' _ W z9 O9 (fun _ => ahd_eq hG.1 (by omega) A2)
    · intro B0 h' W z9 O9
      exact absurd ⟨i, A2, A3⟩ B0
    · intro B0 B1 h' W z9 O9
      exact absurd ⟨(wq (b := 99) rfl (by decide) A0 A1), (wq (b := 11) rfl (by decide) A4 A5)⟩ B1
  · refine sp_X7_ahead HM (hG.1.okV9 (n := 99) (by omega)).1 (by have := IW.ti (A := xA X) hG.1; omega) (hG.1.okV9 (n := 99) (by omega)).2.2 ?_ ?_ ?_
    · intro n' i' j' B0 B1 B2 B3 B4 B5 h' W z9 O9
      exact absurd ⟨i', B2, B3⟩ A0
    · intro B0 h' W z9 O9
      exact k h' 0 W z9 O9 (fun _ => rfl)
    · intro B0 B1 h' W z9 O9
      exact absurd B0 A0
  · refine sp_X7_ahead HM (hG.1.okV9 (n := 99) (by omega)).1 (by have := IW.ti (A := xA X) hG.1; omega) (hG.1.okV9 (n := 99) (by omega)).2.2 ?_ ?_ ?_
    · intro n' i' j' B0 B1 B2 B3 B4 B5 h' W z9 O9
      exact absurd ⟨(wq (b := 99) rfl (by decide) B0 B1), (wq (b := 11) rfl (by decide) B4 B5)⟩ A1
    · intro B0 h' W z9 O9
      exact absurd A0 B0
    · intro B0 B1 h' W z9 O9
      exact k h' 0 W z9 O9 (fun _ => rfl)
set_option maxHeartbeats 1000000 in
theorem md_sentAfter {m : Nat} {ad : Nat → Nat} {K : Nat} {X X' : Abs} {t : Int32} {w : Int32} {c a : Int32} (HM : WM h m ad X) (hG : GX K X) (hK : K ≤ 30000) (R : rl_sentAfter X t w c a X') (k : ∀ h' b, WM h' m ad X' → gi h' m 0 = c → Ow m h h' → (c = 0 → b = a) → Q (.inl (some (.int b))) h') : WPx E mX7_sentAfter 0 [some (.ref m), some (.int t), some (.int w), none, none] [] (0, 0) h Q := by
  have n6 := hG.n6
  have o12 := hG.o12
  rcases R with ⟨i, j, A0, A1, A2, A3, rfl, rfl, rfl⟩ | ⟨A0, rfl, rfl, rfl⟩ | ⟨A0, A1, rfl, rfl, rfl⟩
  · refine sp_X7_sentAfter HM (hG.1.okV9 (n := 99) (by omega)).1 (by have := IW.ti (A := xA X) hG.1; omega) (hG.1.okV9 (n := 99) (by omega)).2.2 ?_ ?_ ?_
    · intro i' j' B0 B1 B2 B3 h' W z9 O9
      obtain rfl := nIj (i := i) (j := i') (by omega) (by omega) (A1.symm.trans B1)
      obtain rfl := nIj (i := j) (j := j') (by omega) (by omega) (A3.symm.trans B3)
      exact k h' _ W z9 O9 (fun _ => snt_eq hG.1 (by omega))
    · intro B0 h' W z9 O9
      exact absurd ⟨i, A0, A1⟩ B0
    · intro B0 B1 h' W z9 O9
      exact absurd (wq (b := 7) rfl (by decide) A2 A3) B1
  · refine sp_X7_sentAfter HM (hG.1.okV9 (n := 99) (by omega)).1 (by have := IW.ti (A := xA X) hG.1; omega) (hG.1.okV9 (n := 99) (by omega)).2.2 ?_ ?_ ?_
    · intro i' j' B0 B1 B2 B3 h' W z9 O9
      exact absurd ⟨i', B0, B1⟩ A0
    · intro B0 h' W z9 O9
      exact k h' 0 W z9 O9 (fun _ => rfl)
    · intro B0 B1 h' W z9 O9
      exact absurd B0 A0
  · refine sp_X7_sentAfter HM (hG.1.okV9 (n := 99) (by omega)).1 (by have := IW.ti (A := xA X) hG.1; omega) (hG.1.okV9 (n := 99) (by omega)).2.2 ?_ ?_ ?_
    · intro i' j' B0 B1 B2 B3 h' W z9 O9
      exact absurd (wq (b := 7) rfl (by decide) B2 B3) A1
    · intro B0 h' W z9 O9
      exact absurd A0 B0
    · intro B0 B1 h' W z9 O9
      exact k h' 0 W z9 O9 (fun _ => rfl)
set_option maxHeartbeats 1000000 in
theorem md_unused {m : Nat} {ad : Nat → Nat} {K : Nat} {X X' : Abs} {w : Int32} {c a : Int32} (HM : WM h m ad X) (hG : GX K X) (hK : K ≤ 30000) (R : rl_unused X w c a X') (k : ∀ h' b, WM h' m ad X' → gi h' m 0 = c → Ow m h h' → (c = 0 → b = a) → Q (.inl (some (.int b))) h') : WPx E mX7_unused 0 [some (.ref m), some (.int w)] [] (0, 0) h Q := by
  have n6 := hG.n6
  have o12 := hG.o12
  rcases R with ⟨n, A0, A1, A2, rfl, rfl, rfl⟩ | ⟨A0, rfl, rfl, rfl⟩
  · refine sp_X7_unused HM (hG.1.okV9 (n := 99) (by omega)).1 (by have := IW.ti (A := xA X) hG.1; omega) (hG.1.okV9 (n := 99) (by omega)).2.2 ?_ ?_
    · intro n' B0 B1 B2 h' W z9 O9
      obtain rfl := nIj (i := n) (j := n') (by omega) (by omega) (A2.symm.trans B2)
      exact k h' _ W z9 O9 (fun _ => by rw [(tks_ok hG.1 n (by omega)).1])
    · intro B0 h' W z9 O9
      exact absurd (wq1 (b := 99) rfl (by decide) A0 A1 A2) B0
  · refine sp_X7_unused HM (hG.1.okV9 (n := 99) (by omega)).1 (by have := IW.ti (A := xA X) hG.1; omega) (hG.1.okV9 (n := 99) (by omega)).2.2 ?_ ?_
    · intro n' B0 B1 B2 h' W z9 O9
      exact absurd (wq1 (b := 99) rfl (by decide) B0 B1 B2) A0
    · intro B0 h' W z9 O9
      exact k h' 0 W z9 O9 (fun _ => rfl)
set_option maxHeartbeats 1000000 in
theorem md_wealthiest {m : Nat} {ad : Nat → Nat} {K : Nat} {X X' : Abs} {w : Int32} {c a : Int32} (HM : WM h m ad X) (hG : GX K X) (hK : K ≤ 30000) (R : rl_wealthiest X w c a X') (k : ∀ h' b, WM h' m ad X' → gi h' m 0 = c → Ow m h h' → (c = 0 → b = a) → Q (.inl (some (.int b))) h') : WPx E mX7_wealthiest 0 [some (.ref m), some (.int w), none, none, none, none] [] (0, 0) h Q := by
  have n6 := hG.n6
  have o12 := hG.o12
  rcases R with ⟨i, A0, A1, rfl, rfl, rfl⟩ | ⟨A0, rfl, rfl, rfl⟩
  · refine sp_X7_wealthiest HM  ?_ ?_
    · intro i' B0 B1 h' W z9 O9
      obtain rfl := nIj (i := i) (j := i') (by omega) (by omega) (A1.symm.trans B1)
      exact k h' _ W z9 O9 (fun _ => ws_eq hG.1 hK A0)
    · intro B0 h' W z9 O9
      exact absurd ⟨i, A0, A1⟩ B0
  · refine sp_X7_wealthiest HM  ?_ ?_
    · intro i' B0 B1 h' W z9 O9
      exact absurd ⟨i', B0, B1⟩ A0
    · intro B0 h' W z9 O9
      exact k h' 0 W z9 O9 (fun _ => rfl)
set_option maxHeartbeats 1000000 in
theorem md_runScript {m : Nat} {ad : Nat → Nat} {K : Nat} {X X' : Abs} {w : Int32} {s : Int64} {c a : Int32} (HM : WM h m ad X) (hG : GX K X) (hK : K ≤ 30000) (R : rl_runScript X w s c a X') (k : ∀ h' b, WM h' m ad X' → gi h' m 0 = c → Ow m h h' → (c = 0 → b = a) → Q (.inl (some (.int b))) h') : WPx E mX7_runScript 0 [some (.ref m), some (.int w), some (.long s), none, none] [] (0, 0) h Q := by
  have n6 := hG.n6
  have o12 := hG.o12
  rcases R with ⟨n, A0, A1, A2, A3, A4, rfl, rfl, rfl⟩ | ⟨A0, rfl, rfl, rfl⟩
  · refine sp_X7_runScript (P := fun i B => P9 (150 - 50 * i) B) HM ⟨K, by omega, hG.1⟩ (fun n hn i B hi hB => rs_hP hn hi hB) ?_ ?_
    · intro n' B0 B1 B2 B3 B4 h' W z9 O9
      obtain rfl := nIj (i := n) (j := n') (by omega) (by omega) (A2.symm.trans B2)
      exact k h' _ W z9 O9 (fun _ => rs_eq n 0 150 (xA X) ⟨K, by omega, hG.1⟩ (by omega))
    · intro B0 h' W z9 O9
      exact (B0.elim (fun q => q (wq1 (b := 3) rfl (by decide) A0 A1 A2)) (fun q => q n A2 A1 ⟨A3, A4⟩) : False).elim
  · refine sp_X7_runScript (P := fun i B => P9 (150 - 50 * i) B) HM ⟨K, by omega, hG.1⟩ (fun n hn i B hi hB => rs_hP hn hi hB) ?_ ?_
    · intro n' B0 B1 B2 B3 B4 h' W z9 O9
      exact (A0.elim (fun q => q (wq1 (b := 3) rfl (by decide) B0 B1 B2)) (fun q => q n' B2 B1 ⟨B3, B4⟩) : False).elim
    · intro B0 h' W z9 O9
      exact k h' 0 W z9 O9 (fun _ => rfl)
set_option maxHeartbeats 1000000 in
theorem md_simulate {m : Nat} {ad : Nat → Nat} {K : Nat} {X X' : Abs} {s : Int64} {w : Int32} {c a : Int32} (HM : WM h m ad X) (hG : GX K X) (hK : K ≤ 30000) (R : rl_simulate X s w c a X') (k : ∀ h' b, WM h' m ad X' → gi h' m 0 = c → Ow m h h' → (c = 0 → b = a) → Q (.inl (some (.int b))) h') : WPx E mX7_simulate 0 [some (.ref m), some (.long s), none, some (.int w), none, none, none, none, none, none, none, none, none, none] [] (0, 0) h Q := by
  have n6 := hG.n6
  have o12 := hG.o12
  rcases R with ⟨n, A0, A1, A2, rfl, rfl, rfl⟩ | ⟨A0, rfl, rfl, rfl⟩
  · refine sp_X7_simulate (P := fun i B => P9 (120 - 2 * i) B) HM ⟨K, by omega, hG.1⟩ (fun i B r hi hB => sm_hP hi hB) ?_ ?_
    · intro n' B0 B1 B2 h' W z9 O9
      obtain rfl := nIj (i := n) (j := n') (by omega) (by omega) (A2.symm.trans B2)
      exact k h' _ W z9 O9 (fun _ => by rw [(sm_eq ⟨K, by omega, hG.1⟩ n A1).1])
    · intro B0 h' W z9 O9
      exact absurd (wq1 (b := 60) rfl (by decide) A0 A1 A2) B0
  · refine sp_X7_simulate (P := fun i B => P9 (120 - 2 * i) B) HM ⟨K, by omega, hG.1⟩ (fun i B r hi hB => sm_hP hi hB) ?_ ?_
    · intro n' B0 B1 B2 h' W z9 O9
      exact absurd (wq1 (b := 60) rfl (by decide) B0 B1 B2) A0
    · intro B0 h' W z9 O9
      exact k h' 0 W z9 O9 (fun _ => rfl)
set_option maxHeartbeats 1000000 in
theorem md_save {m : Nat} {ad : Nat → Nat} {K : Nat} {X X' : Abs} {w : Int32} {c a : Int32} (HM : WM h m ad X) (hG : GX K X) (hK : K ≤ 30000) (R : rl_save X w c a X') (k : ∀ h' b, WM h' m ad X' → gi h' m 0 = c → Ow m h h' → (c = 0 → b = a) → Q (.inl (some (.int b))) h') : WPx E mX7_save 0 [some (.ref m), some (.int w)] [] (0, 0) h Q := by
  have n6 := hG.n6
  have o12 := hG.o12
  rcases R with ⟨j, A0, A1, rfl, rfl, rfl⟩ | ⟨A0, rfl, rfl, rfl⟩
  · refine sp_X7_save HM  ?_ ?_
    · intro j' B0 B1 h' W z9 O9
      obtain rfl := nIj (i := j) (j := j') (by omega) (by omega) (A1.symm.trans B1)
      exact k h' _ W z9 O9 (fun _ => rfl)
    · intro B0 h' W z9 O9
      exact absurd (wq (b := 1) rfl (by decide) (by omega) A1) B0
  · refine sp_X7_save HM  ?_ ?_
    · intro j' B0 B1 h' W z9 O9
      exact absurd (wq (b := 1) rfl (by decide) (by omega) B1) A0
    · intro B0 h' W z9 O9
      exact k h' 0 W z9 O9 (fun _ => rfl)
set_option maxHeartbeats 1000000 in
theorem md_restore {m : Nat} {ad : Nat → Nat} {K : Nat} {X X' : Abs} {w : Int32} {c a : Int32} (HM : WM h m ad X) (hG : GX K X) (hK : K ≤ 30000) (R : rl_restore X w c a X') (k : ∀ h' b, WM h' m ad X' → gi h' m 0 = c → Ow m h h' → (c = 0 → b = a) → Q (.inl (some (.int b))) h') : WPx E mX7_restore 0 [some (.ref m), some (.int w)] [] (0, 0) h Q := by
  have n6 := hG.n6
  have o12 := hG.o12
  rcases R with ⟨j, A, A0, A1, A2, rfl, rfl, rfl⟩ | ⟨A0, rfl, rfl, rfl⟩ | ⟨j, A0, A1, A2, rfl, rfl, rfl⟩
  · refine sp_X7_restore HM  ?_ ?_ ?_
    · intro j' A' B0 B1 B2 h' W z9 O9
      obtain rfl := nIj (i := j) (j := j') (by omega) (by omega) (A1.symm.trans B1)
      obtain rfl := Option.some.inj (A2.symm.trans B2)
      exact k h' _ W z9 O9 (fun _ => rfl)
    · intro B0 h' W z9 O9
      exact absurd (wq (b := 1) rfl (by decide) (by omega) A1) B0
    · intro j' B0 B1 B2 h' W z9 O9
      obtain rfl := nIj (i := j) (j := j') (by omega) (by omega) (A1.symm.trans B1)
      exact absurd (A2.symm.trans B2) (by simp)
  · refine sp_X7_restore HM  ?_ ?_ ?_
    · intro j' A' B0 B1 B2 h' W z9 O9
      exact absurd (wq (b := 1) rfl (by decide) (by omega) B1) A0
    · intro B0 h' W z9 O9
      exact k h' 0 W z9 O9 (fun _ => rfl)
    · intro j' B0 B1 B2 h' W z9 O9
      exact absurd (wq (b := 1) rfl (by decide) (by omega) B1) A0
  · refine sp_X7_restore HM  ?_ ?_ ?_
    · intro j' A' B0 B1 B2 h' W z9 O9
      obtain rfl := nIj (i := j) (j := j') (by omega) (by omega) (A1.symm.trans B1)
      exact absurd (A2.symm.trans B2) (by simp)
    · intro B0 h' W z9 O9
      exact absurd (wq (b := 1) rfl (by decide) (by omega) A1) B0
    · intro j' B0 B1 B2 h' W z9 O9
      obtain rfl := nIj (i := j) (j := j') (by omega) (by omega) (A1.symm.trans B1)
      exact k h' 0 W z9 O9 (fun _ => rfl)
end SP
