section SP
variable {E : Ev} {h : PH} {Q : Rt → PH → Prop}
/-- good orders of n tenants -/
def okO (n : Nat) (x : Ord) : Prop := x.1 < n ∧ x.2.1 < 3 ∧ (1 ≤ x.2.2.1.toInt ∧ x.2.2.1.toInt ≤ 99) ∧ (1 ≤ x.2.2.2.toInt ∧ x.2.2.2.toInt ≤ 99)
def OkL (n : Nat) (l : List Ord) : Prop := l.length ≤ 12 ∧ ∀ x ∈ l, okO n x
theorem getD_mem {α : Type} {l : List α} {j : Nat} {d : α} (h : j < l.length) : l.getD j d ∈ l := by
  rw [List.getD_eq_getElem?_getD, List.getElem?_eq_getElem h]; exact List.getElem_mem h
theorem getD_out {α : Type} {l : List α} {j : Nat} {d : α} (h : ¬ j < l.length) : l.getD j d = d := by
  rw [List.getD_eq_getElem?_getD, List.getElem?_eq_none (by omega)]; rfl
theorem okB_of {n : Nat} {l : List Ord} (hl : l.length ≤ 13) (h : ∀ x ∈ l, okO n x) : okB l := by
  refine ⟨hl, fun j => ?_, fun j hj => ?_⟩
  · by_cases hj : j < l.length
    · exact (h _ (getD_mem hj)).2.1
    · rw [getD_out hj]; decide
  · have := h _ (getD_mem (d := (0, 0, 0, 0)) hj)
    exact ⟨this.2.2.2, this.2.2.1⟩
theorem OkL.b {n : Nat} {l : List Ord} (h : OkL n l) : okB l := okB_of (by have := h.1; omega) h.2
theorem wth_i {p : Int32} (h : wth p 1 99) : 1 ≤ p.toInt ∧ p.toInt ≤ 99 := ⟨leI.mp h.1, leI.mp h.2⟩
theorem OkL.b1 {n : Nat} {l : List Ord} (h : OkL n l) {kn : Nat} {p z : Int32} (hk : kn < 3) (hp : wth p 1 99) (hz : wth z 1 99) (hn : 0 < n) : okB (l ++ [(0, kn, p, z)]) := by
  refine okB_of (n := n) (by have := h.1; simp; omega) (fun x hx => ?_)
  rcases List.mem_append.mp hx with q | q
  · exact h.2 x q
  · rw [List.mem_singleton.mp q]; exact ⟨hn, hk, wth_i hp, wth_i hz⟩
theorem cnt_eq {B : List Ord} {s : RS} : ∀ n, cntG B s n = cntZ (lfR B s) n
  | 0 => rfl
  | n + 1 => by
    have e : (s.1 n = qB B n) ↔ (lfR B s n = 0) := by show _ ↔ qB B n - s.1 n = 0; grind
    rw [cntG, cntZ, cnt_eq n]
    by_cases h : s.1 n = qB B n
    · rw [if_pos h, if_pos (e.mp h)]
    · rw [if_neg h, if_neg (fun q => h (e.mpr q))]; rfl
theorem auc_eq {A : Sta} (h : OkL (sN A) (sO A)) (j : Nat) : aucR A j = aucA A j := by
  have e := mt_eq h.b
  rcases j with _ | _ | _ | j
  · show _ = (matchB (sO A)).2.2.1; rw [e]; rfl
  · show _ = (matchB (sO A)).2.2.2.1; rw [e]; rfl
  · show _ = (matchB (sO A)).2.2.2.2; rw [e]; rfl
  · show nI (cntG (sO A) (mtB (sO A)) (sO A).length) = nI (cntZ (matchB (sO A)).2.1 (sO A).length); rw [e, cnt_eq]; rfl
theorem ord_eq {A : Sta} (h : OkL (sN A) (sO A)) (i j : Nat) : ordR A i j = ordA A i j := by
  have e := mt_eq h.b
  rcases j with _ | _ | _ | _ | j
  · rfl
  · rfl
  · rfl
  · rfl
  · show _ = (matchB (sO A)).1 i; rw [e]; rfl
theorem vol_eq {A : Sta} (h : OkL (sN A) (sO A)) {kn : Nat} {p z : Int32} (hn : 0 < sN A) (hk : kn < 3) (hp : wth p 1 99) (hz : wth z 1 99) : volR A kn p z = volA A kn p z := by
  unfold volR volA; rw [mt_eq (h.b1 hk hp hz hn)]; rfl
/-! sums of Int32 as integers -/
theorem sm_z {g : Nat → Int32} {c : Int} (hc : 0 ≤ c) : ∀ n : Nat, (∀ y, y < n → 0 ≤ (g y).toInt ∧ (g y).toInt ≤ c) → c * n < 2147483648 → (sm g n).toInt = zs (fun y => (g y).toInt) n ∧ 0 ≤ zs (fun y => (g y).toInt) n ∧ zs (fun y => (g y).toInt) n ≤ c * n
  | 0, _, _ => ⟨rfl, Int.le_refl _, by simp [zs]⟩
  | n + 1, h, hn => by
    have e : c * ((n + 1 : Nat) : Int) = c * n + c := by rw [Int.natCast_add, Int.mul_add]; omega
    rw [e] at hn ⊢
    obtain ⟨h1, h2, h3⟩ := sm_z hc n (fun y q => h y (by omega)) (by omega)
    have := h n (by omega)
    rw [sm, zs, aI (by omega) (by omega)]
    exact ⟨by omega, by omega, by omega⟩
theorem kB_l {l : List Ord} {x : Ord} {y : Nat} (h : y < l.length) : (l ++ [x]).getD y (0, 0, 0, 0) = l.getD y (0, 0, 0, 0) := by
  rw [List.getD_eq_getElem?_getD, List.getD_eq_getElem?_getD, List.getElem?_append_left h]
theorem kB_e {l : List Ord} {x : Ord} : (l ++ [x]).getD l.length (0, 0, 0, 0) = x := by
  rw [List.getD_eq_getElem?_getD, List.getElem?_append_right (Nat.le_refl _)]; simp
theorem nI_z {k : Nat} (h : k < 3) : nI k = 0 ↔ k = 0 := by
  constructor
  · intro e
    have := congrArg Int32.toInt e
    rw [nIi (by omega), tI0] at this; omega
  · rintro rfl; rfl
set_option maxHeartbeats 1000000 in
/-- the youngest bid is wholly filled when what is offered above what is wanted suffices -/
theorem fil_iff {A : Sta} (h : OkL (sN A) (sO A)) (hn : 0 < sN A) {p z : Int32} (hp : wth p 1 99) (hz : wth z 1 99) : filR A p z = z ↔ ¬ offA A p - wantA A p < z := by
  have hB := h.b1 (kn := 0) (by decide) hp hz hn
  have F := mt_ok hB
  unfold filR
  have zi := wth_i hz
  have hlen : (sO A ++ [((0, 0, p, z) : Ord)]).length = (sO A).length + 1 := by simp
  have hl12 := h.1
  have bn : isB (sO A ++ [((0, 0, p, z) : Ord)]) (sO A).length = 1 := isB1.mp (by unfold kB; rw [kB_e]; rfl)
  have pn : pB (sO A ++ [((0, 0, p, z) : Ord)]) (sO A).length = p := by unfold pB; rw [kB_e]
  have qn : qB (sO A ++ [((0, 0, p, z) : Ord)]) (sO A).length = z := by unfold qB; rw [kB_e]
  have by1 : ∀ y, y < (sO A).length → (isB (sO A ++ [((0, 0, p, z) : Ord)]) y = 1 ↔ (oA A y).2.1 = 0) := fun y hy => by
    rw [← isB1]; unfold kB; rw [kB_l hy, nI_z (h.2 _ (getD_mem hy)).2.1]
  have by0 : ∀ y, y < (sO A).length → (isB (sO A ++ [((0, 0, p, z) : Ord)]) y = 0 ↔ ¬ (oA A y).2.1 = 0) := fun y hy => by
    rw [← isB0]; unfold kB; rw [kB_l hy, nI_z (h.2 _ (getD_mem hy)).2.1]
  have py : ∀ y, y < (sO A).length → pB (sO A ++ [((0, 0, p, z) : Ord)]) y = (oA A y).2.2.1 := fun y hy => by unfold pB; rw [kB_l hy]
  have qy : ∀ y, y < (sO A).length → qB (sO A ++ [((0, 0, p, z) : Ord)]) y = (oA A y).2.2.2 := fun y hy => by unfold qB; rw [kB_l hy]
  generalize hBe : sO A ++ [((0, 0, p, z) : Ord)] = B at *
  generalize mtB B = s at *
  generalize hne : (sO A).length = n at *
  obtain ⟨f1, f2, f3, f4, f5, ⟨⟨f6, f7⟩, _⟩, _⟩ := F
  rw [hlen] at f1 f2 f3 f4 f5 f6 f7
  have oq : ∀ y, y < n → okO (sN A) (oA A y) := fun y hy => h.2 _ (getD_mem (by omega))
  have fn := f1 n (by omega)
  rw [qn] at fn
  rw [zs] at f6 f7
  have e1 : sdS B 1 s n = (s.1 n).toInt := by unfold sdS; rw [if_pos bn]
  have e0 : sdS B 0 s n = 0 := by unfold sdS; rw [if_neg (by rw [bn]; decide)]
  rw [e1] at f6
  rw [e0] at f7
  obtain ⟨w1, w2, w3⟩ := sm_z (g := fun j => gw p (oA A j)) (c := 99) (by decide) n (fun y hy => by
    have := (oq y hy).2.2.2
    show 0 ≤ (gw p (oA A y)).toInt ∧ (gw p (oA A y)).toInt ≤ 99
    unfold gw; split
    · omega
    · exact ⟨Int.le_refl _, by decide⟩) (by omega)
  obtain ⟨o1, o2, o3⟩ := sm_z (g := fun j => gf p (oA A j)) (c := 99) (by decide) n (fun y hy => by
    have := (oq y hy).2.2.2
    show 0 ≤ (gf p (oA A y)).toInt ∧ (gf p (oA A y)).toInt ≤ 99
    unfold gf; split
    · omega
    · exact ⟨Int.le_refl _, by decide⟩) (by omega)
  have we : (wantA A p).toInt = zs (fun y => (gw p (oA A y)).toInt) n := by unfold wantA osm; rw [hne]; exact w1
  have oe : (offA A p).toInt = zs (fun y => (gf p (oA A y)).toInt) n := by unfold offA osm; rw [hne]; exact o1
  rw [ltI, sI (by omega) (by omega)]
  by_cases c : s.1 n = z
  · refine ⟨fun _ => ?_, fun _ => c⟩
    have a1 : zs (fun y => (gw p (oA A y)).toInt) n ≤ zs (sdS B 1 s) n := zs_le n (fun y hy => by
      have g1 := f1 y (by omega)
      show (gw p (oA A y)).toInt ≤ sdS B 1 s y
      unfold gw
      by_cases q : (oA A y).2.1 = 0 ∧ p ≤ (oA A y).2.2.1
      · rw [if_pos q]
        have vb := (by1 y hy).mpr q.1
        unfold sdS; rw [if_pos vb]
        rw [← qy y hy]
        rcases Int.lt_or_le (s.1 y).toInt (qB B y).toInt with r | r
        · exfalso
          have k1 := f5 y n (by omega) (by omega) vb bn r (by
            unfold ordK KB; rw [if_pos (isB1.mpr vb), if_pos (isB1.mpr bn), pn, py y hy]
            have := leI.mp q.2; omega)
          rw [k1] at c; rw [← c] at zi; exact absurd zi.1 (by decide)
        · exact r
      · rw [if_neg q]
        unfold sdS; split
        · exact g1.1
        · exact Int.le_refl _)
    have a2 : zs (sdS B 0 s) n ≤ zs (fun y => (gf p (oA A y)).toInt) n := zs_le n (fun y hy => by
      have g1 := f1 y (by omega)
      show sdS B 0 s y ≤ (gf p (oA A y)).toInt
      unfold gf
      by_cases v : isB B y = 0
      · unfold sdS; rw [if_pos v]
        by_cases q : (oA A y).2.2.1 ≤ p
        · rw [if_pos ⟨(by0 y hy).mp v, q⟩, ← qy y hy]; exact g1.2
        · rw [if_neg (fun r => q r.2)]
          rcases Int.lt_or_le 0 (s.1 y).toInt with r | r
          · exfalso
            have k1 := f3 n y (by omega) (by omega) bn v (by rw [c]; omega) r
            rw [pn, py y hy] at k1; exact q (leI.mpr k1)
          · exact r
      · unfold sdS; rw [if_neg v, if_neg (fun r => v ((by0 y hy).mpr r.1))]; exact Int.le_refl _)
    rw [c] at f6
    omega
  · refine ⟨fun q => absurd q c, fun q => absurd ?_ q⟩
    have cn : (s.1 n).toInt < z.toInt := by
      have : ¬ (s.1 n).toInt = z.toInt := fun e => c (eqI.mpr e)
      omega
    have a1 : zs (sdS B 1 s) n ≤ zs (fun y => (gw p (oA A y)).toInt) n := zs_le n (fun y hy => by
      have g1 := f1 y (by omega)
      show sdS B 1 s y ≤ (gw p (oA A y)).toInt
      unfold gw
      by_cases v : isB B y = 1
      · unfold sdS; rw [if_pos v]
        by_cases q : p ≤ (oA A y).2.2.1
        · rw [if_pos ⟨(by1 y hy).mp v, q⟩, ← qy y hy]; exact g1.2
        · rw [if_neg (fun r => q r.2)]
          have k1 := f5 n y (by omega) (by omega) bn v (by rw [qn]; exact cn) (by
            unfold ordK KB; rw [if_pos (isB1.mpr v), if_pos (isB1.mpr bn), pn, py y hy]
            rw [leI] at q; omega)
          rw [k1]; exact Int.le_refl _
      · unfold sdS; rw [if_neg v, if_neg (fun r => v ((by1 y hy).mpr r.1))]; exact Int.le_refl _)
    have a2 : zs (fun y => (gf p (oA A y)).toInt) n ≤ zs (sdS B 0 s) n := zs_le n (fun y hy => by
      have g1 := f1 y (by omega)
      show (gf p (oA A y)).toInt ≤ sdS B 0 s y
      unfold gf
      by_cases q : ¬ (oA A y).2.1 = 0 ∧ (oA A y).2.2.1 ≤ p
      · rw [if_pos q]
        have v := (by0 y hy).mpr q.1
        unfold sdS; rw [if_pos v, ← qy y hy]
        rcases Int.lt_or_le (s.1 y).toInt (qB B y).toInt with r | r
        · exfalso
          have k1 := f4 n y (by omega) (by omega) bn v (by rw [qn]; exact cn) r
          rw [pn, py y hy] at k1
          have := leI.mp q.2; omega
        · exact r
      · rw [if_neg q]
        unfold sdS; split
        · exact g1.1
        · exact Int.le_refl _)
    omega
theorem wth_n {p : Nat} (h1 : 1 ≤ p) (h2 : p ≤ 99) : wth (nI p) 1 99 := ⟨leI.mpr (by rw [nIi (by omega), tI1]; omega), leI.mpr (by rw [nIi (by omega)]; show (p : Int) ≤ 99; omega)⟩
theorem pf_eq {A : Sta} (h : OkL (sN A) (sO A)) (hn : 0 < sN A) {z : Int32} (hz : wth z 1 99) : ∀ f p, 1 ≤ p → f + p ≤ 100 → pfR A z f p = pfA A z f p
  | 0, _, _, _ => rfl
  | f + 1, p, h1, h2 => by
    have e := fil_iff h hn (wth_n h1 (by omega)) hz
    rw [pfR, pfA, pf_eq h hn hz f (p + 1) (by omega) (by omega)]
    by_cases c : filR A (nI p) z = z
    · rw [if_pos c, if_neg (e.mp c)]
    · rw [if_neg c, if_pos (Classical.not_not.mp (fun q => c (e.mpr q)))]
end SP
