section SP
variable {E : Ev} {h : PH} {Q : Rt → PH → Prop}
/-! states that are read -/
theorem rdN_ok {s : Nat → Nat} {n lo hi : Nat} : ∀ (k v p : Nat), v * 10 ^ k ≤ hi → lo < v * 10 ^ k + 10 ^ k → (rdN s n lo hi k v p).2.2 = false → lo ≤ (rdN s n lo hi k v p).1 ∧ (rdN s n lo hi k v p).1 ≤ hi
  | 0, v, p, h1, h2, _ => by
    show lo ≤ v ∧ v ≤ hi
    simp at h1 h2
    omega
  | k + 1, v, p, _, _, hf => by
    rw [rdN] at hf ⊢
    by_cases c : p < n ∧ 48 ≤ s p ∧ s p ≤ 57 ∧ (10 * v + (s p - 48)) * 10 ^ k ≤ hi ∧ lo < (10 * v + (s p - 48)) * 10 ^ k + 10 ^ k
    · rw [if_pos c] at hf ⊢
      exact rdN_ok k _ _ c.2.2.2.1 c.2.2.2.2 hf
    · rw [if_neg c] at hf; exact absurd hf (by simp)
theorem rdX_ok {s : Nat → Nat} {n lo hi k : Nat} {x : Nat × Bool} (hk : lo < 10 ^ k) (h : (rdX s n lo hi k x).2.2 = false) : (lo ≤ (rdX s n lo hi k x).1 ∧ (rdX s n lo hi k x).1 ≤ hi) ∧ x.2 = false := by
  unfold rdX rdB at h ⊢
  by_cases c : x.2 = true
  · rw [if_pos c] at h; exact absurd h (by simp)
  · rw [if_neg c] at h ⊢
    exact ⟨rdN_ok k 0 x.1 (by simp) (by simpa using hk) h, by simpa using c⟩
theorem ltX_ok {s : Nat → Nat} {n c : Nat} {x : Nat × Bool} (h : (ltX s n c x).2 = false) : x.2 = false := by
  unfold ltX lt1 at h
  by_cases q : x.2 = false ∧ x.1 < n ∧ s x.1 = c
  · exact q.1
  · rw [if_neg q] at h; exact absurd h (by simp)
/-- as good as IV, but there may be no tenant yet; no orders, no time, no debts -/
def IRd (A : Sta) : Prop := sN A ≤ 6 ∧ sO A = [] ∧ sTi A = 0 ∧ (1 ≤ sTm A ∧ sTm A ≤ 50) ∧ (1 ≤ (sG A 1).toInt ∧ (sG A 1).toInt ≤ 999) ∧ (1 ≤ (sG A 2).toInt ∧ (sG A 2).toInt ≤ 20) ∧ (0 ≤ (sG A 4).toInt ∧ (sG A 4).toInt ≤ 99) ∧ sG A 7 = -9 ∧ ∀ t, t < sN A → (sT A t).1 5 = 0 ∧ (sT A t).2.1.length ≤ 8 ∧ IT 0 1 (0 + sTm A) 0 0 (sT A t)
theorem IRd.iv {A : Sta} (H : IRd A) (h : 1 ≤ sN A) : IV 0 A := by
  obtain ⟨a1, a2, a3, a4, a5, a6, a7, a8, a9⟩ := H
  refine ⟨⟨h, a1⟩, a4, by omega, a5, a6, a7, Or.inl a8, by rw [a2]; simp, fun x hx => ?_, fun t ht => ?_⟩
  · rw [a2] at hx; exact absurd hx (by simp)
  · rw [a2, a3]; exact (a9 t ht).2.2
theorem nI_b {v a b : Nat} (h : a ≤ v ∧ v ≤ b) (hb : b < 2 ^ 31) : (a : Int) ≤ (nI v).toInt ∧ (nI v).toInt ≤ b := by rw [nIi (by omega)]; omega
theorem bg_ok {w iv tm pn : Nat} (h1 : 1 ≤ w ∧ w ≤ 999) (h2 : 1 ≤ iv ∧ iv ≤ 20) (h3 : 1 ≤ tm ∧ tm ≤ 50) (h4 : 0 ≤ pn ∧ pn ≤ 99) : IRd (bgA (nI w) (nI iv) tm (nI pn)) := by
  have b1 := nI_b h1 (by omega)
  have b2 := nI_b h2 (by omega)
  have b4 := nI_b h4 (by omega)
  refine ⟨by show (0 : Nat) ≤ 6; omega, rfl, rfl, h3, ?_, ?_, ?_, ?_, fun t ht => absurd ht (by show ¬ t < 0; omega)⟩
  · have e : sG (bgA (nI w) (nI iv) tm (nI pn)) 1 = nI w := by show (upd (upd (upd (upd (fun _ => (0 : Int32)) 1 (nI w)) 2 (nI iv)) 4 (nI pn)) 7 (-9)) 1 = nI w; simp [upd]
    rw [e]; exact b1
  · have e : sG (bgA (nI w) (nI iv) tm (nI pn)) 2 = nI iv := by show (upd (upd (upd (upd (fun _ => (0 : Int32)) 1 (nI w)) 2 (nI iv)) 4 (nI pn)) 7 (-9)) 2 = nI iv; simp [upd]
    rw [e]; exact b2
  · have e : sG (bgA (nI w) (nI iv) tm (nI pn)) 4 = nI pn := by show (upd (upd (upd (upd (fun _ => (0 : Int32)) 1 (nI w)) 2 (nI iv)) 4 (nI pn)) 7 (-9)) 4 = nI pn; simp [upd]
    rw [e]; exact b4
  · have e : sG (bgA (nI w) (nI iv) tm (nI pn)) 7 = -9 := by show (upd (upd (upd (upd (fun _ => (0 : Int32)) 1 (nI w)) 2 (nI iv)) 4 (nI pn)) 7 (-9)) 7 = -9; simp [upd]
    exact e
theorem add_ok {A : Sta} {a b c : Nat} (H : IRd A) (hn : sN A < 6) (h1 : 1 ≤ a ∧ a ≤ 999) (h2 : 0 ≤ b ∧ b ≤ 99) (h3 : 0 ≤ c ∧ c ≤ 9999) : IRd (addT A (nI a) (nI b) (nI c)) := by
  obtain ⟨a1, a2, a3, a4, a5, a6, a7, a8, a9⟩ := H
  have b1 := nI_b h1 (by omega)
  have b2 := nI_b h2 (by omega)
  have b3 := nI_b h3 (by omega)
  refine ⟨by show sN A + 1 ≤ 6; omega, a2, a3, a4, a5, a6, a7, a8, fun t ht => ?_⟩
  have ht : t < sN A + 1 := ht
  by_cases e : t = sN A
  · have eT : sT (addT A (nI a) (nI b) (nI c)) t = (bgF (fun _ => 0) (nI a) (nI b) (nI c), [], []) := by rw [e]; exact u1_s
    rw [eT]
    have f0 : bgF (fun _ => 0) (nI a) (nI b) (nI c) 0 = nI a := by unfold bgF; simp [upd]
    have f1 : bgF (fun _ => 0) (nI a) (nI b) (nI c) 1 = nI b := by unfold bgF; simp [upd]
    have f2 : bgF (fun _ => 0) (nI a) (nI b) (nI c) 2 = nI a := by unfold bgF; simp [upd]
    have f3 : bgF (fun _ => 0) (nI a) (nI b) (nI c) 3 = 0 := by unfold bgF; simp [upd]
    have f4 : bgF (fun _ => 0) (nI a) (nI b) (nI c) 4 = nI c := by unfold bgF; simp [upd]
    have f5 : bgF (fun _ => 0) (nI a) (nI b) (nI c) 5 = 0 := by unfold bgF; simp [upd]
    refine ⟨f5, by simp, ?_, ?_, ?_, ?_, ?_, ?_, by simp, fun m hm => absurd hm (by simp), fun d hd => absurd hd (by simp), List.Pairwise.nil, by simp [dsI]⟩
    · show 1 ≤ (bgF (fun _ => 0) (nI a) (nI b) (nI c) 0).toInt ∧ (bgF (fun _ => 0) (nI a) (nI b) (nI c) 0).toInt ≤ 999; rw [f0]; exact b1
    · show 0 ≤ (bgF (fun _ => 0) (nI a) (nI b) (nI c) 1).toInt ∧ (bgF (fun _ => 0) (nI a) (nI b) (nI c) 1).toInt ≤ 99; rw [f1]; exact b2
    · show 0 ≤ (bgF (fun _ => 0) (nI a) (nI b) (nI c) 2).toInt ∧ (bgF (fun _ => 0) (nI a) (nI b) (nI c) 2).toInt ≤ 999; rw [f2]; omega
    · show 0 ≤ (bgF (fun _ => 0) (nI a) (nI b) (nI c) 3).toInt ∧ (bgF (fun _ => 0) (nI a) (nI b) (nI c) 3).toInt + 0 ≤ 99 * ((0 : Nat) : Int); rw [f3, tI0]; omega
    · show 0 ≤ (bgF (fun _ => 0) (nI a) (nI b) (nI c) 4).toInt ∧ (bgF (fun _ => 0) (nI a) (nI b) (nI c) 4).toInt + 99 * 0 ≤ 9999 * (((0 : Nat) : Int) + 1); rw [f4]; omega
    · show 0 ≤ (bgF (fun _ => 0) (nI a) (nI b) (nI c) 5).toInt ∧ (bgF (fun _ => 0) (nI a) (nI b) (nI c) 5).toInt + msI [] ≤ 99 * (((0 : Nat) : Int) + 8); rw [f5, tI0]; simp [msI]
  · have eT : sT (addT A (nI a) (nI b) (nI c)) t = sT A t := u1_o e
    rw [eT]; exact a9 t (by omega)
theorem ini_ok : IV 0 (xA iniX) := (add_ok (a := 1) (b := 0) (c := 0) (bg_ok (w := 1) (iv := 1) (tm := 1) (pn := 0) (by omega) (by omega) (by omega) (by omega)) (by show 0 < 6; omega) (by omega) (by omega) (by omega)).iv (Nat.le_refl 1)
end SP
