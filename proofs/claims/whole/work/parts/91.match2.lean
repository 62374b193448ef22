section SP
variable {E : Ev} {h : PH} {Q : Rt → PH → Prop}
/-! sums of integers -/
def zs (g : Nat → Int) : Nat → Int
  | 0 => 0
  | n + 1 => zs g n + g n
theorem zs_eq {g g' : Nat → Int} : ∀ n, (∀ y, y < n → g' y = g y) → zs g' n = zs g n
  | 0, _ => rfl
  | n + 1, h => by rw [zs, zs, zs_eq n (fun y q => h y (by omega)), h n (by omega)]
theorem zs_up {g g' : Nat → Int} {i : Nat} : ∀ n, i < n → (∀ y, y < n → y ≠ i → g' y = g y) → zs g' n = zs g n + (g' i - g i)
  | 0, h, _ => absurd h (by omega)
  | n + 1, hi, h => by
    rw [zs, zs]
    by_cases e : i = n
    · rw [zs_eq n (fun y q => h y (by omega) (by omega)), e]; omega
    · rw [zs_up n (by omega) (fun y q z => h y (by omega) z), h n (by omega) (Ne.symm e)]; omega
theorem zs_le {g g' : Nat → Int} : ∀ n, (∀ y, y < n → g' y ≤ g y) → zs g' n ≤ zs g n
  | 0, _ => Int.le_refl _
  | n + 1, h => by
    have := zs_le n (fun y q => h y (by omega))
    have := h n (by omega)
    rw [zs, zs]; omega
theorem zs_lt {g g' : Nat → Int} {i : Nat} : ∀ n, i < n → (∀ y, y < n → g' y ≤ g y) → g' i < g i → zs g' n < zs g n
  | 0, h, _, _ => absurd h (by omega)
  | n + 1, hi, h, q => by
    rw [zs, zs]
    have := h n (by omega)
    by_cases e : i = n
    · have := zs_le n (fun y q => h y (by omega)); rw [e] at q; omega
    · have := zs_lt n (by omega) (fun y q => h y (by omega)) q; omega
theorem zs_ub {g : Nat → Int} {c : Int} : ∀ n, (∀ y, y < n → g y ≤ c) → zs g n ≤ c * n
  | 0, _ => by simp [zs]
  | n + 1, h => by
    have := zs_ub n (fun y q => h y (by omega))
    have := h n (by omega)
    rw [zs, Int.natCast_add, Int.mul_add]; omega
theorem zs_lb {g : Nat → Int} : ∀ n, (∀ y, y < n → 0 ≤ g y) → 0 ≤ zs g n
  | 0, _ => Int.le_refl _
  | n + 1, h => by
    have := zs_lb n (fun y q => h y (by omega))
    have := h n (by omega)
    rw [zs]; omega
theorem zs_z {g : Nat → Int} : ∀ n, (∀ y, y < n → g y = 0) → zs g n = 0
  | 0, _ => rfl
  | n + 1, h => by rw [zs, zs_z n (fun y q => h y (by omega)), h n (by omega)]; rfl
/-- what a side has got -/
def sdS (B : List Ord) (v : Int32) (s : RS) (y : Nat) : Int := if isB B y = v then (s.1 y).toInt else 0
def MG (B : List Ord) (f g : Nat → Nat) (nb na i j : Nat) (s : RS) : Prop :=
  (∀ y, y < B.length → 0 ≤ (s.1 y).toInt ∧ (s.1 y).toInt ≤ (qB B y).toInt) ∧ (∀ y, B.length ≤ y → s.1 y = 0) ∧
  (∀ x, i < x → x < nb → s.1 (f x) = 0) ∧ (∀ x, j < x → x < na → s.1 (g x) = 0) ∧
  (∀ x y, x < nb → y < na → 0 < (s.1 (f x)).toInt → 0 < (s.1 (g y)).toInt → (pB B (g y)).toInt ≤ (pB B (f x)).toInt) ∧
  ((zs (sdS B 1 s) B.length = s.2.1.toInt ∧ zs (sdS B 0 s) B.length = s.2.1.toInt) ∧ (0 ≤ s.2.1.toInt ∧ s.2.1.toInt ≤ 1287)) ∧
  ((s.2.1.toInt = 0 → s = (fun _ => 0, 0, -9, 0)) ∧ (0 < s.2.1.toInt → 1 ≤ s.2.2.1.toInt ∧ s.2.2.1.toInt ≤ 99)) ∧
  (0 ≤ s.2.2.2.toInt ∧ s.2.2.2.toInt ≤ 98 * s.2.1.toInt) ∧ (∀ x, x < nb → 0 < (s.1 (f x)).toInt → s.2.2.1.toInt ≤ (pB B (f x)).toInt)
theorem MG.ini {B : List Ord} (h : okB B) (f g : Nat → Nat) (nb na : Nat) : MG B f g nb na 0 0 (fun _ => 0, 0, -9, 0) := by
  refine ⟨fun y hy => ⟨Int.le_refl _, ?_⟩, fun y _ => rfl, fun _ _ _ => rfl, fun _ _ _ => rfl, fun x y _ _ q => absurd q (by show ¬ (0 : Int) < 0; omega), ⟨⟨zs_z _ (fun y _ => ?_), zs_z _ (fun y _ => ?_)⟩, Int.le_refl _, by decide⟩, ⟨fun _ => rfl, fun q => absurd q (by show ¬ (0 : Int) < 0; omega)⟩, ⟨Int.le_refl _, by decide⟩, fun x _ q => absurd q (by show ¬ (0 : Int) < 0; omega)⟩
  · have := (h.2.2 y hy).1.1; show (0 : Int) ≤ _; omega
  · unfold sdS; split <;> rfl
  · unfold sdS; split <;> rfl
theorem fl_b {B : List Ord} {s : RS} {b a : Nat} (h : b ≠ a) : (rStep B s b a).1 b = s.1 b + rN B s b a := by
  show upd (upd s.1 b (s.1 b + rN B s b a)) a _ b = _
  rw [up_o h, up_s]
theorem fl_a {B : List Ord} {s : RS} {b a : Nat} (h : b ≠ a) : (rStep B s b a).1 a = s.1 a + rN B s b a := by
  show upd (upd s.1 b (s.1 b + rN B s b a)) a (upd s.1 b (s.1 b + rN B s b a) a + rN B s b a) a = _
  rw [up_s, up_o (Ne.symm h)]
theorem fl_o {B : List Ord} {s : RS} {b a y : Nat} (h1 : y ≠ b) (h2 : y ≠ a) : (rStep B s b a).1 y = s.1 y := by
  show upd (upd s.1 b (s.1 b + rN B s b a)) a _ y = _
  rw [up_o h2, up_o h1]
theorem KB1 {B : List Ord} {x y : Nat} (h1 : isB B x = 1) (h2 : isB B y = 1) (h : ordK B x y) : (pB B y).toInt ≤ (pB B x).toInt := by
  unfold ordK KB at h; rw [if_pos (isB1.mpr h1), if_pos (isB1.mpr h2)] at h; omega
theorem KB0 {B : List Ord} (hK : okK B) {x y : Nat} (h1 : isB B x = 0) (h2 : isB B y = 0) (h : ordK B x y) : (pB B x).toInt ≤ (pB B y).toInt := by
  have := hK.b x
  have := hK.b y
  unfold ordK KB at h; rw [if_neg (isB0.mpr h1), if_neg (isB0.mpr h2)] at h; omega
theorem zs_ok {B : List Ord} (h : okB B) {v : Int32} {s : RS} (hs : ∀ y, y < B.length → 0 ≤ (s.1 y).toInt ∧ (s.1 y).toInt ≤ (qB B y).toInt) : 0 ≤ zs (sdS B v s) B.length ∧ zs (sdS B v s) B.length ≤ 1287 := by
  have hl := h.1
  refine ⟨zs_lb _ (fun y hy => ?_), ?_⟩
  · unfold sdS; split
    · exact (hs y hy).1
    · exact Int.le_refl _
  · have := zs_ub (g := sdS B v s) (c := 99) B.length (fun y hy => by
      have q1 := hs y hy
      have q2 := (h.2.2 y hy).1
      unfold sdS; split
      · omega
      · omega)
    omega
theorem mul_bd {a b c d : Int} (ha : 0 ≤ a) (hb : 0 ≤ b) (hac : a ≤ c) (hbd : b ≤ d) : 0 ≤ a * b ∧ a * b ≤ c * d := ⟨Int.mul_nonneg ha hb, Int.mul_le_mul hac hbd hb (by omega)⟩
theorem tI2 : (2 : Int32).toInt = 2 := rfl
set_option maxHeartbeats 1000000 in
set_option maxRecDepth 100000 in
theorem MG.step {B : List Ord} (h : okB B) {f g : Nat → Nat} {nb na i j : Nat} {s : RS} (hf : SdP B 1 B.length f nb) (hg : SdP B 0 B.length g na) (hi : SdL B s f nb i) (hj : SdL B s g na j) (c1 : i < nb) (c2 : j < na) (c3 : pB B (g j) ≤ pB B (f i)) (H : MG B f g nb na i j s) :
    MG B f g nb na (if rN B s (f i) (g j) = qB B (f i) - s.1 (f i) then i + 1 else i) (if rN B s (f i) (g j) = qB B (g j) - s.1 (g j) then j + 1 else j) (rStep B s (f i) (g j)) := by
  have nba := sd_nba hf hg
  obtain ⟨_, _, _, m1, m2, m3, m4, m5⟩ := sd_step hf hg hi hj c1 c2
  obtain ⟨g1, g2, g3, g4, g5, ⟨⟨g6, g7⟩, g8, g9⟩, ⟨g10, g11⟩, ⟨g12, g13⟩, g14⟩ := H
  have hne := nba i j c1 c2
  have bf := hf.1 i c1
  have ag := hg.1 j c2
  have eb := fl_b (B := B) (s := s) hne
  have ea := fl_a (B := B) (s := s) hne
  have eo : ∀ y, y ≠ f i → y ≠ g j → (rStep B s (f i) (g j)).1 y = s.1 y := fun y => fl_o
  have qb := h.2.2 _ bf.1
  have qa := h.2.2 _ ag.1
  have gb := g1 _ bf.1
  have ga := g1 _ ag.1
  have lb : (lfR B s (f i)).toInt = (qB B (f i)).toInt - (s.1 (f i)).toInt := sI (by omega) (by omega)
  have la : (lfR B s (g j)).toInt = (qB B (g j)).toInt - (s.1 (g j)).toInt := sI (by omega) (by omega)
  have ebI : ((rStep B s (f i) (g j)).1 (f i)).toInt = (s.1 (f i)).toInt + (rN B s (f i) (g j)).toInt := by rw [eb]; exact aI (by omega) (by omega)
  have eaI : ((rStep B s (f i) (g j)).1 (g j)).toInt = (s.1 (g j)).toInt + (rN B s (f i) (g j)).toInt := by rw [ea]; exact aI (by omega) (by omega)
  have n1 : ∀ y, y < B.length → 0 ≤ ((rStep B s (f i) (g j)).1 y).toInt ∧ ((rStep B s (f i) (g j)).1 y).toInt ≤ (qB B y).toInt := fun y hy => by
    by_cases e1 : y = f i
    · rw [e1]; omega
    · by_cases e2 : y = g j
      · rw [e2]; omega
      · rw [eo y e1 e2]; exact g1 y hy
  have vb : zs (sdS B 1 (rStep B s (f i) (g j))) B.length = s.2.1.toInt + (rN B s (f i) (g j)).toInt := by
    rw [zs_up (g := sdS B 1 s) (i := f i) _ bf.1 (fun y hy hn => by
      unfold sdS
      by_cases e2 : y = g j
      · rw [e2, ag.2, if_neg (by decide), if_neg (by decide)]
      · rw [eo y hn e2]), g6]
    unfold sdS; rw [if_pos bf.2, if_pos bf.2, ebI]; omega
  have va : zs (sdS B 0 (rStep B s (f i) (g j))) B.length = s.2.1.toInt + (rN B s (f i) (g j)).toInt := by
    rw [zs_up (g := sdS B 0 s) (i := g j) _ ag.1 (fun y hy hn => by
      unfold sdS
      by_cases e2 : y = f i
      · rw [e2, bf.2, if_neg (by decide), if_neg (by decide)]
      · rw [eo y e2 hn]), g7]
    unfold sdS; rw [if_pos ag.2, if_pos ag.2, eaI]; omega
  have vv : ((rStep B s (f i) (g j)).2.1).toInt = s.2.1.toInt + (rN B s (f i) (g j)).toInt := by
    show (s.2.1 + rN B s (f i) (g j)).toInt = _
    exact aI (by omega) (by omega)
  have vz := zs_ok h (v := 1) n1
  rw [leI] at c3
  have pr : ((rStep B s (f i) (g j)).2.2.1).toInt = ((pB B (f i)).toInt + (pB B (g j)).toInt) / 2 := by
    show ((pB B (f i) + pB B (g j)) / 2).toInt = _
    rw [Int32.toInt_div_of_ne_right _ _ (by decide), aI (by omega) (by omega), tI2]
    rw [Int.tdiv_eq_ediv_of_nonneg (by omega)]
  have dp : (pB B (f i) - pB B (g j)).toInt = (pB B (f i)).toInt - (pB B (g j)).toInt := sI (by omega) (by omega)
  have mb := mul_bd (a := (rN B s (f i) (g j)).toInt) (b := (pB B (f i) - pB B (g j)).toInt) (c := (rN B s (f i) (g j)).toInt) (d := 98) (by omega) (by omega) (by omega) (by omega)
  have sr : ((rStep B s (f i) (g j)).2.2.2).toInt = s.2.2.2.toInt + (rN B s (f i) (g j)).toInt * (pB B (f i) - pB B (g j)).toInt := by
    show (s.2.2.2 + rN B s (f i) (g j) * (pB B (f i) - pB B (g j))).toInt = _
    have e9 : (rN B s (f i) (g j) * (pB B (f i) - pB B (g j))).toInt = _ := mI (a := rN B s (f i) (g j)) (b := pB B (f i) - pB B (g j)) (by omega) (by omega)
    rw [aI (by omega) (by omega), e9]
  have zf : ∀ x, i < x → x < nb → (rStep B s (f i) (g j)).1 (f x) = 0 := fun x a b => by
    rw [eo _ (sd_inj hf b c1 (by omega)) (nba x j b c2)]; exact g3 x a b
  have zg : ∀ x, j < x → x < na → (rStep B s (f i) (g j)).1 (g x) = 0 := fun x a b => by
    rw [eo _ (fun e => nba i x c1 b e.symm) (sd_inj hg b c2 (by omega))]; exact g4 x a b
  refine ⟨n1, fun y hy => ?_, fun x a b => zf x (by split at a <;> omega) b, fun x a b => zg x (by split at a <;> omega) b, fun x y a b q1 q2 => ?_, ⟨⟨by rw [vb, vv], by rw [va, vv]⟩, by omega, by omega⟩, ⟨fun e => by omega, fun _ => by omega⟩, ⟨by omega, by omega⟩, fun x a q1 => ?_⟩
  · rw [eo y (by omega) (by omega)]; exact g2 y hy
  · have hx : x ≤ i := by
      rcases Nat.lt_or_ge i x with q | q
      · rw [zf x q a] at q1; exact absurd q1 (by decide)
      · exact q
    have hy : y ≤ j := by
      rcases Nat.lt_or_ge j y with q | q
      · rw [zg y q b] at q2; exact absurd q2 (by decide)
      · exact q
    have r1 : (pB B (f i)).toInt ≤ (pB B (f x)).toInt := by
      by_cases e : x = i
      · rw [e]; exact Int.le_refl _
      · exact KB1 (hf.1 x a).2 bf.2 (hf.2.2 x i (by omega) c1)
    have r2 : (pB B (g y)).toInt ≤ (pB B (g j)).toInt := by
      by_cases e : y = j
      · rw [e]; exact Int.le_refl _
      · exact KB0 h.2.1 (hg.1 y b).2 ag.2 (hg.2.2 y j (by omega) c2)
    omega
  · have hx : x ≤ i := by
      rcases Nat.lt_or_ge i x with q | q
      · rw [zf x q a] at q1; exact absurd q1 (by decide)
      · exact q
    have r1 : (pB B (f i)).toInt ≤ (pB B (f x)).toInt := by
      by_cases e : x = i
      · rw [e]; exact Int.le_refl _
      · exact KB1 (hf.1 x a).2 bf.2 (hf.2.2 x i (by omega) c1)
    omega
theorem mR_inv {B : List Ord} (h : okB B) {f g : Nat → Nat} {nb na : Nat} (hf : SdP B 1 B.length f nb) (hg : SdP B 0 B.length g na) : ∀ (k i j : Nat) (s : RS), (nb - i) + (na - j) ≤ k → SdL B s f nb i → SdL B s g na j → MG B f g nb na i j s →
    ∃ i' j', SdL B (mR B f g nb na k i j s) f nb i' ∧ SdL B (mR B f g nb na k i j s) g na j' ∧ MG B f g nb na i' j' (mR B f g nb na k i j s) ∧ ¬ (i' < nb ∧ j' < na ∧ pB B (g j') ≤ pB B (f i')) := by
  intro k
  induction k with
  | zero => exact fun i j s hk hi hj H => ⟨i, j, by rw [mR_n (by omega)]; exact ⟨hi, hj, H, by omega⟩⟩
  | succ k ih =>
    intro i j s hk hi hj H
    by_cases c : i < nb ∧ j < na ∧ pB B (g j) ≤ pB B (f i)
    · rw [mR_y c]
      obtain ⟨HI, HJ, hm, _⟩ := sd_step hf hg hi hj c.1 c.2.1
      exact ih _ _ _ (by omega) HI HJ (H.step h hf hg hi hj c.1 c.2.1 c.2.2)
    · rw [mR_n c]; exact ⟨i, j, hi, hj, H, c⟩
/-- what a finished matching is -/
def MF (B : List Ord) (s : RS) : Prop :=
  (∀ y, y < B.length → 0 ≤ (s.1 y).toInt ∧ (s.1 y).toInt ≤ (qB B y).toInt) ∧ (∀ y, B.length ≤ y → s.1 y = 0) ∧
  (∀ b a, b < B.length → a < B.length → isB B b = 1 → isB B a = 0 → 0 < (s.1 b).toInt → 0 < (s.1 a).toInt → (pB B a).toInt ≤ (pB B b).toInt) ∧
  (∀ b a, b < B.length → a < B.length → isB B b = 1 → isB B a = 0 → (s.1 b).toInt < (qB B b).toInt → (s.1 a).toInt < (qB B a).toInt → (pB B b).toInt < (pB B a).toInt) ∧
  (∀ b c, b < B.length → c < B.length → isB B b = 1 → isB B c = 1 → (s.1 b).toInt < (qB B b).toInt → ordK B b c → s.1 c = 0) ∧
  ((zs (sdS B 1 s) B.length = s.2.1.toInt ∧ zs (sdS B 0 s) B.length = s.2.1.toInt) ∧ (0 ≤ s.2.1.toInt ∧ s.2.1.toInt ≤ 1287)) ∧
  ((s.2.1.toInt = 0 → s = (fun _ => 0, 0, -9, 0)) ∧ (0 < s.2.1.toInt → 1 ≤ s.2.2.1.toInt ∧ s.2.2.1.toInt ≤ 99)) ∧
  (0 ≤ s.2.2.2.toInt ∧ s.2.2.2.toInt ≤ 98 * s.2.1.toInt) ∧ (∀ b, b < B.length → isB B b = 1 → 0 < (s.1 b).toInt → s.2.2.1.toInt ≤ (pB B b).toInt)
theorem mt_ok {B : List Ord} (h : okB B) : MF B (mtB B) := by
  have hf := sd_ok h.2.1 1 B.length
  have hg := sd_ok h.2.1 0 B.length
  have q : ∀ y, lfR B (fun _ => 0, 0, -9, 0) y = qB B y := fun y => by show qB B y - 0 = qB B y; grind
  have key := mR_inv h hf hg ((sdF B 1 B.length).2 + (sdF B 0 B.length).2) 0 0 (fun _ => 0, 0, -9, 0) (by omega) ⟨by omega, fun y hy => absurd hy (by omega), fun y _ hy => by rw [q]; have := (h.2.2 _ (hf.1 y hy).1).1; omega⟩ ⟨by omega, fun y hy => absurd hy (by omega), fun y _ hy => by rw [q]; have := (h.2.2 _ (hg.1 y hy).1).1; omega⟩ (MG.ini h _ _ _ _)
  have em : mR B (sdF B 1 B.length).1 (sdF B 0 B.length).1 (sdF B 1 B.length).2 (sdF B 0 B.length).2 ((sdF B 1 B.length).2 + (sdF B 0 B.length).2) 0 0 (fun _ => 0, 0, -9, 0) = mtB B := rfl
  rw [em] at key
  generalize mtB B = s at *
  generalize (sdF B 1 B.length).1 = f at *
  generalize (sdF B 1 B.length).2 = nb at *
  generalize (sdF B 0 B.length).1 = g at *
  generalize (sdF B 0 B.length).2 = na at *
  obtain ⟨i, j, hi, hj, ⟨g1, g2, g3, g4, g5, g6, g7, g8, g9⟩, hc⟩ := key
  have lf : ∀ y, y < B.length → (lfR B s y).toInt = (qB B y).toInt - (s.1 y).toInt := fun y hy => by
    have := g1 y hy
    have := (h.2.2 y hy).1
    exact sI (by omega) (by omega)
  have pb : ∀ b, b < B.length → isB B b = 1 → (s.1 b).toInt < (qB B b).toInt → ∃ x, i ≤ x ∧ x < nb ∧ f x = b := fun b hb q1 q2 => by
    obtain ⟨x, hx, e⟩ := hf.2.1 b hb q1
    refine ⟨x, ?_, hx, e⟩
    rcases Nat.lt_or_ge x i with q | q
    · have r := hi.2.1 x q
      rw [e, lf b hb] at r; omega
    · exact q
  have pa : ∀ b, b < B.length → isB B b = 0 → (s.1 b).toInt < (qB B b).toInt → ∃ x, j ≤ x ∧ x < na ∧ g x = b := fun b hb q1 q2 => by
    obtain ⟨x, hx, e⟩ := hg.2.1 b hb q1
    refine ⟨x, ?_, hx, e⟩
    rcases Nat.lt_or_ge x j with q | q
    · have r := hj.2.1 x q
      rw [e, lf b hb] at r; omega
    · exact q
  refine ⟨g1, g2, fun b a hb ha vb va q1 q2 => ?_, fun b a hb ha vb va q1 q2 => ?_, fun b c hb hc' vb vc q1 q2 => ?_, g6, g7, g8, fun b hb vb q => ?_⟩
  · obtain ⟨x, hx, e⟩ := hf.2.1 b hb vb
    obtain ⟨y, hy, e'⟩ := hg.2.1 a ha va
    rw [← e, ← e']; exact g5 x y hx hy (by rw [e]; exact q1) (by rw [e']; exact q2)
  · obtain ⟨x, hx0, hx, e⟩ := pb b hb vb q1
    obtain ⟨y, hy0, hy, e'⟩ := pa a ha va q2
    have r : ¬ pB B (g j) ≤ pB B (f i) := fun r => hc ⟨by omega, by omega, r⟩
    rw [leI] at r
    have r1 : (pB B (f x)).toInt ≤ (pB B (f i)).toInt := by
      by_cases z : i = x
      · rw [z]; exact Int.le_refl _
      · exact KB1 (hf.1 i (by omega)).2 (hf.1 x hx).2 (hf.2.2 i x (by omega) hx)
    have r2 : (pB B (g j)).toInt ≤ (pB B (g y)).toInt := by
      by_cases z : j = y
      · rw [z]; exact Int.le_refl _
      · exact KB0 h.2.1 (hg.1 j (by omega)).2 (hg.1 y hy).2 (hg.2.2 j y (by omega) hy)
    rw [← e, ← e']; omega
  · obtain ⟨x, hx0, hx, e⟩ := pb b hb vb q1
    obtain ⟨y, hy, e'⟩ := hf.2.1 c hc' vc
    rw [← e']
    refine g3 y ?_ hy
    rcases Nat.lt_trichotomy y x with z | z | z
    · have := hf.2.2 y x z hx
      rw [e, e'] at this; unfold ordK at this q2; omega
    · rw [← z, e'] at e; rw [e] at q2; unfold ordK at q2; omega
    · omega
  · obtain ⟨x, hx, e⟩ := hf.2.1 b hb vb
    rw [← e]; exact g9 x hx (by rw [e]; exact q)
end SP
