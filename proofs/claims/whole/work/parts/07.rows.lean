/-! rows that read and write the heap -/
/-- the class number ci, by its tables -/
def CKp (ci : Nat) (C : String) (T : u_T) (N : Nat) : Prop := classes[ci]? = some (C, T, N) ∧ (∀ w ∈ u_ws C T N, w ∈ gtb) ∧ (∀ k, k < N → parseFieldDescriptor (T k).2.2.1 = some (fty ci k)) ∧ (∀ a, a < N → ∀ b, b < N → a ≠ b → (T a).2.1 ≠ (T b).2.1) ∧ N = fN ci
/-- the entry idx of own's pool is the field k of the class ci; fin: a final one -/
def FA (own : String) (idx ci k : Nat) (fin : Bool) : Prop := ∃ (C : String) (T : u_T) (N : Nat), CKp ci C T N ∧ k < N ∧ Cond.fieldLink own idx (T k).1 (T k).2.1 (T k).2.2.1 ∈ gtb ∧ (T k).2.2.2 = fin ∧ (T k).1 = C
theorem kd_some {h : PH} {a : Nat} {κ : Kd} (hk : kd h a = some κ) : kd h a ≠ none := by rw [hk]; exact fun q => (by cases q)
section Rows
variable {E : Ev} {M : MX} {pc : Nat} {lo : List (Option Value)} {st : List Value} {r : Nat × Nat} {h : PH} {Q : Rt → PH → Prop}
theorem wp_getV {idx ci kf a : Nat} {fin : Bool} (fa : FA (mN M).cls idx ci kf fin) (d : decode (mC M) pc = .ok (.getfield idx, 3)) (hk : kd h a = some (.inl ci)) (k : WPx E M (pc + 3) lo (fv h a ci kf :: st) r h Q) : WPx E M pc lo (.ref a :: st) r h Q := by
  intro b D cA p l e s m args below meth c H locs cells slots ls C hL hH hS hc hs
  obtain ⟨Cn, T, N, ⟨q1, q2, q3, q4, q5⟩, q6, q7, q8, q9⟩ := fa
  obtain ⟨ws, j, hP, hD, hj⟩ := hH.at (kd_some hk)
  rw [cel_obj hk] at hj
  exact va_get C.1 C.2.1 C.2.2.2.2.2.1 q2 C.2.2.2.2.1 C.2.2.2.2.2.2.2.2.2.2.1.1 hP j hj q1 kf q6 (C.2.2.2.2.2.1 _ q7) (fun _ h9 => h9) (fl_get (by omega)) d (k C hL hH hS hc hs)
theorem wp_getI {idx ci kf a : Nat} {fin : Bool} (fa : FA (mN M).cls idx ci kf fin) (hr : isR (fty ci kf) = false) (d : decode (mC M) pc = .ok (.getfield idx, 3)) (hk : kd h a = some (.inl ci)) (k : WPx E M (pc + 3) lo (.int (gi h a kf) :: st) r h Q) : WPx E M pc lo (.ref a :: st) r h Q := by
  refine wp_getV fa d hk ?_
  rw [show fv h a ci kf = .int (gi h a kf) by simp [fv, hr]]
  exact k
theorem wp_getR {idx ci kf a x : Nat} {fin : Bool} (fa : FA (mN M).cls idx ci kf fin) (hr : isR (fty ci kf) = true) (d : decode (mC M) pc = .ok (.getfield idx, 3)) (hk : kd h a = some (.inl ci)) (hx : gr h a kf = some x) (k : WPx E M (pc + 3) lo (.ref x :: st) r h Q) : WPx E M pc lo (.ref a :: st) r h Q := by
  refine wp_getV fa d hk ?_
  rw [show fv h a ci kf = .ref x by simp [fv, hr, hx, va_rf]]
  exact k
theorem wp_putI {idx ci kf a : Nat} {v : Int32} (fa : FA (mN M).cls idx ci kf false) (hr : fty ci kf = .int ∨ (fty ci kf = .boolean ∧ (v = 0 ∨ v = 1))) (d : decode (mC M) pc = .ok (.putfield idx, 3)) (hk : kd h a = some (.inl ci)) (k : WPx E M (pc + 3) lo st r (si h a kf v) Q) : WPx E M pc lo (.int v :: .ref a :: st) r h Q := by
  intro b D cA p l e s m args below meth c H locs cells slots ls C hL hH hS hc hs
  obtain ⟨Cn, T, N, ⟨q1, q2, q3, q4, q5⟩, q6, q7, q8, q9⟩ := fa
  have hR : isR (fty ci kf) = false := by rcases hr with e | ⟨e, -⟩ <;> rw [e] <;> rfl
  obtain ⟨ws, j, hP, hD, hj, hput⟩ := hH.put (h' := si h a kf v) (kd_some hk) rfl si_ne
  rw [cel_obj hk] at hj
  refine va_put (v := .int v) (ty := fty ci kf) C.1 C.2.1 C.2.2.2.2.2.1 q2 (fty ci) q3 q4 C.2.2.2.2.1 C.2.2.2.2.2.2.2.2.2.2.1.1 hP hD hS j hj q1 kf q6 (C.2.2.2.2.2.1 _ q7) (fun _ h9 => h9) q8 (q3 kf q6) (by rcases hr with e | ⟨e, rfl | rfl⟩ <;> rw [e] <;> rfl) (by rcases hr with e | ⟨e, rfl | rfl⟩ <;> rw [e] <;> rfl) (by simp [fl]; omega) d (fun H1 locs1 p1 d1 s1 => ?_)
  exact k C hL (hput H1 _ (by rw [cel_obj (h := si h a kf v) hk, fl_si hR]) p1 d1) s1 hc hs
theorem wp_putR {idx ci kf a : Nat} {fin : Bool} {v : Option Nat} (fa : FA (mN M).cls idx ci kf fin) (hf : fin = true → (mN M).name = "<init>" ∧ ∃ T N, classes[ci]? = some ((mN M).cls, T, N)) (hr : isR (fty ci kf) = true) (d : decode (mC M) pc = .ok (.putfield idx, 3)) (hk : kd h a = some (.inl ci)) (k : WPx E M (pc + 3) lo st r (sr h a kf v) Q) : WPx E M pc lo (va_rf v :: .ref a :: st) r h Q := by
  intro b D cA p l e s m args below meth c H locs cells slots ls C hL hH hS hc hs
  obtain ⟨Cn, T, N, ⟨q1, q2, q3, q4, q5⟩, q6, q7, q8, q9⟩ := fa
  obtain ⟨ws, j, hP, hD, hj, hput⟩ := hH.put (h' := sr h a kf v) (kd_some hk) rfl sr_ne
  rw [cel_obj hk] at hj
  have hn : narrow (fty ci kf) (va_rf v) = va_rf v := by
    cases hty : fty ci kf <;> rw [hty] at hr <;> first | (cases v <;> rfl) | (cases hr)
  have hft : fits (fty ci kf) (va_rf v) = true := by
    cases hty : fty ci kf <;> rw [hty] at hr <;> first | (cases v <;> rfl) | (cases hr)
  cases fin with
  | false =>
    refine va_put (v := va_rf v) (ty := fty ci kf) C.1 C.2.1 C.2.2.2.2.2.1 q2 (fty ci) q3 q4 C.2.2.2.2.1 C.2.2.2.2.2.2.2.2.2.2.1.1 hP hD hS j hj q1 kf q6 (C.2.2.2.2.2.1 _ q7) (fun _ h9 => h9) q8 (q3 kf q6) hn hft (by simp [fl]; omega) d (fun H1 locs1 p1 d1 s1 => ?_)
    exact k C hL (hput H1 _ (by rw [cel_obj (h := sr h a kf v) hk, fl_sr hr]) p1 d1) s1 hc hs
  | true =>
    obtain ⟨hf1, T2, N2, hf2⟩ := hf rfl
    have hCn : Cn = (mN M).cls := congrArg Prod.fst (Option.some.inj (q1.symm.trans hf2))
    refine va_putF (v := va_rf v) (ty := fty ci kf) C.1 C.2.1 C.2.2.2.2.2.1 q2 (fty ci) q3 q4 C.2.2.2.2.1 C.2.2.2.2.2.2.2.2.2.2.1.1 hP hD hS j hj q1 kf q6 (C.2.2.2.2.2.1 _ q7) (fun _ h9 => h9) q8 (C.2.2.2.2.2.2.2.1.trans hf1) (q9.trans hCn) (q3 kf q6) hn hft (by simp [fl]; omega) d (fun H1 locs1 p1 d1 s1 => ?_)
    exact k C hL (hput H1 _ (by rw [cel_obj (h := sr h a kf v) hk, fl_sr hr]) p1 d1) s1 hc hs
/-! arrays -/
theorem ix_in {i n : Nat} {x : Int32} (hx : x = nI i) (hi : i < n) (hn : n < 2 ^ 31) : vp_in x n := by rw [hx]; exact vp_in_nI hi hn
theorem wp_iaload {a n : Nat} {i : Int32} (d : decode (mC M) pc = .ok (.iaload, 1)) (hk : kd h a = some (.inr (0, n))) (hi : vp_in i n) (k : WPx E M (pc + 1) lo (.int (gi h a i.toNatClampNeg) :: st) r h Q) : WPx E M pc lo (.int i :: .ref a :: st) r h Q := by
  intro b D cA p l e s m args below meth c H locs cells slots ls C hL hH hS hc hs
  obtain ⟨ws, j, hP, hD, hj⟩ := hH.at (kd_some hk)
  rw [cel_arr hk] at hj
  exact va_iald C.1 C.2.1 C.2.2.2.2.2.2.2.2.2.2.1.1 hP j 0 hj rfl hi d (k C hL hH hS hc hs)
theorem wp_baload {a n : Nat} {i : Int32} (d : decode (mC M) pc = .ok (.baload, 1)) (hk : kd h a = some (.inr (1, n))) (hi : vp_in i n) (k : WPx E M (pc + 1) lo (.int (gi h a i.toNatClampNeg) :: st) r h Q) : WPx E M pc lo (.int i :: .ref a :: st) r h Q := by
  intro b D cA p l e s m args below meth c H locs cells slots ls C hL hH hS hc hs
  obtain ⟨ws, j, hP, hD, hj⟩ := hH.at (kd_some hk)
  rw [cel_arr hk] at hj
  exact va_zald C.1 C.2.1 C.2.2.2.2.2.2.2.2.2.2.1.1 hP j 1 hj rfl hi d (k C hL hH hS hc hs)
theorem wp_laload {a n : Nat} {i : Int32} (d : decode (mC M) pc = .ok (.laload, 1)) (hk : kd h a = some (.inr (2, n))) (hi : vp_in i n) (k : WPx E M (pc + 1) lo (.long (gl h a i.toNatClampNeg) :: st) r h Q) : WPx E M pc lo (.int i :: .ref a :: st) r h Q := by
  intro b D cA p l e s m args below meth c H locs cells slots ls C hL hH hS hc hs
  obtain ⟨ws, j, hP, hD, hj⟩ := hH.at (kd_some hk)
  rw [cel_arr hk] at hj
  exact va_lald C.1 C.2.1 C.2.2.2.2.2.2.2.2.2.2.1.1 hP j 2 hj rfl hi d (k C hL hH hS hc hs)
/-- arrays of references: their numbers 3, 4, 5, what they hold -/
def rNm (tc : Nat) : String := match tc with
  | 3 => RX5
  | 4 => RX3
  | _ => RX4
theorem wp_aaload {a n tc : Nat} {i : Int32} (d : decode (mC M) pc = .ok (.aaload, 1)) (hk : kd h a = some (.inr (tc, n))) (htc : tc = 3 ∨ tc = 4 ∨ tc = 5) (hi : vp_in i n) (k : WPx E M (pc + 1) lo (va_rf (gr h a i.toNatClampNeg) :: st) r h Q) : WPx E M pc lo (.int i :: .ref a :: st) r h Q := by
  intro b D cA p l e s m args below meth c H locs cells slots ls C hL hH hS hc hs
  obtain ⟨ws, j, hP, hD, hj⟩ := hH.at (kd_some hk)
  rw [cel_arr hk] at hj
  rcases htc with rfl | rfl | rfl
  · exact va_aldq C.1 C.2.1 C.2.2.2.2.2.2.2.2.2.2.1.1 hP j 3 hj rfl hi d (k C hL hH hS hc hs)
  · exact va_aldq C.1 C.2.1 C.2.2.2.2.2.2.2.2.2.2.1.1 hP j 4 hj rfl hi d (k C hL hH hS hc hs)
  · exact va_aldq C.1 C.2.1 C.2.2.2.2.2.2.2.2.2.2.1.1 hP j 5 hj rfl hi d (k C hL hH hS hc hs)
theorem wp_alen {a n tc : Nat} (d : decode (mC M) pc = .ok (.arraylength, 1)) (hk : kd h a = some (.inr (tc, n))) (htc : tc ≤ 5) (k : WPx E M (pc + 1) lo (.int (nI n) :: st) r h Q) : WPx E M pc lo (.ref a :: st) r h Q := by
  intro b D cA p l e s m args below meth c H locs cells slots ls C hL hH hS hc hs
  obtain ⟨ws, j, hP, hD, hj⟩ := hH.at (kd_some hk)
  rw [cel_arr hk] at hj
  have h6 : tc = 0 ∨ tc = 1 ∨ tc = 2 ∨ tc = 3 ∨ tc = 4 ∨ tc = 5 := by omega
  rcases h6 with rfl | rfl | rfl | rfl | rfl | rfl
  · exact va_alen C.1 C.2.1 C.2.2.2.2.2.2.2.2.2.2.1.1 hP j 0 hj rfl rfl d (k C hL hH hS hc hs)
  · exact va_alen C.1 C.2.1 C.2.2.2.2.2.2.2.2.2.2.1.1 hP j 1 hj rfl rfl d (k C hL hH hS hc hs)
  · exact va_alen C.1 C.2.1 C.2.2.2.2.2.2.2.2.2.2.1.1 hP j 2 hj rfl rfl d (k C hL hH hS hc hs)
  · exact va_alen C.1 C.2.1 C.2.2.2.2.2.2.2.2.2.2.1.1 hP j 3 hj rfl rfl d (k C hL hH hS hc hs)
  · exact va_alen C.1 C.2.1 C.2.2.2.2.2.2.2.2.2.2.1.1 hP j 4 hj rfl rfl d (k C hL hH hS hc hs)
  · exact va_alen C.1 C.2.1 C.2.2.2.2.2.2.2.2.2.2.1.1 hP j 5 hj rfl rfl d (k C hL hH hS hc hs)
theorem si_up (h : PH) (a k : Nat) (v : Int32) : gi (si h a k v) a = upd (gi h a) k v := by
  funext j
  by_cases hj : j = k
  · subst hj; simp [gi_si, u2, upd]
  · simp [gi_si, u2, upd, hj]
theorem wp_iastore {a n : Nat} {i x : Int32} (d : decode (mC M) pc = .ok (.iastore, 1)) (hk : kd h a = some (.inr (0, n))) (hi : vp_in i n) (k : WPx E M (pc + 1) lo st r (si h a i.toNatClampNeg x) Q) : WPx E M pc lo (.int x :: .int i :: .ref a :: st) r h Q := by
  intro b D cA p l e s m args below meth c H locs cells slots ls C hL hH hS hc hs
  obtain ⟨ws, j, hP, hD, hj, hput⟩ := hH.put (h' := si h a i.toNatClampNeg x) (kd_some hk) rfl si_ne
  rw [cel_arr hk] at hj
  refine va_iast C.1 C.2.1 C.2.2.2.2.2.2.2.2.2.2.1.1 hP hD hS j 0 hj rfl hi d (fun H1 locs1 p1 d1 s1 => ?_)
  exact k C hL (hput H1 _ (by rw [cel_arr (h := si h a i.toNatClampNeg x) hk]; simp [ar, si_up]) p1 d1) s1 hc hs
theorem wp_bastore {a n : Nat} {i x : Int32} (hx : x = 0 ∨ x = 1) (d : decode (mC M) pc = .ok (.bastore, 1)) (hk : kd h a = some (.inr (1, n))) (hi : vp_in i n) (k : WPx E M (pc + 1) lo st r (si h a i.toNatClampNeg x) Q) : WPx E M pc lo (.int x :: .int i :: .ref a :: st) r h Q := by
  intro b D cA p l e s m args below meth c H locs cells slots ls C hL hH hS hc hs
  obtain ⟨ws, j, hP, hD, hj, hput⟩ := hH.put (h' := si h a i.toNatClampNeg x) (kd_some hk) rfl si_ne
  rw [cel_arr hk] at hj
  have hnr : vp_nar .boolean x = x := by rcases hx with rfl | rfl <;> rfl
  refine va_zast C.1 C.2.1 C.2.2.2.2.2.2.2.2.2.2.1.1 hP hD hS j 1 hj rfl hi d (fun H1 locs1 p1 d1 s1 => ?_)
  exact k C hL (hput H1 _ (by rw [cel_arr (h := si h a i.toNatClampNeg x) hk]; simp [ar, si_up, hnr]) p1 d1) s1 hc hs
theorem wp_lastore {a n : Nat} {i : Int32} {x : Int64} (d : decode (mC M) pc = .ok (.lastore, 1)) (hk : kd h a = some (.inr (2, n))) (hi : vp_in i n) (k : WPx E M (pc + 1) lo st r (sl h a i.toNatClampNeg x) Q) : WPx E M pc lo (.long x :: .int i :: .ref a :: st) r h Q := by
  intro b D cA p l e s m args below meth c H locs cells slots ls C hL hH hS hc hs
  obtain ⟨ws, j, hP, hD, hj, hput⟩ := hH.put (h' := sl h a i.toNatClampNeg x) (kd_some hk) rfl sl_ne
  rw [cel_arr hk] at hj
  refine va_last C.1 C.2.1 C.2.2.2.2.2.2.2.2.2.2.1.1 hP hD hS j 2 hj rfl hi d (fun H1 locs1 p1 d1 s1 => ?_)
  refine k C hL (hput H1 _ ?_ p1 d1) s1 hc hs
  rw [cel_arr (h := sl h a i.toNatClampNeg x) hk]
  have : gl (sl h a i.toNatClampNeg x) a = vp_updL (gl h a) i.toNatClampNeg x := by
    funext z
    by_cases hz : z = i.toNatClampNeg
    · subst hz; simp [gl_sl, u2, vp_updL]
    · simp [gl_sl, u2, vp_updL, hz]
  simp [ar, this]
theorem sr_up (h : PH) (a k : Nat) (v : Option Nat) : gr (sr h a k v) a = va_up (gr h a) k v := by
  funext j
  by_cases hj : j = k
  · subst hj; simp [gr_sr, u2, va_up]
  · simp [gr_sr, u2, va_up, hj]
/-- a reference to an object of the class that the array is of -/
theorem wp_aastore {a n tc v ci : Nat} {i : Int32} (d : decode (mC M) pc = .ok (.aastore, 1)) (hk : kd h a = some (.inr (tc, n))) (hv : kd h v = some (.inl ci)) (htc : (tc = 3 ∧ ci = 5) ∨ (tc = 4 ∧ ci = 3) ∨ (tc = 5 ∧ ci = 4)) (hi : vp_in i n) (k : WPx E M (pc + 1) lo st r (sr h a i.toNatClampNeg (some v)) Q) : WPx E M pc lo (.ref v :: .int i :: .ref a :: st) r h Q := by
  intro b D cA p l e s m args below meth c H locs cells slots ls C hL hH hS hc hs
  obtain ⟨L, g1, g2, g3⟩ := id hH
  obtain ⟨kv, hkv⟩ := va_pl_get (X := []) (f := cel cA h) ((g1 v).mpr (kd_some hv))
  obtain ⟨ka, hka⟩ := va_pl_get (X := []) (f := cel cA h) ((g1 a).mpr (kd_some hk))
  have hs2 := fun e => va_pl_set (e := e) g3 ((g1 a).mpr (kd_some hk)) hka
  rw [cel_obj hv] at hkv
  rw [cel_arr hk] at hka
  have fin : ∀ (H1 : Heap) (locs1 : List Loc) (e : va_E), e = cel cA (sr h a i.toNatClampNeg (some v)) a → va_P D classes (([] ++ va_pl L (cel cA h)).set ka (a, e)) H1 → va_D (fun q => b ≤ q) (([] ++ va_pl L (cel cA h)).set ka (a, e)) → HR b D cA (sr h a i.toNatClampNeg (some v)) H1 := by
    intro H1 locs1 e he p1 d1
    have hcg : va_pl L (va_up (cel cA h) a e) = va_pl L (cel cA (sr h a i.toNatClampNeg (some v))) := va_pl_congr fun x => by
      by_cases hx : x = a
      · subst hx; rw [va_up_self, he]
      · rw [va_up_ne _ _ hx, sr_ne x hx]
    rw [hs2 e, hcg] at p1 d1
    exact ⟨L, g1, p1, d1⟩
  have hce : cel cA (sr h a i.toNatClampNeg (some v)) a = .inl (cA tc, n, ar (sr h a i.toNatClampNeg (some v)) a tc) := cel_arr hk
  rcases htc with ⟨rfl, rfl⟩ | ⟨rfl, rfl⟩ | ⟨rfl, rfl⟩
  · refine va_astq C.1 C.2.1 C.2.2.2.2.2.2.2.2.2.2.1.1 g2 g3 hS ka 3 kv 5 hka rfl hkv rfl hi d (fun H1 locs1 p1 d1 s1 => ?_)
    exact k C hL (fin H1 locs1 _ (by rw [hce]; simp [ar, sr_up]) p1 d1) s1 hc hs
  · refine va_astq C.1 C.2.1 C.2.2.2.2.2.2.2.2.2.2.1.1 g2 g3 hS ka 4 kv 3 hka rfl hkv rfl hi d (fun H1 locs1 p1 d1 s1 => ?_)
    exact k C hL (fin H1 locs1 _ (by rw [hce]; simp [ar, sr_up]) p1 d1) s1 hc hs
  · refine va_astq C.1 C.2.1 C.2.2.2.2.2.2.2.2.2.2.1.1 g2 g3 hS ka 5 kv 4 hka rfl hkv rfl hi d (fun H1 locs1 p1 d1 s1 => ?_)
    exact k C hL (fin H1 locs1 _ (by rw [hce]; simp [ar, sr_up]) p1 d1) s1 hc hs
theorem wp_aastoreN {a n tc : Nat} {i : Int32} (d : decode (mC M) pc = .ok (.aastore, 1)) (hk : kd h a = some (.inr (tc, n))) (htc : tc = 3 ∨ tc = 4 ∨ tc = 5) (hi : vp_in i n) (k : WPx E M (pc + 1) lo st r (sr h a i.toNatClampNeg none) Q) : WPx E M pc lo (.null :: .int i :: .ref a :: st) r h Q := by
  intro b D cA p l e s m args below meth c H locs cells slots ls C hL hH hS hc hs
  obtain ⟨ws, j, hP, hD, hj, hput⟩ := hH.put (h' := sr h a i.toNatClampNeg none) (kd_some hk) rfl sr_ne
  rw [cel_arr hk] at hj
  have hce : cel cA (sr h a i.toNatClampNeg none) a = .inl (cA tc, n, ar (sr h a i.toNatClampNeg none) a tc) := cel_arr hk
  rcases htc with rfl | rfl | rfl
  · refine va_astqN C.1 C.2.1 C.2.2.2.2.2.2.2.2.2.2.1.1 hP hD hS j 3 hj rfl hi d (fun H1 locs1 p1 d1 s1 => ?_)
    exact k C hL (hput H1 _ (by rw [hce]; simp [ar, sr_up]) p1 d1) s1 hc hs
  · refine va_astqN C.1 C.2.1 C.2.2.2.2.2.2.2.2.2.2.1.1 hP hD hS j 4 hj rfl hi d (fun H1 locs1 p1 d1 s1 => ?_)
    exact k C hL (hput H1 _ (by rw [hce]; simp [ar, sr_up]) p1 d1) s1 hc hs
  · refine va_astqN C.1 C.2.1 C.2.2.2.2.2.2.2.2.2.2.1.1 hP hD hS j 5 hj rfl hi d (fun H1 locs1 p1 d1 s1 => ?_)
    exact k C hL (hput H1 _ (by rw [hce]; simp [ar, sr_up]) p1 d1) s1 hc hs
theorem ix_cl {i : Int32} {j n : Nat} (e : i = nI j) (hj : j < n) (hn : n < 2 ^ 31) : i.toNatClampNeg = j := by rw [e]; exact nI_clamp (by omega)
theorem wr_iaload {a n j : Nat} {i : Int32} (d : decode (mC M) pc = .ok (.iaload, 1)) (hk : kd h a = some (.inr (0, n))) (e : i = nI j) (hj : j < n) (hn : n < 2 ^ 31) (k : WPx E M (pc + 1) lo (.int (gi h a j) :: st) r h Q) : WPx E M pc lo (.int i :: .ref a :: st) r h Q := wp_iaload d hk (ix_in e hj hn) (by rw [ix_cl e hj hn]; exact k)
theorem wr_baload {a n j : Nat} {i : Int32} (d : decode (mC M) pc = .ok (.baload, 1)) (hk : kd h a = some (.inr (1, n))) (e : i = nI j) (hj : j < n) (hn : n < 2 ^ 31) (k : WPx E M (pc + 1) lo (.int (gi h a j) :: st) r h Q) : WPx E M pc lo (.int i :: .ref a :: st) r h Q := wp_baload d hk (ix_in e hj hn) (by rw [ix_cl e hj hn]; exact k)
theorem wr_laload {a n j : Nat} {i : Int32} (d : decode (mC M) pc = .ok (.laload, 1)) (hk : kd h a = some (.inr (2, n))) (e : i = nI j) (hj : j < n) (hn : n < 2 ^ 31) (k : WPx E M (pc + 1) lo (.long (gl h a j) :: st) r h Q) : WPx E M pc lo (.int i :: .ref a :: st) r h Q := wp_laload d hk (ix_in e hj hn) (by rw [ix_cl e hj hn]; exact k)
theorem wr_iastore {a n j : Nat} {i x : Int32} (d : decode (mC M) pc = .ok (.iastore, 1)) (hk : kd h a = some (.inr (0, n))) (e : i = nI j) (hj : j < n) (hn : n < 2 ^ 31) (k : WPx E M (pc + 1) lo st r (si h a j x) Q) : WPx E M pc lo (.int x :: .int i :: .ref a :: st) r h Q := wp_iastore d hk (ix_in e hj hn) (by rw [ix_cl e hj hn]; exact k)
theorem wr_bastore {a n j : Nat} {i x : Int32} (hx : x = 0 ∨ x = 1) (d : decode (mC M) pc = .ok (.bastore, 1)) (hk : kd h a = some (.inr (1, n))) (e : i = nI j) (hj : j < n) (hn : n < 2 ^ 31) (k : WPx E M (pc + 1) lo st r (si h a j x) Q) : WPx E M pc lo (.int x :: .int i :: .ref a :: st) r h Q := wp_bastore hx d hk (ix_in e hj hn) (by rw [ix_cl e hj hn]; exact k)
theorem wr_lastore {a n j : Nat} {i : Int32} {x : Int64} (d : decode (mC M) pc = .ok (.lastore, 1)) (hk : kd h a = some (.inr (2, n))) (e : i = nI j) (hj : j < n) (hn : n < 2 ^ 31) (k : WPx E M (pc + 1) lo st r (sl h a j x) Q) : WPx E M pc lo (.long x :: .int i :: .ref a :: st) r h Q := wp_lastore d hk (ix_in e hj hn) (by rw [ix_cl e hj hn]; exact k)
theorem wr_aaload {a n tc j x : Nat} {i : Int32} (d : decode (mC M) pc = .ok (.aaload, 1)) (hk : kd h a = some (.inr (tc, n))) (htc : tc = 3 ∨ tc = 4 ∨ tc = 5) (e : i = nI j) (hj : j < n) (hn : n < 2 ^ 31) (hx : gr h a j = some x) (k : WPx E M (pc + 1) lo (.ref x :: st) r h Q) : WPx E M pc lo (.int i :: .ref a :: st) r h Q := wp_aaload d hk htc (ix_in e hj hn) (by rw [ix_cl e hj hn, hx]; exact k)
theorem wr_aaloadN {a n tc j : Nat} {i : Int32} (d : decode (mC M) pc = .ok (.aaload, 1)) (hk : kd h a = some (.inr (tc, n))) (htc : tc = 3 ∨ tc = 4 ∨ tc = 5) (e : i = nI j) (hj : j < n) (hn : n < 2 ^ 31) (hx : gr h a j = none) (k : WPx E M (pc + 1) lo (.null :: st) r h Q) : WPx E M pc lo (.int i :: .ref a :: st) r h Q := wp_aaload d hk htc (ix_in e hj hn) (by rw [ix_cl e hj hn, hx]; exact k)
theorem wr_aastore {a n tc v ci j : Nat} {i : Int32} (d : decode (mC M) pc = .ok (.aastore, 1)) (hk : kd h a = some (.inr (tc, n))) (hv : kd h v = some (.inl ci)) (htc : (tc = 3 ∧ ci = 5) ∨ (tc = 4 ∧ ci = 3) ∨ (tc = 5 ∧ ci = 4)) (e : i = nI j) (hj : j < n) (hn : n < 2 ^ 31) (k : WPx E M (pc + 1) lo st r (sr h a j (some v)) Q) : WPx E M pc lo (.ref v :: .int i :: .ref a :: st) r h Q := wp_aastore d hk hv htc (ix_in e hj hn) (by rw [ix_cl e hj hn]; exact k)
theorem wr_aastoreN {a n tc j : Nat} {i : Int32} (d : decode (mC M) pc = .ok (.aastore, 1)) (hk : kd h a = some (.inr (tc, n))) (htc : tc = 3 ∨ tc = 4 ∨ tc = 5) (e : i = nI j) (hj : j < n) (hn : n < 2 ^ 31) (k : WPx E M (pc + 1) lo st r (sr h a j none) Q) : WPx E M pc lo (.null :: .int i :: .ref a :: st) r h Q := wp_aastoreN d hk htc (ix_in e hj hn) (by rw [ix_cl e hj hn]; exact k)
/-- the law's script -/
theorem wp_sld {i : Int32} (d : decode (mC M) pc = .ok (.iaload, 1)) (hi : vp_in i E.2.1) (k : WPx E M (pc + 1) lo (.int (E.2.2.1 i.toNatClampNeg) :: st) r h Q) : WPx E M pc lo (.int i :: .ref E.1 :: st) r h Q := by
  intro b D cA p l e s m args below meth c H locs cells slots ls C hL hH hS hc hs
  have hE := C.2.2.2.2.2.2.2.2.2.2.1.2.1
  exact va_sld C.1 C.2.1 hE.1 (by have := C.2.2.2.2.2.2.2.2.2.1; have := hE.2; omega) hE.2 hS hi d (k C hL hH hS hc hs)
theorem wp_slen (d : decode (mC M) pc = .ok (.arraylength, 1)) (k : WPx E M (pc + 1) lo (.int (nI E.2.1) :: st) r h Q) : WPx E M pc lo (.ref E.1 :: st) r h Q := by
  intro b D cA p l e s m args below meth c H locs cells slots ls C hL hH hS hc hs
  have hE := C.2.2.2.2.2.2.2.2.2.2.1.2.1
  exact va_slen C.1 C.2.1 hE.1 (by have := C.2.2.2.2.2.2.2.2.2.1; have := hE.2; omega) hE.2 hS d (k C hL hH hS hc hs)
/-- the factorials -/
theorem wp_fac {idx : Nat} (w : Cond.fieldLink (mN M).cls idx RX6 "FACTORIALS" "[I" ∈ gtb) (d : decode (mC M) pc = .ok (.getstatic idx, 3)) (k : WPx E M (pc + 3) lo (.ref E.2.2.2 :: st) r h Q) : WPx E M pc lo st r h Q := by
  intro b D cA p l e s m args below meth c H locs cells slots ls C hL hH hS hc hs
  exact va_gets C.1 C.2.1 C.2.2.2.2.2.2.2.2.2.2.1.2.2.1.1 hS C.2.2.2.2.1 (C.2.2.2.2.2.1 _ w) (fun _ h9 => h9) d (k C hL hH hS hc hs)
theorem wp_facld {i : Int32} (d : decode (mC M) pc = .ok (.iaload, 1)) (hi : vp_in i 7) (k : WPx E M (pc + 1) lo (.int (facv i.toNatClampNeg) :: st) r h Q) : WPx E M pc lo (.int i :: .ref E.2.2.2 :: st) r h Q := by
  intro b D cA p l e s m args below meth c H locs cells slots ls C hL hH hS hc hs
  exact va_ti C.1 C.2.1 C.2.2.2.2.2.2.2.2.2.2.1.2.2.1.2 hS hi rfl d (k C hL hH hS hc hs)
theorem wr_sld {i : Int32} {j : Nat} (d : decode (mC M) pc = .ok (.iaload, 1)) (e : i = nI j) (hj : j < E.2.1) (hn : E.2.1 < 2 ^ 31) (k : WPx E M (pc + 1) lo (.int (E.2.2.1 j) :: st) r h Q) : WPx E M pc lo (.int i :: .ref E.1 :: st) r h Q := wp_sld d (ix_in e hj hn) (by rw [ix_cl e hj hn]; exact k)
end Rows
