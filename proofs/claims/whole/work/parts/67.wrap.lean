section SP
variable {E : Ev} {h : PH} {Q : Rt → PH → Prop}
theorem lay_si9 {h : PH} {c a i : Nat} {v : Int32} {lc : Lt} (H : Lay h c lc) : Lay (si h a i v) c lc := H
theorem tx_cl {h : PH} {a sa : Nat} {s : Nat → Nat} {n : Nat} (H : TxC h a sa s n) : TxC (si h a 1 (nI 0)) a sa s 0 := by
  obtain ⟨h1, h2, h3, h4⟩ := H
  exact ⟨h1, h2, ⟨gi_si_same, by omega⟩, fun j hj => absurd hj (by omega)⟩
theorem tx_ap {h : PH} {a sa j : Nat} {s : Nat → Nat} {n : Nat} (H : TxC h a sa s n) (hn : n < 160) (hj : j ≤ 255) : TxC (si (si h sa n (nI j)) a 1 (nI (n + 1))) a sa (u1 s n j) (n + 1) := by
  obtain ⟨h1, h2, h3, h4⟩ := H
  have hne : sa ≠ a := fun e => by
    have := h2.2.1; rw [e, h1.1] at this; simp at this
  refine ⟨h1, h2, ⟨gi_si_same, by omega⟩, fun y hy => ?_⟩
  rw [gi_si_ne _ _ _ hne]
  by_cases e : y = n
  · subst e; rw [gi_si_same]; exact ⟨by simp [u1], by simp [u1]; exact hj⟩
  · rw [gi_si_oth e]; simp only [u1, if_neg e]; exact h4 y (by omega)
theorem sw_X6_about {me : Nat} {X : Abs} {w : Int32} (H : WC h me X) (k1 : ∀ j, j ≤ 9 → w = nI j → Q (.inl (some (.int (numA (xA X) j)))) h) (k0 : ¬ wth w 0 9 → Q (.inr "java/lang/IllegalArgumentException") h) : WPx E mX6_about 0 [some (.ref me), some (.int w)] [] (1, 6) h Q := by
  obtain ⟨q, c, u, hi, sl, tx, ka, pa, fa, la, hsa, txa, x, l, lc, cs, ss, H⟩ := H
  exact sp_X6_about H.ob H.rep k1 k0
theorem sw_X6_tenant {me : Nat} {X : Abs} {t w : Int32} (H : WC h me X) (hti : sTi (xA X) + 60 < 2 ^ 31) (hm50 : sTm (xA X) ≤ 50) (k1 : ∀ i j, i < sN (xA X) → t = nI i → j ≤ 11 → w = nI j → Q (.inl (some (.int (tnumA (xA X) i j)))) h) (k0 : ¬ isT (xA X) t → Q (.inr "java/lang/IndexOutOfBoundsException") h) (k2 : isT (xA X) t → ¬ wth w 0 11 → Q (.inr "java/lang/IllegalArgumentException") h) : WPx E mX6_tenant 0 [some (.ref me), some (.int t), some (.int w)] [] (2, 12) h Q := by
  obtain ⟨q, c, u, hi, sl, tx, ka, pa, fa, la, hsa, txa, x, l, lc, cs, ss, H⟩ := H
  exact sp_X6_tenant H.ob H.rep hti hm50 k1 k0 k2
theorem sw_X6_message {me : Nat} {X : Abs} {t w : Int32} (H : WC h me X) (k1 : ∀ i j, i < sN (xA X) → t = nI i → j ≤ 7 → w = nI j → Q (.inl (some (.int (msgA (xA X) i j)))) h) (k0 : ¬ isT (xA X) t → Q (.inr "java/lang/IndexOutOfBoundsException") h) (k2 : isT (xA X) t → ¬ wth w 0 7 → Q (.inr "java/lang/IllegalArgumentException") h) : WPx E mX6_message 0 [some (.ref me), some (.int t), some (.int w)] [] (2, 12) h Q := by
  obtain ⟨q, c, u, hi, sl, tx, ka, pa, fa, la, hsa, txa, x, l, lc, cs, ss, H⟩ := H
  exact sp_X6_message H.ob H.rep k1 k0 k2
theorem sw_X6_demand {me : Nat} {X : Abs} {w : Int32} (H : WC h me X) (k1 : wth w 1 99 → Q (.inl (some (.int (wantA (xA X) w)))) h) (k0 : ¬ wth w 1 99 → Q (.inr "java/lang/IllegalArgumentException") h) : WPx E mX6_demand 0 [some (.ref me), some (.int w)] [] (1, 6) h Q := by
  obtain ⟨q, c, u, hi, sl, tx, ka, pa, fa, la, hsa, txa, x, l, lc, cs, ss, H⟩ := H
  exact sp_X6_demand H.ob H.rep k1 k0
theorem sw_X6_supply {me : Nat} {X : Abs} {w : Int32} (H : WC h me X) (k1 : wth w 1 99 → Q (.inl (some (.int (offA (xA X) w)))) h) (k0 : ¬ wth w 1 99 → Q (.inr "java/lang/IllegalArgumentException") h) : WPx E mX6_supply 0 [some (.ref me), some (.int w)] [] (1, 6) h Q := by
  obtain ⟨q, c, u, hi, sl, tx, ka, pa, fa, la, hsa, txa, x, l, lc, cs, ss, H⟩ := H
  exact sp_X6_supply H.ob H.rep k1 k0
theorem sw_X6_order {me : Nat} {X : Abs} {t w : Int32} (H : WC h me X) (k1 : ∀ i j, i < (sO (xA X)).length → t = nI i → j ≤ 4 → w = nI j → ∀ h', WC h' me X → Of h h' → Q (.inl (some (.int (ordA (xA X) i j)))) h') (k0 : ¬ isO (xA X) t → Q (.inr "java/lang/IndexOutOfBoundsException") h) (k2 : isO (xA X) t → ¬ wth w 0 4 → Q (.inr "java/lang/IllegalArgumentException") h) : WPx E mX6_order 0 [some (.ref me), some (.int t), some (.int w), none] [] (2, 12) h Q := by
  obtain ⟨q, c, u, hi, sl, tx, ka, pa, fa, la, hsa, txa, x, l, lc, cs, ss, H⟩ := H
  exact sp_X6_order H.ob H.rep H.au (nk H.kU H.kQ (by simp)) (nk H.kMe H.kU (by simp)) (fun i j a b c d h' F => k1 i j a b c d h' (H.uI F).wc (H.uO F)) k0 k2
theorem sw_X6_auction {me : Nat} {X : Abs} {w : Int32} (H : WC h me X) (k1 : ∀ j, j ≤ 3 → w = nI j → ∀ h', WC h' me X → Of h h' → Q (.inl (some (.int (aucA (xA X) j)))) h') (k0 : ¬ wth w 0 3 → Q (.inr "java/lang/IllegalArgumentException") h) : WPx E mX6_auction 0 [some (.ref me), some (.int w)] [] (1, 6) h Q := by
  obtain ⟨q, c, u, hi, sl, tx, ka, pa, fa, la, hsa, txa, x, l, lc, cs, ss, H⟩ := H
  exact sp_X6_auction H.ob H.rep H.au (nk H.kU H.kQ (by simp)) (nk H.kMe H.kU (by simp)) (fun j a b h' F => k1 j a b h' (H.uI F).wc (H.uO F)) k0
theorem sw_X6_wealthiest {me : Nat} {X : Abs} {w : Int32} (H : WC h me X) (k1 : ∀ i, i < sN (xA X) → w = nI i → Q (.inl (some (.int (wstA (xA X) i (sN (xA X)) 0)))) h) (k0 : ¬ isT (xA X) w → Q (.inr "java/lang/IndexOutOfBoundsException") h) : WPx E mX6_wealthiest 0 [some (.ref me), some (.int w), none] [] (1, 6) h Q := by
  obtain ⟨q, c, u, hi, sl, tx, ka, pa, fa, la, hsa, txa, x, l, lc, cs, ss, H⟩ := H
  exact sp_X6_wealthiest H.ob H.rep k1 k0
theorem sw_X6_volumeIf {me : Nat} {X : Abs} {t y p z : Int32} (H : WC h me X) (k1 : ∀ j, isT (xA X) t → j ≤ 2 → y = nI j → wth p 1 99 → wth z 1 99 → ∀ h', WC h' me X → Of h h' → Q (.inl (some (.int (volA (xA X) j p z)))) h') (k0 : ¬ isT (xA X) t → Q (.inr "java/lang/IndexOutOfBoundsException") h) (k2 : isT (xA X) t → ¬ (wth y 0 2 ∧ wth p 1 99 ∧ wth z 1 99) → Q (.inr "java/lang/IllegalArgumentException") h) : WPx E mX6_volumeIf 0 [some (.ref me), some (.int t), some (.int y), some (.int p), some (.int z)] [] (2, 12) h Q := by
  obtain ⟨q, c, u, hi, sl, tx, ka, pa, fa, la, hsa, txa, x, l, lc, cs, ss, H⟩ := H
  exact sp_X6_volumeIf H.ob H.rep H.au (nk H.kU H.kQ (by simp)) (nk H.kMe H.kU (by simp)) (fun j a b c d e h' F => k1 j a b c d e h' (H.uI F).wc (H.uO F)) k0 k2
theorem sw_X6_unused {me : Nat} {X : Abs} {w : Int32} (H : WC h me X) (hok : okT (xA X) 99) (k1 : ∀ n, 1 ≤ n → n ≤ 99 → w = nI n → ∀ h', WC h' me X → Of h h' → Q (.inl (some (.int (nI n * sG (xA X) 1 - (tks n (xA X)).2)))) h') (k0 : ¬ wth w 1 99 → Q (.inr "java/lang/IllegalArgumentException") h) : WPx E mX6_unused 0 [some (.ref me), some (.int w)] [] (1, 6) h Q := by
  obtain ⟨q, c, u, hi, sl, tx, ka, pa, fa, la, hsa, txa, x, l, lc, cs, ss, H⟩ := H
  exact sp_X6_unused H.ob H.rep H.au H.lay H.ds.1 (nk H.kU H.kC (by simp)) (nk H.kMe H.kU (by simp)) (nk H.kMe H.kC (by simp)) hok (fun n a b c h' lc' L A F => k1 n a b c h' (H.cu F L A).wc (H.cuO F)) k0
theorem sw_X6_ahead {me : Nat} {X : Abs} {y t w : Int32} (H : WC h me X) (hok : okT (xA X) 99) (k1 : ∀ n i j, n ≤ 99 → y = nI n → i < sN (xA X) → t = nI i → j ≤ 11 → w = nI j → ∀ h', WC h' me X → Of h h' → Q (.inl (some (.int (tnumA (tks n (xA X)).1 i j)))) h') (k0 : ¬ isT (xA X) t → Q (.inr "java/lang/IndexOutOfBoundsException") h) (k2 : isT (xA X) t → ¬ (wth y 0 99 ∧ wth w 0 11) → Q (.inr "java/lang/IllegalArgumentException") h) : WPx E mX6_ahead 0 [some (.ref me), some (.int y), some (.int t), some (.int w)] [] (2, 12) h Q := by
  obtain ⟨q, c, u, hi, sl, tx, ka, pa, fa, la, hsa, txa, x, l, lc, cs, ss, H⟩ := H
  exact sp_X6_ahead H.ob H.rep H.au H.lay H.ds.1 (nk H.kU H.kC (by simp)) (nk H.kMe H.kU (by simp)) (nk H.kMe H.kC (by simp)) hok (fun n i j a b d e f g h' lc' L A F => k1 n i j a b d e f g h' (H.cu F L A).wc (H.cuO F)) k0 k2
theorem sw_X6_sentAfter {me : Nat} {X : Abs} {t w : Int32} (H : WC h me X) (hok : okT (xA X) 99) (k1 : ∀ i j, i < sN (xA X) → t = nI i → j ≤ 7 → w = nI j → ∀ h', WC h' me X → Of h h' → Q (.inl (some (.int (sntA (xA X) i j)))) h') (k0 : ¬ isT (xA X) t → Q (.inr "java/lang/IndexOutOfBoundsException") h) (k2 : isT (xA X) t → ¬ wth w 0 7 → Q (.inr "java/lang/IllegalArgumentException") h) : WPx E mX6_sentAfter 0 [some (.ref me), some (.int t), some (.int w), none, none] [] (2, 12) h Q := by
  obtain ⟨q, c, u, hi, sl, tx, ka, pa, fa, la, hsa, txa, x, l, lc, cs, ss, H⟩ := H
  exact sp_X6_sentAfter H.ob H.rep H.au H.lay H.ds.1 (nk H.kU H.kC (by simp)) (nk H.kMe H.kU (by simp)) (nk H.kMe H.kC (by simp)) hok (fun i j a b d e h' lc' L A F => k1 i j a b d e h' (H.cu F L A).wc (H.cuO F)) k0 k2
theorem sw_X6_errorPosition {me : Nat} {X : Abs} (H : WC h me X) (k : ∀ h', WC h' me X → Of h h' → Q (.inl (some (.int (rdE (xs X) (xn X))))) h') : WPx E mX6_errorPosition 0 [some (.ref me)] [] (0, 0) h Q := by
  obtain ⟨q, c, u, hi, sl, tx, ka, pa, fa, la, hsa, txa, x, l, lc, cs, ss, H⟩ := H
  exact sp_X6_errorPosition H.ob H.lay (nk H.kX H.kC (by simp)) H.pX (fun h' D F => k h' (H.xc F D.1.1 D.2.1).wc (H.xcO F))
theorem sw_X6_clearText {me : Nat} {X : Abs} (H : WC h me X) (k : ∀ h', WC h' me (xA X, xH X, xS X, xs X, 0) → Of h h' → Q (.inl (some (.int (nI (xn X))))) h') : WPx E mX6_clearText 0 [some (.ref me)] [] (0, 0) h Q := by
  obtain ⟨q, c, u, hi, sl, tx, ka, pa, fa, la, hsa, txa, x, l, lc, cs, ss, H⟩ := H
  have hF : Fr (fun z => z = tx ∨ z = c) h (si h tx 1 (nI 0)) := Fr.si (Or.inl (by rw [H.pX.1.2]))
  exact sp_X6_clearText H.ob H.pX (k _ (H.xc hF (lay_si9 H.lay) (tx_cl H.pX)).wc (H.xcO hF))
theorem sw_X6_append {me : Nat} {X : Abs} {w : Int32} (H : WC h me X) (k1 : ∀ j, j ≤ 255 → w = nI j → xn X < 160 → ∀ h', WC h' me (xA X, xH X, xS X, u1 (xs X) (xn X) j, xn X + 1) → Of h h' → Q (.inl (some (.int (nI (xn X + 1))))) h') (k0 : ¬ wth w 0 255 → Q (.inr "java/lang/IllegalArgumentException") h) (k2 : wth w 0 255 → 160 ≤ xn X → Q (.inr "java/lang/IllegalStateException") h) : WPx E mX6_append 0 [some (.ref me), some (.int w)] [] (2, 12) h Q := by
  obtain ⟨q, c, u, hi, sl, tx, ka, pa, fa, la, hsa, txa, x, l, lc, cs, ss, H⟩ := H
  exact sp_X6_append H.ob H.pX (fun j hj e hn => by
    subst e
    have hF : Fr (fun z => z = tx ∨ z = c) h (si (si h txa (xn X) (nI j)) tx 1 (nI (xn X + 1))) := (Fr.si (Or.inl (by rw [H.pX.2.1.2.2]))).tr (Fr.si (Or.inl (by rw [tg_si, H.pX.1.2])))
    exact k1 j hj rfl hn _ (H.xc hF (lay_si9 (lay_si9 H.lay)) (tx_ap H.pX hn hj)).wc (H.xcO hF)) k0 k2
end SP
