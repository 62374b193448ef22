section SP
variable {E : Ev} {h : PH} {Q : Rt → PH → Prop}
theorem cntZ_congr {f g : Nat → Int32} : ∀ (n : Nat), (∀ j, j < n → f j = g j) → cntZ f n = cntZ g n
  | 0, _ => rfl
  | n + 1, h => by
    show cntZ f n + _ = cntZ g n + _
    rw [cntZ_congr n (fun j hj => h j (by omega)), h n (by omega)]
/-- what auction(what) answers -/
def aucA (A : Sta) : Nat → Int32
  | 0 => (matchB (sO A)).2.2.1
  | 1 => (matchB (sO A)).2.2.2.1
  | 2 => (matchB (sO A)).2.2.2.2
  | _ => nI (cntZ (matchB (sO A)).2.1 (sO A).length)
set_option maxHeartbeats 4000000 in
set_option maxRecDepth 100000 in
theorem sp_X6_auction {ka pa fa la : Nat} {m c u hi sl tx : Nat} {q : Nat} {l : Lt} {A : Sta} {w : Int32} (hm : ObC h m q c u hi sl tx) (hR : RepC h q l A) (hA : AuT h u ka pa fa la) (hq : u ≠ q) (hmu : m ≠ u) (k1 : ∀ j, j ≤ 3 → w = nI j → ∀ h', FrI (fun x => x = u) h h' → Q (.inl (some (.int (aucA A j)))) h') (k0 : ¬ wth w 0 3 → Q (.inr "java/lang/IllegalArgumentException") h) : WPx E mX6_auction 0 [some (.ref m), some (.int w)] [] (1, 6) h Q := by
  have n12 := hR.2.1.2.1.2
  refine wp_iload_n (M := mX6_auction) (pc := 0) dX6_auction_0 rfl ?_
  refine wp_iconst (M := mX6_auction) (pc := 1) (v := 0) dX6_auction_1 ci_0 ?_
  refine wp_iconst (M := mX6_auction) (pc := 2) (v := 3) dX6_auction_2 ci_3 ?_
  refine so_S3 (M := mX6_auction) (pc := 3) cs_X6_auction_56 rfl rfl (LE rfl) (LE rfl) dX6_auction_3 ?_
  refine sp_X6_isWithin ?_
  refine kI ?_
  refine so_SA1 (M := mX6_auction) (pc := 6) (0, 0) cs_X6_auction_60 rfl (LE rfl) (LE rfl) (LE rfl) (LE rfl) dX6_auction_6 ?_
  refine sp_X6_requireArgument (fun hw => ?_) (fun hw => k0 hw)
  obtain ⟨j, hj, rfl⟩ := wth_nI (b := 3) (by decide) hw
  refine kV ?_
  refine wp_aload_n (M := mX6_auction) (pc := 9) dX6_auction_9 rfl ?_
  refine wp_getR (M := mX6_auction) (pc := 10) fa_X6_22 rfl dX6_auction_10 (by first | exact hm.1.1 | exact hA.1.1) (by first | exact hm.2.1 | exact hm.2.2.2.1) ?_
  refine wp_aload_n (M := mX6_auction) (pc := 13) dX6_auction_13 rfl ?_
  refine wp_getR (M := mX6_auction) (pc := 14) fa_X6_12 rfl dX6_auction_14 (by first | exact hm.1.1 | exact hA.1.1) (by first | exact hm.2.1 | exact hm.2.2.2.1) ?_
  refine so_V1 (M := mX6_auction) (pc := 17) cs_X6_auction_141 rfl rfl (LE rfl) (LE rfl) dX6_auction_17 (by first | exact hm.1.1 | exact hA.1.1) ?_
  refine sp_X0_hold hR hA hq (fun h1 b1 f1 => ?_)
  have hm1 := hm.fr f1.fr hmu
  refine kV ?_
  refine wp_iload_n (M := mX6_auction) (pc := 20) dX6_auction_20 rfl ?_
  have sw21 : j = 0 ∨ j = 1 ∨ j = 2 ∨ 2 < j := by omega
  rcases sw21 with rfl | rfl | rfl | sw21
  · refine wp_tableIn (M := mX6_auction) (pc := 21) (x := nI 0) (tgt := 48) dX6_auction_21 (by decide) (by decide) rfl rfl ?_
    refine wp_aload_n (M := mX6_auction) (pc := 48) dX6_auction_48 rfl ?_
    refine wp_getR (M := mX6_auction) (pc := 49) fa_X6_22 rfl dX6_auction_49 hm1.1.1 hm1.2.2.2.1 ?_
    refine wp_getI (M := mX6_auction) (pc := 52) fa_X6_192 rfl dX6_auction_52 (hA.mv f1).1.1 ?_
    refine wp_ireturn (M := mX6_auction) (pc := 55) rfl dX6_auction_55 ?_
    rw [b1.2.2.1]; exact k1 0 hj rfl h1 f1
  · refine wp_tableIn (M := mX6_auction) (pc := 21) (x := nI 1) (tgt := 56) dX6_auction_21 (by decide) (by decide) rfl rfl ?_
    refine wp_aload_n (M := mX6_auction) (pc := 56) dX6_auction_56 rfl ?_
    refine wp_getR (M := mX6_auction) (pc := 57) fa_X6_22 rfl dX6_auction_57 hm1.1.1 hm1.2.2.2.1 ?_
    refine wp_getI (M := mX6_auction) (pc := 60) fa_X6_195 rfl dX6_auction_60 (hA.mv f1).1.1 ?_
    refine wp_ireturn (M := mX6_auction) (pc := 63) rfl dX6_auction_63 ?_
    rw [b1.2.2.2.1]; exact k1 1 hj rfl h1 f1
  · refine wp_tableIn (M := mX6_auction) (pc := 21) (x := nI 2) (tgt := 64) dX6_auction_21 (by decide) (by decide) rfl rfl ?_
    refine wp_aload_n (M := mX6_auction) (pc := 64) dX6_auction_64 rfl ?_
    refine wp_getR (M := mX6_auction) (pc := 65) fa_X6_22 rfl dX6_auction_65 hm1.1.1 hm1.2.2.2.1 ?_
    refine wp_getI (M := mX6_auction) (pc := 68) fa_X6_196 rfl dX6_auction_68 (hA.mv f1).1.1 ?_
    refine wp_ireturn (M := mX6_auction) (pc := 71) rfl dX6_auction_71 ?_
    rw [b1.2.2.2.2]; exact k1 2 hj rfl h1 f1
  · refine wp_tableOut (M := mX6_auction) (pc := 21) (x := nI j) (tgt := 72) dX6_auction_21 (Or.inr (sw_out sw21 (by omega))) rfl ?_
    refine wp_aload_n (M := mX6_auction) (pc := 72) dX6_auction_72 rfl ?_
    refine wp_getR (M := mX6_auction) (pc := 73) fa_X6_22 rfl dX6_auction_73 hm1.1.1 hm1.2.2.2.1 ?_
    refine so_V0 (M := mX6_auction) (pc := 76) cs_X6_auction_199 rfl rfl (LE rfl) (LE rfl) dX6_auction_76 (hA.mv f1).1.1 ?_
    refine sp_X0_countWhollyFilled (hA.mv f1).1 b1.1 (by omega) ?_
    refine kI ?_
    refine wp_ireturn (M := mX6_auction) (pc := 79) rfl dX6_auction_79 ?_
    have e3 : j = 3 := by omega
    subst e3
    rw [cntZ_congr _ (fun i hi9 => (b1.2.1 i hi9).2)]; exact k1 3 hj rfl h1 f1
end SP
