section SP
variable {E : Ev} {h : PH} {Q : Rt → PH → Prop}
/-- the object and where its parts lie -/
def ObC (h : PH) (m q c u hi sl tx : Nat) : Prop := (kd h m = some (.inl 6) ∧ tg h m = (m, 0, 0)) ∧ gr h m 0 = some q ∧ gr h m 1 = some c ∧ gr h m 2 = some u ∧ gr h m 3 = some hi ∧ gr h m 4 = some sl ∧ gr h m 6 = some tx
theorem ObC.fr {S : Nat → Prop} {h h' : PH} {m q c u hi sl tx : Nat} (H : ObC h m q c u hi sl tx) (hF : Fr S h h') (hn : ¬ S m) : ObC h' m q c u hi sl tx := by
  obtain ⟨⟨h1, h2⟩, h3⟩ := H
  obtain ⟨f1, f2, f3, f4⟩ := hF
  have e := (f4 m (by rw [h2]; exact hn)).2
  exact ⟨⟨by rw [f1]; exact h1, by rw [f2]; exact h2⟩, by rw [e]; exact h3⟩
theorem ObC.frA {S : Nat → Prop} {h h' : PH} {m q c u hi sl tx : Nat} (H : ObC h m q c u hi sl tx) (hF : FrA S h h') (hn : ¬ S m) : ObC h' m q c u hi sl tx := by
  obtain ⟨⟨h1, h2⟩, h3⟩ := H
  obtain ⟨f1, f2, f3, f4⟩ := hF m _ h1
  exact ⟨⟨f1, f2.trans h2⟩, by rw [(f4 hn).2]; exact h3⟩
def surA (A : Sta) (mk : Int32) : Int32 := (matchB (bn A mk (sO A).length)).2.2.2.2
set_option maxHeartbeats 4000000 in
set_option maxRecDepth 100000 in
theorem sp_X6_surplusOf {m c u hi sl tx ka pa fa la : Nat} {mk : Int32} {q : Nat} {l : Lt} {A : Sta} (hm : ObC h m q c u hi sl tx) (hR : RepC h q l A) (hA : AuT h u ka pa fa la) (hq : u ≠ q) (hmu : m ≠ u) (k : ∀ h', FrI (fun x => x = u) h h' → Q (.inl (some (.int (surA A mk)))) h') : WPx E mX6_surplusOf 0 [some (.ref m), some (.int mk)] [] (0, 0) h Q := by
  refine wp_aload_n (M := mX6_surplusOf) (pc := 0) dX6_surplusOf_0 rfl ?_
  refine wp_getR (M := mX6_surplusOf) (pc := 1) fa_X6_22 rfl dX6_surplusOf_1 (by first | exact hm.1.1 | exact hA.1.1) (by first | exact hm.2.2.2.1 | exact hm.2.1) ?_
  refine wp_aload_n (M := mX6_surplusOf) (pc := 4) dX6_surplusOf_4 rfl ?_
  refine wp_getR (M := mX6_surplusOf) (pc := 5) fa_X6_12 rfl dX6_surplusOf_5 (by first | exact hm.1.1 | exact hA.1.1) (by first | exact hm.2.2.2.1 | exact hm.2.1) ?_
  refine wp_iload_n (M := mX6_surplusOf) (pc := 8) dX6_surplusOf_8 rfl ?_
  refine so_V2 (M := mX6_surplusOf) (pc := 9) cs_X6_surplusOf_202 rfl rfl (LE rfl) (LE rfl) dX6_surplusOf_9 (by first | exact hm.1.1 | exact hA.1.1) ?_
  refine sp_X0_gather hR hA hq (fun h1 b1 f1 => ?_)
  have hm1 := hm.fr f1.fr hmu
  refine kV ?_
  refine wp_aload_n (M := mX6_surplusOf) (pc := 12) dX6_surplusOf_12 rfl ?_
  refine wp_getR (M := mX6_surplusOf) (pc := 13) fa_X6_22 rfl dX6_surplusOf_13 hm1.1.1 hm1.2.2.2.1 ?_
  refine so_V0 (M := mX6_surplusOf) (pc := 16) cs_X6_surplusOf_208 rfl rfl (LE rfl) (LE rfl) dX6_surplusOf_16 (hA.mv f1).1.1 ?_
  refine sb_match (hA.mv f1) b1 (fun h2 b2 f2 => ?_)
  have hm2 := hm1.fr f2.fr hmu
  refine kV ?_
  refine wp_aload_n (M := mX6_surplusOf) (pc := 19) dX6_surplusOf_19 rfl ?_
  refine wp_getR (M := mX6_surplusOf) (pc := 20) fa_X6_22 rfl dX6_surplusOf_20 hm2.1.1 hm2.2.2.2.1 ?_
  refine wp_getI (M := mX6_surplusOf) (pc := 23) fa_X6_196 rfl dX6_surplusOf_23 ((hA.mv f1).mv f2).1.1 ?_
  refine wp_ireturn (M := mX6_surplusOf) (pc := 26) rfl dX6_surplusOf_26 ?_
  rw [b2.2.2.2.2]; exact k h2 (f1.tr f2)
end SP
