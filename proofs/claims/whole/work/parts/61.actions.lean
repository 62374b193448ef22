section SP
variable {E : Ev} {h : PH} {Q : Rt → PH → Prop}
def actX (X : Abs) (B : Sta) : Abs := (B, (xA X :: xH X).take 14, X.2.2)
set_option maxHeartbeats 4000000 in
set_option maxRecDepth 100000 in
theorem sp_X6_withdraw {me : Nat} {X : Abs} {w : Int32} (H : WC h me X) (k1 : ∀ i, i < (sO (xA X)).length → w = nI i → ∀ h', WC h' me (actX X (remE (giveA (xA X) i))) → Of h h' → Q (.inl (some (.int (oA (xA X) i).2.2.2))) h') (k0 : ¬ isO (xA X) w → Q (.inr "java/lang/IndexOutOfBoundsException") h) : WPx E mX6_withdraw 0 [some (.ref me), some (.int w)] [] (34, 498) h Q := by
  obtain ⟨q, c, u, hi, sl, tx, ka, pa, fa, la, hsa, txa, x, l, lc, cs, ss, H⟩ := H
  have hm := H.ob
  have hR := H.rep
  have n6 := hR.2.1.1.2
  refine wp_aload_n (M := mX6_withdraw) (pc := 0) dX6_withdraw_0 rfl ?_
  refine wp_getR (M := mX6_withdraw) (pc := 1) fa_X6_12 rfl dX6_withdraw_1 (by first | exact hm.1.1 | exact H.kQ | exact H.kH | exact H.kC | exact H.kU | exact H.kX | exact hR.1.2.1.2.1 | exact a2 | fail "kd") (by first | exact hm.2.1 | exact hm.2.2.1 | exact hm.2.2.2.1 | exact hm.2.2.2.2.1 | exact hm.2.2.2.2.2.1 | exact hm.2.2.2.2.2.2 | exact hR.1.2.1.1 | exact a1 | fail "rx") ?_
  refine wp_iload_n (M := mX6_withdraw) (pc := 4) dX6_withdraw_4 rfl ?_
  refine so_V1 (M := mX6_withdraw) (pc := 5) cs_X6_withdraw_116 rfl rfl (LE rfl) (LE rfl) dX6_withdraw_5 (by first | exact hm.1.1 | exact H.kQ | exact H.kH | exact H.kC | exact H.kU | exact H.kX | exact hR.1.2.1.2.1 | exact a2 | fail "kd") ?_
  refine sb_hasOrder hR ?_
  refine kI ?_
  refine so_SA1 (M := mX6_withdraw) (pc := 8) (33, 492) cs_X6_withdraw_97 rfl (LE rfl) (LE rfl) (LE rfl) (LE rfl) dX6_withdraw_8 ?_
  refine sp_X6_requireThere (fun ht => ?_) (fun hw => k0 hw)
  obtain ⟨i, hi9, rfl⟩ := ht
  refine kV ?_
  refine wp_aload_n (M := mX6_withdraw) (pc := 11) dX6_withdraw_11 rfl ?_
  refine wp_getR (M := mX6_withdraw) (pc := 12) fa_X6_29 rfl dX6_withdraw_12 (by first | exact hm.1.1 | exact H.kQ | exact H.kH | exact H.kC | exact H.kU | exact H.kX | exact hR.1.2.1.2.1 | exact a2 | fail "kd") (by first | exact hm.2.1 | exact hm.2.2.1 | exact hm.2.2.2.1 | exact hm.2.2.2.2.1 | exact hm.2.2.2.2.2.1 | exact hm.2.2.2.2.2.2 | exact hR.1.2.1.1 | exact a1 | fail "rx") ?_
  refine wp_aload_n (M := mX6_withdraw) (pc := 15) dX6_withdraw_15 rfl ?_
  refine wp_getR (M := mX6_withdraw) (pc := 16) fa_X6_12 rfl dX6_withdraw_16 (by first | exact hm.1.1 | exact H.kQ | exact H.kH | exact H.kC | exact H.kU | exact H.kX | exact hR.1.2.1.2.1 | exact a2 | fail "kd") (by first | exact hm.2.1 | exact hm.2.2.1 | exact hm.2.2.2.1 | exact hm.2.2.2.2.1 | exact hm.2.2.2.2.2.1 | exact hm.2.2.2.2.2.2 | exact hR.1.2.1.1 | exact a1 | fail "rx") ?_
  refine so_VA1 (M := mX6_withdraw) (pc := 19) (0, 0) cs_X6_withdraw_147 rfl (LE rfl) (LE rfl) (LE rfl) (LE rfl) dX6_withdraw_19 (by first | exact hm.1.1 | exact H.kQ | exact H.kH | exact H.kC | exact H.kU | exact H.kX | exact hR.1.2.1.2.1 | exact a2 | fail "kd") ?_
  refine sb_remember H (fun h1 cs1 x1 H O1 => ?_)
  have hm := H.ob
  have hR := H.rep
  refine kV ?_
  refine wp_aload_n (M := mX6_withdraw) (pc := 22) dX6_withdraw_22 rfl ?_
  refine wp_getR (M := mX6_withdraw) (pc := 23) fa_X6_12 rfl dX6_withdraw_23 (by first | exact hm.1.1 | exact H.kQ | exact H.kH | exact H.kC | exact H.kU | exact H.kX | exact hR.1.2.1.2.1 | exact a2 | fail "kd") (by first | exact hm.2.1 | exact hm.2.2.1 | exact hm.2.2.2.1 | exact hm.2.2.2.2.1 | exact hm.2.2.2.2.2.1 | exact hm.2.2.2.2.2.2 | exact hR.1.2.1.1 | exact a1 | fail "rx") ?_
  refine wp_iload_n (M := mX6_withdraw) (pc := 26) dX6_withdraw_26 rfl ?_
  refine so_V1 (M := mX6_withdraw) (pc := 27) cs_X6_withdraw_150 rfl rfl (LE rfl) (LE rfl) dX6_withdraw_27 (by first | exact hm.1.1 | exact H.kQ | exact H.kH | exact H.kC | exact H.kU | exact H.kX | exact hR.1.2.1.2.1 | exact a2 | fail "kd") ?_
  refine sp_X4_withdrawOrder hR hi9 (fun h2 l2 e2 R2 F2 => ?_)
  refine kI ?_
  refine wp_ireturn (M := mX6_withdraw) (pc := 30) rfl dX6_withdraw_30 ?_
  exact k1 i hi9 rfl h2 (H.q1 F2 R2).wc (O1.tr (H.q1O F2))
set_option maxHeartbeats 4000000 in
set_option maxRecDepth 100000 in
theorem sp_X6_push {me : Nat} {X : Abs} {t z : Int32} (H : WC h me X) (k1 : ∀ i, i < sN (xA X) → t = nI i → wth z 1 99 → (sT (xA X) i).2.1.length < 8 → ∀ h', WC h' me (actX X (pushA (xA X) i z)) → Of h h' → Q (.inl (some (.int (nI ((sT (xA X) i).2.1.length + 1))))) h') (k0 : ¬ isT (xA X) t → Q (.inr "java/lang/IndexOutOfBoundsException") h) (k2 : isT (xA X) t → ¬ wth z 1 99 → Q (.inr "java/lang/IllegalArgumentException") h) (k3 : ∀ i, i < sN (xA X) → t = nI i → wth z 1 99 → ¬ (sT (xA X) i).2.1.length < 8 → Q (.inr "java/lang/IllegalStateException") h) : WPx E mX6_push 0 [some (.ref me), some (.int t), some (.int z)] [] (36, 510) h Q := by
  obtain ⟨q, c, u, hi, sl, tx, ka, pa, fa, la, hsa, txa, x, l, lc, cs, ss, H⟩ := H
  have hm := H.ob
  have hR := H.rep
  have n6 := hR.2.1.1.2
  refine wp_aload_n (M := mX6_push) (pc := 0) dX6_push_0 rfl ?_
  refine wp_getR (M := mX6_push) (pc := 1) fa_X6_12 rfl dX6_push_1 (by first | exact hm.1.1 | exact H.kQ | exact H.kH | exact H.kC | exact H.kU | exact H.kX | exact hR.1.2.1.2.1 | exact a2 | fail "kd") (by first | exact hm.2.1 | exact hm.2.2.1 | exact hm.2.2.2.1 | exact hm.2.2.2.2.1 | exact hm.2.2.2.2.2.1 | exact hm.2.2.2.2.2.2 | exact hR.1.2.1.1 | exact a1 | fail "rx") ?_
  refine wp_iload_n (M := mX6_push) (pc := 4) dX6_push_4 rfl ?_
  refine so_V1 (M := mX6_push) (pc := 5) cs_X6_push_93 rfl rfl (LE rfl) (LE rfl) dX6_push_5 (by first | exact hm.1.1 | exact H.kQ | exact H.kH | exact H.kC | exact H.kU | exact H.kX | exact hR.1.2.1.2.1 | exact a2 | fail "kd") ?_
  refine sb_hasTenant hR ?_
  refine kI ?_
  refine so_SA1 (M := mX6_push) (pc := 8) (35, 504) cs_X6_push_97 rfl (LE rfl) (LE rfl) (LE rfl) (LE rfl) dX6_push_8 ?_
  refine sp_X6_requireThere (fun ht => ?_) (fun hw => k0 hw)
  refine kV ?_
  refine wp_iload_n (M := mX6_push) (pc := 11) dX6_push_11 rfl ?_
  refine so_S1 (M := mX6_push) (pc := 12) cs_X6_push_153 rfl rfl (LE rfl) (LE rfl) dX6_push_12 ?_
  refine sp_X6_isTwoDigits ?_
  refine kI ?_
  refine so_SA1 (M := mX6_push) (pc := 15) (34, 498) cs_X6_push_56 rfl (LE rfl) (LE rfl) (LE rfl) (LE rfl) dX6_push_15 ?_
  refine sp_X6_requireArgument (fun hw => ?_) (fun hw => k2 ht hw)
  obtain ⟨i, hi9, rfl⟩ := ht
  obtain ⟨a1, ⟨a2, a3⟩, ⟨a4, a5, a6⟩, a7, a8, a9⟩ := hR.1.2.2.2.1 i (by omega)
  obtain ⟨v1, v2, v3, v4, v5⟩ := hR.2.2.1 i hi9
  have hf8 : ¬ (if gi h (lT l i) 7 < nI 8 then (0 : Int32) else 1) = 0 → ¬ (sT (xA X) i).2.1.length < 8 := fun e e8 => e (if_pos (by rw [v2]; exact (i_lt (by omega) (by decide)).mpr e8))
  have hf9 : (if gi h (lT l i) 7 < nI 8 then (0 : Int32) else 1) = 0 → (sT (xA X) i).2.1.length < 8 := fun e => by
    by_cases e8 : gi h (lT l i) 7 < nI 8
    · rw [v2] at e8; exact (i_lt (by omega) (by decide)).mp e8
    · rw [if_neg e8] at e; exact absurd e (by decide)
  refine kV ?_
  refine wp_aload_n (M := mX6_push) (pc := 18) dX6_push_18 rfl ?_
  refine wp_getR (M := mX6_push) (pc := 19) fa_X6_12 rfl dX6_push_19 (by first | exact hm.1.1 | exact H.kQ | exact H.kH | exact H.kC | exact H.kU | exact H.kX | exact hR.1.2.1.2.1 | exact a2 | fail "kd") (by first | exact hm.2.1 | exact hm.2.2.1 | exact hm.2.2.2.1 | exact hm.2.2.2.2.1 | exact hm.2.2.2.2.2.1 | exact hm.2.2.2.2.2.2 | exact hR.1.2.1.1 | exact a1 | fail "rx") ?_
  refine wp_getR (M := mX6_push) (pc := 22) fa_X6_107 rfl dX6_push_22 (by first | exact hm.1.1 | exact H.kQ | exact H.kH | exact H.kC | exact H.kU | exact H.kX | exact hR.1.2.1.2.1 | exact a2 | fail "kd") (by first | exact hm.2.1 | exact hm.2.2.1 | exact hm.2.2.2.1 | exact hm.2.2.2.2.1 | exact hm.2.2.2.2.2.1 | exact hm.2.2.2.2.2.2 | exact hR.1.2.1.1 | exact a1 | fail "rx") ?_
  refine wp_iload_n (M := mX6_push) (pc := 25) dX6_push_25 rfl ?_
  refine wr_aaload (M := mX6_push) (pc := 26) dX6_push_26 (by first | exact hm.1.1 | exact H.kQ | exact H.kH | exact H.kC | exact H.kU | exact H.kX | exact hR.1.2.1.2.1 | exact a2 | fail "kd") (by decide) rfl (by omega) (by decide) (by first | exact hm.2.1 | exact hm.2.2.1 | exact hm.2.2.2.1 | exact hm.2.2.2.2.1 | exact hm.2.2.2.2.2.1 | exact hm.2.2.2.2.2.2 | exact hR.1.2.1.1 | exact a1 | fail "rx") ?_
  refine so_V0 (M := mX6_push) (pc := 27) cs_X6_push_156 rfl rfl (LE rfl) (LE rfl) dX6_push_27 (by first | exact hm.1.1 | exact H.kQ | exact H.kH | exact H.kC | exact H.kU | exact H.kX | exact hR.1.2.1.2.1 | exact a2 | fail "kd") ?_
  refine sp_X5_isQueueFull a2 a4 a5 ?_
  refine kI ?_
  refine wp_if_ne (M := mX6_push) (pc := 30) (tgt := 37) dX6_push_30 rfl (fun t30 => ?_) (fun f30 => ?_)
  · have hl : ¬ (0 : Int32) = 0 → (sT (xA X) i).2.1.length < 8 := fun e => absurd rfl e
    have hl0 : (0 : Int32) = 0 → ¬ (sT (xA X) i).2.1.length < 8 := fun _ => hf8 t30
    refine wp_iconst (M := mX6_push) (pc := 37) (v := 0) dX6_push_37 ci_0 ?_
    refine so_SA1 (M := mX6_push) (pc := 38) (33, 492) cs_X6_push_64 rfl (LE rfl) (LE rfl) (LE rfl) (LE rfl) dX6_push_38 ?_
    refine sv_X6_requirePossible (fun hv => ?_) (fun hv => k3 i hi9 rfl hw (hl0 hv))
    refine kV ?_
    refine wp_aload_n (M := mX6_push) (pc := 41) dX6_push_41 rfl ?_
    refine wp_getR (M := mX6_push) (pc := 42) fa_X6_29 rfl dX6_push_42 (by first | exact hm.1.1 | exact H.kQ | exact H.kH | exact H.kC | exact H.kU | exact H.kX | exact hR.1.2.1.2.1 | exact a2 | fail "kd") (by first | exact hm.2.1 | exact hm.2.2.1 | exact hm.2.2.2.1 | exact hm.2.2.2.2.1 | exact hm.2.2.2.2.2.1 | exact hm.2.2.2.2.2.2 | exact hR.1.2.1.1 | exact a1 | fail "rx") ?_
    refine wp_aload_n (M := mX6_push) (pc := 45) dX6_push_45 rfl ?_
    refine wp_getR (M := mX6_push) (pc := 46) fa_X6_12 rfl dX6_push_46 (by first | exact hm.1.1 | exact H.kQ | exact H.kH | exact H.kC | exact H.kU | exact H.kX | exact hR.1.2.1.2.1 | exact a2 | fail "kd") (by first | exact hm.2.1 | exact hm.2.2.1 | exact hm.2.2.2.1 | exact hm.2.2.2.2.1 | exact hm.2.2.2.2.2.1 | exact hm.2.2.2.2.2.2 | exact hR.1.2.1.1 | exact a1 | fail "rx") ?_
    refine so_VA1 (M := mX6_push) (pc := 49) (0, 0) cs_X6_push_147 rfl (LE rfl) (LE rfl) (LE rfl) (LE rfl) dX6_push_49 (by first | exact hm.1.1 | exact H.kQ | exact H.kH | exact H.kC | exact H.kU | exact H.kX | exact hR.1.2.1.2.1 | exact a2 | fail "kd") ?_
    refine sb_remember H (fun h1 cs1 x1 H O1 => ?_)
    have hm := H.ob
    have hR := H.rep
    obtain ⟨a1, ⟨a2, a3⟩, ⟨a4, a5, a6⟩, a7, a8, a9⟩ := hR.1.2.2.2.1 i (by omega)
    obtain ⟨v1, v2, v3, v4, v5⟩ := hR.2.2.1 i hi9
    refine kV ?_
    refine wp_aload_n (M := mX6_push) (pc := 52) dX6_push_52 rfl ?_
    refine wp_getR (M := mX6_push) (pc := 53) fa_X6_12 rfl dX6_push_53 (by first | exact hm.1.1 | exact H.kQ | exact H.kH | exact H.kC | exact H.kU | exact H.kX | exact hR.1.2.1.2.1 | exact a2 | fail "kd") (by first | exact hm.2.1 | exact hm.2.2.1 | exact hm.2.2.2.1 | exact hm.2.2.2.2.1 | exact hm.2.2.2.2.2.1 | exact hm.2.2.2.2.2.2 | exact hR.1.2.1.1 | exact a1 | fail "rx") ?_
    refine wp_getR (M := mX6_push) (pc := 56) fa_X6_107 rfl dX6_push_56 (by first | exact hm.1.1 | exact H.kQ | exact H.kH | exact H.kC | exact H.kU | exact H.kX | exact hR.1.2.1.2.1 | exact a2 | fail "kd") (by first | exact hm.2.1 | exact hm.2.2.1 | exact hm.2.2.2.1 | exact hm.2.2.2.2.1 | exact hm.2.2.2.2.2.1 | exact hm.2.2.2.2.2.2 | exact hR.1.2.1.1 | exact a1 | fail "rx") ?_
    refine wp_iload_n (M := mX6_push) (pc := 59) dX6_push_59 rfl ?_
    refine wr_aaload (M := mX6_push) (pc := 60) dX6_push_60 (by first | exact hm.1.1 | exact H.kQ | exact H.kH | exact H.kC | exact H.kU | exact H.kX | exact hR.1.2.1.2.1 | exact a2 | fail "kd") (by decide) rfl (by omega) (by decide) (by first | exact hm.2.1 | exact hm.2.2.1 | exact hm.2.2.2.1 | exact hm.2.2.2.2.1 | exact hm.2.2.2.2.2.1 | exact hm.2.2.2.2.2.2 | exact hR.1.2.1.1 | exact a1 | fail "rx") ?_
    refine wp_iload_n (M := mX6_push) (pc := 61) dX6_push_61 rfl ?_
    refine so_V1 (M := mX6_push) (pc := 62) cs_X6_push_159 rfl rfl (LE rfl) (LE rfl) dX6_push_62 (by first | exact hm.1.1 | exact H.kQ | exact H.kH | exact H.kC | exact H.kU | exact H.kX | exact hR.1.2.1.2.1 | exact a2 | fail "kd") ?_
    refine sp_X5_queueMessage a2 a4 a5 (hR.neTM (by omega)) v2 (hl hv) ?_
    refine kI ?_
    refine wp_ireturn (M := mX6_push) (pc := 65) rfl dX6_push_65 ?_
    exact k1 i hi9 rfl hw (hl hv) _ (H.q1 ((Fr.si (hR.ownM (by omega))).tr (Fr.si (hR.ownT (by omega)))) (hR.sPush hi9 z (hl hv))).wc (O1.tr (H.q1O ((Fr.si (hR.ownM (by omega))).tr (Fr.si (hR.ownT (by omega))))))
  · have hl : ¬ (1 : Int32) = 0 → (sT (xA X) i).2.1.length < 8 := fun _ => hf9 f30
    have hl0 : (1 : Int32) = 0 → ¬ (sT (xA X) i).2.1.length < 8 := fun e => absurd e (by decide)
    refine wp_iconst (M := mX6_push) (pc := 33) (v := 1) dX6_push_33 ci_1 ?_
    refine wp_goto (M := mX6_push) (pc := 34) (tgt := 38) dX6_push_34 rfl ?_
    refine so_SA1 (M := mX6_push) (pc := 38) (33, 492) cs_X6_push_64 rfl (LE rfl) (LE rfl) (LE rfl) (LE rfl) dX6_push_38 ?_
    refine sv_X6_requirePossible (fun hv => ?_) (fun hv => k3 i hi9 rfl hw (hl0 hv))
    refine kV ?_
    refine wp_aload_n (M := mX6_push) (pc := 41) dX6_push_41 rfl ?_
    refine wp_getR (M := mX6_push) (pc := 42) fa_X6_29 rfl dX6_push_42 (by first | exact hm.1.1 | exact H.kQ | exact H.kH | exact H.kC | exact H.kU | exact H.kX | exact hR.1.2.1.2.1 | exact a2 | fail "kd") (by first | exact hm.2.1 | exact hm.2.2.1 | exact hm.2.2.2.1 | exact hm.2.2.2.2.1 | exact hm.2.2.2.2.2.1 | exact hm.2.2.2.2.2.2 | exact hR.1.2.1.1 | exact a1 | fail "rx") ?_
    refine wp_aload_n (M := mX6_push) (pc := 45) dX6_push_45 rfl ?_
    refine wp_getR (M := mX6_push) (pc := 46) fa_X6_12 rfl dX6_push_46 (by first | exact hm.1.1 | exact H.kQ | exact H.kH | exact H.kC | exact H.kU | exact H.kX | exact hR.1.2.1.2.1 | exact a2 | fail "kd") (by first | exact hm.2.1 | exact hm.2.2.1 | exact hm.2.2.2.1 | exact hm.2.2.2.2.1 | exact hm.2.2.2.2.2.1 | exact hm.2.2.2.2.2.2 | exact hR.1.2.1.1 | exact a1 | fail "rx") ?_
    refine so_VA1 (M := mX6_push) (pc := 49) (0, 0) cs_X6_push_147 rfl (LE rfl) (LE rfl) (LE rfl) (LE rfl) dX6_push_49 (by first | exact hm.1.1 | exact H.kQ | exact H.kH | exact H.kC | exact H.kU | exact H.kX | exact hR.1.2.1.2.1 | exact a2 | fail "kd") ?_
    refine sb_remember H (fun h1 cs1 x1 H O1 => ?_)
    have hm := H.ob
    have hR := H.rep
    obtain ⟨a1, ⟨a2, a3⟩, ⟨a4, a5, a6⟩, a7, a8, a9⟩ := hR.1.2.2.2.1 i (by omega)
    obtain ⟨v1, v2, v3, v4, v5⟩ := hR.2.2.1 i hi9
    refine kV ?_
    refine wp_aload_n (M := mX6_push) (pc := 52) dX6_push_52 rfl ?_
    refine wp_getR (M := mX6_push) (pc := 53) fa_X6_12 rfl dX6_push_53 (by first | exact hm.1.1 | exact H.kQ | exact H.kH | exact H.kC | exact H.kU | exact H.kX | exact hR.1.2.1.2.1 | exact a2 | fail "kd") (by first | exact hm.2.1 | exact hm.2.2.1 | exact hm.2.2.2.1 | exact hm.2.2.2.2.1 | exact hm.2.2.2.2.2.1 | exact hm.2.2.2.2.2.2 | exact hR.1.2.1.1 | exact a1 | fail "rx") ?_
    refine wp_getR (M := mX6_push) (pc := 56) fa_X6_107 rfl dX6_push_56 (by first | exact hm.1.1 | exact H.kQ | exact H.kH | exact H.kC | exact H.kU | exact H.kX | exact hR.1.2.1.2.1 | exact a2 | fail "kd") (by first | exact hm.2.1 | exact hm.2.2.1 | exact hm.2.2.2.1 | exact hm.2.2.2.2.1 | exact hm.2.2.2.2.2.1 | exact hm.2.2.2.2.2.2 | exact hR.1.2.1.1 | exact a1 | fail "rx") ?_
    refine wp_iload_n (M := mX6_push) (pc := 59) dX6_push_59 rfl ?_
    refine wr_aaload (M := mX6_push) (pc := 60) dX6_push_60 (by first | exact hm.1.1 | exact H.kQ | exact H.kH | exact H.kC | exact H.kU | exact H.kX | exact hR.1.2.1.2.1 | exact a2 | fail "kd") (by decide) rfl (by omega) (by decide) (by first | exact hm.2.1 | exact hm.2.2.1 | exact hm.2.2.2.1 | exact hm.2.2.2.2.1 | exact hm.2.2.2.2.2.1 | exact hm.2.2.2.2.2.2 | exact hR.1.2.1.1 | exact a1 | fail "rx") ?_
    refine wp_iload_n (M := mX6_push) (pc := 61) dX6_push_61 rfl ?_
    refine so_V1 (M := mX6_push) (pc := 62) cs_X6_push_159 rfl rfl (LE rfl) (LE rfl) dX6_push_62 (by first | exact hm.1.1 | exact H.kQ | exact H.kH | exact H.kC | exact H.kU | exact H.kX | exact hR.1.2.1.2.1 | exact a2 | fail "kd") ?_
    refine sp_X5_queueMessage a2 a4 a5 (hR.neTM (by omega)) v2 (hl hv) ?_
    refine kI ?_
    refine wp_ireturn (M := mX6_push) (pc := 65) rfl dX6_push_65 ?_
    exact k1 i hi9 rfl hw (hl hv) _ (H.q1 ((Fr.si (hR.ownM (by omega))).tr (Fr.si (hR.ownT (by omega)))) (hR.sPush hi9 z (hl hv))).wc (O1.tr (H.q1O ((Fr.si (hR.ownM (by omega))).tr (Fr.si (hR.ownT (by omega))))))
set_option maxHeartbeats 4000000 in
set_option maxRecDepth 100000 in
theorem sp_X6_deposit {me : Nat} {X : Abs} {t z : Int32} (H : WC h me X) (k1 : ∀ i, i < sN (xA X) → t = nI i → wth z 1 9999 → fT (xA X) i 4 + z ≤ 99999 → ∀ h', WC h' me (actX X (wF (xA X) i 4 (fT (xA X) i 4 + z))) → Of h h' → Q (.inl (some (.int (fT (xA X) i 4 + z)))) h') (k0 : ¬ isT (xA X) t → Q (.inr "java/lang/IndexOutOfBoundsException") h) (k2 : isT (xA X) t → ¬ wth z 1 9999 → Q (.inr "java/lang/IllegalArgumentException") h) (k3 : ∀ i, i < sN (xA X) → t = nI i → wth z 1 9999 → ¬ fT (xA X) i 4 + z ≤ 99999 → Q (.inr "java/lang/IllegalStateException") h) : WPx E mX6_deposit 0 [some (.ref me), some (.int t), some (.int z), none] [] (36, 510) h Q := by
  obtain ⟨q, c, u, hi, sl, tx, ka, pa, fa, la, hsa, txa, x, l, lc, cs, ss, H⟩ := H
  have hm := H.ob
  have hR := H.rep
  have n6 := hR.2.1.1.2
  refine wp_aload_n (M := mX6_deposit) (pc := 0) dX6_deposit_0 rfl ?_
  refine wp_getR (M := mX6_deposit) (pc := 1) fa_X6_12 rfl dX6_deposit_1 (by first | exact hm.1.1 | exact H.kQ | exact H.kH | exact H.kC | exact H.kU | exact H.kX | exact hR.1.2.1.2.1 | exact a2 | fail "kd") (by first | exact hm.2.1 | exact hm.2.2.1 | exact hm.2.2.2.1 | exact hm.2.2.2.2.1 | exact hm.2.2.2.2.2.1 | exact hm.2.2.2.2.2.2 | exact hR.1.2.1.1 | exact a1 | fail "rx") ?_
  refine wp_iload_n (M := mX6_deposit) (pc := 4) dX6_deposit_4 rfl ?_
  refine so_V1 (M := mX6_deposit) (pc := 5) cs_X6_deposit_93 rfl rfl (LE rfl) (LE rfl) dX6_deposit_5 (by first | exact hm.1.1 | exact H.kQ | exact H.kH | exact H.kC | exact H.kU | exact H.kX | exact hR.1.2.1.2.1 | exact a2 | fail "kd") ?_
  refine sb_hasTenant hR ?_
  refine kI ?_
  refine so_SA1 (M := mX6_deposit) (pc := 8) (35, 504) cs_X6_deposit_97 rfl (LE rfl) (LE rfl) (LE rfl) (LE rfl) dX6_deposit_8 ?_
  refine sp_X6_requireThere (fun ht => ?_) (fun hw => k0 hw)
  refine kV ?_
  refine wp_iload_n (M := mX6_deposit) (pc := 11) dX6_deposit_11 rfl ?_
  refine wp_iconst (M := mX6_deposit) (pc := 12) (v := 1) dX6_deposit_12 ci_1 ?_
  refine wp_sipush (M := mX6_deposit) (pc := 13) (v := 9999) dX6_deposit_13 ch_9999 ?_
  refine so_S3 (M := mX6_deposit) (pc := 16) cs_X6_deposit_52 rfl rfl (LE rfl) (LE rfl) dX6_deposit_16 ?_
  refine sp_X6_isWithin ?_
  refine kI ?_
  refine so_SA1 (M := mX6_deposit) (pc := 19) (34, 498) cs_X6_deposit_56 rfl (LE rfl) (LE rfl) (LE rfl) (LE rfl) dX6_deposit_19 ?_
  refine sp_X6_requireArgument (fun hw => ?_) (fun hw => k2 ht hw)
  obtain ⟨i, hi9, rfl⟩ := ht
  obtain ⟨a1, ⟨a2, a3⟩, ⟨a4, a5, a6⟩, a7, a8, a9⟩ := hR.1.2.2.2.1 i (by omega)
  obtain ⟨v1, v2, v3, v4, v5⟩ := hR.2.2.1 i hi9
  have v4c : gi h (lT l i) 4 = fT (xA X) i 4 := v1 4 (by decide)
  refine kV ?_
  refine wp_aload_n (M := mX6_deposit) (pc := 22) dX6_deposit_22 rfl ?_
  refine wp_getR (M := mX6_deposit) (pc := 23) fa_X6_12 rfl dX6_deposit_23 (by first | exact hm.1.1 | exact H.kQ | exact H.kH | exact H.kC | exact H.kU | exact H.kX | exact hR.1.2.1.2.1 | exact a2 | fail "kd") (by first | exact hm.2.1 | exact hm.2.2.1 | exact hm.2.2.2.1 | exact hm.2.2.2.2.1 | exact hm.2.2.2.2.2.1 | exact hm.2.2.2.2.2.2 | exact hR.1.2.1.1 | exact a1 | fail "rx") ?_
  refine wp_getR (M := mX6_deposit) (pc := 26) fa_X6_107 rfl dX6_deposit_26 (by first | exact hm.1.1 | exact H.kQ | exact H.kH | exact H.kC | exact H.kU | exact H.kX | exact hR.1.2.1.2.1 | exact a2 | fail "kd") (by first | exact hm.2.1 | exact hm.2.2.1 | exact hm.2.2.2.1 | exact hm.2.2.2.2.1 | exact hm.2.2.2.2.2.1 | exact hm.2.2.2.2.2.2 | exact hR.1.2.1.1 | exact a1 | fail "rx") ?_
  refine wp_iload_n (M := mX6_deposit) (pc := 29) dX6_deposit_29 rfl ?_
  refine wr_aaload (M := mX6_deposit) (pc := 30) dX6_deposit_30 (by first | exact hm.1.1 | exact H.kQ | exact H.kH | exact H.kC | exact H.kU | exact H.kX | exact hR.1.2.1.2.1 | exact a2 | fail "kd") (by decide) rfl (by omega) (by decide) (by first | exact hm.2.1 | exact hm.2.2.1 | exact hm.2.2.2.1 | exact hm.2.2.2.2.1 | exact hm.2.2.2.2.2.1 | exact hm.2.2.2.2.2.2 | exact hR.1.2.1.1 | exact a1 | fail "rx") ?_
  refine so_astore_n (M := mX6_deposit) (pc := 31) (lo' := [_, _, _, _]) dX6_deposit_31 (LE rfl) (LE rfl) (Or.inr rfl) rfl ?_
  refine wp_aload_n (M := mX6_deposit) (pc := 32) dX6_deposit_32 rfl ?_
  refine wp_getI (M := mX6_deposit) (pc := 33) fa_X6_162 rfl dX6_deposit_33 (by first | exact hm.1.1 | exact H.kQ | exact H.kH | exact H.kC | exact H.kU | exact H.kX | exact hR.1.2.1.2.1 | exact a2 | fail "kd") ?_
  refine wp_iload_n (M := mX6_deposit) (pc := 36) dX6_deposit_36 rfl ?_
  refine wp_iadd (M := mX6_deposit) (pc := 37) dX6_deposit_37 ?_
  refine wp_ldc (M := mX6_deposit) (pc := 38) wv_X6_165 dX6_deposit_38 ?_
  refine wp_icmp_gt (M := mX6_deposit) (pc := 40) (tgt := 47) dX6_deposit_40 rfl (fun t40 => ?_) (fun f40 => ?_)
  · rw [v4c] at t40
    have hl : ¬ (0 : Int32) = 0 → fT (xA X) i 4 + z ≤ 99999 := fun e => absurd rfl e
    have hl0 : (0 : Int32) = 0 → ¬ fT (xA X) i 4 + z ≤ 99999 := fun _ => Int32.not_le.mpr t40
    refine wp_iconst (M := mX6_deposit) (pc := 47) (v := 0) dX6_deposit_47 ci_0 ?_
    refine so_SA1 (M := mX6_deposit) (pc := 48) (33, 492) cs_X6_deposit_64 rfl (LE rfl) (LE rfl) (LE rfl) (LE rfl) dX6_deposit_48 ?_
    refine sv_X6_requirePossible (fun hv => ?_) (fun hv => k3 i hi9 rfl hw (hl0 hv))
    refine kV ?_
    refine wp_aload_n (M := mX6_deposit) (pc := 51) dX6_deposit_51 rfl ?_
    refine wp_getR (M := mX6_deposit) (pc := 52) fa_X6_29 rfl dX6_deposit_52 (by first | exact hm.1.1 | exact H.kQ | exact H.kH | exact H.kC | exact H.kU | exact H.kX | exact hR.1.2.1.2.1 | exact a2 | fail "kd") (by first | exact hm.2.1 | exact hm.2.2.1 | exact hm.2.2.2.1 | exact hm.2.2.2.2.1 | exact hm.2.2.2.2.2.1 | exact hm.2.2.2.2.2.2 | exact hR.1.2.1.1 | exact a1 | fail "rx") ?_
    refine wp_aload_n (M := mX6_deposit) (pc := 55) dX6_deposit_55 rfl ?_
    refine wp_getR (M := mX6_deposit) (pc := 56) fa_X6_12 rfl dX6_deposit_56 (by first | exact hm.1.1 | exact H.kQ | exact H.kH | exact H.kC | exact H.kU | exact H.kX | exact hR.1.2.1.2.1 | exact a2 | fail "kd") (by first | exact hm.2.1 | exact hm.2.2.1 | exact hm.2.2.2.1 | exact hm.2.2.2.2.1 | exact hm.2.2.2.2.2.1 | exact hm.2.2.2.2.2.2 | exact hR.1.2.1.1 | exact a1 | fail "rx") ?_
    refine so_VA1 (M := mX6_deposit) (pc := 59) (0, 0) cs_X6_deposit_147 rfl (LE rfl) (LE rfl) (LE rfl) (LE rfl) dX6_deposit_59 (by first | exact hm.1.1 | exact H.kQ | exact H.kH | exact H.kC | exact H.kU | exact H.kX | exact hR.1.2.1.2.1 | exact a2 | fail "kd") ?_
    refine sb_remember H (fun h1 cs1 x1 H O1 => ?_)
    have hm := H.ob
    have hR := H.rep
    obtain ⟨a1, ⟨a2, a3⟩, ⟨a4, a5, a6⟩, a7, a8, a9⟩ := hR.1.2.2.2.1 i (by omega)
    obtain ⟨v1, v2, v3, v4, v5⟩ := hR.2.2.1 i hi9
    have v4c : gi h1 (lT l i) 4 = fT (xA X) i 4 := v1 4 (by decide)
    refine kV ?_
    refine wp_aload_n (M := mX6_deposit) (pc := 62) dX6_deposit_62 rfl ?_
    refine wp_dup (M := mX6_deposit) (pc := 63) dX6_deposit_63 rfl ?_
    refine wp_getI (M := mX6_deposit) (pc := 64) fa_X6_162 rfl dX6_deposit_64 (by first | exact hm.1.1 | exact H.kQ | exact H.kH | exact H.kC | exact H.kU | exact H.kX | exact hR.1.2.1.2.1 | exact a2 | fail "kd") ?_
    refine wp_iload_n (M := mX6_deposit) (pc := 67) dX6_deposit_67 rfl ?_
    refine wp_iadd (M := mX6_deposit) (pc := 68) dX6_deposit_68 ?_
    refine wp_putI (M := mX6_deposit) (pc := 69) fa_X6_162 (Or.inl rfl) dX6_deposit_69 (by first | exact hm.1.1 | exact H.kQ | exact H.kH | exact H.kC | exact H.kU | exact H.kX | exact hR.1.2.1.2.1 | exact a2 | fail "kd") ?_
    refine wp_aload_n (M := mX6_deposit) (pc := 72) dX6_deposit_72 rfl ?_
    refine wp_getI (M := mX6_deposit) (pc := 73) fa_X6_162 rfl dX6_deposit_73 (by first | exact hm.1.1 | exact H.kQ | exact H.kH | exact H.kC | exact H.kU | exact H.kX | exact hR.1.2.1.2.1 | exact a2 | fail "kd") ?_
    refine wp_ireturn (M := mX6_deposit) (pc := 76) rfl dX6_deposit_76 ?_
    rw [gi_si_same, v4c]
    exact k1 i hi9 rfl hw (hl hv) _ (H.q1 (Fr.si (hR.ownT (by omega))) (hR.sF hi9 (by decide) _)).wc (O1.tr (H.q1O (Fr.si (hR.ownT (by omega)))))
  · rw [v4c] at f40
    have hl : ¬ (1 : Int32) = 0 → fT (xA X) i 4 + z ≤ 99999 := fun _ => Int32.not_lt.mp f40
    have hl0 : (1 : Int32) = 0 → ¬ fT (xA X) i 4 + z ≤ 99999 := fun e => absurd e (by decide)
    refine wp_iconst (M := mX6_deposit) (pc := 43) (v := 1) dX6_deposit_43 ci_1 ?_
    refine wp_goto (M := mX6_deposit) (pc := 44) (tgt := 48) dX6_deposit_44 rfl ?_
    refine so_SA1 (M := mX6_deposit) (pc := 48) (33, 492) cs_X6_deposit_64 rfl (LE rfl) (LE rfl) (LE rfl) (LE rfl) dX6_deposit_48 ?_
    refine sv_X6_requirePossible (fun hv => ?_) (fun hv => k3 i hi9 rfl hw (hl0 hv))
    refine kV ?_
    refine wp_aload_n (M := mX6_deposit) (pc := 51) dX6_deposit_51 rfl ?_
    refine wp_getR (M := mX6_deposit) (pc := 52) fa_X6_29 rfl dX6_deposit_52 (by first | exact hm.1.1 | exact H.kQ | exact H.kH | exact H.kC | exact H.kU | exact H.kX | exact hR.1.2.1.2.1 | exact a2 | fail "kd") (by first | exact hm.2.1 | exact hm.2.2.1 | exact hm.2.2.2.1 | exact hm.2.2.2.2.1 | exact hm.2.2.2.2.2.1 | exact hm.2.2.2.2.2.2 | exact hR.1.2.1.1 | exact a1 | fail "rx") ?_
    refine wp_aload_n (M := mX6_deposit) (pc := 55) dX6_deposit_55 rfl ?_
    refine wp_getR (M := mX6_deposit) (pc := 56) fa_X6_12 rfl dX6_deposit_56 (by first | exact hm.1.1 | exact H.kQ | exact H.kH | exact H.kC | exact H.kU | exact H.kX | exact hR.1.2.1.2.1 | exact a2 | fail "kd") (by first | exact hm.2.1 | exact hm.2.2.1 | exact hm.2.2.2.1 | exact hm.2.2.2.2.1 | exact hm.2.2.2.2.2.1 | exact hm.2.2.2.2.2.2 | exact hR.1.2.1.1 | exact a1 | fail "rx") ?_
    refine so_VA1 (M := mX6_deposit) (pc := 59) (0, 0) cs_X6_deposit_147 rfl (LE rfl) (LE rfl) (LE rfl) (LE rfl) dX6_deposit_59 (by first | exact hm.1.1 | exact H.kQ | exact H.kH | exact H.kC | exact H.kU | exact H.kX | exact hR.1.2.1.2.1 | exact a2 | fail "kd") ?_
    refine sb_remember H (fun h1 cs1 x1 H O1 => ?_)
    have hm := H.ob
    have hR := H.rep
    obtain ⟨a1, ⟨a2, a3⟩, ⟨a4, a5, a6⟩, a7, a8, a9⟩ := hR.1.2.2.2.1 i (by omega)
    obtain ⟨v1, v2, v3, v4, v5⟩ := hR.2.2.1 i hi9
    have v4c : gi h1 (lT l i) 4 = fT (xA X) i 4 := v1 4 (by decide)
    refine kV ?_
    refine wp_aload_n (M := mX6_deposit) (pc := 62) dX6_deposit_62 rfl ?_
    refine wp_dup (M := mX6_deposit) (pc := 63) dX6_deposit_63 rfl ?_
    refine wp_getI (M := mX6_deposit) (pc := 64) fa_X6_162 rfl dX6_deposit_64 (by first | exact hm.1.1 | exact H.kQ | exact H.kH | exact H.kC | exact H.kU | exact H.kX | exact hR.1.2.1.2.1 | exact a2 | fail "kd") ?_
    refine wp_iload_n (M := mX6_deposit) (pc := 67) dX6_deposit_67 rfl ?_
    refine wp_iadd (M := mX6_deposit) (pc := 68) dX6_deposit_68 ?_
    refine wp_putI (M := mX6_deposit) (pc := 69) fa_X6_162 (Or.inl rfl) dX6_deposit_69 (by first | exact hm.1.1 | exact H.kQ | exact H.kH | exact H.kC | exact H.kU | exact H.kX | exact hR.1.2.1.2.1 | exact a2 | fail "kd") ?_
    refine wp_aload_n (M := mX6_deposit) (pc := 72) dX6_deposit_72 rfl ?_
    refine wp_getI (M := mX6_deposit) (pc := 73) fa_X6_162 rfl dX6_deposit_73 (by first | exact hm.1.1 | exact H.kQ | exact H.kH | exact H.kC | exact H.kU | exact H.kX | exact hR.1.2.1.2.1 | exact a2 | fail "kd") ?_
    refine wp_ireturn (M := mX6_deposit) (pc := 76) rfl dX6_deposit_76 ?_
    rw [gi_si_same, v4c]
    exact k1 i hi9 rfl hw (hl hv) _ (H.q1 (Fr.si (hR.ownT (by omega))) (hR.sF hi9 (by decide) _)).wc (O1.tr (H.q1O (Fr.si (hR.ownT (by omega)))))
set_option maxHeartbeats 4000000 in
set_option maxRecDepth 100000 in
theorem sp_X6_setRate {me : Nat} {X : Abs} {t z : Int32} (H : WC h me X) (k1 : ∀ i, i < sN (xA X) → t = nI i → wth z 0 99 → ∀ h', WC h' me (actX X (wF (xA X) i 1 z)) → Of h h' → Q (.inl (some (.int (fT (xA X) i 1)))) h') (k0 : ¬ isT (xA X) t → Q (.inr "java/lang/IndexOutOfBoundsException") h) (k2 : isT (xA X) t → ¬ wth z 0 99 → Q (.inr "java/lang/IllegalArgumentException") h) : WPx E mX6_setRate 0 [some (.ref me), some (.int t), some (.int z), none] [] (35, 504) h Q := by
  obtain ⟨q, c, u, hi, sl, tx, ka, pa, fa, la, hsa, txa, x, l, lc, cs, ss, H⟩ := H
  have hm := H.ob
  have hR := H.rep
  have n6 := hR.2.1.1.2
  refine wp_aload_n (M := mX6_setRate) (pc := 0) dX6_setRate_0 rfl ?_
  refine wp_getR (M := mX6_setRate) (pc := 1) fa_X6_12 rfl dX6_setRate_1 (by first | exact hm.1.1 | exact H.kQ | exact H.kH | exact H.kC | exact H.kU | exact H.kX | exact hR.1.2.1.2.1 | exact a2 | fail "kd") (by first | exact hm.2.1 | exact hm.2.2.1 | exact hm.2.2.2.1 | exact hm.2.2.2.2.1 | exact hm.2.2.2.2.2.1 | exact hm.2.2.2.2.2.2 | exact hR.1.2.1.1 | exact a1 | fail "rx") ?_
  refine wp_iload_n (M := mX6_setRate) (pc := 4) dX6_setRate_4 rfl ?_
  refine so_V1 (M := mX6_setRate) (pc := 5) cs_X6_setRate_93 rfl rfl (LE rfl) (LE rfl) dX6_setRate_5 (by first | exact hm.1.1 | exact H.kQ | exact H.kH | exact H.kC | exact H.kU | exact H.kX | exact hR.1.2.1.2.1 | exact a2 | fail "kd") ?_
  refine sb_hasTenant hR ?_
  refine kI ?_
  refine so_SA1 (M := mX6_setRate) (pc := 8) (34, 498) cs_X6_setRate_97 rfl (LE rfl) (LE rfl) (LE rfl) (LE rfl) dX6_setRate_8 ?_
  refine sp_X6_requireThere (fun ht => ?_) (fun hw => k0 hw)
  refine kV ?_
  refine wp_iload_n (M := mX6_setRate) (pc := 11) dX6_setRate_11 rfl ?_
  refine wp_iconst (M := mX6_setRate) (pc := 12) (v := 0) dX6_setRate_12 ci_0 ?_
  refine wp_bipush (M := mX6_setRate) (pc := 13) (v := 99) dX6_setRate_13 cb_99 ?_
  refine so_S3 (M := mX6_setRate) (pc := 15) cs_X6_setRate_52 rfl rfl (LE rfl) (LE rfl) dX6_setRate_15 ?_
  refine sp_X6_isWithin ?_
  refine kI ?_
  refine so_SA1 (M := mX6_setRate) (pc := 18) (33, 492) cs_X6_setRate_56 rfl (LE rfl) (LE rfl) (LE rfl) (LE rfl) dX6_setRate_18 ?_
  refine sp_X6_requireArgument (fun hw => ?_) (fun hw => k2 ht hw)
  obtain ⟨i, hi9, rfl⟩ := ht
  refine kV ?_
  refine wp_aload_n (M := mX6_setRate) (pc := 21) dX6_setRate_21 rfl ?_
  refine wp_getR (M := mX6_setRate) (pc := 22) fa_X6_29 rfl dX6_setRate_22 (by first | exact hm.1.1 | exact H.kQ | exact H.kH | exact H.kC | exact H.kU | exact H.kX | exact hR.1.2.1.2.1 | exact a2 | fail "kd") (by first | exact hm.2.1 | exact hm.2.2.1 | exact hm.2.2.2.1 | exact hm.2.2.2.2.1 | exact hm.2.2.2.2.2.1 | exact hm.2.2.2.2.2.2 | exact hR.1.2.1.1 | exact a1 | fail "rx") ?_
  refine wp_aload_n (M := mX6_setRate) (pc := 25) dX6_setRate_25 rfl ?_
  refine wp_getR (M := mX6_setRate) (pc := 26) fa_X6_12 rfl dX6_setRate_26 (by first | exact hm.1.1 | exact H.kQ | exact H.kH | exact H.kC | exact H.kU | exact H.kX | exact hR.1.2.1.2.1 | exact a2 | fail "kd") (by first | exact hm.2.1 | exact hm.2.2.1 | exact hm.2.2.2.1 | exact hm.2.2.2.2.1 | exact hm.2.2.2.2.2.1 | exact hm.2.2.2.2.2.2 | exact hR.1.2.1.1 | exact a1 | fail "rx") ?_
  refine so_VA1 (M := mX6_setRate) (pc := 29) (0, 0) cs_X6_setRate_147 rfl (LE rfl) (LE rfl) (LE rfl) (LE rfl) dX6_setRate_29 (by first | exact hm.1.1 | exact H.kQ | exact H.kH | exact H.kC | exact H.kU | exact H.kX | exact hR.1.2.1.2.1 | exact a2 | fail "kd") ?_
  refine sb_remember H (fun h1 cs1 x1 H O1 => ?_)
  have hm := H.ob
  have hR := H.rep
  obtain ⟨a1, ⟨a2, a3⟩, ⟨a4, a5, a6⟩, a7, a8, a9⟩ := hR.1.2.2.2.1 i (by omega)
  obtain ⟨v1, v2, v3, v4, v5⟩ := hR.2.2.1 i hi9
  refine kV ?_
  refine wp_aload_n (M := mX6_setRate) (pc := 32) dX6_setRate_32 rfl ?_
  refine wp_getR (M := mX6_setRate) (pc := 33) fa_X6_12 rfl dX6_setRate_33 (by first | exact hm.1.1 | exact H.kQ | exact H.kH | exact H.kC | exact H.kU | exact H.kX | exact hR.1.2.1.2.1 | exact a2 | fail "kd") (by first | exact hm.2.1 | exact hm.2.2.1 | exact hm.2.2.2.1 | exact hm.2.2.2.2.1 | exact hm.2.2.2.2.2.1 | exact hm.2.2.2.2.2.2 | exact hR.1.2.1.1 | exact a1 | fail "rx") ?_
  refine wp_getR (M := mX6_setRate) (pc := 36) fa_X6_107 rfl dX6_setRate_36 (by first | exact hm.1.1 | exact H.kQ | exact H.kH | exact H.kC | exact H.kU | exact H.kX | exact hR.1.2.1.2.1 | exact a2 | fail "kd") (by first | exact hm.2.1 | exact hm.2.2.1 | exact hm.2.2.2.1 | exact hm.2.2.2.2.1 | exact hm.2.2.2.2.2.1 | exact hm.2.2.2.2.2.2 | exact hR.1.2.1.1 | exact a1 | fail "rx") ?_
  refine wp_iload_n (M := mX6_setRate) (pc := 39) dX6_setRate_39 rfl ?_
  refine wr_aaload (M := mX6_setRate) (pc := 40) dX6_setRate_40 (by first | exact hm.1.1 | exact H.kQ | exact H.kH | exact H.kC | exact H.kU | exact H.kX | exact hR.1.2.1.2.1 | exact a2 | fail "kd") (by decide) rfl (by omega) (by decide) (by first | exact hm.2.1 | exact hm.2.2.1 | exact hm.2.2.2.1 | exact hm.2.2.2.2.1 | exact hm.2.2.2.2.2.1 | exact hm.2.2.2.2.2.2 | exact hR.1.2.1.1 | exact a1 | fail "rx") ?_
  refine wp_getI (M := mX6_setRate) (pc := 41) fa_X6_170 rfl dX6_setRate_41 (by first | exact hm.1.1 | exact H.kQ | exact H.kH | exact H.kC | exact H.kU | exact H.kX | exact hR.1.2.1.2.1 | exact a2 | fail "kd") ?_
  refine so_istore_n (M := mX6_setRate) (pc := 44) (lo' := [_, _, _, _]) dX6_setRate_44 (LE rfl) (LE rfl) (Or.inr rfl) rfl ?_
  refine wp_aload_n (M := mX6_setRate) (pc := 45) dX6_setRate_45 rfl ?_
  refine wp_getR (M := mX6_setRate) (pc := 46) fa_X6_12 rfl dX6_setRate_46 (by first | exact hm.1.1 | exact H.kQ | exact H.kH | exact H.kC | exact H.kU | exact H.kX | exact hR.1.2.1.2.1 | exact a2 | fail "kd") (by first | exact hm.2.1 | exact hm.2.2.1 | exact hm.2.2.2.1 | exact hm.2.2.2.2.1 | exact hm.2.2.2.2.2.1 | exact hm.2.2.2.2.2.2 | exact hR.1.2.1.1 | exact a1 | fail "rx") ?_
  refine wp_getR (M := mX6_setRate) (pc := 49) fa_X6_107 rfl dX6_setRate_49 (by first | exact hm.1.1 | exact H.kQ | exact H.kH | exact H.kC | exact H.kU | exact H.kX | exact hR.1.2.1.2.1 | exact a2 | fail "kd") (by first | exact hm.2.1 | exact hm.2.2.1 | exact hm.2.2.2.1 | exact hm.2.2.2.2.1 | exact hm.2.2.2.2.2.1 | exact hm.2.2.2.2.2.2 | exact hR.1.2.1.1 | exact a1 | fail "rx") ?_
  refine wp_iload_n (M := mX6_setRate) (pc := 52) dX6_setRate_52 rfl ?_
  refine wr_aaload (M := mX6_setRate) (pc := 53) dX6_setRate_53 (by first | exact hm.1.1 | exact H.kQ | exact H.kH | exact H.kC | exact H.kU | exact H.kX | exact hR.1.2.1.2.1 | exact a2 | fail "kd") (by decide) rfl (by omega) (by decide) (by first | exact hm.2.1 | exact hm.2.2.1 | exact hm.2.2.2.1 | exact hm.2.2.2.2.1 | exact hm.2.2.2.2.2.1 | exact hm.2.2.2.2.2.2 | exact hR.1.2.1.1 | exact a1 | fail "rx") ?_
  refine wp_iload_n (M := mX6_setRate) (pc := 54) dX6_setRate_54 rfl ?_
  refine wp_putI (M := mX6_setRate) (pc := 55) fa_X6_170 (Or.inl rfl) dX6_setRate_55 (by first | exact hm.1.1 | exact H.kQ | exact H.kH | exact H.kC | exact H.kU | exact H.kX | exact hR.1.2.1.2.1 | exact a2 | fail "kd") ?_
  refine wp_iload_n (M := mX6_setRate) (pc := 58) dX6_setRate_58 rfl ?_
  refine wp_ireturn (M := mX6_setRate) (pc := 59) rfl dX6_setRate_59 ?_
  rw [v1 1 (by decide)]
  exact k1 i hi9 rfl hw _ (H.q1 (Fr.si (hR.ownT (by omega))) (hR.sF hi9 (by decide) _)).wc (O1.tr (H.q1O (Fr.si (hR.ownT (by omega)))))
set_option maxHeartbeats 4000000 in
set_option maxRecDepth 100000 in
theorem sp_X6_setWidth {me : Nat} {X : Abs} {z : Int32} (H : WC h me X) (k1 : wth z 1 999 → ∀ h', WC h' me (actX X (wG (xA X) 1 z)) → Of h h' → Q (.inl (some (.int (sG (xA X) 1)))) h') (k0 : ¬ wth z 1 999 → Q (.inr "java/lang/IllegalArgumentException") h) : WPx E mX6_setWidth 0 [some (.ref me), some (.int z), none] [] (34, 498) h Q := by
  obtain ⟨q, c, u, hi, sl, tx, ka, pa, fa, la, hsa, txa, x, l, lc, cs, ss, H⟩ := H
  have hm := H.ob
  have hR := H.rep
  have n6 := hR.2.1.1.2
  refine wp_iload_n (M := mX6_setWidth) (pc := 0) dX6_setWidth_0 rfl ?_
  refine wp_iconst (M := mX6_setWidth) (pc := 1) (v := 1) dX6_setWidth_1 ci_1 ?_
  refine wp_sipush (M := mX6_setWidth) (pc := 2) (v := 999) dX6_setWidth_2 ch_999 ?_
  refine so_S3 (M := mX6_setWidth) (pc := 5) cs_X6_setWidth_52 rfl rfl (LE rfl) (LE rfl) dX6_setWidth_5 ?_
  refine sp_X6_isWithin ?_
  refine kI ?_
  refine so_SA1 (M := mX6_setWidth) (pc := 8) (33, 492) cs_X6_setWidth_56 rfl (LE rfl) (LE rfl) (LE rfl) (LE rfl) dX6_setWidth_8 ?_
  refine sp_X6_requireArgument (fun hw => ?_) (fun hw => k0 hw)
  refine kV ?_
  refine wp_aload_n (M := mX6_setWidth) (pc := 11) dX6_setWidth_11 rfl ?_
  refine wp_getR (M := mX6_setWidth) (pc := 12) fa_X6_29 rfl dX6_setWidth_12 (by first | exact hm.1.1 | exact H.kQ | exact H.kH | exact H.kC | exact H.kU | exact H.kX | exact hR.1.2.1.2.1 | exact a2 | fail "kd") (by first | exact hm.2.1 | exact hm.2.2.1 | exact hm.2.2.2.1 | exact hm.2.2.2.2.1 | exact hm.2.2.2.2.2.1 | exact hm.2.2.2.2.2.2 | exact hR.1.2.1.1 | exact a1 | fail "rx") ?_
  refine wp_aload_n (M := mX6_setWidth) (pc := 15) dX6_setWidth_15 rfl ?_
  refine wp_getR (M := mX6_setWidth) (pc := 16) fa_X6_12 rfl dX6_setWidth_16 (by first | exact hm.1.1 | exact H.kQ | exact H.kH | exact H.kC | exact H.kU | exact H.kX | exact hR.1.2.1.2.1 | exact a2 | fail "kd") (by first | exact hm.2.1 | exact hm.2.2.1 | exact hm.2.2.2.1 | exact hm.2.2.2.2.1 | exact hm.2.2.2.2.2.1 | exact hm.2.2.2.2.2.2 | exact hR.1.2.1.1 | exact a1 | fail "rx") ?_
  refine so_VA1 (M := mX6_setWidth) (pc := 19) (0, 0) cs_X6_setWidth_147 rfl (LE rfl) (LE rfl) (LE rfl) (LE rfl) dX6_setWidth_19 (by first | exact hm.1.1 | exact H.kQ | exact H.kH | exact H.kC | exact H.kU | exact H.kX | exact hR.1.2.1.2.1 | exact a2 | fail "kd") ?_
  refine sb_remember H (fun h1 cs1 x1 H O1 => ?_)
  have hm := H.ob
  have hR := H.rep
  refine kV ?_
  refine wp_aload_n (M := mX6_setWidth) (pc := 22) dX6_setWidth_22 rfl ?_
  refine wp_getR (M := mX6_setWidth) (pc := 23) fa_X6_12 rfl dX6_setWidth_23 (by first | exact hm.1.1 | exact H.kQ | exact H.kH | exact H.kC | exact H.kU | exact H.kX | exact hR.1.2.1.2.1 | exact a2 | fail "kd") (by first | exact hm.2.1 | exact hm.2.2.1 | exact hm.2.2.2.1 | exact hm.2.2.2.2.1 | exact hm.2.2.2.2.2.1 | exact hm.2.2.2.2.2.2 | exact hR.1.2.1.1 | exact a1 | fail "rx") ?_
  refine wp_getI (M := mX6_setWidth) (pc := 26) fa_X6_173 rfl dX6_setWidth_26 (by first | exact hm.1.1 | exact H.kQ | exact H.kH | exact H.kC | exact H.kU | exact H.kX | exact hR.1.2.1.2.1 | exact a2 | fail "kd") ?_
  refine so_istore_n (M := mX6_setWidth) (pc := 29) (lo' := [_, _, _]) dX6_setWidth_29 (LE rfl) (LE rfl) (Or.inr rfl) rfl ?_
  refine wp_aload_n (M := mX6_setWidth) (pc := 30) dX6_setWidth_30 rfl ?_
  refine wp_getR (M := mX6_setWidth) (pc := 31) fa_X6_12 rfl dX6_setWidth_31 (by first | exact hm.1.1 | exact H.kQ | exact H.kH | exact H.kC | exact H.kU | exact H.kX | exact hR.1.2.1.2.1 | exact a2 | fail "kd") (by first | exact hm.2.1 | exact hm.2.2.1 | exact hm.2.2.2.1 | exact hm.2.2.2.2.1 | exact hm.2.2.2.2.2.1 | exact hm.2.2.2.2.2.2 | exact hR.1.2.1.1 | exact a1 | fail "rx") ?_
  refine wp_iload_n (M := mX6_setWidth) (pc := 34) dX6_setWidth_34 rfl ?_
  refine wp_putI (M := mX6_setWidth) (pc := 35) fa_X6_173 (Or.inl rfl) dX6_setWidth_35 (by first | exact hm.1.1 | exact H.kQ | exact H.kH | exact H.kC | exact H.kU | exact H.kX | exact hR.1.2.1.2.1 | exact a2 | fail "kd") ?_
  refine wp_iload_n (M := mX6_setWidth) (pc := 38) dX6_setWidth_38 rfl ?_
  refine wp_ireturn (M := mX6_setWidth) (pc := 39) rfl dX6_setWidth_39 ?_
  rw [hR.2.1.2.2.1]
  exact k1 hw _ (H.q1 (Fr.si hR.ownS) (hR.sWidth z)).wc (O1.tr (H.q1O (Fr.si hR.ownS)))
set_option maxHeartbeats 4000000 in
set_option maxRecDepth 100000 in
theorem sp_X6_tick {me : Nat} {X : Abs} {w : Int32} (H : WC h me X) (hok : okT (xA X) 99) (k1 : ∀ n, 1 ≤ n → n ≤ 50 → w = nI n → ∀ h', WC h' me (actX X (tks n (xA X)).1) → Of h h' → Q (.inl (some (.int (tks n (xA X)).2))) h') (k0 : ¬ wth w 1 50 → Q (.inr "java/lang/IllegalArgumentException") h) : WPx E mX6_tick 0 [some (.ref me), some (.int w)] [] (34, 498) h Q := by
  obtain ⟨q, c, u, hi, sl, tx, ka, pa, fa, la, hsa, txa, x, l, lc, cs, ss, H⟩ := H
  have hm := H.ob
  have hR := H.rep
  have n6 := hR.2.1.1.2
  refine wp_iload_n (M := mX6_tick) (pc := 0) dX6_tick_0 rfl ?_
  refine wp_iconst (M := mX6_tick) (pc := 1) (v := 1) dX6_tick_1 ci_1 ?_
  refine wp_bipush (M := mX6_tick) (pc := 2) (v := 50) dX6_tick_2 cb_50 ?_
  refine so_S3 (M := mX6_tick) (pc := 4) cs_X6_tick_52 rfl rfl (LE rfl) (LE rfl) dX6_tick_4 ?_
  refine sp_X6_isWithin ?_
  refine kI ?_
  refine so_SA1 (M := mX6_tick) (pc := 7) (33, 492) cs_X6_tick_56 rfl (LE rfl) (LE rfl) (LE rfl) (LE rfl) dX6_tick_7 ?_
  refine sp_X6_requireArgument (fun hw => ?_) (fun hw => k0 hw)
  obtain ⟨n, hn1, hn2, rfl⟩ := wth_1 (b := 50) (by decide) hw
  refine kV ?_
  refine wp_aload_n (M := mX6_tick) (pc := 10) dX6_tick_10 rfl ?_
  refine wp_getR (M := mX6_tick) (pc := 11) fa_X6_29 rfl dX6_tick_11 (by first | exact hm.1.1 | exact H.kQ | exact H.kH | exact H.kC | exact H.kU | exact H.kX | exact hR.1.2.1.2.1 | exact a2 | fail "kd") (by first | exact hm.2.1 | exact hm.2.2.1 | exact hm.2.2.2.1 | exact hm.2.2.2.2.1 | exact hm.2.2.2.2.2.1 | exact hm.2.2.2.2.2.2 | exact hR.1.2.1.1 | exact a1 | fail "rx") ?_
  refine wp_aload_n (M := mX6_tick) (pc := 14) dX6_tick_14 rfl ?_
  refine wp_getR (M := mX6_tick) (pc := 15) fa_X6_12 rfl dX6_tick_15 (by first | exact hm.1.1 | exact H.kQ | exact H.kH | exact H.kC | exact H.kU | exact H.kX | exact hR.1.2.1.2.1 | exact a2 | fail "kd") (by first | exact hm.2.1 | exact hm.2.2.1 | exact hm.2.2.2.1 | exact hm.2.2.2.2.1 | exact hm.2.2.2.2.2.1 | exact hm.2.2.2.2.2.2 | exact hR.1.2.1.1 | exact a1 | fail "rx") ?_
  refine so_VA1 (M := mX6_tick) (pc := 18) (0, 0) cs_X6_tick_147 rfl (LE rfl) (LE rfl) (LE rfl) (LE rfl) dX6_tick_18 (by first | exact hm.1.1 | exact H.kQ | exact H.kH | exact H.kC | exact H.kU | exact H.kX | exact hR.1.2.1.2.1 | exact a2 | fail "kd") ?_
  refine sb_remember H (fun h1 cs1 x1 H O1 => ?_)
  have hm := H.ob
  have hR := H.rep
  refine kV ?_
  refine wp_aload_n (M := mX6_tick) (pc := 21) dX6_tick_21 rfl ?_
  refine wp_getR (M := mX6_tick) (pc := 22) fa_X6_12 rfl dX6_tick_22 (by first | exact hm.1.1 | exact H.kQ | exact H.kH | exact H.kC | exact H.kU | exact H.kX | exact hR.1.2.1.2.1 | exact a2 | fail "kd") (by first | exact hm.2.1 | exact hm.2.2.1 | exact hm.2.2.2.1 | exact hm.2.2.2.2.1 | exact hm.2.2.2.2.2.1 | exact hm.2.2.2.2.2.2 | exact hR.1.2.1.1 | exact a1 | fail "rx") ?_
  refine wp_iload_n (M := mX6_tick) (pc := 25) dX6_tick_25 rfl ?_
  refine wp_aload_n (M := mX6_tick) (pc := 26) dX6_tick_26 rfl ?_
  refine wp_getR (M := mX6_tick) (pc := 27) fa_X6_22 rfl dX6_tick_27 (by first | exact hm.1.1 | exact H.kQ | exact H.kH | exact H.kC | exact H.kU | exact H.kX | exact hR.1.2.1.2.1 | exact a2 | fail "kd") (by first | exact hm.2.1 | exact hm.2.2.1 | exact hm.2.2.2.1 | exact hm.2.2.2.2.1 | exact hm.2.2.2.2.2.1 | exact hm.2.2.2.2.2.2 | exact hR.1.2.1.1 | exact a1 | fail "rx") ?_
  refine so_V2 (M := mX6_tick) (pc := 30) cs_X6_tick_166 rfl rfl (LE rfl) (LE rfl) dX6_tick_30 (by first | exact hm.1.1 | exact H.kQ | exact H.kH | exact H.kC | exact H.kU | exact H.kX | exact hR.1.2.1.2.1 | exact a2 | fail "kd") ?_
  refine sp_X4_advance hR H.au (nk H.kU H.kQ (by simp)) hok.1 (by omega) (by have := hok.2.1; show sTi (xA X) + n + 100 < 2 ^ 30; omega) hok.2.2.1 (fun j hj => hok.2.2.2 j (by omega)) (fun h2 l2 e2 R2 A2 F2 => ?_)
  refine kI ?_
  refine wp_ireturn (M := mX6_tick) (pc := 33) rfl dX6_tick_33 ?_
  exact k1 n hn1 hn2 rfl h2 (H.qu F2 R2 A2).wc (O1.tr (H.quO F2))
set_option maxHeartbeats 4000000 in
set_option maxRecDepth 100000 in
theorem sp_X6_undo {me : Nat} {X : Abs} (H : WC h me X) (k1 : ∀ B hs, xH X = B :: hs → ∀ h', WC h' me (B, hs, X.2.2) → Of h h' → Q (.inl (some (.int (nI hs.length)))) h') (k0 : xH X = [] → Q (.inr "java/lang/IllegalStateException") h) : WPx E mX6_undo 0 [some (.ref me)] [] (1, 6) h Q := by
  obtain ⟨q, c, u, hi, sl, tx, ka, pa, fa, la, hsa, txa, x, l, lc, cs, ss, H⟩ := H
  have hm := H.ob
  have hR := H.rep
  have n6 := hR.2.1.1.2
  have hcn := H.hi.2.2.1.1
  have hcl := H.hi.2.2.1.2
  refine wp_aload_n (M := mX6_undo) (pc := 0) dX6_undo_0 rfl ?_
  refine wp_getR (M := mX6_undo) (pc := 1) fa_X6_29 rfl dX6_undo_1 (by first | exact hm.1.1 | exact H.kQ | exact H.kH | exact H.kC | exact H.kU | exact H.kX | exact hR.1.2.1.2.1 | exact a2 | fail "kd") (by first | exact hm.2.1 | exact hm.2.2.1 | exact hm.2.2.2.1 | exact hm.2.2.2.2.1 | exact hm.2.2.2.2.2.1 | exact hm.2.2.2.2.2.2 | exact hR.1.2.1.1 | exact a1 | fail "rx") ?_
  refine wp_getI (M := mX6_undo) (pc := 4) fa_X6_176 rfl dX6_undo_4 (by first | exact hm.1.1 | exact H.kQ | exact H.kH | exact H.kC | exact H.kU | exact H.kX | exact hR.1.2.1.2.1 | exact a2 | fail "kd") ?_
  refine wp_if_le (M := mX6_undo) (pc := 7) (tgt := 14) dX6_undo_7 rfl (fun t7 => ?_) (fun f7 => ?_)
  · rw [hcn] at t7
    have e0 : xH X = [] := List.eq_nil_of_length_eq_zero (Nat.le_zero.mp ((i_le (b := 0) (by omega) (by decide)).mp t7))
    have hl : ¬ (0 : Int32) = 0 → ∃ B hs, xH X = B :: hs := fun e => absurd rfl e
    have hl0 : (0 : Int32) = 0 → xH X = [] := fun _ => e0
    refine wp_iconst (M := mX6_undo) (pc := 14) (v := 0) dX6_undo_14 ci_0 ?_
    refine so_SA1 (M := mX6_undo) (pc := 15) (0, 0) cs_X6_undo_64 rfl (LE rfl) (LE rfl) (LE rfl) (LE rfl) dX6_undo_15 ?_
    refine sv_X6_requirePossible (fun hv => ?_) (fun hv => k0 (hl0 hv))
    obtain ⟨B, hs, eB⟩ := hl hv
    have hH := H.hi
    rw [eB] at hH
    refine kV ?_
    refine wp_aload_n (M := mX6_undo) (pc := 18) dX6_undo_18 rfl ?_
    refine wp_getR (M := mX6_undo) (pc := 19) fa_X6_29 rfl dX6_undo_19 (by first | exact hm.1.1 | exact H.kQ | exact H.kH | exact H.kC | exact H.kU | exact H.kX | exact hR.1.2.1.2.1 | exact a2 | fail "kd") (by first | exact hm.2.1 | exact hm.2.2.1 | exact hm.2.2.2.1 | exact hm.2.2.2.2.1 | exact hm.2.2.2.2.2.1 | exact hm.2.2.2.2.2.2 | exact hR.1.2.1.1 | exact a1 | fail "rx") ?_
    refine wp_aload_n (M := mX6_undo) (pc := 22) dX6_undo_22 rfl ?_
    refine wp_getR (M := mX6_undo) (pc := 23) fa_X6_12 rfl dX6_undo_23 (by first | exact hm.1.1 | exact H.kQ | exact H.kH | exact H.kC | exact H.kU | exact H.kX | exact hR.1.2.1.2.1 | exact a2 | fail "kd") (by first | exact hm.2.1 | exact hm.2.2.1 | exact hm.2.2.2.1 | exact hm.2.2.2.2.1 | exact hm.2.2.2.2.2.1 | exact hm.2.2.2.2.2.2 | exact hR.1.2.1.1 | exact a1 | fail "rx") ?_
    refine so_V1 (M := mX6_undo) (pc := 26) cs_X6_undo_179 rfl rfl (LE rfl) (LE rfl) dX6_undo_26 (by first | exact hm.1.1 | exact H.kQ | exact H.kH | exact H.kC | exact H.kU | exact H.kX | exact hR.1.2.1.2.1 | exact a2 | fail "kd") ?_
    refine sp_X2_takeBack hH hR.1 (nk H.kH H.kQ (by simp)) (fun j hj y e => (H.ds.2.1 j hj y e).1) (fun h2 R2 H2 F2 => ?_)
    refine kI ?_
    refine wp_ireturn (M := mX6_undo) (pc := 29) rfl dX6_undo_29 ?_
    exact k1 B hs eB h2 (H.hq F2 R2 H2).wc (H.hqO F2)
  · rw [hcn] at f7
    have e0 : ¬ (xH X).length ≤ 0 := fun e => f7 ((i_le (b := 0) (by omega) (by decide)).mpr e)
    have hl : ¬ (1 : Int32) = 0 → ∃ B hs, xH X = B :: hs := fun _ => by
      cases e9 : xH X with
      | nil => rw [e9] at e0; exact absurd (Nat.le_refl 0) e0
      | cons B hs => exact ⟨B, hs, rfl⟩
    have hl0 : (1 : Int32) = 0 → xH X = [] := fun e => absurd e (by decide)
    refine wp_iconst (M := mX6_undo) (pc := 10) (v := 1) dX6_undo_10 ci_1 ?_
    refine wp_goto (M := mX6_undo) (pc := 11) (tgt := 15) dX6_undo_11 rfl ?_
    refine so_SA1 (M := mX6_undo) (pc := 15) (0, 0) cs_X6_undo_64 rfl (LE rfl) (LE rfl) (LE rfl) (LE rfl) dX6_undo_15 ?_
    refine sv_X6_requirePossible (fun hv => ?_) (fun hv => k0 (hl0 hv))
    obtain ⟨B, hs, eB⟩ := hl hv
    have hH := H.hi
    rw [eB] at hH
    refine kV ?_
    refine wp_aload_n (M := mX6_undo) (pc := 18) dX6_undo_18 rfl ?_
    refine wp_getR (M := mX6_undo) (pc := 19) fa_X6_29 rfl dX6_undo_19 (by first | exact hm.1.1 | exact H.kQ | exact H.kH | exact H.kC | exact H.kU | exact H.kX | exact hR.1.2.1.2.1 | exact a2 | fail "kd") (by first | exact hm.2.1 | exact hm.2.2.1 | exact hm.2.2.2.1 | exact hm.2.2.2.2.1 | exact hm.2.2.2.2.2.1 | exact hm.2.2.2.2.2.2 | exact hR.1.2.1.1 | exact a1 | fail "rx") ?_
    refine wp_aload_n (M := mX6_undo) (pc := 22) dX6_undo_22 rfl ?_
    refine wp_getR (M := mX6_undo) (pc := 23) fa_X6_12 rfl dX6_undo_23 (by first | exact hm.1.1 | exact H.kQ | exact H.kH | exact H.kC | exact H.kU | exact H.kX | exact hR.1.2.1.2.1 | exact a2 | fail "kd") (by first | exact hm.2.1 | exact hm.2.2.1 | exact hm.2.2.2.1 | exact hm.2.2.2.2.1 | exact hm.2.2.2.2.2.1 | exact hm.2.2.2.2.2.2 | exact hR.1.2.1.1 | exact a1 | fail "rx") ?_
    refine so_V1 (M := mX6_undo) (pc := 26) cs_X6_undo_179 rfl rfl (LE rfl) (LE rfl) dX6_undo_26 (by first | exact hm.1.1 | exact H.kQ | exact H.kH | exact H.kC | exact H.kU | exact H.kX | exact hR.1.2.1.2.1 | exact a2 | fail "kd") ?_
    refine sp_X2_takeBack hH hR.1 (nk H.kH H.kQ (by simp)) (fun j hj y e => (H.ds.2.1 j hj y e).1) (fun h2 R2 H2 F2 => ?_)
    refine kI ?_
    refine wp_ireturn (M := mX6_undo) (pc := 29) rfl dX6_undo_29 ?_
    exact k1 B hs eB h2 (H.hq F2 R2 H2).wc (H.hqO F2)
set_option maxHeartbeats 4000000 in
set_option maxRecDepth 100000 in
theorem sp_X6_addOrder {me : Nat} {X : Abs} {kd : Nat} {t p z : Int32} (H : WC h me X) (hkd : kd < 3) (k1 : ∀ i, i < sN (xA X) → t = nI i → wth p 1 99 → wth z 1 99 → canP (xA X) kd i p z → ∀ h', WC h' me (actX X (placeA (xA X) kd i p z)) → Of h h' → Q (.inl (some (.int (nI (sO (xA X)).length)))) h') (k0 : ¬ isT (xA X) t → Q (.inr "java/lang/IndexOutOfBoundsException") h) (k2 : isT (xA X) t → ¬ (wth p 1 99 ∧ wth z 1 99) → Q (.inr "java/lang/IllegalArgumentException") h) (k3 : ∀ i, i < sN (xA X) → t = nI i → wth p 1 99 → wth z 1 99 → ¬ canP (xA X) kd i p z → Q (.inr "java/lang/IllegalStateException") h) : WPx E mX6_addOrder 0 [some (.ref me), some (.int (nI kd)), some (.int t), some (.int p), some (.int z)] [] (36, 510) h Q := by
  obtain ⟨q, c, u, hi, sl, tx, ka, pa, fa, la, hsa, txa, x, l, lc, cs, ss, H⟩ := H
  have hm := H.ob
  have hR := H.rep
  have n6 := hR.2.1.1.2
  refine wp_aload_n (M := mX6_addOrder) (pc := 0) dX6_addOrder_0 rfl ?_
  refine wp_getR (M := mX6_addOrder) (pc := 1) fa_X6_12 rfl dX6_addOrder_1 (by first | exact hm.1.1 | exact H.kQ | exact H.kH | exact H.kC | exact H.kU | exact H.kX | exact hR.1.2.1.2.1 | exact a2 | fail "kd") (by first | exact hm.2.1 | exact hm.2.2.1 | exact hm.2.2.2.1 | exact hm.2.2.2.2.1 | exact hm.2.2.2.2.2.1 | exact hm.2.2.2.2.2.2 | exact hR.1.2.1.1 | exact a1 | fail "rx") ?_
  refine wp_iload_n (M := mX6_addOrder) (pc := 4) dX6_addOrder_4 rfl ?_
  refine so_V1 (M := mX6_addOrder) (pc := 5) cs_X6_addOrder_93 rfl rfl (LE rfl) (LE rfl) dX6_addOrder_5 (by first | exact hm.1.1 | exact H.kQ | exact H.kH | exact H.kC | exact H.kU | exact H.kX | exact hR.1.2.1.2.1 | exact a2 | fail "kd") ?_
  refine sb_hasTenant hR ?_
  refine kI ?_
  refine so_SA1 (M := mX6_addOrder) (pc := 8) (35, 504) cs_X6_addOrder_97 rfl (LE rfl) (LE rfl) (LE rfl) (LE rfl) dX6_addOrder_8 ?_
  refine sp_X6_requireThere (fun ht => ?_) (fun hw => k0 hw)
  refine kV ?_
  refine wp_iload_n (M := mX6_addOrder) (pc := 11) dX6_addOrder_11 rfl ?_
  refine so_S1 (M := mX6_addOrder) (pc := 12) cs_X6_addOrder_153 rfl rfl (LE rfl) (LE rfl) dX6_addOrder_12 ?_
  refine sp_X6_isTwoDigits ?_
  refine kI ?_
  refine wp_if_eq (M := mX6_addOrder) (pc := 15) (tgt := 30) dX6_addOrder_15 rfl (fun t15 => ?_) (fun f15 => ?_)
  · have hl : ¬ (0 : Int32) = 0 → (wth p 1 99 ∧ wth z 1 99) := fun e => absurd rfl e
    have hl0 : (0 : Int32) = 0 → ¬ (wth p 1 99 ∧ wth z 1 99) := fun _ e => b01_z t15 e.1
    refine wp_iconst (M := mX6_addOrder) (pc := 30) (v := 0) dX6_addOrder_30 ci_0 ?_
    refine so_SA1 (M := mX6_addOrder) (pc := 31) (34, 498) cs_X6_addOrder_56 rfl (LE rfl) (LE rfl) (LE rfl) (LE rfl) dX6_addOrder_31 ?_
    refine sv_X6_requireArgument (fun hv => ?_) (fun hv => k2 ht (hl0 hv))
    obtain ⟨w1, w2⟩ := hl hv
    obtain ⟨i, hi9, rfl⟩ := ht
    refine kV ?_
    refine wp_aload_n (M := mX6_addOrder) (pc := 34) dX6_addOrder_34 rfl ?_
    refine wp_getR (M := mX6_addOrder) (pc := 35) fa_X6_12 rfl dX6_addOrder_35 (by first | exact hm.1.1 | exact H.kQ | exact H.kH | exact H.kC | exact H.kU | exact H.kX | exact hR.1.2.1.2.1 | exact a2 | fail "kd") (by first | exact hm.2.1 | exact hm.2.2.1 | exact hm.2.2.2.1 | exact hm.2.2.2.2.1 | exact hm.2.2.2.2.2.1 | exact hm.2.2.2.2.2.2 | exact hR.1.2.1.1 | exact a1 | fail "rx") ?_
    refine wp_iload_n (M := mX6_addOrder) (pc := 38) dX6_addOrder_38 rfl ?_
    refine wp_iload_n (M := mX6_addOrder) (pc := 39) dX6_addOrder_39 rfl ?_
    refine wp_iload_n (M := mX6_addOrder) (pc := 40) dX6_addOrder_40 rfl ?_
    refine wp_iload (M := mX6_addOrder) (pc := 41) dX6_addOrder_41 rfl ?_
    refine so_V4 (M := mX6_addOrder) (pc := 43) cs_X6_addOrder_273 rfl rfl (LE rfl) (LE rfl) dX6_addOrder_43 (by first | exact hm.1.1 | exact H.kQ | exact H.kH | exact H.kC | exact H.kU | exact H.kX | exact hR.1.2.1.2.1 | exact a2 | fail "kd") ?_
    refine sb_canPlace hR hi9 hkd ?_
    refine kI ?_
    refine so_SA1 (M := mX6_addOrder) (pc := 46) (33, 492) cs_X6_addOrder_64 rfl (LE rfl) (LE rfl) (LE rfl) (LE rfl) dX6_addOrder_46 ?_
    refine sp_X6_requirePossible (fun hc => ?_) (fun hc => k3 i hi9 rfl w1 w2 hc)
    refine kV ?_
    refine wp_aload_n (M := mX6_addOrder) (pc := 49) dX6_addOrder_49 rfl ?_
    refine wp_getR (M := mX6_addOrder) (pc := 50) fa_X6_29 rfl dX6_addOrder_50 (by first | exact hm.1.1 | exact H.kQ | exact H.kH | exact H.kC | exact H.kU | exact H.kX | exact hR.1.2.1.2.1 | exact a2 | fail "kd") (by first | exact hm.2.1 | exact hm.2.2.1 | exact hm.2.2.2.1 | exact hm.2.2.2.2.1 | exact hm.2.2.2.2.2.1 | exact hm.2.2.2.2.2.2 | exact hR.1.2.1.1 | exact a1 | fail "rx") ?_
    refine wp_aload_n (M := mX6_addOrder) (pc := 53) dX6_addOrder_53 rfl ?_
    refine wp_getR (M := mX6_addOrder) (pc := 54) fa_X6_12 rfl dX6_addOrder_54 (by first | exact hm.1.1 | exact H.kQ | exact H.kH | exact H.kC | exact H.kU | exact H.kX | exact hR.1.2.1.2.1 | exact a2 | fail "kd") (by first | exact hm.2.1 | exact hm.2.2.1 | exact hm.2.2.2.1 | exact hm.2.2.2.2.1 | exact hm.2.2.2.2.2.1 | exact hm.2.2.2.2.2.2 | exact hR.1.2.1.1 | exact a1 | fail "rx") ?_
    refine so_VA1 (M := mX6_addOrder) (pc := 57) (0, 0) cs_X6_addOrder_147 rfl (LE rfl) (LE rfl) (LE rfl) (LE rfl) dX6_addOrder_57 (by first | exact hm.1.1 | exact H.kQ | exact H.kH | exact H.kC | exact H.kU | exact H.kX | exact hR.1.2.1.2.1 | exact a2 | fail "kd") ?_
    refine sb_remember H (fun h1 cs1 x1 H O1 => ?_)
    have hm := H.ob
    have hR := H.rep
    refine kV ?_
    refine wp_aload_n (M := mX6_addOrder) (pc := 60) dX6_addOrder_60 rfl ?_
    refine wp_getR (M := mX6_addOrder) (pc := 61) fa_X6_12 rfl dX6_addOrder_61 (by first | exact hm.1.1 | exact H.kQ | exact H.kH | exact H.kC | exact H.kU | exact H.kX | exact hR.1.2.1.2.1 | exact a2 | fail "kd") (by first | exact hm.2.1 | exact hm.2.2.1 | exact hm.2.2.2.1 | exact hm.2.2.2.2.1 | exact hm.2.2.2.2.2.1 | exact hm.2.2.2.2.2.2 | exact hR.1.2.1.1 | exact a1 | fail "rx") ?_
    refine wp_iload_n (M := mX6_addOrder) (pc := 64) dX6_addOrder_64 rfl ?_
    refine wp_iload_n (M := mX6_addOrder) (pc := 65) dX6_addOrder_65 rfl ?_
    refine wp_iload_n (M := mX6_addOrder) (pc := 66) dX6_addOrder_66 rfl ?_
    refine wp_iload (M := mX6_addOrder) (pc := 67) dX6_addOrder_67 rfl ?_
    refine so_V4 (M := mX6_addOrder) (pc := 69) cs_X6_addOrder_277 rfl rfl (LE rfl) (LE rfl) dX6_addOrder_69 (by first | exact hm.1.1 | exact H.kQ | exact H.kH | exact H.kC | exact H.kU | exact H.kX | exact hR.1.2.1.2.1 | exact a2 | fail "kd") ?_
    refine sp_X4_place hR hi9 hkd hc.1 (fun h2 R2 F2 => ?_)
    refine kI ?_
    refine wp_ireturn (M := mX6_addOrder) (pc := 72) rfl dX6_addOrder_72 ?_
    exact k1 i hi9 rfl w1 w2 hc h2 (H.q1 F2 R2).wc (O1.tr (H.q1O F2))
  · refine wp_iload (M := mX6_addOrder) (pc := 18) dX6_addOrder_18 rfl ?_
    refine so_S1 (M := mX6_addOrder) (pc := 20) cs_X6_addOrder_153 rfl rfl (LE rfl) (LE rfl) dX6_addOrder_20 ?_
    refine sp_X6_isTwoDigits ?_
    refine kI ?_
    refine wp_if_eq (M := mX6_addOrder) (pc := 23) (tgt := 30) dX6_addOrder_23 rfl (fun t23 => ?_) (fun f23 => ?_)
    · have hl : ¬ (0 : Int32) = 0 → (wth p 1 99 ∧ wth z 1 99) := fun e => absurd rfl e
      have hl0 : (0 : Int32) = 0 → ¬ (wth p 1 99 ∧ wth z 1 99) := fun _ e => b01_z t23 e.2
      refine wp_iconst (M := mX6_addOrder) (pc := 30) (v := 0) dX6_addOrder_30 ci_0 ?_
      refine so_SA1 (M := mX6_addOrder) (pc := 31) (34, 498) cs_X6_addOrder_56 rfl (LE rfl) (LE rfl) (LE rfl) (LE rfl) dX6_addOrder_31 ?_
      refine sv_X6_requireArgument (fun hv => ?_) (fun hv => k2 ht (hl0 hv))
      obtain ⟨w1, w2⟩ := hl hv
      obtain ⟨i, hi9, rfl⟩ := ht
      refine kV ?_
      refine wp_aload_n (M := mX6_addOrder) (pc := 34) dX6_addOrder_34 rfl ?_
      refine wp_getR (M := mX6_addOrder) (pc := 35) fa_X6_12 rfl dX6_addOrder_35 (by first | exact hm.1.1 | exact H.kQ | exact H.kH | exact H.kC | exact H.kU | exact H.kX | exact hR.1.2.1.2.1 | exact a2 | fail "kd") (by first | exact hm.2.1 | exact hm.2.2.1 | exact hm.2.2.2.1 | exact hm.2.2.2.2.1 | exact hm.2.2.2.2.2.1 | exact hm.2.2.2.2.2.2 | exact hR.1.2.1.1 | exact a1 | fail "rx") ?_
      refine wp_iload_n (M := mX6_addOrder) (pc := 38) dX6_addOrder_38 rfl ?_
      refine wp_iload_n (M := mX6_addOrder) (pc := 39) dX6_addOrder_39 rfl ?_
      refine wp_iload_n (M := mX6_addOrder) (pc := 40) dX6_addOrder_40 rfl ?_
      refine wp_iload (M := mX6_addOrder) (pc := 41) dX6_addOrder_41 rfl ?_
      refine so_V4 (M := mX6_addOrder) (pc := 43) cs_X6_addOrder_273 rfl rfl (LE rfl) (LE rfl) dX6_addOrder_43 (by first | exact hm.1.1 | exact H.kQ | exact H.kH | exact H.kC | exact H.kU | exact H.kX | exact hR.1.2.1.2.1 | exact a2 | fail "kd") ?_
      refine sb_canPlace hR hi9 hkd ?_
      refine kI ?_
      refine so_SA1 (M := mX6_addOrder) (pc := 46) (33, 492) cs_X6_addOrder_64 rfl (LE rfl) (LE rfl) (LE rfl) (LE rfl) dX6_addOrder_46 ?_
      refine sp_X6_requirePossible (fun hc => ?_) (fun hc => k3 i hi9 rfl w1 w2 hc)
      refine kV ?_
      refine wp_aload_n (M := mX6_addOrder) (pc := 49) dX6_addOrder_49 rfl ?_
      refine wp_getR (M := mX6_addOrder) (pc := 50) fa_X6_29 rfl dX6_addOrder_50 (by first | exact hm.1.1 | exact H.kQ | exact H.kH | exact H.kC | exact H.kU | exact H.kX | exact hR.1.2.1.2.1 | exact a2 | fail "kd") (by first | exact hm.2.1 | exact hm.2.2.1 | exact hm.2.2.2.1 | exact hm.2.2.2.2.1 | exact hm.2.2.2.2.2.1 | exact hm.2.2.2.2.2.2 | exact hR.1.2.1.1 | exact a1 | fail "rx") ?_
      refine wp_aload_n (M := mX6_addOrder) (pc := 53) dX6_addOrder_53 rfl ?_
      refine wp_getR (M := mX6_addOrder) (pc := 54) fa_X6_12 rfl dX6_addOrder_54 (by first | exact hm.1.1 | exact H.kQ | exact H.kH | exact H.kC | exact H.kU | exact H.kX | exact hR.1.2.1.2.1 | exact a2 | fail "kd") (by first | exact hm.2.1 | exact hm.2.2.1 | exact hm.2.2.2.1 | exact hm.2.2.2.2.1 | exact hm.2.2.2.2.2.1 | exact hm.2.2.2.2.2.2 | exact hR.1.2.1.1 | exact a1 | fail "rx") ?_
      refine so_VA1 (M := mX6_addOrder) (pc := 57) (0, 0) cs_X6_addOrder_147 rfl (LE rfl) (LE rfl) (LE rfl) (LE rfl) dX6_addOrder_57 (by first | exact hm.1.1 | exact H.kQ | exact H.kH | exact H.kC | exact H.kU | exact H.kX | exact hR.1.2.1.2.1 | exact a2 | fail "kd") ?_
      refine sb_remember H (fun h1 cs1 x1 H O1 => ?_)
      have hm := H.ob
      have hR := H.rep
      refine kV ?_
      refine wp_aload_n (M := mX6_addOrder) (pc := 60) dX6_addOrder_60 rfl ?_
      refine wp_getR (M := mX6_addOrder) (pc := 61) fa_X6_12 rfl dX6_addOrder_61 (by first | exact hm.1.1 | exact H.kQ | exact H.kH | exact H.kC | exact H.kU | exact H.kX | exact hR.1.2.1.2.1 | exact a2 | fail "kd") (by first | exact hm.2.1 | exact hm.2.2.1 | exact hm.2.2.2.1 | exact hm.2.2.2.2.1 | exact hm.2.2.2.2.2.1 | exact hm.2.2.2.2.2.2 | exact hR.1.2.1.1 | exact a1 | fail "rx") ?_
      refine wp_iload_n (M := mX6_addOrder) (pc := 64) dX6_addOrder_64 rfl ?_
      refine wp_iload_n (M := mX6_addOrder) (pc := 65) dX6_addOrder_65 rfl ?_
      refine wp_iload_n (M := mX6_addOrder) (pc := 66) dX6_addOrder_66 rfl ?_
      refine wp_iload (M := mX6_addOrder) (pc := 67) dX6_addOrder_67 rfl ?_
      refine so_V4 (M := mX6_addOrder) (pc := 69) cs_X6_addOrder_277 rfl rfl (LE rfl) (LE rfl) dX6_addOrder_69 (by first | exact hm.1.1 | exact H.kQ | exact H.kH | exact H.kC | exact H.kU | exact H.kX | exact hR.1.2.1.2.1 | exact a2 | fail "kd") ?_
      refine sp_X4_place hR hi9 hkd hc.1 (fun h2 R2 F2 => ?_)
      refine kI ?_
      refine wp_ireturn (M := mX6_addOrder) (pc := 72) rfl dX6_addOrder_72 ?_
      exact k1 i hi9 rfl w1 w2 hc h2 (H.q1 F2 R2).wc (O1.tr (H.q1O F2))
    · have hl : ¬ (1 : Int32) = 0 → (wth p 1 99 ∧ wth z 1 99) := fun _ => ⟨b01_n f15, b01_n f23⟩
      have hl0 : (1 : Int32) = 0 → ¬ (wth p 1 99 ∧ wth z 1 99) := fun e => absurd e (by decide)
      refine wp_iconst (M := mX6_addOrder) (pc := 26) (v := 1) dX6_addOrder_26 ci_1 ?_
      refine wp_goto (M := mX6_addOrder) (pc := 27) (tgt := 31) dX6_addOrder_27 rfl ?_
      refine so_SA1 (M := mX6_addOrder) (pc := 31) (34, 498) cs_X6_addOrder_56 rfl (LE rfl) (LE rfl) (LE rfl) (LE rfl) dX6_addOrder_31 ?_
      refine sv_X6_requireArgument (fun hv => ?_) (fun hv => k2 ht (hl0 hv))
      obtain ⟨w1, w2⟩ := hl hv
      obtain ⟨i, hi9, rfl⟩ := ht
      refine kV ?_
      refine wp_aload_n (M := mX6_addOrder) (pc := 34) dX6_addOrder_34 rfl ?_
      refine wp_getR (M := mX6_addOrder) (pc := 35) fa_X6_12 rfl dX6_addOrder_35 (by first | exact hm.1.1 | exact H.kQ | exact H.kH | exact H.kC | exact H.kU | exact H.kX | exact hR.1.2.1.2.1 | exact a2 | fail "kd") (by first | exact hm.2.1 | exact hm.2.2.1 | exact hm.2.2.2.1 | exact hm.2.2.2.2.1 | exact hm.2.2.2.2.2.1 | exact hm.2.2.2.2.2.2 | exact hR.1.2.1.1 | exact a1 | fail "rx") ?_
      refine wp_iload_n (M := mX6_addOrder) (pc := 38) dX6_addOrder_38 rfl ?_
      refine wp_iload_n (M := mX6_addOrder) (pc := 39) dX6_addOrder_39 rfl ?_
      refine wp_iload_n (M := mX6_addOrder) (pc := 40) dX6_addOrder_40 rfl ?_
      refine wp_iload (M := mX6_addOrder) (pc := 41) dX6_addOrder_41 rfl ?_
      refine so_V4 (M := mX6_addOrder) (pc := 43) cs_X6_addOrder_273 rfl rfl (LE rfl) (LE rfl) dX6_addOrder_43 (by first | exact hm.1.1 | exact H.kQ | exact H.kH | exact H.kC | exact H.kU | exact H.kX | exact hR.1.2.1.2.1 | exact a2 | fail "kd") ?_
      refine sb_canPlace hR hi9 hkd ?_
      refine kI ?_
      refine so_SA1 (M := mX6_addOrder) (pc := 46) (33, 492) cs_X6_addOrder_64 rfl (LE rfl) (LE rfl) (LE rfl) (LE rfl) dX6_addOrder_46 ?_
      refine sp_X6_requirePossible (fun hc => ?_) (fun hc => k3 i hi9 rfl w1 w2 hc)
      refine kV ?_
      refine wp_aload_n (M := mX6_addOrder) (pc := 49) dX6_addOrder_49 rfl ?_
      refine wp_getR (M := mX6_addOrder) (pc := 50) fa_X6_29 rfl dX6_addOrder_50 (by first | exact hm.1.1 | exact H.kQ | exact H.kH | exact H.kC | exact H.kU | exact H.kX | exact hR.1.2.1.2.1 | exact a2 | fail "kd") (by first | exact hm.2.1 | exact hm.2.2.1 | exact hm.2.2.2.1 | exact hm.2.2.2.2.1 | exact hm.2.2.2.2.2.1 | exact hm.2.2.2.2.2.2 | exact hR.1.2.1.1 | exact a1 | fail "rx") ?_
      refine wp_aload_n (M := mX6_addOrder) (pc := 53) dX6_addOrder_53 rfl ?_
      refine wp_getR (M := mX6_addOrder) (pc := 54) fa_X6_12 rfl dX6_addOrder_54 (by first | exact hm.1.1 | exact H.kQ | exact H.kH | exact H.kC | exact H.kU | exact H.kX | exact hR.1.2.1.2.1 | exact a2 | fail "kd") (by first | exact hm.2.1 | exact hm.2.2.1 | exact hm.2.2.2.1 | exact hm.2.2.2.2.1 | exact hm.2.2.2.2.2.1 | exact hm.2.2.2.2.2.2 | exact hR.1.2.1.1 | exact a1 | fail "rx") ?_
      refine so_VA1 (M := mX6_addOrder) (pc := 57) (0, 0) cs_X6_addOrder_147 rfl (LE rfl) (LE rfl) (LE rfl) (LE rfl) dX6_addOrder_57 (by first | exact hm.1.1 | exact H.kQ | exact H.kH | exact H.kC | exact H.kU | exact H.kX | exact hR.1.2.1.2.1 | exact a2 | fail "kd") ?_
      refine sb_remember H (fun h1 cs1 x1 H O1 => ?_)
      have hm := H.ob
      have hR := H.rep
      refine kV ?_
      refine wp_aload_n (M := mX6_addOrder) (pc := 60) dX6_addOrder_60 rfl ?_
      refine wp_getR (M := mX6_addOrder) (pc := 61) fa_X6_12 rfl dX6_addOrder_61 (by first | exact hm.1.1 | exact H.kQ | exact H.kH | exact H.kC | exact H.kU | exact H.kX | exact hR.1.2.1.2.1 | exact a2 | fail "kd") (by first | exact hm.2.1 | exact hm.2.2.1 | exact hm.2.2.2.1 | exact hm.2.2.2.2.1 | exact hm.2.2.2.2.2.1 | exact hm.2.2.2.2.2.2 | exact hR.1.2.1.1 | exact a1 | fail "rx") ?_
      refine wp_iload_n (M := mX6_addOrder) (pc := 64) dX6_addOrder_64 rfl ?_
      refine wp_iload_n (M := mX6_addOrder) (pc := 65) dX6_addOrder_65 rfl ?_
      refine wp_iload_n (M := mX6_addOrder) (pc := 66) dX6_addOrder_66 rfl ?_
      refine wp_iload (M := mX6_addOrder) (pc := 67) dX6_addOrder_67 rfl ?_
      refine so_V4 (M := mX6_addOrder) (pc := 69) cs_X6_addOrder_277 rfl rfl (LE rfl) (LE rfl) dX6_addOrder_69 (by first | exact hm.1.1 | exact H.kQ | exact H.kH | exact H.kC | exact H.kU | exact H.kX | exact hR.1.2.1.2.1 | exact a2 | fail "kd") ?_
      refine sp_X4_place hR hi9 hkd hc.1 (fun h2 R2 F2 => ?_)
      refine kI ?_
      refine wp_ireturn (M := mX6_addOrder) (pc := 72) rfl dX6_addOrder_72 ?_
      exact k1 i hi9 rfl w1 w2 hc h2 (H.q1 F2 R2).wc (O1.tr (H.q1O F2))
set_option maxHeartbeats 4000000 in
set_option maxRecDepth 100000 in
theorem sp_X6_bid {me : Nat} {X : Abs} {t p z : Int32} (H : WC h me X) (k1 : ∀ i, i < sN (xA X) → t = nI i → wth p 1 99 → wth z 1 99 → canP (xA X) 0 i p z → ∀ h', WC h' me (actX X (placeA (xA X) 0 i p z)) → Of h h' → Q (.inl (some (.int (nI (sO (xA X)).length)))) h') (k0 : ¬ isT (xA X) t → Q (.inr "java/lang/IndexOutOfBoundsException") h) (k2 : isT (xA X) t → ¬ (wth p 1 99 ∧ wth z 1 99) → Q (.inr "java/lang/IllegalArgumentException") h) (k3 : ∀ i, i < sN (xA X) → t = nI i → wth p 1 99 → wth z 1 99 → ¬ canP (xA X) 0 i p z → Q (.inr "java/lang/IllegalStateException") h) : WPx E mX6_bid 0 [some (.ref me), some (.int t), some (.int p), some (.int z)] [] (36, 510) h Q := by
  refine wp_aload_n (M := mX6_bid) (pc := 0) dX6_bid_0 rfl ?_
  refine wp_iconst (M := mX6_bid) (pc := 1) (v := 0) dX6_bid_1 ci_0 ?_
  refine wp_iload_n (M := mX6_bid) (pc := 2) dX6_bid_2 rfl ?_
  refine wp_iload_n (M := mX6_bid) (pc := 3) dX6_bid_3 rfl ?_
  refine wp_iload_n (M := mX6_bid) (pc := 4) dX6_bid_4 rfl ?_
  refine so_VA4 (M := mX6_bid) (pc := 5) (0, 0) cs_X6_bid_143 rfl (LE rfl) (LE rfl) (LE rfl) (LE rfl) dX6_bid_5 (by obtain ⟨q, c, u, hi, sl, tx, ka, pa, fa, la, hsa, txa, x, l, lc, cs, ss, HW⟩ := H; exact HW.kMe) ?_
  obtain ⟨q, c, u, hi, sl, tx, ka, pa, fa, la, hsa, txa, x, l, lc, cs, ss, HW⟩ := id H
  exact sp_X6_addOrder (kd := 0) H (by decide) (fun i a1 a2 a3 a4 a5 h' a6 a7 => kI (wp_ireturn (M := mX6_bid) (pc := 8) rfl dX6_bid_8 (k1 i a1 a2 a3 a4 a5 h' a6 a7))) (fun a1 => k0 a1) (fun a1 a2 => k2 a1 a2) (fun i a1 a2 a3 a4 a5 => k3 i a1 a2 a3 a4 a5)
set_option maxHeartbeats 4000000 in
set_option maxRecDepth 100000 in
theorem sp_X6_ask {me : Nat} {X : Abs} {t p z : Int32} (H : WC h me X) (k1 : ∀ i, i < sN (xA X) → t = nI i → wth p 1 99 → wth z 1 99 → canP (xA X) 1 i p z → ∀ h', WC h' me (actX X (placeA (xA X) 1 i p z)) → Of h h' → Q (.inl (some (.int (nI (sO (xA X)).length)))) h') (k0 : ¬ isT (xA X) t → Q (.inr "java/lang/IndexOutOfBoundsException") h) (k2 : isT (xA X) t → ¬ (wth p 1 99 ∧ wth z 1 99) → Q (.inr "java/lang/IllegalArgumentException") h) (k3 : ∀ i, i < sN (xA X) → t = nI i → wth p 1 99 → wth z 1 99 → ¬ canP (xA X) 1 i p z → Q (.inr "java/lang/IllegalStateException") h) : WPx E mX6_ask 0 [some (.ref me), some (.int t), some (.int p), some (.int z)] [] (36, 510) h Q := by
  refine wp_aload_n (M := mX6_ask) (pc := 0) dX6_ask_0 rfl ?_
  refine wp_iconst (M := mX6_ask) (pc := 1) (v := 1) dX6_ask_1 ci_1 ?_
  refine wp_iload_n (M := mX6_ask) (pc := 2) dX6_ask_2 rfl ?_
  refine wp_iload_n (M := mX6_ask) (pc := 3) dX6_ask_3 rfl ?_
  refine wp_iload_n (M := mX6_ask) (pc := 4) dX6_ask_4 rfl ?_
  refine so_VA4 (M := mX6_ask) (pc := 5) (0, 0) cs_X6_ask_143 rfl (LE rfl) (LE rfl) (LE rfl) (LE rfl) dX6_ask_5 (by obtain ⟨q, c, u, hi, sl, tx, ka, pa, fa, la, hsa, txa, x, l, lc, cs, ss, HW⟩ := H; exact HW.kMe) ?_
  obtain ⟨q, c, u, hi, sl, tx, ka, pa, fa, la, hsa, txa, x, l, lc, cs, ss, HW⟩ := id H
  exact sp_X6_addOrder (kd := 1) H (by decide) (fun i a1 a2 a3 a4 a5 h' a6 a7 => kI (wp_ireturn (M := mX6_ask) (pc := 8) rfl dX6_ask_8 (k1 i a1 a2 a3 a4 a5 h' a6 a7))) (fun a1 => k0 a1) (fun a1 a2 => k2 a1 a2) (fun i a1 a2 a3 a4 a5 => k3 i a1 a2 a3 a4 a5)
set_option maxHeartbeats 4000000 in
set_option maxRecDepth 100000 in
theorem sp_X6_askShort {me : Nat} {X : Abs} {t p z : Int32} (H : WC h me X) (k1 : ∀ i, i < sN (xA X) → t = nI i → wth p 1 99 → wth z 1 99 → canP (xA X) 2 i p z → ∀ h', WC h' me (actX X (placeA (xA X) 2 i p z)) → Of h h' → Q (.inl (some (.int (nI (sO (xA X)).length)))) h') (k0 : ¬ isT (xA X) t → Q (.inr "java/lang/IndexOutOfBoundsException") h) (k2 : isT (xA X) t → ¬ (wth p 1 99 ∧ wth z 1 99) → Q (.inr "java/lang/IllegalArgumentException") h) (k3 : ∀ i, i < sN (xA X) → t = nI i → wth p 1 99 → wth z 1 99 → ¬ canP (xA X) 2 i p z → Q (.inr "java/lang/IllegalStateException") h) : WPx E mX6_askShort 0 [some (.ref me), some (.int t), some (.int p), some (.int z)] [] (36, 510) h Q := by
  refine wp_aload_n (M := mX6_askShort) (pc := 0) dX6_askShort_0 rfl ?_
  refine wp_iconst (M := mX6_askShort) (pc := 1) (v := 2) dX6_askShort_1 ci_2 ?_
  refine wp_iload_n (M := mX6_askShort) (pc := 2) dX6_askShort_2 rfl ?_
  refine wp_iload_n (M := mX6_askShort) (pc := 3) dX6_askShort_3 rfl ?_
  refine wp_iload_n (M := mX6_askShort) (pc := 4) dX6_askShort_4 rfl ?_
  refine so_VA4 (M := mX6_askShort) (pc := 5) (0, 0) cs_X6_askShort_143 rfl (LE rfl) (LE rfl) (LE rfl) (LE rfl) dX6_askShort_5 (by obtain ⟨q, c, u, hi, sl, tx, ka, pa, fa, la, hsa, txa, x, l, lc, cs, ss, HW⟩ := H; exact HW.kMe) ?_
  obtain ⟨q, c, u, hi, sl, tx, ka, pa, fa, la, hsa, txa, x, l, lc, cs, ss, HW⟩ := id H
  exact sp_X6_addOrder (kd := 2) H (by decide) (fun i a1 a2 a3 a4 a5 h' a6 a7 => kI (wp_ireturn (M := mX6_askShort) (pc := 8) rfl dX6_askShort_8 (k1 i a1 a2 a3 a4 a5 h' a6 a7))) (fun a1 => k0 a1) (fun a1 a2 => k2 a1 a2) (fun i a1 a2 a3 a4 a5 => k3 i a1 a2 a3 a4 a5)
end SP
