section SP
variable {E : Ev} {h : PH} {Q : Rt → PH → Prop}
set_option maxHeartbeats 1000000 in
set_option maxRecDepth 100000 in
theorem hp_append {x m out : Nat} {ad : Nat → Nat} {K : Nat} {X : Abs} {w : Int32} (H : WC h x X) (HM : WM h m ad X) (ho : kd h out = some (.inr (2, 1))) (hG : GX K X) (hK : K ≤ 30000) (k : ∀ c a X' h', rl_append X w c a X' → WC h' x X' → WM h' m ad X → kd h' out = some (.inr (2, 1)) → (c = 0 → gl h' out 0 = a.toInt64) → Q (.inl (some (.int c))) h') : WPx E mL_append 0 [some (.ref x), some (.int w), some (.ref out), none] [] (2, 12) h Q := by
  refine wp_aload_n (M := mL_append) (pc := 0) dL_append_0 rfl ?_
  refine wp_iconst (M := mL_append) (pc := 1) (v := 0) dL_append_1 ci_0 ?_
  refine wp_aload_n (M := mL_append) (pc := 2) dL_append_2 rfl ?_
  refine wp_iload_n (M := mL_append) (pc := 3) dL_append_3 rfl ?_
  refine so_VX1 (M := mL_append) (pc := 4) (0, 0) cs_L_append_7 (LE rfl) (LE rfl) (LE rfl) (LE rfl) dL_append_4 H.kMe ?_
  refine sw_X6_append H  ?_ ?_ ?_
  · intro j A0 A1 A2 h' W9 O9
    have Kx : Of h h' := O9
    refine kIX ?_
    refine wp_i2l (M := mL_append) (pc := 7) dL_append_7 ?_
    refine wr_lastore (M := mL_append) (pc := 8) dL_append_8 (Kx out _ ho).1 (show (0 : Int32) = nI 0 from rfl) (by decide) (by decide) ?_
    refine wp_goto (M := mL_append) (pc := 9) (tgt := 18) dL_append_9 rfl ?_
    refine wp_iconst (M := mL_append) (pc := 18) (v := 0) dL_append_18 ci_0 ?_
    refine wp_ireturn (M := mL_append) (pc := 19) rfl dL_append_19 ?_
    exact k 0 _ _ _ (Or.inl ⟨j, A0, A1, A2, rfl, rfl, rfl⟩) (WC.sl W9) (WM.sl (HM.of Kx)) (Kx out _ ho).1 (fun _ => u2_at _ _ _ _)
  · intro A0
    have Kx : Of h h := Of.rf
    refine cx0 (hp := 12) rfl rfl (by decide) wk_L_13 exIA rfl (fun q9 => ?_)
    refine so_astore_n (M := mL_append) (pc := 12) (lo' := [_, _, _, _]) dL_append_12 (LE rfl) (LE rfl) (Or.inr rfl) rfl ?_
    refine wp_iconst (M := mL_append) (pc := 13) (v := 1) dL_append_13 ci_1 ?_
    refine wp_ireturn (M := mL_append) (pc := 14) rfl dL_append_14 ?_
    exact k 1 _ _ _ (Or.inr (Or.inl ⟨A0, rfl, rfl, rfl⟩)) H (HM.of Kx) (Kx out _ ho).1 (fun e => absurd e (by decide))
  · intro A0 A1
    have Kx : Of h h := Of.rf
    refine cx1 (hp := 15) rfl rfl (by decide) wk_L_15 exIS rfl (by decide) exIA (by decide) wk_L_13 (fun q9 => ?_)
    refine so_astore_n (M := mL_append) (pc := 15) (lo' := [_, _, _, _]) dL_append_15 (LE rfl) (LE rfl) (Or.inr rfl) rfl ?_
    refine wp_iconst (M := mL_append) (pc := 16) (v := 2) dL_append_16 ci_2 ?_
    refine wp_ireturn (M := mL_append) (pc := 17) rfl dL_append_17 ?_
    exact k 2 _ _ _ (Or.inr (Or.inr (⟨A0, A1, rfl, rfl, rfl⟩))) H (HM.of Kx) (Kx out _ ho).1 (fun e => absurd e (by decide))
set_option maxHeartbeats 1000000 in
set_option maxRecDepth 100000 in
theorem hp_load {x m out : Nat} {ad : Nat → Nat} {K : Nat} {X : Abs}  (H : WC h x X) (HM : WM h m ad X) (ho : kd h out = some (.inr (2, 1))) (hG : GX K X) (hK : K ≤ 30000) (k : ∀ c a X' h', rl_load X  c a X' → WC h' x X' → WM h' m ad X → kd h' out = some (.inr (2, 1)) → (c = 0 → gl h' out 0 = a.toInt64) → Q (.inl (some (.int c))) h') : WPx E mL_load 0 [some (.ref x), some (.ref out), none] [] (1, 6) h Q := by
  refine wp_aload_n (M := mL_load) (pc := 0) dL_load_0 rfl ?_
  refine wp_iconst (M := mL_load) (pc := 1) (v := 0) dL_load_1 ci_0 ?_
  refine wp_aload_n (M := mL_load) (pc := 2) dL_load_2 rfl ?_
  refine so_VX0 (M := mL_load) (pc := 3) (0, 0) cs_L_load_17 (LE rfl) (LE rfl) (LE rfl) (LE rfl) dL_load_3 H.kMe ?_
  refine sp_X6_load H  ?_ ?_
  · intro A0 h' W9 O9
    have Kx : Of h h' := O9
    refine kIX ?_
    refine wp_i2l (M := mL_load) (pc := 6) dL_load_6 ?_
    refine wr_lastore (M := mL_load) (pc := 7) dL_load_7 (Kx out _ ho).1 (show (0 : Int32) = nI 0 from rfl) (by decide) (by decide) ?_
    refine wp_goto (M := mL_load) (pc := 8) (tgt := 14) dL_load_8 rfl ?_
    refine wp_iconst (M := mL_load) (pc := 14) (v := 0) dL_load_14 ci_0 ?_
    refine wp_ireturn (M := mL_load) (pc := 15) rfl dL_load_15 ?_
    exact k 0 _ _ _ (Or.inl ⟨A0, rfl, rfl, rfl⟩) (WC.sl W9) (WM.sl (HM.of Kx)) (Kx out _ ho).1 (fun _ => u2_at _ _ _ _)
  · intro A0 h' W9 O9
    have Kx : Of h h' := O9
    refine cx0 (hp := 11) rfl rfl (by decide) wk_L_15 exIS rfl (fun q9 => ?_)
    refine so_astore_n (M := mL_load) (pc := 11) (lo' := [_, _, _]) dL_load_11 (LE rfl) (LE rfl) (Or.inr rfl) rfl ?_
    refine wp_iconst (M := mL_load) (pc := 12) (v := 1) dL_load_12 ci_1 ?_
    refine wp_ireturn (M := mL_load) (pc := 13) rfl dL_load_13 ?_
    exact k 1 _ _ _ (Or.inr (⟨A0, rfl, rfl, rfl⟩)) W9 (HM.of Kx) (Kx out _ ho).1 (fun e => absurd e (by decide))
set_option maxHeartbeats 1000000 in
set_option maxRecDepth 100000 in
theorem hp_about {x m out : Nat} {ad : Nat → Nat} {K : Nat} {X : Abs} {w : Int32} (H : WC h x X) (HM : WM h m ad X) (ho : kd h out = some (.inr (2, 1))) (hG : GX K X) (hK : K ≤ 30000) (k : ∀ c a X' h', rl_about X w c a X' → WC h' x X' → WM h' m ad X → kd h' out = some (.inr (2, 1)) → (c = 0 → gl h' out 0 = a.toInt64) → Q (.inl (some (.int c))) h') : WPx E mL_about 0 [some (.ref x), some (.int w), some (.ref out), none] [] (1, 6) h Q := by
  refine wp_aload_n (M := mL_about) (pc := 0) dL_about_0 rfl ?_
  refine wp_iconst (M := mL_about) (pc := 1) (v := 0) dL_about_1 ci_0 ?_
  refine wp_aload_n (M := mL_about) (pc := 2) dL_about_2 rfl ?_
  refine wp_iload_n (M := mL_about) (pc := 3) dL_about_3 rfl ?_
  refine so_VX1 (M := mL_about) (pc := 4) (0, 0) cs_L_about_21 (LE rfl) (LE rfl) (LE rfl) (LE rfl) dL_about_4 H.kMe ?_
  refine sw_X6_about H  ?_ ?_
  · intro j A0 A1
    have Kx : Of h h := Of.rf
    refine kIX ?_
    refine wp_i2l (M := mL_about) (pc := 7) dL_about_7 ?_
    refine wr_lastore (M := mL_about) (pc := 8) dL_about_8 (Kx out _ ho).1 (show (0 : Int32) = nI 0 from rfl) (by decide) (by decide) ?_
    refine wp_goto (M := mL_about) (pc := 9) (tgt := 15) dL_about_9 rfl ?_
    refine wp_iconst (M := mL_about) (pc := 15) (v := 0) dL_about_15 ci_0 ?_
    refine wp_ireturn (M := mL_about) (pc := 16) rfl dL_about_16 ?_
    exact k 0 _ _ _ (Or.inl ⟨j, A0, A1, rfl, rfl, rfl⟩) (WC.sl H) (WM.sl (HM.of Kx)) (Kx out _ ho).1 (fun _ => u2_at _ _ _ _)
  · intro A0
    have Kx : Of h h := Of.rf
    refine cx0 (hp := 12) rfl rfl (by decide) wk_L_13 exIA rfl (fun q9 => ?_)
    refine so_astore_n (M := mL_about) (pc := 12) (lo' := [_, _, _, _]) dL_about_12 (LE rfl) (LE rfl) (Or.inr rfl) rfl ?_
    refine wp_iconst (M := mL_about) (pc := 13) (v := 1) dL_about_13 ci_1 ?_
    refine wp_ireturn (M := mL_about) (pc := 14) rfl dL_about_14 ?_
    exact k 1 _ _ _ (Or.inr (⟨A0, rfl, rfl, rfl⟩)) H (HM.of Kx) (Kx out _ ho).1 (fun e => absurd e (by decide))
set_option maxHeartbeats 1000000 in
set_option maxRecDepth 100000 in
theorem hp_tenant {x m out : Nat} {ad : Nat → Nat} {K : Nat} {X : Abs} {t : Int32} {w : Int32} (H : WC h x X) (HM : WM h m ad X) (ho : kd h out = some (.inr (2, 1))) (hG : GX K X) (hK : K ≤ 30000) (k : ∀ c a X' h', rl_tenant X t w c a X' → WC h' x X' → WM h' m ad X → kd h' out = some (.inr (2, 1)) → (c = 0 → gl h' out 0 = a.toInt64) → Q (.inl (some (.int c))) h') : WPx E mL_tenant 0 [some (.ref x), some (.int t), some (.int w), some (.ref out), none] [] (2, 12) h Q := by
  refine wp_aload_n (M := mL_tenant) (pc := 0) dL_tenant_0 rfl ?_
  refine wp_iconst (M := mL_tenant) (pc := 1) (v := 0) dL_tenant_1 ci_0 ?_
  refine wp_aload_n (M := mL_tenant) (pc := 2) dL_tenant_2 rfl ?_
  refine wp_iload_n (M := mL_tenant) (pc := 3) dL_tenant_3 rfl ?_
  refine wp_iload_n (M := mL_tenant) (pc := 4) dL_tenant_4 rfl ?_
  refine so_VX2 (M := mL_tenant) (pc := 5) (0, 0) cs_L_tenant_24 (LE rfl) (LE rfl) (LE rfl) (LE rfl) dL_tenant_5 H.kMe ?_
  refine sw_X6_tenant H (by have := IW.ti (A := xA X) hG.1; omega) (IW.tm (A := xA X) hG.1).2 ?_ ?_ ?_
  · intro i j A0 A1 A2 A3
    have Kx : Of h h := Of.rf
    refine kIX ?_
    refine wp_i2l (M := mL_tenant) (pc := 8) dL_tenant_8 ?_
    refine wr_lastore (M := mL_tenant) (pc := 9) dL_tenant_9 (Kx out _ ho).1 (show (0 : Int32) = nI 0 from rfl) (by decide) (by decide) ?_
    refine wp_goto (M := mL_tenant) (pc := 10) (tgt := 21) dL_tenant_10 rfl ?_
    refine wp_iconst (M := mL_tenant) (pc := 21) (v := 0) dL_tenant_21 ci_0 ?_
    refine wp_ireturn (M := mL_tenant) (pc := 22) rfl dL_tenant_22 ?_
    exact k 0 _ _ _ (Or.inl ⟨i, j, A0, A1, A2, A3, rfl, rfl, rfl⟩) (WC.sl H) (WM.sl (HM.of Kx)) (Kx out _ ho).1 (fun _ => u2_at _ _ _ _)
  · intro A0
    have Kx : Of h h := Of.rf
    refine cx0 (hp := 13) rfl rfl (by decide) wk_L_28 exIO rfl (fun q9 => ?_)
    refine so_astore (M := mL_tenant) (pc := 13) (lo' := [_, _, _, _, _]) dL_tenant_13 (LE rfl) (LE rfl) (Or.inr rfl) rfl ?_
    refine wp_iconst (M := mL_tenant) (pc := 15) (v := 1) dL_tenant_15 ci_1 ?_
    refine wp_ireturn (M := mL_tenant) (pc := 16) rfl dL_tenant_16 ?_
    exact k 1 _ _ _ (Or.inr (Or.inl ⟨A0, rfl, rfl, rfl⟩)) H (HM.of Kx) (Kx out _ ho).1 (fun e => absurd e (by decide))
  · intro A0 A1
    have Kx : Of h h := Of.rf
    refine cx1 (hp := 17) rfl rfl (by decide) wk_L_13 exIA rfl (by decide) exIO (by decide) wk_L_28 (fun q9 => ?_)
    refine so_astore (M := mL_tenant) (pc := 17) (lo' := [_, _, _, _, _]) dL_tenant_17 (LE rfl) (LE rfl) (Or.inr rfl) rfl ?_
    refine wp_iconst (M := mL_tenant) (pc := 19) (v := 2) dL_tenant_19 ci_2 ?_
    refine wp_ireturn (M := mL_tenant) (pc := 20) rfl dL_tenant_20 ?_
    exact k 2 _ _ _ (Or.inr (Or.inr (⟨A0, A1, rfl, rfl, rfl⟩))) H (HM.of Kx) (Kx out _ ho).1 (fun e => absurd e (by decide))
set_option maxHeartbeats 1000000 in
set_option maxRecDepth 100000 in
theorem hp_message {x m out : Nat} {ad : Nat → Nat} {K : Nat} {X : Abs} {t : Int32} {w : Int32} (H : WC h x X) (HM : WM h m ad X) (ho : kd h out = some (.inr (2, 1))) (hG : GX K X) (hK : K ≤ 30000) (k : ∀ c a X' h', rl_message X t w c a X' → WC h' x X' → WM h' m ad X → kd h' out = some (.inr (2, 1)) → (c = 0 → gl h' out 0 = a.toInt64) → Q (.inl (some (.int c))) h') : WPx E mL_message 0 [some (.ref x), some (.int t), some (.int w), some (.ref out), none] [] (2, 12) h Q := by
  refine wp_aload_n (M := mL_message) (pc := 0) dL_message_0 rfl ?_
  refine wp_iconst (M := mL_message) (pc := 1) (v := 0) dL_message_1 ci_0 ?_
  refine wp_aload_n (M := mL_message) (pc := 2) dL_message_2 rfl ?_
  refine wp_iload_n (M := mL_message) (pc := 3) dL_message_3 rfl ?_
  refine wp_iload_n (M := mL_message) (pc := 4) dL_message_4 rfl ?_
  refine so_VX2 (M := mL_message) (pc := 5) (0, 0) cs_L_message_30 (LE rfl) (LE rfl) (LE rfl) (LE rfl) dL_message_5 H.kMe ?_
  refine sw_X6_message H  ?_ ?_ ?_
  · intro i j A0 A1 A2 A3
    have Kx : Of h h := Of.rf
    refine kIX ?_
    refine wp_i2l (M := mL_message) (pc := 8) dL_message_8 ?_
    refine wr_lastore (M := mL_message) (pc := 9) dL_message_9 (Kx out _ ho).1 (show (0 : Int32) = nI 0 from rfl) (by decide) (by decide) ?_
    refine wp_goto (M := mL_message) (pc := 10) (tgt := 21) dL_message_10 rfl ?_
    refine wp_iconst (M := mL_message) (pc := 21) (v := 0) dL_message_21 ci_0 ?_
    refine wp_ireturn (M := mL_message) (pc := 22) rfl dL_message_22 ?_
    exact k 0 _ _ _ (Or.inl ⟨i, j, A0, A1, A2, A3, rfl, rfl, rfl⟩) (WC.sl H) (WM.sl (HM.of Kx)) (Kx out _ ho).1 (fun _ => u2_at _ _ _ _)
  · intro A0
    have Kx : Of h h := Of.rf
    refine cx0 (hp := 13) rfl rfl (by decide) wk_L_28 exIO rfl (fun q9 => ?_)
    refine so_astore (M := mL_message) (pc := 13) (lo' := [_, _, _, _, _]) dL_message_13 (LE rfl) (LE rfl) (Or.inr rfl) rfl ?_
    refine wp_iconst (M := mL_message) (pc := 15) (v := 1) dL_message_15 ci_1 ?_
    refine wp_ireturn (M := mL_message) (pc := 16) rfl dL_message_16 ?_
    exact k 1 _ _ _ (Or.inr (Or.inl ⟨A0, rfl, rfl, rfl⟩)) H (HM.of Kx) (Kx out _ ho).1 (fun e => absurd e (by decide))
  · intro A0 A1
    have Kx : Of h h := Of.rf
    refine cx1 (hp := 17) rfl rfl (by decide) wk_L_13 exIA rfl (by decide) exIO (by decide) wk_L_28 (fun q9 => ?_)
    refine so_astore (M := mL_message) (pc := 17) (lo' := [_, _, _, _, _]) dL_message_17 (LE rfl) (LE rfl) (Or.inr rfl) rfl ?_
    refine wp_iconst (M := mL_message) (pc := 19) (v := 2) dL_message_19 ci_2 ?_
    refine wp_ireturn (M := mL_message) (pc := 20) rfl dL_message_20 ?_
    exact k 2 _ _ _ (Or.inr (Or.inr (⟨A0, A1, rfl, rfl, rfl⟩))) H (HM.of Kx) (Kx out _ ho).1 (fun e => absurd e (by decide))
set_option maxHeartbeats 1000000 in
set_option maxRecDepth 100000 in
theorem hp_order {x m out : Nat} {ad : Nat → Nat} {K : Nat} {X : Abs} {t : Int32} {w : Int32} (H : WC h x X) (HM : WM h m ad X) (ho : kd h out = some (.inr (2, 1))) (hG : GX K X) (hK : K ≤ 30000) (k : ∀ c a X' h', rl_order X t w c a X' → WC h' x X' → WM h' m ad X → kd h' out = some (.inr (2, 1)) → (c = 0 → gl h' out 0 = a.toInt64) → Q (.inl (some (.int c))) h') : WPx E mL_order 0 [some (.ref x), some (.int t), some (.int w), some (.ref out), none] [] (2, 12) h Q := by
  refine wp_aload_n (M := mL_order) (pc := 0) dL_order_0 rfl ?_
  refine wp_iconst (M := mL_order) (pc := 1) (v := 0) dL_order_1 ci_0 ?_
  refine wp_aload_n (M := mL_order) (pc := 2) dL_order_2 rfl ?_
  refine wp_iload_n (M := mL_order) (pc := 3) dL_order_3 rfl ?_
  refine wp_iload_n (M := mL_order) (pc := 4) dL_order_4 rfl ?_
  refine so_VX2 (M := mL_order) (pc := 5) (0, 0) cs_L_order_33 (LE rfl) (LE rfl) (LE rfl) (LE rfl) dL_order_5 H.kMe ?_
  refine sw_X6_order H  ?_ ?_ ?_
  · intro i j A0 A1 A2 A3 h' W9 O9
    have Kx : Of h h' := O9
    refine kIX ?_
    refine wp_i2l (M := mL_order) (pc := 8) dL_order_8 ?_
    refine wr_lastore (M := mL_order) (pc := 9) dL_order_9 (Kx out _ ho).1 (show (0 : Int32) = nI 0 from rfl) (by decide) (by decide) ?_
    refine wp_goto (M := mL_order) (pc := 10) (tgt := 21) dL_order_10 rfl ?_
    refine wp_iconst (M := mL_order) (pc := 21) (v := 0) dL_order_21 ci_0 ?_
    refine wp_ireturn (M := mL_order) (pc := 22) rfl dL_order_22 ?_
    exact k 0 _ _ _ (Or.inl ⟨i, j, A0, A1, A2, A3, rfl, rfl, rfl⟩) (WC.sl W9) (WM.sl (HM.of Kx)) (Kx out _ ho).1 (fun _ => u2_at _ _ _ _)
  · intro A0
    have Kx : Of h h := Of.rf
    refine cx0 (hp := 13) rfl rfl (by decide) wk_L_28 exIO rfl (fun q9 => ?_)
    refine so_astore (M := mL_order) (pc := 13) (lo' := [_, _, _, _, _]) dL_order_13 (LE rfl) (LE rfl) (Or.inr rfl) rfl ?_
    refine wp_iconst (M := mL_order) (pc := 15) (v := 1) dL_order_15 ci_1 ?_
    refine wp_ireturn (M := mL_order) (pc := 16) rfl dL_order_16 ?_
    exact k 1 _ _ _ (Or.inr (Or.inl ⟨A0, rfl, rfl, rfl⟩)) H (HM.of Kx) (Kx out _ ho).1 (fun e => absurd e (by decide))
  · intro A0 A1
    have Kx : Of h h := Of.rf
    refine cx1 (hp := 17) rfl rfl (by decide) wk_L_13 exIA rfl (by decide) exIO (by decide) wk_L_28 (fun q9 => ?_)
    refine so_astore (M := mL_order) (pc := 17) (lo' := [_, _, _, _, _]) dL_order_17 (LE rfl) (LE rfl) (Or.inr rfl) rfl ?_
    refine wp_iconst (M := mL_order) (pc := 19) (v := 2) dL_order_19 ci_2 ?_
    refine wp_ireturn (M := mL_order) (pc := 20) rfl dL_order_20 ?_
    exact k 2 _ _ _ (Or.inr (Or.inr (⟨A0, A1, rfl, rfl, rfl⟩))) H (HM.of Kx) (Kx out _ ho).1 (fun e => absurd e (by decide))
set_option maxHeartbeats 1000000 in
set_option maxRecDepth 100000 in
theorem hp_bid {x m out : Nat} {ad : Nat → Nat} {K : Nat} {X : Abs} {t : Int32} {p : Int32} {z : Int32} (H : WC h x X) (HM : WM h m ad X) (ho : kd h out = some (.inr (2, 1))) (hG : GX K X) (hK : K ≤ 30000) (k : ∀ c a X' h', rl_bid X t p z c a X' → WC h' x X' → WM h' m ad X → kd h' out = some (.inr (2, 1)) → (c = 0 → gl h' out 0 = a.toInt64) → Q (.inl (some (.int c))) h') : WPx E mL_bid 0 [some (.ref x), some (.int t), some (.int p), some (.int z), some (.ref out), none] [] (36, 510) h Q := by
  refine wp_aload (M := mL_bid) (pc := 0) dL_bid_0 rfl ?_
  refine wp_iconst (M := mL_bid) (pc := 2) (v := 0) dL_bid_2 ci_0 ?_
  refine wp_aload_n (M := mL_bid) (pc := 3) dL_bid_3 rfl ?_
  refine wp_iload_n (M := mL_bid) (pc := 4) dL_bid_4 rfl ?_
  refine wp_iload_n (M := mL_bid) (pc := 5) dL_bid_5 rfl ?_
  refine wp_iload_n (M := mL_bid) (pc := 6) dL_bid_6 rfl ?_
  refine so_VX3 (M := mL_bid) (pc := 7) (0, 0) cs_L_bid_36 (LE rfl) (LE rfl) (LE rfl) (LE rfl) dL_bid_7 H.kMe ?_
  refine sp_X6_bid H  ?_ ?_ ?_ ?_
  · intro i A0 A1 A2 A3 A4 h' W9 O9
    have Kx : Of h h' := O9
    refine kIX ?_
    refine wp_i2l (M := mL_bid) (pc := 10) dL_bid_10 ?_
    refine wr_lastore (M := mL_bid) (pc := 11) dL_bid_11 (Kx out _ ho).1 (show (0 : Int32) = nI 0 from rfl) (by decide) (by decide) ?_
    refine wp_goto (M := mL_bid) (pc := 12) (tgt := 27) dL_bid_12 rfl ?_
    refine wp_iconst (M := mL_bid) (pc := 27) (v := 0) dL_bid_27 ci_0 ?_
    refine wp_ireturn (M := mL_bid) (pc := 28) rfl dL_bid_28 ?_
    exact k 0 _ _ _ (Or.inl ⟨i, A0, A1, A2, A3, A4, rfl, rfl, rfl⟩) (WC.sl W9) (WM.sl (HM.of Kx)) (Kx out _ ho).1 (fun _ => u2_at _ _ _ _)
  · intro A0
    have Kx : Of h h := Of.rf
    refine cx0 (hp := 15) rfl rfl (by decide) wk_L_28 exIO rfl (fun q9 => ?_)
    refine so_astore (M := mL_bid) (pc := 15) (lo' := [_, _, _, _, _, _]) dL_bid_15 (LE rfl) (LE rfl) (Or.inr rfl) rfl ?_
    refine wp_iconst (M := mL_bid) (pc := 17) (v := 1) dL_bid_17 ci_1 ?_
    refine wp_ireturn (M := mL_bid) (pc := 18) rfl dL_bid_18 ?_
    exact k 1 _ _ _ (Or.inr (Or.inl ⟨A0, rfl, rfl, rfl⟩)) H (HM.of Kx) (Kx out _ ho).1 (fun e => absurd e (by decide))
  · intro A0 A1
    have Kx : Of h h := Of.rf
    refine cx1 (hp := 19) rfl rfl (by decide) wk_L_13 exIA rfl (by decide) exIO (by decide) wk_L_28 (fun q9 => ?_)
    refine so_astore (M := mL_bid) (pc := 19) (lo' := [_, _, _, _, _, _]) dL_bid_19 (LE rfl) (LE rfl) (Or.inr rfl) rfl ?_
    refine wp_iconst (M := mL_bid) (pc := 21) (v := 2) dL_bid_21 ci_2 ?_
    refine wp_ireturn (M := mL_bid) (pc := 22) rfl dL_bid_22 ?_
    exact k 2 _ _ _ (Or.inr (Or.inr (Or.inl ⟨A0, A1, rfl, rfl, rfl⟩))) H (HM.of Kx) (Kx out _ ho).1 (fun e => absurd e (by decide))
  · intro i A0 A1 A2 A3 A4
    have Kx : Of h h := Of.rf
    refine cx2 (hp := 23) rfl rfl (by decide) wk_L_15 exIS rfl (by decide) exIO (by decide) wk_L_28 (by decide) exIA (by decide) wk_L_13 (fun q9 => ?_)
    refine so_astore (M := mL_bid) (pc := 23) (lo' := [_, _, _, _, _, _]) dL_bid_23 (LE rfl) (LE rfl) (Or.inr rfl) rfl ?_
    refine wp_iconst (M := mL_bid) (pc := 25) (v := 3) dL_bid_25 ci_3 ?_
    refine wp_ireturn (M := mL_bid) (pc := 26) rfl dL_bid_26 ?_
    exact k 3 _ _ _ (Or.inr (Or.inr (Or.inr (⟨i, A0, A1, A2, A3, A4, rfl, rfl, rfl⟩)))) H (HM.of Kx) (Kx out _ ho).1 (fun e => absurd e (by decide))
set_option maxHeartbeats 1000000 in
set_option maxRecDepth 100000 in
theorem hp_ask {x m out : Nat} {ad : Nat → Nat} {K : Nat} {X : Abs} {t : Int32} {p : Int32} {z : Int32} (H : WC h x X) (HM : WM h m ad X) (ho : kd h out = some (.inr (2, 1))) (hG : GX K X) (hK : K ≤ 30000) (k : ∀ c a X' h', rl_ask X t p z c a X' → WC h' x X' → WM h' m ad X → kd h' out = some (.inr (2, 1)) → (c = 0 → gl h' out 0 = a.toInt64) → Q (.inl (some (.int c))) h') : WPx E mL_ask 0 [some (.ref x), some (.int t), some (.int p), some (.int z), some (.ref out), none] [] (36, 510) h Q := by
  refine wp_aload (M := mL_ask) (pc := 0) dL_ask_0 rfl ?_
  refine wp_iconst (M := mL_ask) (pc := 2) (v := 0) dL_ask_2 ci_0 ?_
  refine wp_aload_n (M := mL_ask) (pc := 3) dL_ask_3 rfl ?_
  refine wp_iload_n (M := mL_ask) (pc := 4) dL_ask_4 rfl ?_
  refine wp_iload_n (M := mL_ask) (pc := 5) dL_ask_5 rfl ?_
  refine wp_iload_n (M := mL_ask) (pc := 6) dL_ask_6 rfl ?_
  refine so_VX3 (M := mL_ask) (pc := 7) (0, 0) cs_L_ask_40 (LE rfl) (LE rfl) (LE rfl) (LE rfl) dL_ask_7 H.kMe ?_
  refine sp_X6_ask H  ?_ ?_ ?_ ?_
  · intro i A0 A1 A2 A3 A4 h' W9 O9
    have Kx : Of h h' := O9
    refine kIX ?_
    refine wp_i2l (M := mL_ask) (pc := 10) dL_ask_10 ?_
    refine wr_lastore (M := mL_ask) (pc := 11) dL_ask_11 (Kx out _ ho).1 (show (0 : Int32) = nI 0 from rfl) (by decide) (by decide) ?_
    refine wp_goto (M := mL_ask) (pc := 12) (tgt := 27) dL_ask_12 rfl ?_
    refine wp_iconst (M := mL_ask) (pc := 27) (v := 0) dL_ask_27 ci_0 ?_
    refine wp_ireturn (M := mL_ask) (pc := 28) rfl dL_ask_28 ?_
    exact k 0 _ _ _ (Or.inl ⟨i, A0, A1, A2, A3, A4, rfl, rfl, rfl⟩) (WC.sl W9) (WM.sl (HM.of Kx)) (Kx out _ ho).1 (fun _ => u2_at _ _ _ _)
  · intro A0
    have Kx : Of h h := Of.rf
    refine cx0 (hp := 15) rfl rfl (by decide) wk_L_28 exIO rfl (fun q9 => ?_)
    refine so_astore (M := mL_ask) (pc := 15) (lo' := [_, _, _, _, _, _]) dL_ask_15 (LE rfl) (LE rfl) (Or.inr rfl) rfl ?_
    refine wp_iconst (M := mL_ask) (pc := 17) (v := 1) dL_ask_17 ci_1 ?_
    refine wp_ireturn (M := mL_ask) (pc := 18) rfl dL_ask_18 ?_
    exact k 1 _ _ _ (Or.inr (Or.inl ⟨A0, rfl, rfl, rfl⟩)) H (HM.of Kx) (Kx out _ ho).1 (fun e => absurd e (by decide))
  · intro A0 A1
    have Kx : Of h h := Of.rf
    refine cx1 (hp := 19) rfl rfl (by decide) wk_L_13 exIA rfl (by decide) exIO (by decide) wk_L_28 (fun q9 => ?_)
    refine so_astore (M := mL_ask) (pc := 19) (lo' := [_, _, _, _, _, _]) dL_ask_19 (LE rfl) (LE rfl) (Or.inr rfl) rfl ?_
    refine wp_iconst (M := mL_ask) (pc := 21) (v := 2) dL_ask_21 ci_2 ?_
    refine wp_ireturn (M := mL_ask) (pc := 22) rfl dL_ask_22 ?_
    exact k 2 _ _ _ (Or.inr (Or.inr (Or.inl ⟨A0, A1, rfl, rfl, rfl⟩))) H (HM.of Kx) (Kx out _ ho).1 (fun e => absurd e (by decide))
  · intro i A0 A1 A2 A3 A4
    have Kx : Of h h := Of.rf
    refine cx2 (hp := 23) rfl rfl (by decide) wk_L_15 exIS rfl (by decide) exIO (by decide) wk_L_28 (by decide) exIA (by decide) wk_L_13 (fun q9 => ?_)
    refine so_astore (M := mL_ask) (pc := 23) (lo' := [_, _, _, _, _, _]) dL_ask_23 (LE rfl) (LE rfl) (Or.inr rfl) rfl ?_
    refine wp_iconst (M := mL_ask) (pc := 25) (v := 3) dL_ask_25 ci_3 ?_
    refine wp_ireturn (M := mL_ask) (pc := 26) rfl dL_ask_26 ?_
    exact k 3 _ _ _ (Or.inr (Or.inr (Or.inr (⟨i, A0, A1, A2, A3, A4, rfl, rfl, rfl⟩)))) H (HM.of Kx) (Kx out _ ho).1 (fun e => absurd e (by decide))
set_option maxHeartbeats 1000000 in
set_option maxRecDepth 100000 in
theorem hp_askShort {x m out : Nat} {ad : Nat → Nat} {K : Nat} {X : Abs} {t : Int32} {p : Int32} {z : Int32} (H : WC h x X) (HM : WM h m ad X) (ho : kd h out = some (.inr (2, 1))) (hG : GX K X) (hK : K ≤ 30000) (k : ∀ c a X' h', rl_askShort X t p z c a X' → WC h' x X' → WM h' m ad X → kd h' out = some (.inr (2, 1)) → (c = 0 → gl h' out 0 = a.toInt64) → Q (.inl (some (.int c))) h') : WPx E mL_askShort 0 [some (.ref x), some (.int t), some (.int p), some (.int z), some (.ref out), none] [] (36, 510) h Q := by
  refine wp_aload (M := mL_askShort) (pc := 0) dL_askShort_0 rfl ?_
  refine wp_iconst (M := mL_askShort) (pc := 2) (v := 0) dL_askShort_2 ci_0 ?_
  refine wp_aload_n (M := mL_askShort) (pc := 3) dL_askShort_3 rfl ?_
  refine wp_iload_n (M := mL_askShort) (pc := 4) dL_askShort_4 rfl ?_
  refine wp_iload_n (M := mL_askShort) (pc := 5) dL_askShort_5 rfl ?_
  refine wp_iload_n (M := mL_askShort) (pc := 6) dL_askShort_6 rfl ?_
  refine so_VX3 (M := mL_askShort) (pc := 7) (0, 0) cs_L_askShort_43 (LE rfl) (LE rfl) (LE rfl) (LE rfl) dL_askShort_7 H.kMe ?_
  refine sp_X6_askShort H  ?_ ?_ ?_ ?_
  · intro i A0 A1 A2 A3 A4 h' W9 O9
    have Kx : Of h h' := O9
    refine kIX ?_
    refine wp_i2l (M := mL_askShort) (pc := 10) dL_askShort_10 ?_
    refine wr_lastore (M := mL_askShort) (pc := 11) dL_askShort_11 (Kx out _ ho).1 (show (0 : Int32) = nI 0 from rfl) (by decide) (by decide) ?_
    refine wp_goto (M := mL_askShort) (pc := 12) (tgt := 27) dL_askShort_12 rfl ?_
    refine wp_iconst (M := mL_askShort) (pc := 27) (v := 0) dL_askShort_27 ci_0 ?_
    refine wp_ireturn (M := mL_askShort) (pc := 28) rfl dL_askShort_28 ?_
    exact k 0 _ _ _ (Or.inl ⟨i, A0, A1, A2, A3, A4, rfl, rfl, rfl⟩) (WC.sl W9) (WM.sl (HM.of Kx)) (Kx out _ ho).1 (fun _ => u2_at _ _ _ _)
  · intro A0
    have Kx : Of h h := Of.rf
    refine cx0 (hp := 15) rfl rfl (by decide) wk_L_28 exIO rfl (fun q9 => ?_)
    refine so_astore (M := mL_askShort) (pc := 15) (lo' := [_, _, _, _, _, _]) dL_askShort_15 (LE rfl) (LE rfl) (Or.inr rfl) rfl ?_
    refine wp_iconst (M := mL_askShort) (pc := 17) (v := 1) dL_askShort_17 ci_1 ?_
    refine wp_ireturn (M := mL_askShort) (pc := 18) rfl dL_askShort_18 ?_
    exact k 1 _ _ _ (Or.inr (Or.inl ⟨A0, rfl, rfl, rfl⟩)) H (HM.of Kx) (Kx out _ ho).1 (fun e => absurd e (by decide))
  · intro A0 A1
    have Kx : Of h h := Of.rf
    refine cx1 (hp := 19) rfl rfl (by decide) wk_L_13 exIA rfl (by decide) exIO (by decide) wk_L_28 (fun q9 => ?_)
    refine so_astore (M := mL_askShort) (pc := 19) (lo' := [_, _, _, _, _, _]) dL_askShort_19 (LE rfl) (LE rfl) (Or.inr rfl) rfl ?_
    refine wp_iconst (M := mL_askShort) (pc := 21) (v := 2) dL_askShort_21 ci_2 ?_
    refine wp_ireturn (M := mL_askShort) (pc := 22) rfl dL_askShort_22 ?_
    exact k 2 _ _ _ (Or.inr (Or.inr (Or.inl ⟨A0, A1, rfl, rfl, rfl⟩))) H (HM.of Kx) (Kx out _ ho).1 (fun e => absurd e (by decide))
  · intro i A0 A1 A2 A3 A4
    have Kx : Of h h := Of.rf
    refine cx2 (hp := 23) rfl rfl (by decide) wk_L_15 exIS rfl (by decide) exIO (by decide) wk_L_28 (by decide) exIA (by decide) wk_L_13 (fun q9 => ?_)
    refine so_astore (M := mL_askShort) (pc := 23) (lo' := [_, _, _, _, _, _]) dL_askShort_23 (LE rfl) (LE rfl) (Or.inr rfl) rfl ?_
    refine wp_iconst (M := mL_askShort) (pc := 25) (v := 3) dL_askShort_25 ci_3 ?_
    refine wp_ireturn (M := mL_askShort) (pc := 26) rfl dL_askShort_26 ?_
    exact k 3 _ _ _ (Or.inr (Or.inr (Or.inr (⟨i, A0, A1, A2, A3, A4, rfl, rfl, rfl⟩)))) H (HM.of Kx) (Kx out _ ho).1 (fun e => absurd e (by decide))
set_option maxHeartbeats 1000000 in
set_option maxRecDepth 100000 in
theorem hp_withdraw {x m out : Nat} {ad : Nat → Nat} {K : Nat} {X : Abs} {w : Int32} (H : WC h x X) (HM : WM h m ad X) (ho : kd h out = some (.inr (2, 1))) (hG : GX K X) (hK : K ≤ 30000) (k : ∀ c a X' h', rl_withdraw X w c a X' → WC h' x X' → WM h' m ad X → kd h' out = some (.inr (2, 1)) → (c = 0 → gl h' out 0 = a.toInt64) → Q (.inl (some (.int c))) h') : WPx E mL_withdraw 0 [some (.ref x), some (.int w), some (.ref out), none] [] (34, 498) h Q := by
  refine wp_aload_n (M := mL_withdraw) (pc := 0) dL_withdraw_0 rfl ?_
  refine wp_iconst (M := mL_withdraw) (pc := 1) (v := 0) dL_withdraw_1 ci_0 ?_
  refine wp_aload_n (M := mL_withdraw) (pc := 2) dL_withdraw_2 rfl ?_
  refine wp_iload_n (M := mL_withdraw) (pc := 3) dL_withdraw_3 rfl ?_
  refine so_VX1 (M := mL_withdraw) (pc := 4) (0, 0) cs_L_withdraw_46 (LE rfl) (LE rfl) (LE rfl) (LE rfl) dL_withdraw_4 H.kMe ?_
  refine sp_X6_withdraw H  ?_ ?_
  · intro i A0 A1 h' W9 O9
    have Kx : Of h h' := O9
    refine kIX ?_
    refine wp_i2l (M := mL_withdraw) (pc := 7) dL_withdraw_7 ?_
    refine wr_lastore (M := mL_withdraw) (pc := 8) dL_withdraw_8 (Kx out _ ho).1 (show (0 : Int32) = nI 0 from rfl) (by decide) (by decide) ?_
    refine wp_goto (M := mL_withdraw) (pc := 9) (tgt := 15) dL_withdraw_9 rfl ?_
    refine wp_iconst (M := mL_withdraw) (pc := 15) (v := 0) dL_withdraw_15 ci_0 ?_
    refine wp_ireturn (M := mL_withdraw) (pc := 16) rfl dL_withdraw_16 ?_
    exact k 0 _ _ _ (Or.inl ⟨i, A0, A1, rfl, rfl, rfl⟩) (WC.sl W9) (WM.sl (HM.of Kx)) (Kx out _ ho).1 (fun _ => u2_at _ _ _ _)
  · intro A0
    have Kx : Of h h := Of.rf
    refine cx0 (hp := 12) rfl rfl (by decide) wk_L_28 exIO rfl (fun q9 => ?_)
    refine so_astore_n (M := mL_withdraw) (pc := 12) (lo' := [_, _, _, _]) dL_withdraw_12 (LE rfl) (LE rfl) (Or.inr rfl) rfl ?_
    refine wp_iconst (M := mL_withdraw) (pc := 13) (v := 1) dL_withdraw_13 ci_1 ?_
    refine wp_ireturn (M := mL_withdraw) (pc := 14) rfl dL_withdraw_14 ?_
    exact k 1 _ _ _ (Or.inr (⟨A0, rfl, rfl, rfl⟩)) H (HM.of Kx) (Kx out _ ho).1 (fun e => absurd e (by decide))
set_option maxHeartbeats 1000000 in
set_option maxRecDepth 100000 in
theorem hp_push {x m out : Nat} {ad : Nat → Nat} {K : Nat} {X : Abs} {t : Int32} {z : Int32} (H : WC h x X) (HM : WM h m ad X) (ho : kd h out = some (.inr (2, 1))) (hG : GX K X) (hK : K ≤ 30000) (k : ∀ c a X' h', rl_push X t z c a X' → WC h' x X' → WM h' m ad X → kd h' out = some (.inr (2, 1)) → (c = 0 → gl h' out 0 = a.toInt64) → Q (.inl (some (.int c))) h') : WPx E mL_push 0 [some (.ref x), some (.int t), some (.int z), some (.ref out), none] [] (36, 510) h Q := by
  refine wp_aload_n (M := mL_push) (pc := 0) dL_push_0 rfl ?_
  refine wp_iconst (M := mL_push) (pc := 1) (v := 0) dL_push_1 ci_0 ?_
  refine wp_aload_n (M := mL_push) (pc := 2) dL_push_2 rfl ?_
  refine wp_iload_n (M := mL_push) (pc := 3) dL_push_3 rfl ?_
  refine wp_iload_n (M := mL_push) (pc := 4) dL_push_4 rfl ?_
  refine so_VX2 (M := mL_push) (pc := 5) (0, 0) cs_L_push_49 (LE rfl) (LE rfl) (LE rfl) (LE rfl) dL_push_5 H.kMe ?_
  refine sp_X6_push H  ?_ ?_ ?_ ?_
  · intro i A0 A1 A2 A3 h' W9 O9
    have Kx : Of h h' := O9
    refine kIX ?_
    refine wp_i2l (M := mL_push) (pc := 8) dL_push_8 ?_
    refine wr_lastore (M := mL_push) (pc := 9) dL_push_9 (Kx out _ ho).1 (show (0 : Int32) = nI 0 from rfl) (by decide) (by decide) ?_
    refine wp_goto (M := mL_push) (pc := 10) (tgt := 25) dL_push_10 rfl ?_
    refine wp_iconst (M := mL_push) (pc := 25) (v := 0) dL_push_25 ci_0 ?_
    refine wp_ireturn (M := mL_push) (pc := 26) rfl dL_push_26 ?_
    exact k 0 _ _ _ (Or.inl ⟨i, A0, A1, A2, A3, rfl, rfl, rfl⟩) (WC.sl W9) (WM.sl (HM.of Kx)) (Kx out _ ho).1 (fun _ => u2_at _ _ _ _)
  · intro A0
    have Kx : Of h h := Of.rf
    refine cx0 (hp := 13) rfl rfl (by decide) wk_L_28 exIO rfl (fun q9 => ?_)
    refine so_astore (M := mL_push) (pc := 13) (lo' := [_, _, _, _, _]) dL_push_13 (LE rfl) (LE rfl) (Or.inr rfl) rfl ?_
    refine wp_iconst (M := mL_push) (pc := 15) (v := 1) dL_push_15 ci_1 ?_
    refine wp_ireturn (M := mL_push) (pc := 16) rfl dL_push_16 ?_
    exact k 1 _ _ _ (Or.inr (Or.inl ⟨A0, rfl, rfl, rfl⟩)) H (HM.of Kx) (Kx out _ ho).1 (fun e => absurd e (by decide))
  · intro A0 A1
    have Kx : Of h h := Of.rf
    refine cx1 (hp := 17) rfl rfl (by decide) wk_L_13 exIA rfl (by decide) exIO (by decide) wk_L_28 (fun q9 => ?_)
    refine so_astore (M := mL_push) (pc := 17) (lo' := [_, _, _, _, _]) dL_push_17 (LE rfl) (LE rfl) (Or.inr rfl) rfl ?_
    refine wp_iconst (M := mL_push) (pc := 19) (v := 2) dL_push_19 ci_2 ?_
    refine wp_ireturn (M := mL_push) (pc := 20) rfl dL_push_20 ?_
    exact k 2 _ _ _ (Or.inr (Or.inr (Or.inl ⟨A0, A1, rfl, rfl, rfl⟩))) H (HM.of Kx) (Kx out _ ho).1 (fun e => absurd e (by decide))
  · intro i A0 A1 A2 A3
    have Kx : Of h h := Of.rf
    refine cx2 (hp := 21) rfl rfl (by decide) wk_L_15 exIS rfl (by decide) exIO (by decide) wk_L_28 (by decide) exIA (by decide) wk_L_13 (fun q9 => ?_)
    refine so_astore (M := mL_push) (pc := 21) (lo' := [_, _, _, _, _]) dL_push_21 (LE rfl) (LE rfl) (Or.inr rfl) rfl ?_
    refine wp_iconst (M := mL_push) (pc := 23) (v := 3) dL_push_23 ci_3 ?_
    refine wp_ireturn (M := mL_push) (pc := 24) rfl dL_push_24 ?_
    exact k 3 _ _ _ (Or.inr (Or.inr (Or.inr (⟨i, A0, A1, A2, A3, rfl, rfl, rfl⟩)))) H (HM.of Kx) (Kx out _ ho).1 (fun e => absurd e (by decide))
set_option maxHeartbeats 1000000 in
set_option maxRecDepth 100000 in
theorem hp_deposit {x m out : Nat} {ad : Nat → Nat} {K : Nat} {X : Abs} {t : Int32} {z : Int32} (H : WC h x X) (HM : WM h m ad X) (ho : kd h out = some (.inr (2, 1))) (hG : GX K X) (hK : K ≤ 30000) (k : ∀ c a X' h', rl_deposit X t z c a X' → WC h' x X' → WM h' m ad X → kd h' out = some (.inr (2, 1)) → (c = 0 → gl h' out 0 = a.toInt64) → Q (.inl (some (.int c))) h') : WPx E mL_deposit 0 [some (.ref x), some (.int t), some (.int z), some (.ref out), none] [] (36, 510) h Q := by
  refine wp_aload_n (M := mL_deposit) (pc := 0) dL_deposit_0 rfl ?_
  refine wp_iconst (M := mL_deposit) (pc := 1) (v := 0) dL_deposit_1 ci_0 ?_
  refine wp_aload_n (M := mL_deposit) (pc := 2) dL_deposit_2 rfl ?_
  refine wp_iload_n (M := mL_deposit) (pc := 3) dL_deposit_3 rfl ?_
  refine wp_iload_n (M := mL_deposit) (pc := 4) dL_deposit_4 rfl ?_
  refine so_VX2 (M := mL_deposit) (pc := 5) (0, 0) cs_L_deposit_52 (LE rfl) (LE rfl) (LE rfl) (LE rfl) dL_deposit_5 H.kMe ?_
  refine sp_X6_deposit H  ?_ ?_ ?_ ?_
  · intro i A0 A1 A2 A3 h' W9 O9
    have Kx : Of h h' := O9
    refine kIX ?_
    refine wp_i2l (M := mL_deposit) (pc := 8) dL_deposit_8 ?_
    refine wr_lastore (M := mL_deposit) (pc := 9) dL_deposit_9 (Kx out _ ho).1 (show (0 : Int32) = nI 0 from rfl) (by decide) (by decide) ?_
    refine wp_goto (M := mL_deposit) (pc := 10) (tgt := 25) dL_deposit_10 rfl ?_
    refine wp_iconst (M := mL_deposit) (pc := 25) (v := 0) dL_deposit_25 ci_0 ?_
    refine wp_ireturn (M := mL_deposit) (pc := 26) rfl dL_deposit_26 ?_
    exact k 0 _ _ _ (Or.inl ⟨i, A0, A1, A2, A3, rfl, rfl, rfl⟩) (WC.sl W9) (WM.sl (HM.of Kx)) (Kx out _ ho).1 (fun _ => u2_at _ _ _ _)
  · intro A0
    have Kx : Of h h := Of.rf
    refine cx0 (hp := 13) rfl rfl (by decide) wk_L_28 exIO rfl (fun q9 => ?_)
    refine so_astore (M := mL_deposit) (pc := 13) (lo' := [_, _, _, _, _]) dL_deposit_13 (LE rfl) (LE rfl) (Or.inr rfl) rfl ?_
    refine wp_iconst (M := mL_deposit) (pc := 15) (v := 1) dL_deposit_15 ci_1 ?_
    refine wp_ireturn (M := mL_deposit) (pc := 16) rfl dL_deposit_16 ?_
    exact k 1 _ _ _ (Or.inr (Or.inl ⟨A0, rfl, rfl, rfl⟩)) H (HM.of Kx) (Kx out _ ho).1 (fun e => absurd e (by decide))
  · intro A0 A1
    have Kx : Of h h := Of.rf
    refine cx1 (hp := 17) rfl rfl (by decide) wk_L_13 exIA rfl (by decide) exIO (by decide) wk_L_28 (fun q9 => ?_)
    refine so_astore (M := mL_deposit) (pc := 17) (lo' := [_, _, _, _, _]) dL_deposit_17 (LE rfl) (LE rfl) (Or.inr rfl) rfl ?_
    refine wp_iconst (M := mL_deposit) (pc := 19) (v := 2) dL_deposit_19 ci_2 ?_
    refine wp_ireturn (M := mL_deposit) (pc := 20) rfl dL_deposit_20 ?_
    exact k 2 _ _ _ (Or.inr (Or.inr (Or.inl ⟨A0, A1, rfl, rfl, rfl⟩))) H (HM.of Kx) (Kx out _ ho).1 (fun e => absurd e (by decide))
  · intro i A0 A1 A2 A3
    have Kx : Of h h := Of.rf
    refine cx2 (hp := 21) rfl rfl (by decide) wk_L_15 exIS rfl (by decide) exIO (by decide) wk_L_28 (by decide) exIA (by decide) wk_L_13 (fun q9 => ?_)
    refine so_astore (M := mL_deposit) (pc := 21) (lo' := [_, _, _, _, _]) dL_deposit_21 (LE rfl) (LE rfl) (Or.inr rfl) rfl ?_
    refine wp_iconst (M := mL_deposit) (pc := 23) (v := 3) dL_deposit_23 ci_3 ?_
    refine wp_ireturn (M := mL_deposit) (pc := 24) rfl dL_deposit_24 ?_
    exact k 3 _ _ _ (Or.inr (Or.inr (Or.inr (⟨i, A0, A1, A2, A3, rfl, rfl, rfl⟩)))) H (HM.of Kx) (Kx out _ ho).1 (fun e => absurd e (by decide))
set_option maxHeartbeats 1000000 in
set_option maxRecDepth 100000 in
theorem hp_tick {x m out : Nat} {ad : Nat → Nat} {K : Nat} {X : Abs} {w : Int32} (H : WC h x X) (HM : WM h m ad X) (ho : kd h out = some (.inr (2, 1))) (hG : GX K X) (hK : K ≤ 30000) (k : ∀ c a X' h', rl_tick X w c a X' → WC h' x X' → WM h' m ad X → kd h' out = some (.inr (2, 1)) → (c = 0 → gl h' out 0 = a.toInt64) → Q (.inl (some (.int c))) h') : WPx E mL_tick 0 [some (.ref x), some (.int w), some (.ref out), none] [] (34, 498) h Q := by
  refine wp_aload_n (M := mL_tick) (pc := 0) dL_tick_0 rfl ?_
  refine wp_iconst (M := mL_tick) (pc := 1) (v := 0) dL_tick_1 ci_0 ?_
  refine wp_aload_n (M := mL_tick) (pc := 2) dL_tick_2 rfl ?_
  refine wp_iload_n (M := mL_tick) (pc := 3) dL_tick_3 rfl ?_
  refine so_VX1 (M := mL_tick) (pc := 4) (0, 0) cs_L_tick_55 (LE rfl) (LE rfl) (LE rfl) (LE rfl) dL_tick_4 H.kMe ?_
  refine sp_X6_tick H (hG.1.okT9 (by omega)) ?_ ?_
  · intro n A0 A1 A2 h' W9 O9
    have Kx : Of h h' := O9
    refine kIX ?_
    refine wp_i2l (M := mL_tick) (pc := 7) dL_tick_7 ?_
    refine wr_lastore (M := mL_tick) (pc := 8) dL_tick_8 (Kx out _ ho).1 (show (0 : Int32) = nI 0 from rfl) (by decide) (by decide) ?_
    refine wp_goto (M := mL_tick) (pc := 9) (tgt := 15) dL_tick_9 rfl ?_
    refine wp_iconst (M := mL_tick) (pc := 15) (v := 0) dL_tick_15 ci_0 ?_
    refine wp_ireturn (M := mL_tick) (pc := 16) rfl dL_tick_16 ?_
    exact k 0 _ _ _ (Or.inl ⟨n, A0, A1, A2, rfl, rfl, rfl⟩) (WC.sl W9) (WM.sl (HM.of Kx)) (Kx out _ ho).1 (fun _ => u2_at _ _ _ _)
  · intro A0
    have Kx : Of h h := Of.rf
    refine cx0 (hp := 12) rfl rfl (by decide) wk_L_13 exIA rfl (fun q9 => ?_)
    refine so_astore_n (M := mL_tick) (pc := 12) (lo' := [_, _, _, _]) dL_tick_12 (LE rfl) (LE rfl) (Or.inr rfl) rfl ?_
    refine wp_iconst (M := mL_tick) (pc := 13) (v := 1) dL_tick_13 ci_1 ?_
    refine wp_ireturn (M := mL_tick) (pc := 14) rfl dL_tick_14 ?_
    exact k 1 _ _ _ (Or.inr (⟨A0, rfl, rfl, rfl⟩)) H (HM.of Kx) (Kx out _ ho).1 (fun e => absurd e (by decide))
set_option maxHeartbeats 1000000 in
set_option maxRecDepth 100000 in
theorem hp_setRate {x m out : Nat} {ad : Nat → Nat} {K : Nat} {X : Abs} {t : Int32} {z : Int32} (H : WC h x X) (HM : WM h m ad X) (ho : kd h out = some (.inr (2, 1))) (hG : GX K X) (hK : K ≤ 30000) (k : ∀ c a X' h', rl_setRate X t z c a X' → WC h' x X' → WM h' m ad X → kd h' out = some (.inr (2, 1)) → (c = 0 → gl h' out 0 = a.toInt64) → Q (.inl (some (.int c))) h') : WPx E mL_setRate 0 [some (.ref x), some (.int t), some (.int z), some (.ref out), none] [] (35, 504) h Q := by
  refine wp_aload_n (M := mL_setRate) (pc := 0) dL_setRate_0 rfl ?_
  refine wp_iconst (M := mL_setRate) (pc := 1) (v := 0) dL_setRate_1 ci_0 ?_
  refine wp_aload_n (M := mL_setRate) (pc := 2) dL_setRate_2 rfl ?_
  refine wp_iload_n (M := mL_setRate) (pc := 3) dL_setRate_3 rfl ?_
  refine wp_iload_n (M := mL_setRate) (pc := 4) dL_setRate_4 rfl ?_
  refine so_VX2 (M := mL_setRate) (pc := 5) (0, 0) cs_L_setRate_58 (LE rfl) (LE rfl) (LE rfl) (LE rfl) dL_setRate_5 H.kMe ?_
  refine sp_X6_setRate H  ?_ ?_ ?_
  · intro i A0 A1 A2 h' W9 O9
    have Kx : Of h h' := O9
    refine kIX ?_
    refine wp_i2l (M := mL_setRate) (pc := 8) dL_setRate_8 ?_
    refine wr_lastore (M := mL_setRate) (pc := 9) dL_setRate_9 (Kx out _ ho).1 (show (0 : Int32) = nI 0 from rfl) (by decide) (by decide) ?_
    refine wp_goto (M := mL_setRate) (pc := 10) (tgt := 21) dL_setRate_10 rfl ?_
    refine wp_iconst (M := mL_setRate) (pc := 21) (v := 0) dL_setRate_21 ci_0 ?_
    refine wp_ireturn (M := mL_setRate) (pc := 22) rfl dL_setRate_22 ?_
    exact k 0 _ _ _ (Or.inl ⟨i, A0, A1, A2, rfl, rfl, rfl⟩) (WC.sl W9) (WM.sl (HM.of Kx)) (Kx out _ ho).1 (fun _ => u2_at _ _ _ _)
  · intro A0
    have Kx : Of h h := Of.rf
    refine cx0 (hp := 13) rfl rfl (by decide) wk_L_28 exIO rfl (fun q9 => ?_)
    refine so_astore (M := mL_setRate) (pc := 13) (lo' := [_, _, _, _, _]) dL_setRate_13 (LE rfl) (LE rfl) (Or.inr rfl) rfl ?_
    refine wp_iconst (M := mL_setRate) (pc := 15) (v := 1) dL_setRate_15 ci_1 ?_
    refine wp_ireturn (M := mL_setRate) (pc := 16) rfl dL_setRate_16 ?_
    exact k 1 _ _ _ (Or.inr (Or.inl ⟨A0, rfl, rfl, rfl⟩)) H (HM.of Kx) (Kx out _ ho).1 (fun e => absurd e (by decide))
  · intro A0 A1
    have Kx : Of h h := Of.rf
    refine cx1 (hp := 17) rfl rfl (by decide) wk_L_13 exIA rfl (by decide) exIO (by decide) wk_L_28 (fun q9 => ?_)
    refine so_astore (M := mL_setRate) (pc := 17) (lo' := [_, _, _, _, _]) dL_setRate_17 (LE rfl) (LE rfl) (Or.inr rfl) rfl ?_
    refine wp_iconst (M := mL_setRate) (pc := 19) (v := 2) dL_setRate_19 ci_2 ?_
    refine wp_ireturn (M := mL_setRate) (pc := 20) rfl dL_setRate_20 ?_
    exact k 2 _ _ _ (Or.inr (Or.inr (⟨A0, A1, rfl, rfl, rfl⟩))) H (HM.of Kx) (Kx out _ ho).1 (fun e => absurd e (by decide))
set_option maxHeartbeats 1000000 in
set_option maxRecDepth 100000 in
theorem hp_setWidth {x m out : Nat} {ad : Nat → Nat} {K : Nat} {X : Abs} {z : Int32} (H : WC h x X) (HM : WM h m ad X) (ho : kd h out = some (.inr (2, 1))) (hG : GX K X) (hK : K ≤ 30000) (k : ∀ c a X' h', rl_setWidth X z c a X' → WC h' x X' → WM h' m ad X → kd h' out = some (.inr (2, 1)) → (c = 0 → gl h' out 0 = a.toInt64) → Q (.inl (some (.int c))) h') : WPx E mL_setWidth 0 [some (.ref x), some (.int z), some (.ref out), none] [] (34, 498) h Q := by
  refine wp_aload_n (M := mL_setWidth) (pc := 0) dL_setWidth_0 rfl ?_
  refine wp_iconst (M := mL_setWidth) (pc := 1) (v := 0) dL_setWidth_1 ci_0 ?_
  refine wp_aload_n (M := mL_setWidth) (pc := 2) dL_setWidth_2 rfl ?_
  refine wp_iload_n (M := mL_setWidth) (pc := 3) dL_setWidth_3 rfl ?_
  refine so_VX1 (M := mL_setWidth) (pc := 4) (0, 0) cs_L_setWidth_61 (LE rfl) (LE rfl) (LE rfl) (LE rfl) dL_setWidth_4 H.kMe ?_
  refine sp_X6_setWidth H  ?_ ?_
  · intro A0 h' W9 O9
    have Kx : Of h h' := O9
    refine kIX ?_
    refine wp_i2l (M := mL_setWidth) (pc := 7) dL_setWidth_7 ?_
    refine wr_lastore (M := mL_setWidth) (pc := 8) dL_setWidth_8 (Kx out _ ho).1 (show (0 : Int32) = nI 0 from rfl) (by decide) (by decide) ?_
    refine wp_goto (M := mL_setWidth) (pc := 9) (tgt := 15) dL_setWidth_9 rfl ?_
    refine wp_iconst (M := mL_setWidth) (pc := 15) (v := 0) dL_setWidth_15 ci_0 ?_
    refine wp_ireturn (M := mL_setWidth) (pc := 16) rfl dL_setWidth_16 ?_
    exact k 0 _ _ _ (Or.inl ⟨A0, rfl, rfl, rfl⟩) (WC.sl W9) (WM.sl (HM.of Kx)) (Kx out _ ho).1 (fun _ => u2_at _ _ _ _)
  · intro A0
    have Kx : Of h h := Of.rf
    refine cx0 (hp := 12) rfl rfl (by decide) wk_L_13 exIA rfl (fun q9 => ?_)
    refine so_astore_n (M := mL_setWidth) (pc := 12) (lo' := [_, _, _, _]) dL_setWidth_12 (LE rfl) (LE rfl) (Or.inr rfl) rfl ?_
    refine wp_iconst (M := mL_setWidth) (pc := 13) (v := 1) dL_setWidth_13 ci_1 ?_
    refine wp_ireturn (M := mL_setWidth) (pc := 14) rfl dL_setWidth_14 ?_
    exact k 1 _ _ _ (Or.inr (⟨A0, rfl, rfl, rfl⟩)) H (HM.of Kx) (Kx out _ ho).1 (fun e => absurd e (by decide))
set_option maxHeartbeats 1000000 in
set_option maxRecDepth 100000 in
theorem hp_undo {x m out : Nat} {ad : Nat → Nat} {K : Nat} {X : Abs}  (H : WC h x X) (HM : WM h m ad X) (ho : kd h out = some (.inr (2, 1))) (hG : GX K X) (hK : K ≤ 30000) (k : ∀ c a X' h', rl_undo X  c a X' → WC h' x X' → WM h' m ad X → kd h' out = some (.inr (2, 1)) → (c = 0 → gl h' out 0 = a.toInt64) → Q (.inl (some (.int c))) h') : WPx E mL_undo 0 [some (.ref x), some (.ref out), none] [] (1, 6) h Q := by
  refine wp_aload_n (M := mL_undo) (pc := 0) dL_undo_0 rfl ?_
  refine wp_iconst (M := mL_undo) (pc := 1) (v := 0) dL_undo_1 ci_0 ?_
  refine wp_aload_n (M := mL_undo) (pc := 2) dL_undo_2 rfl ?_
  refine so_VX0 (M := mL_undo) (pc := 3) (0, 0) cs_L_undo_64 (LE rfl) (LE rfl) (LE rfl) (LE rfl) dL_undo_3 H.kMe ?_
  refine sp_X6_undo H  ?_ ?_
  · intro B hs A0 h' W9 O9
    have Kx : Of h h' := O9
    refine kIX ?_
    refine wp_i2l (M := mL_undo) (pc := 6) dL_undo_6 ?_
    refine wr_lastore (M := mL_undo) (pc := 7) dL_undo_7 (Kx out _ ho).1 (show (0 : Int32) = nI 0 from rfl) (by decide) (by decide) ?_
    refine wp_goto (M := mL_undo) (pc := 8) (tgt := 14) dL_undo_8 rfl ?_
    refine wp_iconst (M := mL_undo) (pc := 14) (v := 0) dL_undo_14 ci_0 ?_
    refine wp_ireturn (M := mL_undo) (pc := 15) rfl dL_undo_15 ?_
    exact k 0 _ _ _ (Or.inl ⟨B, hs, A0, rfl, rfl, rfl⟩) (WC.sl W9) (WM.sl (HM.of Kx)) (Kx out _ ho).1 (fun _ => u2_at _ _ _ _)
  · intro A0
    have Kx : Of h h := Of.rf
    refine cx0 (hp := 11) rfl rfl (by decide) wk_L_15 exIS rfl (fun q9 => ?_)
    refine so_astore_n (M := mL_undo) (pc := 11) (lo' := [_, _, _]) dL_undo_11 (LE rfl) (LE rfl) (Or.inr rfl) rfl ?_
    refine wp_iconst (M := mL_undo) (pc := 12) (v := 1) dL_undo_12 ci_1 ?_
    refine wp_ireturn (M := mL_undo) (pc := 13) rfl dL_undo_13 ?_
    exact k 1 _ _ _ (Or.inr (⟨A0, rfl, rfl, rfl⟩)) H (HM.of Kx) (Kx out _ ho).1 (fun e => absurd e (by decide))
set_option maxHeartbeats 1000000 in
set_option maxRecDepth 100000 in
theorem hp_demand {x m out : Nat} {ad : Nat → Nat} {K : Nat} {X : Abs} {w : Int32} (H : WC h x X) (HM : WM h m ad X) (ho : kd h out = some (.inr (2, 1))) (hG : GX K X) (hK : K ≤ 30000) (k : ∀ c a X' h', rl_demand X w c a X' → WC h' x X' → WM h' m ad X → kd h' out = some (.inr (2, 1)) → (c = 0 → gl h' out 0 = a.toInt64) → Q (.inl (some (.int c))) h') : WPx E mL_demand 0 [some (.ref x), some (.int w), some (.ref out), none] [] (1, 6) h Q := by
  refine wp_aload_n (M := mL_demand) (pc := 0) dL_demand_0 rfl ?_
  refine wp_iconst (M := mL_demand) (pc := 1) (v := 0) dL_demand_1 ci_0 ?_
  refine wp_aload_n (M := mL_demand) (pc := 2) dL_demand_2 rfl ?_
  refine wp_iload_n (M := mL_demand) (pc := 3) dL_demand_3 rfl ?_
  refine so_VX1 (M := mL_demand) (pc := 4) (0, 0) cs_L_demand_67 (LE rfl) (LE rfl) (LE rfl) (LE rfl) dL_demand_4 H.kMe ?_
  refine sw_X6_demand H  ?_ ?_
  · intro A0
    have Kx : Of h h := Of.rf
    refine kIX ?_
    refine wp_i2l (M := mL_demand) (pc := 7) dL_demand_7 ?_
    refine wr_lastore (M := mL_demand) (pc := 8) dL_demand_8 (Kx out _ ho).1 (show (0 : Int32) = nI 0 from rfl) (by decide) (by decide) ?_
    refine wp_goto (M := mL_demand) (pc := 9) (tgt := 15) dL_demand_9 rfl ?_
    refine wp_iconst (M := mL_demand) (pc := 15) (v := 0) dL_demand_15 ci_0 ?_
    refine wp_ireturn (M := mL_demand) (pc := 16) rfl dL_demand_16 ?_
    exact k 0 _ _ _ (Or.inl ⟨A0, rfl, rfl, rfl⟩) (WC.sl H) (WM.sl (HM.of Kx)) (Kx out _ ho).1 (fun _ => u2_at _ _ _ _)
  · intro A0
    have Kx : Of h h := Of.rf
    refine cx0 (hp := 12) rfl rfl (by decide) wk_L_13 exIA rfl (fun q9 => ?_)
    refine so_astore_n (M := mL_demand) (pc := 12) (lo' := [_, _, _, _]) dL_demand_12 (LE rfl) (LE rfl) (Or.inr rfl) rfl ?_
    refine wp_iconst (M := mL_demand) (pc := 13) (v := 1) dL_demand_13 ci_1 ?_
    refine wp_ireturn (M := mL_demand) (pc := 14) rfl dL_demand_14 ?_
    exact k 1 _ _ _ (Or.inr (⟨A0, rfl, rfl, rfl⟩)) H (HM.of Kx) (Kx out _ ho).1 (fun e => absurd e (by decide))
set_option maxHeartbeats 1000000 in
set_option maxRecDepth 100000 in
theorem hp_supply {x m out : Nat} {ad : Nat → Nat} {K : Nat} {X : Abs} {w : Int32} (H : WC h x X) (HM : WM h m ad X) (ho : kd h out = some (.inr (2, 1))) (hG : GX K X) (hK : K ≤ 30000) (k : ∀ c a X' h', rl_supply X w c a X' → WC h' x X' → WM h' m ad X → kd h' out = some (.inr (2, 1)) → (c = 0 → gl h' out 0 = a.toInt64) → Q (.inl (some (.int c))) h') : WPx E mL_supply 0 [some (.ref x), some (.int w), some (.ref out), none] [] (1, 6) h Q := by
  refine wp_aload_n (M := mL_supply) (pc := 0) dL_supply_0 rfl ?_
  refine wp_iconst (M := mL_supply) (pc := 1) (v := 0) dL_supply_1 ci_0 ?_
  refine wp_aload_n (M := mL_supply) (pc := 2) dL_supply_2 rfl ?_
  refine wp_iload_n (M := mL_supply) (pc := 3) dL_supply_3 rfl ?_
  refine so_VX1 (M := mL_supply) (pc := 4) (0, 0) cs_L_supply_70 (LE rfl) (LE rfl) (LE rfl) (LE rfl) dL_supply_4 H.kMe ?_
  refine sw_X6_supply H  ?_ ?_
  · intro A0
    have Kx : Of h h := Of.rf
    refine kIX ?_
    refine wp_i2l (M := mL_supply) (pc := 7) dL_supply_7 ?_
    refine wr_lastore (M := mL_supply) (pc := 8) dL_supply_8 (Kx out _ ho).1 (show (0 : Int32) = nI 0 from rfl) (by decide) (by decide) ?_
    refine wp_goto (M := mL_supply) (pc := 9) (tgt := 15) dL_supply_9 rfl ?_
    refine wp_iconst (M := mL_supply) (pc := 15) (v := 0) dL_supply_15 ci_0 ?_
    refine wp_ireturn (M := mL_supply) (pc := 16) rfl dL_supply_16 ?_
    exact k 0 _ _ _ (Or.inl ⟨A0, rfl, rfl, rfl⟩) (WC.sl H) (WM.sl (HM.of Kx)) (Kx out _ ho).1 (fun _ => u2_at _ _ _ _)
  · intro A0
    have Kx : Of h h := Of.rf
    refine cx0 (hp := 12) rfl rfl (by decide) wk_L_13 exIA rfl (fun q9 => ?_)
    refine so_astore_n (M := mL_supply) (pc := 12) (lo' := [_, _, _, _]) dL_supply_12 (LE rfl) (LE rfl) (Or.inr rfl) rfl ?_
    refine wp_iconst (M := mL_supply) (pc := 13) (v := 1) dL_supply_13 ci_1 ?_
    refine wp_ireturn (M := mL_supply) (pc := 14) rfl dL_supply_14 ?_
    exact k 1 _ _ _ (Or.inr (⟨A0, rfl, rfl, rfl⟩)) H (HM.of Kx) (Kx out _ ho).1 (fun e => absurd e (by decide))
set_option maxHeartbeats 1000000 in
set_option maxRecDepth 100000 in
theorem hp_auction {x m out : Nat} {ad : Nat → Nat} {K : Nat} {X : Abs} {w : Int32} (H : WC h x X) (HM : WM h m ad X) (ho : kd h out = some (.inr (2, 1))) (hG : GX K X) (hK : K ≤ 30000) (k : ∀ c a X' h', rl_auction X w c a X' → WC h' x X' → WM h' m ad X → kd h' out = some (.inr (2, 1)) → (c = 0 → gl h' out 0 = a.toInt64) → Q (.inl (some (.int c))) h') : WPx E mL_auction 0 [some (.ref x), some (.int w), some (.ref out), none] [] (1, 6) h Q := by
  refine wp_aload_n (M := mL_auction) (pc := 0) dL_auction_0 rfl ?_
  refine wp_iconst (M := mL_auction) (pc := 1) (v := 0) dL_auction_1 ci_0 ?_
  refine wp_aload_n (M := mL_auction) (pc := 2) dL_auction_2 rfl ?_
  refine wp_iload_n (M := mL_auction) (pc := 3) dL_auction_3 rfl ?_
  refine so_VX1 (M := mL_auction) (pc := 4) (0, 0) cs_L_auction_73 (LE rfl) (LE rfl) (LE rfl) (LE rfl) dL_auction_4 H.kMe ?_
  refine sw_X6_auction H  ?_ ?_
  · intro j A0 A1 h' W9 O9
    have Kx : Of h h' := O9
    refine kIX ?_
    refine wp_i2l (M := mL_auction) (pc := 7) dL_auction_7 ?_
    refine wr_lastore (M := mL_auction) (pc := 8) dL_auction_8 (Kx out _ ho).1 (show (0 : Int32) = nI 0 from rfl) (by decide) (by decide) ?_
    refine wp_goto (M := mL_auction) (pc := 9) (tgt := 15) dL_auction_9 rfl ?_
    refine wp_iconst (M := mL_auction) (pc := 15) (v := 0) dL_auction_15 ci_0 ?_
    refine wp_ireturn (M := mL_auction) (pc := 16) rfl dL_auction_16 ?_
    exact k 0 _ _ _ (Or.inl ⟨j, A0, A1, rfl, rfl, rfl⟩) (WC.sl W9) (WM.sl (HM.of Kx)) (Kx out _ ho).1 (fun _ => u2_at _ _ _ _)
  · intro A0
    have Kx : Of h h := Of.rf
    refine cx0 (hp := 12) rfl rfl (by decide) wk_L_13 exIA rfl (fun q9 => ?_)
    refine so_astore_n (M := mL_auction) (pc := 12) (lo' := [_, _, _, _]) dL_auction_12 (LE rfl) (LE rfl) (Or.inr rfl) rfl ?_
    refine wp_iconst (M := mL_auction) (pc := 13) (v := 1) dL_auction_13 ci_1 ?_
    refine wp_ireturn (M := mL_auction) (pc := 14) rfl dL_auction_14 ?_
    exact k 1 _ _ _ (Or.inr (⟨A0, rfl, rfl, rfl⟩)) H (HM.of Kx) (Kx out _ ho).1 (fun e => absurd e (by decide))
set_option maxHeartbeats 1000000 in
set_option maxRecDepth 100000 in
theorem hp_volumeIf {x m out : Nat} {ad : Nat → Nat} {K : Nat} {X : Abs} {t : Int32} {y : Int32} {p : Int32} {z : Int32} (H : WC h x X) (HM : WM h m ad X) (ho : kd h out = some (.inr (2, 1))) (hG : GX K X) (hK : K ≤ 30000) (k : ∀ c a X' h', rl_volumeIf X t y p z c a X' → WC h' x X' → WM h' m ad X → kd h' out = some (.inr (2, 1)) → (c = 0 → gl h' out 0 = a.toInt64) → Q (.inl (some (.int c))) h') : WPx E mL_volumeIf 0 [some (.ref x), some (.int t), some (.int y), some (.int p), some (.int z), some (.ref out), none] [] (2, 12) h Q := by
  refine wp_aload (M := mL_volumeIf) (pc := 0) dL_volumeIf_0 rfl ?_
  refine wp_iconst (M := mL_volumeIf) (pc := 2) (v := 0) dL_volumeIf_2 ci_0 ?_
  refine wp_aload_n (M := mL_volumeIf) (pc := 3) dL_volumeIf_3 rfl ?_
  refine wp_iload_n (M := mL_volumeIf) (pc := 4) dL_volumeIf_4 rfl ?_
  refine wp_iload_n (M := mL_volumeIf) (pc := 5) dL_volumeIf_5 rfl ?_
  refine wp_iload_n (M := mL_volumeIf) (pc := 6) dL_volumeIf_6 rfl ?_
  refine wp_iload (M := mL_volumeIf) (pc := 7) dL_volumeIf_7 rfl ?_
  refine so_VX4 (M := mL_volumeIf) (pc := 9) (0, 0) cs_L_volumeIf_76 (LE rfl) (LE rfl) (LE rfl) (LE rfl) dL_volumeIf_9 H.kMe ?_
  refine sw_X6_volumeIf H  ?_ ?_ ?_
  · intro j A0 A1 A2 A3 A4 h' W9 O9
    have Kx : Of h h' := O9
    refine kIX ?_
    refine wp_i2l (M := mL_volumeIf) (pc := 12) dL_volumeIf_12 ?_
    refine wr_lastore (M := mL_volumeIf) (pc := 13) dL_volumeIf_13 (Kx out _ ho).1 (show (0 : Int32) = nI 0 from rfl) (by decide) (by decide) ?_
    refine wp_goto (M := mL_volumeIf) (pc := 14) (tgt := 25) dL_volumeIf_14 rfl ?_
    refine wp_iconst (M := mL_volumeIf) (pc := 25) (v := 0) dL_volumeIf_25 ci_0 ?_
    refine wp_ireturn (M := mL_volumeIf) (pc := 26) rfl dL_volumeIf_26 ?_
    exact k 0 _ _ _ (Or.inl ⟨j, A0, A1, A2, A3, A4, rfl, rfl, rfl⟩) (WC.sl W9) (WM.sl (HM.of Kx)) (Kx out _ ho).1 (fun _ => u2_at _ _ _ _)
  · intro A0
    have Kx : Of h h := Of.rf
    refine cx0 (hp := 17) rfl rfl (by decide) wk_L_28 exIO rfl (fun q9 => ?_)
    refine so_astore (M := mL_volumeIf) (pc := 17) (lo' := [_, _, _, _, _, _, _]) dL_volumeIf_17 (LE rfl) (LE rfl) (Or.inr rfl) rfl ?_
    refine wp_iconst (M := mL_volumeIf) (pc := 19) (v := 1) dL_volumeIf_19 ci_1 ?_
    refine wp_ireturn (M := mL_volumeIf) (pc := 20) rfl dL_volumeIf_20 ?_
    exact k 1 _ _ _ (Or.inr (Or.inl ⟨A0, rfl, rfl, rfl⟩)) H (HM.of Kx) (Kx out _ ho).1 (fun e => absurd e (by decide))
  · intro A0 A1
    have Kx : Of h h := Of.rf
    refine cx1 (hp := 21) rfl rfl (by decide) wk_L_13 exIA rfl (by decide) exIO (by decide) wk_L_28 (fun q9 => ?_)
    refine so_astore (M := mL_volumeIf) (pc := 21) (lo' := [_, _, _, _, _, _, _]) dL_volumeIf_21 (LE rfl) (LE rfl) (Or.inr rfl) rfl ?_
    refine wp_iconst (M := mL_volumeIf) (pc := 23) (v := 2) dL_volumeIf_23 ci_2 ?_
    refine wp_ireturn (M := mL_volumeIf) (pc := 24) rfl dL_volumeIf_24 ?_
    exact k 2 _ _ _ (Or.inr (Or.inr (⟨A0, A1, rfl, rfl, rfl⟩))) H (HM.of Kx) (Kx out _ ho).1 (fun e => absurd e (by decide))
set_option maxHeartbeats 1000000 in
set_option maxRecDepth 100000 in
theorem hp_priceFor {x m out : Nat} {ad : Nat → Nat} {K : Nat} {X : Abs} {z : Int32} (H : WC h x X) (HM : WM h m ad X) (ho : kd h out = some (.inr (2, 1))) (hG : GX K X) (hK : K ≤ 30000) (k : ∀ c a X' h', rl_priceFor X z c a X' → WC h' x X' → WM h' m ad X → kd h' out = some (.inr (2, 1)) → (c = 0 → gl h' out 0 = a.toInt64) → Q (.inl (some (.int c))) h') : WPx E mL_priceFor 0 [some (.ref x), some (.int z), some (.ref out), none] [] (1, 6) h Q := by
  refine wp_aload_n (M := mL_priceFor) (pc := 0) dL_priceFor_0 rfl ?_
  refine wp_iconst (M := mL_priceFor) (pc := 1) (v := 0) dL_priceFor_1 ci_0 ?_
  refine wp_aload_n (M := mL_priceFor) (pc := 2) dL_priceFor_2 rfl ?_
  refine wp_iload_n (M := mL_priceFor) (pc := 3) dL_priceFor_3 rfl ?_
  refine so_VX1 (M := mL_priceFor) (pc := 4) (0, 0) cs_L_priceFor_80 (LE rfl) (LE rfl) (LE rfl) (LE rfl) dL_priceFor_4 H.kMe ?_
  refine sp_X6_priceFor H  ?_ ?_
  · intro A0
    have Kx : Of h h := Of.rf
    refine kIX ?_
    refine wp_i2l (M := mL_priceFor) (pc := 7) dL_priceFor_7 ?_
    refine wr_lastore (M := mL_priceFor) (pc := 8) dL_priceFor_8 (Kx out _ ho).1 (show (0 : Int32) = nI 0 from rfl) (by decide) (by decide) ?_
    refine wp_goto (M := mL_priceFor) (pc := 9) (tgt := 15) dL_priceFor_9 rfl ?_
    refine wp_iconst (M := mL_priceFor) (pc := 15) (v := 0) dL_priceFor_15 ci_0 ?_
    refine wp_ireturn (M := mL_priceFor) (pc := 16) rfl dL_priceFor_16 ?_
    exact k 0 _ _ _ (Or.inl ⟨A0, rfl, rfl, rfl⟩) (WC.sl H) (WM.sl (HM.of Kx)) (Kx out _ ho).1 (fun _ => u2_at _ _ _ _)
  · intro A0
    have Kx : Of h h := Of.rf
    refine cx0 (hp := 12) rfl rfl (by decide) wk_L_13 exIA rfl (fun q9 => ?_)
    refine so_astore_n (M := mL_priceFor) (pc := 12) (lo' := [_, _, _, _]) dL_priceFor_12 (LE rfl) (LE rfl) (Or.inr rfl) rfl ?_
    refine wp_iconst (M := mL_priceFor) (pc := 13) (v := 1) dL_priceFor_13 ci_1 ?_
    refine wp_ireturn (M := mL_priceFor) (pc := 14) rfl dL_priceFor_14 ?_
    exact k 1 _ _ _ (Or.inr (⟨A0, rfl, rfl, rfl⟩)) H (HM.of Kx) (Kx out _ ho).1 (fun e => absurd e (by decide))
set_option maxHeartbeats 1000000 in
set_option maxRecDepth 100000 in
theorem hp_share {x m out : Nat} {ad : Nat → Nat} {K : Nat} {X : Abs} {w : Int32} {v : Int32} (H : WC h x X) (HM : WM h m ad X) (ho : kd h out = some (.inr (2, 1))) (hG : GX K X) (hK : K ≤ 30000) (k : ∀ c a X' h', rl_share X w v c a X' → WC h' x X' → WM h' m ad X → kd h' out = some (.inr (2, 1)) → (c = 0 → gl h' out 0 = a.toInt64) → Q (.inl (some (.int c))) h') : WPx E mL_share 0 [some (.ref x), some (.int w), some (.int v), some (.ref out), none] [] (1, 6) h Q := by
  refine wp_aload_n (M := mL_share) (pc := 0) dL_share_0 rfl ?_
  refine wp_iconst (M := mL_share) (pc := 1) (v := 0) dL_share_1 ci_0 ?_
  refine wp_aload_n (M := mL_share) (pc := 2) dL_share_2 rfl ?_
  refine wp_iload_n (M := mL_share) (pc := 3) dL_share_3 rfl ?_
  refine wp_iload_n (M := mL_share) (pc := 4) dL_share_4 rfl ?_
  refine so_VX2 (M := mL_share) (pc := 5) (0, 0) cs_L_share_83 (LE rfl) (LE rfl) (LE rfl) (LE rfl) dL_share_5 H.kMe ?_
  refine sp_X6_share H  ?_ ?_
  · intro t A0 A1 h' W9 O9
    have Kx : Of h h' := O9
    refine kIX ?_
    refine wp_i2l (M := mL_share) (pc := 8) dL_share_8 ?_
    refine wr_lastore (M := mL_share) (pc := 9) dL_share_9 (Kx out _ ho).1 (show (0 : Int32) = nI 0 from rfl) (by decide) (by decide) ?_
    refine wp_goto (M := mL_share) (pc := 10) (tgt := 17) dL_share_10 rfl ?_
    refine wp_iconst (M := mL_share) (pc := 17) (v := 0) dL_share_17 ci_0 ?_
    refine wp_ireturn (M := mL_share) (pc := 18) rfl dL_share_18 ?_
    exact k 0 _ _ _ (Or.inl ⟨t, A0, A1, rfl, rfl, rfl⟩) (WC.sl W9) (WM.sl (HM.of Kx)) (Kx out _ ho).1 (fun _ => u2_at _ _ _ _)
  · intro A0
    have Kx : Of h h := Of.rf
    refine cx0 (hp := 13) rfl rfl (by decide) wk_L_28 exIO rfl (fun q9 => ?_)
    refine so_astore (M := mL_share) (pc := 13) (lo' := [_, _, _, _, _]) dL_share_13 (LE rfl) (LE rfl) (Or.inr rfl) rfl ?_
    refine wp_iconst (M := mL_share) (pc := 15) (v := 1) dL_share_15 ci_1 ?_
    refine wp_ireturn (M := mL_share) (pc := 16) rfl dL_share_16 ?_
    exact k 1 _ _ _ (Or.inr (⟨A0, rfl, rfl, rfl⟩)) H (HM.of Kx) (Kx out _ ho).1 (fun e => absurd e (by decide))
set_option maxHeartbeats 1000000 in
set_option maxRecDepth 100000 in
theorem hp_ahead {x m out : Nat} {ad : Nat → Nat} {K : Nat} {X : Abs} {y : Int32} {t : Int32} {w : Int32} (H : WC h x X) (HM : WM h m ad X) (ho : kd h out = some (.inr (2, 1))) (hG : GX K X) (hK : K ≤ 30000) (k : ∀ c a X' h', rl_ahead X y t w c a X' → WC h' x X' → WM h' m ad X → kd h' out = some (.inr (2, 1)) → (c = 0 → gl h' out 0 = a.toInt64) → Q (.inl (some (.int c))) h') : WPx E mL_ahead 0 [some (.ref x), some (.int y), some (.int t), some (.int w), some (.ref out), none] [] (2, 12) h Q := by
  refine wp_aload (M := mL_ahead) (pc := 0) dL_ahead_0 rfl ?_
  refine wp_iconst (M := mL_ahead) (pc := 2) (v := 0) dL_ahead_2 ci_0 ?_
  refine wp_aload_n (M := mL_ahead) (pc := 3) dL_ahead_3 rfl ?_
  refine wp_iload_n (M := mL_ahead) (pc := 4) dL_ahead_4 rfl ?_
  refine wp_iload_n (M := mL_ahead) (pc := 5) dL_ahead_5 rfl ?_
  refine wp_iload_n (M := mL_ahead) (pc := 6) dL_ahead_6 rfl ?_
  refine so_VX3 (M := mL_ahead) (pc := 7) (0, 0) cs_L_ahead_87 (LE rfl) (LE rfl) (LE rfl) (LE rfl) dL_ahead_7 H.kMe ?_
  refine sw_X6_ahead H (hG.1.okT9 (by omega)) ?_ ?_ ?_
  · intro n i j A0 A1 A2 A3 A4 A5 h' W9 O9
    have Kx : Of h h' := O9
    refine kIX ?_
    refine wp_i2l (M := mL_ahead) (pc := 10) dL_ahead_10 ?_
    refine wr_lastore (M := mL_ahead) (pc := 11) dL_ahead_11 (Kx out _ ho).1 (show (0 : Int32) = nI 0 from rfl) (by decide) (by decide) ?_
    refine wp_goto (M := mL_ahead) (pc := 12) (tgt := 23) dL_ahead_12 rfl ?_
    refine wp_iconst (M := mL_ahead) (pc := 23) (v := 0) dL_ahead_23 ci_0 ?_
    refine wp_ireturn (M := mL_ahead) (pc := 24) rfl dL_ahead_24 ?_
    exact k 0 _ _ _ (Or.inl ⟨n, i, j, A0, A1, A2, A3, A4, A5, rfl, rfl, rfl⟩) (WC.sl W9) (WM.sl (HM.of Kx)) (Kx out _ ho).1 (fun _ => u2_at _ _ _ _)
  · intro A0
    have Kx : Of h h := Of.rf
    refine cx0 (hp := 15) rfl rfl (by decide) wk_L_28 exIO rfl (fun q9 => ?_)
    refine so_astore (M := mL_ahead) (pc := 15) (lo' := [_, _, _, _, _, _]) dL_ahead_15 (LE rfl) (LE rfl) (Or.inr rfl) rfl ?_
    refine wp_iconst (M := mL_ahead) (pc := 17) (v := 1) dL_ahead_17 ci_1 ?_
    refine wp_ireturn (M := mL_ahead) (pc := 18) rfl dL_ahead_18 ?_
    exact k 1 _ _ _ (Or.inr (Or.inl ⟨A0, rfl, rfl, rfl⟩)) H (HM.of Kx) (Kx out _ ho).1 (fun e => absurd e (by decide))
  · intro A0 A1
    have Kx : Of h h := Of.rf
    refine cx1 (hp := 19) rfl rfl (by decide) wk_L_13 exIA rfl (by decide) exIO (by decide) wk_L_28 (fun q9 => ?_)
    refine so_astore (M := mL_ahead) (pc := 19) (lo' := [_, _, _, _, _, _]) dL_ahead_19 (LE rfl) (LE rfl) (Or.inr rfl) rfl ?_
    refine wp_iconst (M := mL_ahead) (pc := 21) (v := 2) dL_ahead_21 ci_2 ?_
    refine wp_ireturn (M := mL_ahead) (pc := 22) rfl dL_ahead_22 ?_
    exact k 2 _ _ _ (Or.inr (Or.inr (⟨A0, A1, rfl, rfl, rfl⟩))) H (HM.of Kx) (Kx out _ ho).1 (fun e => absurd e (by decide))
set_option maxHeartbeats 1000000 in
set_option maxRecDepth 100000 in
theorem hp_sentAfter {x m out : Nat} {ad : Nat → Nat} {K : Nat} {X : Abs} {t : Int32} {w : Int32} (H : WC h x X) (HM : WM h m ad X) (ho : kd h out = some (.inr (2, 1))) (hG : GX K X) (hK : K ≤ 30000) (k : ∀ c a X' h', rl_sentAfter X t w c a X' → WC h' x X' → WM h' m ad X → kd h' out = some (.inr (2, 1)) → (c = 0 → gl h' out 0 = a.toInt64) → Q (.inl (some (.int c))) h') : WPx E mL_sentAfter 0 [some (.ref x), some (.int t), some (.int w), some (.ref out), none] [] (2, 12) h Q := by
  refine wp_aload_n (M := mL_sentAfter) (pc := 0) dL_sentAfter_0 rfl ?_
  refine wp_iconst (M := mL_sentAfter) (pc := 1) (v := 0) dL_sentAfter_1 ci_0 ?_
  refine wp_aload_n (M := mL_sentAfter) (pc := 2) dL_sentAfter_2 rfl ?_
  refine wp_iload_n (M := mL_sentAfter) (pc := 3) dL_sentAfter_3 rfl ?_
  refine wp_iload_n (M := mL_sentAfter) (pc := 4) dL_sentAfter_4 rfl ?_
  refine so_VX2 (M := mL_sentAfter) (pc := 5) (0, 0) cs_L_sentAfter_90 (LE rfl) (LE rfl) (LE rfl) (LE rfl) dL_sentAfter_5 H.kMe ?_
  refine sw_X6_sentAfter H (hG.1.okT9 (by omega)) ?_ ?_ ?_
  · intro i j A0 A1 A2 A3 h' W9 O9
    have Kx : Of h h' := O9
    refine kIX ?_
    refine wp_i2l (M := mL_sentAfter) (pc := 8) dL_sentAfter_8 ?_
    refine wr_lastore (M := mL_sentAfter) (pc := 9) dL_sentAfter_9 (Kx out _ ho).1 (show (0 : Int32) = nI 0 from rfl) (by decide) (by decide) ?_
    refine wp_goto (M := mL_sentAfter) (pc := 10) (tgt := 21) dL_sentAfter_10 rfl ?_
    refine wp_iconst (M := mL_sentAfter) (pc := 21) (v := 0) dL_sentAfter_21 ci_0 ?_
    refine wp_ireturn (M := mL_sentAfter) (pc := 22) rfl dL_sentAfter_22 ?_
    exact k 0 _ _ _ (Or.inl ⟨i, j, A0, A1, A2, A3, rfl, rfl, rfl⟩) (WC.sl W9) (WM.sl (HM.of Kx)) (Kx out _ ho).1 (fun _ => u2_at _ _ _ _)
  · intro A0
    have Kx : Of h h := Of.rf
    refine cx0 (hp := 13) rfl rfl (by decide) wk_L_28 exIO rfl (fun q9 => ?_)
    refine so_astore (M := mL_sentAfter) (pc := 13) (lo' := [_, _, _, _, _]) dL_sentAfter_13 (LE rfl) (LE rfl) (Or.inr rfl) rfl ?_
    refine wp_iconst (M := mL_sentAfter) (pc := 15) (v := 1) dL_sentAfter_15 ci_1 ?_
    refine wp_ireturn (M := mL_sentAfter) (pc := 16) rfl dL_sentAfter_16 ?_
    exact k 1 _ _ _ (Or.inr (Or.inl ⟨A0, rfl, rfl, rfl⟩)) H (HM.of Kx) (Kx out _ ho).1 (fun e => absurd e (by decide))
  · intro A0 A1
    have Kx : Of h h := Of.rf
    refine cx1 (hp := 17) rfl rfl (by decide) wk_L_13 exIA rfl (by decide) exIO (by decide) wk_L_28 (fun q9 => ?_)
    refine so_astore (M := mL_sentAfter) (pc := 17) (lo' := [_, _, _, _, _]) dL_sentAfter_17 (LE rfl) (LE rfl) (Or.inr rfl) rfl ?_
    refine wp_iconst (M := mL_sentAfter) (pc := 19) (v := 2) dL_sentAfter_19 ci_2 ?_
    refine wp_ireturn (M := mL_sentAfter) (pc := 20) rfl dL_sentAfter_20 ?_
    exact k 2 _ _ _ (Or.inr (Or.inr (⟨A0, A1, rfl, rfl, rfl⟩))) H (HM.of Kx) (Kx out _ ho).1 (fun e => absurd e (by decide))
set_option maxHeartbeats 1000000 in
set_option maxRecDepth 100000 in
theorem hp_unused {x m out : Nat} {ad : Nat → Nat} {K : Nat} {X : Abs} {w : Int32} (H : WC h x X) (HM : WM h m ad X) (ho : kd h out = some (.inr (2, 1))) (hG : GX K X) (hK : K ≤ 30000) (k : ∀ c a X' h', rl_unused X w c a X' → WC h' x X' → WM h' m ad X → kd h' out = some (.inr (2, 1)) → (c = 0 → gl h' out 0 = a.toInt64) → Q (.inl (some (.int c))) h') : WPx E mL_unused 0 [some (.ref x), some (.int w), some (.ref out), none] [] (1, 6) h Q := by
  refine wp_aload_n (M := mL_unused) (pc := 0) dL_unused_0 rfl ?_
  refine wp_iconst (M := mL_unused) (pc := 1) (v := 0) dL_unused_1 ci_0 ?_
  refine wp_aload_n (M := mL_unused) (pc := 2) dL_unused_2 rfl ?_
  refine wp_iload_n (M := mL_unused) (pc := 3) dL_unused_3 rfl ?_
  refine so_VX1 (M := mL_unused) (pc := 4) (0, 0) cs_L_unused_93 (LE rfl) (LE rfl) (LE rfl) (LE rfl) dL_unused_4 H.kMe ?_
  refine sw_X6_unused H (hG.1.okT9 (by omega)) ?_ ?_
  · intro n A0 A1 A2 h' W9 O9
    have Kx : Of h h' := O9
    refine kIX ?_
    refine wp_i2l (M := mL_unused) (pc := 7) dL_unused_7 ?_
    refine wr_lastore (M := mL_unused) (pc := 8) dL_unused_8 (Kx out _ ho).1 (show (0 : Int32) = nI 0 from rfl) (by decide) (by decide) ?_
    refine wp_goto (M := mL_unused) (pc := 9) (tgt := 15) dL_unused_9 rfl ?_
    refine wp_iconst (M := mL_unused) (pc := 15) (v := 0) dL_unused_15 ci_0 ?_
    refine wp_ireturn (M := mL_unused) (pc := 16) rfl dL_unused_16 ?_
    exact k 0 _ _ _ (Or.inl ⟨n, A0, A1, A2, rfl, rfl, rfl⟩) (WC.sl W9) (WM.sl (HM.of Kx)) (Kx out _ ho).1 (fun _ => u2_at _ _ _ _)
  · intro A0
    have Kx : Of h h := Of.rf
    refine cx0 (hp := 12) rfl rfl (by decide) wk_L_13 exIA rfl (fun q9 => ?_)
    refine so_astore_n (M := mL_unused) (pc := 12) (lo' := [_, _, _, _]) dL_unused_12 (LE rfl) (LE rfl) (Or.inr rfl) rfl ?_
    refine wp_iconst (M := mL_unused) (pc := 13) (v := 1) dL_unused_13 ci_1 ?_
    refine wp_ireturn (M := mL_unused) (pc := 14) rfl dL_unused_14 ?_
    exact k 1 _ _ _ (Or.inr (⟨A0, rfl, rfl, rfl⟩)) H (HM.of Kx) (Kx out _ ho).1 (fun e => absurd e (by decide))
set_option maxHeartbeats 1000000 in
set_option maxRecDepth 100000 in
theorem hp_wealthiest {x m out : Nat} {ad : Nat → Nat} {K : Nat} {X : Abs} {w : Int32} (H : WC h x X) (HM : WM h m ad X) (ho : kd h out = some (.inr (2, 1))) (hG : GX K X) (hK : K ≤ 30000) (k : ∀ c a X' h', rl_wealthiest X w c a X' → WC h' x X' → WM h' m ad X → kd h' out = some (.inr (2, 1)) → (c = 0 → gl h' out 0 = a.toInt64) → Q (.inl (some (.int c))) h') : WPx E mL_wealthiest 0 [some (.ref x), some (.int w), some (.ref out), none] [] (1, 6) h Q := by
  refine wp_aload_n (M := mL_wealthiest) (pc := 0) dL_wealthiest_0 rfl ?_
  refine wp_iconst (M := mL_wealthiest) (pc := 1) (v := 0) dL_wealthiest_1 ci_0 ?_
  refine wp_aload_n (M := mL_wealthiest) (pc := 2) dL_wealthiest_2 rfl ?_
  refine wp_iload_n (M := mL_wealthiest) (pc := 3) dL_wealthiest_3 rfl ?_
  refine so_VX1 (M := mL_wealthiest) (pc := 4) (0, 0) cs_L_wealthiest_96 (LE rfl) (LE rfl) (LE rfl) (LE rfl) dL_wealthiest_4 H.kMe ?_
  refine sw_X6_wealthiest H  ?_ ?_
  · intro i A0 A1
    have Kx : Of h h := Of.rf
    refine kIX ?_
    refine wp_i2l (M := mL_wealthiest) (pc := 7) dL_wealthiest_7 ?_
    refine wr_lastore (M := mL_wealthiest) (pc := 8) dL_wealthiest_8 (Kx out _ ho).1 (show (0 : Int32) = nI 0 from rfl) (by decide) (by decide) ?_
    refine wp_goto (M := mL_wealthiest) (pc := 9) (tgt := 15) dL_wealthiest_9 rfl ?_
    refine wp_iconst (M := mL_wealthiest) (pc := 15) (v := 0) dL_wealthiest_15 ci_0 ?_
    refine wp_ireturn (M := mL_wealthiest) (pc := 16) rfl dL_wealthiest_16 ?_
    exact k 0 _ _ _ (Or.inl ⟨i, A0, A1, rfl, rfl, rfl⟩) (WC.sl H) (WM.sl (HM.of Kx)) (Kx out _ ho).1 (fun _ => u2_at _ _ _ _)
  · intro A0
    have Kx : Of h h := Of.rf
    refine cx0 (hp := 12) rfl rfl (by decide) wk_L_28 exIO rfl (fun q9 => ?_)
    refine so_astore_n (M := mL_wealthiest) (pc := 12) (lo' := [_, _, _, _]) dL_wealthiest_12 (LE rfl) (LE rfl) (Or.inr rfl) rfl ?_
    refine wp_iconst (M := mL_wealthiest) (pc := 13) (v := 1) dL_wealthiest_13 ci_1 ?_
    refine wp_ireturn (M := mL_wealthiest) (pc := 14) rfl dL_wealthiest_14 ?_
    exact k 1 _ _ _ (Or.inr (⟨A0, rfl, rfl, rfl⟩)) H (HM.of Kx) (Kx out _ ho).1 (fun e => absurd e (by decide))
set_option maxHeartbeats 1000000 in
set_option maxRecDepth 100000 in
theorem hp_runScript {x m out : Nat} {ad : Nat → Nat} {K : Nat} {X : Abs} {w : Int32} {s : Int64} (H : WC h x X) (HM : WM h m ad X) (ho : kd h out = some (.inr (2, 1))) (hG : GX K X) (hK : K ≤ 30000) (k : ∀ c a X' h', rl_runScript X w s c a X' → WC h' x X' → WM h' m ad X → kd h' out = some (.inr (2, 1)) → (c = 0 → gl h' out 0 = a.toInt64) → Q (.inl (some (.int c))) h') : WPx E mL_runScript 0 [some (.ref x), some (.int w), some (.long s), none, some (.ref out), none] [] (2, 12) h Q := by
  refine wp_aload (M := mL_runScript) (pc := 0) dL_runScript_0 rfl ?_
  refine wp_iconst (M := mL_runScript) (pc := 2) (v := 0) dL_runScript_2 ci_0 ?_
  refine wp_aload_n (M := mL_runScript) (pc := 3) dL_runScript_3 rfl ?_
  refine wp_iload_n (M := mL_runScript) (pc := 4) dL_runScript_4 rfl ?_
  refine wp_lload_n (M := mL_runScript) (pc := 5) dL_runScript_5 rfl ?_
  refine so_VX2 (M := mL_runScript) (pc := 6) (0, 0) cs_L_runScript_99 (LE rfl) (LE rfl) (LE rfl) (LE rfl) dL_runScript_6 H.kMe ?_
  refine sp_X6_runScript (P := P9) H P9_ok ⟨K, by omega, hG.1⟩ ?_ ?_
  · intro n A0 A1 A2 A3 A4 h' W9 O9
    have Kx : Of h h' := O9
    refine kIX ?_
    refine wp_i2l (M := mL_runScript) (pc := 9) dL_runScript_9 ?_
    refine wr_lastore (M := mL_runScript) (pc := 10) dL_runScript_10 (Kx out _ ho).1 (show (0 : Int32) = nI 0 from rfl) (by decide) (by decide) ?_
    refine wp_goto (M := mL_runScript) (pc := 11) (tgt := 18) dL_runScript_11 rfl ?_
    refine wp_iconst (M := mL_runScript) (pc := 18) (v := 0) dL_runScript_18 ci_0 ?_
    refine wp_ireturn (M := mL_runScript) (pc := 19) rfl dL_runScript_19 ?_
    exact k 0 _ _ _ (Or.inl ⟨n, A0, A1, A2, A3, A4, rfl, rfl, rfl⟩) (WC.sl W9) (WM.sl (HM.of Kx)) (Kx out _ ho).1 (fun _ => u2_at _ _ _ _)
  · intro A0
    have Kx : Of h h := Of.rf
    refine cx0 (hp := 14) rfl rfl (by decide) wk_L_13 exIA rfl (fun q9 => ?_)
    refine so_astore (M := mL_runScript) (pc := 14) (lo' := [_, _, _, _, _, _]) dL_runScript_14 (LE rfl) (LE rfl) (Or.inr rfl) rfl ?_
    refine wp_iconst (M := mL_runScript) (pc := 16) (v := 1) dL_runScript_16 ci_1 ?_
    refine wp_ireturn (M := mL_runScript) (pc := 17) rfl dL_runScript_17 ?_
    exact k 1 _ _ _ (Or.inr (⟨A0, rfl, rfl, rfl⟩)) H (HM.of Kx) (Kx out _ ho).1 (fun e => absurd e (by decide))
set_option maxHeartbeats 1000000 in
set_option maxRecDepth 100000 in
theorem hp_simulate {x m out : Nat} {ad : Nat → Nat} {K : Nat} {X : Abs} {s : Int64} {w : Int32} (H : WC h x X) (HM : WM h m ad X) (ho : kd h out = some (.inr (2, 1))) (hG : GX K X) (hK : K ≤ 30000) (k : ∀ c a X' h', rl_simulate X s w c a X' → WC h' x X' → WM h' m ad X → kd h' out = some (.inr (2, 1)) → (c = 0 → gl h' out 0 = a.toInt64) → Q (.inl (some (.int c))) h') : WPx E mL_simulate 0 [some (.ref x), some (.long s), none, some (.int w), some (.ref out), none] [] (1, 6) h Q := by
  refine wp_aload (M := mL_simulate) (pc := 0) dL_simulate_0 rfl ?_
  refine wp_iconst (M := mL_simulate) (pc := 2) (v := 0) dL_simulate_2 ci_0 ?_
  refine wp_aload_n (M := mL_simulate) (pc := 3) dL_simulate_3 rfl ?_
  refine wp_lload_n (M := mL_simulate) (pc := 4) dL_simulate_4 rfl ?_
  refine wp_iload_n (M := mL_simulate) (pc := 5) dL_simulate_5 rfl ?_
  refine so_VX2 (M := mL_simulate) (pc := 6) (0, 0) cs_L_simulate_103 (LE rfl) (LE rfl) (LE rfl) (LE rfl) dL_simulate_6 H.kMe ?_
  refine sp_X6_simulate (P := P9) H P9_ok ⟨K, by omega, hG.1⟩ ?_ ?_
  · intro n A0 A1 A2 h' W9 O9
    have Kx : Of h h' := O9
    refine kIX ?_
    refine wp_i2l (M := mL_simulate) (pc := 9) dL_simulate_9 ?_
    refine wr_lastore (M := mL_simulate) (pc := 10) dL_simulate_10 (Kx out _ ho).1 (show (0 : Int32) = nI 0 from rfl) (by decide) (by decide) ?_
    refine wp_goto (M := mL_simulate) (pc := 11) (tgt := 18) dL_simulate_11 rfl ?_
    refine wp_iconst (M := mL_simulate) (pc := 18) (v := 0) dL_simulate_18 ci_0 ?_
    refine wp_ireturn (M := mL_simulate) (pc := 19) rfl dL_simulate_19 ?_
    exact k 0 _ _ _ (Or.inl ⟨n, A0, A1, A2, rfl, rfl, rfl⟩) (WC.sl W9) (WM.sl (HM.of Kx)) (Kx out _ ho).1 (fun _ => u2_at _ _ _ _)
  · intro A0
    have Kx : Of h h := Of.rf
    refine cx0 (hp := 14) rfl rfl (by decide) wk_L_13 exIA rfl (fun q9 => ?_)
    refine so_astore (M := mL_simulate) (pc := 14) (lo' := [_, _, _, _, _, _]) dL_simulate_14 (LE rfl) (LE rfl) (Or.inr rfl) rfl ?_
    refine wp_iconst (M := mL_simulate) (pc := 16) (v := 1) dL_simulate_16 ci_1 ?_
    refine wp_ireturn (M := mL_simulate) (pc := 17) rfl dL_simulate_17 ?_
    exact k 1 _ _ _ (Or.inr (⟨A0, rfl, rfl, rfl⟩)) H (HM.of Kx) (Kx out _ ho).1 (fun e => absurd e (by decide))
set_option maxHeartbeats 1000000 in
set_option maxRecDepth 100000 in
theorem hp_save {x m out : Nat} {ad : Nat → Nat} {K : Nat} {X : Abs} {w : Int32} (H : WC h x X) (HM : WM h m ad X) (ho : kd h out = some (.inr (2, 1))) (hG : GX K X) (hK : K ≤ 30000) (k : ∀ c a X' h', rl_save X w c a X' → WC h' x X' → WM h' m ad X → kd h' out = some (.inr (2, 1)) → (c = 0 → gl h' out 0 = a.toInt64) → Q (.inl (some (.int c))) h') : WPx E mL_save 0 [some (.ref x), some (.int w), some (.ref out), none] [] (34, 498) h Q := by
  refine wp_aload_n (M := mL_save) (pc := 0) dL_save_0 rfl ?_
  refine wp_iconst (M := mL_save) (pc := 1) (v := 0) dL_save_1 ci_0 ?_
  refine wp_aload_n (M := mL_save) (pc := 2) dL_save_2 rfl ?_
  refine wp_iload_n (M := mL_save) (pc := 3) dL_save_3 rfl ?_
  refine so_VX1 (M := mL_save) (pc := 4) (0, 0) cs_L_save_107 (LE rfl) (LE rfl) (LE rfl) (LE rfl) dL_save_4 H.kMe ?_
  refine sp_X6_save H  ?_ ?_
  · intro j A0 A1 h' W9 O9
    have Kx : Of h h' := O9
    refine kIX ?_
    refine wp_i2l (M := mL_save) (pc := 7) dL_save_7 ?_
    refine wr_lastore (M := mL_save) (pc := 8) dL_save_8 (Kx out _ ho).1 (show (0 : Int32) = nI 0 from rfl) (by decide) (by decide) ?_
    refine wp_goto (M := mL_save) (pc := 9) (tgt := 15) dL_save_9 rfl ?_
    refine wp_iconst (M := mL_save) (pc := 15) (v := 0) dL_save_15 ci_0 ?_
    refine wp_ireturn (M := mL_save) (pc := 16) rfl dL_save_16 ?_
    exact k 0 _ _ _ (Or.inl ⟨j, A0, A1, rfl, rfl, rfl⟩) (WC.sl W9) (WM.sl (HM.of Kx)) (Kx out _ ho).1 (fun _ => u2_at _ _ _ _)
  · intro A0
    have Kx : Of h h := Of.rf
    refine cx0 (hp := 12) rfl rfl (by decide) wk_L_28 exIO rfl (fun q9 => ?_)
    refine so_astore_n (M := mL_save) (pc := 12) (lo' := [_, _, _, _]) dL_save_12 (LE rfl) (LE rfl) (Or.inr rfl) rfl ?_
    refine wp_iconst (M := mL_save) (pc := 13) (v := 1) dL_save_13 ci_1 ?_
    refine wp_ireturn (M := mL_save) (pc := 14) rfl dL_save_14 ?_
    exact k 1 _ _ _ (Or.inr (⟨A0, rfl, rfl, rfl⟩)) H (HM.of Kx) (Kx out _ ho).1 (fun e => absurd e (by decide))
set_option maxHeartbeats 1000000 in
set_option maxRecDepth 100000 in
theorem hp_restore {x m out : Nat} {ad : Nat → Nat} {K : Nat} {X : Abs} {w : Int32} (H : WC h x X) (HM : WM h m ad X) (ho : kd h out = some (.inr (2, 1))) (hG : GX K X) (hK : K ≤ 30000) (k : ∀ c a X' h', rl_restore X w c a X' → WC h' x X' → WM h' m ad X → kd h' out = some (.inr (2, 1)) → (c = 0 → gl h' out 0 = a.toInt64) → Q (.inl (some (.int c))) h') : WPx E mL_restore 0 [some (.ref x), some (.int w), some (.ref out), none] [] (2, 12) h Q := by
  refine wp_aload_n (M := mL_restore) (pc := 0) dL_restore_0 rfl ?_
  refine wp_iconst (M := mL_restore) (pc := 1) (v := 0) dL_restore_1 ci_0 ?_
  refine wp_aload_n (M := mL_restore) (pc := 2) dL_restore_2 rfl ?_
  refine wp_iload_n (M := mL_restore) (pc := 3) dL_restore_3 rfl ?_
  refine so_VX1 (M := mL_restore) (pc := 4) (0, 0) cs_L_restore_110 (LE rfl) (LE rfl) (LE rfl) (LE rfl) dL_restore_4 H.kMe ?_
  refine sp_X6_restore H  ?_ ?_ ?_
  · intro j A A0 A1 A2 h' W9 O9
    have Kx : Of h h' := O9
    refine kIX ?_
    refine wp_i2l (M := mL_restore) (pc := 7) dL_restore_7 ?_
    refine wr_lastore (M := mL_restore) (pc := 8) dL_restore_8 (Kx out _ ho).1 (show (0 : Int32) = nI 0 from rfl) (by decide) (by decide) ?_
    refine wp_goto (M := mL_restore) (pc := 9) (tgt := 18) dL_restore_9 rfl ?_
    refine wp_iconst (M := mL_restore) (pc := 18) (v := 0) dL_restore_18 ci_0 ?_
    refine wp_ireturn (M := mL_restore) (pc := 19) rfl dL_restore_19 ?_
    exact k 0 _ _ _ (Or.inl ⟨j, A, A0, A1, A2, rfl, rfl, rfl⟩) (WC.sl W9) (WM.sl (HM.of Kx)) (Kx out _ ho).1 (fun _ => u2_at _ _ _ _)
  · intro A0
    have Kx : Of h h := Of.rf
    refine cx0 (hp := 12) rfl rfl (by decide) wk_L_28 exIO rfl (fun q9 => ?_)
    refine so_astore_n (M := mL_restore) (pc := 12) (lo' := [_, _, _, _]) dL_restore_12 (LE rfl) (LE rfl) (Or.inr rfl) rfl ?_
    refine wp_iconst (M := mL_restore) (pc := 13) (v := 1) dL_restore_13 ci_1 ?_
    refine wp_ireturn (M := mL_restore) (pc := 14) rfl dL_restore_14 ?_
    exact k 1 _ _ _ (Or.inr (Or.inl ⟨A0, rfl, rfl, rfl⟩)) H (HM.of Kx) (Kx out _ ho).1 (fun e => absurd e (by decide))
  · intro j A0 A1 A2
    have Kx : Of h h := Of.rf
    refine cx1 (hp := 15) rfl rfl (by decide) wk_L_15 exIS rfl (by decide) exIO (by decide) wk_L_28 (fun q9 => ?_)
    refine so_astore_n (M := mL_restore) (pc := 15) (lo' := [_, _, _, _]) dL_restore_15 (LE rfl) (LE rfl) (Or.inr rfl) rfl ?_
    refine wp_iconst (M := mL_restore) (pc := 16) (v := 2) dL_restore_16 ci_2 ?_
    refine wp_ireturn (M := mL_restore) (pc := 17) rfl dL_restore_17 ?_
    exact k 2 _ _ _ (Or.inr (Or.inr (⟨j, A0, A1, A2, rfl, rfl, rfl⟩))) H (HM.of Kx) (Kx out _ ho).1 (fun e => absurd e (by decide))
end SP
