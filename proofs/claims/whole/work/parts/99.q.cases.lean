section SP
variable {E : Ev} {h : PH} {Q : Rt → PH → Prop}
theorem lcmp_0 (x : Int64) : lg_cmp x x = 0 := by unfold lg_cmp; simp
set_option maxHeartbeats 4000000 in
set_option maxRecDepth 100000 in
theorem ls_append {x m out : Nat} {ad : Nat → Nat} {X : Abs} {K i n : Nat} {x5 x6 : Option Value} (H : WC h x X) (HM : WM h m ad X) (ho : kd h out = some (.inr (2, 1))) (hG : GX K X) (hK : K ≤ 30000) (hi : i + 5 ≤ E.2.1) (hE : E.2.1 ≤ 2560)  (k : ∀ X' h' y5 y6, WC h' x X' → WM h' m ad X' → kd h' out = some (.inr (2, 1)) → GX (K + 50) X' → WPx E mL_law 2240 [some (.ref E.1), some (.ref x), some (.ref m), some (.ref out), some (.int (nI i)), y5, y6] [] (36 * n, 510 * n) h' Q) : WPx E mL_law 184 [some (.ref E.1), some (.ref x), some (.ref m), some (.ref out), some (.int (nI i)), x5, x6] [] (36 * (n + 1), 510 * (n + 1)) h Q := by
  refine wp_aload_n (M := mL_law) (pc := 184) dL_law_184 rfl ?_
  refine wp_aload_n (M := mL_law) (pc := 185) dL_law_185 rfl ?_
  refine wp_iload (M := mL_law) (pc := 186) dL_law_186 rfl ?_
  refine wp_iconst (M := mL_law) (pc := 188) (v := 1) dL_law_188 ci_1 ?_
  refine wp_iadd (M := mL_law) (pc := 189) dL_law_189 ?_
  refine wr_sld (M := mL_law) (pc := 190) dL_law_190 (ia rfl (show (1 : Int32) = nI 1 from rfl)) (by omega) (by omega) ?_
  refine wp_aload_n (M := mL_law) (pc := 191) dL_law_191 rfl ?_
  refine so_SWA3 (M := mL_law) (pc := 192) (36 * n, 510 * n) cs_L_law_117 rfl (LE rfl) (LE rfl) (by show 2 + 36 * n ≤ 36 * (n + 1); omega) (by show 12 + 510 * n ≤ 510 * (n + 1); omega) dL_law_192 ?_
  refine hp_append H HM ho hG hK (fun c1 a1 X1 h1 R1 W1 M1 o1 g1 => ?_)
  refine kI ?_
  refine so_istore (M := mL_law) (pc := 195) (lo' := [_, _, _, _, _, _, _]) dL_law_195 (LE rfl) (LE rfl) (Or.inr rfl) rfl ?_
  refine wp_aload_n (M := mL_law) (pc := 197) dL_law_197 rfl ?_
  refine wp_aload_n (M := mL_law) (pc := 198) dL_law_198 rfl ?_
  refine wp_iload (M := mL_law) (pc := 199) dL_law_199 rfl ?_
  refine wp_iconst (M := mL_law) (pc := 201) (v := 1) dL_law_201 ci_1 ?_
  refine wp_iadd (M := mL_law) (pc := 202) dL_law_202 ?_
  refine wr_sld (M := mL_law) (pc := 203) dL_law_203 (ia rfl (show (1 : Int32) = nI 1 from rfl)) (by omega) (by omega) ?_
  refine so_V1 (M := mL_law) (pc := 204) cs_L_law_122 rfl rfl (LE rfl) (LE rfl) dL_law_204 M1.kMe ?_
  refine md_append M1 hG hK R1 (fun h2 b2 M2 z2 O2 e2 => ?_)
  refine kI ?_
  refine so_istore (M := mL_law) (pc := 207) (lo' := [_, _, _, _, _, _, _]) dL_law_207 (LE rfl) (LE rfl) (Or.inr rfl) rfl ?_
  refine wp_aload_n (M := mL_law) (pc := 209) dL_law_209 rfl ?_
  refine so_V0 (M := mL_law) (pc := 210) cs_L_law_123 rfl rfl (LE rfl) (LE rfl) dL_law_210 M2.kMe ?_
  refine sp_X7_thrown M2.kMe ?_
  refine kI ?_
  refine wp_iload (M := mL_law) (pc := 213) dL_law_213 rfl ?_
  refine wp_icmp_eq (M := mL_law) (pc := 215) (tgt := 220) dL_law_215 rfl (fun c215 => ?_) (fun c215 => ?_)
  · refine wp_iload (M := mL_law) (pc := 220) dL_law_220 rfl ?_
    refine wp_if_ne (M := mL_law) (pc := 222) (tgt := 237) dL_law_222 rfl (fun c222 => ?_) (fun c222 => ?_)
    · refine wp_goto (M := mL_law) (pc := 237) (tgt := 2240) dL_law_237 rfl ?_
      exact k X1 h2 _ _ (W1.ow O2 M1.kMe) M2 (by rw [O2.1]; exact o1) (gd_append hG hK R1)
    · refine wp_aload_n (M := mL_law) (pc := 225) dL_law_225 rfl ?_
      refine wp_iconst (M := mL_law) (pc := 226) (v := 0) dL_law_226 ci_0 ?_
      refine wr_laload (M := mL_law) (pc := 227) dL_law_227 (by rw [O2.1]; exact o1 : kd h2 out = some (.inr (2, 1))) (show (0 : Int32) = nI 0 from rfl) (by decide) (by decide) ?_
      refine wp_iload (M := mL_law) (pc := 228) dL_law_228 rfl ?_
      refine wp_i2l (M := mL_law) (pc := 230) dL_law_230 ?_
      refine wp_lcmp (M := mL_law) (pc := 231) dL_law_231 ?_
      refine wp_if_eq (M := mL_law) (pc := 232) (tgt := 237) dL_law_232 rfl (fun c232 => ?_) (fun c232 => ?_)
      · refine wp_goto (M := mL_law) (pc := 237) (tgt := 2240) dL_law_237 rfl ?_
        exact k X1 h2 _ _ (W1.ow O2 M1.kMe) M2 (by rw [O2.1]; exact o1) (gd_append hG hK R1)
      · exact absurd (by rw [O2.2.2.1, g1 c222, e2 c222]; exact lcmp_0 _) c232
  · exact absurd z2 c215
set_option maxHeartbeats 4000000 in
set_option maxRecDepth 100000 in
theorem ls_clearText {x m out : Nat} {ad : Nat → Nat} {X : Abs} {K i n : Nat} {x5 x6 : Option Value} (H : WC h x X) (HM : WM h m ad X) (ho : kd h out = some (.inr (2, 1))) (hG : GX K X) (hK : K ≤ 30000) (hi : i + 5 ≤ E.2.1) (hE : E.2.1 ≤ 2560)  (k : ∀ X' h' y5 y6, WC h' x X' → WM h' m ad X' → kd h' out = some (.inr (2, 1)) → GX (K + 50) X' → WPx E mL_law 2240 [some (.ref E.1), some (.ref x), some (.ref m), some (.ref out), some (.int (nI i)), y5, y6] [] (36 * n, 510 * n) h' Q) : WPx E mL_law 240 [some (.ref E.1), some (.ref x), some (.ref m), some (.ref out), some (.int (nI i)), x5, x6] [] (36 * (n + 1), 510 * (n + 1)) h Q := by
  refine wp_aload_n (M := mL_law) (pc := 240) dL_law_240 rfl ?_
  refine so_V0 (M := mL_law) (pc := 241) cs_L_law_126 rfl rfl (LE rfl) (LE rfl) dL_law_241 H.kMe ?_
  refine sw_X6_clearText H (fun h1 W1 O1 => ?_)
  refine kI ?_
  refine wp_aload_n (M := mL_law) (pc := 244) dL_law_244 rfl ?_
  refine so_V0 (M := mL_law) (pc := 245) cs_L_law_129 rfl rfl (LE rfl) (LE rfl) dL_law_245 (HM.of O1).kMe ?_
  refine sp_X7_clearText (HM.of O1) (fun h2 M2 z2 O2 => ?_)
  refine kI ?_
  refine wp_icmp_eq (M := mL_law) (pc := 248) (tgt := 2240) dL_law_248 rfl (fun c248 => ?_) (fun c248 => ?_)
  · exact wp_less (by show 36 * n ≤ 36 * (n + 1); omega) (by show 510 * n ≤ 510 * (n + 1); omega) (k _ h2 _ _ (W1.ow O2 (HM.of O1).kMe) M2 (by rw [O2.1]; exact (O1 out _ ho).1) ⟨(hG.more (K' := K + 50) (by omega)).1, (hG.more (K' := K + 50) (by omega)).2.1, (hG.more (K' := K + 50) (by omega)).2.2.1, Nat.zero_le _⟩)
  · exact absurd rfl c248
set_option maxHeartbeats 4000000 in
set_option maxRecDepth 100000 in
theorem ls_errorPosition {x m out : Nat} {ad : Nat → Nat} {X : Abs} {K i n : Nat} {x5 x6 : Option Value} (H : WC h x X) (HM : WM h m ad X) (ho : kd h out = some (.inr (2, 1))) (hG : GX K X) (hK : K ≤ 30000) (hi : i + 5 ≤ E.2.1) (hE : E.2.1 ≤ 2560)  (k : ∀ X' h' y5 y6, WC h' x X' → WM h' m ad X' → kd h' out = some (.inr (2, 1)) → GX (K + 50) X' → WPx E mL_law 2240 [some (.ref E.1), some (.ref x), some (.ref m), some (.ref out), some (.int (nI i)), y5, y6] [] (36 * n, 510 * n) h' Q) : WPx E mL_law 253 [some (.ref E.1), some (.ref x), some (.ref m), some (.ref out), some (.int (nI i)), x5, x6] [] (36 * (n + 1), 510 * (n + 1)) h Q := by
  refine wp_aload_n (M := mL_law) (pc := 253) dL_law_253 rfl ?_
  refine so_V0 (M := mL_law) (pc := 254) cs_L_law_130 rfl rfl (LE rfl) (LE rfl) dL_law_254 H.kMe ?_
  refine sw_X6_errorPosition H (fun h1 W1 O1 => ?_)
  refine kI ?_
  refine wp_aload_n (M := mL_law) (pc := 257) dL_law_257 rfl ?_
  refine so_V0 (M := mL_law) (pc := 258) cs_L_law_133 rfl rfl (LE rfl) (LE rfl) dL_law_258 (HM.of O1).kMe ?_
  refine sp_X7_errorPosition (HM.of O1) (fun h2 M2 z2 O2 => ?_)
  refine kI ?_
  refine wp_icmp_eq (M := mL_law) (pc := 261) (tgt := 2240) dL_law_261 rfl (fun c261 => ?_) (fun c261 => ?_)
  · exact wp_less (by show 36 * n ≤ 36 * (n + 1); omega) (by show 510 * n ≤ 510 * (n + 1); omega) (k _ h2 _ _ (W1.ow O2 (HM.of O1).kMe) M2 (by rw [O2.1]; exact (O1 out _ ho).1) (hG.more (by omega)))
  · exact absurd rfl c261
set_option maxHeartbeats 4000000 in
set_option maxRecDepth 100000 in
theorem ls_load {x m out : Nat} {ad : Nat → Nat} {X : Abs} {K i n : Nat} {x5 x6 : Option Value} (H : WC h x X) (HM : WM h m ad X) (ho : kd h out = some (.inr (2, 1))) (hG : GX K X) (hK : K ≤ 30000) (hi : i + 5 ≤ E.2.1) (hE : E.2.1 ≤ 2560)  (k : ∀ X' h' y5 y6, WC h' x X' → WM h' m ad X' → kd h' out = some (.inr (2, 1)) → GX (K + 50) X' → WPx E mL_law 2240 [some (.ref E.1), some (.ref x), some (.ref m), some (.ref out), some (.int (nI i)), y5, y6] [] (36 * n, 510 * n) h' Q) : WPx E mL_law 266 [some (.ref E.1), some (.ref x), some (.ref m), some (.ref out), some (.int (nI i)), x5, x6] [] (36 * (n + 1), 510 * (n + 1)) h Q := by
  refine wp_aload_n (M := mL_law) (pc := 266) dL_law_266 rfl ?_
  refine wp_aload_n (M := mL_law) (pc := 267) dL_law_267 rfl ?_
  refine so_SWA2 (M := mL_law) (pc := 268) (36 * n, 510 * n) cs_L_law_134 rfl (LE rfl) (LE rfl) (by show 1 + 36 * n ≤ 36 * (n + 1); omega) (by show 6 + 510 * n ≤ 510 * (n + 1); omega) dL_law_268 ?_
  refine hp_load H HM ho hG hK (fun c1 a1 X1 h1 R1 W1 M1 o1 g1 => ?_)
  refine kI ?_
  refine so_istore (M := mL_law) (pc := 271) (lo' := [_, _, _, _, _, _, _]) dL_law_271 (LE rfl) (LE rfl) (Or.inr rfl) rfl ?_
  refine wp_aload_n (M := mL_law) (pc := 273) dL_law_273 rfl ?_
  refine so_V0 (M := mL_law) (pc := 274) cs_L_law_137 rfl rfl (LE rfl) (LE rfl) dL_law_274 M1.kMe ?_
  refine md_load M1 hG hK R1 (fun h2 b2 M2 z2 O2 e2 => ?_)
  refine kI ?_
  refine so_istore (M := mL_law) (pc := 277) (lo' := [_, _, _, _, _, _, _]) dL_law_277 (LE rfl) (LE rfl) (Or.inr rfl) rfl ?_
  refine wp_aload_n (M := mL_law) (pc := 279) dL_law_279 rfl ?_
  refine so_V0 (M := mL_law) (pc := 280) cs_L_law_123 rfl rfl (LE rfl) (LE rfl) dL_law_280 M2.kMe ?_
  refine sp_X7_thrown M2.kMe ?_
  refine kI ?_
  refine wp_iload (M := mL_law) (pc := 283) dL_law_283 rfl ?_
  refine wp_icmp_eq (M := mL_law) (pc := 285) (tgt := 290) dL_law_285 rfl (fun c285 => ?_) (fun c285 => ?_)
  · refine wp_iload (M := mL_law) (pc := 290) dL_law_290 rfl ?_
    refine wp_if_ne (M := mL_law) (pc := 292) (tgt := 307) dL_law_292 rfl (fun c292 => ?_) (fun c292 => ?_)
    · refine wp_goto (M := mL_law) (pc := 307) (tgt := 2240) dL_law_307 rfl ?_
      exact k X1 h2 _ _ (W1.ow O2 M1.kMe) M2 (by rw [O2.1]; exact o1) (gd_load hG hK R1)
    · refine wp_aload_n (M := mL_law) (pc := 295) dL_law_295 rfl ?_
      refine wp_iconst (M := mL_law) (pc := 296) (v := 0) dL_law_296 ci_0 ?_
      refine wr_laload (M := mL_law) (pc := 297) dL_law_297 (by rw [O2.1]; exact o1 : kd h2 out = some (.inr (2, 1))) (show (0 : Int32) = nI 0 from rfl) (by decide) (by decide) ?_
      refine wp_iload (M := mL_law) (pc := 298) dL_law_298 rfl ?_
      refine wp_i2l (M := mL_law) (pc := 300) dL_law_300 ?_
      refine wp_lcmp (M := mL_law) (pc := 301) dL_law_301 ?_
      refine wp_if_eq (M := mL_law) (pc := 302) (tgt := 307) dL_law_302 rfl (fun c302 => ?_) (fun c302 => ?_)
      · refine wp_goto (M := mL_law) (pc := 307) (tgt := 2240) dL_law_307 rfl ?_
        exact k X1 h2 _ _ (W1.ow O2 M1.kMe) M2 (by rw [O2.1]; exact o1) (gd_load hG hK R1)
      · exact absurd (by rw [O2.2.2.1, g1 c292, e2 c292]; exact lcmp_0 _) c302
  · exact absurd z2 c285
set_option maxHeartbeats 4000000 in
set_option maxRecDepth 100000 in
theorem ls_about {x m out : Nat} {ad : Nat → Nat} {X : Abs} {K i n : Nat} {x5 x6 : Option Value} (H : WC h x X) (HM : WM h m ad X) (ho : kd h out = some (.inr (2, 1))) (hG : GX K X) (hK : K ≤ 30000) (hi : i + 5 ≤ E.2.1) (hE : E.2.1 ≤ 2560)  (k : ∀ X' h' y5 y6, WC h' x X' → WM h' m ad X' → kd h' out = some (.inr (2, 1)) → GX (K + 50) X' → WPx E mL_law 2240 [some (.ref E.1), some (.ref x), some (.ref m), some (.ref out), some (.int (nI i)), y5, y6] [] (36 * n, 510 * n) h' Q) : WPx E mL_law 310 [some (.ref E.1), some (.ref x), some (.ref m), some (.ref out), some (.int (nI i)), x5, x6] [] (36 * (n + 1), 510 * (n + 1)) h Q := by
  refine wp_aload_n (M := mL_law) (pc := 310) dL_law_310 rfl ?_
  refine wp_aload_n (M := mL_law) (pc := 311) dL_law_311 rfl ?_
  refine wp_iload (M := mL_law) (pc := 312) dL_law_312 rfl ?_
  refine wp_iconst (M := mL_law) (pc := 314) (v := 1) dL_law_314 ci_1 ?_
  refine wp_iadd (M := mL_law) (pc := 315) dL_law_315 ?_
  refine wr_sld (M := mL_law) (pc := 316) dL_law_316 (ia rfl (show (1 : Int32) = nI 1 from rfl)) (by omega) (by omega) ?_
  refine wp_aload_n (M := mL_law) (pc := 317) dL_law_317 rfl ?_
  refine so_SWA3 (M := mL_law) (pc := 318) (36 * n, 510 * n) cs_L_law_138 rfl (LE rfl) (LE rfl) (by show 1 + 36 * n ≤ 36 * (n + 1); omega) (by show 6 + 510 * n ≤ 510 * (n + 1); omega) dL_law_318 ?_
  refine hp_about H HM ho hG hK (fun c1 a1 X1 h1 R1 W1 M1 o1 g1 => ?_)
  refine kI ?_
  refine so_istore (M := mL_law) (pc := 321) (lo' := [_, _, _, _, _, _, _]) dL_law_321 (LE rfl) (LE rfl) (Or.inr rfl) rfl ?_
  refine wp_aload_n (M := mL_law) (pc := 323) dL_law_323 rfl ?_
  refine wp_aload_n (M := mL_law) (pc := 324) dL_law_324 rfl ?_
  refine wp_iload (M := mL_law) (pc := 325) dL_law_325 rfl ?_
  refine wp_iconst (M := mL_law) (pc := 327) (v := 1) dL_law_327 ci_1 ?_
  refine wp_iadd (M := mL_law) (pc := 328) dL_law_328 ?_
  refine wr_sld (M := mL_law) (pc := 329) dL_law_329 (ia rfl (show (1 : Int32) = nI 1 from rfl)) (by omega) (by omega) ?_
  refine so_V1 (M := mL_law) (pc := 330) cs_L_law_140 rfl rfl (LE rfl) (LE rfl) dL_law_330 M1.kMe ?_
  refine md_about M1 hG hK R1 (fun h2 b2 M2 z2 O2 e2 => ?_)
  refine kI ?_
  refine so_istore (M := mL_law) (pc := 333) (lo' := [_, _, _, _, _, _, _]) dL_law_333 (LE rfl) (LE rfl) (Or.inr rfl) rfl ?_
  refine wp_aload_n (M := mL_law) (pc := 335) dL_law_335 rfl ?_
  refine so_V0 (M := mL_law) (pc := 336) cs_L_law_123 rfl rfl (LE rfl) (LE rfl) dL_law_336 M2.kMe ?_
  refine sp_X7_thrown M2.kMe ?_
  refine kI ?_
  refine wp_iload (M := mL_law) (pc := 339) dL_law_339 rfl ?_
  refine wp_icmp_eq (M := mL_law) (pc := 341) (tgt := 346) dL_law_341 rfl (fun c341 => ?_) (fun c341 => ?_)
  · refine wp_iload (M := mL_law) (pc := 346) dL_law_346 rfl ?_
    refine wp_if_ne (M := mL_law) (pc := 348) (tgt := 363) dL_law_348 rfl (fun c348 => ?_) (fun c348 => ?_)
    · refine wp_goto (M := mL_law) (pc := 363) (tgt := 2240) dL_law_363 rfl ?_
      exact k X1 h2 _ _ (W1.ow O2 M1.kMe) M2 (by rw [O2.1]; exact o1) (gd_about hG hK R1)
    · refine wp_aload_n (M := mL_law) (pc := 351) dL_law_351 rfl ?_
      refine wp_iconst (M := mL_law) (pc := 352) (v := 0) dL_law_352 ci_0 ?_
      refine wr_laload (M := mL_law) (pc := 353) dL_law_353 (by rw [O2.1]; exact o1 : kd h2 out = some (.inr (2, 1))) (show (0 : Int32) = nI 0 from rfl) (by decide) (by decide) ?_
      refine wp_iload (M := mL_law) (pc := 354) dL_law_354 rfl ?_
      refine wp_i2l (M := mL_law) (pc := 356) dL_law_356 ?_
      refine wp_lcmp (M := mL_law) (pc := 357) dL_law_357 ?_
      refine wp_if_eq (M := mL_law) (pc := 358) (tgt := 363) dL_law_358 rfl (fun c358 => ?_) (fun c358 => ?_)
      · refine wp_goto (M := mL_law) (pc := 363) (tgt := 2240) dL_law_363 rfl ?_
        exact k X1 h2 _ _ (W1.ow O2 M1.kMe) M2 (by rw [O2.1]; exact o1) (gd_about hG hK R1)
      · exact absurd (by rw [O2.2.2.1, g1 c348, e2 c348]; exact lcmp_0 _) c358
  · exact absurd z2 c341
set_option maxHeartbeats 4000000 in
set_option maxRecDepth 100000 in
theorem ls_tenant {x m out : Nat} {ad : Nat → Nat} {X : Abs} {K i n : Nat} {x5 x6 : Option Value} (H : WC h x X) (HM : WM h m ad X) (ho : kd h out = some (.inr (2, 1))) (hG : GX K X) (hK : K ≤ 30000) (hi : i + 5 ≤ E.2.1) (hE : E.2.1 ≤ 2560)  (k : ∀ X' h' y5 y6, WC h' x X' → WM h' m ad X' → kd h' out = some (.inr (2, 1)) → GX (K + 50) X' → WPx E mL_law 2240 [some (.ref E.1), some (.ref x), some (.ref m), some (.ref out), some (.int (nI i)), y5, y6] [] (36 * n, 510 * n) h' Q) : WPx E mL_law 366 [some (.ref E.1), some (.ref x), some (.ref m), some (.ref out), some (.int (nI i)), x5, x6] [] (36 * (n + 1), 510 * (n + 1)) h Q := by
  refine wp_aload_n (M := mL_law) (pc := 366) dL_law_366 rfl ?_
  refine wp_aload_n (M := mL_law) (pc := 367) dL_law_367 rfl ?_
  refine wp_iload (M := mL_law) (pc := 368) dL_law_368 rfl ?_
  refine wp_iconst (M := mL_law) (pc := 370) (v := 1) dL_law_370 ci_1 ?_
  refine wp_iadd (M := mL_law) (pc := 371) dL_law_371 ?_
  refine wr_sld (M := mL_law) (pc := 372) dL_law_372 (ia rfl (show (1 : Int32) = nI 1 from rfl)) (by omega) (by omega) ?_
  refine wp_aload_n (M := mL_law) (pc := 373) dL_law_373 rfl ?_
  refine wp_iload (M := mL_law) (pc := 374) dL_law_374 rfl ?_
  refine wp_iconst (M := mL_law) (pc := 376) (v := 2) dL_law_376 ci_2 ?_
  refine wp_iadd (M := mL_law) (pc := 377) dL_law_377 ?_
  refine wr_sld (M := mL_law) (pc := 378) dL_law_378 (ia rfl (show (2 : Int32) = nI 2 from rfl)) (by omega) (by omega) ?_
  refine wp_aload_n (M := mL_law) (pc := 379) dL_law_379 rfl ?_
  refine so_SWA4 (M := mL_law) (pc := 380) (36 * n, 510 * n) cs_L_law_141 rfl (LE rfl) (LE rfl) (by show 2 + 36 * n ≤ 36 * (n + 1); omega) (by show 12 + 510 * n ≤ 510 * (n + 1); omega) dL_law_380 ?_
  refine hp_tenant H HM ho hG hK (fun c1 a1 X1 h1 R1 W1 M1 o1 g1 => ?_)
  refine kI ?_
  refine so_istore (M := mL_law) (pc := 383) (lo' := [_, _, _, _, _, _, _]) dL_law_383 (LE rfl) (LE rfl) (Or.inr rfl) rfl ?_
  refine wp_aload_n (M := mL_law) (pc := 385) dL_law_385 rfl ?_
  refine wp_aload_n (M := mL_law) (pc := 386) dL_law_386 rfl ?_
  refine wp_iload (M := mL_law) (pc := 387) dL_law_387 rfl ?_
  refine wp_iconst (M := mL_law) (pc := 389) (v := 1) dL_law_389 ci_1 ?_
  refine wp_iadd (M := mL_law) (pc := 390) dL_law_390 ?_
  refine wr_sld (M := mL_law) (pc := 391) dL_law_391 (ia rfl (show (1 : Int32) = nI 1 from rfl)) (by omega) (by omega) ?_
  refine wp_aload_n (M := mL_law) (pc := 392) dL_law_392 rfl ?_
  refine wp_iload (M := mL_law) (pc := 393) dL_law_393 rfl ?_
  refine wp_iconst (M := mL_law) (pc := 395) (v := 2) dL_law_395 ci_2 ?_
  refine wp_iadd (M := mL_law) (pc := 396) dL_law_396 ?_
  refine wr_sld (M := mL_law) (pc := 397) dL_law_397 (ia rfl (show (2 : Int32) = nI 2 from rfl)) (by omega) (by omega) ?_
  refine so_V2 (M := mL_law) (pc := 398) cs_L_law_144 rfl rfl (LE rfl) (LE rfl) dL_law_398 M1.kMe ?_
  refine md_tenant M1 hG hK R1 (fun h2 b2 M2 z2 O2 e2 => ?_)
  refine kI ?_
  refine so_istore (M := mL_law) (pc := 401) (lo' := [_, _, _, _, _, _, _]) dL_law_401 (LE rfl) (LE rfl) (Or.inr rfl) rfl ?_
  refine wp_aload_n (M := mL_law) (pc := 403) dL_law_403 rfl ?_
  refine so_V0 (M := mL_law) (pc := 404) cs_L_law_123 rfl rfl (LE rfl) (LE rfl) dL_law_404 M2.kMe ?_
  refine sp_X7_thrown M2.kMe ?_
  refine kI ?_
  refine wp_iload (M := mL_law) (pc := 407) dL_law_407 rfl ?_
  refine wp_icmp_eq (M := mL_law) (pc := 409) (tgt := 414) dL_law_409 rfl (fun c409 => ?_) (fun c409 => ?_)
  · refine wp_iload (M := mL_law) (pc := 414) dL_law_414 rfl ?_
    refine wp_if_ne (M := mL_law) (pc := 416) (tgt := 431) dL_law_416 rfl (fun c416 => ?_) (fun c416 => ?_)
    · refine wp_goto (M := mL_law) (pc := 431) (tgt := 2240) dL_law_431 rfl ?_
      exact k X1 h2 _ _ (W1.ow O2 M1.kMe) M2 (by rw [O2.1]; exact o1) (gd_tenant hG hK R1)
    · refine wp_aload_n (M := mL_law) (pc := 419) dL_law_419 rfl ?_
      refine wp_iconst (M := mL_law) (pc := 420) (v := 0) dL_law_420 ci_0 ?_
      refine wr_laload (M := mL_law) (pc := 421) dL_law_421 (by rw [O2.1]; exact o1 : kd h2 out = some (.inr (2, 1))) (show (0 : Int32) = nI 0 from rfl) (by decide) (by decide) ?_
      refine wp_iload (M := mL_law) (pc := 422) dL_law_422 rfl ?_
      refine wp_i2l (M := mL_law) (pc := 424) dL_law_424 ?_
      refine wp_lcmp (M := mL_law) (pc := 425) dL_law_425 ?_
      refine wp_if_eq (M := mL_law) (pc := 426) (tgt := 431) dL_law_426 rfl (fun c426 => ?_) (fun c426 => ?_)
      · refine wp_goto (M := mL_law) (pc := 431) (tgt := 2240) dL_law_431 rfl ?_
        exact k X1 h2 _ _ (W1.ow O2 M1.kMe) M2 (by rw [O2.1]; exact o1) (gd_tenant hG hK R1)
      · exact absurd (by rw [O2.2.2.1, g1 c416, e2 c416]; exact lcmp_0 _) c426
  · exact absurd z2 c409
set_option maxHeartbeats 4000000 in
set_option maxRecDepth 100000 in
theorem ls_message {x m out : Nat} {ad : Nat → Nat} {X : Abs} {K i n : Nat} {x5 x6 : Option Value} (H : WC h x X) (HM : WM h m ad X) (ho : kd h out = some (.inr (2, 1))) (hG : GX K X) (hK : K ≤ 30000) (hi : i + 5 ≤ E.2.1) (hE : E.2.1 ≤ 2560)  (k : ∀ X' h' y5 y6, WC h' x X' → WM h' m ad X' → kd h' out = some (.inr (2, 1)) → GX (K + 50) X' → WPx E mL_law 2240 [some (.ref E.1), some (.ref x), some (.ref m), some (.ref out), some (.int (nI i)), y5, y6] [] (36 * n, 510 * n) h' Q) : WPx E mL_law 434 [some (.ref E.1), some (.ref x), some (.ref m), some (.ref out), some (.int (nI i)), x5, x6] [] (36 * (n + 1), 510 * (n + 1)) h Q := by
  refine wp_aload_n (M := mL_law) (pc := 434) dL_law_434 rfl ?_
  refine wp_aload_n (M := mL_law) (pc := 435) dL_law_435 rfl ?_
  refine wp_iload (M := mL_law) (pc := 436) dL_law_436 rfl ?_
  refine wp_iconst (M := mL_law) (pc := 438) (v := 1) dL_law_438 ci_1 ?_
  refine wp_iadd (M := mL_law) (pc := 439) dL_law_439 ?_
  refine wr_sld (M := mL_law) (pc := 440) dL_law_440 (ia rfl (show (1 : Int32) = nI 1 from rfl)) (by omega) (by omega) ?_
  refine wp_aload_n (M := mL_law) (pc := 441) dL_law_441 rfl ?_
  refine wp_iload (M := mL_law) (pc := 442) dL_law_442 rfl ?_
  refine wp_iconst (M := mL_law) (pc := 444) (v := 2) dL_law_444 ci_2 ?_
  refine wp_iadd (M := mL_law) (pc := 445) dL_law_445 ?_
  refine wr_sld (M := mL_law) (pc := 446) dL_law_446 (ia rfl (show (2 : Int32) = nI 2 from rfl)) (by omega) (by omega) ?_
  refine wp_aload_n (M := mL_law) (pc := 447) dL_law_447 rfl ?_
  refine so_SWA4 (M := mL_law) (pc := 448) (36 * n, 510 * n) cs_L_law_145 rfl (LE rfl) (LE rfl) (by show 2 + 36 * n ≤ 36 * (n + 1); omega) (by show 12 + 510 * n ≤ 510 * (n + 1); omega) dL_law_448 ?_
  refine hp_message H HM ho hG hK (fun c1 a1 X1 h1 R1 W1 M1 o1 g1 => ?_)
  refine kI ?_
  refine so_istore (M := mL_law) (pc := 451) (lo' := [_, _, _, _, _, _, _]) dL_law_451 (LE rfl) (LE rfl) (Or.inr rfl) rfl ?_
  refine wp_aload_n (M := mL_law) (pc := 453) dL_law_453 rfl ?_
  refine wp_aload_n (M := mL_law) (pc := 454) dL_law_454 rfl ?_
  refine wp_iload (M := mL_law) (pc := 455) dL_law_455 rfl ?_
  refine wp_iconst (M := mL_law) (pc := 457) (v := 1) dL_law_457 ci_1 ?_
  refine wp_iadd (M := mL_law) (pc := 458) dL_law_458 ?_
  refine wr_sld (M := mL_law) (pc := 459) dL_law_459 (ia rfl (show (1 : Int32) = nI 1 from rfl)) (by omega) (by omega) ?_
  refine wp_aload_n (M := mL_law) (pc := 460) dL_law_460 rfl ?_
  refine wp_iload (M := mL_law) (pc := 461) dL_law_461 rfl ?_
  refine wp_iconst (M := mL_law) (pc := 463) (v := 2) dL_law_463 ci_2 ?_
  refine wp_iadd (M := mL_law) (pc := 464) dL_law_464 ?_
  refine wr_sld (M := mL_law) (pc := 465) dL_law_465 (ia rfl (show (2 : Int32) = nI 2 from rfl)) (by omega) (by omega) ?_
  refine so_V2 (M := mL_law) (pc := 466) cs_L_law_147 rfl rfl (LE rfl) (LE rfl) dL_law_466 M1.kMe ?_
  refine md_message M1 hG hK R1 (fun h2 b2 M2 z2 O2 e2 => ?_)
  refine kI ?_
  refine so_istore (M := mL_law) (pc := 469) (lo' := [_, _, _, _, _, _, _]) dL_law_469 (LE rfl) (LE rfl) (Or.inr rfl) rfl ?_
  refine wp_aload_n (M := mL_law) (pc := 471) dL_law_471 rfl ?_
  refine so_V0 (M := mL_law) (pc := 472) cs_L_law_123 rfl rfl (LE rfl) (LE rfl) dL_law_472 M2.kMe ?_
  refine sp_X7_thrown M2.kMe ?_
  refine kI ?_
  refine wp_iload (M := mL_law) (pc := 475) dL_law_475 rfl ?_
  refine wp_icmp_eq (M := mL_law) (pc := 477) (tgt := 482) dL_law_477 rfl (fun c477 => ?_) (fun c477 => ?_)
  · refine wp_iload (M := mL_law) (pc := 482) dL_law_482 rfl ?_
    refine wp_if_ne (M := mL_law) (pc := 484) (tgt := 499) dL_law_484 rfl (fun c484 => ?_) (fun c484 => ?_)
    · refine wp_goto (M := mL_law) (pc := 499) (tgt := 2240) dL_law_499 rfl ?_
      exact k X1 h2 _ _ (W1.ow O2 M1.kMe) M2 (by rw [O2.1]; exact o1) (gd_message hG hK R1)
    · refine wp_aload_n (M := mL_law) (pc := 487) dL_law_487 rfl ?_
      refine wp_iconst (M := mL_law) (pc := 488) (v := 0) dL_law_488 ci_0 ?_
      refine wr_laload (M := mL_law) (pc := 489) dL_law_489 (by rw [O2.1]; exact o1 : kd h2 out = some (.inr (2, 1))) (show (0 : Int32) = nI 0 from rfl) (by decide) (by decide) ?_
      refine wp_iload (M := mL_law) (pc := 490) dL_law_490 rfl ?_
      refine wp_i2l (M := mL_law) (pc := 492) dL_law_492 ?_
      refine wp_lcmp (M := mL_law) (pc := 493) dL_law_493 ?_
      refine wp_if_eq (M := mL_law) (pc := 494) (tgt := 499) dL_law_494 rfl (fun c494 => ?_) (fun c494 => ?_)
      · refine wp_goto (M := mL_law) (pc := 499) (tgt := 2240) dL_law_499 rfl ?_
        exact k X1 h2 _ _ (W1.ow O2 M1.kMe) M2 (by rw [O2.1]; exact o1) (gd_message hG hK R1)
      · exact absurd (by rw [O2.2.2.1, g1 c484, e2 c484]; exact lcmp_0 _) c494
  · exact absurd z2 c477
set_option maxHeartbeats 4000000 in
set_option maxRecDepth 100000 in
theorem ls_order {x m out : Nat} {ad : Nat → Nat} {X : Abs} {K i n : Nat} {x5 x6 : Option Value} (H : WC h x X) (HM : WM h m ad X) (ho : kd h out = some (.inr (2, 1))) (hG : GX K X) (hK : K ≤ 30000) (hi : i + 5 ≤ E.2.1) (hE : E.2.1 ≤ 2560)  (k : ∀ X' h' y5 y6, WC h' x X' → WM h' m ad X' → kd h' out = some (.inr (2, 1)) → GX (K + 50) X' → WPx E mL_law 2240 [some (.ref E.1), some (.ref x), some (.ref m), some (.ref out), some (.int (nI i)), y5, y6] [] (36 * n, 510 * n) h' Q) : WPx E mL_law 502 [some (.ref E.1), some (.ref x), some (.ref m), some (.ref out), some (.int (nI i)), x5, x6] [] (36 * (n + 1), 510 * (n + 1)) h Q := by
  refine wp_aload_n (M := mL_law) (pc := 502) dL_law_502 rfl ?_
  refine wp_aload_n (M := mL_law) (pc := 503) dL_law_503 rfl ?_
  refine wp_iload (M := mL_law) (pc := 504) dL_law_504 rfl ?_
  refine wp_iconst (M := mL_law) (pc := 506) (v := 1) dL_law_506 ci_1 ?_
  refine wp_iadd (M := mL_law) (pc := 507) dL_law_507 ?_
  refine wr_sld (M := mL_law) (pc := 508) dL_law_508 (ia rfl (show (1 : Int32) = nI 1 from rfl)) (by omega) (by omega) ?_
  refine wp_aload_n (M := mL_law) (pc := 509) dL_law_509 rfl ?_
  refine wp_iload (M := mL_law) (pc := 510) dL_law_510 rfl ?_
  refine wp_iconst (M := mL_law) (pc := 512) (v := 2) dL_law_512 ci_2 ?_
  refine wp_iadd (M := mL_law) (pc := 513) dL_law_513 ?_
  refine wr_sld (M := mL_law) (pc := 514) dL_law_514 (ia rfl (show (2 : Int32) = nI 2 from rfl)) (by omega) (by omega) ?_
  refine wp_aload_n (M := mL_law) (pc := 515) dL_law_515 rfl ?_
  refine so_SWA4 (M := mL_law) (pc := 516) (36 * n, 510 * n) cs_L_law_148 rfl (LE rfl) (LE rfl) (by show 2 + 36 * n ≤ 36 * (n + 1); omega) (by show 12 + 510 * n ≤ 510 * (n + 1); omega) dL_law_516 ?_
  refine hp_order H HM ho hG hK (fun c1 a1 X1 h1 R1 W1 M1 o1 g1 => ?_)
  refine kI ?_
  refine so_istore (M := mL_law) (pc := 519) (lo' := [_, _, _, _, _, _, _]) dL_law_519 (LE rfl) (LE rfl) (Or.inr rfl) rfl ?_
  refine wp_aload_n (M := mL_law) (pc := 521) dL_law_521 rfl ?_
  refine wp_aload_n (M := mL_law) (pc := 522) dL_law_522 rfl ?_
  refine wp_iload (M := mL_law) (pc := 523) dL_law_523 rfl ?_
  refine wp_iconst (M := mL_law) (pc := 525) (v := 1) dL_law_525 ci_1 ?_
  refine wp_iadd (M := mL_law) (pc := 526) dL_law_526 ?_
  refine wr_sld (M := mL_law) (pc := 527) dL_law_527 (ia rfl (show (1 : Int32) = nI 1 from rfl)) (by omega) (by omega) ?_
  refine wp_aload_n (M := mL_law) (pc := 528) dL_law_528 rfl ?_
  refine wp_iload (M := mL_law) (pc := 529) dL_law_529 rfl ?_
  refine wp_iconst (M := mL_law) (pc := 531) (v := 2) dL_law_531 ci_2 ?_
  refine wp_iadd (M := mL_law) (pc := 532) dL_law_532 ?_
  refine wr_sld (M := mL_law) (pc := 533) dL_law_533 (ia rfl (show (2 : Int32) = nI 2 from rfl)) (by omega) (by omega) ?_
  refine so_V2 (M := mL_law) (pc := 534) cs_L_law_150 rfl rfl (LE rfl) (LE rfl) dL_law_534 M1.kMe ?_
  refine md_order M1 hG hK R1 (fun h2 b2 M2 z2 O2 e2 => ?_)
  refine kI ?_
  refine so_istore (M := mL_law) (pc := 537) (lo' := [_, _, _, _, _, _, _]) dL_law_537 (LE rfl) (LE rfl) (Or.inr rfl) rfl ?_
  refine wp_aload_n (M := mL_law) (pc := 539) dL_law_539 rfl ?_
  refine so_V0 (M := mL_law) (pc := 540) cs_L_law_123 rfl rfl (LE rfl) (LE rfl) dL_law_540 M2.kMe ?_
  refine sp_X7_thrown M2.kMe ?_
  refine kI ?_
  refine wp_iload (M := mL_law) (pc := 543) dL_law_543 rfl ?_
  refine wp_icmp_eq (M := mL_law) (pc := 545) (tgt := 550) dL_law_545 rfl (fun c545 => ?_) (fun c545 => ?_)
  · refine wp_iload (M := mL_law) (pc := 550) dL_law_550 rfl ?_
    refine wp_if_ne (M := mL_law) (pc := 552) (tgt := 567) dL_law_552 rfl (fun c552 => ?_) (fun c552 => ?_)
    · refine wp_goto (M := mL_law) (pc := 567) (tgt := 2240) dL_law_567 rfl ?_
      exact k X1 h2 _ _ (W1.ow O2 M1.kMe) M2 (by rw [O2.1]; exact o1) (gd_order hG hK R1)
    · refine wp_aload_n (M := mL_law) (pc := 555) dL_law_555 rfl ?_
      refine wp_iconst (M := mL_law) (pc := 556) (v := 0) dL_law_556 ci_0 ?_
      refine wr_laload (M := mL_law) (pc := 557) dL_law_557 (by rw [O2.1]; exact o1 : kd h2 out = some (.inr (2, 1))) (show (0 : Int32) = nI 0 from rfl) (by decide) (by decide) ?_
      refine wp_iload (M := mL_law) (pc := 558) dL_law_558 rfl ?_
      refine wp_i2l (M := mL_law) (pc := 560) dL_law_560 ?_
      refine wp_lcmp (M := mL_law) (pc := 561) dL_law_561 ?_
      refine wp_if_eq (M := mL_law) (pc := 562) (tgt := 567) dL_law_562 rfl (fun c562 => ?_) (fun c562 => ?_)
      · refine wp_goto (M := mL_law) (pc := 567) (tgt := 2240) dL_law_567 rfl ?_
        exact k X1 h2 _ _ (W1.ow O2 M1.kMe) M2 (by rw [O2.1]; exact o1) (gd_order hG hK R1)
      · exact absurd (by rw [O2.2.2.1, g1 c552, e2 c552]; exact lcmp_0 _) c562
  · exact absurd z2 c545
set_option maxHeartbeats 4000000 in
set_option maxRecDepth 100000 in
theorem ls_bid {x m out : Nat} {ad : Nat → Nat} {X : Abs} {K i n : Nat} {x5 x6 : Option Value} (H : WC h x X) (HM : WM h m ad X) (ho : kd h out = some (.inr (2, 1))) (hG : GX K X) (hK : K ≤ 30000) (hi : i + 5 ≤ E.2.1) (hE : E.2.1 ≤ 2560)  (k : ∀ X' h' y5 y6, WC h' x X' → WM h' m ad X' → kd h' out = some (.inr (2, 1)) → GX (K + 50) X' → WPx E mL_law 2240 [some (.ref E.1), some (.ref x), some (.ref m), some (.ref out), some (.int (nI i)), y5, y6] [] (36 * n, 510 * n) h' Q) : WPx E mL_law 570 [some (.ref E.1), some (.ref x), some (.ref m), some (.ref out), some (.int (nI i)), x5, x6] [] (36 * (n + 1), 510 * (n + 1)) h Q := by
  refine wp_aload_n (M := mL_law) (pc := 570) dL_law_570 rfl ?_
  refine wp_aload_n (M := mL_law) (pc := 571) dL_law_571 rfl ?_
  refine wp_iload (M := mL_law) (pc := 572) dL_law_572 rfl ?_
  refine wp_iconst (M := mL_law) (pc := 574) (v := 1) dL_law_574 ci_1 ?_
  refine wp_iadd (M := mL_law) (pc := 575) dL_law_575 ?_
  refine wr_sld (M := mL_law) (pc := 576) dL_law_576 (ia rfl (show (1 : Int32) = nI 1 from rfl)) (by omega) (by omega) ?_
  refine wp_aload_n (M := mL_law) (pc := 577) dL_law_577 rfl ?_
  refine wp_iload (M := mL_law) (pc := 578) dL_law_578 rfl ?_
  refine wp_iconst (M := mL_law) (pc := 580) (v := 2) dL_law_580 ci_2 ?_
  refine wp_iadd (M := mL_law) (pc := 581) dL_law_581 ?_
  refine wr_sld (M := mL_law) (pc := 582) dL_law_582 (ia rfl (show (2 : Int32) = nI 2 from rfl)) (by omega) (by omega) ?_
  refine wp_aload_n (M := mL_law) (pc := 583) dL_law_583 rfl ?_
  refine wp_iload (M := mL_law) (pc := 584) dL_law_584 rfl ?_
  refine wp_iconst (M := mL_law) (pc := 586) (v := 3) dL_law_586 ci_3 ?_
  refine wp_iadd (M := mL_law) (pc := 587) dL_law_587 ?_
  refine wr_sld (M := mL_law) (pc := 588) dL_law_588 (ia rfl (show (3 : Int32) = nI 3 from rfl)) (by omega) (by omega) ?_
  refine wp_aload_n (M := mL_law) (pc := 589) dL_law_589 rfl ?_
  refine so_SWA5 (M := mL_law) (pc := 590) (36 * n, 510 * n) cs_L_law_151 rfl (LE rfl) (LE rfl) (by show 36 + 36 * n ≤ 36 * (n + 1); omega) (by show 510 + 510 * n ≤ 510 * (n + 1); omega) dL_law_590 ?_
  refine hp_bid H HM ho hG hK (fun c1 a1 X1 h1 R1 W1 M1 o1 g1 => ?_)
  refine kI ?_
  refine so_istore (M := mL_law) (pc := 593) (lo' := [_, _, _, _, _, _, _]) dL_law_593 (LE rfl) (LE rfl) (Or.inr rfl) rfl ?_
  refine wp_aload_n (M := mL_law) (pc := 595) dL_law_595 rfl ?_
  refine wp_aload_n (M := mL_law) (pc := 596) dL_law_596 rfl ?_
  refine wp_iload (M := mL_law) (pc := 597) dL_law_597 rfl ?_
  refine wp_iconst (M := mL_law) (pc := 599) (v := 1) dL_law_599 ci_1 ?_
  refine wp_iadd (M := mL_law) (pc := 600) dL_law_600 ?_
  refine wr_sld (M := mL_law) (pc := 601) dL_law_601 (ia rfl (show (1 : Int32) = nI 1 from rfl)) (by omega) (by omega) ?_
  refine wp_aload_n (M := mL_law) (pc := 602) dL_law_602 rfl ?_
  refine wp_iload (M := mL_law) (pc := 603) dL_law_603 rfl ?_
  refine wp_iconst (M := mL_law) (pc := 605) (v := 2) dL_law_605 ci_2 ?_
  refine wp_iadd (M := mL_law) (pc := 606) dL_law_606 ?_
  refine wr_sld (M := mL_law) (pc := 607) dL_law_607 (ia rfl (show (2 : Int32) = nI 2 from rfl)) (by omega) (by omega) ?_
  refine wp_aload_n (M := mL_law) (pc := 608) dL_law_608 rfl ?_
  refine wp_iload (M := mL_law) (pc := 609) dL_law_609 rfl ?_
  refine wp_iconst (M := mL_law) (pc := 611) (v := 3) dL_law_611 ci_3 ?_
  refine wp_iadd (M := mL_law) (pc := 612) dL_law_612 ?_
  refine wr_sld (M := mL_law) (pc := 613) dL_law_613 (ia rfl (show (3 : Int32) = nI 3 from rfl)) (by omega) (by omega) ?_
  refine so_V3 (M := mL_law) (pc := 614) cs_L_law_154 rfl rfl (LE rfl) (LE rfl) dL_law_614 M1.kMe ?_
  refine md_bid M1 hG hK R1 (fun h2 b2 M2 z2 O2 e2 => ?_)
  refine kI ?_
  refine so_istore (M := mL_law) (pc := 617) (lo' := [_, _, _, _, _, _, _]) dL_law_617 (LE rfl) (LE rfl) (Or.inr rfl) rfl ?_
  refine wp_aload_n (M := mL_law) (pc := 619) dL_law_619 rfl ?_
  refine so_V0 (M := mL_law) (pc := 620) cs_L_law_123 rfl rfl (LE rfl) (LE rfl) dL_law_620 M2.kMe ?_
  refine sp_X7_thrown M2.kMe ?_
  refine kI ?_
  refine wp_iload (M := mL_law) (pc := 623) dL_law_623 rfl ?_
  refine wp_icmp_eq (M := mL_law) (pc := 625) (tgt := 630) dL_law_625 rfl (fun c625 => ?_) (fun c625 => ?_)
  · refine wp_iload (M := mL_law) (pc := 630) dL_law_630 rfl ?_
    refine wp_if_ne (M := mL_law) (pc := 632) (tgt := 647) dL_law_632 rfl (fun c632 => ?_) (fun c632 => ?_)
    · refine wp_goto (M := mL_law) (pc := 647) (tgt := 2240) dL_law_647 rfl ?_
      exact k X1 h2 _ _ (W1.ow O2 M1.kMe) M2 (by rw [O2.1]; exact o1) (gd_bid hG hK R1)
    · refine wp_aload_n (M := mL_law) (pc := 635) dL_law_635 rfl ?_
      refine wp_iconst (M := mL_law) (pc := 636) (v := 0) dL_law_636 ci_0 ?_
      refine wr_laload (M := mL_law) (pc := 637) dL_law_637 (by rw [O2.1]; exact o1 : kd h2 out = some (.inr (2, 1))) (show (0 : Int32) = nI 0 from rfl) (by decide) (by decide) ?_
      refine wp_iload (M := mL_law) (pc := 638) dL_law_638 rfl ?_
      refine wp_i2l (M := mL_law) (pc := 640) dL_law_640 ?_
      refine wp_lcmp (M := mL_law) (pc := 641) dL_law_641 ?_
      refine wp_if_eq (M := mL_law) (pc := 642) (tgt := 647) dL_law_642 rfl (fun c642 => ?_) (fun c642 => ?_)
      · refine wp_goto (M := mL_law) (pc := 647) (tgt := 2240) dL_law_647 rfl ?_
        exact k X1 h2 _ _ (W1.ow O2 M1.kMe) M2 (by rw [O2.1]; exact o1) (gd_bid hG hK R1)
      · exact absurd (by rw [O2.2.2.1, g1 c632, e2 c632]; exact lcmp_0 _) c642
  · exact absurd z2 c625
set_option maxHeartbeats 4000000 in
set_option maxRecDepth 100000 in
theorem ls_ask {x m out : Nat} {ad : Nat → Nat} {X : Abs} {K i n : Nat} {x5 x6 : Option Value} (H : WC h x X) (HM : WM h m ad X) (ho : kd h out = some (.inr (2, 1))) (hG : GX K X) (hK : K ≤ 30000) (hi : i + 5 ≤ E.2.1) (hE : E.2.1 ≤ 2560)  (k : ∀ X' h' y5 y6, WC h' x X' → WM h' m ad X' → kd h' out = some (.inr (2, 1)) → GX (K + 50) X' → WPx E mL_law 2240 [some (.ref E.1), some (.ref x), some (.ref m), some (.ref out), some (.int (nI i)), y5, y6] [] (36 * n, 510 * n) h' Q) : WPx E mL_law 650 [some (.ref E.1), some (.ref x), some (.ref m), some (.ref out), some (.int (nI i)), x5, x6] [] (36 * (n + 1), 510 * (n + 1)) h Q := by
  refine wp_aload_n (M := mL_law) (pc := 650) dL_law_650 rfl ?_
  refine wp_aload_n (M := mL_law) (pc := 651) dL_law_651 rfl ?_
  refine wp_iload (M := mL_law) (pc := 652) dL_law_652 rfl ?_
  refine wp_iconst (M := mL_law) (pc := 654) (v := 1) dL_law_654 ci_1 ?_
  refine wp_iadd (M := mL_law) (pc := 655) dL_law_655 ?_
  refine wr_sld (M := mL_law) (pc := 656) dL_law_656 (ia rfl (show (1 : Int32) = nI 1 from rfl)) (by omega) (by omega) ?_
  refine wp_aload_n (M := mL_law) (pc := 657) dL_law_657 rfl ?_
  refine wp_iload (M := mL_law) (pc := 658) dL_law_658 rfl ?_
  refine wp_iconst (M := mL_law) (pc := 660) (v := 2) dL_law_660 ci_2 ?_
  refine wp_iadd (M := mL_law) (pc := 661) dL_law_661 ?_
  refine wr_sld (M := mL_law) (pc := 662) dL_law_662 (ia rfl (show (2 : Int32) = nI 2 from rfl)) (by omega) (by omega) ?_
  refine wp_aload_n (M := mL_law) (pc := 663) dL_law_663 rfl ?_
  refine wp_iload (M := mL_law) (pc := 664) dL_law_664 rfl ?_
  refine wp_iconst (M := mL_law) (pc := 666) (v := 3) dL_law_666 ci_3 ?_
  refine wp_iadd (M := mL_law) (pc := 667) dL_law_667 ?_
  refine wr_sld (M := mL_law) (pc := 668) dL_law_668 (ia rfl (show (3 : Int32) = nI 3 from rfl)) (by omega) (by omega) ?_
  refine wp_aload_n (M := mL_law) (pc := 669) dL_law_669 rfl ?_
  refine so_SWA5 (M := mL_law) (pc := 670) (36 * n, 510 * n) cs_L_law_155 rfl (LE rfl) (LE rfl) (by show 36 + 36 * n ≤ 36 * (n + 1); omega) (by show 510 + 510 * n ≤ 510 * (n + 1); omega) dL_law_670 ?_
  refine hp_ask H HM ho hG hK (fun c1 a1 X1 h1 R1 W1 M1 o1 g1 => ?_)
  refine kI ?_
  refine so_istore (M := mL_law) (pc := 673) (lo' := [_, _, _, _, _, _, _]) dL_law_673 (LE rfl) (LE rfl) (Or.inr rfl) rfl ?_
  refine wp_aload_n (M := mL_law) (pc := 675) dL_law_675 rfl ?_
  refine wp_aload_n (M := mL_law) (pc := 676) dL_law_676 rfl ?_
  refine wp_iload (M := mL_law) (pc := 677) dL_law_677 rfl ?_
  refine wp_iconst (M := mL_law) (pc := 679) (v := 1) dL_law_679 ci_1 ?_
  refine wp_iadd (M := mL_law) (pc := 680) dL_law_680 ?_
  refine wr_sld (M := mL_law) (pc := 681) dL_law_681 (ia rfl (show (1 : Int32) = nI 1 from rfl)) (by omega) (by omega) ?_
  refine wp_aload_n (M := mL_law) (pc := 682) dL_law_682 rfl ?_
  refine wp_iload (M := mL_law) (pc := 683) dL_law_683 rfl ?_
  refine wp_iconst (M := mL_law) (pc := 685) (v := 2) dL_law_685 ci_2 ?_
  refine wp_iadd (M := mL_law) (pc := 686) dL_law_686 ?_
  refine wr_sld (M := mL_law) (pc := 687) dL_law_687 (ia rfl (show (2 : Int32) = nI 2 from rfl)) (by omega) (by omega) ?_
  refine wp_aload_n (M := mL_law) (pc := 688) dL_law_688 rfl ?_
  refine wp_iload (M := mL_law) (pc := 689) dL_law_689 rfl ?_
  refine wp_iconst (M := mL_law) (pc := 691) (v := 3) dL_law_691 ci_3 ?_
  refine wp_iadd (M := mL_law) (pc := 692) dL_law_692 ?_
  refine wr_sld (M := mL_law) (pc := 693) dL_law_693 (ia rfl (show (3 : Int32) = nI 3 from rfl)) (by omega) (by omega) ?_
  refine so_V3 (M := mL_law) (pc := 694) cs_L_law_157 rfl rfl (LE rfl) (LE rfl) dL_law_694 M1.kMe ?_
  refine md_ask M1 hG hK R1 (fun h2 b2 M2 z2 O2 e2 => ?_)
  refine kI ?_
  refine so_istore (M := mL_law) (pc := 697) (lo' := [_, _, _, _, _, _, _]) dL_law_697 (LE rfl) (LE rfl) (Or.inr rfl) rfl ?_
  refine wp_aload_n (M := mL_law) (pc := 699) dL_law_699 rfl ?_
  refine so_V0 (M := mL_law) (pc := 700) cs_L_law_123 rfl rfl (LE rfl) (LE rfl) dL_law_700 M2.kMe ?_
  refine sp_X7_thrown M2.kMe ?_
  refine kI ?_
  refine wp_iload (M := mL_law) (pc := 703) dL_law_703 rfl ?_
  refine wp_icmp_eq (M := mL_law) (pc := 705) (tgt := 710) dL_law_705 rfl (fun c705 => ?_) (fun c705 => ?_)
  · refine wp_iload (M := mL_law) (pc := 710) dL_law_710 rfl ?_
    refine wp_if_ne (M := mL_law) (pc := 712) (tgt := 727) dL_law_712 rfl (fun c712 => ?_) (fun c712 => ?_)
    · refine wp_goto (M := mL_law) (pc := 727) (tgt := 2240) dL_law_727 rfl ?_
      exact k X1 h2 _ _ (W1.ow O2 M1.kMe) M2 (by rw [O2.1]; exact o1) (gd_ask hG hK R1)
    · refine wp_aload_n (M := mL_law) (pc := 715) dL_law_715 rfl ?_
      refine wp_iconst (M := mL_law) (pc := 716) (v := 0) dL_law_716 ci_0 ?_
      refine wr_laload (M := mL_law) (pc := 717) dL_law_717 (by rw [O2.1]; exact o1 : kd h2 out = some (.inr (2, 1))) (show (0 : Int32) = nI 0 from rfl) (by decide) (by decide) ?_
      refine wp_iload (M := mL_law) (pc := 718) dL_law_718 rfl ?_
      refine wp_i2l (M := mL_law) (pc := 720) dL_law_720 ?_
      refine wp_lcmp (M := mL_law) (pc := 721) dL_law_721 ?_
      refine wp_if_eq (M := mL_law) (pc := 722) (tgt := 727) dL_law_722 rfl (fun c722 => ?_) (fun c722 => ?_)
      · refine wp_goto (M := mL_law) (pc := 727) (tgt := 2240) dL_law_727 rfl ?_
        exact k X1 h2 _ _ (W1.ow O2 M1.kMe) M2 (by rw [O2.1]; exact o1) (gd_ask hG hK R1)
      · exact absurd (by rw [O2.2.2.1, g1 c712, e2 c712]; exact lcmp_0 _) c722
  · exact absurd z2 c705
set_option maxHeartbeats 4000000 in
set_option maxRecDepth 100000 in
theorem ls_askShort {x m out : Nat} {ad : Nat → Nat} {X : Abs} {K i n : Nat} {x5 x6 : Option Value} (H : WC h x X) (HM : WM h m ad X) (ho : kd h out = some (.inr (2, 1))) (hG : GX K X) (hK : K ≤ 30000) (hi : i + 5 ≤ E.2.1) (hE : E.2.1 ≤ 2560)  (k : ∀ X' h' y5 y6, WC h' x X' → WM h' m ad X' → kd h' out = some (.inr (2, 1)) → GX (K + 50) X' → WPx E mL_law 2240 [some (.ref E.1), some (.ref x), some (.ref m), some (.ref out), some (.int (nI i)), y5, y6] [] (36 * n, 510 * n) h' Q) : WPx E mL_law 730 [some (.ref E.1), some (.ref x), some (.ref m), some (.ref out), some (.int (nI i)), x5, x6] [] (36 * (n + 1), 510 * (n + 1)) h Q := by
  refine wp_aload_n (M := mL_law) (pc := 730) dL_law_730 rfl ?_
  refine wp_aload_n (M := mL_law) (pc := 731) dL_law_731 rfl ?_
  refine wp_iload (M := mL_law) (pc := 732) dL_law_732 rfl ?_
  refine wp_iconst (M := mL_law) (pc := 734) (v := 1) dL_law_734 ci_1 ?_
  refine wp_iadd (M := mL_law) (pc := 735) dL_law_735 ?_
  refine wr_sld (M := mL_law) (pc := 736) dL_law_736 (ia rfl (show (1 : Int32) = nI 1 from rfl)) (by omega) (by omega) ?_
  refine wp_aload_n (M := mL_law) (pc := 737) dL_law_737 rfl ?_
  refine wp_iload (M := mL_law) (pc := 738) dL_law_738 rfl ?_
  refine wp_iconst (M := mL_law) (pc := 740) (v := 2) dL_law_740 ci_2 ?_
  refine wp_iadd (M := mL_law) (pc := 741) dL_law_741 ?_
  refine wr_sld (M := mL_law) (pc := 742) dL_law_742 (ia rfl (show (2 : Int32) = nI 2 from rfl)) (by omega) (by omega) ?_
  refine wp_aload_n (M := mL_law) (pc := 743) dL_law_743 rfl ?_
  refine wp_iload (M := mL_law) (pc := 744) dL_law_744 rfl ?_
  refine wp_iconst (M := mL_law) (pc := 746) (v := 3) dL_law_746 ci_3 ?_
  refine wp_iadd (M := mL_law) (pc := 747) dL_law_747 ?_
  refine wr_sld (M := mL_law) (pc := 748) dL_law_748 (ia rfl (show (3 : Int32) = nI 3 from rfl)) (by omega) (by omega) ?_
  refine wp_aload_n (M := mL_law) (pc := 749) dL_law_749 rfl ?_
  refine so_SWA5 (M := mL_law) (pc := 750) (36 * n, 510 * n) cs_L_law_158 rfl (LE rfl) (LE rfl) (by show 36 + 36 * n ≤ 36 * (n + 1); omega) (by show 510 + 510 * n ≤ 510 * (n + 1); omega) dL_law_750 ?_
  refine hp_askShort H HM ho hG hK (fun c1 a1 X1 h1 R1 W1 M1 o1 g1 => ?_)
  refine kI ?_
  refine so_istore (M := mL_law) (pc := 753) (lo' := [_, _, _, _, _, _, _]) dL_law_753 (LE rfl) (LE rfl) (Or.inr rfl) rfl ?_
  refine wp_aload_n (M := mL_law) (pc := 755) dL_law_755 rfl ?_
  refine wp_aload_n (M := mL_law) (pc := 756) dL_law_756 rfl ?_
  refine wp_iload (M := mL_law) (pc := 757) dL_law_757 rfl ?_
  refine wp_iconst (M := mL_law) (pc := 759) (v := 1) dL_law_759 ci_1 ?_
  refine wp_iadd (M := mL_law) (pc := 760) dL_law_760 ?_
  refine wr_sld (M := mL_law) (pc := 761) dL_law_761 (ia rfl (show (1 : Int32) = nI 1 from rfl)) (by omega) (by omega) ?_
  refine wp_aload_n (M := mL_law) (pc := 762) dL_law_762 rfl ?_
  refine wp_iload (M := mL_law) (pc := 763) dL_law_763 rfl ?_
  refine wp_iconst (M := mL_law) (pc := 765) (v := 2) dL_law_765 ci_2 ?_
  refine wp_iadd (M := mL_law) (pc := 766) dL_law_766 ?_
  refine wr_sld (M := mL_law) (pc := 767) dL_law_767 (ia rfl (show (2 : Int32) = nI 2 from rfl)) (by omega) (by omega) ?_
  refine wp_aload_n (M := mL_law) (pc := 768) dL_law_768 rfl ?_
  refine wp_iload (M := mL_law) (pc := 769) dL_law_769 rfl ?_
  refine wp_iconst (M := mL_law) (pc := 771) (v := 3) dL_law_771 ci_3 ?_
  refine wp_iadd (M := mL_law) (pc := 772) dL_law_772 ?_
  refine wr_sld (M := mL_law) (pc := 773) dL_law_773 (ia rfl (show (3 : Int32) = nI 3 from rfl)) (by omega) (by omega) ?_
  refine so_V3 (M := mL_law) (pc := 774) cs_L_law_160 rfl rfl (LE rfl) (LE rfl) dL_law_774 M1.kMe ?_
  refine md_askShort M1 hG hK R1 (fun h2 b2 M2 z2 O2 e2 => ?_)
  refine kI ?_
  refine so_istore (M := mL_law) (pc := 777) (lo' := [_, _, _, _, _, _, _]) dL_law_777 (LE rfl) (LE rfl) (Or.inr rfl) rfl ?_
  refine wp_aload_n (M := mL_law) (pc := 779) dL_law_779 rfl ?_
  refine so_V0 (M := mL_law) (pc := 780) cs_L_law_123 rfl rfl (LE rfl) (LE rfl) dL_law_780 M2.kMe ?_
  refine sp_X7_thrown M2.kMe ?_
  refine kI ?_
  refine wp_iload (M := mL_law) (pc := 783) dL_law_783 rfl ?_
  refine wp_icmp_eq (M := mL_law) (pc := 785) (tgt := 790) dL_law_785 rfl (fun c785 => ?_) (fun c785 => ?_)
  · refine wp_iload (M := mL_law) (pc := 790) dL_law_790 rfl ?_
    refine wp_if_ne (M := mL_law) (pc := 792) (tgt := 807) dL_law_792 rfl (fun c792 => ?_) (fun c792 => ?_)
    · refine wp_goto (M := mL_law) (pc := 807) (tgt := 2240) dL_law_807 rfl ?_
      exact k X1 h2 _ _ (W1.ow O2 M1.kMe) M2 (by rw [O2.1]; exact o1) (gd_askShort hG hK R1)
    · refine wp_aload_n (M := mL_law) (pc := 795) dL_law_795 rfl ?_
      refine wp_iconst (M := mL_law) (pc := 796) (v := 0) dL_law_796 ci_0 ?_
      refine wr_laload (M := mL_law) (pc := 797) dL_law_797 (by rw [O2.1]; exact o1 : kd h2 out = some (.inr (2, 1))) (show (0 : Int32) = nI 0 from rfl) (by decide) (by decide) ?_
      refine wp_iload (M := mL_law) (pc := 798) dL_law_798 rfl ?_
      refine wp_i2l (M := mL_law) (pc := 800) dL_law_800 ?_
      refine wp_lcmp (M := mL_law) (pc := 801) dL_law_801 ?_
      refine wp_if_eq (M := mL_law) (pc := 802) (tgt := 807) dL_law_802 rfl (fun c802 => ?_) (fun c802 => ?_)
      · refine wp_goto (M := mL_law) (pc := 807) (tgt := 2240) dL_law_807 rfl ?_
        exact k X1 h2 _ _ (W1.ow O2 M1.kMe) M2 (by rw [O2.1]; exact o1) (gd_askShort hG hK R1)
      · exact absurd (by rw [O2.2.2.1, g1 c792, e2 c792]; exact lcmp_0 _) c802
  · exact absurd z2 c785
set_option maxHeartbeats 4000000 in
set_option maxRecDepth 100000 in
theorem ls_withdraw {x m out : Nat} {ad : Nat → Nat} {X : Abs} {K i n : Nat} {x5 x6 : Option Value} (H : WC h x X) (HM : WM h m ad X) (ho : kd h out = some (.inr (2, 1))) (hG : GX K X) (hK : K ≤ 30000) (hi : i + 5 ≤ E.2.1) (hE : E.2.1 ≤ 2560)  (k : ∀ X' h' y5 y6, WC h' x X' → WM h' m ad X' → kd h' out = some (.inr (2, 1)) → GX (K + 50) X' → WPx E mL_law 2240 [some (.ref E.1), some (.ref x), some (.ref m), some (.ref out), some (.int (nI i)), y5, y6] [] (36 * n, 510 * n) h' Q) : WPx E mL_law 810 [some (.ref E.1), some (.ref x), some (.ref m), some (.ref out), some (.int (nI i)), x5, x6] [] (36 * (n + 1), 510 * (n + 1)) h Q := by
  refine wp_aload_n (M := mL_law) (pc := 810) dL_law_810 rfl ?_
  refine wp_aload_n (M := mL_law) (pc := 811) dL_law_811 rfl ?_
  refine wp_iload (M := mL_law) (pc := 812) dL_law_812 rfl ?_
  refine wp_iconst (M := mL_law) (pc := 814) (v := 1) dL_law_814 ci_1 ?_
  refine wp_iadd (M := mL_law) (pc := 815) dL_law_815 ?_
  refine wr_sld (M := mL_law) (pc := 816) dL_law_816 (ia rfl (show (1 : Int32) = nI 1 from rfl)) (by omega) (by omega) ?_
  refine wp_aload_n (M := mL_law) (pc := 817) dL_law_817 rfl ?_
  refine so_SWA3 (M := mL_law) (pc := 818) (36 * n, 510 * n) cs_L_law_161 rfl (LE rfl) (LE rfl) (by show 34 + 36 * n ≤ 36 * (n + 1); omega) (by show 498 + 510 * n ≤ 510 * (n + 1); omega) dL_law_818 ?_
  refine hp_withdraw H HM ho hG hK (fun c1 a1 X1 h1 R1 W1 M1 o1 g1 => ?_)
  refine kI ?_
  refine so_istore (M := mL_law) (pc := 821) (lo' := [_, _, _, _, _, _, _]) dL_law_821 (LE rfl) (LE rfl) (Or.inr rfl) rfl ?_
  refine wp_aload_n (M := mL_law) (pc := 823) dL_law_823 rfl ?_
  refine wp_aload_n (M := mL_law) (pc := 824) dL_law_824 rfl ?_
  refine wp_iload (M := mL_law) (pc := 825) dL_law_825 rfl ?_
  refine wp_iconst (M := mL_law) (pc := 827) (v := 1) dL_law_827 ci_1 ?_
  refine wp_iadd (M := mL_law) (pc := 828) dL_law_828 ?_
  refine wr_sld (M := mL_law) (pc := 829) dL_law_829 (ia rfl (show (1 : Int32) = nI 1 from rfl)) (by omega) (by omega) ?_
  refine so_V1 (M := mL_law) (pc := 830) cs_L_law_163 rfl rfl (LE rfl) (LE rfl) dL_law_830 M1.kMe ?_
  refine md_withdraw M1 hG hK R1 (fun h2 b2 M2 z2 O2 e2 => ?_)
  refine kI ?_
  refine so_istore (M := mL_law) (pc := 833) (lo' := [_, _, _, _, _, _, _]) dL_law_833 (LE rfl) (LE rfl) (Or.inr rfl) rfl ?_
  refine wp_aload_n (M := mL_law) (pc := 835) dL_law_835 rfl ?_
  refine so_V0 (M := mL_law) (pc := 836) cs_L_law_123 rfl rfl (LE rfl) (LE rfl) dL_law_836 M2.kMe ?_
  refine sp_X7_thrown M2.kMe ?_
  refine kI ?_
  refine wp_iload (M := mL_law) (pc := 839) dL_law_839 rfl ?_
  refine wp_icmp_eq (M := mL_law) (pc := 841) (tgt := 846) dL_law_841 rfl (fun c841 => ?_) (fun c841 => ?_)
  · refine wp_iload (M := mL_law) (pc := 846) dL_law_846 rfl ?_
    refine wp_if_ne (M := mL_law) (pc := 848) (tgt := 863) dL_law_848 rfl (fun c848 => ?_) (fun c848 => ?_)
    · refine wp_goto (M := mL_law) (pc := 863) (tgt := 2240) dL_law_863 rfl ?_
      exact k X1 h2 _ _ (W1.ow O2 M1.kMe) M2 (by rw [O2.1]; exact o1) (gd_withdraw hG hK R1)
    · refine wp_aload_n (M := mL_law) (pc := 851) dL_law_851 rfl ?_
      refine wp_iconst (M := mL_law) (pc := 852) (v := 0) dL_law_852 ci_0 ?_
      refine wr_laload (M := mL_law) (pc := 853) dL_law_853 (by rw [O2.1]; exact o1 : kd h2 out = some (.inr (2, 1))) (show (0 : Int32) = nI 0 from rfl) (by decide) (by decide) ?_
      refine wp_iload (M := mL_law) (pc := 854) dL_law_854 rfl ?_
      refine wp_i2l (M := mL_law) (pc := 856) dL_law_856 ?_
      refine wp_lcmp (M := mL_law) (pc := 857) dL_law_857 ?_
      refine wp_if_eq (M := mL_law) (pc := 858) (tgt := 863) dL_law_858 rfl (fun c858 => ?_) (fun c858 => ?_)
      · refine wp_goto (M := mL_law) (pc := 863) (tgt := 2240) dL_law_863 rfl ?_
        exact k X1 h2 _ _ (W1.ow O2 M1.kMe) M2 (by rw [O2.1]; exact o1) (gd_withdraw hG hK R1)
      · exact absurd (by rw [O2.2.2.1, g1 c848, e2 c848]; exact lcmp_0 _) c858
  · exact absurd z2 c841
set_option maxHeartbeats 4000000 in
set_option maxRecDepth 100000 in
theorem ls_push {x m out : Nat} {ad : Nat → Nat} {X : Abs} {K i n : Nat} {x5 x6 : Option Value} (H : WC h x X) (HM : WM h m ad X) (ho : kd h out = some (.inr (2, 1))) (hG : GX K X) (hK : K ≤ 30000) (hi : i + 5 ≤ E.2.1) (hE : E.2.1 ≤ 2560)  (k : ∀ X' h' y5 y6, WC h' x X' → WM h' m ad X' → kd h' out = some (.inr (2, 1)) → GX (K + 50) X' → WPx E mL_law 2240 [some (.ref E.1), some (.ref x), some (.ref m), some (.ref out), some (.int (nI i)), y5, y6] [] (36 * n, 510 * n) h' Q) : WPx E mL_law 866 [some (.ref E.1), some (.ref x), some (.ref m), some (.ref out), some (.int (nI i)), x5, x6] [] (36 * (n + 1), 510 * (n + 1)) h Q := by
  refine wp_aload_n (M := mL_law) (pc := 866) dL_law_866 rfl ?_
  refine wp_aload_n (M := mL_law) (pc := 867) dL_law_867 rfl ?_
  refine wp_iload (M := mL_law) (pc := 868) dL_law_868 rfl ?_
  refine wp_iconst (M := mL_law) (pc := 870) (v := 1) dL_law_870 ci_1 ?_
  refine wp_iadd (M := mL_law) (pc := 871) dL_law_871 ?_
  refine wr_sld (M := mL_law) (pc := 872) dL_law_872 (ia rfl (show (1 : Int32) = nI 1 from rfl)) (by omega) (by omega) ?_
  refine wp_aload_n (M := mL_law) (pc := 873) dL_law_873 rfl ?_
  refine wp_iload (M := mL_law) (pc := 874) dL_law_874 rfl ?_
  refine wp_iconst (M := mL_law) (pc := 876) (v := 2) dL_law_876 ci_2 ?_
  refine wp_iadd (M := mL_law) (pc := 877) dL_law_877 ?_
  refine wr_sld (M := mL_law) (pc := 878) dL_law_878 (ia rfl (show (2 : Int32) = nI 2 from rfl)) (by omega) (by omega) ?_
  refine wp_aload_n (M := mL_law) (pc := 879) dL_law_879 rfl ?_
  refine so_SWA4 (M := mL_law) (pc := 880) (36 * n, 510 * n) cs_L_law_164 rfl (LE rfl) (LE rfl) (by show 36 + 36 * n ≤ 36 * (n + 1); omega) (by show 510 + 510 * n ≤ 510 * (n + 1); omega) dL_law_880 ?_
  refine hp_push H HM ho hG hK (fun c1 a1 X1 h1 R1 W1 M1 o1 g1 => ?_)
  refine kI ?_
  refine so_istore (M := mL_law) (pc := 883) (lo' := [_, _, _, _, _, _, _]) dL_law_883 (LE rfl) (LE rfl) (Or.inr rfl) rfl ?_
  refine wp_aload_n (M := mL_law) (pc := 885) dL_law_885 rfl ?_
  refine wp_aload_n (M := mL_law) (pc := 886) dL_law_886 rfl ?_
  refine wp_iload (M := mL_law) (pc := 887) dL_law_887 rfl ?_
  refine wp_iconst (M := mL_law) (pc := 889) (v := 1) dL_law_889 ci_1 ?_
  refine wp_iadd (M := mL_law) (pc := 890) dL_law_890 ?_
  refine wr_sld (M := mL_law) (pc := 891) dL_law_891 (ia rfl (show (1 : Int32) = nI 1 from rfl)) (by omega) (by omega) ?_
  refine wp_aload_n (M := mL_law) (pc := 892) dL_law_892 rfl ?_
  refine wp_iload (M := mL_law) (pc := 893) dL_law_893 rfl ?_
  refine wp_iconst (M := mL_law) (pc := 895) (v := 2) dL_law_895 ci_2 ?_
  refine wp_iadd (M := mL_law) (pc := 896) dL_law_896 ?_
  refine wr_sld (M := mL_law) (pc := 897) dL_law_897 (ia rfl (show (2 : Int32) = nI 2 from rfl)) (by omega) (by omega) ?_
  refine so_V2 (M := mL_law) (pc := 898) cs_L_law_166 rfl rfl (LE rfl) (LE rfl) dL_law_898 M1.kMe ?_
  refine md_push M1 hG hK R1 (fun h2 b2 M2 z2 O2 e2 => ?_)
  refine kI ?_
  refine so_istore (M := mL_law) (pc := 901) (lo' := [_, _, _, _, _, _, _]) dL_law_901 (LE rfl) (LE rfl) (Or.inr rfl) rfl ?_
  refine wp_aload_n (M := mL_law) (pc := 903) dL_law_903 rfl ?_
  refine so_V0 (M := mL_law) (pc := 904) cs_L_law_123 rfl rfl (LE rfl) (LE rfl) dL_law_904 M2.kMe ?_
  refine sp_X7_thrown M2.kMe ?_
  refine kI ?_
  refine wp_iload (M := mL_law) (pc := 907) dL_law_907 rfl ?_
  refine wp_icmp_eq (M := mL_law) (pc := 909) (tgt := 914) dL_law_909 rfl (fun c909 => ?_) (fun c909 => ?_)
  · refine wp_iload (M := mL_law) (pc := 914) dL_law_914 rfl ?_
    refine wp_if_ne (M := mL_law) (pc := 916) (tgt := 931) dL_law_916 rfl (fun c916 => ?_) (fun c916 => ?_)
    · refine wp_goto (M := mL_law) (pc := 931) (tgt := 2240) dL_law_931 rfl ?_
      exact k X1 h2 _ _ (W1.ow O2 M1.kMe) M2 (by rw [O2.1]; exact o1) (gd_push hG hK R1)
    · refine wp_aload_n (M := mL_law) (pc := 919) dL_law_919 rfl ?_
      refine wp_iconst (M := mL_law) (pc := 920) (v := 0) dL_law_920 ci_0 ?_
      refine wr_laload (M := mL_law) (pc := 921) dL_law_921 (by rw [O2.1]; exact o1 : kd h2 out = some (.inr (2, 1))) (show (0 : Int32) = nI 0 from rfl) (by decide) (by decide) ?_
      refine wp_iload (M := mL_law) (pc := 922) dL_law_922 rfl ?_
      refine wp_i2l (M := mL_law) (pc := 924) dL_law_924 ?_
      refine wp_lcmp (M := mL_law) (pc := 925) dL_law_925 ?_
      refine wp_if_eq (M := mL_law) (pc := 926) (tgt := 931) dL_law_926 rfl (fun c926 => ?_) (fun c926 => ?_)
      · refine wp_goto (M := mL_law) (pc := 931) (tgt := 2240) dL_law_931 rfl ?_
        exact k X1 h2 _ _ (W1.ow O2 M1.kMe) M2 (by rw [O2.1]; exact o1) (gd_push hG hK R1)
      · exact absurd (by rw [O2.2.2.1, g1 c916, e2 c916]; exact lcmp_0 _) c926
  · exact absurd z2 c909
set_option maxHeartbeats 4000000 in
set_option maxRecDepth 100000 in
theorem ls_deposit {x m out : Nat} {ad : Nat → Nat} {X : Abs} {K i n : Nat} {x5 x6 : Option Value} (H : WC h x X) (HM : WM h m ad X) (ho : kd h out = some (.inr (2, 1))) (hG : GX K X) (hK : K ≤ 30000) (hi : i + 5 ≤ E.2.1) (hE : E.2.1 ≤ 2560)  (k : ∀ X' h' y5 y6, WC h' x X' → WM h' m ad X' → kd h' out = some (.inr (2, 1)) → GX (K + 50) X' → WPx E mL_law 2240 [some (.ref E.1), some (.ref x), some (.ref m), some (.ref out), some (.int (nI i)), y5, y6] [] (36 * n, 510 * n) h' Q) : WPx E mL_law 934 [some (.ref E.1), some (.ref x), some (.ref m), some (.ref out), some (.int (nI i)), x5, x6] [] (36 * (n + 1), 510 * (n + 1)) h Q := by
  refine wp_aload_n (M := mL_law) (pc := 934) dL_law_934 rfl ?_
  refine wp_aload_n (M := mL_law) (pc := 935) dL_law_935 rfl ?_
  refine wp_iload (M := mL_law) (pc := 936) dL_law_936 rfl ?_
  refine wp_iconst (M := mL_law) (pc := 938) (v := 1) dL_law_938 ci_1 ?_
  refine wp_iadd (M := mL_law) (pc := 939) dL_law_939 ?_
  refine wr_sld (M := mL_law) (pc := 940) dL_law_940 (ia rfl (show (1 : Int32) = nI 1 from rfl)) (by omega) (by omega) ?_
  refine wp_aload_n (M := mL_law) (pc := 941) dL_law_941 rfl ?_
  refine wp_iload (M := mL_law) (pc := 942) dL_law_942 rfl ?_
  refine wp_iconst (M := mL_law) (pc := 944) (v := 2) dL_law_944 ci_2 ?_
  refine wp_iadd (M := mL_law) (pc := 945) dL_law_945 ?_
  refine wr_sld (M := mL_law) (pc := 946) dL_law_946 (ia rfl (show (2 : Int32) = nI 2 from rfl)) (by omega) (by omega) ?_
  refine wp_aload_n (M := mL_law) (pc := 947) dL_law_947 rfl ?_
  refine so_SWA4 (M := mL_law) (pc := 948) (36 * n, 510 * n) cs_L_law_167 rfl (LE rfl) (LE rfl) (by show 36 + 36 * n ≤ 36 * (n + 1); omega) (by show 510 + 510 * n ≤ 510 * (n + 1); omega) dL_law_948 ?_
  refine hp_deposit H HM ho hG hK (fun c1 a1 X1 h1 R1 W1 M1 o1 g1 => ?_)
  refine kI ?_
  refine so_istore (M := mL_law) (pc := 951) (lo' := [_, _, _, _, _, _, _]) dL_law_951 (LE rfl) (LE rfl) (Or.inr rfl) rfl ?_
  refine wp_aload_n (M := mL_law) (pc := 953) dL_law_953 rfl ?_
  refine wp_aload_n (M := mL_law) (pc := 954) dL_law_954 rfl ?_
  refine wp_iload (M := mL_law) (pc := 955) dL_law_955 rfl ?_
  refine wp_iconst (M := mL_law) (pc := 957) (v := 1) dL_law_957 ci_1 ?_
  refine wp_iadd (M := mL_law) (pc := 958) dL_law_958 ?_
  refine wr_sld (M := mL_law) (pc := 959) dL_law_959 (ia rfl (show (1 : Int32) = nI 1 from rfl)) (by omega) (by omega) ?_
  refine wp_aload_n (M := mL_law) (pc := 960) dL_law_960 rfl ?_
  refine wp_iload (M := mL_law) (pc := 961) dL_law_961 rfl ?_
  refine wp_iconst (M := mL_law) (pc := 963) (v := 2) dL_law_963 ci_2 ?_
  refine wp_iadd (M := mL_law) (pc := 964) dL_law_964 ?_
  refine wr_sld (M := mL_law) (pc := 965) dL_law_965 (ia rfl (show (2 : Int32) = nI 2 from rfl)) (by omega) (by omega) ?_
  refine so_V2 (M := mL_law) (pc := 966) cs_L_law_169 rfl rfl (LE rfl) (LE rfl) dL_law_966 M1.kMe ?_
  refine md_deposit M1 hG hK R1 (fun h2 b2 M2 z2 O2 e2 => ?_)
  refine kI ?_
  refine so_istore (M := mL_law) (pc := 969) (lo' := [_, _, _, _, _, _, _]) dL_law_969 (LE rfl) (LE rfl) (Or.inr rfl) rfl ?_
  refine wp_aload_n (M := mL_law) (pc := 971) dL_law_971 rfl ?_
  refine so_V0 (M := mL_law) (pc := 972) cs_L_law_123 rfl rfl (LE rfl) (LE rfl) dL_law_972 M2.kMe ?_
  refine sp_X7_thrown M2.kMe ?_
  refine kI ?_
  refine wp_iload (M := mL_law) (pc := 975) dL_law_975 rfl ?_
  refine wp_icmp_eq (M := mL_law) (pc := 977) (tgt := 982) dL_law_977 rfl (fun c977 => ?_) (fun c977 => ?_)
  · refine wp_iload (M := mL_law) (pc := 982) dL_law_982 rfl ?_
    refine wp_if_ne (M := mL_law) (pc := 984) (tgt := 999) dL_law_984 rfl (fun c984 => ?_) (fun c984 => ?_)
    · refine wp_goto (M := mL_law) (pc := 999) (tgt := 2240) dL_law_999 rfl ?_
      exact k X1 h2 _ _ (W1.ow O2 M1.kMe) M2 (by rw [O2.1]; exact o1) (gd_deposit hG hK R1)
    · refine wp_aload_n (M := mL_law) (pc := 987) dL_law_987 rfl ?_
      refine wp_iconst (M := mL_law) (pc := 988) (v := 0) dL_law_988 ci_0 ?_
      refine wr_laload (M := mL_law) (pc := 989) dL_law_989 (by rw [O2.1]; exact o1 : kd h2 out = some (.inr (2, 1))) (show (0 : Int32) = nI 0 from rfl) (by decide) (by decide) ?_
      refine wp_iload (M := mL_law) (pc := 990) dL_law_990 rfl ?_
      refine wp_i2l (M := mL_law) (pc := 992) dL_law_992 ?_
      refine wp_lcmp (M := mL_law) (pc := 993) dL_law_993 ?_
      refine wp_if_eq (M := mL_law) (pc := 994) (tgt := 999) dL_law_994 rfl (fun c994 => ?_) (fun c994 => ?_)
      · refine wp_goto (M := mL_law) (pc := 999) (tgt := 2240) dL_law_999 rfl ?_
        exact k X1 h2 _ _ (W1.ow O2 M1.kMe) M2 (by rw [O2.1]; exact o1) (gd_deposit hG hK R1)
      · exact absurd (by rw [O2.2.2.1, g1 c984, e2 c984]; exact lcmp_0 _) c994
  · exact absurd z2 c977
set_option maxHeartbeats 4000000 in
set_option maxRecDepth 100000 in
theorem ls_tick {x m out : Nat} {ad : Nat → Nat} {X : Abs} {K i n : Nat} {x5 x6 : Option Value} (H : WC h x X) (HM : WM h m ad X) (ho : kd h out = some (.inr (2, 1))) (hG : GX K X) (hK : K ≤ 30000) (hi : i + 5 ≤ E.2.1) (hE : E.2.1 ≤ 2560)  (k : ∀ X' h' y5 y6, WC h' x X' → WM h' m ad X' → kd h' out = some (.inr (2, 1)) → GX (K + 50) X' → WPx E mL_law 2240 [some (.ref E.1), some (.ref x), some (.ref m), some (.ref out), some (.int (nI i)), y5, y6] [] (36 * n, 510 * n) h' Q) : WPx E mL_law 1002 [some (.ref E.1), some (.ref x), some (.ref m), some (.ref out), some (.int (nI i)), x5, x6] [] (36 * (n + 1), 510 * (n + 1)) h Q := by
  refine wp_aload_n (M := mL_law) (pc := 1002) dL_law_1002 rfl ?_
  refine wp_aload_n (M := mL_law) (pc := 1003) dL_law_1003 rfl ?_
  refine wp_iload (M := mL_law) (pc := 1004) dL_law_1004 rfl ?_
  refine wp_iconst (M := mL_law) (pc := 1006) (v := 1) dL_law_1006 ci_1 ?_
  refine wp_iadd (M := mL_law) (pc := 1007) dL_law_1007 ?_
  refine wr_sld (M := mL_law) (pc := 1008) dL_law_1008 (ia rfl (show (1 : Int32) = nI 1 from rfl)) (by omega) (by omega) ?_
  refine wp_aload_n (M := mL_law) (pc := 1009) dL_law_1009 rfl ?_
  refine so_SWA3 (M := mL_law) (pc := 1010) (36 * n, 510 * n) cs_L_law_170 rfl (LE rfl) (LE rfl) (by show 34 + 36 * n ≤ 36 * (n + 1); omega) (by show 498 + 510 * n ≤ 510 * (n + 1); omega) dL_law_1010 ?_
  refine hp_tick H HM ho hG hK (fun c1 a1 X1 h1 R1 W1 M1 o1 g1 => ?_)
  refine kI ?_
  refine so_istore (M := mL_law) (pc := 1013) (lo' := [_, _, _, _, _, _, _]) dL_law_1013 (LE rfl) (LE rfl) (Or.inr rfl) rfl ?_
  refine wp_aload_n (M := mL_law) (pc := 1015) dL_law_1015 rfl ?_
  refine wp_aload_n (M := mL_law) (pc := 1016) dL_law_1016 rfl ?_
  refine wp_iload (M := mL_law) (pc := 1017) dL_law_1017 rfl ?_
  refine wp_iconst (M := mL_law) (pc := 1019) (v := 1) dL_law_1019 ci_1 ?_
  refine wp_iadd (M := mL_law) (pc := 1020) dL_law_1020 ?_
  refine wr_sld (M := mL_law) (pc := 1021) dL_law_1021 (ia rfl (show (1 : Int32) = nI 1 from rfl)) (by omega) (by omega) ?_
  refine so_V1 (M := mL_law) (pc := 1022) cs_L_law_172 rfl rfl (LE rfl) (LE rfl) dL_law_1022 M1.kMe ?_
  refine md_tick M1 hG hK R1 (fun h2 b2 M2 z2 O2 e2 => ?_)
  refine kI ?_
  refine so_istore (M := mL_law) (pc := 1025) (lo' := [_, _, _, _, _, _, _]) dL_law_1025 (LE rfl) (LE rfl) (Or.inr rfl) rfl ?_
  refine wp_aload_n (M := mL_law) (pc := 1027) dL_law_1027 rfl ?_
  refine so_V0 (M := mL_law) (pc := 1028) cs_L_law_123 rfl rfl (LE rfl) (LE rfl) dL_law_1028 M2.kMe ?_
  refine sp_X7_thrown M2.kMe ?_
  refine kI ?_
  refine wp_iload (M := mL_law) (pc := 1031) dL_law_1031 rfl ?_
  refine wp_icmp_eq (M := mL_law) (pc := 1033) (tgt := 1038) dL_law_1033 rfl (fun c1033 => ?_) (fun c1033 => ?_)
  · refine wp_iload (M := mL_law) (pc := 1038) dL_law_1038 rfl ?_
    refine wp_if_ne (M := mL_law) (pc := 1040) (tgt := 1055) dL_law_1040 rfl (fun c1040 => ?_) (fun c1040 => ?_)
    · refine wp_goto (M := mL_law) (pc := 1055) (tgt := 2240) dL_law_1055 rfl ?_
      exact k X1 h2 _ _ (W1.ow O2 M1.kMe) M2 (by rw [O2.1]; exact o1) (gd_tick hG hK R1)
    · refine wp_aload_n (M := mL_law) (pc := 1043) dL_law_1043 rfl ?_
      refine wp_iconst (M := mL_law) (pc := 1044) (v := 0) dL_law_1044 ci_0 ?_
      refine wr_laload (M := mL_law) (pc := 1045) dL_law_1045 (by rw [O2.1]; exact o1 : kd h2 out = some (.inr (2, 1))) (show (0 : Int32) = nI 0 from rfl) (by decide) (by decide) ?_
      refine wp_iload (M := mL_law) (pc := 1046) dL_law_1046 rfl ?_
      refine wp_i2l (M := mL_law) (pc := 1048) dL_law_1048 ?_
      refine wp_lcmp (M := mL_law) (pc := 1049) dL_law_1049 ?_
      refine wp_if_eq (M := mL_law) (pc := 1050) (tgt := 1055) dL_law_1050 rfl (fun c1050 => ?_) (fun c1050 => ?_)
      · refine wp_goto (M := mL_law) (pc := 1055) (tgt := 2240) dL_law_1055 rfl ?_
        exact k X1 h2 _ _ (W1.ow O2 M1.kMe) M2 (by rw [O2.1]; exact o1) (gd_tick hG hK R1)
      · exact absurd (by rw [O2.2.2.1, g1 c1040, e2 c1040]; exact lcmp_0 _) c1050
  · exact absurd z2 c1033
set_option maxHeartbeats 4000000 in
set_option maxRecDepth 100000 in
theorem ls_setRate {x m out : Nat} {ad : Nat → Nat} {X : Abs} {K i n : Nat} {x5 x6 : Option Value} (H : WC h x X) (HM : WM h m ad X) (ho : kd h out = some (.inr (2, 1))) (hG : GX K X) (hK : K ≤ 30000) (hi : i + 5 ≤ E.2.1) (hE : E.2.1 ≤ 2560)  (k : ∀ X' h' y5 y6, WC h' x X' → WM h' m ad X' → kd h' out = some (.inr (2, 1)) → GX (K + 50) X' → WPx E mL_law 2240 [some (.ref E.1), some (.ref x), some (.ref m), some (.ref out), some (.int (nI i)), y5, y6] [] (36 * n, 510 * n) h' Q) : WPx E mL_law 1058 [some (.ref E.1), some (.ref x), some (.ref m), some (.ref out), some (.int (nI i)), x5, x6] [] (36 * (n + 1), 510 * (n + 1)) h Q := by
  refine wp_aload_n (M := mL_law) (pc := 1058) dL_law_1058 rfl ?_
  refine wp_aload_n (M := mL_law) (pc := 1059) dL_law_1059 rfl ?_
  refine wp_iload (M := mL_law) (pc := 1060) dL_law_1060 rfl ?_
  refine wp_iconst (M := mL_law) (pc := 1062) (v := 1) dL_law_1062 ci_1 ?_
  refine wp_iadd (M := mL_law) (pc := 1063) dL_law_1063 ?_
  refine wr_sld (M := mL_law) (pc := 1064) dL_law_1064 (ia rfl (show (1 : Int32) = nI 1 from rfl)) (by omega) (by omega) ?_
  refine wp_aload_n (M := mL_law) (pc := 1065) dL_law_1065 rfl ?_
  refine wp_iload (M := mL_law) (pc := 1066) dL_law_1066 rfl ?_
  refine wp_iconst (M := mL_law) (pc := 1068) (v := 2) dL_law_1068 ci_2 ?_
  refine wp_iadd (M := mL_law) (pc := 1069) dL_law_1069 ?_
  refine wr_sld (M := mL_law) (pc := 1070) dL_law_1070 (ia rfl (show (2 : Int32) = nI 2 from rfl)) (by omega) (by omega) ?_
  refine wp_aload_n (M := mL_law) (pc := 1071) dL_law_1071 rfl ?_
  refine so_SWA4 (M := mL_law) (pc := 1072) (36 * n, 510 * n) cs_L_law_173 rfl (LE rfl) (LE rfl) (by show 35 + 36 * n ≤ 36 * (n + 1); omega) (by show 504 + 510 * n ≤ 510 * (n + 1); omega) dL_law_1072 ?_
  refine hp_setRate H HM ho hG hK (fun c1 a1 X1 h1 R1 W1 M1 o1 g1 => ?_)
  refine kI ?_
  refine so_istore (M := mL_law) (pc := 1075) (lo' := [_, _, _, _, _, _, _]) dL_law_1075 (LE rfl) (LE rfl) (Or.inr rfl) rfl ?_
  refine wp_aload_n (M := mL_law) (pc := 1077) dL_law_1077 rfl ?_
  refine wp_aload_n (M := mL_law) (pc := 1078) dL_law_1078 rfl ?_
  refine wp_iload (M := mL_law) (pc := 1079) dL_law_1079 rfl ?_
  refine wp_iconst (M := mL_law) (pc := 1081) (v := 1) dL_law_1081 ci_1 ?_
  refine wp_iadd (M := mL_law) (pc := 1082) dL_law_1082 ?_
  refine wr_sld (M := mL_law) (pc := 1083) dL_law_1083 (ia rfl (show (1 : Int32) = nI 1 from rfl)) (by omega) (by omega) ?_
  refine wp_aload_n (M := mL_law) (pc := 1084) dL_law_1084 rfl ?_
  refine wp_iload (M := mL_law) (pc := 1085) dL_law_1085 rfl ?_
  refine wp_iconst (M := mL_law) (pc := 1087) (v := 2) dL_law_1087 ci_2 ?_
  refine wp_iadd (M := mL_law) (pc := 1088) dL_law_1088 ?_
  refine wr_sld (M := mL_law) (pc := 1089) dL_law_1089 (ia rfl (show (2 : Int32) = nI 2 from rfl)) (by omega) (by omega) ?_
  refine so_V2 (M := mL_law) (pc := 1090) cs_L_law_175 rfl rfl (LE rfl) (LE rfl) dL_law_1090 M1.kMe ?_
  refine md_setRate M1 hG hK R1 (fun h2 b2 M2 z2 O2 e2 => ?_)
  refine kI ?_
  refine so_istore (M := mL_law) (pc := 1093) (lo' := [_, _, _, _, _, _, _]) dL_law_1093 (LE rfl) (LE rfl) (Or.inr rfl) rfl ?_
  refine wp_aload_n (M := mL_law) (pc := 1095) dL_law_1095 rfl ?_
  refine so_V0 (M := mL_law) (pc := 1096) cs_L_law_123 rfl rfl (LE rfl) (LE rfl) dL_law_1096 M2.kMe ?_
  refine sp_X7_thrown M2.kMe ?_
  refine kI ?_
  refine wp_iload (M := mL_law) (pc := 1099) dL_law_1099 rfl ?_
  refine wp_icmp_eq (M := mL_law) (pc := 1101) (tgt := 1106) dL_law_1101 rfl (fun c1101 => ?_) (fun c1101 => ?_)
  · refine wp_iload (M := mL_law) (pc := 1106) dL_law_1106 rfl ?_
    refine wp_if_ne (M := mL_law) (pc := 1108) (tgt := 1123) dL_law_1108 rfl (fun c1108 => ?_) (fun c1108 => ?_)
    · refine wp_goto (M := mL_law) (pc := 1123) (tgt := 2240) dL_law_1123 rfl ?_
      exact k X1 h2 _ _ (W1.ow O2 M1.kMe) M2 (by rw [O2.1]; exact o1) (gd_setRate hG hK R1)
    · refine wp_aload_n (M := mL_law) (pc := 1111) dL_law_1111 rfl ?_
      refine wp_iconst (M := mL_law) (pc := 1112) (v := 0) dL_law_1112 ci_0 ?_
      refine wr_laload (M := mL_law) (pc := 1113) dL_law_1113 (by rw [O2.1]; exact o1 : kd h2 out = some (.inr (2, 1))) (show (0 : Int32) = nI 0 from rfl) (by decide) (by decide) ?_
      refine wp_iload (M := mL_law) (pc := 1114) dL_law_1114 rfl ?_
      refine wp_i2l (M := mL_law) (pc := 1116) dL_law_1116 ?_
      refine wp_lcmp (M := mL_law) (pc := 1117) dL_law_1117 ?_
      refine wp_if_eq (M := mL_law) (pc := 1118) (tgt := 1123) dL_law_1118 rfl (fun c1118 => ?_) (fun c1118 => ?_)
      · refine wp_goto (M := mL_law) (pc := 1123) (tgt := 2240) dL_law_1123 rfl ?_
        exact k X1 h2 _ _ (W1.ow O2 M1.kMe) M2 (by rw [O2.1]; exact o1) (gd_setRate hG hK R1)
      · exact absurd (by rw [O2.2.2.1, g1 c1108, e2 c1108]; exact lcmp_0 _) c1118
  · exact absurd z2 c1101
set_option maxHeartbeats 4000000 in
set_option maxRecDepth 100000 in
theorem ls_setWidth {x m out : Nat} {ad : Nat → Nat} {X : Abs} {K i n : Nat} {x5 x6 : Option Value} (H : WC h x X) (HM : WM h m ad X) (ho : kd h out = some (.inr (2, 1))) (hG : GX K X) (hK : K ≤ 30000) (hi : i + 5 ≤ E.2.1) (hE : E.2.1 ≤ 2560)  (k : ∀ X' h' y5 y6, WC h' x X' → WM h' m ad X' → kd h' out = some (.inr (2, 1)) → GX (K + 50) X' → WPx E mL_law 2240 [some (.ref E.1), some (.ref x), some (.ref m), some (.ref out), some (.int (nI i)), y5, y6] [] (36 * n, 510 * n) h' Q) : WPx E mL_law 1126 [some (.ref E.1), some (.ref x), some (.ref m), some (.ref out), some (.int (nI i)), x5, x6] [] (36 * (n + 1), 510 * (n + 1)) h Q := by
  refine wp_aload_n (M := mL_law) (pc := 1126) dL_law_1126 rfl ?_
  refine wp_aload_n (M := mL_law) (pc := 1127) dL_law_1127 rfl ?_
  refine wp_iload (M := mL_law) (pc := 1128) dL_law_1128 rfl ?_
  refine wp_iconst (M := mL_law) (pc := 1130) (v := 1) dL_law_1130 ci_1 ?_
  refine wp_iadd (M := mL_law) (pc := 1131) dL_law_1131 ?_
  refine wr_sld (M := mL_law) (pc := 1132) dL_law_1132 (ia rfl (show (1 : Int32) = nI 1 from rfl)) (by omega) (by omega) ?_
  refine wp_aload_n (M := mL_law) (pc := 1133) dL_law_1133 rfl ?_
  refine so_SWA3 (M := mL_law) (pc := 1134) (36 * n, 510 * n) cs_L_law_176 rfl (LE rfl) (LE rfl) (by show 34 + 36 * n ≤ 36 * (n + 1); omega) (by show 498 + 510 * n ≤ 510 * (n + 1); omega) dL_law_1134 ?_
  refine hp_setWidth H HM ho hG hK (fun c1 a1 X1 h1 R1 W1 M1 o1 g1 => ?_)
  refine kI ?_
  refine so_istore (M := mL_law) (pc := 1137) (lo' := [_, _, _, _, _, _, _]) dL_law_1137 (LE rfl) (LE rfl) (Or.inr rfl) rfl ?_
  refine wp_aload_n (M := mL_law) (pc := 1139) dL_law_1139 rfl ?_
  refine wp_aload_n (M := mL_law) (pc := 1140) dL_law_1140 rfl ?_
  refine wp_iload (M := mL_law) (pc := 1141) dL_law_1141 rfl ?_
  refine wp_iconst (M := mL_law) (pc := 1143) (v := 1) dL_law_1143 ci_1 ?_
  refine wp_iadd (M := mL_law) (pc := 1144) dL_law_1144 ?_
  refine wr_sld (M := mL_law) (pc := 1145) dL_law_1145 (ia rfl (show (1 : Int32) = nI 1 from rfl)) (by omega) (by omega) ?_
  refine so_V1 (M := mL_law) (pc := 1146) cs_L_law_178 rfl rfl (LE rfl) (LE rfl) dL_law_1146 M1.kMe ?_
  refine md_setWidth M1 hG hK R1 (fun h2 b2 M2 z2 O2 e2 => ?_)
  refine kI ?_
  refine so_istore (M := mL_law) (pc := 1149) (lo' := [_, _, _, _, _, _, _]) dL_law_1149 (LE rfl) (LE rfl) (Or.inr rfl) rfl ?_
  refine wp_aload_n (M := mL_law) (pc := 1151) dL_law_1151 rfl ?_
  refine so_V0 (M := mL_law) (pc := 1152) cs_L_law_123 rfl rfl (LE rfl) (LE rfl) dL_law_1152 M2.kMe ?_
  refine sp_X7_thrown M2.kMe ?_
  refine kI ?_
  refine wp_iload (M := mL_law) (pc := 1155) dL_law_1155 rfl ?_
  refine wp_icmp_eq (M := mL_law) (pc := 1157) (tgt := 1162) dL_law_1157 rfl (fun c1157 => ?_) (fun c1157 => ?_)
  · refine wp_iload (M := mL_law) (pc := 1162) dL_law_1162 rfl ?_
    refine wp_if_ne (M := mL_law) (pc := 1164) (tgt := 1179) dL_law_1164 rfl (fun c1164 => ?_) (fun c1164 => ?_)
    · refine wp_goto (M := mL_law) (pc := 1179) (tgt := 2240) dL_law_1179 rfl ?_
      exact k X1 h2 _ _ (W1.ow O2 M1.kMe) M2 (by rw [O2.1]; exact o1) (gd_setWidth hG hK R1)
    · refine wp_aload_n (M := mL_law) (pc := 1167) dL_law_1167 rfl ?_
      refine wp_iconst (M := mL_law) (pc := 1168) (v := 0) dL_law_1168 ci_0 ?_
      refine wr_laload (M := mL_law) (pc := 1169) dL_law_1169 (by rw [O2.1]; exact o1 : kd h2 out = some (.inr (2, 1))) (show (0 : Int32) = nI 0 from rfl) (by decide) (by decide) ?_
      refine wp_iload (M := mL_law) (pc := 1170) dL_law_1170 rfl ?_
      refine wp_i2l (M := mL_law) (pc := 1172) dL_law_1172 ?_
      refine wp_lcmp (M := mL_law) (pc := 1173) dL_law_1173 ?_
      refine wp_if_eq (M := mL_law) (pc := 1174) (tgt := 1179) dL_law_1174 rfl (fun c1174 => ?_) (fun c1174 => ?_)
      · refine wp_goto (M := mL_law) (pc := 1179) (tgt := 2240) dL_law_1179 rfl ?_
        exact k X1 h2 _ _ (W1.ow O2 M1.kMe) M2 (by rw [O2.1]; exact o1) (gd_setWidth hG hK R1)
      · exact absurd (by rw [O2.2.2.1, g1 c1164, e2 c1164]; exact lcmp_0 _) c1174
  · exact absurd z2 c1157
set_option maxHeartbeats 4000000 in
set_option maxRecDepth 100000 in
theorem ls_undo {x m out : Nat} {ad : Nat → Nat} {X : Abs} {K i n : Nat} {x5 x6 : Option Value} (H : WC h x X) (HM : WM h m ad X) (ho : kd h out = some (.inr (2, 1))) (hG : GX K X) (hK : K ≤ 30000) (hi : i + 5 ≤ E.2.1) (hE : E.2.1 ≤ 2560)  (k : ∀ X' h' y5 y6, WC h' x X' → WM h' m ad X' → kd h' out = some (.inr (2, 1)) → GX (K + 50) X' → WPx E mL_law 2240 [some (.ref E.1), some (.ref x), some (.ref m), some (.ref out), some (.int (nI i)), y5, y6] [] (36 * n, 510 * n) h' Q) : WPx E mL_law 1182 [some (.ref E.1), some (.ref x), some (.ref m), some (.ref out), some (.int (nI i)), x5, x6] [] (36 * (n + 1), 510 * (n + 1)) h Q := by
  refine wp_aload_n (M := mL_law) (pc := 1182) dL_law_1182 rfl ?_
  refine wp_aload_n (M := mL_law) (pc := 1183) dL_law_1183 rfl ?_
  refine so_SWA2 (M := mL_law) (pc := 1184) (36 * n, 510 * n) cs_L_law_179 rfl (LE rfl) (LE rfl) (by show 1 + 36 * n ≤ 36 * (n + 1); omega) (by show 6 + 510 * n ≤ 510 * (n + 1); omega) dL_law_1184 ?_
  refine hp_undo H HM ho hG hK (fun c1 a1 X1 h1 R1 W1 M1 o1 g1 => ?_)
  refine kI ?_
  refine so_istore (M := mL_law) (pc := 1187) (lo' := [_, _, _, _, _, _, _]) dL_law_1187 (LE rfl) (LE rfl) (Or.inr rfl) rfl ?_
  refine wp_aload_n (M := mL_law) (pc := 1189) dL_law_1189 rfl ?_
  refine so_V0 (M := mL_law) (pc := 1190) cs_L_law_181 rfl rfl (LE rfl) (LE rfl) dL_law_1190 M1.kMe ?_
  refine md_undo M1 hG hK R1 (fun h2 b2 M2 z2 O2 e2 => ?_)
  refine kI ?_
  refine so_istore (M := mL_law) (pc := 1193) (lo' := [_, _, _, _, _, _, _]) dL_law_1193 (LE rfl) (LE rfl) (Or.inr rfl) rfl ?_
  refine wp_aload_n (M := mL_law) (pc := 1195) dL_law_1195 rfl ?_
  refine so_V0 (M := mL_law) (pc := 1196) cs_L_law_123 rfl rfl (LE rfl) (LE rfl) dL_law_1196 M2.kMe ?_
  refine sp_X7_thrown M2.kMe ?_
  refine kI ?_
  refine wp_iload (M := mL_law) (pc := 1199) dL_law_1199 rfl ?_
  refine wp_icmp_eq (M := mL_law) (pc := 1201) (tgt := 1206) dL_law_1201 rfl (fun c1201 => ?_) (fun c1201 => ?_)
  · refine wp_iload (M := mL_law) (pc := 1206) dL_law_1206 rfl ?_
    refine wp_if_ne (M := mL_law) (pc := 1208) (tgt := 1223) dL_law_1208 rfl (fun c1208 => ?_) (fun c1208 => ?_)
    · refine wp_goto (M := mL_law) (pc := 1223) (tgt := 2240) dL_law_1223 rfl ?_
      exact k X1 h2 _ _ (W1.ow O2 M1.kMe) M2 (by rw [O2.1]; exact o1) (gd_undo hG hK R1)
    · refine wp_aload_n (M := mL_law) (pc := 1211) dL_law_1211 rfl ?_
      refine wp_iconst (M := mL_law) (pc := 1212) (v := 0) dL_law_1212 ci_0 ?_
      refine wr_laload (M := mL_law) (pc := 1213) dL_law_1213 (by rw [O2.1]; exact o1 : kd h2 out = some (.inr (2, 1))) (show (0 : Int32) = nI 0 from rfl) (by decide) (by decide) ?_
      refine wp_iload (M := mL_law) (pc := 1214) dL_law_1214 rfl ?_
      refine wp_i2l (M := mL_law) (pc := 1216) dL_law_1216 ?_
      refine wp_lcmp (M := mL_law) (pc := 1217) dL_law_1217 ?_
      refine wp_if_eq (M := mL_law) (pc := 1218) (tgt := 1223) dL_law_1218 rfl (fun c1218 => ?_) (fun c1218 => ?_)
      · refine wp_goto (M := mL_law) (pc := 1223) (tgt := 2240) dL_law_1223 rfl ?_
        exact k X1 h2 _ _ (W1.ow O2 M1.kMe) M2 (by rw [O2.1]; exact o1) (gd_undo hG hK R1)
      · exact absurd (by rw [O2.2.2.1, g1 c1208, e2 c1208]; exact lcmp_0 _) c1218
  · exact absurd z2 c1201
set_option maxHeartbeats 4000000 in
set_option maxRecDepth 100000 in
theorem ls_demand {x m out : Nat} {ad : Nat → Nat} {X : Abs} {K i n : Nat} {x5 x6 : Option Value} (H : WC h x X) (HM : WM h m ad X) (ho : kd h out = some (.inr (2, 1))) (hG : GX K X) (hK : K ≤ 30000) (hi : i + 5 ≤ E.2.1) (hE : E.2.1 ≤ 2560)  (k : ∀ X' h' y5 y6, WC h' x X' → WM h' m ad X' → kd h' out = some (.inr (2, 1)) → GX (K + 50) X' → WPx E mL_law 2240 [some (.ref E.1), some (.ref x), some (.ref m), some (.ref out), some (.int (nI i)), y5, y6] [] (36 * n, 510 * n) h' Q) : WPx E mL_law 1226 [some (.ref E.1), some (.ref x), some (.ref m), some (.ref out), some (.int (nI i)), x5, x6] [] (36 * (n + 1), 510 * (n + 1)) h Q := by
  refine wp_aload_n (M := mL_law) (pc := 1226) dL_law_1226 rfl ?_
  refine wp_aload_n (M := mL_law) (pc := 1227) dL_law_1227 rfl ?_
  refine wp_iload (M := mL_law) (pc := 1228) dL_law_1228 rfl ?_
  refine wp_iconst (M := mL_law) (pc := 1230) (v := 1) dL_law_1230 ci_1 ?_
  refine wp_iadd (M := mL_law) (pc := 1231) dL_law_1231 ?_
  refine wr_sld (M := mL_law) (pc := 1232) dL_law_1232 (ia rfl (show (1 : Int32) = nI 1 from rfl)) (by omega) (by omega) ?_
  refine wp_aload_n (M := mL_law) (pc := 1233) dL_law_1233 rfl ?_
  refine so_SWA3 (M := mL_law) (pc := 1234) (36 * n, 510 * n) cs_L_law_182 rfl (LE rfl) (LE rfl) (by show 1 + 36 * n ≤ 36 * (n + 1); omega) (by show 6 + 510 * n ≤ 510 * (n + 1); omega) dL_law_1234 ?_
  refine hp_demand H HM ho hG hK (fun c1 a1 X1 h1 R1 W1 M1 o1 g1 => ?_)
  refine kI ?_
  refine so_istore (M := mL_law) (pc := 1237) (lo' := [_, _, _, _, _, _, _]) dL_law_1237 (LE rfl) (LE rfl) (Or.inr rfl) rfl ?_
  refine wp_aload_n (M := mL_law) (pc := 1239) dL_law_1239 rfl ?_
  refine wp_aload_n (M := mL_law) (pc := 1240) dL_law_1240 rfl ?_
  refine wp_iload (M := mL_law) (pc := 1241) dL_law_1241 rfl ?_
  refine wp_iconst (M := mL_law) (pc := 1243) (v := 1) dL_law_1243 ci_1 ?_
  refine wp_iadd (M := mL_law) (pc := 1244) dL_law_1244 ?_
  refine wr_sld (M := mL_law) (pc := 1245) dL_law_1245 (ia rfl (show (1 : Int32) = nI 1 from rfl)) (by omega) (by omega) ?_
  refine so_V1 (M := mL_law) (pc := 1246) cs_L_law_184 rfl rfl (LE rfl) (LE rfl) dL_law_1246 M1.kMe ?_
  refine md_demand M1 hG hK R1 (fun h2 b2 M2 z2 O2 e2 => ?_)
  refine kI ?_
  refine so_istore (M := mL_law) (pc := 1249) (lo' := [_, _, _, _, _, _, _]) dL_law_1249 (LE rfl) (LE rfl) (Or.inr rfl) rfl ?_
  refine wp_aload_n (M := mL_law) (pc := 1251) dL_law_1251 rfl ?_
  refine so_V0 (M := mL_law) (pc := 1252) cs_L_law_123 rfl rfl (LE rfl) (LE rfl) dL_law_1252 M2.kMe ?_
  refine sp_X7_thrown M2.kMe ?_
  refine kI ?_
  refine wp_iload (M := mL_law) (pc := 1255) dL_law_1255 rfl ?_
  refine wp_icmp_eq (M := mL_law) (pc := 1257) (tgt := 1262) dL_law_1257 rfl (fun c1257 => ?_) (fun c1257 => ?_)
  · refine wp_iload (M := mL_law) (pc := 1262) dL_law_1262 rfl ?_
    refine wp_if_ne (M := mL_law) (pc := 1264) (tgt := 1279) dL_law_1264 rfl (fun c1264 => ?_) (fun c1264 => ?_)
    · refine wp_goto (M := mL_law) (pc := 1279) (tgt := 2240) dL_law_1279 rfl ?_
      exact k X1 h2 _ _ (W1.ow O2 M1.kMe) M2 (by rw [O2.1]; exact o1) (gd_demand hG hK R1)
    · refine wp_aload_n (M := mL_law) (pc := 1267) dL_law_1267 rfl ?_
      refine wp_iconst (M := mL_law) (pc := 1268) (v := 0) dL_law_1268 ci_0 ?_
      refine wr_laload (M := mL_law) (pc := 1269) dL_law_1269 (by rw [O2.1]; exact o1 : kd h2 out = some (.inr (2, 1))) (show (0 : Int32) = nI 0 from rfl) (by decide) (by decide) ?_
      refine wp_iload (M := mL_law) (pc := 1270) dL_law_1270 rfl ?_
      refine wp_i2l (M := mL_law) (pc := 1272) dL_law_1272 ?_
      refine wp_lcmp (M := mL_law) (pc := 1273) dL_law_1273 ?_
      refine wp_if_eq (M := mL_law) (pc := 1274) (tgt := 1279) dL_law_1274 rfl (fun c1274 => ?_) (fun c1274 => ?_)
      · refine wp_goto (M := mL_law) (pc := 1279) (tgt := 2240) dL_law_1279 rfl ?_
        exact k X1 h2 _ _ (W1.ow O2 M1.kMe) M2 (by rw [O2.1]; exact o1) (gd_demand hG hK R1)
      · exact absurd (by rw [O2.2.2.1, g1 c1264, e2 c1264]; exact lcmp_0 _) c1274
  · exact absurd z2 c1257
set_option maxHeartbeats 4000000 in
set_option maxRecDepth 100000 in
theorem ls_supply {x m out : Nat} {ad : Nat → Nat} {X : Abs} {K i n : Nat} {x5 x6 : Option Value} (H : WC h x X) (HM : WM h m ad X) (ho : kd h out = some (.inr (2, 1))) (hG : GX K X) (hK : K ≤ 30000) (hi : i + 5 ≤ E.2.1) (hE : E.2.1 ≤ 2560)  (k : ∀ X' h' y5 y6, WC h' x X' → WM h' m ad X' → kd h' out = some (.inr (2, 1)) → GX (K + 50) X' → WPx E mL_law 2240 [some (.ref E.1), some (.ref x), some (.ref m), some (.ref out), some (.int (nI i)), y5, y6] [] (36 * n, 510 * n) h' Q) : WPx E mL_law 1282 [some (.ref E.1), some (.ref x), some (.ref m), some (.ref out), some (.int (nI i)), x5, x6] [] (36 * (n + 1), 510 * (n + 1)) h Q := by
  refine wp_aload_n (M := mL_law) (pc := 1282) dL_law_1282 rfl ?_
  refine wp_aload_n (M := mL_law) (pc := 1283) dL_law_1283 rfl ?_
  refine wp_iload (M := mL_law) (pc := 1284) dL_law_1284 rfl ?_
  refine wp_iconst (M := mL_law) (pc := 1286) (v := 1) dL_law_1286 ci_1 ?_
  refine wp_iadd (M := mL_law) (pc := 1287) dL_law_1287 ?_
  refine wr_sld (M := mL_law) (pc := 1288) dL_law_1288 (ia rfl (show (1 : Int32) = nI 1 from rfl)) (by omega) (by omega) ?_
  refine wp_aload_n (M := mL_law) (pc := 1289) dL_law_1289 rfl ?_
  refine so_SWA3 (M := mL_law) (pc := 1290) (36 * n, 510 * n) cs_L_law_185 rfl (LE rfl) (LE rfl) (by show 1 + 36 * n ≤ 36 * (n + 1); omega) (by show 6 + 510 * n ≤ 510 * (n + 1); omega) dL_law_1290 ?_
  refine hp_supply H HM ho hG hK (fun c1 a1 X1 h1 R1 W1 M1 o1 g1 => ?_)
  refine kI ?_
  refine so_istore (M := mL_law) (pc := 1293) (lo' := [_, _, _, _, _, _, _]) dL_law_1293 (LE rfl) (LE rfl) (Or.inr rfl) rfl ?_
  refine wp_aload_n (M := mL_law) (pc := 1295) dL_law_1295 rfl ?_
  refine wp_aload_n (M := mL_law) (pc := 1296) dL_law_1296 rfl ?_
  refine wp_iload (M := mL_law) (pc := 1297) dL_law_1297 rfl ?_
  refine wp_iconst (M := mL_law) (pc := 1299) (v := 1) dL_law_1299 ci_1 ?_
  refine wp_iadd (M := mL_law) (pc := 1300) dL_law_1300 ?_
  refine wr_sld (M := mL_law) (pc := 1301) dL_law_1301 (ia rfl (show (1 : Int32) = nI 1 from rfl)) (by omega) (by omega) ?_
  refine so_V1 (M := mL_law) (pc := 1302) cs_L_law_187 rfl rfl (LE rfl) (LE rfl) dL_law_1302 M1.kMe ?_
  refine md_supply M1 hG hK R1 (fun h2 b2 M2 z2 O2 e2 => ?_)
  refine kI ?_
  refine so_istore (M := mL_law) (pc := 1305) (lo' := [_, _, _, _, _, _, _]) dL_law_1305 (LE rfl) (LE rfl) (Or.inr rfl) rfl ?_
  refine wp_aload_n (M := mL_law) (pc := 1307) dL_law_1307 rfl ?_
  refine so_V0 (M := mL_law) (pc := 1308) cs_L_law_123 rfl rfl (LE rfl) (LE rfl) dL_law_1308 M2.kMe ?_
  refine sp_X7_thrown M2.kMe ?_
  refine kI ?_
  refine wp_iload (M := mL_law) (pc := 1311) dL_law_1311 rfl ?_
  refine wp_icmp_eq (M := mL_law) (pc := 1313) (tgt := 1318) dL_law_1313 rfl (fun c1313 => ?_) (fun c1313 => ?_)
  · refine wp_iload (M := mL_law) (pc := 1318) dL_law_1318 rfl ?_
    refine wp_if_ne (M := mL_law) (pc := 1320) (tgt := 1335) dL_law_1320 rfl (fun c1320 => ?_) (fun c1320 => ?_)
    · refine wp_goto (M := mL_law) (pc := 1335) (tgt := 2240) dL_law_1335 rfl ?_
      exact k X1 h2 _ _ (W1.ow O2 M1.kMe) M2 (by rw [O2.1]; exact o1) (gd_supply hG hK R1)
    · refine wp_aload_n (M := mL_law) (pc := 1323) dL_law_1323 rfl ?_
      refine wp_iconst (M := mL_law) (pc := 1324) (v := 0) dL_law_1324 ci_0 ?_
      refine wr_laload (M := mL_law) (pc := 1325) dL_law_1325 (by rw [O2.1]; exact o1 : kd h2 out = some (.inr (2, 1))) (show (0 : Int32) = nI 0 from rfl) (by decide) (by decide) ?_
      refine wp_iload (M := mL_law) (pc := 1326) dL_law_1326 rfl ?_
      refine wp_i2l (M := mL_law) (pc := 1328) dL_law_1328 ?_
      refine wp_lcmp (M := mL_law) (pc := 1329) dL_law_1329 ?_
      refine wp_if_eq (M := mL_law) (pc := 1330) (tgt := 1335) dL_law_1330 rfl (fun c1330 => ?_) (fun c1330 => ?_)
      · refine wp_goto (M := mL_law) (pc := 1335) (tgt := 2240) dL_law_1335 rfl ?_
        exact k X1 h2 _ _ (W1.ow O2 M1.kMe) M2 (by rw [O2.1]; exact o1) (gd_supply hG hK R1)
      · exact absurd (by rw [O2.2.2.1, g1 c1320, e2 c1320]; exact lcmp_0 _) c1330
  · exact absurd z2 c1313
set_option maxHeartbeats 4000000 in
set_option maxRecDepth 100000 in
theorem ls_auction {x m out : Nat} {ad : Nat → Nat} {X : Abs} {K i n : Nat} {x5 x6 : Option Value} (H : WC h x X) (HM : WM h m ad X) (ho : kd h out = some (.inr (2, 1))) (hG : GX K X) (hK : K ≤ 30000) (hi : i + 5 ≤ E.2.1) (hE : E.2.1 ≤ 2560)  (k : ∀ X' h' y5 y6, WC h' x X' → WM h' m ad X' → kd h' out = some (.inr (2, 1)) → GX (K + 50) X' → WPx E mL_law 2240 [some (.ref E.1), some (.ref x), some (.ref m), some (.ref out), some (.int (nI i)), y5, y6] [] (36 * n, 510 * n) h' Q) : WPx E mL_law 1338 [some (.ref E.1), some (.ref x), some (.ref m), some (.ref out), some (.int (nI i)), x5, x6] [] (36 * (n + 1), 510 * (n + 1)) h Q := by
  refine wp_aload_n (M := mL_law) (pc := 1338) dL_law_1338 rfl ?_
  refine wp_aload_n (M := mL_law) (pc := 1339) dL_law_1339 rfl ?_
  refine wp_iload (M := mL_law) (pc := 1340) dL_law_1340 rfl ?_
  refine wp_iconst (M := mL_law) (pc := 1342) (v := 1) dL_law_1342 ci_1 ?_
  refine wp_iadd (M := mL_law) (pc := 1343) dL_law_1343 ?_
  refine wr_sld (M := mL_law) (pc := 1344) dL_law_1344 (ia rfl (show (1 : Int32) = nI 1 from rfl)) (by omega) (by omega) ?_
  refine wp_aload_n (M := mL_law) (pc := 1345) dL_law_1345 rfl ?_
  refine so_SWA3 (M := mL_law) (pc := 1346) (36 * n, 510 * n) cs_L_law_188 rfl (LE rfl) (LE rfl) (by show 1 + 36 * n ≤ 36 * (n + 1); omega) (by show 6 + 510 * n ≤ 510 * (n + 1); omega) dL_law_1346 ?_
  refine hp_auction H HM ho hG hK (fun c1 a1 X1 h1 R1 W1 M1 o1 g1 => ?_)
  refine kI ?_
  refine so_istore (M := mL_law) (pc := 1349) (lo' := [_, _, _, _, _, _, _]) dL_law_1349 (LE rfl) (LE rfl) (Or.inr rfl) rfl ?_
  refine wp_aload_n (M := mL_law) (pc := 1351) dL_law_1351 rfl ?_
  refine wp_aload_n (M := mL_law) (pc := 1352) dL_law_1352 rfl ?_
  refine wp_iload (M := mL_law) (pc := 1353) dL_law_1353 rfl ?_
  refine wp_iconst (M := mL_law) (pc := 1355) (v := 1) dL_law_1355 ci_1 ?_
  refine wp_iadd (M := mL_law) (pc := 1356) dL_law_1356 ?_
  refine wr_sld (M := mL_law) (pc := 1357) dL_law_1357 (ia rfl (show (1 : Int32) = nI 1 from rfl)) (by omega) (by omega) ?_
  refine so_V1 (M := mL_law) (pc := 1358) cs_L_law_190 rfl rfl (LE rfl) (LE rfl) dL_law_1358 M1.kMe ?_
  refine md_auction M1 hG hK R1 (fun h2 b2 M2 z2 O2 e2 => ?_)
  refine kI ?_
  refine so_istore (M := mL_law) (pc := 1361) (lo' := [_, _, _, _, _, _, _]) dL_law_1361 (LE rfl) (LE rfl) (Or.inr rfl) rfl ?_
  refine wp_aload_n (M := mL_law) (pc := 1363) dL_law_1363 rfl ?_
  refine so_V0 (M := mL_law) (pc := 1364) cs_L_law_123 rfl rfl (LE rfl) (LE rfl) dL_law_1364 M2.kMe ?_
  refine sp_X7_thrown M2.kMe ?_
  refine kI ?_
  refine wp_iload (M := mL_law) (pc := 1367) dL_law_1367 rfl ?_
  refine wp_icmp_eq (M := mL_law) (pc := 1369) (tgt := 1374) dL_law_1369 rfl (fun c1369 => ?_) (fun c1369 => ?_)
  · refine wp_iload (M := mL_law) (pc := 1374) dL_law_1374 rfl ?_
    refine wp_if_ne (M := mL_law) (pc := 1376) (tgt := 1391) dL_law_1376 rfl (fun c1376 => ?_) (fun c1376 => ?_)
    · refine wp_goto (M := mL_law) (pc := 1391) (tgt := 2240) dL_law_1391 rfl ?_
      exact k X1 h2 _ _ (W1.ow O2 M1.kMe) M2 (by rw [O2.1]; exact o1) (gd_auction hG hK R1)
    · refine wp_aload_n (M := mL_law) (pc := 1379) dL_law_1379 rfl ?_
      refine wp_iconst (M := mL_law) (pc := 1380) (v := 0) dL_law_1380 ci_0 ?_
      refine wr_laload (M := mL_law) (pc := 1381) dL_law_1381 (by rw [O2.1]; exact o1 : kd h2 out = some (.inr (2, 1))) (show (0 : Int32) = nI 0 from rfl) (by decide) (by decide) ?_
      refine wp_iload (M := mL_law) (pc := 1382) dL_law_1382 rfl ?_
      refine wp_i2l (M := mL_law) (pc := 1384) dL_law_1384 ?_
      refine wp_lcmp (M := mL_law) (pc := 1385) dL_law_1385 ?_
      refine wp_if_eq (M := mL_law) (pc := 1386) (tgt := 1391) dL_law_1386 rfl (fun c1386 => ?_) (fun c1386 => ?_)
      · refine wp_goto (M := mL_law) (pc := 1391) (tgt := 2240) dL_law_1391 rfl ?_
        exact k X1 h2 _ _ (W1.ow O2 M1.kMe) M2 (by rw [O2.1]; exact o1) (gd_auction hG hK R1)
      · exact absurd (by rw [O2.2.2.1, g1 c1376, e2 c1376]; exact lcmp_0 _) c1386
  · exact absurd z2 c1369
set_option maxHeartbeats 4000000 in
set_option maxRecDepth 100000 in
theorem ls_volumeIf {x m out : Nat} {ad : Nat → Nat} {X : Abs} {K i n : Nat} {x5 x6 : Option Value} (H : WC h x X) (HM : WM h m ad X) (ho : kd h out = some (.inr (2, 1))) (hG : GX K X) (hK : K ≤ 30000) (hi : i + 5 ≤ E.2.1) (hE : E.2.1 ≤ 2560)  (k : ∀ X' h' y5 y6, WC h' x X' → WM h' m ad X' → kd h' out = some (.inr (2, 1)) → GX (K + 50) X' → WPx E mL_law 2240 [some (.ref E.1), some (.ref x), some (.ref m), some (.ref out), some (.int (nI i)), y5, y6] [] (36 * n, 510 * n) h' Q) : WPx E mL_law 1394 [some (.ref E.1), some (.ref x), some (.ref m), some (.ref out), some (.int (nI i)), x5, x6] [] (36 * (n + 1), 510 * (n + 1)) h Q := by
  refine wp_aload_n (M := mL_law) (pc := 1394) dL_law_1394 rfl ?_
  refine wp_aload_n (M := mL_law) (pc := 1395) dL_law_1395 rfl ?_
  refine wp_iload (M := mL_law) (pc := 1396) dL_law_1396 rfl ?_
  refine wp_iconst (M := mL_law) (pc := 1398) (v := 1) dL_law_1398 ci_1 ?_
  refine wp_iadd (M := mL_law) (pc := 1399) dL_law_1399 ?_
  refine wr_sld (M := mL_law) (pc := 1400) dL_law_1400 (ia rfl (show (1 : Int32) = nI 1 from rfl)) (by omega) (by omega) ?_
  refine wp_aload_n (M := mL_law) (pc := 1401) dL_law_1401 rfl ?_
  refine wp_iload (M := mL_law) (pc := 1402) dL_law_1402 rfl ?_
  refine wp_iconst (M := mL_law) (pc := 1404) (v := 2) dL_law_1404 ci_2 ?_
  refine wp_iadd (M := mL_law) (pc := 1405) dL_law_1405 ?_
  refine wr_sld (M := mL_law) (pc := 1406) dL_law_1406 (ia rfl (show (2 : Int32) = nI 2 from rfl)) (by omega) (by omega) ?_
  refine wp_aload_n (M := mL_law) (pc := 1407) dL_law_1407 rfl ?_
  refine wp_iload (M := mL_law) (pc := 1408) dL_law_1408 rfl ?_
  refine wp_iconst (M := mL_law) (pc := 1410) (v := 3) dL_law_1410 ci_3 ?_
  refine wp_iadd (M := mL_law) (pc := 1411) dL_law_1411 ?_
  refine wr_sld (M := mL_law) (pc := 1412) dL_law_1412 (ia rfl (show (3 : Int32) = nI 3 from rfl)) (by omega) (by omega) ?_
  refine wp_aload_n (M := mL_law) (pc := 1413) dL_law_1413 rfl ?_
  refine wp_iload (M := mL_law) (pc := 1414) dL_law_1414 rfl ?_
  refine wp_iconst (M := mL_law) (pc := 1416) (v := 4) dL_law_1416 ci_4 ?_
  refine wp_iadd (M := mL_law) (pc := 1417) dL_law_1417 ?_
  refine wr_sld (M := mL_law) (pc := 1418) dL_law_1418 (ia rfl (show (4 : Int32) = nI 4 from rfl)) (by omega) (by omega) ?_
  refine wp_aload_n (M := mL_law) (pc := 1419) dL_law_1419 rfl ?_
  refine so_SWA6 (M := mL_law) (pc := 1420) (36 * n, 510 * n) cs_L_law_191 rfl (LE rfl) (LE rfl) (by show 2 + 36 * n ≤ 36 * (n + 1); omega) (by show 12 + 510 * n ≤ 510 * (n + 1); omega) dL_law_1420 ?_
  refine hp_volumeIf H HM ho hG hK (fun c1 a1 X1 h1 R1 W1 M1 o1 g1 => ?_)
  refine kI ?_
  refine so_istore (M := mL_law) (pc := 1423) (lo' := [_, _, _, _, _, _, _]) dL_law_1423 (LE rfl) (LE rfl) (Or.inr rfl) rfl ?_
  refine wp_aload_n (M := mL_law) (pc := 1425) dL_law_1425 rfl ?_
  refine wp_aload_n (M := mL_law) (pc := 1426) dL_law_1426 rfl ?_
  refine wp_iload (M := mL_law) (pc := 1427) dL_law_1427 rfl ?_
  refine wp_iconst (M := mL_law) (pc := 1429) (v := 1) dL_law_1429 ci_1 ?_
  refine wp_iadd (M := mL_law) (pc := 1430) dL_law_1430 ?_
  refine wr_sld (M := mL_law) (pc := 1431) dL_law_1431 (ia rfl (show (1 : Int32) = nI 1 from rfl)) (by omega) (by omega) ?_
  refine wp_aload_n (M := mL_law) (pc := 1432) dL_law_1432 rfl ?_
  refine wp_iload (M := mL_law) (pc := 1433) dL_law_1433 rfl ?_
  refine wp_iconst (M := mL_law) (pc := 1435) (v := 2) dL_law_1435 ci_2 ?_
  refine wp_iadd (M := mL_law) (pc := 1436) dL_law_1436 ?_
  refine wr_sld (M := mL_law) (pc := 1437) dL_law_1437 (ia rfl (show (2 : Int32) = nI 2 from rfl)) (by omega) (by omega) ?_
  refine wp_aload_n (M := mL_law) (pc := 1438) dL_law_1438 rfl ?_
  refine wp_iload (M := mL_law) (pc := 1439) dL_law_1439 rfl ?_
  refine wp_iconst (M := mL_law) (pc := 1441) (v := 3) dL_law_1441 ci_3 ?_
  refine wp_iadd (M := mL_law) (pc := 1442) dL_law_1442 ?_
  refine wr_sld (M := mL_law) (pc := 1443) dL_law_1443 (ia rfl (show (3 : Int32) = nI 3 from rfl)) (by omega) (by omega) ?_
  refine wp_aload_n (M := mL_law) (pc := 1444) dL_law_1444 rfl ?_
  refine wp_iload (M := mL_law) (pc := 1445) dL_law_1445 rfl ?_
  refine wp_iconst (M := mL_law) (pc := 1447) (v := 4) dL_law_1447 ci_4 ?_
  refine wp_iadd (M := mL_law) (pc := 1448) dL_law_1448 ?_
  refine wr_sld (M := mL_law) (pc := 1449) dL_law_1449 (ia rfl (show (4 : Int32) = nI 4 from rfl)) (by omega) (by omega) ?_
  refine so_V4 (M := mL_law) (pc := 1450) cs_L_law_194 rfl rfl (LE rfl) (LE rfl) dL_law_1450 M1.kMe ?_
  refine md_volumeIf M1 hG hK R1 (fun h2 b2 M2 z2 O2 e2 => ?_)
  refine kI ?_
  refine so_istore (M := mL_law) (pc := 1453) (lo' := [_, _, _, _, _, _, _]) dL_law_1453 (LE rfl) (LE rfl) (Or.inr rfl) rfl ?_
  refine wp_aload_n (M := mL_law) (pc := 1455) dL_law_1455 rfl ?_
  refine so_V0 (M := mL_law) (pc := 1456) cs_L_law_123 rfl rfl (LE rfl) (LE rfl) dL_law_1456 M2.kMe ?_
  refine sp_X7_thrown M2.kMe ?_
  refine kI ?_
  refine wp_iload (M := mL_law) (pc := 1459) dL_law_1459 rfl ?_
  refine wp_icmp_eq (M := mL_law) (pc := 1461) (tgt := 1466) dL_law_1461 rfl (fun c1461 => ?_) (fun c1461 => ?_)
  · refine wp_iload (M := mL_law) (pc := 1466) dL_law_1466 rfl ?_
    refine wp_if_ne (M := mL_law) (pc := 1468) (tgt := 1483) dL_law_1468 rfl (fun c1468 => ?_) (fun c1468 => ?_)
    · refine wp_goto (M := mL_law) (pc := 1483) (tgt := 2240) dL_law_1483 rfl ?_
      exact k X1 h2 _ _ (W1.ow O2 M1.kMe) M2 (by rw [O2.1]; exact o1) (gd_volumeIf hG hK R1)
    · refine wp_aload_n (M := mL_law) (pc := 1471) dL_law_1471 rfl ?_
      refine wp_iconst (M := mL_law) (pc := 1472) (v := 0) dL_law_1472 ci_0 ?_
      refine wr_laload (M := mL_law) (pc := 1473) dL_law_1473 (by rw [O2.1]; exact o1 : kd h2 out = some (.inr (2, 1))) (show (0 : Int32) = nI 0 from rfl) (by decide) (by decide) ?_
      refine wp_iload (M := mL_law) (pc := 1474) dL_law_1474 rfl ?_
      refine wp_i2l (M := mL_law) (pc := 1476) dL_law_1476 ?_
      refine wp_lcmp (M := mL_law) (pc := 1477) dL_law_1477 ?_
      refine wp_if_eq (M := mL_law) (pc := 1478) (tgt := 1483) dL_law_1478 rfl (fun c1478 => ?_) (fun c1478 => ?_)
      · refine wp_goto (M := mL_law) (pc := 1483) (tgt := 2240) dL_law_1483 rfl ?_
        exact k X1 h2 _ _ (W1.ow O2 M1.kMe) M2 (by rw [O2.1]; exact o1) (gd_volumeIf hG hK R1)
      · exact absurd (by rw [O2.2.2.1, g1 c1468, e2 c1468]; exact lcmp_0 _) c1478
  · exact absurd z2 c1461
set_option maxHeartbeats 4000000 in
set_option maxRecDepth 100000 in
theorem ls_priceFor {x m out : Nat} {ad : Nat → Nat} {X : Abs} {K i n : Nat} {x5 x6 : Option Value} (H : WC h x X) (HM : WM h m ad X) (ho : kd h out = some (.inr (2, 1))) (hG : GX K X) (hK : K ≤ 30000) (hi : i + 5 ≤ E.2.1) (hE : E.2.1 ≤ 2560)  (k : ∀ X' h' y5 y6, WC h' x X' → WM h' m ad X' → kd h' out = some (.inr (2, 1)) → GX (K + 50) X' → WPx E mL_law 2240 [some (.ref E.1), some (.ref x), some (.ref m), some (.ref out), some (.int (nI i)), y5, y6] [] (36 * n, 510 * n) h' Q) : WPx E mL_law 1486 [some (.ref E.1), some (.ref x), some (.ref m), some (.ref out), some (.int (nI i)), x5, x6] [] (36 * (n + 1), 510 * (n + 1)) h Q := by
  refine wp_aload_n (M := mL_law) (pc := 1486) dL_law_1486 rfl ?_
  refine wp_aload_n (M := mL_law) (pc := 1487) dL_law_1487 rfl ?_
  refine wp_iload (M := mL_law) (pc := 1488) dL_law_1488 rfl ?_
  refine wp_iconst (M := mL_law) (pc := 1490) (v := 1) dL_law_1490 ci_1 ?_
  refine wp_iadd (M := mL_law) (pc := 1491) dL_law_1491 ?_
  refine wr_sld (M := mL_law) (pc := 1492) dL_law_1492 (ia rfl (show (1 : Int32) = nI 1 from rfl)) (by omega) (by omega) ?_
  refine wp_aload_n (M := mL_law) (pc := 1493) dL_law_1493 rfl ?_
  refine so_SWA3 (M := mL_law) (pc := 1494) (36 * n, 510 * n) cs_L_law_195 rfl (LE rfl) (LE rfl) (by show 1 + 36 * n ≤ 36 * (n + 1); omega) (by show 6 + 510 * n ≤ 510 * (n + 1); omega) dL_law_1494 ?_
  refine hp_priceFor H HM ho hG hK (fun c1 a1 X1 h1 R1 W1 M1 o1 g1 => ?_)
  refine kI ?_
  refine so_istore (M := mL_law) (pc := 1497) (lo' := [_, _, _, _, _, _, _]) dL_law_1497 (LE rfl) (LE rfl) (Or.inr rfl) rfl ?_
  refine wp_aload_n (M := mL_law) (pc := 1499) dL_law_1499 rfl ?_
  refine wp_aload_n (M := mL_law) (pc := 1500) dL_law_1500 rfl ?_
  refine wp_iload (M := mL_law) (pc := 1501) dL_law_1501 rfl ?_
  refine wp_iconst (M := mL_law) (pc := 1503) (v := 1) dL_law_1503 ci_1 ?_
  refine wp_iadd (M := mL_law) (pc := 1504) dL_law_1504 ?_
  refine wr_sld (M := mL_law) (pc := 1505) dL_law_1505 (ia rfl (show (1 : Int32) = nI 1 from rfl)) (by omega) (by omega) ?_
  refine so_V1 (M := mL_law) (pc := 1506) cs_L_law_197 rfl rfl (LE rfl) (LE rfl) dL_law_1506 M1.kMe ?_
  refine md_priceFor M1 hG hK R1 (fun h2 b2 M2 z2 O2 e2 => ?_)
  refine kI ?_
  refine so_istore (M := mL_law) (pc := 1509) (lo' := [_, _, _, _, _, _, _]) dL_law_1509 (LE rfl) (LE rfl) (Or.inr rfl) rfl ?_
  refine wp_aload_n (M := mL_law) (pc := 1511) dL_law_1511 rfl ?_
  refine so_V0 (M := mL_law) (pc := 1512) cs_L_law_123 rfl rfl (LE rfl) (LE rfl) dL_law_1512 M2.kMe ?_
  refine sp_X7_thrown M2.kMe ?_
  refine kI ?_
  refine wp_iload (M := mL_law) (pc := 1515) dL_law_1515 rfl ?_
  refine wp_icmp_eq (M := mL_law) (pc := 1517) (tgt := 1522) dL_law_1517 rfl (fun c1517 => ?_) (fun c1517 => ?_)
  · refine wp_iload (M := mL_law) (pc := 1522) dL_law_1522 rfl ?_
    refine wp_if_ne (M := mL_law) (pc := 1524) (tgt := 1539) dL_law_1524 rfl (fun c1524 => ?_) (fun c1524 => ?_)
    · refine wp_goto (M := mL_law) (pc := 1539) (tgt := 2240) dL_law_1539 rfl ?_
      exact k X1 h2 _ _ (W1.ow O2 M1.kMe) M2 (by rw [O2.1]; exact o1) (gd_priceFor hG hK R1)
    · refine wp_aload_n (M := mL_law) (pc := 1527) dL_law_1527 rfl ?_
      refine wp_iconst (M := mL_law) (pc := 1528) (v := 0) dL_law_1528 ci_0 ?_
      refine wr_laload (M := mL_law) (pc := 1529) dL_law_1529 (by rw [O2.1]; exact o1 : kd h2 out = some (.inr (2, 1))) (show (0 : Int32) = nI 0 from rfl) (by decide) (by decide) ?_
      refine wp_iload (M := mL_law) (pc := 1530) dL_law_1530 rfl ?_
      refine wp_i2l (M := mL_law) (pc := 1532) dL_law_1532 ?_
      refine wp_lcmp (M := mL_law) (pc := 1533) dL_law_1533 ?_
      refine wp_if_eq (M := mL_law) (pc := 1534) (tgt := 1539) dL_law_1534 rfl (fun c1534 => ?_) (fun c1534 => ?_)
      · refine wp_goto (M := mL_law) (pc := 1539) (tgt := 2240) dL_law_1539 rfl ?_
        exact k X1 h2 _ _ (W1.ow O2 M1.kMe) M2 (by rw [O2.1]; exact o1) (gd_priceFor hG hK R1)
      · exact absurd (by rw [O2.2.2.1, g1 c1524, e2 c1524]; exact lcmp_0 _) c1534
  · exact absurd z2 c1517
set_option maxHeartbeats 4000000 in
set_option maxRecDepth 100000 in
theorem ls_share_y {x m out : Nat} {ad : Nat → Nat} {X : Abs} {K i n : Nat} {x5 x6 : Option Value} (H : WC h x X) (HM : WM h m ad X) (ho : kd h out = some (.inr (2, 1))) (hG : GX K X) (hK : K ≤ 30000) (hi : i + 5 ≤ E.2.1) (hE : E.2.1 ≤ 2560) (hz : (E.2.2.1 (i + 2)) = 0) (k : ∀ X' h' y5 y6, WC h' x X' → WM h' m ad X' → kd h' out = some (.inr (2, 1)) → GX (K + 50) X' → WPx E mL_law 2240 [some (.ref E.1), some (.ref x), some (.ref m), some (.ref out), some (.int (nI i)), y5, y6] [] (36 * n, 510 * n) h' Q) : WPx E mL_law 1542 [some (.ref E.1), some (.ref x), some (.ref m), some (.ref out), some (.int (nI i)), x5, x6] [] (36 * (n + 1), 510 * (n + 1)) h Q := by
  refine wp_aload_n (M := mL_law) (pc := 1542) dL_law_1542 rfl ?_
  refine wp_aload_n (M := mL_law) (pc := 1543) dL_law_1543 rfl ?_
  refine wp_iload (M := mL_law) (pc := 1544) dL_law_1544 rfl ?_
  refine wp_iconst (M := mL_law) (pc := 1546) (v := 1) dL_law_1546 ci_1 ?_
  refine wp_iadd (M := mL_law) (pc := 1547) dL_law_1547 ?_
  refine wr_sld (M := mL_law) (pc := 1548) dL_law_1548 (ia rfl (show (1 : Int32) = nI 1 from rfl)) (by omega) (by omega) ?_
  refine wp_aload_n (M := mL_law) (pc := 1549) dL_law_1549 rfl ?_
  refine wp_iload (M := mL_law) (pc := 1550) dL_law_1550 rfl ?_
  refine wp_iconst (M := mL_law) (pc := 1552) (v := 2) dL_law_1552 ci_2 ?_
  refine wp_iadd (M := mL_law) (pc := 1553) dL_law_1553 ?_
  refine wr_sld (M := mL_law) (pc := 1554) dL_law_1554 (ia rfl (show (2 : Int32) = nI 2 from rfl)) (by omega) (by omega) ?_
  refine wp_if_eq (M := mL_law) (pc := 1555) (tgt := 1562) dL_law_1555 rfl (fun c1555 => ?_) (fun c1555 => ?_)
  · refine wp_iconst (M := mL_law) (pc := 1562) (v := 0) dL_law_1562 ci_0 ?_
    refine wp_aload_n (M := mL_law) (pc := 1563) dL_law_1563 rfl ?_
    refine so_SWA4 (M := mL_law) (pc := 1564) (36 * n, 510 * n) cs_L_law_198 rfl (LE rfl) (LE rfl) (by show 1 + 36 * n ≤ 36 * (n + 1); omega) (by show 6 + 510 * n ≤ 510 * (n + 1); omega) dL_law_1564 ?_
    refine hp_share H HM ho hG hK (fun c1 a1 X1 h1 R1 W1 M1 o1 g1 => ?_)
    refine kI ?_
    refine so_istore (M := mL_law) (pc := 1567) (lo' := [_, _, _, _, _, _, _]) dL_law_1567 (LE rfl) (LE rfl) (Or.inr rfl) rfl ?_
    refine wp_aload_n (M := mL_law) (pc := 1569) dL_law_1569 rfl ?_
    refine wp_aload_n (M := mL_law) (pc := 1570) dL_law_1570 rfl ?_
    refine wp_iload (M := mL_law) (pc := 1571) dL_law_1571 rfl ?_
    refine wp_iconst (M := mL_law) (pc := 1573) (v := 1) dL_law_1573 ci_1 ?_
    refine wp_iadd (M := mL_law) (pc := 1574) dL_law_1574 ?_
    refine wr_sld (M := mL_law) (pc := 1575) dL_law_1575 (ia rfl (show (1 : Int32) = nI 1 from rfl)) (by omega) (by omega) ?_
    refine wp_aload_n (M := mL_law) (pc := 1576) dL_law_1576 rfl ?_
    refine wp_iload (M := mL_law) (pc := 1577) dL_law_1577 rfl ?_
    refine wp_iconst (M := mL_law) (pc := 1579) (v := 2) dL_law_1579 ci_2 ?_
    refine wp_iadd (M := mL_law) (pc := 1580) dL_law_1580 ?_
    refine wr_sld (M := mL_law) (pc := 1581) dL_law_1581 (ia rfl (show (2 : Int32) = nI 2 from rfl)) (by omega) (by omega) ?_
    refine wp_if_eq (M := mL_law) (pc := 1582) (tgt := 1589) dL_law_1582 rfl (fun c1582 => ?_) (fun c1582 => ?_)
    · refine wp_iconst (M := mL_law) (pc := 1589) (v := 0) dL_law_1589 ci_0 ?_
      refine so_V2 (M := mL_law) (pc := 1590) cs_L_law_201 rfl rfl (LE rfl) (LE rfl) dL_law_1590 M1.kMe ?_
      refine md_share M1 hG hK R1 (fun h2 b2 M2 z2 O2 e2 => ?_)
      refine kI ?_
      refine so_istore (M := mL_law) (pc := 1593) (lo' := [_, _, _, _, _, _, _]) dL_law_1593 (LE rfl) (LE rfl) (Or.inr rfl) rfl ?_
      refine wp_aload_n (M := mL_law) (pc := 1595) dL_law_1595 rfl ?_
      refine so_V0 (M := mL_law) (pc := 1596) cs_L_law_123 rfl rfl (LE rfl) (LE rfl) dL_law_1596 M2.kMe ?_
      refine sp_X7_thrown M2.kMe ?_
      refine kI ?_
      refine wp_iload (M := mL_law) (pc := 1599) dL_law_1599 rfl ?_
      refine wp_icmp_eq (M := mL_law) (pc := 1601) (tgt := 1606) dL_law_1601 rfl (fun c1601 => ?_) (fun c1601 => ?_)
      · refine wp_iload (M := mL_law) (pc := 1606) dL_law_1606 rfl ?_
        refine wp_if_ne (M := mL_law) (pc := 1608) (tgt := 1623) dL_law_1608 rfl (fun c1608 => ?_) (fun c1608 => ?_)
        · refine wp_goto (M := mL_law) (pc := 1623) (tgt := 2240) dL_law_1623 rfl ?_
          exact k X1 h2 _ _ (W1.ow O2 M1.kMe) M2 (by rw [O2.1]; exact o1) (gd_share hG hK R1)
        · refine wp_aload_n (M := mL_law) (pc := 1611) dL_law_1611 rfl ?_
          refine wp_iconst (M := mL_law) (pc := 1612) (v := 0) dL_law_1612 ci_0 ?_
          refine wr_laload (M := mL_law) (pc := 1613) dL_law_1613 (by rw [O2.1]; exact o1 : kd h2 out = some (.inr (2, 1))) (show (0 : Int32) = nI 0 from rfl) (by decide) (by decide) ?_
          refine wp_iload (M := mL_law) (pc := 1614) dL_law_1614 rfl ?_
          refine wp_i2l (M := mL_law) (pc := 1616) dL_law_1616 ?_
          refine wp_lcmp (M := mL_law) (pc := 1617) dL_law_1617 ?_
          refine wp_if_eq (M := mL_law) (pc := 1618) (tgt := 1623) dL_law_1618 rfl (fun c1618 => ?_) (fun c1618 => ?_)
          · refine wp_goto (M := mL_law) (pc := 1623) (tgt := 2240) dL_law_1623 rfl ?_
            exact k X1 h2 _ _ (W1.ow O2 M1.kMe) M2 (by rw [O2.1]; exact o1) (gd_share hG hK R1)
          · exact absurd (by rw [O2.2.2.1, g1 c1608, e2 c1608]; exact lcmp_0 _) c1618
      · exact absurd z2 c1601
    · exact absurd hz c1582
  · exact absurd hz c1555
set_option maxHeartbeats 4000000 in
set_option maxRecDepth 100000 in
theorem ls_share_n {x m out : Nat} {ad : Nat → Nat} {X : Abs} {K i n : Nat} {x5 x6 : Option Value} (H : WC h x X) (HM : WM h m ad X) (ho : kd h out = some (.inr (2, 1))) (hG : GX K X) (hK : K ≤ 30000) (hi : i + 5 ≤ E.2.1) (hE : E.2.1 ≤ 2560) (hz : ¬ (E.2.2.1 (i + 2)) = 0) (k : ∀ X' h' y5 y6, WC h' x X' → WM h' m ad X' → kd h' out = some (.inr (2, 1)) → GX (K + 50) X' → WPx E mL_law 2240 [some (.ref E.1), some (.ref x), some (.ref m), some (.ref out), some (.int (nI i)), y5, y6] [] (36 * n, 510 * n) h' Q) : WPx E mL_law 1542 [some (.ref E.1), some (.ref x), some (.ref m), some (.ref out), some (.int (nI i)), x5, x6] [] (36 * (n + 1), 510 * (n + 1)) h Q := by
  refine wp_aload_n (M := mL_law) (pc := 1542) dL_law_1542 rfl ?_
  refine wp_aload_n (M := mL_law) (pc := 1543) dL_law_1543 rfl ?_
  refine wp_iload (M := mL_law) (pc := 1544) dL_law_1544 rfl ?_
  refine wp_iconst (M := mL_law) (pc := 1546) (v := 1) dL_law_1546 ci_1 ?_
  refine wp_iadd (M := mL_law) (pc := 1547) dL_law_1547 ?_
  refine wr_sld (M := mL_law) (pc := 1548) dL_law_1548 (ia rfl (show (1 : Int32) = nI 1 from rfl)) (by omega) (by omega) ?_
  refine wp_aload_n (M := mL_law) (pc := 1549) dL_law_1549 rfl ?_
  refine wp_iload (M := mL_law) (pc := 1550) dL_law_1550 rfl ?_
  refine wp_iconst (M := mL_law) (pc := 1552) (v := 2) dL_law_1552 ci_2 ?_
  refine wp_iadd (M := mL_law) (pc := 1553) dL_law_1553 ?_
  refine wr_sld (M := mL_law) (pc := 1554) dL_law_1554 (ia rfl (show (2 : Int32) = nI 2 from rfl)) (by omega) (by omega) ?_
  refine wp_if_eq (M := mL_law) (pc := 1555) (tgt := 1562) dL_law_1555 rfl (fun c1555 => ?_) (fun c1555 => ?_)
  · exact absurd c1555 hz
  · refine wp_iconst (M := mL_law) (pc := 1558) (v := 1) dL_law_1558 ci_1 ?_
    refine wp_goto (M := mL_law) (pc := 1559) (tgt := 1563) dL_law_1559 rfl ?_
    refine wp_aload_n (M := mL_law) (pc := 1563) dL_law_1563 rfl ?_
    refine so_SWA4 (M := mL_law) (pc := 1564) (36 * n, 510 * n) cs_L_law_198 rfl (LE rfl) (LE rfl) (by show 1 + 36 * n ≤ 36 * (n + 1); omega) (by show 6 + 510 * n ≤ 510 * (n + 1); omega) dL_law_1564 ?_
    refine hp_share H HM ho hG hK (fun c1 a1 X1 h1 R1 W1 M1 o1 g1 => ?_)
    refine kI ?_
    refine so_istore (M := mL_law) (pc := 1567) (lo' := [_, _, _, _, _, _, _]) dL_law_1567 (LE rfl) (LE rfl) (Or.inr rfl) rfl ?_
    refine wp_aload_n (M := mL_law) (pc := 1569) dL_law_1569 rfl ?_
    refine wp_aload_n (M := mL_law) (pc := 1570) dL_law_1570 rfl ?_
    refine wp_iload (M := mL_law) (pc := 1571) dL_law_1571 rfl ?_
    refine wp_iconst (M := mL_law) (pc := 1573) (v := 1) dL_law_1573 ci_1 ?_
    refine wp_iadd (M := mL_law) (pc := 1574) dL_law_1574 ?_
    refine wr_sld (M := mL_law) (pc := 1575) dL_law_1575 (ia rfl (show (1 : Int32) = nI 1 from rfl)) (by omega) (by omega) ?_
    refine wp_aload_n (M := mL_law) (pc := 1576) dL_law_1576 rfl ?_
    refine wp_iload (M := mL_law) (pc := 1577) dL_law_1577 rfl ?_
    refine wp_iconst (M := mL_law) (pc := 1579) (v := 2) dL_law_1579 ci_2 ?_
    refine wp_iadd (M := mL_law) (pc := 1580) dL_law_1580 ?_
    refine wr_sld (M := mL_law) (pc := 1581) dL_law_1581 (ia rfl (show (2 : Int32) = nI 2 from rfl)) (by omega) (by omega) ?_
    refine wp_if_eq (M := mL_law) (pc := 1582) (tgt := 1589) dL_law_1582 rfl (fun c1582 => ?_) (fun c1582 => ?_)
    · exact absurd c1582 hz
    · refine wp_iconst (M := mL_law) (pc := 1585) (v := 1) dL_law_1585 ci_1 ?_
      refine wp_goto (M := mL_law) (pc := 1586) (tgt := 1590) dL_law_1586 rfl ?_
      refine so_V2 (M := mL_law) (pc := 1590) cs_L_law_201 rfl rfl (LE rfl) (LE rfl) dL_law_1590 M1.kMe ?_
      refine md_share M1 hG hK R1 (fun h2 b2 M2 z2 O2 e2 => ?_)
      refine kI ?_
      refine so_istore (M := mL_law) (pc := 1593) (lo' := [_, _, _, _, _, _, _]) dL_law_1593 (LE rfl) (LE rfl) (Or.inr rfl) rfl ?_
      refine wp_aload_n (M := mL_law) (pc := 1595) dL_law_1595 rfl ?_
      refine so_V0 (M := mL_law) (pc := 1596) cs_L_law_123 rfl rfl (LE rfl) (LE rfl) dL_law_1596 M2.kMe ?_
      refine sp_X7_thrown M2.kMe ?_
      refine kI ?_
      refine wp_iload (M := mL_law) (pc := 1599) dL_law_1599 rfl ?_
      refine wp_icmp_eq (M := mL_law) (pc := 1601) (tgt := 1606) dL_law_1601 rfl (fun c1601 => ?_) (fun c1601 => ?_)
      · refine wp_iload (M := mL_law) (pc := 1606) dL_law_1606 rfl ?_
        refine wp_if_ne (M := mL_law) (pc := 1608) (tgt := 1623) dL_law_1608 rfl (fun c1608 => ?_) (fun c1608 => ?_)
        · refine wp_goto (M := mL_law) (pc := 1623) (tgt := 2240) dL_law_1623 rfl ?_
          exact k X1 h2 _ _ (W1.ow O2 M1.kMe) M2 (by rw [O2.1]; exact o1) (gd_share hG hK R1)
        · refine wp_aload_n (M := mL_law) (pc := 1611) dL_law_1611 rfl ?_
          refine wp_iconst (M := mL_law) (pc := 1612) (v := 0) dL_law_1612 ci_0 ?_
          refine wr_laload (M := mL_law) (pc := 1613) dL_law_1613 (by rw [O2.1]; exact o1 : kd h2 out = some (.inr (2, 1))) (show (0 : Int32) = nI 0 from rfl) (by decide) (by decide) ?_
          refine wp_iload (M := mL_law) (pc := 1614) dL_law_1614 rfl ?_
          refine wp_i2l (M := mL_law) (pc := 1616) dL_law_1616 ?_
          refine wp_lcmp (M := mL_law) (pc := 1617) dL_law_1617 ?_
          refine wp_if_eq (M := mL_law) (pc := 1618) (tgt := 1623) dL_law_1618 rfl (fun c1618 => ?_) (fun c1618 => ?_)
          · refine wp_goto (M := mL_law) (pc := 1623) (tgt := 2240) dL_law_1623 rfl ?_
            exact k X1 h2 _ _ (W1.ow O2 M1.kMe) M2 (by rw [O2.1]; exact o1) (gd_share hG hK R1)
          · exact absurd (by rw [O2.2.2.1, g1 c1608, e2 c1608]; exact lcmp_0 _) c1618
      · exact absurd z2 c1601
theorem ls_share {x m out : Nat} {ad : Nat → Nat} {X : Abs} {K i n : Nat} {x5 x6 : Option Value} (H : WC h x X) (HM : WM h m ad X) (ho : kd h out = some (.inr (2, 1))) (hG : GX K X) (hK : K ≤ 30000) (hi : i + 5 ≤ E.2.1) (hE : E.2.1 ≤ 2560) (k : ∀ X' h' y5 y6, WC h' x X' → WM h' m ad X' → kd h' out = some (.inr (2, 1)) → GX (K + 50) X' → WPx E mL_law 2240 [some (.ref E.1), some (.ref x), some (.ref m), some (.ref out), some (.int (nI i)), y5, y6] [] (36 * n, 510 * n) h' Q) : WPx E mL_law 1542 [some (.ref E.1), some (.ref x), some (.ref m), some (.ref out), some (.int (nI i)), x5, x6] [] (36 * (n + 1), 510 * (n + 1)) h Q := by
  by_cases hz : (E.2.2.1 (i + 2)) = 0
  · exact ls_share_y H HM ho hG hK hi hE hz k
  · exact ls_share_n H HM ho hG hK hi hE hz k
set_option maxHeartbeats 4000000 in
set_option maxRecDepth 100000 in
theorem ls_ahead {x m out : Nat} {ad : Nat → Nat} {X : Abs} {K i n : Nat} {x5 x6 : Option Value} (H : WC h x X) (HM : WM h m ad X) (ho : kd h out = some (.inr (2, 1))) (hG : GX K X) (hK : K ≤ 30000) (hi : i + 5 ≤ E.2.1) (hE : E.2.1 ≤ 2560)  (k : ∀ X' h' y5 y6, WC h' x X' → WM h' m ad X' → kd h' out = some (.inr (2, 1)) → GX (K + 50) X' → WPx E mL_law 2240 [some (.ref E.1), some (.ref x), some (.ref m), some (.ref out), some (.int (nI i)), y5, y6] [] (36 * n, 510 * n) h' Q) : WPx E mL_law 1626 [some (.ref E.1), some (.ref x), some (.ref m), some (.ref out), some (.int (nI i)), x5, x6] [] (36 * (n + 1), 510 * (n + 1)) h Q := by
  refine wp_aload_n (M := mL_law) (pc := 1626) dL_law_1626 rfl ?_
  refine wp_aload_n (M := mL_law) (pc := 1627) dL_law_1627 rfl ?_
  refine wp_iload (M := mL_law) (pc := 1628) dL_law_1628 rfl ?_
  refine wp_iconst (M := mL_law) (pc := 1630) (v := 1) dL_law_1630 ci_1 ?_
  refine wp_iadd (M := mL_law) (pc := 1631) dL_law_1631 ?_
  refine wr_sld (M := mL_law) (pc := 1632) dL_law_1632 (ia rfl (show (1 : Int32) = nI 1 from rfl)) (by omega) (by omega) ?_
  refine wp_aload_n (M := mL_law) (pc := 1633) dL_law_1633 rfl ?_
  refine wp_iload (M := mL_law) (pc := 1634) dL_law_1634 rfl ?_
  refine wp_iconst (M := mL_law) (pc := 1636) (v := 2) dL_law_1636 ci_2 ?_
  refine wp_iadd (M := mL_law) (pc := 1637) dL_law_1637 ?_
  refine wr_sld (M := mL_law) (pc := 1638) dL_law_1638 (ia rfl (show (2 : Int32) = nI 2 from rfl)) (by omega) (by omega) ?_
  refine wp_aload_n (M := mL_law) (pc := 1639) dL_law_1639 rfl ?_
  refine wp_iload (M := mL_law) (pc := 1640) dL_law_1640 rfl ?_
  refine wp_iconst (M := mL_law) (pc := 1642) (v := 3) dL_law_1642 ci_3 ?_
  refine wp_iadd (M := mL_law) (pc := 1643) dL_law_1643 ?_
  refine wr_sld (M := mL_law) (pc := 1644) dL_law_1644 (ia rfl (show (3 : Int32) = nI 3 from rfl)) (by omega) (by omega) ?_
  refine wp_aload_n (M := mL_law) (pc := 1645) dL_law_1645 rfl ?_
  refine so_SWA5 (M := mL_law) (pc := 1646) (36 * n, 510 * n) cs_L_law_202 rfl (LE rfl) (LE rfl) (by show 2 + 36 * n ≤ 36 * (n + 1); omega) (by show 12 + 510 * n ≤ 510 * (n + 1); omega) dL_law_1646 ?_
  refine hp_ahead H HM ho hG hK (fun c1 a1 X1 h1 R1 W1 M1 o1 g1 => ?_)
  refine kI ?_
  refine so_istore (M := mL_law) (pc := 1649) (lo' := [_, _, _, _, _, _, _]) dL_law_1649 (LE rfl) (LE rfl) (Or.inr rfl) rfl ?_
  refine wp_aload_n (M := mL_law) (pc := 1651) dL_law_1651 rfl ?_
  refine wp_aload_n (M := mL_law) (pc := 1652) dL_law_1652 rfl ?_
  refine wp_iload (M := mL_law) (pc := 1653) dL_law_1653 rfl ?_
  refine wp_iconst (M := mL_law) (pc := 1655) (v := 1) dL_law_1655 ci_1 ?_
  refine wp_iadd (M := mL_law) (pc := 1656) dL_law_1656 ?_
  refine wr_sld (M := mL_law) (pc := 1657) dL_law_1657 (ia rfl (show (1 : Int32) = nI 1 from rfl)) (by omega) (by omega) ?_
  refine wp_aload_n (M := mL_law) (pc := 1658) dL_law_1658 rfl ?_
  refine wp_iload (M := mL_law) (pc := 1659) dL_law_1659 rfl ?_
  refine wp_iconst (M := mL_law) (pc := 1661) (v := 2) dL_law_1661 ci_2 ?_
  refine wp_iadd (M := mL_law) (pc := 1662) dL_law_1662 ?_
  refine wr_sld (M := mL_law) (pc := 1663) dL_law_1663 (ia rfl (show (2 : Int32) = nI 2 from rfl)) (by omega) (by omega) ?_
  refine wp_aload_n (M := mL_law) (pc := 1664) dL_law_1664 rfl ?_
  refine wp_iload (M := mL_law) (pc := 1665) dL_law_1665 rfl ?_
  refine wp_iconst (M := mL_law) (pc := 1667) (v := 3) dL_law_1667 ci_3 ?_
  refine wp_iadd (M := mL_law) (pc := 1668) dL_law_1668 ?_
  refine wr_sld (M := mL_law) (pc := 1669) dL_law_1669 (ia rfl (show (3 : Int32) = nI 3 from rfl)) (by omega) (by omega) ?_
  refine so_V3 (M := mL_law) (pc := 1670) cs_L_law_204 rfl rfl (LE rfl) (LE rfl) dL_law_1670 M1.kMe ?_
  refine md_ahead M1 hG hK R1 (fun h2 b2 M2 z2 O2 e2 => ?_)
  refine kI ?_
  refine so_istore (M := mL_law) (pc := 1673) (lo' := [_, _, _, _, _, _, _]) dL_law_1673 (LE rfl) (LE rfl) (Or.inr rfl) rfl ?_
  refine wp_aload_n (M := mL_law) (pc := 1675) dL_law_1675 rfl ?_
  refine so_V0 (M := mL_law) (pc := 1676) cs_L_law_123 rfl rfl (LE rfl) (LE rfl) dL_law_1676 M2.kMe ?_
  refine sp_X7_thrown M2.kMe ?_
  refine kI ?_
  refine wp_iload (M := mL_law) (pc := 1679) dL_law_1679 rfl ?_
  refine wp_icmp_eq (M := mL_law) (pc := 1681) (tgt := 1686) dL_law_1681 rfl (fun c1681 => ?_) (fun c1681 => ?_)
  · refine wp_iload (M := mL_law) (pc := 1686) dL_law_1686 rfl ?_
    refine wp_if_ne (M := mL_law) (pc := 1688) (tgt := 1703) dL_law_1688 rfl (fun c1688 => ?_) (fun c1688 => ?_)
    · refine wp_goto (M := mL_law) (pc := 1703) (tgt := 2240) dL_law_1703 rfl ?_
      exact k X1 h2 _ _ (W1.ow O2 M1.kMe) M2 (by rw [O2.1]; exact o1) (gd_ahead hG hK R1)
    · refine wp_aload_n (M := mL_law) (pc := 1691) dL_law_1691 rfl ?_
      refine wp_iconst (M := mL_law) (pc := 1692) (v := 0) dL_law_1692 ci_0 ?_
      refine wr_laload (M := mL_law) (pc := 1693) dL_law_1693 (by rw [O2.1]; exact o1 : kd h2 out = some (.inr (2, 1))) (show (0 : Int32) = nI 0 from rfl) (by decide) (by decide) ?_
      refine wp_iload (M := mL_law) (pc := 1694) dL_law_1694 rfl ?_
      refine wp_i2l (M := mL_law) (pc := 1696) dL_law_1696 ?_
      refine wp_lcmp (M := mL_law) (pc := 1697) dL_law_1697 ?_
      refine wp_if_eq (M := mL_law) (pc := 1698) (tgt := 1703) dL_law_1698 rfl (fun c1698 => ?_) (fun c1698 => ?_)
      · refine wp_goto (M := mL_law) (pc := 1703) (tgt := 2240) dL_law_1703 rfl ?_
        exact k X1 h2 _ _ (W1.ow O2 M1.kMe) M2 (by rw [O2.1]; exact o1) (gd_ahead hG hK R1)
      · exact absurd (by rw [O2.2.2.1, g1 c1688, e2 c1688]; exact lcmp_0 _) c1698
  · exact absurd z2 c1681
set_option maxHeartbeats 4000000 in
set_option maxRecDepth 100000 in
theorem ls_sentAfter {x m out : Nat} {ad : Nat → Nat} {X : Abs} {K i n : Nat} {x5 x6 : Option Value} (H : WC h x X) (HM : WM h m ad X) (ho : kd h out = some (.inr (2, 1))) (hG : GX K X) (hK : K ≤ 30000) (hi : i + 5 ≤ E.2.1) (hE : E.2.1 ≤ 2560)  (k : ∀ X' h' y5 y6, WC h' x X' → WM h' m ad X' → kd h' out = some (.inr (2, 1)) → GX (K + 50) X' → WPx E mL_law 2240 [some (.ref E.1), some (.ref x), some (.ref m), some (.ref out), some (.int (nI i)), y5, y6] [] (36 * n, 510 * n) h' Q) : WPx E mL_law 1706 [some (.ref E.1), some (.ref x), some (.ref m), some (.ref out), some (.int (nI i)), x5, x6] [] (36 * (n + 1), 510 * (n + 1)) h Q := by
  refine wp_aload_n (M := mL_law) (pc := 1706) dL_law_1706 rfl ?_
  refine wp_aload_n (M := mL_law) (pc := 1707) dL_law_1707 rfl ?_
  refine wp_iload (M := mL_law) (pc := 1708) dL_law_1708 rfl ?_
  refine wp_iconst (M := mL_law) (pc := 1710) (v := 1) dL_law_1710 ci_1 ?_
  refine wp_iadd (M := mL_law) (pc := 1711) dL_law_1711 ?_
  refine wr_sld (M := mL_law) (pc := 1712) dL_law_1712 (ia rfl (show (1 : Int32) = nI 1 from rfl)) (by omega) (by omega) ?_
  refine wp_aload_n (M := mL_law) (pc := 1713) dL_law_1713 rfl ?_
  refine wp_iload (M := mL_law) (pc := 1714) dL_law_1714 rfl ?_
  refine wp_iconst (M := mL_law) (pc := 1716) (v := 2) dL_law_1716 ci_2 ?_
  refine wp_iadd (M := mL_law) (pc := 1717) dL_law_1717 ?_
  refine wr_sld (M := mL_law) (pc := 1718) dL_law_1718 (ia rfl (show (2 : Int32) = nI 2 from rfl)) (by omega) (by omega) ?_
  refine wp_aload_n (M := mL_law) (pc := 1719) dL_law_1719 rfl ?_
  refine so_SWA4 (M := mL_law) (pc := 1720) (36 * n, 510 * n) cs_L_law_205 rfl (LE rfl) (LE rfl) (by show 2 + 36 * n ≤ 36 * (n + 1); omega) (by show 12 + 510 * n ≤ 510 * (n + 1); omega) dL_law_1720 ?_
  refine hp_sentAfter H HM ho hG hK (fun c1 a1 X1 h1 R1 W1 M1 o1 g1 => ?_)
  refine kI ?_
  refine so_istore (M := mL_law) (pc := 1723) (lo' := [_, _, _, _, _, _, _]) dL_law_1723 (LE rfl) (LE rfl) (Or.inr rfl) rfl ?_
  refine wp_aload_n (M := mL_law) (pc := 1725) dL_law_1725 rfl ?_
  refine wp_aload_n (M := mL_law) (pc := 1726) dL_law_1726 rfl ?_
  refine wp_iload (M := mL_law) (pc := 1727) dL_law_1727 rfl ?_
  refine wp_iconst (M := mL_law) (pc := 1729) (v := 1) dL_law_1729 ci_1 ?_
  refine wp_iadd (M := mL_law) (pc := 1730) dL_law_1730 ?_
  refine wr_sld (M := mL_law) (pc := 1731) dL_law_1731 (ia rfl (show (1 : Int32) = nI 1 from rfl)) (by omega) (by omega) ?_
  refine wp_aload_n (M := mL_law) (pc := 1732) dL_law_1732 rfl ?_
  refine wp_iload (M := mL_law) (pc := 1733) dL_law_1733 rfl ?_
  refine wp_iconst (M := mL_law) (pc := 1735) (v := 2) dL_law_1735 ci_2 ?_
  refine wp_iadd (M := mL_law) (pc := 1736) dL_law_1736 ?_
  refine wr_sld (M := mL_law) (pc := 1737) dL_law_1737 (ia rfl (show (2 : Int32) = nI 2 from rfl)) (by omega) (by omega) ?_
  refine so_V2 (M := mL_law) (pc := 1738) cs_L_law_207 rfl rfl (LE rfl) (LE rfl) dL_law_1738 M1.kMe ?_
  refine md_sentAfter M1 hG hK R1 (fun h2 b2 M2 z2 O2 e2 => ?_)
  refine kI ?_
  refine so_istore (M := mL_law) (pc := 1741) (lo' := [_, _, _, _, _, _, _]) dL_law_1741 (LE rfl) (LE rfl) (Or.inr rfl) rfl ?_
  refine wp_aload_n (M := mL_law) (pc := 1743) dL_law_1743 rfl ?_
  refine so_V0 (M := mL_law) (pc := 1744) cs_L_law_123 rfl rfl (LE rfl) (LE rfl) dL_law_1744 M2.kMe ?_
  refine sp_X7_thrown M2.kMe ?_
  refine kI ?_
  refine wp_iload (M := mL_law) (pc := 1747) dL_law_1747 rfl ?_
  refine wp_icmp_eq (M := mL_law) (pc := 1749) (tgt := 1754) dL_law_1749 rfl (fun c1749 => ?_) (fun c1749 => ?_)
  · refine wp_iload (M := mL_law) (pc := 1754) dL_law_1754 rfl ?_
    refine wp_if_ne (M := mL_law) (pc := 1756) (tgt := 1771) dL_law_1756 rfl (fun c1756 => ?_) (fun c1756 => ?_)
    · refine wp_goto (M := mL_law) (pc := 1771) (tgt := 2240) dL_law_1771 rfl ?_
      exact k X1 h2 _ _ (W1.ow O2 M1.kMe) M2 (by rw [O2.1]; exact o1) (gd_sentAfter hG hK R1)
    · refine wp_aload_n (M := mL_law) (pc := 1759) dL_law_1759 rfl ?_
      refine wp_iconst (M := mL_law) (pc := 1760) (v := 0) dL_law_1760 ci_0 ?_
      refine wr_laload (M := mL_law) (pc := 1761) dL_law_1761 (by rw [O2.1]; exact o1 : kd h2 out = some (.inr (2, 1))) (show (0 : Int32) = nI 0 from rfl) (by decide) (by decide) ?_
      refine wp_iload (M := mL_law) (pc := 1762) dL_law_1762 rfl ?_
      refine wp_i2l (M := mL_law) (pc := 1764) dL_law_1764 ?_
      refine wp_lcmp (M := mL_law) (pc := 1765) dL_law_1765 ?_
      refine wp_if_eq (M := mL_law) (pc := 1766) (tgt := 1771) dL_law_1766 rfl (fun c1766 => ?_) (fun c1766 => ?_)
      · refine wp_goto (M := mL_law) (pc := 1771) (tgt := 2240) dL_law_1771 rfl ?_
        exact k X1 h2 _ _ (W1.ow O2 M1.kMe) M2 (by rw [O2.1]; exact o1) (gd_sentAfter hG hK R1)
      · exact absurd (by rw [O2.2.2.1, g1 c1756, e2 c1756]; exact lcmp_0 _) c1766
  · exact absurd z2 c1749
set_option maxHeartbeats 4000000 in
set_option maxRecDepth 100000 in
theorem ls_unused {x m out : Nat} {ad : Nat → Nat} {X : Abs} {K i n : Nat} {x5 x6 : Option Value} (H : WC h x X) (HM : WM h m ad X) (ho : kd h out = some (.inr (2, 1))) (hG : GX K X) (hK : K ≤ 30000) (hi : i + 5 ≤ E.2.1) (hE : E.2.1 ≤ 2560)  (k : ∀ X' h' y5 y6, WC h' x X' → WM h' m ad X' → kd h' out = some (.inr (2, 1)) → GX (K + 50) X' → WPx E mL_law 2240 [some (.ref E.1), some (.ref x), some (.ref m), some (.ref out), some (.int (nI i)), y5, y6] [] (36 * n, 510 * n) h' Q) : WPx E mL_law 1774 [some (.ref E.1), some (.ref x), some (.ref m), some (.ref out), some (.int (nI i)), x5, x6] [] (36 * (n + 1), 510 * (n + 1)) h Q := by
  refine wp_aload_n (M := mL_law) (pc := 1774) dL_law_1774 rfl ?_
  refine wp_aload_n (M := mL_law) (pc := 1775) dL_law_1775 rfl ?_
  refine wp_iload (M := mL_law) (pc := 1776) dL_law_1776 rfl ?_
  refine wp_iconst (M := mL_law) (pc := 1778) (v := 1) dL_law_1778 ci_1 ?_
  refine wp_iadd (M := mL_law) (pc := 1779) dL_law_1779 ?_
  refine wr_sld (M := mL_law) (pc := 1780) dL_law_1780 (ia rfl (show (1 : Int32) = nI 1 from rfl)) (by omega) (by omega) ?_
  refine wp_aload_n (M := mL_law) (pc := 1781) dL_law_1781 rfl ?_
  refine so_SWA3 (M := mL_law) (pc := 1782) (36 * n, 510 * n) cs_L_law_208 rfl (LE rfl) (LE rfl) (by show 1 + 36 * n ≤ 36 * (n + 1); omega) (by show 6 + 510 * n ≤ 510 * (n + 1); omega) dL_law_1782 ?_
  refine hp_unused H HM ho hG hK (fun c1 a1 X1 h1 R1 W1 M1 o1 g1 => ?_)
  refine kI ?_
  refine so_istore (M := mL_law) (pc := 1785) (lo' := [_, _, _, _, _, _, _]) dL_law_1785 (LE rfl) (LE rfl) (Or.inr rfl) rfl ?_
  refine wp_aload_n (M := mL_law) (pc := 1787) dL_law_1787 rfl ?_
  refine wp_aload_n (M := mL_law) (pc := 1788) dL_law_1788 rfl ?_
  refine wp_iload (M := mL_law) (pc := 1789) dL_law_1789 rfl ?_
  refine wp_iconst (M := mL_law) (pc := 1791) (v := 1) dL_law_1791 ci_1 ?_
  refine wp_iadd (M := mL_law) (pc := 1792) dL_law_1792 ?_
  refine wr_sld (M := mL_law) (pc := 1793) dL_law_1793 (ia rfl (show (1 : Int32) = nI 1 from rfl)) (by omega) (by omega) ?_
  refine so_V1 (M := mL_law) (pc := 1794) cs_L_law_210 rfl rfl (LE rfl) (LE rfl) dL_law_1794 M1.kMe ?_
  refine md_unused M1 hG hK R1 (fun h2 b2 M2 z2 O2 e2 => ?_)
  refine kI ?_
  refine so_istore (M := mL_law) (pc := 1797) (lo' := [_, _, _, _, _, _, _]) dL_law_1797 (LE rfl) (LE rfl) (Or.inr rfl) rfl ?_
  refine wp_aload_n (M := mL_law) (pc := 1799) dL_law_1799 rfl ?_
  refine so_V0 (M := mL_law) (pc := 1800) cs_L_law_123 rfl rfl (LE rfl) (LE rfl) dL_law_1800 M2.kMe ?_
  refine sp_X7_thrown M2.kMe ?_
  refine kI ?_
  refine wp_iload (M := mL_law) (pc := 1803) dL_law_1803 rfl ?_
  refine wp_icmp_eq (M := mL_law) (pc := 1805) (tgt := 1810) dL_law_1805 rfl (fun c1805 => ?_) (fun c1805 => ?_)
  · refine wp_iload (M := mL_law) (pc := 1810) dL_law_1810 rfl ?_
    refine wp_if_ne (M := mL_law) (pc := 1812) (tgt := 1827) dL_law_1812 rfl (fun c1812 => ?_) (fun c1812 => ?_)
    · refine wp_goto (M := mL_law) (pc := 1827) (tgt := 2240) dL_law_1827 rfl ?_
      exact k X1 h2 _ _ (W1.ow O2 M1.kMe) M2 (by rw [O2.1]; exact o1) (gd_unused hG hK R1)
    · refine wp_aload_n (M := mL_law) (pc := 1815) dL_law_1815 rfl ?_
      refine wp_iconst (M := mL_law) (pc := 1816) (v := 0) dL_law_1816 ci_0 ?_
      refine wr_laload (M := mL_law) (pc := 1817) dL_law_1817 (by rw [O2.1]; exact o1 : kd h2 out = some (.inr (2, 1))) (show (0 : Int32) = nI 0 from rfl) (by decide) (by decide) ?_
      refine wp_iload (M := mL_law) (pc := 1818) dL_law_1818 rfl ?_
      refine wp_i2l (M := mL_law) (pc := 1820) dL_law_1820 ?_
      refine wp_lcmp (M := mL_law) (pc := 1821) dL_law_1821 ?_
      refine wp_if_eq (M := mL_law) (pc := 1822) (tgt := 1827) dL_law_1822 rfl (fun c1822 => ?_) (fun c1822 => ?_)
      · refine wp_goto (M := mL_law) (pc := 1827) (tgt := 2240) dL_law_1827 rfl ?_
        exact k X1 h2 _ _ (W1.ow O2 M1.kMe) M2 (by rw [O2.1]; exact o1) (gd_unused hG hK R1)
      · exact absurd (by rw [O2.2.2.1, g1 c1812, e2 c1812]; exact lcmp_0 _) c1822
  · exact absurd z2 c1805
set_option maxHeartbeats 4000000 in
set_option maxRecDepth 100000 in
theorem ls_fairness_y {x m out : Nat} {ad : Nat → Nat} {X : Abs} {K i n : Nat} {x5 x6 : Option Value} (H : WC h x X) (HM : WM h m ad X) (ho : kd h out = some (.inr (2, 1))) (hG : GX K X) (hK : K ≤ 30000) (hi : i + 5 ≤ E.2.1) (hE : E.2.1 ≤ 2560) (hz : (E.2.2.1 (i + 1)) = 0) (k : ∀ X' h' y5 y6, WC h' x X' → WM h' m ad X' → kd h' out = some (.inr (2, 1)) → GX (K + 50) X' → WPx E mL_law 2240 [some (.ref E.1), some (.ref x), some (.ref m), some (.ref out), some (.int (nI i)), y5, y6] [] (36 * n, 510 * n) h' Q) : WPx E mL_law 1830 [some (.ref E.1), some (.ref x), some (.ref m), some (.ref out), some (.int (nI i)), x5, x6] [] (36 * (n + 1), 510 * (n + 1)) h Q := by
  refine wp_aload_n (M := mL_law) (pc := 1830) dL_law_1830 rfl ?_
  refine wp_aload_n (M := mL_law) (pc := 1831) dL_law_1831 rfl ?_
  refine wp_iload (M := mL_law) (pc := 1832) dL_law_1832 rfl ?_
  refine wp_iconst (M := mL_law) (pc := 1834) (v := 1) dL_law_1834 ci_1 ?_
  refine wp_iadd (M := mL_law) (pc := 1835) dL_law_1835 ?_
  refine wr_sld (M := mL_law) (pc := 1836) dL_law_1836 (ia rfl (show (1 : Int32) = nI 1 from rfl)) (by omega) (by omega) ?_
  refine wp_if_eq (M := mL_law) (pc := 1837) (tgt := 1844) dL_law_1837 rfl (fun c1837 => ?_) (fun c1837 => ?_)
  · refine wp_iconst (M := mL_law) (pc := 1844) (v := 0) dL_law_1844 ci_0 ?_
    refine so_V1 (M := mL_law) (pc := 1845) cs_L_law_211 rfl rfl (LE rfl) (LE rfl) dL_law_1845 H.kMe ?_
    refine sp_X6_fairness H ?_
    refine kL ?_
    refine wp_aload_n (M := mL_law) (pc := 1848) dL_law_1848 rfl ?_
    refine wp_aload_n (M := mL_law) (pc := 1849) dL_law_1849 rfl ?_
    refine wp_iload (M := mL_law) (pc := 1850) dL_law_1850 rfl ?_
    refine wp_iconst (M := mL_law) (pc := 1852) (v := 1) dL_law_1852 ci_1 ?_
    refine wp_iadd (M := mL_law) (pc := 1853) dL_law_1853 ?_
    refine wr_sld (M := mL_law) (pc := 1854) dL_law_1854 (ia rfl (show (1 : Int32) = nI 1 from rfl)) (by omega) (by omega) ?_
    refine wp_if_eq (M := mL_law) (pc := 1855) (tgt := 1862) dL_law_1855 rfl (fun c1855 => ?_) (fun c1855 => ?_)
    · refine wp_iconst (M := mL_law) (pc := 1862) (v := 0) dL_law_1862 ci_0 ?_
      refine so_V1 (M := mL_law) (pc := 1863) cs_L_law_215 rfl rfl (LE rfl) (LE rfl) dL_law_1863 HM.kMe ?_
      refine sp_X7_fairness HM (fai_eq (v := 0) hG.1 hK).2 (fun h2 M2 z2 O2 => ?_)
      refine kL ?_
      refine wp_lcmp (M := mL_law) (pc := 1866) dL_law_1866 ?_
      refine wp_if_eq (M := mL_law) (pc := 1867) (tgt := 2240) dL_law_1867 rfl (fun c1867 => ?_) (fun c1867 => ?_)
      · exact wp_less (by show 36 * n ≤ 36 * (n + 1); omega) (by show 510 * n ≤ 510 * (n + 1); omega) (k X h2 _ _ (H.ow O2 HM.kMe) M2 (by rw [O2.1]; exact ho) (hG.more (by omega)))
      · exact absurd (by rw [(fai_eq hG.1 hK).1]; exact lcmp_0 _) c1867
    · exact absurd hz c1855
  · exact absurd hz c1837
set_option maxHeartbeats 4000000 in
set_option maxRecDepth 100000 in
theorem ls_fairness_n {x m out : Nat} {ad : Nat → Nat} {X : Abs} {K i n : Nat} {x5 x6 : Option Value} (H : WC h x X) (HM : WM h m ad X) (ho : kd h out = some (.inr (2, 1))) (hG : GX K X) (hK : K ≤ 30000) (hi : i + 5 ≤ E.2.1) (hE : E.2.1 ≤ 2560) (hz : ¬ (E.2.2.1 (i + 1)) = 0) (k : ∀ X' h' y5 y6, WC h' x X' → WM h' m ad X' → kd h' out = some (.inr (2, 1)) → GX (K + 50) X' → WPx E mL_law 2240 [some (.ref E.1), some (.ref x), some (.ref m), some (.ref out), some (.int (nI i)), y5, y6] [] (36 * n, 510 * n) h' Q) : WPx E mL_law 1830 [some (.ref E.1), some (.ref x), some (.ref m), some (.ref out), some (.int (nI i)), x5, x6] [] (36 * (n + 1), 510 * (n + 1)) h Q := by
  refine wp_aload_n (M := mL_law) (pc := 1830) dL_law_1830 rfl ?_
  refine wp_aload_n (M := mL_law) (pc := 1831) dL_law_1831 rfl ?_
  refine wp_iload (M := mL_law) (pc := 1832) dL_law_1832 rfl ?_
  refine wp_iconst (M := mL_law) (pc := 1834) (v := 1) dL_law_1834 ci_1 ?_
  refine wp_iadd (M := mL_law) (pc := 1835) dL_law_1835 ?_
  refine wr_sld (M := mL_law) (pc := 1836) dL_law_1836 (ia rfl (show (1 : Int32) = nI 1 from rfl)) (by omega) (by omega) ?_
  refine wp_if_eq (M := mL_law) (pc := 1837) (tgt := 1844) dL_law_1837 rfl (fun c1837 => ?_) (fun c1837 => ?_)
  · exact absurd c1837 hz
  · refine wp_iconst (M := mL_law) (pc := 1840) (v := 1) dL_law_1840 ci_1 ?_
    refine wp_goto (M := mL_law) (pc := 1841) (tgt := 1845) dL_law_1841 rfl ?_
    refine so_V1 (M := mL_law) (pc := 1845) cs_L_law_211 rfl rfl (LE rfl) (LE rfl) dL_law_1845 H.kMe ?_
    refine sp_X6_fairness H ?_
    refine kL ?_
    refine wp_aload_n (M := mL_law) (pc := 1848) dL_law_1848 rfl ?_
    refine wp_aload_n (M := mL_law) (pc := 1849) dL_law_1849 rfl ?_
    refine wp_iload (M := mL_law) (pc := 1850) dL_law_1850 rfl ?_
    refine wp_iconst (M := mL_law) (pc := 1852) (v := 1) dL_law_1852 ci_1 ?_
    refine wp_iadd (M := mL_law) (pc := 1853) dL_law_1853 ?_
    refine wr_sld (M := mL_law) (pc := 1854) dL_law_1854 (ia rfl (show (1 : Int32) = nI 1 from rfl)) (by omega) (by omega) ?_
    refine wp_if_eq (M := mL_law) (pc := 1855) (tgt := 1862) dL_law_1855 rfl (fun c1855 => ?_) (fun c1855 => ?_)
    · exact absurd c1855 hz
    · refine wp_iconst (M := mL_law) (pc := 1858) (v := 1) dL_law_1858 ci_1 ?_
      refine wp_goto (M := mL_law) (pc := 1859) (tgt := 1863) dL_law_1859 rfl ?_
      refine so_V1 (M := mL_law) (pc := 1863) cs_L_law_215 rfl rfl (LE rfl) (LE rfl) dL_law_1863 HM.kMe ?_
      refine sp_X7_fairness HM (fai_eq (v := 0) hG.1 hK).2 (fun h2 M2 z2 O2 => ?_)
      refine kL ?_
      refine wp_lcmp (M := mL_law) (pc := 1866) dL_law_1866 ?_
      refine wp_if_eq (M := mL_law) (pc := 1867) (tgt := 2240) dL_law_1867 rfl (fun c1867 => ?_) (fun c1867 => ?_)
      · exact wp_less (by show 36 * n ≤ 36 * (n + 1); omega) (by show 510 * n ≤ 510 * (n + 1); omega) (k X h2 _ _ (H.ow O2 HM.kMe) M2 (by rw [O2.1]; exact ho) (hG.more (by omega)))
      · exact absurd (by rw [(fai_eq hG.1 hK).1]; exact lcmp_0 _) c1867
theorem ls_fairness {x m out : Nat} {ad : Nat → Nat} {X : Abs} {K i n : Nat} {x5 x6 : Option Value} (H : WC h x X) (HM : WM h m ad X) (ho : kd h out = some (.inr (2, 1))) (hG : GX K X) (hK : K ≤ 30000) (hi : i + 5 ≤ E.2.1) (hE : E.2.1 ≤ 2560) (k : ∀ X' h' y5 y6, WC h' x X' → WM h' m ad X' → kd h' out = some (.inr (2, 1)) → GX (K + 50) X' → WPx E mL_law 2240 [some (.ref E.1), some (.ref x), some (.ref m), some (.ref out), some (.int (nI i)), y5, y6] [] (36 * n, 510 * n) h' Q) : WPx E mL_law 1830 [some (.ref E.1), some (.ref x), some (.ref m), some (.ref out), some (.int (nI i)), x5, x6] [] (36 * (n + 1), 510 * (n + 1)) h Q := by
  by_cases hz : (E.2.2.1 (i + 1)) = 0
  · exact ls_fairness_y H HM ho hG hK hi hE hz k
  · exact ls_fairness_n H HM ho hG hK hi hE hz k
set_option maxHeartbeats 4000000 in
set_option maxRecDepth 100000 in
theorem ls_wealthiest {x m out : Nat} {ad : Nat → Nat} {X : Abs} {K i n : Nat} {x5 x6 : Option Value} (H : WC h x X) (HM : WM h m ad X) (ho : kd h out = some (.inr (2, 1))) (hG : GX K X) (hK : K ≤ 30000) (hi : i + 5 ≤ E.2.1) (hE : E.2.1 ≤ 2560)  (k : ∀ X' h' y5 y6, WC h' x X' → WM h' m ad X' → kd h' out = some (.inr (2, 1)) → GX (K + 50) X' → WPx E mL_law 2240 [some (.ref E.1), some (.ref x), some (.ref m), some (.ref out), some (.int (nI i)), y5, y6] [] (36 * n, 510 * n) h' Q) : WPx E mL_law 1872 [some (.ref E.1), some (.ref x), some (.ref m), some (.ref out), some (.int (nI i)), x5, x6] [] (36 * (n + 1), 510 * (n + 1)) h Q := by
  refine wp_aload_n (M := mL_law) (pc := 1872) dL_law_1872 rfl ?_
  refine wp_aload_n (M := mL_law) (pc := 1873) dL_law_1873 rfl ?_
  refine wp_iload (M := mL_law) (pc := 1874) dL_law_1874 rfl ?_
  refine wp_iconst (M := mL_law) (pc := 1876) (v := 1) dL_law_1876 ci_1 ?_
  refine wp_iadd (M := mL_law) (pc := 1877) dL_law_1877 ?_
  refine wr_sld (M := mL_law) (pc := 1878) dL_law_1878 (ia rfl (show (1 : Int32) = nI 1 from rfl)) (by omega) (by omega) ?_
  refine wp_aload_n (M := mL_law) (pc := 1879) dL_law_1879 rfl ?_
  refine so_SWA3 (M := mL_law) (pc := 1880) (36 * n, 510 * n) cs_L_law_216 rfl (LE rfl) (LE rfl) (by show 1 + 36 * n ≤ 36 * (n + 1); omega) (by show 6 + 510 * n ≤ 510 * (n + 1); omega) dL_law_1880 ?_
  refine hp_wealthiest H HM ho hG hK (fun c1 a1 X1 h1 R1 W1 M1 o1 g1 => ?_)
  refine kI ?_
  refine so_istore (M := mL_law) (pc := 1883) (lo' := [_, _, _, _, _, _, _]) dL_law_1883 (LE rfl) (LE rfl) (Or.inr rfl) rfl ?_
  refine wp_aload_n (M := mL_law) (pc := 1885) dL_law_1885 rfl ?_
  refine wp_aload_n (M := mL_law) (pc := 1886) dL_law_1886 rfl ?_
  refine wp_iload (M := mL_law) (pc := 1887) dL_law_1887 rfl ?_
  refine wp_iconst (M := mL_law) (pc := 1889) (v := 1) dL_law_1889 ci_1 ?_
  refine wp_iadd (M := mL_law) (pc := 1890) dL_law_1890 ?_
  refine wr_sld (M := mL_law) (pc := 1891) dL_law_1891 (ia rfl (show (1 : Int32) = nI 1 from rfl)) (by omega) (by omega) ?_
  refine so_V1 (M := mL_law) (pc := 1892) cs_L_law_218 rfl rfl (LE rfl) (LE rfl) dL_law_1892 M1.kMe ?_
  refine md_wealthiest M1 hG hK R1 (fun h2 b2 M2 z2 O2 e2 => ?_)
  refine kI ?_
  refine so_istore (M := mL_law) (pc := 1895) (lo' := [_, _, _, _, _, _, _]) dL_law_1895 (LE rfl) (LE rfl) (Or.inr rfl) rfl ?_
  refine wp_aload_n (M := mL_law) (pc := 1897) dL_law_1897 rfl ?_
  refine so_V0 (M := mL_law) (pc := 1898) cs_L_law_123 rfl rfl (LE rfl) (LE rfl) dL_law_1898 M2.kMe ?_
  refine sp_X7_thrown M2.kMe ?_
  refine kI ?_
  refine wp_iload (M := mL_law) (pc := 1901) dL_law_1901 rfl ?_
  refine wp_icmp_eq (M := mL_law) (pc := 1903) (tgt := 1908) dL_law_1903 rfl (fun c1903 => ?_) (fun c1903 => ?_)
  · refine wp_iload (M := mL_law) (pc := 1908) dL_law_1908 rfl ?_
    refine wp_if_ne (M := mL_law) (pc := 1910) (tgt := 1925) dL_law_1910 rfl (fun c1910 => ?_) (fun c1910 => ?_)
    · refine wp_goto (M := mL_law) (pc := 1925) (tgt := 2240) dL_law_1925 rfl ?_
      exact k X1 h2 _ _ (W1.ow O2 M1.kMe) M2 (by rw [O2.1]; exact o1) (gd_wealthiest hG hK R1)
    · refine wp_aload_n (M := mL_law) (pc := 1913) dL_law_1913 rfl ?_
      refine wp_iconst (M := mL_law) (pc := 1914) (v := 0) dL_law_1914 ci_0 ?_
      refine wr_laload (M := mL_law) (pc := 1915) dL_law_1915 (by rw [O2.1]; exact o1 : kd h2 out = some (.inr (2, 1))) (show (0 : Int32) = nI 0 from rfl) (by decide) (by decide) ?_
      refine wp_iload (M := mL_law) (pc := 1916) dL_law_1916 rfl ?_
      refine wp_i2l (M := mL_law) (pc := 1918) dL_law_1918 ?_
      refine wp_lcmp (M := mL_law) (pc := 1919) dL_law_1919 ?_
      refine wp_if_eq (M := mL_law) (pc := 1920) (tgt := 1925) dL_law_1920 rfl (fun c1920 => ?_) (fun c1920 => ?_)
      · refine wp_goto (M := mL_law) (pc := 1925) (tgt := 2240) dL_law_1925 rfl ?_
        exact k X1 h2 _ _ (W1.ow O2 M1.kMe) M2 (by rw [O2.1]; exact o1) (gd_wealthiest hG hK R1)
      · exact absurd (by rw [O2.2.2.1, g1 c1910, e2 c1910]; exact lcmp_0 _) c1920
  · exact absurd z2 c1903
set_option maxHeartbeats 4000000 in
set_option maxRecDepth 100000 in
theorem ls_runScript {x m out : Nat} {ad : Nat → Nat} {X : Abs} {K i n : Nat} {x5 x6 : Option Value} (H : WC h x X) (HM : WM h m ad X) (ho : kd h out = some (.inr (2, 1))) (hG : GX K X) (hK : K ≤ 30000) (hi : i + 5 ≤ E.2.1) (hE : E.2.1 ≤ 2560)  (k : ∀ X' h' y5 y6, WC h' x X' → WM h' m ad X' → kd h' out = some (.inr (2, 1)) → GX (K + 50) X' → WPx E mL_law 2240 [some (.ref E.1), some (.ref x), some (.ref m), some (.ref out), some (.int (nI i)), y5, y6] [] (36 * n, 510 * n) h' Q) : WPx E mL_law 1928 [some (.ref E.1), some (.ref x), some (.ref m), some (.ref out), some (.int (nI i)), x5, x6] [] (36 * (n + 1), 510 * (n + 1)) h Q := by
  refine wp_aload_n (M := mL_law) (pc := 1928) dL_law_1928 rfl ?_
  refine wp_aload_n (M := mL_law) (pc := 1929) dL_law_1929 rfl ?_
  refine wp_iload (M := mL_law) (pc := 1930) dL_law_1930 rfl ?_
  refine wp_iconst (M := mL_law) (pc := 1932) (v := 1) dL_law_1932 ci_1 ?_
  refine wp_iadd (M := mL_law) (pc := 1933) dL_law_1933 ?_
  refine wr_sld (M := mL_law) (pc := 1934) dL_law_1934 (ia rfl (show (1 : Int32) = nI 1 from rfl)) (by omega) (by omega) ?_
  refine wp_aload_n (M := mL_law) (pc := 1935) dL_law_1935 rfl ?_
  refine wp_iload (M := mL_law) (pc := 1936) dL_law_1936 rfl ?_
  refine wp_iconst (M := mL_law) (pc := 1938) (v := 2) dL_law_1938 ci_2 ?_
  refine wp_iadd (M := mL_law) (pc := 1939) dL_law_1939 ?_
  refine wr_sld (M := mL_law) (pc := 1940) dL_law_1940 (ia rfl (show (2 : Int32) = nI 2 from rfl)) (by omega) (by omega) ?_
  refine wp_i2l (M := mL_law) (pc := 1941) dL_law_1941 ?_
  refine wp_bipush (M := mL_law) (pc := 1942) (v := 32) dL_law_1942 cb_32 ?_
  refine wp_lshl (M := mL_law) (pc := 1944) dL_law_1944 ?_
  refine wp_aload_n (M := mL_law) (pc := 1945) dL_law_1945 rfl ?_
  refine wp_iload (M := mL_law) (pc := 1946) dL_law_1946 rfl ?_
  refine wp_iconst (M := mL_law) (pc := 1948) (v := 3) dL_law_1948 ci_3 ?_
  refine wp_iadd (M := mL_law) (pc := 1949) dL_law_1949 ?_
  refine wr_sld (M := mL_law) (pc := 1950) dL_law_1950 (ia rfl (show (3 : Int32) = nI 3 from rfl)) (by omega) (by omega) ?_
  refine wp_i2l (M := mL_law) (pc := 1951) dL_law_1951 ?_
  refine wp_ldc2_w (M := mL_law) (pc := 1952) wv_L_219 dL_law_1952 ?_
  refine wp_land (M := mL_law) (pc := 1955) dL_law_1955 ?_
  refine wp_lor (M := mL_law) (pc := 1956) dL_law_1956 ?_
  refine wp_aload_n (M := mL_law) (pc := 1957) dL_law_1957 rfl ?_
  refine so_SWA4 (M := mL_law) (pc := 1958) (36 * n, 510 * n) cs_L_law_221 rfl (LE rfl) (LE rfl) (by show 2 + 36 * n ≤ 36 * (n + 1); omega) (by show 12 + 510 * n ≤ 510 * (n + 1); omega) dL_law_1958 ?_
  refine hp_runScript H HM ho hG hK (fun c1 a1 X1 h1 R1 W1 M1 o1 g1 => ?_)
  refine kI ?_
  refine so_istore (M := mL_law) (pc := 1961) (lo' := [_, _, _, _, _, _, _]) dL_law_1961 (LE rfl) (LE rfl) (Or.inr rfl) rfl ?_
  refine wp_aload_n (M := mL_law) (pc := 1963) dL_law_1963 rfl ?_
  refine wp_aload_n (M := mL_law) (pc := 1964) dL_law_1964 rfl ?_
  refine wp_iload (M := mL_law) (pc := 1965) dL_law_1965 rfl ?_
  refine wp_iconst (M := mL_law) (pc := 1967) (v := 1) dL_law_1967 ci_1 ?_
  refine wp_iadd (M := mL_law) (pc := 1968) dL_law_1968 ?_
  refine wr_sld (M := mL_law) (pc := 1969) dL_law_1969 (ia rfl (show (1 : Int32) = nI 1 from rfl)) (by omega) (by omega) ?_
  refine wp_aload_n (M := mL_law) (pc := 1970) dL_law_1970 rfl ?_
  refine wp_iload (M := mL_law) (pc := 1971) dL_law_1971 rfl ?_
  refine wp_iconst (M := mL_law) (pc := 1973) (v := 2) dL_law_1973 ci_2 ?_
  refine wp_iadd (M := mL_law) (pc := 1974) dL_law_1974 ?_
  refine wr_sld (M := mL_law) (pc := 1975) dL_law_1975 (ia rfl (show (2 : Int32) = nI 2 from rfl)) (by omega) (by omega) ?_
  refine wp_i2l (M := mL_law) (pc := 1976) dL_law_1976 ?_
  refine wp_bipush (M := mL_law) (pc := 1977) (v := 32) dL_law_1977 cb_32 ?_
  refine wp_lshl (M := mL_law) (pc := 1979) dL_law_1979 ?_
  refine wp_aload_n (M := mL_law) (pc := 1980) dL_law_1980 rfl ?_
  refine wp_iload (M := mL_law) (pc := 1981) dL_law_1981 rfl ?_
  refine wp_iconst (M := mL_law) (pc := 1983) (v := 3) dL_law_1983 ci_3 ?_
  refine wp_iadd (M := mL_law) (pc := 1984) dL_law_1984 ?_
  refine wr_sld (M := mL_law) (pc := 1985) dL_law_1985 (ia rfl (show (3 : Int32) = nI 3 from rfl)) (by omega) (by omega) ?_
  refine wp_i2l (M := mL_law) (pc := 1986) dL_law_1986 ?_
  refine wp_ldc2_w (M := mL_law) (pc := 1987) wv_L_219 dL_law_1987 ?_
  refine wp_land (M := mL_law) (pc := 1990) dL_law_1990 ?_
  refine wp_lor (M := mL_law) (pc := 1991) dL_law_1991 ?_
  refine so_V2 (M := mL_law) (pc := 1992) cs_L_law_224 rfl rfl (LE rfl) (LE rfl) dL_law_1992 M1.kMe ?_
  refine md_runScript M1 hG hK R1 (fun h2 b2 M2 z2 O2 e2 => ?_)
  refine kI ?_
  refine so_istore (M := mL_law) (pc := 1995) (lo' := [_, _, _, _, _, _, _]) dL_law_1995 (LE rfl) (LE rfl) (Or.inr rfl) rfl ?_
  refine wp_aload_n (M := mL_law) (pc := 1997) dL_law_1997 rfl ?_
  refine so_V0 (M := mL_law) (pc := 1998) cs_L_law_123 rfl rfl (LE rfl) (LE rfl) dL_law_1998 M2.kMe ?_
  refine sp_X7_thrown M2.kMe ?_
  refine kI ?_
  refine wp_iload (M := mL_law) (pc := 2001) dL_law_2001 rfl ?_
  refine wp_icmp_eq (M := mL_law) (pc := 2003) (tgt := 2008) dL_law_2003 rfl (fun c2003 => ?_) (fun c2003 => ?_)
  · refine wp_iload (M := mL_law) (pc := 2008) dL_law_2008 rfl ?_
    refine wp_if_ne (M := mL_law) (pc := 2010) (tgt := 2025) dL_law_2010 rfl (fun c2010 => ?_) (fun c2010 => ?_)
    · refine wp_goto (M := mL_law) (pc := 2025) (tgt := 2240) dL_law_2025 rfl ?_
      exact k X1 h2 _ _ (W1.ow O2 M1.kMe) M2 (by rw [O2.1]; exact o1) (gd_runScript hG hK R1)
    · refine wp_aload_n (M := mL_law) (pc := 2013) dL_law_2013 rfl ?_
      refine wp_iconst (M := mL_law) (pc := 2014) (v := 0) dL_law_2014 ci_0 ?_
      refine wr_laload (M := mL_law) (pc := 2015) dL_law_2015 (by rw [O2.1]; exact o1 : kd h2 out = some (.inr (2, 1))) (show (0 : Int32) = nI 0 from rfl) (by decide) (by decide) ?_
      refine wp_iload (M := mL_law) (pc := 2016) dL_law_2016 rfl ?_
      refine wp_i2l (M := mL_law) (pc := 2018) dL_law_2018 ?_
      refine wp_lcmp (M := mL_law) (pc := 2019) dL_law_2019 ?_
      refine wp_if_eq (M := mL_law) (pc := 2020) (tgt := 2025) dL_law_2020 rfl (fun c2020 => ?_) (fun c2020 => ?_)
      · refine wp_goto (M := mL_law) (pc := 2025) (tgt := 2240) dL_law_2025 rfl ?_
        exact k X1 h2 _ _ (W1.ow O2 M1.kMe) M2 (by rw [O2.1]; exact o1) (gd_runScript hG hK R1)
      · exact absurd (by rw [O2.2.2.1, g1 c2010, e2 c2010]; exact lcmp_0 _) c2020
  · exact absurd z2 c2003
set_option maxHeartbeats 4000000 in
set_option maxRecDepth 100000 in
theorem ls_simulate {x m out : Nat} {ad : Nat → Nat} {X : Abs} {K i n : Nat} {x5 x6 : Option Value} (H : WC h x X) (HM : WM h m ad X) (ho : kd h out = some (.inr (2, 1))) (hG : GX K X) (hK : K ≤ 30000) (hi : i + 5 ≤ E.2.1) (hE : E.2.1 ≤ 2560)  (k : ∀ X' h' y5 y6, WC h' x X' → WM h' m ad X' → kd h' out = some (.inr (2, 1)) → GX (K + 50) X' → WPx E mL_law 2240 [some (.ref E.1), some (.ref x), some (.ref m), some (.ref out), some (.int (nI i)), y5, y6] [] (36 * n, 510 * n) h' Q) : WPx E mL_law 2028 [some (.ref E.1), some (.ref x), some (.ref m), some (.ref out), some (.int (nI i)), x5, x6] [] (36 * (n + 1), 510 * (n + 1)) h Q := by
  refine wp_aload_n (M := mL_law) (pc := 2028) dL_law_2028 rfl ?_
  refine wp_aload_n (M := mL_law) (pc := 2029) dL_law_2029 rfl ?_
  refine wp_iload (M := mL_law) (pc := 2030) dL_law_2030 rfl ?_
  refine wp_iconst (M := mL_law) (pc := 2032) (v := 1) dL_law_2032 ci_1 ?_
  refine wp_iadd (M := mL_law) (pc := 2033) dL_law_2033 ?_
  refine wr_sld (M := mL_law) (pc := 2034) dL_law_2034 (ia rfl (show (1 : Int32) = nI 1 from rfl)) (by omega) (by omega) ?_
  refine wp_i2l (M := mL_law) (pc := 2035) dL_law_2035 ?_
  refine wp_bipush (M := mL_law) (pc := 2036) (v := 32) dL_law_2036 cb_32 ?_
  refine wp_lshl (M := mL_law) (pc := 2038) dL_law_2038 ?_
  refine wp_aload_n (M := mL_law) (pc := 2039) dL_law_2039 rfl ?_
  refine wp_iload (M := mL_law) (pc := 2040) dL_law_2040 rfl ?_
  refine wp_iconst (M := mL_law) (pc := 2042) (v := 2) dL_law_2042 ci_2 ?_
  refine wp_iadd (M := mL_law) (pc := 2043) dL_law_2043 ?_
  refine wr_sld (M := mL_law) (pc := 2044) dL_law_2044 (ia rfl (show (2 : Int32) = nI 2 from rfl)) (by omega) (by omega) ?_
  refine wp_i2l (M := mL_law) (pc := 2045) dL_law_2045 ?_
  refine wp_ldc2_w (M := mL_law) (pc := 2046) wv_L_219 dL_law_2046 ?_
  refine wp_land (M := mL_law) (pc := 2049) dL_law_2049 ?_
  refine wp_lor (M := mL_law) (pc := 2050) dL_law_2050 ?_
  refine wp_aload_n (M := mL_law) (pc := 2051) dL_law_2051 rfl ?_
  refine wp_iload (M := mL_law) (pc := 2052) dL_law_2052 rfl ?_
  refine wp_iconst (M := mL_law) (pc := 2054) (v := 3) dL_law_2054 ci_3 ?_
  refine wp_iadd (M := mL_law) (pc := 2055) dL_law_2055 ?_
  refine wr_sld (M := mL_law) (pc := 2056) dL_law_2056 (ia rfl (show (3 : Int32) = nI 3 from rfl)) (by omega) (by omega) ?_
  refine wp_aload_n (M := mL_law) (pc := 2057) dL_law_2057 rfl ?_
  refine so_SWA4 (M := mL_law) (pc := 2058) (36 * n, 510 * n) cs_L_law_225 rfl (LE rfl) (LE rfl) (by show 1 + 36 * n ≤ 36 * (n + 1); omega) (by show 6 + 510 * n ≤ 510 * (n + 1); omega) dL_law_2058 ?_
  refine hp_simulate H HM ho hG hK (fun c1 a1 X1 h1 R1 W1 M1 o1 g1 => ?_)
  refine kI ?_
  refine so_istore (M := mL_law) (pc := 2061) (lo' := [_, _, _, _, _, _, _]) dL_law_2061 (LE rfl) (LE rfl) (Or.inr rfl) rfl ?_
  refine wp_aload_n (M := mL_law) (pc := 2063) dL_law_2063 rfl ?_
  refine wp_aload_n (M := mL_law) (pc := 2064) dL_law_2064 rfl ?_
  refine wp_iload (M := mL_law) (pc := 2065) dL_law_2065 rfl ?_
  refine wp_iconst (M := mL_law) (pc := 2067) (v := 1) dL_law_2067 ci_1 ?_
  refine wp_iadd (M := mL_law) (pc := 2068) dL_law_2068 ?_
  refine wr_sld (M := mL_law) (pc := 2069) dL_law_2069 (ia rfl (show (1 : Int32) = nI 1 from rfl)) (by omega) (by omega) ?_
  refine wp_i2l (M := mL_law) (pc := 2070) dL_law_2070 ?_
  refine wp_bipush (M := mL_law) (pc := 2071) (v := 32) dL_law_2071 cb_32 ?_
  refine wp_lshl (M := mL_law) (pc := 2073) dL_law_2073 ?_
  refine wp_aload_n (M := mL_law) (pc := 2074) dL_law_2074 rfl ?_
  refine wp_iload (M := mL_law) (pc := 2075) dL_law_2075 rfl ?_
  refine wp_iconst (M := mL_law) (pc := 2077) (v := 2) dL_law_2077 ci_2 ?_
  refine wp_iadd (M := mL_law) (pc := 2078) dL_law_2078 ?_
  refine wr_sld (M := mL_law) (pc := 2079) dL_law_2079 (ia rfl (show (2 : Int32) = nI 2 from rfl)) (by omega) (by omega) ?_
  refine wp_i2l (M := mL_law) (pc := 2080) dL_law_2080 ?_
  refine wp_ldc2_w (M := mL_law) (pc := 2081) wv_L_219 dL_law_2081 ?_
  refine wp_land (M := mL_law) (pc := 2084) dL_law_2084 ?_
  refine wp_lor (M := mL_law) (pc := 2085) dL_law_2085 ?_
  refine wp_aload_n (M := mL_law) (pc := 2086) dL_law_2086 rfl ?_
  refine wp_iload (M := mL_law) (pc := 2087) dL_law_2087 rfl ?_
  refine wp_iconst (M := mL_law) (pc := 2089) (v := 3) dL_law_2089 ci_3 ?_
  refine wp_iadd (M := mL_law) (pc := 2090) dL_law_2090 ?_
  refine wr_sld (M := mL_law) (pc := 2091) dL_law_2091 (ia rfl (show (3 : Int32) = nI 3 from rfl)) (by omega) (by omega) ?_
  refine so_V2 (M := mL_law) (pc := 2092) cs_L_law_228 rfl rfl (LE rfl) (LE rfl) dL_law_2092 M1.kMe ?_
  refine md_simulate M1 hG hK R1 (fun h2 b2 M2 z2 O2 e2 => ?_)
  refine kI ?_
  refine so_istore (M := mL_law) (pc := 2095) (lo' := [_, _, _, _, _, _, _]) dL_law_2095 (LE rfl) (LE rfl) (Or.inr rfl) rfl ?_
  refine wp_aload_n (M := mL_law) (pc := 2097) dL_law_2097 rfl ?_
  refine so_V0 (M := mL_law) (pc := 2098) cs_L_law_123 rfl rfl (LE rfl) (LE rfl) dL_law_2098 M2.kMe ?_
  refine sp_X7_thrown M2.kMe ?_
  refine kI ?_
  refine wp_iload (M := mL_law) (pc := 2101) dL_law_2101 rfl ?_
  refine wp_icmp_eq (M := mL_law) (pc := 2103) (tgt := 2108) dL_law_2103 rfl (fun c2103 => ?_) (fun c2103 => ?_)
  · refine wp_iload (M := mL_law) (pc := 2108) dL_law_2108 rfl ?_
    refine wp_if_ne (M := mL_law) (pc := 2110) (tgt := 2125) dL_law_2110 rfl (fun c2110 => ?_) (fun c2110 => ?_)
    · refine wp_goto (M := mL_law) (pc := 2125) (tgt := 2240) dL_law_2125 rfl ?_
      exact k X1 h2 _ _ (W1.ow O2 M1.kMe) M2 (by rw [O2.1]; exact o1) (gd_simulate hG hK R1)
    · refine wp_aload_n (M := mL_law) (pc := 2113) dL_law_2113 rfl ?_
      refine wp_iconst (M := mL_law) (pc := 2114) (v := 0) dL_law_2114 ci_0 ?_
      refine wr_laload (M := mL_law) (pc := 2115) dL_law_2115 (by rw [O2.1]; exact o1 : kd h2 out = some (.inr (2, 1))) (show (0 : Int32) = nI 0 from rfl) (by decide) (by decide) ?_
      refine wp_iload (M := mL_law) (pc := 2116) dL_law_2116 rfl ?_
      refine wp_i2l (M := mL_law) (pc := 2118) dL_law_2118 ?_
      refine wp_lcmp (M := mL_law) (pc := 2119) dL_law_2119 ?_
      refine wp_if_eq (M := mL_law) (pc := 2120) (tgt := 2125) dL_law_2120 rfl (fun c2120 => ?_) (fun c2120 => ?_)
      · refine wp_goto (M := mL_law) (pc := 2125) (tgt := 2240) dL_law_2125 rfl ?_
        exact k X1 h2 _ _ (W1.ow O2 M1.kMe) M2 (by rw [O2.1]; exact o1) (gd_simulate hG hK R1)
      · exact absurd (by rw [O2.2.2.1, g1 c2110, e2 c2110]; exact lcmp_0 _) c2120
  · exact absurd z2 c2103
set_option maxHeartbeats 4000000 in
set_option maxRecDepth 100000 in
theorem ls_save {x m out : Nat} {ad : Nat → Nat} {X : Abs} {K i n : Nat} {x5 x6 : Option Value} (H : WC h x X) (HM : WM h m ad X) (ho : kd h out = some (.inr (2, 1))) (hG : GX K X) (hK : K ≤ 30000) (hi : i + 5 ≤ E.2.1) (hE : E.2.1 ≤ 2560)  (k : ∀ X' h' y5 y6, WC h' x X' → WM h' m ad X' → kd h' out = some (.inr (2, 1)) → GX (K + 50) X' → WPx E mL_law 2240 [some (.ref E.1), some (.ref x), some (.ref m), some (.ref out), some (.int (nI i)), y5, y6] [] (36 * n, 510 * n) h' Q) : WPx E mL_law 2128 [some (.ref E.1), some (.ref x), some (.ref m), some (.ref out), some (.int (nI i)), x5, x6] [] (36 * (n + 1), 510 * (n + 1)) h Q := by
  refine wp_aload_n (M := mL_law) (pc := 2128) dL_law_2128 rfl ?_
  refine wp_aload_n (M := mL_law) (pc := 2129) dL_law_2129 rfl ?_
  refine wp_iload (M := mL_law) (pc := 2130) dL_law_2130 rfl ?_
  refine wp_iconst (M := mL_law) (pc := 2132) (v := 1) dL_law_2132 ci_1 ?_
  refine wp_iadd (M := mL_law) (pc := 2133) dL_law_2133 ?_
  refine wr_sld (M := mL_law) (pc := 2134) dL_law_2134 (ia rfl (show (1 : Int32) = nI 1 from rfl)) (by omega) (by omega) ?_
  refine wp_aload_n (M := mL_law) (pc := 2135) dL_law_2135 rfl ?_
  refine so_SWA3 (M := mL_law) (pc := 2136) (36 * n, 510 * n) cs_L_law_229 rfl (LE rfl) (LE rfl) (by show 34 + 36 * n ≤ 36 * (n + 1); omega) (by show 498 + 510 * n ≤ 510 * (n + 1); omega) dL_law_2136 ?_
  refine hp_save H HM ho hG hK (fun c1 a1 X1 h1 R1 W1 M1 o1 g1 => ?_)
  refine kI ?_
  refine so_istore (M := mL_law) (pc := 2139) (lo' := [_, _, _, _, _, _, _]) dL_law_2139 (LE rfl) (LE rfl) (Or.inr rfl) rfl ?_
  refine wp_aload_n (M := mL_law) (pc := 2141) dL_law_2141 rfl ?_
  refine wp_aload_n (M := mL_law) (pc := 2142) dL_law_2142 rfl ?_
  refine wp_iload (M := mL_law) (pc := 2143) dL_law_2143 rfl ?_
  refine wp_iconst (M := mL_law) (pc := 2145) (v := 1) dL_law_2145 ci_1 ?_
  refine wp_iadd (M := mL_law) (pc := 2146) dL_law_2146 ?_
  refine wr_sld (M := mL_law) (pc := 2147) dL_law_2147 (ia rfl (show (1 : Int32) = nI 1 from rfl)) (by omega) (by omega) ?_
  refine so_V1 (M := mL_law) (pc := 2148) cs_L_law_231 rfl rfl (LE rfl) (LE rfl) dL_law_2148 M1.kMe ?_
  refine md_save M1 hG hK R1 (fun h2 b2 M2 z2 O2 e2 => ?_)
  refine kI ?_
  refine so_istore (M := mL_law) (pc := 2151) (lo' := [_, _, _, _, _, _, _]) dL_law_2151 (LE rfl) (LE rfl) (Or.inr rfl) rfl ?_
  refine wp_aload_n (M := mL_law) (pc := 2153) dL_law_2153 rfl ?_
  refine so_V0 (M := mL_law) (pc := 2154) cs_L_law_123 rfl rfl (LE rfl) (LE rfl) dL_law_2154 M2.kMe ?_
  refine sp_X7_thrown M2.kMe ?_
  refine kI ?_
  refine wp_iload (M := mL_law) (pc := 2157) dL_law_2157 rfl ?_
  refine wp_icmp_eq (M := mL_law) (pc := 2159) (tgt := 2164) dL_law_2159 rfl (fun c2159 => ?_) (fun c2159 => ?_)
  · refine wp_iload (M := mL_law) (pc := 2164) dL_law_2164 rfl ?_
    refine wp_if_ne (M := mL_law) (pc := 2166) (tgt := 2181) dL_law_2166 rfl (fun c2166 => ?_) (fun c2166 => ?_)
    · refine wp_goto (M := mL_law) (pc := 2181) (tgt := 2240) dL_law_2181 rfl ?_
      exact k X1 h2 _ _ (W1.ow O2 M1.kMe) M2 (by rw [O2.1]; exact o1) (gd_save hG hK R1)
    · refine wp_aload_n (M := mL_law) (pc := 2169) dL_law_2169 rfl ?_
      refine wp_iconst (M := mL_law) (pc := 2170) (v := 0) dL_law_2170 ci_0 ?_
      refine wr_laload (M := mL_law) (pc := 2171) dL_law_2171 (by rw [O2.1]; exact o1 : kd h2 out = some (.inr (2, 1))) (show (0 : Int32) = nI 0 from rfl) (by decide) (by decide) ?_
      refine wp_iload (M := mL_law) (pc := 2172) dL_law_2172 rfl ?_
      refine wp_i2l (M := mL_law) (pc := 2174) dL_law_2174 ?_
      refine wp_lcmp (M := mL_law) (pc := 2175) dL_law_2175 ?_
      refine wp_if_eq (M := mL_law) (pc := 2176) (tgt := 2181) dL_law_2176 rfl (fun c2176 => ?_) (fun c2176 => ?_)
      · refine wp_goto (M := mL_law) (pc := 2181) (tgt := 2240) dL_law_2181 rfl ?_
        exact k X1 h2 _ _ (W1.ow O2 M1.kMe) M2 (by rw [O2.1]; exact o1) (gd_save hG hK R1)
      · exact absurd (by rw [O2.2.2.1, g1 c2166, e2 c2166]; exact lcmp_0 _) c2176
  · exact absurd z2 c2159
set_option maxHeartbeats 4000000 in
set_option maxRecDepth 100000 in
theorem ls_restore {x m out : Nat} {ad : Nat → Nat} {X : Abs} {K i n : Nat} {x5 x6 : Option Value} (H : WC h x X) (HM : WM h m ad X) (ho : kd h out = some (.inr (2, 1))) (hG : GX K X) (hK : K ≤ 30000) (hi : i + 5 ≤ E.2.1) (hE : E.2.1 ≤ 2560)  (k : ∀ X' h' y5 y6, WC h' x X' → WM h' m ad X' → kd h' out = some (.inr (2, 1)) → GX (K + 50) X' → WPx E mL_law 2240 [some (.ref E.1), some (.ref x), some (.ref m), some (.ref out), some (.int (nI i)), y5, y6] [] (36 * n, 510 * n) h' Q) : WPx E mL_law 2184 [some (.ref E.1), some (.ref x), some (.ref m), some (.ref out), some (.int (nI i)), x5, x6] [] (36 * (n + 1), 510 * (n + 1)) h Q := by
  refine wp_aload_n (M := mL_law) (pc := 2184) dL_law_2184 rfl ?_
  refine wp_aload_n (M := mL_law) (pc := 2185) dL_law_2185 rfl ?_
  refine wp_iload (M := mL_law) (pc := 2186) dL_law_2186 rfl ?_
  refine wp_iconst (M := mL_law) (pc := 2188) (v := 1) dL_law_2188 ci_1 ?_
  refine wp_iadd (M := mL_law) (pc := 2189) dL_law_2189 ?_
  refine wr_sld (M := mL_law) (pc := 2190) dL_law_2190 (ia rfl (show (1 : Int32) = nI 1 from rfl)) (by omega) (by omega) ?_
  refine wp_aload_n (M := mL_law) (pc := 2191) dL_law_2191 rfl ?_
  refine so_SWA3 (M := mL_law) (pc := 2192) (36 * n, 510 * n) cs_L_law_232 rfl (LE rfl) (LE rfl) (by show 2 + 36 * n ≤ 36 * (n + 1); omega) (by show 12 + 510 * n ≤ 510 * (n + 1); omega) dL_law_2192 ?_
  refine hp_restore H HM ho hG hK (fun c1 a1 X1 h1 R1 W1 M1 o1 g1 => ?_)
  refine kI ?_
  refine so_istore (M := mL_law) (pc := 2195) (lo' := [_, _, _, _, _, _, _]) dL_law_2195 (LE rfl) (LE rfl) (Or.inr rfl) rfl ?_
  refine wp_aload_n (M := mL_law) (pc := 2197) dL_law_2197 rfl ?_
  refine wp_aload_n (M := mL_law) (pc := 2198) dL_law_2198 rfl ?_
  refine wp_iload (M := mL_law) (pc := 2199) dL_law_2199 rfl ?_
  refine wp_iconst (M := mL_law) (pc := 2201) (v := 1) dL_law_2201 ci_1 ?_
  refine wp_iadd (M := mL_law) (pc := 2202) dL_law_2202 ?_
  refine wr_sld (M := mL_law) (pc := 2203) dL_law_2203 (ia rfl (show (1 : Int32) = nI 1 from rfl)) (by omega) (by omega) ?_
  refine so_V1 (M := mL_law) (pc := 2204) cs_L_law_234 rfl rfl (LE rfl) (LE rfl) dL_law_2204 M1.kMe ?_
  refine md_restore M1 hG hK R1 (fun h2 b2 M2 z2 O2 e2 => ?_)
  refine kI ?_
  refine so_istore (M := mL_law) (pc := 2207) (lo' := [_, _, _, _, _, _, _]) dL_law_2207 (LE rfl) (LE rfl) (Or.inr rfl) rfl ?_
  refine wp_aload_n (M := mL_law) (pc := 2209) dL_law_2209 rfl ?_
  refine so_V0 (M := mL_law) (pc := 2210) cs_L_law_123 rfl rfl (LE rfl) (LE rfl) dL_law_2210 M2.kMe ?_
  refine sp_X7_thrown M2.kMe ?_
  refine kI ?_
  refine wp_iload (M := mL_law) (pc := 2213) dL_law_2213 rfl ?_
  refine wp_icmp_eq (M := mL_law) (pc := 2215) (tgt := 2220) dL_law_2215 rfl (fun c2215 => ?_) (fun c2215 => ?_)
  · refine wp_iload (M := mL_law) (pc := 2220) dL_law_2220 rfl ?_
    refine wp_if_ne (M := mL_law) (pc := 2222) (tgt := 2237) dL_law_2222 rfl (fun c2222 => ?_) (fun c2222 => ?_)
    · refine wp_goto (M := mL_law) (pc := 2237) (tgt := 2240) dL_law_2237 rfl ?_
      exact k X1 h2 _ _ (W1.ow O2 M1.kMe) M2 (by rw [O2.1]; exact o1) (gd_restore hG hK R1)
    · refine wp_aload_n (M := mL_law) (pc := 2225) dL_law_2225 rfl ?_
      refine wp_iconst (M := mL_law) (pc := 2226) (v := 0) dL_law_2226 ci_0 ?_
      refine wr_laload (M := mL_law) (pc := 2227) dL_law_2227 (by rw [O2.1]; exact o1 : kd h2 out = some (.inr (2, 1))) (show (0 : Int32) = nI 0 from rfl) (by decide) (by decide) ?_
      refine wp_iload (M := mL_law) (pc := 2228) dL_law_2228 rfl ?_
      refine wp_i2l (M := mL_law) (pc := 2230) dL_law_2230 ?_
      refine wp_lcmp (M := mL_law) (pc := 2231) dL_law_2231 ?_
      refine wp_if_eq (M := mL_law) (pc := 2232) (tgt := 2237) dL_law_2232 rfl (fun c2232 => ?_) (fun c2232 => ?_)
      · refine wp_goto (M := mL_law) (pc := 2237) (tgt := 2240) dL_law_2237 rfl ?_
        exact k X1 h2 _ _ (W1.ow O2 M1.kMe) M2 (by rw [O2.1]; exact o1) (gd_restore hG hK R1)
      · exact absurd (by rw [O2.2.2.1, g1 c2222, e2 c2222]; exact lcmp_0 _) c2232
  · exact absurd z2 c2215
end SP
