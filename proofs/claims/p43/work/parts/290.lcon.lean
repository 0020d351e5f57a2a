set_option maxHeartbeats 4000000 in
set_option maxRecDepth 100000 in
theorem law_0 {p : Program} {e : Env} {s : State} {m : MethodId} {below : List Frame} {meth : Method} {c : Code} (l : Launch) {b L : Nat} {xs : Nat → Int32} (hL : L ≤ 3072) (C0 : lw_At p s m meth c b L xs) (dC : Nat → ClassId) (dI : Nat → Nat → Nat) (adK adV : Nat) (fS : Nat → Int32) (hZ : ZS adK adV fS (fun q : Nat => s.heap.size ≤ q) s s.heap) {aX aM : Nat} {i : Int32} (hi0 : 0 ≤ i.toInt) (hi1 : i.toInt + 6 ≤ (L : Int)) {H : Heap} {locs : List Loc} (hI : LI dC dI s aX aM H locs) {ls : Array Slot} (hl : lv_has ls 4 [(3, .int i), (2, .ref aM), (1, .ref aX), (0, .ref b)]) (kk : ∀ (H1 : Heap) (locs1 : List Loc) (ls1 : Array Slot), LI dC dI s aX aM H1 locs1 → lv_has ls1 4 [(3, .int i), (2, .ref aM), (1, .ref aX), (0, .ref b)] → W p l e room_1 s m #[Value.ref b] below meth c H1 locs1 103 20190 (lw_Z below #[Value.ref b] s) (F0 m 1540 ls1 [])) : W p l e room_1 s m #[Value.ref b] below meth c H locs 103 20190 (lw_Z below #[Value.ref b] s) (F0 m 240 ls []) := by
  obtain ⟨hx, hb, hr, hml, hown, hts, hX, hbl, hlocks, hgv⟩ := id C0
  have hown : s.vm.findClass RL = some m.cls := hown
  have hG : ∀ w ∈ GW, w.before _ s = true := fun w h => hts w (List.mem_filter.mp h).1
  have hA : ∀ q : Nat, s.heap.size ≤ q → (fun q : Nat => s.heap.size ≤ q) q := fun _ h => h
  have hbA : ¬ (fun q : Nat => s.heap.size ≤ q) b := Nat.not_le.mpr hbl
  obtain ⟨xr, xt, xi, xa, xJ, xL, mr, mt, mi, ma, mJ, mL, hrX, hrM, hKX, hKM, hPX, hPM, hDX, hDM, hdj, hS, hIX, hWB, hRB, hBB, hIM, htm⟩ := hI
  refine lv_aload_n hx hb dL_law_240 rfl (lv_at hl 2 rfl) ?_
  refine W.eq (g2 := F0 m 241 ls [.ref (xr 0)]) (by rw [hrX]) ?_
  refine lv_aload_n hx hb dL_law_241 rfl (lv_at hl 3 rfl) ?_
  refine lv_iload_n hx hb dL_law_242 rfl (lv_at hl 0 rfl) ?_
  refine lv_iconst (v := 1) hx hb dL_law_243 (by decide) ?_
  refine lv_iadd hx hb dL_law_244 ?_
  refine lv_topi (fun x1 ex1 => ?_)
  refine va_sld hx hb hX hbl hbA hS (sidx ex1 hi0 hi1 hL (by decide) (by decide)) dL_law_245 ?_
  refine lv_topi (fun x2 ex2 => ?_)
  refine lv_aload_n hx hb dL_law_246 rfl (lv_at hl 3 rfl) ?_
  refine lv_iload_n hx hb dL_law_247 rfl (lv_at hl 0 rfl) ?_
  refine lv_iconst (v := 2) hx hb dL_law_248 (by decide) ?_
  refine lv_iadd hx hb dL_law_249 ?_
  refine lv_topi (fun x3 ex3 => ?_)
  refine va_sld hx hb hX hbl hbA hS (sidx ex3 hi0 hi1 hL (by decide) (by decide)) dL_law_250 ?_
  refine lv_topi (fun x4 ex4 => ?_)
  refine lv_aload_n hx hb dL_law_251 rfl (lv_at hl 3 rfl) ?_
  refine lv_iload_n hx hb dL_law_252 rfl (lv_at hl 0 rfl) ?_
  refine lv_iconst (v := 3) hx hb dL_law_253 (by decide) ?_
  refine lv_iadd hx hb dL_law_254 ?_
  refine lv_topi (fun x5 ex5 => ?_)
  refine va_sld hx hb hX hbl hbA hS (sidx ex5 hi0 hi1 hL (by decide) (by decide)) dL_law_255 ?_
  refine lv_topi (fun x6 ex6 => ?_)
  refine lv_aload_n hx hb dL_law_256 rfl (lv_at hl 3 rfl) ?_
  refine lv_iload_n hx hb dL_law_257 rfl (lv_at hl 0 rfl) ?_
  refine lv_iconst (v := 4) hx hb dL_law_258 (by decide) ?_
  refine lv_iadd hx hb dL_law_259 ?_
  refine lv_topi (fun x7 ex7 => ?_)
  refine va_sld hx hb hX hbl hbA hS (sidx ex7 hi0 hi1 hL (by decide) (by decide)) dL_law_260 ?_
  refine lv_topi (fun x8 ex8 => ?_)
  refine lv_aload_n hx hb dL_law_261 rfl (lv_at hl 3 rfl) ?_
  refine lv_iload_n hx hb dL_law_262 rfl (lv_at hl 0 rfl) ?_
  refine lv_iconst (v := 5) hx hb dL_law_263 (by decide) ?_
  refine lv_iadd hx hb dL_law_264 ?_
  refine lv_topi (fun x9 ex9 => ?_)
  refine va_sld hx hb hX hbl hbA hS (sidx ex9 hi0 hi1 hL (by decide) (by decide)) dL_law_265 ?_
  refine lv_topi (fun x10 ex10 => ?_)
  have hFc := frA hDX hS hA
  refine va_calli (va_runV (As := [.int x2, .int x4, .int x6, .int x8, .int x10]) (rest := []) ⟨hx, hb, hml, hown, hG⟩ (kX8_feed l dC dI xr xt (xi 0) (xi 1) (xi 2) (xi 3) (xi 4) (xi 5) (xi 6) (xi 7) (xi 8) (xi 9) (xi 10) (xi 11) (xi 12) (xi 13) (xi 14) (xi 15) (xi 16) (xa 0) (xa 1) (xa 2) (xa 3) (xa 4) (xa 5) (xa 6) (xa 7) (xa 8) (xa 9) (xa 10) (xa 11) (xa 12) (xa 13) (xa 14) xJ xL x2 x4 x6 x8 x10 H.size hIX) (cwV 5 hG (goodV gw517 gw518 gw519 gw129 gw520) rfl rfl rfl hd_X8_feed ⟨(Nat.le_of_ble_eq_true rfl), (Nat.le_of_ble_eq_true rfl)⟩) ⟨fbW, va_recv hKX hPX (ci := 7) (q0 := 0) rfl rfl, pW_in hPX hKX hDX⟩ rfl rfl hl.1 rfl (lv_room (Nat.le_of_ble_eq_true rfl)) dL_law_266 ⟨(Nat.le_of_ble_eq_true rfl), (Nat.le_of_ble_eq_true rfl)⟩) hS (fun q _ h => hFc q h) hFc (fun r_12 u_ t_ H11 locs ht hvm hw hB hz1 hk1 hS => ?_)
  subst hw
  obtain ⟨n13, n14, hP1, hD1, hIX⟩ := hB
  rw [ht] at hP1
  obtain ⟨hPM, hdj⟩ := mvO hPM hdj (fun k q hk => hD1.2 k q hk) hk1
  have hPX := hP1
  have hDX := dW hFc hD1
  refine lv_pop hx hb dL_law_269 rfl ?_
  refine lv_aload_n hx hb dL_law_270 rfl (lv_at hl 1 rfl) ?_
  refine W.eq (g2 := F0 m 271 ls [.ref (mr 0)]) (by rw [hrM]) ?_
  refine lv_aload_n hx hb dL_law_271 rfl (lv_at hl 3 rfl) ?_
  refine lv_iload_n hx hb dL_law_272 rfl (lv_at hl 0 rfl) ?_
  refine lv_iconst (v := 1) hx hb dL_law_273 (by decide) ?_
  refine lv_iadd hx hb dL_law_274 ?_
  refine lv_topi (fun x15 ex15 => ?_)
  refine va_sld hx hb hX hbl hbA hS (sidx ex15 hi0 hi1 hL (by decide) (by decide)) dL_law_275 ?_
  refine lv_topi (fun x16 ex16 => ?_)
  refine lv_aload_n hx hb dL_law_276 rfl (lv_at hl 3 rfl) ?_
  refine lv_iload_n hx hb dL_law_277 rfl (lv_at hl 0 rfl) ?_
  refine lv_iconst (v := 2) hx hb dL_law_278 (by decide) ?_
  refine lv_iadd hx hb dL_law_279 ?_
  refine lv_topi (fun x17 ex17 => ?_)
  refine va_sld hx hb hX hbl hbA hS (sidx ex17 hi0 hi1 hL (by decide) (by decide)) dL_law_280 ?_
  refine lv_topi (fun x18 ex18 => ?_)
  refine lv_aload_n hx hb dL_law_281 rfl (lv_at hl 3 rfl) ?_
  refine lv_iload_n hx hb dL_law_282 rfl (lv_at hl 0 rfl) ?_
  refine lv_iconst (v := 3) hx hb dL_law_283 (by decide) ?_
  refine lv_iadd hx hb dL_law_284 ?_
  refine lv_topi (fun x19 ex19 => ?_)
  refine va_sld hx hb hX hbl hbA hS (sidx ex19 hi0 hi1 hL (by decide) (by decide)) dL_law_285 ?_
  refine lv_topi (fun x20 ex20 => ?_)
  refine lv_aload_n hx hb dL_law_286 rfl (lv_at hl 3 rfl) ?_
  refine lv_iload_n hx hb dL_law_287 rfl (lv_at hl 0 rfl) ?_
  refine lv_iconst (v := 4) hx hb dL_law_288 (by decide) ?_
  refine lv_iadd hx hb dL_law_289 ?_
  refine lv_topi (fun x21 ex21 => ?_)
  refine va_sld hx hb hX hbl hbA hS (sidx ex21 hi0 hi1 hL (by decide) (by decide)) dL_law_290 ?_
  refine lv_topi (fun x22 ex22 => ?_)
  refine lv_aload_n hx hb dL_law_291 rfl (lv_at hl 3 rfl) ?_
  refine lv_iload_n hx hb dL_law_292 rfl (lv_at hl 0 rfl) ?_
  refine lv_iconst (v := 5) hx hb dL_law_293 (by decide) ?_
  refine lv_iadd hx hb dL_law_294 ?_
  refine lv_topi (fun x23 ex23 => ?_)
  refine va_sld hx hb hX hbl hbA hS (sidx ex23 hi0 hi1 hL (by decide) (by decide)) dL_law_295 ?_
  refine lv_topi (fun x24 ex24 => ?_)
  have hFc := frA hDM hS hA
  refine va_calli (va_runV (As := [.int x16, .int x18, .int x20, .int x22, .int x24]) (rest := []) ⟨hx, hb, hml, hown, hG⟩ (kX9_feed l dC dI mr mt (mi 0) (mi 1) (mi 2) (mi 3) (mi 4) (mi 5) (mi 6) (mi 7) (mi 8) (mi 9) (mi 10) (mi 11) (mi 12) (mi 13) (mi 14) (mi 15) (mi 16) (mi 17) (mi 18) (mi 19) (ma 0) (ma 1) (ma 2) (ma 3) (ma 4) (ma 5) (ma 6) (ma 7) (ma 8) (ma 9) (ma 10) (ma 11) (ma 12) (ma 13) (ma 14) (ma 15) mJ mL x16 x18 x20 x22 x24 H11.size hIM) (cwV 5 hG (goodV gw1881 gw1882 gw1883 gw138 gw1884) rfl rfl rfl hd_X9_feed ⟨(Nat.le_of_ble_eq_true rfl), (Nat.le_of_ble_eq_true rfl)⟩) ⟨fbW, va_recv hKM hPM (ci := 8) (q0 := 0) rfl rfl, pW_in hPM hKM hDM⟩ rfl rfl hl.1 rfl (lv_room (Nat.le_of_ble_eq_true rfl)) dL_law_296 ⟨(Nat.le_of_ble_eq_true rfl), (Nat.le_of_ble_eq_true rfl)⟩) hS (fun q _ h => hFc q h) hFc (fun r_26 u_ t_ H25 locs ht hvm hw hB hz1 hk1 hS => ?_)
  subst hw
  obtain ⟨n27, n28, hP1, hD1, hIM⟩ := hB
  rw [ht] at hP1
  obtain ⟨hPX, hdj⟩ := mvO hPX (dj_sym hdj) (fun k q hk => hD1.2 k q hk) hk1
  have hdj := dj_sym hdj
  have hPM := hP1
  have hDM := dW hFc hD1
  refine lv_pop hx hb dL_law_299 rfl ?_
  refine lv_goto (tgt := 1540) hx hb dL_law_300 (by decide) ?_
  exact kk H25 _ _ ⟨xr, xt, (fun k => ([n13, (xi 1), (xi 2), (xi 3), (xi 4), (xi 5), (xi 6), (xi 7), (xi 8), (xi 9), (xi 10), (xi 11), (xi 12), (xi 13), (xi 14), (xi 15), (xi 16)] : List Int32).getD k 0), xa, n14, xL, mr, mt, (fun k => ([n27, (mi 1), (mi 2), (mi 3), (mi 4), (mi 5), (mi 6), (mi 7), (mi 8), (mi 9), (mi 10), (mi 11), (mi 12), (mi 13), (mi 14), (mi 15), (mi 16), (mi 17), (mi 18), (mi 19)] : List Int32).getD k 0), ma, n28, mL, hrX, hrM, hKX, hKM, hPX, hPM, hDX, hDM, hdj, hS, hIX, hWB, hRB, hBB, hIM, htm⟩ hl
set_option maxHeartbeats 4000000 in
set_option maxRecDepth 100000 in
theorem law_1 {p : Program} {e : Env} {s : State} {m : MethodId} {below : List Frame} {meth : Method} {c : Code} (l : Launch) {b L : Nat} {xs : Nat → Int32} (hL : L ≤ 3072) (C0 : lw_At p s m meth c b L xs) (dC : Nat → ClassId) (dI : Nat → Nat → Nat) (adK adV : Nat) (fS : Nat → Int32) (hZ : ZS adK adV fS (fun q : Nat => s.heap.size ≤ q) s s.heap) {aX aM : Nat} {i : Int32} (hi0 : 0 ≤ i.toInt) (hi1 : i.toInt + 6 ≤ (L : Int)) {H : Heap} {locs : List Loc} (hI : LI dC dI s aX aM H locs) {ls : Array Slot} (hl : lv_has ls 4 [(3, .int i), (2, .ref aM), (1, .ref aX), (0, .ref b)]) (kk : ∀ (H1 : Heap) (locs1 : List Loc) (ls1 : Array Slot), LI dC dI s aX aM H1 locs1 → lv_has ls1 4 [(3, .int i), (2, .ref aM), (1, .ref aX), (0, .ref b)] → W p l e room_1 s m #[Value.ref b] below meth c H1 locs1 103 20190 (lw_Z below #[Value.ref b] s) (F0 m 1540 ls1 [])) : W p l e room_1 s m #[Value.ref b] below meth c H locs 103 20190 (lw_Z below #[Value.ref b] s) (F0 m 303 ls []) := by
  obtain ⟨hx, hb, hr, hml, hown, hts, hX, hbl, hlocks, hgv⟩ := id C0
  have hown : s.vm.findClass RL = some m.cls := hown
  have hG : ∀ w ∈ GW, w.before _ s = true := fun w h => hts w (List.mem_filter.mp h).1
  have hA : ∀ q : Nat, s.heap.size ≤ q → (fun q : Nat => s.heap.size ≤ q) q := fun _ h => h
  have hbA : ¬ (fun q : Nat => s.heap.size ≤ q) b := Nat.not_le.mpr hbl
  obtain ⟨xr, xt, xi, xa, xJ, xL, mr, mt, mi, ma, mJ, mL, hrX, hrM, hKX, hKM, hPX, hPM, hDX, hDM, hdj, hS, hIX, hWB, hRB, hBB, hIM, htm⟩ := hI
  refine lv_aload_n hx hb dL_law_303 rfl (lv_at hl 2 rfl) ?_
  refine W.eq (g2 := F0 m 304 ls [.ref (xr 0)]) (by rw [hrX]) ?_
  refine lv_aload_n hx hb dL_law_304 rfl (lv_at hl 3 rfl) ?_
  refine lv_iload_n hx hb dL_law_305 rfl (lv_at hl 0 rfl) ?_
  refine lv_iconst (v := 1) hx hb dL_law_306 (by decide) ?_
  refine lv_iadd hx hb dL_law_307 ?_
  refine lv_topi (fun x1 ex1 => ?_)
  refine va_sld hx hb hX hbl hbA hS (sidx ex1 hi0 hi1 hL (by decide) (by decide)) dL_law_308 ?_
  refine lv_topi (fun x2 ex2 => ?_)
  have hFc := frA hDX hS hA
  refine va_calli (va_runV (As := [.int x2]) (rest := []) ⟨hx, hb, hml, hown, hG⟩ (kX8_end l dC dI xr xt (xi 0) (xi 1) (xi 2) (xi 3) (xi 4) (xi 5) (xi 6) (xi 7) (xi 8) (xi 9) (xi 10) (xi 11) (xi 12) (xi 13) (xi 14) (xi 15) (xi 16) (xa 0) (xa 1) (xa 2) (xa 3) (xa 4) (xa 5) (xa 6) (xa 7) (xa 8) (xa 9) (xa 10) (xa 11) (xa 12) (xa 13) (xa 14) xJ xL x2 H.size hIX) (cwV 1 hG (goodV gw525 gw526 gw527 gw129 gw528) rfl rfl rfl hd_X8_end ⟨(Nat.le_of_ble_eq_true rfl), (Nat.le_of_ble_eq_true rfl)⟩) ⟨fbW, va_recv hKX hPX (ci := 7) (q0 := 0) rfl rfl, pW_in hPX hKX hDX⟩ rfl rfl hl.1 rfl (lv_room (Nat.le_of_ble_eq_true rfl)) dL_law_309 ⟨(Nat.le_of_ble_eq_true rfl), (Nat.le_of_ble_eq_true rfl)⟩) hS (fun q _ h => hFc q h) hFc (fun r_4 u_ t_ H3 locs ht hvm hw hB hz1 hk1 hS => ?_)
  subst hw
  obtain ⟨n5, hP1, hD1, hIX⟩ := hB
  rw [ht] at hP1
  obtain ⟨hPM, hdj⟩ := mvO hPM hdj (fun k q hk => hD1.2 k q hk) hk1
  have hPX := hP1
  have hDX := dW hFc hD1
  refine lv_pop hx hb dL_law_312 rfl ?_
  refine lv_aload_n hx hb dL_law_313 rfl (lv_at hl 1 rfl) ?_
  refine W.eq (g2 := F0 m 314 ls [.ref (mr 0)]) (by rw [hrM]) ?_
  refine lv_aload_n hx hb dL_law_314 rfl (lv_at hl 3 rfl) ?_
  refine lv_iload_n hx hb dL_law_315 rfl (lv_at hl 0 rfl) ?_
  refine lv_iconst (v := 1) hx hb dL_law_316 (by decide) ?_
  refine lv_iadd hx hb dL_law_317 ?_
  refine lv_topi (fun x6 ex6 => ?_)
  refine va_sld hx hb hX hbl hbA hS (sidx ex6 hi0 hi1 hL (by decide) (by decide)) dL_law_318 ?_
  refine lv_topi (fun x7 ex7 => ?_)
  have hFc := frA hDM hS hA
  refine va_calli (va_runV (As := [.int x7]) (rest := []) ⟨hx, hb, hml, hown, hG⟩ (kX9_end l dC dI mr mt (mi 0) (mi 1) (mi 2) (mi 3) (mi 4) (mi 5) (mi 6) (mi 7) (mi 8) (mi 9) (mi 10) (mi 11) (mi 12) (mi 13) (mi 14) (mi 15) (mi 16) (mi 17) (mi 18) (mi 19) (ma 0) (ma 1) (ma 2) (ma 3) (ma 4) (ma 5) (ma 6) (ma 7) (ma 8) (ma 9) (ma 10) (ma 11) (ma 12) (ma 13) (ma 14) (ma 15) mJ mL x7 H3.size hIM) (cwV 1 hG (goodV gw1885 gw1886 gw1887 gw138 gw1888) rfl rfl rfl hd_X9_end ⟨(Nat.le_of_ble_eq_true rfl), (Nat.le_of_ble_eq_true rfl)⟩) ⟨fbW, va_recv hKM hPM (ci := 8) (q0 := 0) rfl rfl, pW_in hPM hKM hDM⟩ rfl rfl hl.1 rfl (lv_room (Nat.le_of_ble_eq_true rfl)) dL_law_319 ⟨(Nat.le_of_ble_eq_true rfl), (Nat.le_of_ble_eq_true rfl)⟩) hS (fun q _ h => hFc q h) hFc (fun r_9 u_ t_ H8 locs ht hvm hw hB hz1 hk1 hS => ?_)
  subst hw
  obtain ⟨n10, hP1, hD1, hIM⟩ := hB
  rw [ht] at hP1
  obtain ⟨hPX, hdj⟩ := mvO hPX (dj_sym hdj) (fun k q hk => hD1.2 k q hk) hk1
  have hdj := dj_sym hdj
  have hPM := hP1
  have hDM := dW hFc hD1
  refine lv_pop hx hb dL_law_322 rfl ?_
  refine lv_goto (tgt := 1540) hx hb dL_law_323 (by decide) ?_
  exact kk H8 _ _ ⟨xr, xt, (fun k => ([n5, (xi 1), (xi 2), (xi 3), (xi 4), (xi 5), (xi 6), (xi 7), (xi 8), (xi 9), (xi 10), (xi 11), (xi 12), (xi 13), (xi 14), (xi 15), (xi 16)] : List Int32).getD k 0), xa, xJ, xL, mr, mt, (fun k => ([n10, (mi 1), (mi 2), (mi 3), (mi 4), (mi 5), (mi 6), (mi 7), (mi 8), (mi 9), (mi 10), (mi 11), (mi 12), (mi 13), (mi 14), (mi 15), (mi 16), (mi 17), (mi 18), (mi 19)] : List Int32).getD k 0), ma, mJ, mL, hrX, hrM, hKX, hKM, hPX, hPM, hDX, hDM, hdj, hS, hIX, hWB, hRB, hBB, hIM, htm⟩ hl
set_option maxHeartbeats 4000000 in
set_option maxRecDepth 100000 in
theorem law_2 {p : Program} {e : Env} {s : State} {m : MethodId} {below : List Frame} {meth : Method} {c : Code} (l : Launch) {b L : Nat} {xs : Nat → Int32} (hL : L ≤ 3072) (C0 : lw_At p s m meth c b L xs) (dC : Nat → ClassId) (dI : Nat → Nat → Nat) (adK adV : Nat) (fS : Nat → Int32) (hZ : ZS adK adV fS (fun q : Nat => s.heap.size ≤ q) s s.heap) {aX aM : Nat} {i : Int32} (hi0 : 0 ≤ i.toInt) (hi1 : i.toInt + 6 ≤ (L : Int)) {H : Heap} {locs : List Loc} (hI : LI dC dI s aX aM H locs) {ls : Array Slot} (hl : lv_has ls 4 [(3, .int i), (2, .ref aM), (1, .ref aX), (0, .ref b)]) (kk : ∀ (H1 : Heap) (locs1 : List Loc) (ls1 : Array Slot), LI dC dI s aX aM H1 locs1 → lv_has ls1 4 [(3, .int i), (2, .ref aM), (1, .ref aX), (0, .ref b)] → W p l e room_1 s m #[Value.ref b] below meth c H1 locs1 103 20190 (lw_Z below #[Value.ref b] s) (F0 m 1540 ls1 [])) : W p l e room_1 s m #[Value.ref b] below meth c H locs 103 20190 (lw_Z below #[Value.ref b] s) (F0 m 326 ls []) := by
  obtain ⟨hx, hb, hr, hml, hown, hts, hX, hbl, hlocks, hgv⟩ := id C0
  have hown : s.vm.findClass RL = some m.cls := hown
  have hG : ∀ w ∈ GW, w.before _ s = true := fun w h => hts w (List.mem_filter.mp h).1
  have hA : ∀ q : Nat, s.heap.size ≤ q → (fun q : Nat => s.heap.size ≤ q) q := fun _ h => h
  have hbA : ¬ (fun q : Nat => s.heap.size ≤ q) b := Nat.not_le.mpr hbl
  obtain ⟨xr, xt, xi, xa, xJ, xL, mr, mt, mi, ma, mJ, mL, hrX, hrM, hKX, hKM, hPX, hPM, hDX, hDM, hdj, hS, hIX, hWB, hRB, hBB, hIM, htm⟩ := hI
  refine lv_aload_n hx hb dL_law_326 rfl (lv_at hl 2 rfl) ?_
  refine W.eq (g2 := F0 m 327 ls [.ref (xr 0)]) (by rw [hrX]) ?_
  have hFc := frA hDX hS hA
  refine va_calli (va_runV (As := []) (rest := []) ⟨hx, hb, hml, hown, hG⟩ (kX8_lane l dC dI xr xt (xi 0) (xi 1) (xi 2) (xi 3) (xi 4) (xi 5) (xi 6) (xi 7) (xi 8) (xi 9) (xi 10) (xi 11) (xi 12) (xi 13) (xi 14) (xi 15) (xi 16) (xa 0) (xa 1) (xa 2) (xa 3) (xa 4) (xa 5) (xa 6) (xa 7) (xa 8) (xa 9) (xa 10) (xa 11) (xa 12) (xa 13) (xa 14) xJ xL adK adV fS H.size hIX hWB hRB hBB) (cwV 0 hG (goodV gw529 gw530 gw531 gw129 gw532) rfl rfl rfl hd_X8_lane ⟨(Nat.le_of_ble_eq_true rfl), (Nat.le_of_ble_eq_true rfl)⟩) ⟨fbS, va_recv hKX hPX (ci := 7) (q0 := 0) rfl rfl, pS_in hPX hKX hDX hZ hS hFc⟩ rfl rfl hl.1 rfl (lv_room (Nat.le_of_ble_eq_true rfl)) dL_law_327 ⟨(Nat.le_of_ble_eq_true rfl), (Nat.le_of_ble_eq_true rfl)⟩) hS (fun q _ h => hFc q h) hFc (fun r_2 u_ t_ H1 locs ht hvm hw hB hz1 hk1 hS => ?_)
  subst hw
  obtain ⟨xr37, xt38, n3, n4, n5, n6, n7, n8, n9, n10, n11, n12, n13, n14, n15, n16, n17, n18, n19, n20, n21, n22, n23, n24, n25, n26, n27, n28, n29, n30, n31, n32, n33, n34, n35, n36, hr2, hc2, hP1, hD1, hIX, hWB, hRB, hBB, htm2⟩ := hB
  rw [ht] at hP1
  obtain ⟨hPM, hdj⟩ := mvO hPM hdj (fun k q hk => hD1.2 k q hk) hk1
  have hPX := hP1
  have hDX := dW hFc hD1
  have hrX := hr2.trans hrX
  have htm := htm2.trans htm
  have hKX : va_K (dC, dI) vwCl (TX xt38) s := by
    rcases hc2 with h | h
    · rw [h]; exact hKX
    · rw [h]; exact hKX.sub [0, 1, 2, 3, 4, 5, 6, 7, 8, 9, 10, 11, 21, 22, 23, 24, 25, 26, 27, 28, 29, 12, 13, 14, 15, 16, 17, 18, 19, 20, 30, 31, 32, 33, 34, 35, 36, 37, 38, 39, 40, 41, 42, 43, 44, 45, 46, 47, 48, 49, 50, 51, 52] rfl
  refine lv_pop hx hb dL_law_330 rfl ?_
  refine lv_aload_n hx hb dL_law_331 rfl (lv_at hl 1 rfl) ?_
  refine W.eq (g2 := F0 m 332 ls [.ref (mr 0)]) (by rw [hrM]) ?_
  have hFc := frA hDM hS hA
  refine va_calli (va_runV (As := []) (rest := []) ⟨hx, hb, hml, hown, hG⟩ (kX9_lane l dC dI mr mt (mi 0) (mi 1) (mi 2) (mi 3) (mi 4) (mi 5) (mi 6) (mi 7) (mi 8) (mi 9) (mi 10) (mi 11) (mi 12) (mi 13) (mi 14) (mi 15) (mi 16) (mi 17) (mi 18) (mi 19) (ma 0) (ma 1) (ma 2) (ma 3) (ma 4) (ma 5) (ma 6) (ma 7) (ma 8) (ma 9) (ma 10) (ma 11) (ma 12) (ma 13) (ma 14) (ma 15) mJ mL H1.size hIM) (cwV 0 hG (goodV gw1358 gw1359 gw1360 gw138 gw1361) rfl rfl rfl hd_X9_lane ⟨(Nat.le_of_ble_eq_true rfl), (Nat.le_of_ble_eq_true rfl)⟩) ⟨fbW, va_recv hKM hPM (ci := 8) (q0 := 0) rfl rfl, pW_in hPM hKM hDM⟩ rfl rfl hl.1 rfl (lv_room (Nat.le_of_ble_eq_true rfl)) dL_law_332 ⟨(Nat.le_of_ble_eq_true rfl), (Nat.le_of_ble_eq_true rfl)⟩) hS (fun q _ h => hFc q h) hFc (fun r_40 u_ t_ H39 locs ht hvm hw hB hz1 hk1 hS => ?_)
  subst hw
  obtain ⟨n41, n42, n43, n44, n45, n46, n47, n48, n49, n50, n51, n52, n53, n54, n55, n56, n57, n58, n59, n60, n61, n62, n63, n64, n65, n66, n67, n68, n69, n70, n71, hP1, hD1, hIM⟩ := hB
  rw [ht] at hP1
  obtain ⟨hPX, hdj⟩ := mvO hPX (dj_sym hdj) (fun k q hk => hD1.2 k q hk) hk1
  have hdj := dj_sym hdj
  have hPM := hP1
  have hDM := dW hFc hD1
  refine lv_pop hx hb dL_law_335 rfl ?_
  refine lv_goto (tgt := 1540) hx hb dL_law_336 (by decide) ?_
  exact kk H39 _ _ ⟨xr37, xt38, (fun k => ([n3, n4, n5, n6, n7, n8, n9, n10, n11, n12, n13, n14, n15, n16, n17, n18, n19] : List Int32).getD k 0), (fun k => ([n20, n21, n22, n23, n24, n25, n26, n27, n28, n29, n30, n31, n32, n33, n34] : List (Nat → Int32)).getD k (fun _ => 0)), n35, n36, mr, mt, (fun k => ([n41, n42, n43, n44, n45, n46, n47, n48, n49, n50, n51, n52, n53, (mi 13), (mi 14), n54, n55, n56, n57, (mi 19)] : List Int32).getD k 0), (fun k => ([n58, n59, n60, n61, n62, n63, n64, n65, n66, n67, n68, n69, (ma 12), (ma 13), (ma 14), (ma 15)] : List (Nat → Int32)).getD k (fun _ => 0)), n70, n71, hrX, hrM, hKX, hKM, hPX, hPM, hDX, hDM, hdj, hS, hIX, hWB, hRB, hBB, hIM, htm⟩ hl
set_option maxHeartbeats 4000000 in
set_option maxRecDepth 100000 in
theorem law_3 {p : Program} {e : Env} {s : State} {m : MethodId} {below : List Frame} {meth : Method} {c : Code} (l : Launch) {b L : Nat} {xs : Nat → Int32} (hL : L ≤ 3072) (C0 : lw_At p s m meth c b L xs) (dC : Nat → ClassId) (dI : Nat → Nat → Nat) (adK adV : Nat) (fS : Nat → Int32) (hZ : ZS adK adV fS (fun q : Nat => s.heap.size ≤ q) s s.heap) {aX aM : Nat} {i : Int32} (hi0 : 0 ≤ i.toInt) (hi1 : i.toInt + 6 ≤ (L : Int)) {H : Heap} {locs : List Loc} (hI : LI dC dI s aX aM H locs) {ls : Array Slot} (hl : lv_has ls 4 [(3, .int i), (2, .ref aM), (1, .ref aX), (0, .ref b)]) (kk : ∀ (H1 : Heap) (locs1 : List Loc) (ls1 : Array Slot), LI dC dI s aX aM H1 locs1 → lv_has ls1 4 [(3, .int i), (2, .ref aM), (1, .ref aX), (0, .ref b)] → W p l e room_1 s m #[Value.ref b] below meth c H1 locs1 103 20190 (lw_Z below #[Value.ref b] s) (F0 m 1540 ls1 [])) : W p l e room_1 s m #[Value.ref b] below meth c H locs 103 20190 (lw_Z below #[Value.ref b] s) (F0 m 339 ls []) := by
  obtain ⟨hx, hb, hr, hml, hown, hts, hX, hbl, hlocks, hgv⟩ := id C0
  have hown : s.vm.findClass RL = some m.cls := hown
  have hG : ∀ w ∈ GW, w.before _ s = true := fun w h => hts w (List.mem_filter.mp h).1
  have hA : ∀ q : Nat, s.heap.size ≤ q → (fun q : Nat => s.heap.size ≤ q) q := fun _ h => h
  have hbA : ¬ (fun q : Nat => s.heap.size ≤ q) b := Nat.not_le.mpr hbl
  obtain ⟨xr, xt, xi, xa, xJ, xL, mr, mt, mi, ma, mJ, mL, hrX, hrM, hKX, hKM, hPX, hPM, hDX, hDM, hdj, hS, hIX, hWB, hRB, hBB, hIM, htm⟩ := hI
  refine lv_aload_n hx hb dL_law_339 rfl (lv_at hl 2 rfl) ?_
  refine W.eq (g2 := F0 m 340 ls [.ref (xr 0)]) (by rw [hrX]) ?_
  refine lv_aload_n hx hb dL_law_340 rfl (lv_at hl 3 rfl) ?_
  refine lv_iload_n hx hb dL_law_341 rfl (lv_at hl 0 rfl) ?_
  refine lv_iconst (v := 1) hx hb dL_law_342 (by decide) ?_
  refine lv_iadd hx hb dL_law_343 ?_
  refine lv_topi (fun x1 ex1 => ?_)
  refine va_sld hx hb hX hbl hbA hS (sidx ex1 hi0 hi1 hL (by decide) (by decide)) dL_law_344 ?_
  refine lv_topi (fun x2 ex2 => ?_)
  refine va_calli (va_runV (As := [.int x2]) (rest := []) ⟨hx, hb, hml, hown, hG⟩ (kX8_fault l dC dI xr xt (xi 0) (xi 1) (xi 2) (xi 3) (xi 4) (xi 5) (xi 6) (xi 7) (xi 8) (xi 9) (xi 10) (xi 11) (xi 12) (xi 13) (xi 14) (xi 15) (xi 16) (xa 0) (xa 1) (xa 2) (xa 3) (xa 4) (xa 5) (xa 6) (xa 7) (xa 8) (xa 9) (xa 10) (xa 11) (xa 12) (xa 13) (xa 14) xJ xL x2 H.size hIX) (cwV 1 hG (goodV gw687 gw688 gw689 gw129 gw690) rfl rfl rfl hd_X8_fault ⟨(Nat.le_of_ble_eq_true rfl), (Nat.le_of_ble_eq_true rfl)⟩) ⟨fbR, va_recv hKX hPX (ci := 7) (q0 := 0) rfl rfl, pR_in hPX hKX⟩ rfl rfl hl.1 rfl (lv_room (Nat.le_of_ble_eq_true rfl)) dL_law_345 ⟨(Nat.le_of_ble_eq_true rfl), (Nat.le_of_ble_eq_true rfl)⟩) hS (fun q hq h => absurd hq (Nat.not_lt.mpr h)) (fun q h => hA q (Nat.le_trans hS.1 h)) (fun r_4 u_ t_ H3 locs ht hvm hw hB hz1 hk1 hS => ?_)
  subst hw
  have hPX := wk hPX hk1
  have hPM := wk hPM hk1
  refine lv_pop hx hb dL_law_348 rfl ?_
  refine lv_aload_n hx hb dL_law_349 rfl (lv_at hl 1 rfl) ?_
  refine W.eq (g2 := F0 m 350 ls [.ref (mr 0)]) (by rw [hrM]) ?_
  refine lv_aload_n hx hb dL_law_350 rfl (lv_at hl 3 rfl) ?_
  refine lv_iload_n hx hb dL_law_351 rfl (lv_at hl 0 rfl) ?_
  refine lv_iconst (v := 1) hx hb dL_law_352 (by decide) ?_
  refine lv_iadd hx hb dL_law_353 ?_
  refine lv_topi (fun x5 ex5 => ?_)
  refine va_sld hx hb hX hbl hbA hS (sidx ex5 hi0 hi1 hL (by decide) (by decide)) dL_law_354 ?_
  refine lv_topi (fun x6 ex6 => ?_)
  refine va_calli (va_runV (As := [.int x6]) (rest := []) ⟨hx, hb, hml, hown, hG⟩ (kX9_fault l dC dI mr mt (mi 0) (mi 1) (mi 2) (mi 3) (mi 4) (mi 5) (mi 6) (mi 7) (mi 8) (mi 9) (mi 10) (mi 11) (mi 12) (mi 13) (mi 14) (mi 15) (mi 16) (mi 17) (mi 18) (mi 19) (ma 0) (ma 1) (ma 2) (ma 3) (ma 4) (ma 5) (ma 6) (ma 7) (ma 8) (ma 9) (ma 10) (ma 11) (ma 12) (ma 13) (ma 14) (ma 15) mJ mL x6 H3.size hIM) (cwV 1 hG (goodV gw1500 gw1501 gw1502 gw138 gw1503) rfl rfl rfl hd_X9_fault ⟨(Nat.le_of_ble_eq_true rfl), (Nat.le_of_ble_eq_true rfl)⟩) ⟨fbR, va_recv hKM hPM (ci := 8) (q0 := 0) rfl rfl, pR_in hPM hKM⟩ rfl rfl hl.1 rfl (lv_room (Nat.le_of_ble_eq_true rfl)) dL_law_355 ⟨(Nat.le_of_ble_eq_true rfl), (Nat.le_of_ble_eq_true rfl)⟩) hS (fun q hq h => absurd hq (Nat.not_lt.mpr h)) (fun q h => hA q (Nat.le_trans hS.1 h)) (fun r_8 u_ t_ H7 locs ht hvm hw hB hz1 hk1 hS => ?_)
  subst hw
  have hPX := wk hPX hk1
  have hPM := wk hPM hk1
  refine lv_pop hx hb dL_law_358 rfl ?_
  refine lv_goto (tgt := 1540) hx hb dL_law_359 (by decide) ?_
  exact kk H7 _ _ ⟨xr, xt, xi, xa, xJ, xL, mr, mt, mi, ma, mJ, mL, hrX, hrM, hKX, hKM, hPX, hPM, hDX, hDM, hdj, hS, hIX, hWB, hRB, hBB, hIM, htm⟩ hl
set_option maxHeartbeats 4000000 in
set_option maxRecDepth 100000 in
theorem law_4 {p : Program} {e : Env} {s : State} {m : MethodId} {below : List Frame} {meth : Method} {c : Code} (l : Launch) {b L : Nat} {xs : Nat → Int32} (hL : L ≤ 3072) (C0 : lw_At p s m meth c b L xs) (dC : Nat → ClassId) (dI : Nat → Nat → Nat) (adK adV : Nat) (fS : Nat → Int32) (hZ : ZS adK adV fS (fun q : Nat => s.heap.size ≤ q) s s.heap) {aX aM : Nat} {i : Int32} (hi0 : 0 ≤ i.toInt) (hi1 : i.toInt + 6 ≤ (L : Int)) {H : Heap} {locs : List Loc} (hI : LI dC dI s aX aM H locs) {ls : Array Slot} (hl : lv_has ls 4 [(3, .int i), (2, .ref aM), (1, .ref aX), (0, .ref b)]) (kk : ∀ (H1 : Heap) (locs1 : List Loc) (ls1 : Array Slot), LI dC dI s aX aM H1 locs1 → lv_has ls1 4 [(3, .int i), (2, .ref aM), (1, .ref aX), (0, .ref b)] → W p l e room_1 s m #[Value.ref b] below meth c H1 locs1 103 20190 (lw_Z below #[Value.ref b] s) (F0 m 1540 ls1 [])) : W p l e room_1 s m #[Value.ref b] below meth c H locs 103 20190 (lw_Z below #[Value.ref b] s) (F0 m 362 ls []) := by
  obtain ⟨hx, hb, hr, hml, hown, hts, hX, hbl, hlocks, hgv⟩ := id C0
  have hown : s.vm.findClass RL = some m.cls := hown
  have hG : ∀ w ∈ GW, w.before _ s = true := fun w h => hts w (List.mem_filter.mp h).1
  have hA : ∀ q : Nat, s.heap.size ≤ q → (fun q : Nat => s.heap.size ≤ q) q := fun _ h => h
  have hbA : ¬ (fun q : Nat => s.heap.size ≤ q) b := Nat.not_le.mpr hbl
  obtain ⟨xr, xt, xi, xa, xJ, xL, mr, mt, mi, ma, mJ, mL, hrX, hrM, hKX, hKM, hPX, hPM, hDX, hDM, hdj, hS, hIX, hWB, hRB, hBB, hIM, htm⟩ := hI
  refine lv_aload_n hx hb dL_law_362 rfl (lv_at hl 2 rfl) ?_
  refine W.eq (g2 := F0 m 363 ls [.ref (xr 0)]) (by rw [hrX]) ?_
  refine lv_aload_n hx hb dL_law_363 rfl (lv_at hl 3 rfl) ?_
  refine lv_iload_n hx hb dL_law_364 rfl (lv_at hl 0 rfl) ?_
  refine lv_iconst (v := 1) hx hb dL_law_365 (by decide) ?_
  refine lv_iadd hx hb dL_law_366 ?_
  refine lv_topi (fun x1 ex1 => ?_)
  refine va_sld hx hb hX hbl hbA hS (sidx ex1 hi0 hi1 hL (by decide) (by decide)) dL_law_367 ?_
  refine lv_topi (fun x2 ex2 => ?_)
  refine lv_aload_n hx hb dL_law_368 rfl (lv_at hl 3 rfl) ?_
  refine lv_iload_n hx hb dL_law_369 rfl (lv_at hl 0 rfl) ?_
  refine lv_iconst (v := 2) hx hb dL_law_370 (by decide) ?_
  refine lv_iadd hx hb dL_law_371 ?_
  refine lv_topi (fun x3 ex3 => ?_)
  refine va_sld hx hb hX hbl hbA hS (sidx ex3 hi0 hi1 hL (by decide) (by decide)) dL_law_372 ?_
  refine lv_topi (fun x4 ex4 => ?_)
  refine va_calli (va_runV (As := [.int x2, .int x4]) (rest := []) ⟨hx, hb, hml, hown, hG⟩ (kX8_tune l dC dI xr xt (xi 0) (xi 1) (xi 2) (xi 3) (xi 4) (xi 5) (xi 6) (xi 7) (xi 8) (xi 9) (xi 10) (xi 11) (xi 12) (xi 13) (xi 14) (xi 15) (xi 16) (xa 0) (xa 1) (xa 2) (xa 3) (xa 4) (xa 5) (xa 6) (xa 7) (xa 8) (xa 9) (xa 10) (xa 11) (xa 12) (xa 13) (xa 14) xJ xL x2 x4 H.size hIX) (cwV 2 hG (goodV gw691 gw692 gw693 gw129 gw694) rfl rfl rfl hd_X8_tune ⟨(Nat.le_of_ble_eq_true rfl), (Nat.le_of_ble_eq_true rfl)⟩) ⟨fbR, va_recv hKX hPX (ci := 7) (q0 := 0) rfl rfl, pR_in hPX hKX⟩ rfl rfl hl.1 rfl (lv_room (Nat.le_of_ble_eq_true rfl)) dL_law_373 ⟨(Nat.le_of_ble_eq_true rfl), (Nat.le_of_ble_eq_true rfl)⟩) hS (fun q hq h => absurd hq (Nat.not_lt.mpr h)) (fun q h => hA q (Nat.le_trans hS.1 h)) (fun r_6 u_ t_ H5 locs ht hvm hw hB hz1 hk1 hS => ?_)
  subst hw
  have hPX := wk hPX hk1
  have hPM := wk hPM hk1
  refine lv_pop hx hb dL_law_376 rfl ?_
  refine lv_aload_n hx hb dL_law_377 rfl (lv_at hl 1 rfl) ?_
  refine W.eq (g2 := F0 m 378 ls [.ref (mr 0)]) (by rw [hrM]) ?_
  refine lv_aload_n hx hb dL_law_378 rfl (lv_at hl 3 rfl) ?_
  refine lv_iload_n hx hb dL_law_379 rfl (lv_at hl 0 rfl) ?_
  refine lv_iconst (v := 1) hx hb dL_law_380 (by decide) ?_
  refine lv_iadd hx hb dL_law_381 ?_
  refine lv_topi (fun x7 ex7 => ?_)
  refine va_sld hx hb hX hbl hbA hS (sidx ex7 hi0 hi1 hL (by decide) (by decide)) dL_law_382 ?_
  refine lv_topi (fun x8 ex8 => ?_)
  refine lv_aload_n hx hb dL_law_383 rfl (lv_at hl 3 rfl) ?_
  refine lv_iload_n hx hb dL_law_384 rfl (lv_at hl 0 rfl) ?_
  refine lv_iconst (v := 2) hx hb dL_law_385 (by decide) ?_
  refine lv_iadd hx hb dL_law_386 ?_
  refine lv_topi (fun x9 ex9 => ?_)
  refine va_sld hx hb hX hbl hbA hS (sidx ex9 hi0 hi1 hL (by decide) (by decide)) dL_law_387 ?_
  refine lv_topi (fun x10 ex10 => ?_)
  refine va_calli (va_runV (As := [.int x8, .int x10]) (rest := []) ⟨hx, hb, hml, hown, hG⟩ (kX9_tune l dC dI mr mt (mi 0) (mi 1) (mi 2) (mi 3) (mi 4) (mi 5) (mi 6) (mi 7) (mi 8) (mi 9) (mi 10) (mi 11) (mi 12) (mi 13) (mi 14) (mi 15) (mi 16) (mi 17) (mi 18) (mi 19) (ma 0) (ma 1) (ma 2) (ma 3) (ma 4) (ma 5) (ma 6) (ma 7) (ma 8) (ma 9) (ma 10) (ma 11) (ma 12) (ma 13) (ma 14) (ma 15) mJ mL x8 x10 H5.size hIM) (cwV 2 hG (goodV gw1504 gw1505 gw1506 gw138 gw1507) rfl rfl rfl hd_X9_tune ⟨(Nat.le_of_ble_eq_true rfl), (Nat.le_of_ble_eq_true rfl)⟩) ⟨fbR, va_recv hKM hPM (ci := 8) (q0 := 0) rfl rfl, pR_in hPM hKM⟩ rfl rfl hl.1 rfl (lv_room (Nat.le_of_ble_eq_true rfl)) dL_law_388 ⟨(Nat.le_of_ble_eq_true rfl), (Nat.le_of_ble_eq_true rfl)⟩) hS (fun q hq h => absurd hq (Nat.not_lt.mpr h)) (fun q h => hA q (Nat.le_trans hS.1 h)) (fun r_12 u_ t_ H11 locs ht hvm hw hB hz1 hk1 hS => ?_)
  subst hw
  have hPX := wk hPX hk1
  have hPM := wk hPM hk1
  refine lv_pop hx hb dL_law_391 rfl ?_
  refine lv_goto (tgt := 1540) hx hb dL_law_392 (by decide) ?_
  exact kk H11 _ _ ⟨xr, xt, xi, xa, xJ, xL, mr, mt, mi, ma, mJ, mL, hrX, hrM, hKX, hKM, hPX, hPM, hDX, hDM, hdj, hS, hIX, hWB, hRB, hBB, hIM, htm⟩ hl
set_option maxHeartbeats 4000000 in
set_option maxRecDepth 100000 in
theorem law_5 {p : Program} {e : Env} {s : State} {m : MethodId} {below : List Frame} {meth : Method} {c : Code} (l : Launch) {b L : Nat} {xs : Nat → Int32} (hL : L ≤ 3072) (C0 : lw_At p s m meth c b L xs) (dC : Nat → ClassId) (dI : Nat → Nat → Nat) (adK adV : Nat) (fS : Nat → Int32) (hZ : ZS adK adV fS (fun q : Nat => s.heap.size ≤ q) s s.heap) {aX aM : Nat} {i : Int32} (hi0 : 0 ≤ i.toInt) (hi1 : i.toInt + 6 ≤ (L : Int)) {H : Heap} {locs : List Loc} (hI : LI dC dI s aX aM H locs) {ls : Array Slot} (hl : lv_has ls 4 [(3, .int i), (2, .ref aM), (1, .ref aX), (0, .ref b)]) (kk : ∀ (H1 : Heap) (locs1 : List Loc) (ls1 : Array Slot), LI dC dI s aX aM H1 locs1 → lv_has ls1 4 [(3, .int i), (2, .ref aM), (1, .ref aX), (0, .ref b)] → W p l e room_1 s m #[Value.ref b] below meth c H1 locs1 103 20190 (lw_Z below #[Value.ref b] s) (F0 m 1540 ls1 [])) : W p l e room_1 s m #[Value.ref b] below meth c H locs 103 20190 (lw_Z below #[Value.ref b] s) (F0 m 395 ls []) := by
  obtain ⟨hx, hb, hr, hml, hown, hts, hX, hbl, hlocks, hgv⟩ := id C0
  have hown : s.vm.findClass RL = some m.cls := hown
  have hG : ∀ w ∈ GW, w.before _ s = true := fun w h => hts w (List.mem_filter.mp h).1
  have hA : ∀ q : Nat, s.heap.size ≤ q → (fun q : Nat => s.heap.size ≤ q) q := fun _ h => h
  have hbA : ¬ (fun q : Nat => s.heap.size ≤ q) b := Nat.not_le.mpr hbl
  obtain ⟨xr, xt, xi, xa, xJ, xL, mr, mt, mi, ma, mJ, mL, hrX, hrM, hKX, hKM, hPX, hPM, hDX, hDM, hdj, hS, hIX, hWB, hRB, hBB, hIM, htm⟩ := hI
  refine lv_aload_n hx hb dL_law_395 rfl (lv_at hl 2 rfl) ?_
  refine W.eq (g2 := F0 m 396 ls [.ref (xr 0)]) (by rw [hrX]) ?_
  refine lv_aload_n hx hb dL_law_396 rfl (lv_at hl 3 rfl) ?_
  refine lv_iload_n hx hb dL_law_397 rfl (lv_at hl 0 rfl) ?_
  refine lv_iconst (v := 1) hx hb dL_law_398 (by decide) ?_
  refine lv_iadd hx hb dL_law_399 ?_
  refine lv_topi (fun x1 ex1 => ?_)
  refine va_sld hx hb hX hbl hbA hS (sidx ex1 hi0 hi1 hL (by decide) (by decide)) dL_law_400 ?_
  refine lv_topi (fun x2 ex2 => ?_)
  refine lv_aload_n hx hb dL_law_401 rfl (lv_at hl 3 rfl) ?_
  refine lv_iload_n hx hb dL_law_402 rfl (lv_at hl 0 rfl) ?_
  refine lv_iconst (v := 2) hx hb dL_law_403 (by decide) ?_
  refine lv_iadd hx hb dL_law_404 ?_
  refine lv_topi (fun x3 ex3 => ?_)
  refine va_sld hx hb hX hbl hbA hS (sidx ex3 hi0 hi1 hL (by decide) (by decide)) dL_law_405 ?_
  refine lv_topi (fun x4 ex4 => ?_)
  refine va_calli (va_runV (As := [.int x2, .int x4]) (rest := []) ⟨hx, hb, hml, hown, hG⟩ (kX8_note l dC dI xr xt (xi 0) (xi 1) (xi 2) (xi 3) (xi 4) (xi 5) (xi 6) (xi 7) (xi 8) (xi 9) (xi 10) (xi 11) (xi 12) (xi 13) (xi 14) (xi 15) (xi 16) (xa 0) (xa 1) (xa 2) (xa 3) (xa 4) (xa 5) (xa 6) (xa 7) (xa 8) (xa 9) (xa 10) (xa 11) (xa 12) (xa 13) (xa 14) xJ xL x2 x4 H.size hIX) (cwV 2 hG (goodV gw703 gw704 gw705 gw129 gw706) rfl rfl rfl hd_X8_note ⟨(Nat.le_of_ble_eq_true rfl), (Nat.le_of_ble_eq_true rfl)⟩) ⟨fbR, va_recv hKX hPX (ci := 7) (q0 := 0) rfl rfl, pR_in hPX hKX⟩ rfl rfl hl.1 rfl (lv_room (Nat.le_of_ble_eq_true rfl)) dL_law_406 ⟨(Nat.le_of_ble_eq_true rfl), (Nat.le_of_ble_eq_true rfl)⟩) hS (fun q hq h => absurd hq (Nat.not_lt.mpr h)) (fun q h => hA q (Nat.le_trans hS.1 h)) (fun r_6 u_ t_ H5 locs ht hvm hw hB hz1 hk1 hS => ?_)
  subst hw
  have hPX := wk hPX hk1
  have hPM := wk hPM hk1
  refine lv_pop hx hb dL_law_409 rfl ?_
  refine lv_aload_n hx hb dL_law_410 rfl (lv_at hl 1 rfl) ?_
  refine W.eq (g2 := F0 m 411 ls [.ref (mr 0)]) (by rw [hrM]) ?_
  refine lv_aload_n hx hb dL_law_411 rfl (lv_at hl 3 rfl) ?_
  refine lv_iload_n hx hb dL_law_412 rfl (lv_at hl 0 rfl) ?_
  refine lv_iconst (v := 1) hx hb dL_law_413 (by decide) ?_
  refine lv_iadd hx hb dL_law_414 ?_
  refine lv_topi (fun x7 ex7 => ?_)
  refine va_sld hx hb hX hbl hbA hS (sidx ex7 hi0 hi1 hL (by decide) (by decide)) dL_law_415 ?_
  refine lv_topi (fun x8 ex8 => ?_)
  refine lv_aload_n hx hb dL_law_416 rfl (lv_at hl 3 rfl) ?_
  refine lv_iload_n hx hb dL_law_417 rfl (lv_at hl 0 rfl) ?_
  refine lv_iconst (v := 2) hx hb dL_law_418 (by decide) ?_
  refine lv_iadd hx hb dL_law_419 ?_
  refine lv_topi (fun x9 ex9 => ?_)
  refine va_sld hx hb hX hbl hbA hS (sidx ex9 hi0 hi1 hL (by decide) (by decide)) dL_law_420 ?_
  refine lv_topi (fun x10 ex10 => ?_)
  refine va_calli (va_runV (As := [.int x8, .int x10]) (rest := []) ⟨hx, hb, hml, hown, hG⟩ (kX9_note l dC dI mr mt (mi 0) (mi 1) (mi 2) (mi 3) (mi 4) (mi 5) (mi 6) (mi 7) (mi 8) (mi 9) (mi 10) (mi 11) (mi 12) (mi 13) (mi 14) (mi 15) (mi 16) (mi 17) (mi 18) (mi 19) (ma 0) (ma 1) (ma 2) (ma 3) (ma 4) (ma 5) (ma 6) (ma 7) (ma 8) (ma 9) (ma 10) (ma 11) (ma 12) (ma 13) (ma 14) (ma 15) mJ mL x8 x10 H5.size hIM) (cwV 2 hG (goodV gw1530 gw1531 gw1532 gw138 gw1533) rfl rfl rfl hd_X9_note ⟨(Nat.le_of_ble_eq_true rfl), (Nat.le_of_ble_eq_true rfl)⟩) ⟨fbR, va_recv hKM hPM (ci := 8) (q0 := 0) rfl rfl, pR_in hPM hKM⟩ rfl rfl hl.1 rfl (lv_room (Nat.le_of_ble_eq_true rfl)) dL_law_421 ⟨(Nat.le_of_ble_eq_true rfl), (Nat.le_of_ble_eq_true rfl)⟩) hS (fun q hq h => absurd hq (Nat.not_lt.mpr h)) (fun q h => hA q (Nat.le_trans hS.1 h)) (fun r_12 u_ t_ H11 locs ht hvm hw hB hz1 hk1 hS => ?_)
  subst hw
  have hPX := wk hPX hk1
  have hPM := wk hPM hk1
  refine lv_pop hx hb dL_law_424 rfl ?_
  refine lv_goto (tgt := 1540) hx hb dL_law_425 (by decide) ?_
  exact kk H11 _ _ ⟨xr, xt, xi, xa, xJ, xL, mr, mt, mi, ma, mJ, mL, hrX, hrM, hKX, hKM, hPX, hPM, hDX, hDM, hdj, hS, hIX, hWB, hRB, hBB, hIM, htm⟩ hl
set_option maxHeartbeats 4000000 in
set_option maxRecDepth 100000 in
theorem law_6 {p : Program} {e : Env} {s : State} {m : MethodId} {below : List Frame} {meth : Method} {c : Code} (l : Launch) {b L : Nat} {xs : Nat → Int32} (hL : L ≤ 3072) (C0 : lw_At p s m meth c b L xs) (dC : Nat → ClassId) (dI : Nat → Nat → Nat) (adK adV : Nat) (fS : Nat → Int32) (hZ : ZS adK adV fS (fun q : Nat => s.heap.size ≤ q) s s.heap) {aX aM : Nat} {i : Int32} (hi0 : 0 ≤ i.toInt) (hi1 : i.toInt + 6 ≤ (L : Int)) {H : Heap} {locs : List Loc} (hI : LI dC dI s aX aM H locs) {ls : Array Slot} (hl : lv_has ls 4 [(3, .int i), (2, .ref aM), (1, .ref aX), (0, .ref b)]) (kk : ∀ (H1 : Heap) (locs1 : List Loc) (ls1 : Array Slot), LI dC dI s aX aM H1 locs1 → lv_has ls1 4 [(3, .int i), (2, .ref aM), (1, .ref aX), (0, .ref b)] → W p l e room_1 s m #[Value.ref b] below meth c H1 locs1 103 20190 (lw_Z below #[Value.ref b] s) (F0 m 1540 ls1 [])) : W p l e room_1 s m #[Value.ref b] below meth c H locs 103 20190 (lw_Z below #[Value.ref b] s) (F0 m 428 ls []) := by
  obtain ⟨hx, hb, hr, hml, hown, hts, hX, hbl, hlocks, hgv⟩ := id C0
  have hown : s.vm.findClass RL = some m.cls := hown
  have hG : ∀ w ∈ GW, w.before _ s = true := fun w h => hts w (List.mem_filter.mp h).1
  have hA : ∀ q : Nat, s.heap.size ≤ q → (fun q : Nat => s.heap.size ≤ q) q := fun _ h => h
  have hbA : ¬ (fun q : Nat => s.heap.size ≤ q) b := Nat.not_le.mpr hbl
  obtain ⟨xr, xt, xi, xa, xJ, xL, mr, mt, mi, ma, mJ, mL, hrX, hrM, hKX, hKM, hPX, hPM, hDX, hDM, hdj, hS, hIX, hWB, hRB, hBB, hIM, htm⟩ := hI
  refine lv_aload_n hx hb dL_law_428 rfl (lv_at hl 2 rfl) ?_
  refine W.eq (g2 := F0 m 429 ls [.ref (xr 0)]) (by rw [hrX]) ?_
  refine lv_aload_n hx hb dL_law_429 rfl (lv_at hl 3 rfl) ?_
  refine lv_iload_n hx hb dL_law_430 rfl (lv_at hl 0 rfl) ?_
  refine lv_iconst (v := 1) hx hb dL_law_431 (by decide) ?_
  refine lv_iadd hx hb dL_law_432 ?_
  refine lv_topi (fun x1 ex1 => ?_)
  refine va_sld hx hb hX hbl hbA hS (sidx ex1 hi0 hi1 hL (by decide) (by decide)) dL_law_433 ?_
  refine lv_topi (fun x2 ex2 => ?_)
  refine lv_aload_n hx hb dL_law_434 rfl (lv_at hl 3 rfl) ?_
  refine lv_iload_n hx hb dL_law_435 rfl (lv_at hl 0 rfl) ?_
  refine lv_iconst (v := 2) hx hb dL_law_436 (by decide) ?_
  refine lv_iadd hx hb dL_law_437 ?_
  refine lv_topi (fun x3 ex3 => ?_)
  refine va_sld hx hb hX hbl hbA hS (sidx ex3 hi0 hi1 hL (by decide) (by decide)) dL_law_438 ?_
  refine lv_topi (fun x4 ex4 => ?_)
  refine va_calli (va_runV (As := [.int x2, .int x4]) (rest := []) ⟨hx, hb, hml, hown, hG⟩ (kX8_house l dC dI xr xt (xi 0) (xi 1) (xi 2) (xi 3) (xi 4) (xi 5) (xi 6) (xi 7) (xi 8) (xi 9) (xi 10) (xi 11) (xi 12) (xi 13) (xi 14) (xi 15) (xi 16) (xa 0) (xa 1) (xa 2) (xa 3) (xa 4) (xa 5) (xa 6) (xa 7) (xa 8) (xa 9) (xa 10) (xa 11) (xa 12) (xa 13) (xa 14) xJ xL x2 x4 H.size hIX hWB) (cwV 2 hG (goodV gw712 gw713 gw714 gw129 gw715) rfl rfl rfl hd_X8_house ⟨(Nat.le_of_ble_eq_true rfl), (Nat.le_of_ble_eq_true rfl)⟩) ⟨fbR, va_recv hKX hPX (ci := 7) (q0 := 0) rfl rfl, pR_in hPX hKX⟩ rfl rfl hl.1 rfl (lv_room (Nat.le_of_ble_eq_true rfl)) dL_law_439 ⟨(Nat.le_of_ble_eq_true rfl), (Nat.le_of_ble_eq_true rfl)⟩) hS (fun q hq h => absurd hq (Nat.not_lt.mpr h)) (fun q h => hA q (Nat.le_trans hS.1 h)) (fun r_6 u_ t_ H5 locs ht hvm hw hB hz1 hk1 hS => ?_)
  subst hw
  have hPX := wk hPX hk1
  have hPM := wk hPM hk1
  refine lv_pop hx hb dL_law_442 rfl ?_
  refine lv_aload_n hx hb dL_law_443 rfl (lv_at hl 1 rfl) ?_
  refine W.eq (g2 := F0 m 444 ls [.ref (mr 0)]) (by rw [hrM]) ?_
  refine lv_aload_n hx hb dL_law_444 rfl (lv_at hl 3 rfl) ?_
  refine lv_iload_n hx hb dL_law_445 rfl (lv_at hl 0 rfl) ?_
  refine lv_iconst (v := 1) hx hb dL_law_446 (by decide) ?_
  refine lv_iadd hx hb dL_law_447 ?_
  refine lv_topi (fun x7 ex7 => ?_)
  refine va_sld hx hb hX hbl hbA hS (sidx ex7 hi0 hi1 hL (by decide) (by decide)) dL_law_448 ?_
  refine lv_topi (fun x8 ex8 => ?_)
  refine lv_aload_n hx hb dL_law_449 rfl (lv_at hl 3 rfl) ?_
  refine lv_iload_n hx hb dL_law_450 rfl (lv_at hl 0 rfl) ?_
  refine lv_iconst (v := 2) hx hb dL_law_451 (by decide) ?_
  refine lv_iadd hx hb dL_law_452 ?_
  refine lv_topi (fun x9 ex9 => ?_)
  refine va_sld hx hb hX hbl hbA hS (sidx ex9 hi0 hi1 hL (by decide) (by decide)) dL_law_453 ?_
  refine lv_topi (fun x10 ex10 => ?_)
  refine va_calli (va_runV (As := [.int x8, .int x10]) (rest := []) ⟨hx, hb, hml, hown, hG⟩ (kX9_house l dC dI mr mt (mi 0) (mi 1) (mi 2) (mi 3) (mi 4) (mi 5) (mi 6) (mi 7) (mi 8) (mi 9) (mi 10) (mi 11) (mi 12) (mi 13) (mi 14) (mi 15) (mi 16) (mi 17) (mi 18) (mi 19) (ma 0) (ma 1) (ma 2) (ma 3) (ma 4) (ma 5) (ma 6) (ma 7) (ma 8) (ma 9) (ma 10) (ma 11) (ma 12) (ma 13) (ma 14) (ma 15) mJ mL x8 x10 H5.size hIM) (cwV 2 hG (goodV gw1538 gw1539 gw1540 gw138 gw1541) rfl rfl rfl hd_X9_house ⟨(Nat.le_of_ble_eq_true rfl), (Nat.le_of_ble_eq_true rfl)⟩) ⟨fbR, va_recv hKM hPM (ci := 8) (q0 := 0) rfl rfl, pR_in hPM hKM⟩ rfl rfl hl.1 rfl (lv_room (Nat.le_of_ble_eq_true rfl)) dL_law_454 ⟨(Nat.le_of_ble_eq_true rfl), (Nat.le_of_ble_eq_true rfl)⟩) hS (fun q hq h => absurd hq (Nat.not_lt.mpr h)) (fun q h => hA q (Nat.le_trans hS.1 h)) (fun r_12 u_ t_ H11 locs ht hvm hw hB hz1 hk1 hS => ?_)
  subst hw
  have hPX := wk hPX hk1
  have hPM := wk hPM hk1
  refine lv_pop hx hb dL_law_457 rfl ?_
  refine lv_goto (tgt := 1540) hx hb dL_law_458 (by decide) ?_
  exact kk H11 _ _ ⟨xr, xt, xi, xa, xJ, xL, mr, mt, mi, ma, mJ, mL, hrX, hrM, hKX, hKM, hPX, hPM, hDX, hDM, hdj, hS, hIX, hWB, hRB, hBB, hIM, htm⟩ hl
set_option maxHeartbeats 4000000 in
set_option maxRecDepth 100000 in
theorem law_7 {p : Program} {e : Env} {s : State} {m : MethodId} {below : List Frame} {meth : Method} {c : Code} (l : Launch) {b L : Nat} {xs : Nat → Int32} (hL : L ≤ 3072) (C0 : lw_At p s m meth c b L xs) (dC : Nat → ClassId) (dI : Nat → Nat → Nat) (adK adV : Nat) (fS : Nat → Int32) (hZ : ZS adK adV fS (fun q : Nat => s.heap.size ≤ q) s s.heap) {aX aM : Nat} {i : Int32} (hi0 : 0 ≤ i.toInt) (hi1 : i.toInt + 6 ≤ (L : Int)) {H : Heap} {locs : List Loc} (hI : LI dC dI s aX aM H locs) {ls : Array Slot} (hl : lv_has ls 4 [(3, .int i), (2, .ref aM), (1, .ref aX), (0, .ref b)]) (kk : ∀ (H1 : Heap) (locs1 : List Loc) (ls1 : Array Slot), LI dC dI s aX aM H1 locs1 → lv_has ls1 4 [(3, .int i), (2, .ref aM), (1, .ref aX), (0, .ref b)] → W p l e room_1 s m #[Value.ref b] below meth c H1 locs1 103 20190 (lw_Z below #[Value.ref b] s) (F0 m 1540 ls1 [])) : W p l e room_1 s m #[Value.ref b] below meth c H locs 103 20190 (lw_Z below #[Value.ref b] s) (F0 m 461 ls []) := by
  obtain ⟨hx, hb, hr, hml, hown, hts, hX, hbl, hlocks, hgv⟩ := id C0
  have hown : s.vm.findClass RL = some m.cls := hown
  have hG : ∀ w ∈ GW, w.before _ s = true := fun w h => hts w (List.mem_filter.mp h).1
  have hA : ∀ q : Nat, s.heap.size ≤ q → (fun q : Nat => s.heap.size ≤ q) q := fun _ h => h
  have hbA : ¬ (fun q : Nat => s.heap.size ≤ q) b := Nat.not_le.mpr hbl
  obtain ⟨xr, xt, xi, xa, xJ, xL, mr, mt, mi, ma, mJ, mL, hrX, hrM, hKX, hKM, hPX, hPM, hDX, hDM, hdj, hS, hIX, hWB, hRB, hBB, hIM, htm⟩ := hI
  refine lv_aload_n hx hb dL_law_461 rfl (lv_at hl 2 rfl) ?_
  refine W.eq (g2 := F0 m 462 ls [.ref (xr 0)]) (by rw [hrX]) ?_
  refine lv_aload_n hx hb dL_law_462 rfl (lv_at hl 3 rfl) ?_
  refine lv_iload_n hx hb dL_law_463 rfl (lv_at hl 0 rfl) ?_
  refine lv_iconst (v := 1) hx hb dL_law_464 (by decide) ?_
  refine lv_iadd hx hb dL_law_465 ?_
  refine lv_topi (fun x1 ex1 => ?_)
  refine va_sld hx hb hX hbl hbA hS (sidx ex1 hi0 hi1 hL (by decide) (by decide)) dL_law_466 ?_
  refine lv_topi (fun x2 ex2 => ?_)
  refine lv_aload_n hx hb dL_law_467 rfl (lv_at hl 3 rfl) ?_
  refine lv_iload_n hx hb dL_law_468 rfl (lv_at hl 0 rfl) ?_
  refine lv_iconst (v := 2) hx hb dL_law_469 (by decide) ?_
  refine lv_iadd hx hb dL_law_470 ?_
  refine lv_topi (fun x3 ex3 => ?_)
  refine va_sld hx hb hX hbl hbA hS (sidx ex3 hi0 hi1 hL (by decide) (by decide)) dL_law_471 ?_
  refine lv_topi (fun x4 ex4 => ?_)
  have hFc := frA hDX hS hA
  refine va_calli (va_runV (As := [.int x2, .int x4]) (rest := []) ⟨hx, hb, hml, hown, hG⟩ (kX8_glad l dC dI xr xt (xi 0) (xi 1) (xi 2) (xi 3) (xi 4) (xi 5) (xi 6) (xi 7) (xi 8) (xi 9) (xi 10) (xi 11) (xi 12) (xi 13) (xi 14) (xi 15) (xi 16) (xa 0) (xa 1) (xa 2) (xa 3) (xa 4) (xa 5) (xa 6) (xa 7) (xa 8) (xa 9) (xa 10) (xa 11) (xa 12) (xa 13) (xa 14) xJ xL x2 x4 H.size hIX) (cwV 2 hG (goodV gw733 gw734 gw735 gw129 gw736) rfl rfl rfl hd_X8_glad ⟨(Nat.le_of_ble_eq_true rfl), (Nat.le_of_ble_eq_true rfl)⟩) ⟨fbW, va_recv hKX hPX (ci := 7) (q0 := 0) rfl rfl, pW_in hPX hKX hDX⟩ rfl rfl hl.1 rfl (lv_room (Nat.le_of_ble_eq_true rfl)) dL_law_472 ⟨(Nat.le_of_ble_eq_true rfl), (Nat.le_of_ble_eq_true rfl)⟩) hS (fun q _ h => hFc q h) hFc (fun r_6 u_ t_ H5 locs ht hvm hw hB hz1 hk1 hS => ?_)
  subst hw
  obtain ⟨n7, hP1, hD1, hIX⟩ := hB
  rw [ht] at hP1
  obtain ⟨hPM, hdj⟩ := mvO hPM hdj (fun k q hk => hD1.2 k q hk) hk1
  have hPX := hP1
  have hDX := dW hFc hD1
  refine lv_pop hx hb dL_law_475 rfl ?_
  refine lv_aload_n hx hb dL_law_476 rfl (lv_at hl 1 rfl) ?_
  refine W.eq (g2 := F0 m 477 ls [.ref (mr 0)]) (by rw [hrM]) ?_
  refine lv_aload_n hx hb dL_law_477 rfl (lv_at hl 3 rfl) ?_
  refine lv_iload_n hx hb dL_law_478 rfl (lv_at hl 0 rfl) ?_
  refine lv_iconst (v := 1) hx hb dL_law_479 (by decide) ?_
  refine lv_iadd hx hb dL_law_480 ?_
  refine lv_topi (fun x8 ex8 => ?_)
  refine va_sld hx hb hX hbl hbA hS (sidx ex8 hi0 hi1 hL (by decide) (by decide)) dL_law_481 ?_
  refine lv_topi (fun x9 ex9 => ?_)
  refine lv_aload_n hx hb dL_law_482 rfl (lv_at hl 3 rfl) ?_
  refine lv_iload_n hx hb dL_law_483 rfl (lv_at hl 0 rfl) ?_
  refine lv_iconst (v := 2) hx hb dL_law_484 (by decide) ?_
  refine lv_iadd hx hb dL_law_485 ?_
  refine lv_topi (fun x10 ex10 => ?_)
  refine va_sld hx hb hX hbl hbA hS (sidx ex10 hi0 hi1 hL (by decide) (by decide)) dL_law_486 ?_
  refine lv_topi (fun x11 ex11 => ?_)
  have hFc := frA hDM hS hA
  refine va_calli (va_runV (As := [.int x9, .int x11]) (rest := []) ⟨hx, hb, hml, hown, hG⟩ (kX9_glad l dC dI mr mt (mi 0) (mi 1) (mi 2) (mi 3) (mi 4) (mi 5) (mi 6) (mi 7) (mi 8) (mi 9) (mi 10) (mi 11) (mi 12) (mi 13) (mi 14) (mi 15) (mi 16) (mi 17) (mi 18) (mi 19) (ma 0) (ma 1) (ma 2) (ma 3) (ma 4) (ma 5) (ma 6) (ma 7) (ma 8) (ma 9) (ma 10) (ma 11) (ma 12) (ma 13) (ma 14) (ma 15) mJ mL x9 x11 H5.size hIM) (cwV 2 hG (goodV gw1558 gw1559 gw1560 gw138 gw1561) rfl rfl rfl hd_X9_glad ⟨(Nat.le_of_ble_eq_true rfl), (Nat.le_of_ble_eq_true rfl)⟩) ⟨fbW, va_recv hKM hPM (ci := 8) (q0 := 0) rfl rfl, pW_in hPM hKM hDM⟩ rfl rfl hl.1 rfl (lv_room (Nat.le_of_ble_eq_true rfl)) dL_law_487 ⟨(Nat.le_of_ble_eq_true rfl), (Nat.le_of_ble_eq_true rfl)⟩) hS (fun q _ h => hFc q h) hFc (fun r_13 u_ t_ H12 locs ht hvm hw hB hz1 hk1 hS => ?_)
  subst hw
  obtain ⟨n14, n15, n16, hP1, hD1, hIM⟩ := hB
  rw [ht] at hP1
  obtain ⟨hPX, hdj⟩ := mvO hPX (dj_sym hdj) (fun k q hk => hD1.2 k q hk) hk1
  have hdj := dj_sym hdj
  have hPM := hP1
  have hDM := dW hFc hD1
  refine lv_pop hx hb dL_law_490 rfl ?_
  refine lv_goto (tgt := 1540) hx hb dL_law_491 (by decide) ?_
  exact kk H12 _ _ ⟨xr, xt, xi, xa, n7, xL, mr, mt, (fun k => ([(mi 0), (mi 1), (mi 2), (mi 3), (mi 4), (mi 5), (mi 6), (mi 7), (mi 8), (mi 9), (mi 10), (mi 11), (mi 12), n14, n15, (mi 15), (mi 16), (mi 17), (mi 18), (mi 19)] : List Int32).getD k 0), ma, n16, mL, hrX, hrM, hKX, hKM, hPX, hPM, hDX, hDM, hdj, hS, hIX, hWB, hRB, hBB, hIM, htm⟩ hl
set_option maxHeartbeats 4000000 in
set_option maxRecDepth 100000 in
theorem law_8 {p : Program} {e : Env} {s : State} {m : MethodId} {below : List Frame} {meth : Method} {c : Code} (l : Launch) {b L : Nat} {xs : Nat → Int32} (hL : L ≤ 3072) (C0 : lw_At p s m meth c b L xs) (dC : Nat → ClassId) (dI : Nat → Nat → Nat) (adK adV : Nat) (fS : Nat → Int32) (hZ : ZS adK adV fS (fun q : Nat => s.heap.size ≤ q) s s.heap) {aX aM : Nat} {i : Int32} (hi0 : 0 ≤ i.toInt) (hi1 : i.toInt + 6 ≤ (L : Int)) {H : Heap} {locs : List Loc} (hI : LI dC dI s aX aM H locs) {ls : Array Slot} (hl : lv_has ls 4 [(3, .int i), (2, .ref aM), (1, .ref aX), (0, .ref b)]) (kk : ∀ (H1 : Heap) (locs1 : List Loc) (ls1 : Array Slot), LI dC dI s aX aM H1 locs1 → lv_has ls1 4 [(3, .int i), (2, .ref aM), (1, .ref aX), (0, .ref b)] → W p l e room_1 s m #[Value.ref b] below meth c H1 locs1 103 20190 (lw_Z below #[Value.ref b] s) (F0 m 1540 ls1 [])) : W p l e room_1 s m #[Value.ref b] below meth c H locs 103 20190 (lw_Z below #[Value.ref b] s) (F0 m 494 ls []) := by
  obtain ⟨hx, hb, hr, hml, hown, hts, hX, hbl, hlocks, hgv⟩ := id C0
  have hown : s.vm.findClass RL = some m.cls := hown
  have hG : ∀ w ∈ GW, w.before _ s = true := fun w h => hts w (List.mem_filter.mp h).1
  have hA : ∀ q : Nat, s.heap.size ≤ q → (fun q : Nat => s.heap.size ≤ q) q := fun _ h => h
  have hbA : ¬ (fun q : Nat => s.heap.size ≤ q) b := Nat.not_le.mpr hbl
  obtain ⟨xr, xt, xi, xa, xJ, xL, mr, mt, mi, ma, mJ, mL, hrX, hrM, hKX, hKM, hPX, hPM, hDX, hDM, hdj, hS, hIX, hWB, hRB, hBB, hIM, htm⟩ := hI
  refine lv_aload_n hx hb dL_law_494 rfl (lv_at hl 2 rfl) ?_
  refine W.eq (g2 := F0 m 495 ls [.ref (xr 0)]) (by rw [hrX]) ?_
  have hFc := frA hDX hS hA
  refine va_calli (va_runV (As := []) (rest := []) ⟨hx, hb, hml, hown, hG⟩ (kX8_week l dC dI xr xt (xi 0) (xi 1) (xi 2) (xi 3) (xi 4) (xi 5) (xi 6) (xi 7) (xi 8) (xi 9) (xi 10) (xi 11) (xi 12) (xi 13) (xi 14) (xi 15) (xi 16) (xa 0) (xa 1) (xa 2) (xa 3) (xa 4) (xa 5) (xa 6) (xa 7) (xa 8) (xa 9) (xa 10) (xa 11) (xa 12) (xa 13) (xa 14) xJ xL H.size hIX hWB hRB) (cwV 0 hG (goodV gw778 gw779 gw780 gw129 gw781) rfl rfl rfl hd_X8_week ⟨(Nat.le_of_ble_eq_true rfl), (Nat.le_of_ble_eq_true rfl)⟩) ⟨fbW, va_recv hKX hPX (ci := 7) (q0 := 0) rfl rfl, pW_in hPX hKX hDX⟩ rfl rfl hl.1 rfl (lv_room (Nat.le_of_ble_eq_true rfl)) dL_law_495 ⟨(Nat.le_of_ble_eq_true rfl), (Nat.le_of_ble_eq_true rfl)⟩) hS (fun q _ h => hFc q h) hFc (fun r_2 u_ t_ H1 locs ht hvm hw hB hz1 hk1 hS => ?_)
  subst hw
  obtain ⟨n3, n4, n5, n6, n7, n8, hP1, hD1, hIX, hWB, hRB⟩ := hB
  rw [ht] at hP1
  obtain ⟨hPM, hdj⟩ := mvO hPM hdj (fun k q hk => hD1.2 k q hk) hk1
  have hPX := hP1
  have hDX := dW hFc hD1
  refine lv_pop hx hb dL_law_498 rfl ?_
  refine lv_aload_n hx hb dL_law_499 rfl (lv_at hl 1 rfl) ?_
  refine W.eq (g2 := F0 m 500 ls [.ref (mr 0)]) (by rw [hrM]) ?_
  have hFc := frA hDM hS hA
  refine va_calli (va_runV (As := []) (rest := []) ⟨hx, hb, hml, hown, hG⟩ (kX9_week l dC dI mr mt (mi 0) (mi 1) (mi 2) (mi 3) (mi 4) (mi 5) (mi 6) (mi 7) (mi 8) (mi 9) (mi 10) (mi 11) (mi 12) (mi 13) (mi 14) (mi 15) (mi 16) (mi 17) (mi 18) (mi 19) (ma 0) (ma 1) (ma 2) (ma 3) (ma 4) (ma 5) (ma 6) (ma 7) (ma 8) (ma 9) (ma 10) (ma 11) (ma 12) (ma 13) (ma 14) (ma 15) mJ mL H1.size hIM) (cwV 0 hG (goodV gw1680 gw1681 gw1682 gw138 gw1683) rfl rfl rfl hd_X9_week ⟨(Nat.le_of_ble_eq_true rfl), (Nat.le_of_ble_eq_true rfl)⟩) ⟨fbW, va_recv hKM hPM (ci := 8) (q0 := 0) rfl rfl, pW_in hPM hKM hDM⟩ rfl rfl hl.1 rfl (lv_room (Nat.le_of_ble_eq_true rfl)) dL_law_500 ⟨(Nat.le_of_ble_eq_true rfl), (Nat.le_of_ble_eq_true rfl)⟩) hS (fun q _ h => hFc q h) hFc (fun r_10 u_ t_ H9 locs ht hvm hw hB hz1 hk1 hS => ?_)
  subst hw
  obtain ⟨n11, n12, n13, n14, n15, n16, n17, hP1, hD1, hIM⟩ := hB
  rw [ht] at hP1
  obtain ⟨hPX, hdj⟩ := mvO hPX (dj_sym hdj) (fun k q hk => hD1.2 k q hk) hk1
  have hdj := dj_sym hdj
  have hPM := hP1
  have hDM := dW hFc hD1
  refine lv_pop hx hb dL_law_503 rfl ?_
  refine lv_goto (tgt := 1540) hx hb dL_law_504 (by decide) ?_
  exact kk H9 _ _ ⟨xr, xt, (fun k => ([(xi 0), (xi 1), (xi 2), (xi 3), (xi 4), (xi 5), (xi 6), (xi 7), (xi 8), (xi 9), (xi 10), (xi 11), (xi 12), (xi 13), n3, n4, (xi 16)] : List Int32).getD k 0), (fun k => ([(xa 0), (xa 1), (xa 2), (xa 3), (xa 4), (xa 5), (xa 6), (xa 7), n5, n6, (xa 10), (xa 11), n7, (xa 13), (xa 14)] : List (Nat → Int32)).getD k (fun _ => 0)), n8, xL, mr, mt, (fun k => ([(mi 0), (mi 1), (mi 2), (mi 3), (mi 4), (mi 5), (mi 6), (mi 7), (mi 8), (mi 9), (mi 10), (mi 11), (mi 12), n11, n12, n13, n14, (mi 17), (mi 18), (mi 19)] : List Int32).getD k 0), (fun k => ([(ma 0), (ma 1), (ma 2), (ma 3), (ma 4), (ma 5), (ma 6), (ma 7), (ma 8), (ma 9), (ma 10), n15, (ma 12), n16, (ma 14), (ma 15)] : List (Nat → Int32)).getD k (fun _ => 0)), n17, mL, hrX, hrM, hKX, hKM, hPX, hPM, hDX, hDM, hdj, hS, hIX, hWB, hRB, hBB, hIM, htm⟩ hl
set_option maxHeartbeats 4000000 in
set_option maxRecDepth 100000 in
theorem law_9 {p : Program} {e : Env} {s : State} {m : MethodId} {below : List Frame} {meth : Method} {c : Code} (l : Launch) {b L : Nat} {xs : Nat → Int32} (hL : L ≤ 3072) (C0 : lw_At p s m meth c b L xs) (dC : Nat → ClassId) (dI : Nat → Nat → Nat) (adK adV : Nat) (fS : Nat → Int32) (hZ : ZS adK adV fS (fun q : Nat => s.heap.size ≤ q) s s.heap) {aX aM : Nat} {i : Int32} (hi0 : 0 ≤ i.toInt) (hi1 : i.toInt + 6 ≤ (L : Int)) {H : Heap} {locs : List Loc} (hI : LI dC dI s aX aM H locs) {ls : Array Slot} (hl : lv_has ls 4 [(3, .int i), (2, .ref aM), (1, .ref aX), (0, .ref b)]) (kk : ∀ (H1 : Heap) (locs1 : List Loc) (ls1 : Array Slot), LI dC dI s aX aM H1 locs1 → lv_has ls1 4 [(3, .int i), (2, .ref aM), (1, .ref aX), (0, .ref b)] → W p l e room_1 s m #[Value.ref b] below meth c H1 locs1 103 20190 (lw_Z below #[Value.ref b] s) (F0 m 1540 ls1 [])) : W p l e room_1 s m #[Value.ref b] below meth c H locs 103 20190 (lw_Z below #[Value.ref b] s) (F0 m 507 ls []) := by
  obtain ⟨hx, hb, hr, hml, hown, hts, hX, hbl, hlocks, hgv⟩ := id C0
  have hown : s.vm.findClass RL = some m.cls := hown
  have hG : ∀ w ∈ GW, w.before _ s = true := fun w h => hts w (List.mem_filter.mp h).1
  have hA : ∀ q : Nat, s.heap.size ≤ q → (fun q : Nat => s.heap.size ≤ q) q := fun _ h => h
  have hbA : ¬ (fun q : Nat => s.heap.size ≤ q) b := Nat.not_le.mpr hbl
  obtain ⟨xr, xt, xi, xa, xJ, xL, mr, mt, mi, ma, mJ, mL, hrX, hrM, hKX, hKM, hPX, hPM, hDX, hDM, hdj, hS, hIX, hWB, hRB, hBB, hIM, htm⟩ := hI
  refine lv_aload_n hx hb dL_law_507 rfl (lv_at hl 2 rfl) ?_
  refine W.eq (g2 := F0 m 508 ls [.ref (xr 0)]) (by rw [hrX]) ?_
  refine lv_aload_n hx hb dL_law_508 rfl (lv_at hl 3 rfl) ?_
  refine lv_iload_n hx hb dL_law_509 rfl (lv_at hl 0 rfl) ?_
  refine lv_iconst (v := 1) hx hb dL_law_510 (by decide) ?_
  refine lv_iadd hx hb dL_law_511 ?_
  refine lv_topi (fun x1 ex1 => ?_)
  refine va_sld hx hb hX hbl hbA hS (sidx ex1 hi0 hi1 hL (by decide) (by decide)) dL_law_512 ?_
  refine lv_topi (fun x2 ex2 => ?_)
  refine lv_aload_n hx hb dL_law_513 rfl (lv_at hl 3 rfl) ?_
  refine lv_iload_n hx hb dL_law_514 rfl (lv_at hl 0 rfl) ?_
  refine lv_iconst (v := 2) hx hb dL_law_515 (by decide) ?_
  refine lv_iadd hx hb dL_law_516 ?_
  refine lv_topi (fun x3 ex3 => ?_)
  refine va_sld hx hb hX hbl hbA hS (sidx ex3 hi0 hi1 hL (by decide) (by decide)) dL_law_517 ?_
  refine lv_topi (fun x4 ex4 => ?_)
  have hFc := frA hDX hS hA
  refine va_calli (va_runV (As := [.int x2, .int x4]) (rest := []) ⟨hx, hb, hml, hown, hG⟩ (kX8_bring l dC dI xr xt (xi 0) (xi 1) (xi 2) (xi 3) (xi 4) (xi 5) (xi 6) (xi 7) (xi 8) (xi 9) (xi 10) (xi 11) (xi 12) (xi 13) (xi 14) (xi 15) (xi 16) (xa 0) (xa 1) (xa 2) (xa 3) (xa 4) (xa 5) (xa 6) (xa 7) (xa 8) (xa 9) (xa 10) (xa 11) (xa 12) (xa 13) (xa 14) xJ xL x2 x4 H.size hIX hWB hRB) (cwV 2 hG (goodV gw801 gw802 gw803 gw129 gw804) rfl rfl rfl hd_X8_bring ⟨(Nat.le_of_ble_eq_true rfl), (Nat.le_of_ble_eq_true rfl)⟩) ⟨fbW, va_recv hKX hPX (ci := 7) (q0 := 0) rfl rfl, pW_in hPX hKX hDX⟩ rfl rfl hl.1 rfl (lv_room (Nat.le_of_ble_eq_true rfl)) dL_law_518 ⟨(Nat.le_of_ble_eq_true rfl), (Nat.le_of_ble_eq_true rfl)⟩) hS (fun q _ h => hFc q h) hFc (fun r_6 u_ t_ H5 locs ht hvm hw hB hz1 hk1 hS => ?_)
  subst hw
  obtain ⟨n7, n8, n9, n10, n11, hP1, hD1, hIX, hWB, hRB⟩ := hB
  rw [ht] at hP1
  obtain ⟨hPM, hdj⟩ := mvO hPM hdj (fun k q hk => hD1.2 k q hk) hk1
  have hPX := hP1
  have hDX := dW hFc hD1
  refine lv_pop hx hb dL_law_521 rfl ?_
  refine lv_aload_n hx hb dL_law_522 rfl (lv_at hl 1 rfl) ?_
  refine W.eq (g2 := F0 m 523 ls [.ref (mr 0)]) (by rw [hrM]) ?_
  refine lv_aload_n hx hb dL_law_523 rfl (lv_at hl 3 rfl) ?_
  refine lv_iload_n hx hb dL_law_524 rfl (lv_at hl 0 rfl) ?_
  refine lv_iconst (v := 1) hx hb dL_law_525 (by decide) ?_
  refine lv_iadd hx hb dL_law_526 ?_
  refine lv_topi (fun x12 ex12 => ?_)
  refine va_sld hx hb hX hbl hbA hS (sidx ex12 hi0 hi1 hL (by decide) (by decide)) dL_law_527 ?_
  refine lv_topi (fun x13 ex13 => ?_)
  refine lv_aload_n hx hb dL_law_528 rfl (lv_at hl 3 rfl) ?_
  refine lv_iload_n hx hb dL_law_529 rfl (lv_at hl 0 rfl) ?_
  refine lv_iconst (v := 2) hx hb dL_law_530 (by decide) ?_
  refine lv_iadd hx hb dL_law_531 ?_
  refine lv_topi (fun x14 ex14 => ?_)
  refine va_sld hx hb hX hbl hbA hS (sidx ex14 hi0 hi1 hL (by decide) (by decide)) dL_law_532 ?_
  refine lv_topi (fun x15 ex15 => ?_)
  have hFc := frA hDM hS hA
  refine va_calli (va_runV (As := [.int x13, .int x15]) (rest := []) ⟨hx, hb, hml, hown, hG⟩ (kX9_bring l dC dI mr mt (mi 0) (mi 1) (mi 2) (mi 3) (mi 4) (mi 5) (mi 6) (mi 7) (mi 8) (mi 9) (mi 10) (mi 11) (mi 12) (mi 13) (mi 14) (mi 15) (mi 16) (mi 17) (mi 18) (mi 19) (ma 0) (ma 1) (ma 2) (ma 3) (ma 4) (ma 5) (ma 6) (ma 7) (ma 8) (ma 9) (ma 10) (ma 11) (ma 12) (ma 13) (ma 14) (ma 15) mJ mL x13 x15 H5.size hIM) (cwV 2 hG (goodV gw1700 gw1701 gw1702 gw138 gw1703) rfl rfl rfl hd_X9_bring ⟨(Nat.le_of_ble_eq_true rfl), (Nat.le_of_ble_eq_true rfl)⟩) ⟨fbW, va_recv hKM hPM (ci := 8) (q0 := 0) rfl rfl, pW_in hPM hKM hDM⟩ rfl rfl hl.1 rfl (lv_room (Nat.le_of_ble_eq_true rfl)) dL_law_533 ⟨(Nat.le_of_ble_eq_true rfl), (Nat.le_of_ble_eq_true rfl)⟩) hS (fun q _ h => hFc q h) hFc (fun r_17 u_ t_ H16 locs ht hvm hw hB hz1 hk1 hS => ?_)
  subst hw
  obtain ⟨n18, n19, n20, n21, n22, n23, n24, hP1, hD1, hIM⟩ := hB
  rw [ht] at hP1
  obtain ⟨hPX, hdj⟩ := mvO hPX (dj_sym hdj) (fun k q hk => hD1.2 k q hk) hk1
  have hdj := dj_sym hdj
  have hPM := hP1
  have hDM := dW hFc hD1
  refine lv_pop hx hb dL_law_536 rfl ?_
  refine lv_goto (tgt := 1540) hx hb dL_law_537 (by decide) ?_
  exact kk H16 _ _ ⟨xr, xt, (fun k => ([(xi 0), (xi 1), (xi 2), (xi 3), (xi 4), (xi 5), (xi 6), (xi 7), (xi 8), (xi 9), (xi 10), (xi 11), (xi 12), (xi 13), n7, n8, (xi 16)] : List Int32).getD k 0), (fun k => ([(xa 0), (xa 1), (xa 2), (xa 3), (xa 4), (xa 5), (xa 6), (xa 7), n9, (xa 9), (xa 10), (xa 11), n10, (xa 13), (xa 14)] : List (Nat → Int32)).getD k (fun _ => 0)), n11, xL, mr, mt, (fun k => ([(mi 0), (mi 1), (mi 2), (mi 3), (mi 4), (mi 5), (mi 6), (mi 7), (mi 8), (mi 9), (mi 10), (mi 11), (mi 12), n18, n19, n20, n21, (mi 17), (mi 18), (mi 19)] : List Int32).getD k 0), (fun k => ([(ma 0), (ma 1), (ma 2), (ma 3), (ma 4), (ma 5), (ma 6), (ma 7), (ma 8), (ma 9), (ma 10), n22, (ma 12), n23, (ma 14), (ma 15)] : List (Nat → Int32)).getD k (fun _ => 0)), n24, mL, hrX, hrM, hKX, hKM, hPX, hPM, hDX, hDM, hdj, hS, hIX, hWB, hRB, hBB, hIM, htm⟩ hl
set_option maxHeartbeats 4000000 in
set_option maxRecDepth 100000 in
theorem law_10 {p : Program} {e : Env} {s : State} {m : MethodId} {below : List Frame} {meth : Method} {c : Code} (l : Launch) {b L : Nat} {xs : Nat → Int32} (hL : L ≤ 3072) (C0 : lw_At p s m meth c b L xs) (dC : Nat → ClassId) (dI : Nat → Nat → Nat) (adK adV : Nat) (fS : Nat → Int32) (hZ : ZS adK adV fS (fun q : Nat => s.heap.size ≤ q) s s.heap) {aX aM : Nat} {i : Int32} (hi0 : 0 ≤ i.toInt) (hi1 : i.toInt + 6 ≤ (L : Int)) {H : Heap} {locs : List Loc} (hI : LI dC dI s aX aM H locs) {ls : Array Slot} (hl : lv_has ls 4 [(3, .int i), (2, .ref aM), (1, .ref aX), (0, .ref b)]) (kk : ∀ (H1 : Heap) (locs1 : List Loc) (ls1 : Array Slot), LI dC dI s aX aM H1 locs1 → lv_has ls1 4 [(3, .int i), (2, .ref aM), (1, .ref aX), (0, .ref b)] → W p l e room_1 s m #[Value.ref b] below meth c H1 locs1 103 20190 (lw_Z below #[Value.ref b] s) (F0 m 1540 ls1 [])) : W p l e room_1 s m #[Value.ref b] below meth c H locs 103 20190 (lw_Z below #[Value.ref b] s) (F0 m 540 ls []) := by
  obtain ⟨hx, hb, hr, hml, hown, hts, hX, hbl, hlocks, hgv⟩ := id C0
  have hown : s.vm.findClass RL = some m.cls := hown
  have hG : ∀ w ∈ GW, w.before _ s = true := fun w h => hts w (List.mem_filter.mp h).1
  have hA : ∀ q : Nat, s.heap.size ≤ q → (fun q : Nat => s.heap.size ≤ q) q := fun _ h => h
  have hbA : ¬ (fun q : Nat => s.heap.size ≤ q) b := Nat.not_le.mpr hbl
  obtain ⟨xr, xt, xi, xa, xJ, xL, mr, mt, mi, ma, mJ, mL, hrX, hrM, hKX, hKM, hPX, hPM, hDX, hDM, hdj, hS, hIX, hWB, hRB, hBB, hIM, htm⟩ := hI
  refine lv_aload_n hx hb dL_law_540 rfl (lv_at hl 2 rfl) ?_
  refine W.eq (g2 := F0 m 541 ls [.ref (xr 0)]) (by rw [hrX]) ?_
  refine lv_aload_n hx hb dL_law_541 rfl (lv_at hl 3 rfl) ?_
  refine lv_iload_n hx hb dL_law_542 rfl (lv_at hl 0 rfl) ?_
  refine lv_iconst (v := 1) hx hb dL_law_543 (by decide) ?_
  refine lv_iadd hx hb dL_law_544 ?_
  refine lv_topi (fun x1 ex1 => ?_)
  refine va_sld hx hb hX hbl hbA hS (sidx ex1 hi0 hi1 hL (by decide) (by decide)) dL_law_545 ?_
  refine lv_topi (fun x2 ex2 => ?_)
  have hFc := frA hDX hS hA
  refine va_calli (va_runV (As := [.int x2]) (rest := []) ⟨hx, hb, hml, hown, hG⟩ (kX8_fetch l dC dI xr xt (xi 0) (xi 1) (xi 2) (xi 3) (xi 4) (xi 5) (xi 6) (xi 7) (xi 8) (xi 9) (xi 10) (xi 11) (xi 12) (xi 13) (xi 14) (xi 15) (xi 16) (xa 0) (xa 1) (xa 2) (xa 3) (xa 4) (xa 5) (xa 6) (xa 7) (xa 8) (xa 9) (xa 10) (xa 11) (xa 12) (xa 13) (xa 14) xJ xL x2 H.size hIX hWB hRB) (cwV 1 hG (goodV gw806 gw807 gw808 gw129 gw809) rfl rfl rfl hd_X8_fetch ⟨(Nat.le_of_ble_eq_true rfl), (Nat.le_of_ble_eq_true rfl)⟩) ⟨fbW, va_recv hKX hPX (ci := 7) (q0 := 0) rfl rfl, pW_in hPX hKX hDX⟩ rfl rfl hl.1 rfl (lv_room (Nat.le_of_ble_eq_true rfl)) dL_law_546 ⟨(Nat.le_of_ble_eq_true rfl), (Nat.le_of_ble_eq_true rfl)⟩) hS (fun q _ h => hFc q h) hFc (fun r_4 u_ t_ H3 locs ht hvm hw hB hz1 hk1 hS => ?_)
  subst hw
  obtain ⟨n5, n6, n7, n8, n9, hP1, hD1, hIX, hWB, hRB⟩ := hB
  rw [ht] at hP1
  obtain ⟨hPM, hdj⟩ := mvO hPM hdj (fun k q hk => hD1.2 k q hk) hk1
  have hPX := hP1
  have hDX := dW hFc hD1
  refine lv_pop hx hb dL_law_549 rfl ?_
  refine lv_aload_n hx hb dL_law_550 rfl (lv_at hl 1 rfl) ?_
  refine W.eq (g2 := F0 m 551 ls [.ref (mr 0)]) (by rw [hrM]) ?_
  refine lv_aload_n hx hb dL_law_551 rfl (lv_at hl 3 rfl) ?_
  refine lv_iload_n hx hb dL_law_552 rfl (lv_at hl 0 rfl) ?_
  refine lv_iconst (v := 1) hx hb dL_law_553 (by decide) ?_
  refine lv_iadd hx hb dL_law_554 ?_
  refine lv_topi (fun x10 ex10 => ?_)
  refine va_sld hx hb hX hbl hbA hS (sidx ex10 hi0 hi1 hL (by decide) (by decide)) dL_law_555 ?_
  refine lv_topi (fun x11 ex11 => ?_)
  have hFc := frA hDM hS hA
  refine va_calli (va_runV (As := [.int x11]) (rest := []) ⟨hx, hb, hml, hown, hG⟩ (kX9_fetch l dC dI mr mt (mi 0) (mi 1) (mi 2) (mi 3) (mi 4) (mi 5) (mi 6) (mi 7) (mi 8) (mi 9) (mi 10) (mi 11) (mi 12) (mi 13) (mi 14) (mi 15) (mi 16) (mi 17) (mi 18) (mi 19) (ma 0) (ma 1) (ma 2) (ma 3) (ma 4) (ma 5) (ma 6) (ma 7) (ma 8) (ma 9) (ma 10) (ma 11) (ma 12) (ma 13) (ma 14) (ma 15) mJ mL x11 H3.size hIM) (cwV 1 hG (goodV gw1708 gw1709 gw1710 gw138 gw1711) rfl rfl rfl hd_X9_fetch ⟨(Nat.le_of_ble_eq_true rfl), (Nat.le_of_ble_eq_true rfl)⟩) ⟨fbW, va_recv hKM hPM (ci := 8) (q0 := 0) rfl rfl, pW_in hPM hKM hDM⟩ rfl rfl hl.1 rfl (lv_room (Nat.le_of_ble_eq_true rfl)) dL_law_556 ⟨(Nat.le_of_ble_eq_true rfl), (Nat.le_of_ble_eq_true rfl)⟩) hS (fun q _ h => hFc q h) hFc (fun r_13 u_ t_ H12 locs ht hvm hw hB hz1 hk1 hS => ?_)
  subst hw
  obtain ⟨n14, n15, n16, n17, hP1, hD1, hIM⟩ := hB
  rw [ht] at hP1
  obtain ⟨hPX, hdj⟩ := mvO hPX (dj_sym hdj) (fun k q hk => hD1.2 k q hk) hk1
  have hdj := dj_sym hdj
  have hPM := hP1
  have hDM := dW hFc hD1
  refine lv_pop hx hb dL_law_559 rfl ?_
  refine lv_goto (tgt := 1540) hx hb dL_law_560 (by decide) ?_
  exact kk H12 _ _ ⟨xr, xt, (fun k => ([(xi 0), (xi 1), (xi 2), (xi 3), (xi 4), (xi 5), (xi 6), (xi 7), (xi 8), (xi 9), (xi 10), (xi 11), (xi 12), (xi 13), n5, n6, (xi 16)] : List Int32).getD k 0), (fun k => ([(xa 0), (xa 1), (xa 2), (xa 3), (xa 4), (xa 5), (xa 6), (xa 7), n7, (xa 9), (xa 10), (xa 11), n8, (xa 13), (xa 14)] : List (Nat → Int32)).getD k (fun _ => 0)), n9, xL, mr, mt, (fun k => ([(mi 0), (mi 1), (mi 2), (mi 3), (mi 4), (mi 5), (mi 6), (mi 7), (mi 8), (mi 9), (mi 10), (mi 11), (mi 12), (mi 13), (mi 14), n14, n15, (mi 17), (mi 18), (mi 19)] : List Int32).getD k 0), (fun k => ([(ma 0), (ma 1), (ma 2), (ma 3), (ma 4), (ma 5), (ma 6), (ma 7), (ma 8), (ma 9), (ma 10), n16, (ma 12), n17, (ma 14), (ma 15)] : List (Nat → Int32)).getD k (fun _ => 0)), mJ, mL, hrX, hrM, hKX, hKM, hPX, hPM, hDX, hDM, hdj, hS, hIX, hWB, hRB, hBB, hIM, htm⟩ hl
set_option maxHeartbeats 4000000 in
set_option maxRecDepth 100000 in
theorem law_11 {p : Program} {e : Env} {s : State} {m : MethodId} {below : List Frame} {meth : Method} {c : Code} (l : Launch) {b L : Nat} {xs : Nat → Int32} (hL : L ≤ 3072) (C0 : lw_At p s m meth c b L xs) (dC : Nat → ClassId) (dI : Nat → Nat → Nat) (adK adV : Nat) (fS : Nat → Int32) (hZ : ZS adK adV fS (fun q : Nat => s.heap.size ≤ q) s s.heap) {aX aM : Nat} {i : Int32} (hi0 : 0 ≤ i.toInt) (hi1 : i.toInt + 6 ≤ (L : Int)) {H : Heap} {locs : List Loc} (hI : LI dC dI s aX aM H locs) {ls : Array Slot} (hl : lv_has ls 4 [(3, .int i), (2, .ref aM), (1, .ref aX), (0, .ref b)]) (kk : ∀ (H1 : Heap) (locs1 : List Loc) (ls1 : Array Slot), LI dC dI s aX aM H1 locs1 → lv_has ls1 4 [(3, .int i), (2, .ref aM), (1, .ref aX), (0, .ref b)] → W p l e room_1 s m #[Value.ref b] below meth c H1 locs1 103 20190 (lw_Z below #[Value.ref b] s) (F0 m 1540 ls1 [])) : W p l e room_1 s m #[Value.ref b] below meth c H locs 103 20190 (lw_Z below #[Value.ref b] s) (F0 m 563 ls []) := by
  obtain ⟨hx, hb, hr, hml, hown, hts, hX, hbl, hlocks, hgv⟩ := id C0
  have hown : s.vm.findClass RL = some m.cls := hown
  have hG : ∀ w ∈ GW, w.before _ s = true := fun w h => hts w (List.mem_filter.mp h).1
  have hA : ∀ q : Nat, s.heap.size ≤ q → (fun q : Nat => s.heap.size ≤ q) q := fun _ h => h
  have hbA : ¬ (fun q : Nat => s.heap.size ≤ q) b := Nat.not_le.mpr hbl
  obtain ⟨xr, xt, xi, xa, xJ, xL, mr, mt, mi, ma, mJ, mL, hrX, hrM, hKX, hKM, hPX, hPM, hDX, hDM, hdj, hS, hIX, hWB, hRB, hBB, hIM, htm⟩ := hI
  refine lv_aload_n hx hb dL_law_563 rfl (lv_at hl 2 rfl) ?_
  refine W.eq (g2 := F0 m 564 ls [.ref (xr 0)]) (by rw [hrX]) ?_
  refine lv_aload_n hx hb dL_law_564 rfl (lv_at hl 3 rfl) ?_
  refine lv_iload_n hx hb dL_law_565 rfl (lv_at hl 0 rfl) ?_
  refine lv_iconst (v := 1) hx hb dL_law_566 (by decide) ?_
  refine lv_iadd hx hb dL_law_567 ?_
  refine lv_topi (fun x1 ex1 => ?_)
  refine va_sld hx hb hX hbl hbA hS (sidx ex1 hi0 hi1 hL (by decide) (by decide)) dL_law_568 ?_
  refine lv_topi (fun x2 ex2 => ?_)
  have hFc := frA hDX hS hA
  refine va_calli (va_runV (As := [.int x2]) (rest := []) ⟨hx, hb, hml, hown, hG⟩ (kX8_give l dC dI xr xt (xi 0) (xi 1) (xi 2) (xi 3) (xi 4) (xi 5) (xi 6) (xi 7) (xi 8) (xi 9) (xi 10) (xi 11) (xi 12) (xi 13) (xi 14) (xi 15) (xi 16) (xa 0) (xa 1) (xa 2) (xa 3) (xa 4) (xa 5) (xa 6) (xa 7) (xa 8) (xa 9) (xa 10) (xa 11) (xa 12) (xa 13) (xa 14) xJ xL x2 H.size hIX hWB hRB) (cwV 1 hG (goodV gw810 gw811 gw812 gw129 gw813) rfl rfl rfl hd_X8_give ⟨(Nat.le_of_ble_eq_true rfl), (Nat.le_of_ble_eq_true rfl)⟩) ⟨fbW, va_recv hKX hPX (ci := 7) (q0 := 0) rfl rfl, pW_in hPX hKX hDX⟩ rfl rfl hl.1 rfl (lv_room (Nat.le_of_ble_eq_true rfl)) dL_law_569 ⟨(Nat.le_of_ble_eq_true rfl), (Nat.le_of_ble_eq_true rfl)⟩) hS (fun q _ h => hFc q h) hFc (fun r_4 u_ t_ H3 locs ht hvm hw hB hz1 hk1 hS => ?_)
  subst hw
  obtain ⟨n5, n6, n7, n8, n9, hP1, hD1, hIX, hWB, hRB⟩ := hB
  rw [ht] at hP1
  obtain ⟨hPM, hdj⟩ := mvO hPM hdj (fun k q hk => hD1.2 k q hk) hk1
  have hPX := hP1
  have hDX := dW hFc hD1
  refine lv_pop hx hb dL_law_572 rfl ?_
  refine lv_aload_n hx hb dL_law_573 rfl (lv_at hl 1 rfl) ?_
  refine W.eq (g2 := F0 m 574 ls [.ref (mr 0)]) (by rw [hrM]) ?_
  refine lv_aload_n hx hb dL_law_574 rfl (lv_at hl 3 rfl) ?_
  refine lv_iload_n hx hb dL_law_575 rfl (lv_at hl 0 rfl) ?_
  refine lv_iconst (v := 1) hx hb dL_law_576 (by decide) ?_
  refine lv_iadd hx hb dL_law_577 ?_
  refine lv_topi (fun x10 ex10 => ?_)
  refine va_sld hx hb hX hbl hbA hS (sidx ex10 hi0 hi1 hL (by decide) (by decide)) dL_law_578 ?_
  refine lv_topi (fun x11 ex11 => ?_)
  have hFc := frA hDM hS hA
  refine va_calli (va_runV (As := [.int x11]) (rest := []) ⟨hx, hb, hml, hown, hG⟩ (kX9_give l dC dI mr mt (mi 0) (mi 1) (mi 2) (mi 3) (mi 4) (mi 5) (mi 6) (mi 7) (mi 8) (mi 9) (mi 10) (mi 11) (mi 12) (mi 13) (mi 14) (mi 15) (mi 16) (mi 17) (mi 18) (mi 19) (ma 0) (ma 1) (ma 2) (ma 3) (ma 4) (ma 5) (ma 6) (ma 7) (ma 8) (ma 9) (ma 10) (ma 11) (ma 12) (ma 13) (ma 14) (ma 15) mJ mL x11 H3.size hIM) (cwV 1 hG (goodV gw1712 gw1713 gw1714 gw138 gw1715) rfl rfl rfl hd_X9_give ⟨(Nat.le_of_ble_eq_true rfl), (Nat.le_of_ble_eq_true rfl)⟩) ⟨fbW, va_recv hKM hPM (ci := 8) (q0 := 0) rfl rfl, pW_in hPM hKM hDM⟩ rfl rfl hl.1 rfl (lv_room (Nat.le_of_ble_eq_true rfl)) dL_law_579 ⟨(Nat.le_of_ble_eq_true rfl), (Nat.le_of_ble_eq_true rfl)⟩) hS (fun q _ h => hFc q h) hFc (fun r_13 u_ t_ H12 locs ht hvm hw hB hz1 hk1 hS => ?_)
  subst hw
  obtain ⟨n14, n15, n16, n17, hP1, hD1, hIM⟩ := hB
  rw [ht] at hP1
  obtain ⟨hPX, hdj⟩ := mvO hPX (dj_sym hdj) (fun k q hk => hD1.2 k q hk) hk1
  have hdj := dj_sym hdj
  have hPM := hP1
  have hDM := dW hFc hD1
  refine lv_pop hx hb dL_law_582 rfl ?_
  refine lv_goto (tgt := 1540) hx hb dL_law_583 (by decide) ?_
  exact kk H12 _ _ ⟨xr, xt, (fun k => ([(xi 0), (xi 1), (xi 2), (xi 3), (xi 4), (xi 5), (xi 6), (xi 7), (xi 8), (xi 9), (xi 10), (xi 11), (xi 12), (xi 13), n5, n6, (xi 16)] : List Int32).getD k 0), (fun k => ([(xa 0), (xa 1), (xa 2), (xa 3), (xa 4), (xa 5), (xa 6), (xa 7), n7, (xa 9), (xa 10), (xa 11), n8, (xa 13), (xa 14)] : List (Nat → Int32)).getD k (fun _ => 0)), n9, xL, mr, mt, (fun k => ([(mi 0), (mi 1), (mi 2), (mi 3), (mi 4), (mi 5), (mi 6), (mi 7), (mi 8), (mi 9), (mi 10), (mi 11), (mi 12), (mi 13), (mi 14), n14, n15, (mi 17), (mi 18), (mi 19)] : List Int32).getD k 0), (fun k => ([(ma 0), (ma 1), (ma 2), (ma 3), (ma 4), (ma 5), (ma 6), (ma 7), (ma 8), (ma 9), (ma 10), n16, (ma 12), n17, (ma 14), (ma 15)] : List (Nat → Int32)).getD k (fun _ => 0)), mJ, mL, hrX, hrM, hKX, hKM, hPX, hPM, hDX, hDM, hdj, hS, hIX, hWB, hRB, hBB, hIM, htm⟩ hl
set_option maxHeartbeats 4000000 in
set_option maxRecDepth 100000 in
theorem law_12 {p : Program} {e : Env} {s : State} {m : MethodId} {below : List Frame} {meth : Method} {c : Code} (l : Launch) {b L : Nat} {xs : Nat → Int32} (hL : L ≤ 3072) (C0 : lw_At p s m meth c b L xs) (dC : Nat → ClassId) (dI : Nat → Nat → Nat) (adK adV : Nat) (fS : Nat → Int32) (hZ : ZS adK adV fS (fun q : Nat => s.heap.size ≤ q) s s.heap) {aX aM : Nat} {i : Int32} (hi0 : 0 ≤ i.toInt) (hi1 : i.toInt + 6 ≤ (L : Int)) {H : Heap} {locs : List Loc} (hI : LI dC dI s aX aM H locs) {ls : Array Slot} (hl : lv_has ls 4 [(3, .int i), (2, .ref aM), (1, .ref aX), (0, .ref b)]) (kk : ∀ (H1 : Heap) (locs1 : List Loc) (ls1 : Array Slot), LI dC dI s aX aM H1 locs1 → lv_has ls1 4 [(3, .int i), (2, .ref aM), (1, .ref aX), (0, .ref b)] → W p l e room_1 s m #[Value.ref b] below meth c H1 locs1 103 20190 (lw_Z below #[Value.ref b] s) (F0 m 1540 ls1 [])) : W p l e room_1 s m #[Value.ref b] below meth c H locs 103 20190 (lw_Z below #[Value.ref b] s) (F0 m 586 ls []) := by
  obtain ⟨hx, hb, hr, hml, hown, hts, hX, hbl, hlocks, hgv⟩ := id C0
  have hown : s.vm.findClass RL = some m.cls := hown
  have hG : ∀ w ∈ GW, w.before _ s = true := fun w h => hts w (List.mem_filter.mp h).1
  have hA : ∀ q : Nat, s.heap.size ≤ q → (fun q : Nat => s.heap.size ≤ q) q := fun _ h => h
  have hbA : ¬ (fun q : Nat => s.heap.size ≤ q) b := Nat.not_le.mpr hbl
  obtain ⟨xr, xt, xi, xa, xJ, xL, mr, mt, mi, ma, mJ, mL, hrX, hrM, hKX, hKM, hPX, hPM, hDX, hDM, hdj, hS, hIX, hWB, hRB, hBB, hIM, htm⟩ := hI
  refine lv_aload_n hx hb dL_law_586 rfl (lv_at hl 2 rfl) ?_
  refine W.eq (g2 := F0 m 587 ls [.ref (xr 0)]) (by rw [hrX]) ?_
  refine lv_aload_n hx hb dL_law_587 rfl (lv_at hl 3 rfl) ?_
  refine lv_iload_n hx hb dL_law_588 rfl (lv_at hl 0 rfl) ?_
  refine lv_iconst (v := 1) hx hb dL_law_589 (by decide) ?_
  refine lv_iadd hx hb dL_law_590 ?_
  refine lv_topi (fun x1 ex1 => ?_)
  refine va_sld hx hb hX hbl hbA hS (sidx ex1 hi0 hi1 hL (by decide) (by decide)) dL_law_591 ?_
  refine lv_topi (fun x2 ex2 => ?_)
  refine lv_aload_n hx hb dL_law_592 rfl (lv_at hl 3 rfl) ?_
  refine lv_iload_n hx hb dL_law_593 rfl (lv_at hl 0 rfl) ?_
  refine lv_iconst (v := 2) hx hb dL_law_594 (by decide) ?_
  refine lv_iadd hx hb dL_law_595 ?_
  refine lv_topi (fun x3 ex3 => ?_)
  refine va_sld hx hb hX hbl hbA hS (sidx ex3 hi0 hi1 hL (by decide) (by decide)) dL_law_596 ?_
  refine lv_topi (fun x4 ex4 => ?_)
  have hFc := frA hDX hS hA
  refine va_calli (va_runV (As := [.int x2, .int x4]) (rest := []) ⟨hx, hb, hml, hown, hG⟩ (kX8_fill l dC dI xr xt (xi 0) (xi 1) (xi 2) (xi 3) (xi 4) (xi 5) (xi 6) (xi 7) (xi 8) (xi 9) (xi 10) (xi 11) (xi 12) (xi 13) (xi 14) (xi 15) (xi 16) (xa 0) (xa 1) (xa 2) (xa 3) (xa 4) (xa 5) (xa 6) (xa 7) (xa 8) (xa 9) (xa 10) (xa 11) (xa 12) (xa 13) (xa 14) xJ xL x2 x4 H.size hIX hWB hRB) (cwV 2 hG (goodV gw814 gw815 gw816 gw129 gw817) rfl rfl rfl hd_X8_fill ⟨(Nat.le_of_ble_eq_true rfl), (Nat.le_of_ble_eq_true rfl)⟩) ⟨fbW, va_recv hKX hPX (ci := 7) (q0 := 0) rfl rfl, pW_in hPX hKX hDX⟩ rfl rfl hl.1 rfl (lv_room (Nat.le_of_ble_eq_true rfl)) dL_law_597 ⟨(Nat.le_of_ble_eq_true rfl), (Nat.le_of_ble_eq_true rfl)⟩) hS (fun q _ h => hFc q h) hFc (fun r_6 u_ t_ H5 locs ht hvm hw hB hz1 hk1 hS => ?_)
  subst hw
  obtain ⟨n7, n8, n9, n10, hP1, hD1, hIX, hRB⟩ := hB
  rw [ht] at hP1
  obtain ⟨hPM, hdj⟩ := mvO hPM hdj (fun k q hk => hD1.2 k q hk) hk1
  have hPX := hP1
  have hDX := dW hFc hD1
  refine lv_pop hx hb dL_law_600 rfl ?_
  refine lv_aload_n hx hb dL_law_601 rfl (lv_at hl 1 rfl) ?_
  refine W.eq (g2 := F0 m 602 ls [.ref (mr 0)]) (by rw [hrM]) ?_
  refine lv_aload_n hx hb dL_law_602 rfl (lv_at hl 3 rfl) ?_
  refine lv_iload_n hx hb dL_law_603 rfl (lv_at hl 0 rfl) ?_
  refine lv_iconst (v := 1) hx hb dL_law_604 (by decide) ?_
  refine lv_iadd hx hb dL_law_605 ?_
  refine lv_topi (fun x11 ex11 => ?_)
  refine va_sld hx hb hX hbl hbA hS (sidx ex11 hi0 hi1 hL (by decide) (by decide)) dL_law_606 ?_
  refine lv_topi (fun x12 ex12 => ?_)
  refine lv_aload_n hx hb dL_law_607 rfl (lv_at hl 3 rfl) ?_
  refine lv_iload_n hx hb dL_law_608 rfl (lv_at hl 0 rfl) ?_
  refine lv_iconst (v := 2) hx hb dL_law_609 (by decide) ?_
  refine lv_iadd hx hb dL_law_610 ?_
  refine lv_topi (fun x13 ex13 => ?_)
  refine va_sld hx hb hX hbl hbA hS (sidx ex13 hi0 hi1 hL (by decide) (by decide)) dL_law_611 ?_
  refine lv_topi (fun x14 ex14 => ?_)
  have hFc := frA hDM hS hA
  refine va_calli (va_runV (As := [.int x12, .int x14]) (rest := []) ⟨hx, hb, hml, hown, hG⟩ (kX9_fill l dC dI mr mt (mi 0) (mi 1) (mi 2) (mi 3) (mi 4) (mi 5) (mi 6) (mi 7) (mi 8) (mi 9) (mi 10) (mi 11) (mi 12) (mi 13) (mi 14) (mi 15) (mi 16) (mi 17) (mi 18) (mi 19) (ma 0) (ma 1) (ma 2) (ma 3) (ma 4) (ma 5) (ma 6) (ma 7) (ma 8) (ma 9) (ma 10) (ma 11) (ma 12) (ma 13) (ma 14) (ma 15) mJ mL x12 x14 H5.size hIM) (cwV 2 hG (goodV gw1716 gw1717 gw1718 gw138 gw1719) rfl rfl rfl hd_X9_fill ⟨(Nat.le_of_ble_eq_true rfl), (Nat.le_of_ble_eq_true rfl)⟩) ⟨fbW, va_recv hKM hPM (ci := 8) (q0 := 0) rfl rfl, pW_in hPM hKM hDM⟩ rfl rfl hl.1 rfl (lv_room (Nat.le_of_ble_eq_true rfl)) dL_law_612 ⟨(Nat.le_of_ble_eq_true rfl), (Nat.le_of_ble_eq_true rfl)⟩) hS (fun q _ h => hFc q h) hFc (fun r_16 u_ t_ H15 locs ht hvm hw hB hz1 hk1 hS => ?_)
  subst hw
  obtain ⟨n17, n18, n19, n20, hP1, hD1, hIM⟩ := hB
  rw [ht] at hP1
  obtain ⟨hPX, hdj⟩ := mvO hPX (dj_sym hdj) (fun k q hk => hD1.2 k q hk) hk1
  have hdj := dj_sym hdj
  have hPM := hP1
  have hDM := dW hFc hD1
  refine lv_pop hx hb dL_law_615 rfl ?_
  refine lv_goto (tgt := 1540) hx hb dL_law_616 (by decide) ?_
  exact kk H15 _ _ ⟨xr, xt, (fun k => ([(xi 0), (xi 1), (xi 2), (xi 3), (xi 4), (xi 5), (xi 6), (xi 7), (xi 8), (xi 9), (xi 10), (xi 11), (xi 12), (xi 13), n7, n8, (xi 16)] : List Int32).getD k 0), (fun k => ([(xa 0), (xa 1), (xa 2), (xa 3), (xa 4), (xa 5), (xa 6), (xa 7), (xa 8), (xa 9), (xa 10), (xa 11), n9, (xa 13), (xa 14)] : List (Nat → Int32)).getD k (fun _ => 0)), n10, xL, mr, mt, (fun k => ([(mi 0), (mi 1), (mi 2), (mi 3), (mi 4), (mi 5), (mi 6), (mi 7), (mi 8), (mi 9), (mi 10), (mi 11), (mi 12), (mi 13), (mi 14), n17, n18, (mi 17), (mi 18), (mi 19)] : List Int32).getD k 0), (fun k => ([(ma 0), (ma 1), (ma 2), (ma 3), (ma 4), (ma 5), (ma 6), (ma 7), (ma 8), (ma 9), (ma 10), n19, (ma 12), n20, (ma 14), (ma 15)] : List (Nat → Int32)).getD k (fun _ => 0)), mJ, mL, hrX, hrM, hKX, hKM, hPX, hPM, hDX, hDM, hdj, hS, hIX, hWB, hRB, hBB, hIM, htm⟩ hl
set_option maxHeartbeats 4000000 in
set_option maxRecDepth 100000 in
theorem law_13 {p : Program} {e : Env} {s : State} {m : MethodId} {below : List Frame} {meth : Method} {c : Code} (l : Launch) {b L : Nat} {xs : Nat → Int32} (hL : L ≤ 3072) (C0 : lw_At p s m meth c b L xs) (dC : Nat → ClassId) (dI : Nat → Nat → Nat) (adK adV : Nat) (fS : Nat → Int32) (hZ : ZS adK adV fS (fun q : Nat => s.heap.size ≤ q) s s.heap) {aX aM : Nat} {i : Int32} (hi0 : 0 ≤ i.toInt) (hi1 : i.toInt + 6 ≤ (L : Int)) {H : Heap} {locs : List Loc} (hI : LI dC dI s aX aM H locs) {ls : Array Slot} (hl : lv_has ls 4 [(3, .int i), (2, .ref aM), (1, .ref aX), (0, .ref b)]) (kk : ∀ (H1 : Heap) (locs1 : List Loc) (ls1 : Array Slot), LI dC dI s aX aM H1 locs1 → lv_has ls1 4 [(3, .int i), (2, .ref aM), (1, .ref aX), (0, .ref b)] → W p l e room_1 s m #[Value.ref b] below meth c H1 locs1 103 20190 (lw_Z below #[Value.ref b] s) (F0 m 1540 ls1 [])) : W p l e room_1 s m #[Value.ref b] below meth c H locs 103 20190 (lw_Z below #[Value.ref b] s) (F0 m 619 ls []) := by
  obtain ⟨hx, hb, hr, hml, hown, hts, hX, hbl, hlocks, hgv⟩ := id C0
  have hown : s.vm.findClass RL = some m.cls := hown
  have hG : ∀ w ∈ GW, w.before _ s = true := fun w h => hts w (List.mem_filter.mp h).1
  have hA : ∀ q : Nat, s.heap.size ≤ q → (fun q : Nat => s.heap.size ≤ q) q := fun _ h => h
  have hbA : ¬ (fun q : Nat => s.heap.size ≤ q) b := Nat.not_le.mpr hbl
  obtain ⟨xr, xt, xi, xa, xJ, xL, mr, mt, mi, ma, mJ, mL, hrX, hrM, hKX, hKM, hPX, hPM, hDX, hDM, hdj, hS, hIX, hWB, hRB, hBB, hIM, htm⟩ := hI
  refine lv_aload_n hx hb dL_law_619 rfl (lv_at hl 2 rfl) ?_
  refine W.eq (g2 := F0 m 620 ls [.ref (xr 0)]) (by rw [hrX]) ?_
  have hFc := frA hDX hS hA
  refine va_calli (va_runV (As := []) (rest := []) ⟨hx, hb, hml, hown, hG⟩ (kX8_undo l dC dI xr xt (xi 0) (xi 1) (xi 2) (xi 3) (xi 4) (xi 5) (xi 6) (xi 7) (xi 8) (xi 9) (xi 10) (xi 11) (xi 12) (xi 13) (xi 14) (xi 15) (xi 16) (xa 0) (xa 1) (xa 2) (xa 3) (xa 4) (xa 5) (xa 6) (xa 7) (xa 8) (xa 9) (xa 10) (xa 11) (xa 12) (xa 13) (xa 14) xJ xL H.size hIX hWB hRB) (cwV 0 hG (goodV gw818 gw819 gw820 gw129 gw821) rfl rfl rfl hd_X8_undo ⟨(Nat.le_of_ble_eq_true rfl), (Nat.le_of_ble_eq_true rfl)⟩) ⟨fbW, va_recv hKX hPX (ci := 7) (q0 := 0) rfl rfl, pW_in hPX hKX hDX⟩ rfl rfl hl.1 rfl (lv_room (Nat.le_of_ble_eq_true rfl)) dL_law_620 ⟨(Nat.le_of_ble_eq_true rfl), (Nat.le_of_ble_eq_true rfl)⟩) hS (fun q _ h => hFc q h) hFc (fun r_2 u_ t_ H1 locs ht hvm hw hB hz1 hk1 hS => ?_)
  subst hw
  obtain ⟨n3, n4, n5, n6, n7, hP1, hD1, hIX, hWB, hRB⟩ := hB
  rw [ht] at hP1
  obtain ⟨hPM, hdj⟩ := mvO hPM hdj (fun k q hk => hD1.2 k q hk) hk1
  have hPX := hP1
  have hDX := dW hFc hD1
  refine lv_pop hx hb dL_law_623 rfl ?_
  refine lv_aload_n hx hb dL_law_624 rfl (lv_at hl 1 rfl) ?_
  refine W.eq (g2 := F0 m 625 ls [.ref (mr 0)]) (by rw [hrM]) ?_
  have hFc := frA hDM hS hA
  refine va_calli (va_runV (As := []) (rest := []) ⟨hx, hb, hml, hown, hG⟩ (kX9_undo l dC dI mr mt (mi 0) (mi 1) (mi 2) (mi 3) (mi 4) (mi 5) (mi 6) (mi 7) (mi 8) (mi 9) (mi 10) (mi 11) (mi 12) (mi 13) (mi 14) (mi 15) (mi 16) (mi 17) (mi 18) (mi 19) (ma 0) (ma 1) (ma 2) (ma 3) (ma 4) (ma 5) (ma 6) (ma 7) (ma 8) (ma 9) (ma 10) (ma 11) (ma 12) (ma 13) (ma 14) (ma 15) mJ mL H1.size hIM) (cwV 0 hG (goodV gw1720 gw1721 gw1722 gw138 gw1723) rfl rfl rfl hd_X9_undo ⟨(Nat.le_of_ble_eq_true rfl), (Nat.le_of_ble_eq_true rfl)⟩) ⟨fbW, va_recv hKM hPM (ci := 8) (q0 := 0) rfl rfl, pW_in hPM hKM hDM⟩ rfl rfl hl.1 rfl (lv_room (Nat.le_of_ble_eq_true rfl)) dL_law_625 ⟨(Nat.le_of_ble_eq_true rfl), (Nat.le_of_ble_eq_true rfl)⟩) hS (fun q _ h => hFc q h) hFc (fun r_9 u_ t_ H8 locs ht hvm hw hB hz1 hk1 hS => ?_)
  subst hw
  obtain ⟨n10, n11, n12, n13, hP1, hD1, hIM⟩ := hB
  rw [ht] at hP1
  obtain ⟨hPX, hdj⟩ := mvO hPX (dj_sym hdj) (fun k q hk => hD1.2 k q hk) hk1
  have hdj := dj_sym hdj
  have hPM := hP1
  have hDM := dW hFc hD1
  refine lv_pop hx hb dL_law_628 rfl ?_
  refine lv_goto (tgt := 1540) hx hb dL_law_629 (by decide) ?_
  exact kk H8 _ _ ⟨xr, xt, (fun k => ([(xi 0), (xi 1), (xi 2), (xi 3), (xi 4), (xi 5), (xi 6), (xi 7), (xi 8), (xi 9), (xi 10), (xi 11), (xi 12), (xi 13), n3, n4, (xi 16)] : List Int32).getD k 0), (fun k => ([(xa 0), (xa 1), (xa 2), (xa 3), (xa 4), (xa 5), (xa 6), (xa 7), n5, n6, (xa 10), (xa 11), (xa 12), (xa 13), (xa 14)] : List (Nat → Int32)).getD k (fun _ => 0)), n7, xL, mr, mt, (fun k => ([(mi 0), (mi 1), (mi 2), (mi 3), (mi 4), (mi 5), (mi 6), (mi 7), (mi 8), (mi 9), (mi 10), (mi 11), (mi 12), (mi 13), (mi 14), n10, n11, (mi 17), (mi 18), (mi 19)] : List Int32).getD k 0), (fun k => ([(ma 0), (ma 1), (ma 2), (ma 3), (ma 4), (ma 5), (ma 6), (ma 7), (ma 8), (ma 9), (ma 10), n12, (ma 12), n13, (ma 14), (ma 15)] : List (Nat → Int32)).getD k (fun _ => 0)), mJ, mL, hrX, hrM, hKX, hKM, hPX, hPM, hDX, hDM, hdj, hS, hIX, hWB, hRB, hBB, hIM, htm⟩ hl
set_option maxHeartbeats 4000000 in
set_option maxRecDepth 100000 in
theorem law_14 {p : Program} {e : Env} {s : State} {m : MethodId} {below : List Frame} {meth : Method} {c : Code} (l : Launch) {b L : Nat} {xs : Nat → Int32} (hL : L ≤ 3072) (C0 : lw_At p s m meth c b L xs) (dC : Nat → ClassId) (dI : Nat → Nat → Nat) (adK adV : Nat) (fS : Nat → Int32) (hZ : ZS adK adV fS (fun q : Nat => s.heap.size ≤ q) s s.heap) {aX aM : Nat} {i : Int32} (hi0 : 0 ≤ i.toInt) (hi1 : i.toInt + 6 ≤ (L : Int)) {H : Heap} {locs : List Loc} (hI : LI dC dI s aX aM H locs) {ls : Array Slot} (hl : lv_has ls 4 [(3, .int i), (2, .ref aM), (1, .ref aX), (0, .ref b)]) (kk : ∀ (H1 : Heap) (locs1 : List Loc) (ls1 : Array Slot), LI dC dI s aX aM H1 locs1 → lv_has ls1 4 [(3, .int i), (2, .ref aM), (1, .ref aX), (0, .ref b)] → W p l e room_1 s m #[Value.ref b] below meth c H1 locs1 103 20190 (lw_Z below #[Value.ref b] s) (F0 m 1540 ls1 [])) : W p l e room_1 s m #[Value.ref b] below meth c H locs 103 20190 (lw_Z below #[Value.ref b] s) (F0 m 632 ls []) := by
  obtain ⟨hx, hb, hr, hml, hown, hts, hX, hbl, hlocks, hgv⟩ := id C0
  have hown : s.vm.findClass RL = some m.cls := hown
  have hG : ∀ w ∈ GW, w.before _ s = true := fun w h => hts w (List.mem_filter.mp h).1
  have hA : ∀ q : Nat, s.heap.size ≤ q → (fun q : Nat => s.heap.size ≤ q) q := fun _ h => h
  have hbA : ¬ (fun q : Nat => s.heap.size ≤ q) b := Nat.not_le.mpr hbl
  obtain ⟨xr, xt, xi, xa, xJ, xL, mr, mt, mi, ma, mJ, mL, hrX, hrM, hKX, hKM, hPX, hPM, hDX, hDM, hdj, hS, hIX, hWB, hRB, hBB, hIM, htm⟩ := hI
  refine lv_aload_n hx hb dL_law_632 rfl (lv_at hl 2 rfl) ?_
  refine W.eq (g2 := F0 m 633 ls [.ref (xr 0)]) (by rw [hrX]) ?_
  have hFc := frA hDX hS hA
  refine va_calli (va_runV (As := []) (rest := []) ⟨hx, hb, hml, hown, hG⟩ (kX8_redo l dC dI xr xt (xi 0) (xi 1) (xi 2) (xi 3) (xi 4) (xi 5) (xi 6) (xi 7) (xi 8) (xi 9) (xi 10) (xi 11) (xi 12) (xi 13) (xi 14) (xi 15) (xi 16) (xa 0) (xa 1) (xa 2) (xa 3) (xa 4) (xa 5) (xa 6) (xa 7) (xa 8) (xa 9) (xa 10) (xa 11) (xa 12) (xa 13) (xa 14) xJ xL H.size hIX hWB hRB) (cwV 0 hG (goodV gw830 gw831 gw832 gw129 gw833) rfl rfl rfl hd_X8_redo ⟨(Nat.le_of_ble_eq_true rfl), (Nat.le_of_ble_eq_true rfl)⟩) ⟨fbW, va_recv hKX hPX (ci := 7) (q0 := 0) rfl rfl, pW_in hPX hKX hDX⟩ rfl rfl hl.1 rfl (lv_room (Nat.le_of_ble_eq_true rfl)) dL_law_633 ⟨(Nat.le_of_ble_eq_true rfl), (Nat.le_of_ble_eq_true rfl)⟩) hS (fun q _ h => hFc q h) hFc (fun r_2 u_ t_ H1 locs ht hvm hw hB hz1 hk1 hS => ?_)
  subst hw
  obtain ⟨n3, n4, n5, n6, n7, hP1, hD1, hIX, hWB, hRB⟩ := hB
  rw [ht] at hP1
  obtain ⟨hPM, hdj⟩ := mvO hPM hdj (fun k q hk => hD1.2 k q hk) hk1
  have hPX := hP1
  have hDX := dW hFc hD1
  refine lv_pop hx hb dL_law_636 rfl ?_
  refine lv_aload_n hx hb dL_law_637 rfl (lv_at hl 1 rfl) ?_
  refine W.eq (g2 := F0 m 638 ls [.ref (mr 0)]) (by rw [hrM]) ?_
  have hFc := frA hDM hS hA
  refine va_calli (va_runV (As := []) (rest := []) ⟨hx, hb, hml, hown, hG⟩ (kX9_redo l dC dI mr mt (mi 0) (mi 1) (mi 2) (mi 3) (mi 4) (mi 5) (mi 6) (mi 7) (mi 8) (mi 9) (mi 10) (mi 11) (mi 12) (mi 13) (mi 14) (mi 15) (mi 16) (mi 17) (mi 18) (mi 19) (ma 0) (ma 1) (ma 2) (ma 3) (ma 4) (ma 5) (ma 6) (ma 7) (ma 8) (ma 9) (ma 10) (ma 11) (ma 12) (ma 13) (ma 14) (ma 15) mJ mL H1.size hIM) (cwV 0 hG (goodV gw1728 gw1729 gw1730 gw138 gw1731) rfl rfl rfl hd_X9_redo ⟨(Nat.le_of_ble_eq_true rfl), (Nat.le_of_ble_eq_true rfl)⟩) ⟨fbW, va_recv hKM hPM (ci := 8) (q0 := 0) rfl rfl, pW_in hPM hKM hDM⟩ rfl rfl hl.1 rfl (lv_room (Nat.le_of_ble_eq_true rfl)) dL_law_638 ⟨(Nat.le_of_ble_eq_true rfl), (Nat.le_of_ble_eq_true rfl)⟩) hS (fun q _ h => hFc q h) hFc (fun r_9 u_ t_ H8 locs ht hvm hw hB hz1 hk1 hS => ?_)
  subst hw
  obtain ⟨n10, n11, n12, n13, hP1, hD1, hIM⟩ := hB
  rw [ht] at hP1
  obtain ⟨hPX, hdj⟩ := mvO hPX (dj_sym hdj) (fun k q hk => hD1.2 k q hk) hk1
  have hdj := dj_sym hdj
  have hPM := hP1
  have hDM := dW hFc hD1
  refine lv_pop hx hb dL_law_641 rfl ?_
  refine lv_goto (tgt := 1540) hx hb dL_law_642 (by decide) ?_
  exact kk H8 _ _ ⟨xr, xt, (fun k => ([(xi 0), (xi 1), (xi 2), (xi 3), (xi 4), (xi 5), (xi 6), (xi 7), (xi 8), (xi 9), (xi 10), (xi 11), (xi 12), (xi 13), n3, n4, (xi 16)] : List Int32).getD k 0), (fun k => ([(xa 0), (xa 1), (xa 2), (xa 3), (xa 4), (xa 5), (xa 6), (xa 7), n5, n6, (xa 10), (xa 11), (xa 12), (xa 13), (xa 14)] : List (Nat → Int32)).getD k (fun _ => 0)), n7, xL, mr, mt, (fun k => ([(mi 0), (mi 1), (mi 2), (mi 3), (mi 4), (mi 5), (mi 6), (mi 7), (mi 8), (mi 9), (mi 10), (mi 11), (mi 12), (mi 13), (mi 14), n10, n11, (mi 17), (mi 18), (mi 19)] : List Int32).getD k 0), (fun k => ([(ma 0), (ma 1), (ma 2), (ma 3), (ma 4), (ma 5), (ma 6), (ma 7), (ma 8), (ma 9), (ma 10), n12, (ma 12), n13, (ma 14), (ma 15)] : List (Nat → Int32)).getD k (fun _ => 0)), mJ, mL, hrX, hrM, hKX, hKM, hPX, hPM, hDX, hDM, hdj, hS, hIX, hWB, hRB, hBB, hIM, htm⟩ hl
set_option maxHeartbeats 4000000 in
set_option maxRecDepth 100000 in
theorem law_15 {p : Program} {e : Env} {s : State} {m : MethodId} {below : List Frame} {meth : Method} {c : Code} (l : Launch) {b L : Nat} {xs : Nat → Int32} (hL : L ≤ 3072) (C0 : lw_At p s m meth c b L xs) (dC : Nat → ClassId) (dI : Nat → Nat → Nat) (adK adV : Nat) (fS : Nat → Int32) (hZ : ZS adK adV fS (fun q : Nat => s.heap.size ≤ q) s s.heap) {aX aM : Nat} {i : Int32} (hi0 : 0 ≤ i.toInt) (hi1 : i.toInt + 6 ≤ (L : Int)) {H : Heap} {locs : List Loc} (hI : LI dC dI s aX aM H locs) {ls : Array Slot} (hl : lv_has ls 4 [(3, .int i), (2, .ref aM), (1, .ref aX), (0, .ref b)]) (kk : ∀ (H1 : Heap) (locs1 : List Loc) (ls1 : Array Slot), LI dC dI s aX aM H1 locs1 → lv_has ls1 4 [(3, .int i), (2, .ref aM), (1, .ref aX), (0, .ref b)] → W p l e room_1 s m #[Value.ref b] below meth c H1 locs1 103 20190 (lw_Z below #[Value.ref b] s) (F0 m 1540 ls1 [])) : W p l e room_1 s m #[Value.ref b] below meth c H locs 103 20190 (lw_Z below #[Value.ref b] s) (F0 m 645 ls []) := by
  obtain ⟨hx, hb, hr, hml, hown, hts, hX, hbl, hlocks, hgv⟩ := id C0
  have hown : s.vm.findClass RL = some m.cls := hown
  have hG : ∀ w ∈ GW, w.before _ s = true := fun w h => hts w (List.mem_filter.mp h).1
  have hA : ∀ q : Nat, s.heap.size ≤ q → (fun q : Nat => s.heap.size ≤ q) q := fun _ h => h
  have hbA : ¬ (fun q : Nat => s.heap.size ≤ q) b := Nat.not_le.mpr hbl
  obtain ⟨xr, xt, xi, xa, xJ, xL, mr, mt, mi, ma, mJ, mL, hrX, hrM, hKX, hKM, hPX, hPM, hDX, hDM, hdj, hS, hIX, hWB, hRB, hBB, hIM, htm⟩ := hI
  refine lv_aload_n hx hb dL_law_645 rfl (lv_at hl 2 rfl) ?_
  refine W.eq (g2 := F0 m 646 ls [.ref (xr 0)]) (by rw [hrX]) ?_
  refine lv_aload_n hx hb dL_law_646 rfl (lv_at hl 3 rfl) ?_
  refine lv_iload_n hx hb dL_law_647 rfl (lv_at hl 0 rfl) ?_
  refine lv_iconst (v := 1) hx hb dL_law_648 (by decide) ?_
  refine lv_iadd hx hb dL_law_649 ?_
  refine lv_topi (fun x1 ex1 => ?_)
  refine va_sld hx hb hX hbl hbA hS (sidx ex1 hi0 hi1 hL (by decide) (by decide)) dL_law_650 ?_
  refine lv_topi (fun x2 ex2 => ?_)
  refine lv_aload_n hx hb dL_law_651 rfl (lv_at hl 3 rfl) ?_
  refine lv_iload_n hx hb dL_law_652 rfl (lv_at hl 0 rfl) ?_
  refine lv_iconst (v := 2) hx hb dL_law_653 (by decide) ?_
  refine lv_iadd hx hb dL_law_654 ?_
  refine lv_topi (fun x3 ex3 => ?_)
  refine va_sld hx hb hX hbl hbA hS (sidx ex3 hi0 hi1 hL (by decide) (by decide)) dL_law_655 ?_
  refine lv_topi (fun x4 ex4 => ?_)
  refine lv_aload_n hx hb dL_law_656 rfl (lv_at hl 3 rfl) ?_
  refine lv_iload_n hx hb dL_law_657 rfl (lv_at hl 0 rfl) ?_
  refine lv_iconst (v := 3) hx hb dL_law_658 (by decide) ?_
  refine lv_iadd hx hb dL_law_659 ?_
  refine lv_topi (fun x5 ex5 => ?_)
  refine va_sld hx hb hX hbl hbA hS (sidx ex5 hi0 hi1 hL (by decide) (by decide)) dL_law_660 ?_
  refine lv_topi (fun x6 ex6 => ?_)
  have hFc := frA hDX hS hA
  refine va_calli (va_runV (As := [.int x2, .int x4, .int x6]) (rest := []) ⟨hx, hb, hml, hown, hG⟩ (kX8_will l dC dI xr xt (xi 0) (xi 1) (xi 2) (xi 3) (xi 4) (xi 5) (xi 6) (xi 7) (xi 8) (xi 9) (xi 10) (xi 11) (xi 12) (xi 13) (xi 14) (xi 15) (xi 16) (xa 0) (xa 1) (xa 2) (xa 3) (xa 4) (xa 5) (xa 6) (xa 7) (xa 8) (xa 9) (xa 10) (xa 11) (xa 12) (xa 13) (xa 14) xJ xL x2 x4 x6 H.size hIX hWB) (cwV 3 hG (goodV gw838 gw839 gw840 gw129 gw841) rfl rfl rfl hd_X8_will ⟨(Nat.le_of_ble_eq_true rfl), (Nat.le_of_ble_eq_true rfl)⟩) ⟨fbW, va_recv hKX hPX (ci := 7) (q0 := 0) rfl rfl, pW_in hPX hKX hDX⟩ rfl rfl hl.1 rfl (lv_room (Nat.le_of_ble_eq_true rfl)) dL_law_661 ⟨(Nat.le_of_ble_eq_true rfl), (Nat.le_of_ble_eq_true rfl)⟩) hS (fun q _ h => hFc q h) hFc (fun r_8 u_ t_ H7 locs ht hvm hw hB hz1 hk1 hS => ?_)
  subst hw
  obtain ⟨n9, n10, n11, hP1, hD1, hIX⟩ := hB
  rw [ht] at hP1
  obtain ⟨hPM, hdj⟩ := mvO hPM hdj (fun k q hk => hD1.2 k q hk) hk1
  have hPX := hP1
  have hDX := dW hFc hD1
  refine lv_pop hx hb dL_law_664 rfl ?_
  refine lv_aload_n hx hb dL_law_665 rfl (lv_at hl 1 rfl) ?_
  refine W.eq (g2 := F0 m 666 ls [.ref (mr 0)]) (by rw [hrM]) ?_
  refine lv_aload_n hx hb dL_law_666 rfl (lv_at hl 3 rfl) ?_
  refine lv_iload_n hx hb dL_law_667 rfl (lv_at hl 0 rfl) ?_
  refine lv_iconst (v := 1) hx hb dL_law_668 (by decide) ?_
  refine lv_iadd hx hb dL_law_669 ?_
  refine lv_topi (fun x12 ex12 => ?_)
  refine va_sld hx hb hX hbl hbA hS (sidx ex12 hi0 hi1 hL (by decide) (by decide)) dL_law_670 ?_
  refine lv_topi (fun x13 ex13 => ?_)
  refine lv_aload_n hx hb dL_law_671 rfl (lv_at hl 3 rfl) ?_
  refine lv_iload_n hx hb dL_law_672 rfl (lv_at hl 0 rfl) ?_
  refine lv_iconst (v := 2) hx hb dL_law_673 (by decide) ?_
  refine lv_iadd hx hb dL_law_674 ?_
  refine lv_topi (fun x14 ex14 => ?_)
  refine va_sld hx hb hX hbl hbA hS (sidx ex14 hi0 hi1 hL (by decide) (by decide)) dL_law_675 ?_
  refine lv_topi (fun x15 ex15 => ?_)
  refine lv_aload_n hx hb dL_law_676 rfl (lv_at hl 3 rfl) ?_
  refine lv_iload_n hx hb dL_law_677 rfl (lv_at hl 0 rfl) ?_
  refine lv_iconst (v := 3) hx hb dL_law_678 (by decide) ?_
  refine lv_iadd hx hb dL_law_679 ?_
  refine lv_topi (fun x16 ex16 => ?_)
  refine va_sld hx hb hX hbl hbA hS (sidx ex16 hi0 hi1 hL (by decide) (by decide)) dL_law_680 ?_
  refine lv_topi (fun x17 ex17 => ?_)
  have hFc := frA hDM hS hA
  refine va_calli (va_runV (As := [.int x13, .int x15, .int x17]) (rest := []) ⟨hx, hb, hml, hown, hG⟩ (kX9_will l dC dI mr mt (mi 0) (mi 1) (mi 2) (mi 3) (mi 4) (mi 5) (mi 6) (mi 7) (mi 8) (mi 9) (mi 10) (mi 11) (mi 12) (mi 13) (mi 14) (mi 15) (mi 16) (mi 17) (mi 18) (mi 19) (ma 0) (ma 1) (ma 2) (ma 3) (ma 4) (ma 5) (ma 6) (ma 7) (ma 8) (ma 9) (ma 10) (ma 11) (ma 12) (ma 13) (ma 14) (ma 15) mJ mL x13 x15 x17 H7.size hIM) (cwV 3 hG (goodV gw1732 gw1733 gw1734 gw138 gw1735) rfl rfl rfl hd_X9_will ⟨(Nat.le_of_ble_eq_true rfl), (Nat.le_of_ble_eq_true rfl)⟩) ⟨fbW, va_recv hKM hPM (ci := 8) (q0 := 0) rfl rfl, pW_in hPM hKM hDM⟩ rfl rfl hl.1 rfl (lv_room (Nat.le_of_ble_eq_true rfl)) dL_law_681 ⟨(Nat.le_of_ble_eq_true rfl), (Nat.le_of_ble_eq_true rfl)⟩) hS (fun q _ h => hFc q h) hFc (fun r_19 u_ t_ H18 locs ht hvm hw hB hz1 hk1 hS => ?_)
  subst hw
  obtain ⟨n20, n21, n22, n23, n24, hP1, hD1, hIM⟩ := hB
  rw [ht] at hP1
  obtain ⟨hPX, hdj⟩ := mvO hPX (dj_sym hdj) (fun k q hk => hD1.2 k q hk) hk1
  have hdj := dj_sym hdj
  have hPM := hP1
  have hDM := dW hFc hD1
  refine lv_pop hx hb dL_law_684 rfl ?_
  refine lv_goto (tgt := 1540) hx hb dL_law_685 (by decide) ?_
  exact kk H18 _ _ ⟨xr, xt, xi, (fun k => ([(xa 0), (xa 1), (xa 2), (xa 3), (xa 4), (xa 5), (xa 6), (xa 7), (xa 8), (xa 9), n9, n10, (xa 12), (xa 13), (xa 14)] : List (Nat → Int32)).getD k (fun _ => 0)), n11, xL, mr, mt, (fun k => ([(mi 0), (mi 1), (mi 2), (mi 3), (mi 4), (mi 5), (mi 6), (mi 7), (mi 8), (mi 9), (mi 10), (mi 11), (mi 12), n20, n21, (mi 15), (mi 16), (mi 17), (mi 18), (mi 19)] : List Int32).getD k 0), (fun k => ([(ma 0), (ma 1), (ma 2), (ma 3), (ma 4), (ma 5), (ma 6), (ma 7), (ma 8), (ma 9), (ma 10), n22, n23, (ma 13), (ma 14), (ma 15)] : List (Nat → Int32)).getD k (fun _ => 0)), n24, mL, hrX, hrM, hKX, hKM, hPX, hPM, hDX, hDM, hdj, hS, hIX, hWB, hRB, hBB, hIM, htm⟩ hl
set_option maxHeartbeats 4000000 in
set_option maxRecDepth 100000 in
theorem law_16 {p : Program} {e : Env} {s : State} {m : MethodId} {below : List Frame} {meth : Method} {c : Code} (l : Launch) {b L : Nat} {xs : Nat → Int32} (hL : L ≤ 3072) (C0 : lw_At p s m meth c b L xs) (dC : Nat → ClassId) (dI : Nat → Nat → Nat) (adK adV : Nat) (fS : Nat → Int32) (hZ : ZS adK adV fS (fun q : Nat => s.heap.size ≤ q) s s.heap) {aX aM : Nat} {i : Int32} (hi0 : 0 ≤ i.toInt) (hi1 : i.toInt + 6 ≤ (L : Int)) {H : Heap} {locs : List Loc} (hI : LI dC dI s aX aM H locs) {ls : Array Slot} (hl : lv_has ls 4 [(3, .int i), (2, .ref aM), (1, .ref aX), (0, .ref b)]) (kk : ∀ (H1 : Heap) (locs1 : List Loc) (ls1 : Array Slot), LI dC dI s aX aM H1 locs1 → lv_has ls1 4 [(3, .int i), (2, .ref aM), (1, .ref aX), (0, .ref b)] → W p l e room_1 s m #[Value.ref b] below meth c H1 locs1 103 20190 (lw_Z below #[Value.ref b] s) (F0 m 1540 ls1 [])) : W p l e room_1 s m #[Value.ref b] below meth c H locs 103 20190 (lw_Z below #[Value.ref b] s) (F0 m 688 ls []) := by
  obtain ⟨hx, hb, hr, hml, hown, hts, hX, hbl, hlocks, hgv⟩ := id C0
  have hown : s.vm.findClass RL = some m.cls := hown
  have hG : ∀ w ∈ GW, w.before _ s = true := fun w h => hts w (List.mem_filter.mp h).1
  have hA : ∀ q : Nat, s.heap.size ≤ q → (fun q : Nat => s.heap.size ≤ q) q := fun _ h => h
  have hbA : ¬ (fun q : Nat => s.heap.size ≤ q) b := Nat.not_le.mpr hbl
  obtain ⟨xr, xt, xi, xa, xJ, xL, mr, mt, mi, ma, mJ, mL, hrX, hrM, hKX, hKM, hPX, hPM, hDX, hDM, hdj, hS, hIX, hWB, hRB, hBB, hIM, htm⟩ := hI
  refine lv_aload_n hx hb dL_law_688 rfl (lv_at hl 2 rfl) ?_
  refine W.eq (g2 := F0 m 689 ls [.ref (xr 0)]) (by rw [hrX]) ?_
  refine lv_aload_n hx hb dL_law_689 rfl (lv_at hl 3 rfl) ?_
  refine lv_iload_n hx hb dL_law_690 rfl (lv_at hl 0 rfl) ?_
  refine lv_iconst (v := 1) hx hb dL_law_691 (by decide) ?_
  refine lv_iadd hx hb dL_law_692 ?_
  refine lv_topi (fun x1 ex1 => ?_)
  refine va_sld hx hb hX hbl hbA hS (sidx ex1 hi0 hi1 hL (by decide) (by decide)) dL_law_693 ?_
  refine lv_topi (fun x2 ex2 => ?_)
  refine lv_aload_n hx hb dL_law_694 rfl (lv_at hl 3 rfl) ?_
  refine lv_iload_n hx hb dL_law_695 rfl (lv_at hl 0 rfl) ?_
  refine lv_iconst (v := 2) hx hb dL_law_696 (by decide) ?_
  refine lv_iadd hx hb dL_law_697 ?_
  refine lv_topi (fun x3 ex3 => ?_)
  refine va_sld hx hb hX hbl hbA hS (sidx ex3 hi0 hi1 hL (by decide) (by decide)) dL_law_698 ?_
  refine lv_topi (fun x4 ex4 => ?_)
  have hFc := frA hDX hS hA
  refine va_calli (va_runV (As := [.int x2, .int x4]) (rest := []) ⟨hx, hb, hml, hown, hG⟩ (kX8_purse l dC dI xr xt (xi 0) (xi 1) (xi 2) (xi 3) (xi 4) (xi 5) (xi 6) (xi 7) (xi 8) (xi 9) (xi 10) (xi 11) (xi 12) (xi 13) (xi 14) (xi 15) (xi 16) (xa 0) (xa 1) (xa 2) (xa 3) (xa 4) (xa 5) (xa 6) (xa 7) (xa 8) (xa 9) (xa 10) (xa 11) (xa 12) (xa 13) (xa 14) xJ xL x2 x4 H.size hIX hWB) (cwV 2 hG (goodV gw853 gw854 gw855 gw129 gw856) rfl rfl rfl hd_X8_purse ⟨(Nat.le_of_ble_eq_true rfl), (Nat.le_of_ble_eq_true rfl)⟩) ⟨fbW, va_recv hKX hPX (ci := 7) (q0 := 0) rfl rfl, pW_in hPX hKX hDX⟩ rfl rfl hl.1 rfl (lv_room (Nat.le_of_ble_eq_true rfl)) dL_law_699 ⟨(Nat.le_of_ble_eq_true rfl), (Nat.le_of_ble_eq_true rfl)⟩) hS (fun q _ h => hFc q h) hFc (fun r_6 u_ t_ H5 locs ht hvm hw hB hz1 hk1 hS => ?_)
  subst hw
  obtain ⟨n7, n8, n9, hP1, hD1, hIX⟩ := hB
  rw [ht] at hP1
  obtain ⟨hPM, hdj⟩ := mvO hPM hdj (fun k q hk => hD1.2 k q hk) hk1
  have hPX := hP1
  have hDX := dW hFc hD1
  refine lv_pop hx hb dL_law_702 rfl ?_
  refine lv_aload_n hx hb dL_law_703 rfl (lv_at hl 1 rfl) ?_
  refine W.eq (g2 := F0 m 704 ls [.ref (mr 0)]) (by rw [hrM]) ?_
  refine lv_aload_n hx hb dL_law_704 rfl (lv_at hl 3 rfl) ?_
  refine lv_iload_n hx hb dL_law_705 rfl (lv_at hl 0 rfl) ?_
  refine lv_iconst (v := 1) hx hb dL_law_706 (by decide) ?_
  refine lv_iadd hx hb dL_law_707 ?_
  refine lv_topi (fun x10 ex10 => ?_)
  refine va_sld hx hb hX hbl hbA hS (sidx ex10 hi0 hi1 hL (by decide) (by decide)) dL_law_708 ?_
  refine lv_topi (fun x11 ex11 => ?_)
  refine lv_aload_n hx hb dL_law_709 rfl (lv_at hl 3 rfl) ?_
  refine lv_iload_n hx hb dL_law_710 rfl (lv_at hl 0 rfl) ?_
  refine lv_iconst (v := 2) hx hb dL_law_711 (by decide) ?_
  refine lv_iadd hx hb dL_law_712 ?_
  refine lv_topi (fun x12 ex12 => ?_)
  refine va_sld hx hb hX hbl hbA hS (sidx ex12 hi0 hi1 hL (by decide) (by decide)) dL_law_713 ?_
  refine lv_topi (fun x13 ex13 => ?_)
  have hFc := frA hDM hS hA
  refine va_calli (va_runV (As := [.int x11, .int x13]) (rest := []) ⟨hx, hb, hml, hown, hG⟩ (kX9_purse l dC dI mr mt (mi 0) (mi 1) (mi 2) (mi 3) (mi 4) (mi 5) (mi 6) (mi 7) (mi 8) (mi 9) (mi 10) (mi 11) (mi 12) (mi 13) (mi 14) (mi 15) (mi 16) (mi 17) (mi 18) (mi 19) (ma 0) (ma 1) (ma 2) (ma 3) (ma 4) (ma 5) (ma 6) (ma 7) (ma 8) (ma 9) (ma 10) (ma 11) (ma 12) (ma 13) (ma 14) (ma 15) mJ mL x11 x13 H5.size hIM) (cwV 2 hG (goodV gw1744 gw1745 gw1746 gw138 gw1747) rfl rfl rfl hd_X9_purse ⟨(Nat.le_of_ble_eq_true rfl), (Nat.le_of_ble_eq_true rfl)⟩) ⟨fbW, va_recv hKM hPM (ci := 8) (q0 := 0) rfl rfl, pW_in hPM hKM hDM⟩ rfl rfl hl.1 rfl (lv_room (Nat.le_of_ble_eq_true rfl)) dL_law_714 ⟨(Nat.le_of_ble_eq_true rfl), (Nat.le_of_ble_eq_true rfl)⟩) hS (fun q _ h => hFc q h) hFc (fun r_15 u_ t_ H14 locs ht hvm hw hB hz1 hk1 hS => ?_)
  subst hw
  obtain ⟨n16, n17, n18, n19, n20, hP1, hD1, hIM⟩ := hB
  rw [ht] at hP1
  obtain ⟨hPX, hdj⟩ := mvO hPX (dj_sym hdj) (fun k q hk => hD1.2 k q hk) hk1
  have hdj := dj_sym hdj
  have hPM := hP1
  have hDM := dW hFc hD1
  refine lv_pop hx hb dL_law_717 rfl ?_
  refine lv_goto (tgt := 1540) hx hb dL_law_718 (by decide) ?_
  exact kk H14 _ _ ⟨xr, xt, xi, (fun k => ([(xa 0), (xa 1), (xa 2), (xa 3), (xa 4), (xa 5), (xa 6), (xa 7), (xa 8), (xa 9), n7, n8, (xa 12), (xa 13), (xa 14)] : List (Nat → Int32)).getD k (fun _ => 0)), n9, xL, mr, mt, (fun k => ([(mi 0), (mi 1), (mi 2), (mi 3), (mi 4), (mi 5), (mi 6), (mi 7), (mi 8), (mi 9), (mi 10), (mi 11), (mi 12), n16, n17, (mi 15), (mi 16), (mi 17), (mi 18), (mi 19)] : List Int32).getD k 0), (fun k => ([(ma 0), (ma 1), (ma 2), (ma 3), (ma 4), (ma 5), (ma 6), (ma 7), (ma 8), (ma 9), (ma 10), n18, n19, (ma 13), (ma 14), (ma 15)] : List (Nat → Int32)).getD k (fun _ => 0)), n20, mL, hrX, hrM, hKX, hKM, hPX, hPM, hDX, hDM, hdj, hS, hIX, hWB, hRB, hBB, hIM, htm⟩ hl
set_option maxHeartbeats 4000000 in
set_option maxRecDepth 100000 in
theorem law_17 {p : Program} {e : Env} {s : State} {m : MethodId} {below : List Frame} {meth : Method} {c : Code} (l : Launch) {b L : Nat} {xs : Nat → Int32} (hL : L ≤ 3072) (C0 : lw_At p s m meth c b L xs) (dC : Nat → ClassId) (dI : Nat → Nat → Nat) (adK adV : Nat) (fS : Nat → Int32) (hZ : ZS adK adV fS (fun q : Nat => s.heap.size ≤ q) s s.heap) {aX aM : Nat} {i : Int32} (hi0 : 0 ≤ i.toInt) (hi1 : i.toInt + 6 ≤ (L : Int)) {H : Heap} {locs : List Loc} (hI : LI dC dI s aX aM H locs) {ls : Array Slot} (hl : lv_has ls 4 [(3, .int i), (2, .ref aM), (1, .ref aX), (0, .ref b)]) (kk : ∀ (H1 : Heap) (locs1 : List Loc) (ls1 : Array Slot), LI dC dI s aX aM H1 locs1 → lv_has ls1 4 [(3, .int i), (2, .ref aM), (1, .ref aX), (0, .ref b)] → W p l e room_1 s m #[Value.ref b] below meth c H1 locs1 103 20190 (lw_Z below #[Value.ref b] s) (F0 m 1540 ls1 [])) : W p l e room_1 s m #[Value.ref b] below meth c H locs 103 20190 (lw_Z below #[Value.ref b] s) (F0 m 721 ls []) := by
  obtain ⟨hx, hb, hr, hml, hown, hts, hX, hbl, hlocks, hgv⟩ := id C0
  have hown : s.vm.findClass RL = some m.cls := hown
  have hG : ∀ w ∈ GW, w.before _ s = true := fun w h => hts w (List.mem_filter.mp h).1
  have hA : ∀ q : Nat, s.heap.size ≤ q → (fun q : Nat => s.heap.size ≤ q) q := fun _ h => h
  have hbA : ¬ (fun q : Nat => s.heap.size ≤ q) b := Nat.not_le.mpr hbl
  obtain ⟨xr, xt, xi, xa, xJ, xL, mr, mt, mi, ma, mJ, mL, hrX, hrM, hKX, hKM, hPX, hPM, hDX, hDM, hdj, hS, hIX, hWB, hRB, hBB, hIM, htm⟩ := hI
  refine lv_aload_n hx hb dL_law_721 rfl (lv_at hl 2 rfl) ?_
  refine W.eq (g2 := F0 m 722 ls [.ref (xr 0)]) (by rw [hrX]) ?_
  refine lv_aload_n hx hb dL_law_722 rfl (lv_at hl 3 rfl) ?_
  refine lv_iload_n hx hb dL_law_723 rfl (lv_at hl 0 rfl) ?_
  refine lv_iconst (v := 1) hx hb dL_law_724 (by decide) ?_
  refine lv_iadd hx hb dL_law_725 ?_
  refine lv_topi (fun x1 ex1 => ?_)
  refine va_sld hx hb hX hbl hbA hS (sidx ex1 hi0 hi1 hL (by decide) (by decide)) dL_law_726 ?_
  refine lv_topi (fun x2 ex2 => ?_)
  have hFc := frA hDX hS hA
  refine va_calli (va_runV (As := [.int x2]) (rest := []) ⟨hx, hb, hml, hown, hG⟩ (kX8_takes l dC dI xr xt (xi 0) (xi 1) (xi 2) (xi 3) (xi 4) (xi 5) (xi 6) (xi 7) (xi 8) (xi 9) (xi 10) (xi 11) (xi 12) (xi 13) (xi 14) (xi 15) (xi 16) (xa 0) (xa 1) (xa 2) (xa 3) (xa 4) (xa 5) (xa 6) (xa 7) (xa 8) (xa 9) (xa 10) (xa 11) (xa 12) (xa 13) (xa 14) xJ xL x2 H.size hIX) (cwV 1 hG (goodV gw857 gw858 gw859 gw129 gw860) rfl rfl rfl hd_X8_takes ⟨(Nat.le_of_ble_eq_true rfl), (Nat.le_of_ble_eq_true rfl)⟩) ⟨fbW, va_recv hKX hPX (ci := 7) (q0 := 0) rfl rfl, pW_in hPX hKX hDX⟩ rfl rfl hl.1 rfl (lv_room (Nat.le_of_ble_eq_true rfl)) dL_law_727 ⟨(Nat.le_of_ble_eq_true rfl), (Nat.le_of_ble_eq_true rfl)⟩) hS (fun q _ h => hFc q h) hFc (fun r_4 u_ t_ H3 locs ht hvm hw hB hz1 hk1 hS => ?_)
  subst hw
  obtain ⟨n5, hP1, hD1, hIX⟩ := hB
  rw [ht] at hP1
  obtain ⟨hPM, hdj⟩ := mvO hPM hdj (fun k q hk => hD1.2 k q hk) hk1
  have hPX := hP1
  have hDX := dW hFc hD1
  refine lv_pop hx hb dL_law_730 rfl ?_
  refine lv_aload_n hx hb dL_law_731 rfl (lv_at hl 1 rfl) ?_
  refine W.eq (g2 := F0 m 732 ls [.ref (mr 0)]) (by rw [hrM]) ?_
  refine lv_aload_n hx hb dL_law_732 rfl (lv_at hl 3 rfl) ?_
  refine lv_iload_n hx hb dL_law_733 rfl (lv_at hl 0 rfl) ?_
  refine lv_iconst (v := 1) hx hb dL_law_734 (by decide) ?_
  refine lv_iadd hx hb dL_law_735 ?_
  refine lv_topi (fun x6 ex6 => ?_)
  refine va_sld hx hb hX hbl hbA hS (sidx ex6 hi0 hi1 hL (by decide) (by decide)) dL_law_736 ?_
  refine lv_topi (fun x7 ex7 => ?_)
  have hFc := frA hDM hS hA
  refine va_calli (va_runV (As := [.int x7]) (rest := []) ⟨hx, hb, hml, hown, hG⟩ (kX9_takes l dC dI mr mt (mi 0) (mi 1) (mi 2) (mi 3) (mi 4) (mi 5) (mi 6) (mi 7) (mi 8) (mi 9) (mi 10) (mi 11) (mi 12) (mi 13) (mi 14) (mi 15) (mi 16) (mi 17) (mi 18) (mi 19) (ma 0) (ma 1) (ma 2) (ma 3) (ma 4) (ma 5) (ma 6) (ma 7) (ma 8) (ma 9) (ma 10) (ma 11) (ma 12) (ma 13) (ma 14) (ma 15) mJ mL x7 H3.size hIM) (cwV 1 hG (goodV gw1602 gw1603 gw1604 gw138 gw1605) rfl rfl rfl hd_X9_takes ⟨(Nat.le_of_ble_eq_true rfl), (Nat.le_of_ble_eq_true rfl)⟩) ⟨fbW, va_recv hKM hPM (ci := 8) (q0 := 0) rfl rfl, pW_in hPM hKM hDM⟩ rfl rfl hl.1 rfl (lv_room (Nat.le_of_ble_eq_true rfl)) dL_law_737 ⟨(Nat.le_of_ble_eq_true rfl), (Nat.le_of_ble_eq_true rfl)⟩) hS (fun q _ h => hFc q h) hFc (fun r_9 u_ t_ H8 locs ht hvm hw hB hz1 hk1 hS => ?_)
  subst hw
  obtain ⟨n10, n11, n12, hP1, hD1, hIM⟩ := hB
  rw [ht] at hP1
  obtain ⟨hPX, hdj⟩ := mvO hPX (dj_sym hdj) (fun k q hk => hD1.2 k q hk) hk1
  have hdj := dj_sym hdj
  have hPM := hP1
  have hDM := dW hFc hD1
  refine lv_pop hx hb dL_law_740 rfl ?_
  refine lv_goto (tgt := 1540) hx hb dL_law_741 (by decide) ?_
  exact kk H8 _ _ ⟨xr, xt, xi, xa, n5, xL, mr, mt, (fun k => ([(mi 0), (mi 1), (mi 2), (mi 3), (mi 4), (mi 5), (mi 6), (mi 7), (mi 8), (mi 9), (mi 10), (mi 11), (mi 12), n10, n11, (mi 15), (mi 16), (mi 17), (mi 18), (mi 19)] : List Int32).getD k 0), ma, n12, mL, hrX, hrM, hKX, hKM, hPX, hPM, hDX, hDM, hdj, hS, hIX, hWB, hRB, hBB, hIM, htm⟩ hl
set_option maxHeartbeats 4000000 in
set_option maxRecDepth 100000 in
theorem law_18 {p : Program} {e : Env} {s : State} {m : MethodId} {below : List Frame} {meth : Method} {c : Code} (l : Launch) {b L : Nat} {xs : Nat → Int32} (hL : L ≤ 3072) (C0 : lw_At p s m meth c b L xs) (dC : Nat → ClassId) (dI : Nat → Nat → Nat) (adK adV : Nat) (fS : Nat → Int32) (hZ : ZS adK adV fS (fun q : Nat => s.heap.size ≤ q) s s.heap) {aX aM : Nat} {i : Int32} (hi0 : 0 ≤ i.toInt) (hi1 : i.toInt + 6 ≤ (L : Int)) {H : Heap} {locs : List Loc} (hI : LI dC dI s aX aM H locs) {ls : Array Slot} (hl : lv_has ls 4 [(3, .int i), (2, .ref aM), (1, .ref aX), (0, .ref b)]) (kk : ∀ (H1 : Heap) (locs1 : List Loc) (ls1 : Array Slot), LI dC dI s aX aM H1 locs1 → lv_has ls1 4 [(3, .int i), (2, .ref aM), (1, .ref aX), (0, .ref b)] → W p l e room_1 s m #[Value.ref b] below meth c H1 locs1 103 20190 (lw_Z below #[Value.ref b] s) (F0 m 1540 ls1 [])) : W p l e room_1 s m #[Value.ref b] below meth c H locs 103 20190 (lw_Z below #[Value.ref b] s) (F0 m 744 ls []) := by
  obtain ⟨hx, hb, hr, hml, hown, hts, hX, hbl, hlocks, hgv⟩ := id C0
  have hown : s.vm.findClass RL = some m.cls := hown
  have hG : ∀ w ∈ GW, w.before _ s = true := fun w h => hts w (List.mem_filter.mp h).1
  have hA : ∀ q : Nat, s.heap.size ≤ q → (fun q : Nat => s.heap.size ≤ q) q := fun _ h => h
  have hbA : ¬ (fun q : Nat => s.heap.size ≤ q) b := Nat.not_le.mpr hbl
  obtain ⟨xr, xt, xi, xa, xJ, xL, mr, mt, mi, ma, mJ, mL, hrX, hrM, hKX, hKM, hPX, hPM, hDX, hDM, hdj, hS, hIX, hWB, hRB, hBB, hIM, htm⟩ := hI
  refine lv_aload_n hx hb dL_law_744 rfl (lv_at hl 2 rfl) ?_
  refine W.eq (g2 := F0 m 745 ls [.ref (xr 0)]) (by rw [hrX]) ?_
  refine lv_aload_n hx hb dL_law_745 rfl (lv_at hl 3 rfl) ?_
  refine lv_iload_n hx hb dL_law_746 rfl (lv_at hl 0 rfl) ?_
  refine lv_iconst (v := 1) hx hb dL_law_747 (by decide) ?_
  refine lv_iadd hx hb dL_law_748 ?_
  refine lv_topi (fun x1 ex1 => ?_)
  refine va_sld hx hb hX hbl hbA hS (sidx ex1 hi0 hi1 hL (by decide) (by decide)) dL_law_749 ?_
  refine lv_topi (fun x2 ex2 => ?_)
  have hFc := frA hDX hS hA
  refine va_calli (va_runV (As := [.int x2]) (rest := []) ⟨hx, hb, hml, hown, hG⟩ (kX8_round l dC dI xr xt (xi 0) (xi 1) (xi 2) (xi 3) (xi 4) (xi 5) (xi 6) (xi 7) (xi 8) (xi 9) (xi 10) (xi 11) (xi 12) (xi 13) (xi 14) (xi 15) (xi 16) (xa 0) (xa 1) (xa 2) (xa 3) (xa 4) (xa 5) (xa 6) (xa 7) (xa 8) (xa 9) (xa 10) (xa 11) (xa 12) (xa 13) (xa 14) xJ xL x2 H.size hIX hWB) (cwV 1 hG (goodV gw891 gw892 gw893 gw129 gw894) rfl rfl rfl hd_X8_round ⟨(Nat.le_of_ble_eq_true rfl), (Nat.le_of_ble_eq_true rfl)⟩) ⟨fbW, va_recv hKX hPX (ci := 7) (q0 := 0) rfl rfl, pW_in hPX hKX hDX⟩ rfl rfl hl.1 rfl (lv_room (Nat.le_of_ble_eq_true rfl)) dL_law_750 ⟨(Nat.le_of_ble_eq_true rfl), (Nat.le_of_ble_eq_true rfl)⟩) hS (fun q _ h => hFc q h) hFc (fun r_4 u_ t_ H3 locs ht hvm hw hB hz1 hk1 hS => ?_)
  subst hw
  obtain ⟨n5, n6, n7, n8, hP1, hD1, hIX⟩ := hB
  rw [ht] at hP1
  obtain ⟨hPM, hdj⟩ := mvO hPM hdj (fun k q hk => hD1.2 k q hk) hk1
  have hPX := hP1
  have hDX := dW hFc hD1
  refine lv_pop hx hb dL_law_753 rfl ?_
  refine lv_aload_n hx hb dL_law_754 rfl (lv_at hl 1 rfl) ?_
  refine W.eq (g2 := F0 m 755 ls [.ref (mr 0)]) (by rw [hrM]) ?_
  refine lv_aload_n hx hb dL_law_755 rfl (lv_at hl 3 rfl) ?_
  refine lv_iload_n hx hb dL_law_756 rfl (lv_at hl 0 rfl) ?_
  refine lv_iconst (v := 1) hx hb dL_law_757 (by decide) ?_
  refine lv_iadd hx hb dL_law_758 ?_
  refine lv_topi (fun x9 ex9 => ?_)
  refine va_sld hx hb hX hbl hbA hS (sidx ex9 hi0 hi1 hL (by decide) (by decide)) dL_law_759 ?_
  refine lv_topi (fun x10 ex10 => ?_)
  have hFc := frA hDM hS hA
  refine va_calli (va_runV (As := [.int x10]) (rest := []) ⟨hx, hb, hml, hown, hG⟩ (kX9_round l dC dI mr mt (mi 0) (mi 1) (mi 2) (mi 3) (mi 4) (mi 5) (mi 6) (mi 7) (mi 8) (mi 9) (mi 10) (mi 11) (mi 12) (mi 13) (mi 14) (mi 15) (mi 16) (mi 17) (mi 18) (mi 19) (ma 0) (ma 1) (ma 2) (ma 3) (ma 4) (ma 5) (ma 6) (ma 7) (ma 8) (ma 9) (ma 10) (ma 11) (ma 12) (ma 13) (ma 14) (ma 15) mJ mL x10 H3.size hIM) (cwV 1 hG (goodV gw1752 gw1753 gw1754 gw138 gw1755) rfl rfl rfl hd_X9_round ⟨(Nat.le_of_ble_eq_true rfl), (Nat.le_of_ble_eq_true rfl)⟩) ⟨fbW, va_recv hKM hPM (ci := 8) (q0 := 0) rfl rfl, pW_in hPM hKM hDM⟩ rfl rfl hl.1 rfl (lv_room (Nat.le_of_ble_eq_true rfl)) dL_law_760 ⟨(Nat.le_of_ble_eq_true rfl), (Nat.le_of_ble_eq_true rfl)⟩) hS (fun q _ h => hFc q h) hFc (fun r_12 u_ t_ H11 locs ht hvm hw hB hz1 hk1 hS => ?_)
  subst hw
  obtain ⟨n13, n14, n15, n16, hP1, hD1, hIM⟩ := hB
  rw [ht] at hP1
  obtain ⟨hPX, hdj⟩ := mvO hPX (dj_sym hdj) (fun k q hk => hD1.2 k q hk) hk1
  have hdj := dj_sym hdj
  have hPM := hP1
  have hDM := dW hFc hD1
  refine lv_pop hx hb dL_law_763 rfl ?_
  refine lv_goto (tgt := 1540) hx hb dL_law_764 (by decide) ?_
  exact kk H11 _ _ ⟨xr, xt, (fun k => ([(xi 0), (xi 1), n5, (xi 3), (xi 4), (xi 5), (xi 6), (xi 7), (xi 8), (xi 9), (xi 10), (xi 11), (xi 12), (xi 13), (xi 14), (xi 15), (xi 16)] : List Int32).getD k 0), (fun k => ([(xa 0), (xa 1), n6, n7, (xa 4), (xa 5), (xa 6), (xa 7), (xa 8), (xa 9), (xa 10), (xa 11), (xa 12), (xa 13), (xa 14)] : List (Nat → Int32)).getD k (fun _ => 0)), n8, xL, mr, mt, (fun k => ([(mi 0), (mi 1), (mi 2), (mi 3), (mi 4), (mi 5), (mi 6), (mi 7), (mi 8), (mi 9), (mi 10), (mi 11), (mi 12), n13, n14, (mi 15), (mi 16), n15, (mi 18), (mi 19)] : List Int32).getD k 0), ma, n16, mL, hrX, hrM, hKX, hKM, hPX, hPM, hDX, hDM, hdj, hS, hIX, hWB, hRB, hBB, hIM, htm⟩ hl
set_option maxHeartbeats 4000000 in
set_option maxRecDepth 100000 in
theorem law_19 {p : Program} {e : Env} {s : State} {m : MethodId} {below : List Frame} {meth : Method} {c : Code} (l : Launch) {b L : Nat} {xs : Nat → Int32} (hL : L ≤ 3072) (C0 : lw_At p s m meth c b L xs) (dC : Nat → ClassId) (dI : Nat → Nat → Nat) (adK adV : Nat) (fS : Nat → Int32) (hZ : ZS adK adV fS (fun q : Nat => s.heap.size ≤ q) s s.heap) {aX aM : Nat} {i : Int32} (hi0 : 0 ≤ i.toInt) (hi1 : i.toInt + 6 ≤ (L : Int)) {H : Heap} {locs : List Loc} (hI : LI dC dI s aX aM H locs) {ls : Array Slot} (hl : lv_has ls 4 [(3, .int i), (2, .ref aM), (1, .ref aX), (0, .ref b)]) (kk : ∀ (H1 : Heap) (locs1 : List Loc) (ls1 : Array Slot), LI dC dI s aX aM H1 locs1 → lv_has ls1 4 [(3, .int i), (2, .ref aM), (1, .ref aX), (0, .ref b)] → W p l e room_1 s m #[Value.ref b] below meth c H1 locs1 103 20190 (lw_Z below #[Value.ref b] s) (F0 m 1540 ls1 [])) : W p l e room_1 s m #[Value.ref b] below meth c H locs 103 20190 (lw_Z below #[Value.ref b] s) (F0 m 767 ls []) := by
  obtain ⟨hx, hb, hr, hml, hown, hts, hX, hbl, hlocks, hgv⟩ := id C0
  have hown : s.vm.findClass RL = some m.cls := hown
  have hG : ∀ w ∈ GW, w.before _ s = true := fun w h => hts w (List.mem_filter.mp h).1
  have hA : ∀ q : Nat, s.heap.size ≤ q → (fun q : Nat => s.heap.size ≤ q) q := fun _ h => h
  have hbA : ¬ (fun q : Nat => s.heap.size ≤ q) b := Nat.not_le.mpr hbl
  obtain ⟨xr, xt, xi, xa, xJ, xL, mr, mt, mi, ma, mJ, mL, hrX, hrM, hKX, hKM, hPX, hPM, hDX, hDM, hdj, hS, hIX, hWB, hRB, hBB, hIM, htm⟩ := hI
  refine lv_aload_n hx hb dL_law_767 rfl (lv_at hl 2 rfl) ?_
  refine W.eq (g2 := F0 m 768 ls [.ref (xr 0)]) (by rw [hrX]) ?_
  refine lv_aload_n hx hb dL_law_768 rfl (lv_at hl 3 rfl) ?_
  refine lv_iload_n hx hb dL_law_769 rfl (lv_at hl 0 rfl) ?_
  refine lv_iconst (v := 1) hx hb dL_law_770 (by decide) ?_
  refine lv_iadd hx hb dL_law_771 ?_
  refine lv_topi (fun x1 ex1 => ?_)
  refine va_sld hx hb hX hbl hbA hS (sidx ex1 hi0 hi1 hL (by decide) (by decide)) dL_law_772 ?_
  refine lv_topi (fun x2 ex2 => ?_)
  have hFc := frA hDX hS hA
  refine va_calli (va_runV (As := [.int x2]) (rest := []) ⟨hx, hb, hml, hown, hG⟩ (kX8_walk l dC dI xr xt (xi 0) (xi 1) (xi 2) (xi 3) (xi 4) (xi 5) (xi 6) (xi 7) (xi 8) (xi 9) (xi 10) (xi 11) (xi 12) (xi 13) (xi 14) (xi 15) (xi 16) (xa 0) (xa 1) (xa 2) (xa 3) (xa 4) (xa 5) (xa 6) (xa 7) (xa 8) (xa 9) (xa 10) (xa 11) (xa 12) (xa 13) (xa 14) xJ xL x2 H.size hIX) (cwV 1 hG (goodV gw922 gw923 gw924 gw129 gw925) rfl rfl rfl hd_X8_walk ⟨(Nat.le_of_ble_eq_true rfl), (Nat.le_of_ble_eq_true rfl)⟩) ⟨fbW, va_recv hKX hPX (ci := 7) (q0 := 0) rfl rfl, pW_in hPX hKX hDX⟩ rfl rfl hl.1 rfl (lv_room (Nat.le_of_ble_eq_true rfl)) dL_law_773 ⟨(Nat.le_of_ble_eq_true rfl), (Nat.le_of_ble_eq_true rfl)⟩) hS (fun q _ h => hFc q h) hFc (fun r_4 u_ t_ H3 locs ht hvm hw hB hz1 hk1 hS => ?_)
  subst hw
  obtain ⟨n5, n6, n7, hP1, hD1, hIX⟩ := hB
  rw [ht] at hP1
  obtain ⟨hPM, hdj⟩ := mvO hPM hdj (fun k q hk => hD1.2 k q hk) hk1
  have hPX := hP1
  have hDX := dW hFc hD1
  refine lv_pop hx hb dL_law_776 rfl ?_
  refine lv_aload_n hx hb dL_law_777 rfl (lv_at hl 1 rfl) ?_
  refine W.eq (g2 := F0 m 778 ls [.ref (mr 0)]) (by rw [hrM]) ?_
  refine lv_aload_n hx hb dL_law_778 rfl (lv_at hl 3 rfl) ?_
  refine lv_iload_n hx hb dL_law_779 rfl (lv_at hl 0 rfl) ?_
  refine lv_iconst (v := 1) hx hb dL_law_780 (by decide) ?_
  refine lv_iadd hx hb dL_law_781 ?_
  refine lv_topi (fun x8 ex8 => ?_)
  refine va_sld hx hb hX hbl hbA hS (sidx ex8 hi0 hi1 hL (by decide) (by decide)) dL_law_782 ?_
  refine lv_topi (fun x9 ex9 => ?_)
  have hFc := frA hDM hS hA
  refine va_calli (va_runV (As := [.int x9]) (rest := []) ⟨hx, hb, hml, hown, hG⟩ (kX9_walk l dC dI mr mt (mi 0) (mi 1) (mi 2) (mi 3) (mi 4) (mi 5) (mi 6) (mi 7) (mi 8) (mi 9) (mi 10) (mi 11) (mi 12) (mi 13) (mi 14) (mi 15) (mi 16) (mi 17) (mi 18) (mi 19) (ma 0) (ma 1) (ma 2) (ma 3) (ma 4) (ma 5) (ma 6) (ma 7) (ma 8) (ma 9) (ma 10) (ma 11) (ma 12) (ma 13) (ma 14) (ma 15) mJ mL x9 H3.size hIM) (cwV 1 hG (goodV gw1767 gw1768 gw1769 gw138 gw1770) rfl rfl rfl hd_X9_walk ⟨(Nat.le_of_ble_eq_true rfl), (Nat.le_of_ble_eq_true rfl)⟩) ⟨fbW, va_recv hKM hPM (ci := 8) (q0 := 0) rfl rfl, pW_in hPM hKM hDM⟩ rfl rfl hl.1 rfl (lv_room (Nat.le_of_ble_eq_true rfl)) dL_law_783 ⟨(Nat.le_of_ble_eq_true rfl), (Nat.le_of_ble_eq_true rfl)⟩) hS (fun q _ h => hFc q h) hFc (fun r_11 u_ t_ H10 locs ht hvm hw hB hz1 hk1 hS => ?_)
  subst hw
  obtain ⟨n12, n13, hP1, hD1, hIM⟩ := hB
  rw [ht] at hP1
  obtain ⟨hPX, hdj⟩ := mvO hPX (dj_sym hdj) (fun k q hk => hD1.2 k q hk) hk1
  have hdj := dj_sym hdj
  have hPM := hP1
  have hDM := dW hFc hD1
  refine lv_pop hx hb dL_law_786 rfl ?_
  refine lv_goto (tgt := 1540) hx hb dL_law_787 (by decide) ?_
  exact kk H10 _ _ ⟨xr, xt, (fun k => ([(xi 0), (xi 1), n5, (xi 3), (xi 4), (xi 5), (xi 6), (xi 7), (xi 8), (xi 9), (xi 10), (xi 11), (xi 12), (xi 13), (xi 14), (xi 15), (xi 16)] : List Int32).getD k 0), (fun k => ([(xa 0), (xa 1), n6, (xa 3), (xa 4), (xa 5), (xa 6), (xa 7), (xa 8), (xa 9), (xa 10), (xa 11), (xa 12), (xa 13), (xa 14)] : List (Nat → Int32)).getD k (fun _ => 0)), n7, xL, mr, mt, (fun k => ([(mi 0), (mi 1), (mi 2), (mi 3), (mi 4), (mi 5), (mi 6), (mi 7), (mi 8), (mi 9), (mi 10), (mi 11), (mi 12), (mi 13), (mi 14), (mi 15), (mi 16), n12, (mi 18), (mi 19)] : List Int32).getD k 0), ma, n13, mL, hrX, hrM, hKX, hKM, hPX, hPM, hDX, hDM, hdj, hS, hIX, hWB, hRB, hBB, hIM, htm⟩ hl
set_option maxHeartbeats 4000000 in
set_option maxRecDepth 100000 in
theorem law_20 {p : Program} {e : Env} {s : State} {m : MethodId} {below : List Frame} {meth : Method} {c : Code} (l : Launch) {b L : Nat} {xs : Nat → Int32} (hL : L ≤ 3072) (C0 : lw_At p s m meth c b L xs) (dC : Nat → ClassId) (dI : Nat → Nat → Nat) (adK adV : Nat) (fS : Nat → Int32) (hZ : ZS adK adV fS (fun q : Nat => s.heap.size ≤ q) s s.heap) {aX aM : Nat} {i : Int32} (hi0 : 0 ≤ i.toInt) (hi1 : i.toInt + 6 ≤ (L : Int)) {H : Heap} {locs : List Loc} (hI : LI dC dI s aX aM H locs) {ls : Array Slot} (hl : lv_has ls 4 [(3, .int i), (2, .ref aM), (1, .ref aX), (0, .ref b)]) (kk : ∀ (H1 : Heap) (locs1 : List Loc) (ls1 : Array Slot), LI dC dI s aX aM H1 locs1 → lv_has ls1 4 [(3, .int i), (2, .ref aM), (1, .ref aX), (0, .ref b)] → W p l e room_1 s m #[Value.ref b] below meth c H1 locs1 103 20190 (lw_Z below #[Value.ref b] s) (F0 m 1540 ls1 [])) : W p l e room_1 s m #[Value.ref b] below meth c H locs 103 20190 (lw_Z below #[Value.ref b] s) (F0 m 790 ls []) := by
  obtain ⟨hx, hb, hr, hml, hown, hts, hX, hbl, hlocks, hgv⟩ := id C0
  have hown : s.vm.findClass RL = some m.cls := hown
  have hG : ∀ w ∈ GW, w.before _ s = true := fun w h => hts w (List.mem_filter.mp h).1
  have hA : ∀ q : Nat, s.heap.size ≤ q → (fun q : Nat => s.heap.size ≤ q) q := fun _ h => h
  have hbA : ¬ (fun q : Nat => s.heap.size ≤ q) b := Nat.not_le.mpr hbl
  obtain ⟨xr, xt, xi, xa, xJ, xL, mr, mt, mi, ma, mJ, mL, hrX, hrM, hKX, hKM, hPX, hPM, hDX, hDM, hdj, hS, hIX, hWB, hRB, hBB, hIM, htm⟩ := hI
  refine lv_aload_n hx hb dL_law_790 rfl (lv_at hl 2 rfl) ?_
  refine W.eq (g2 := F0 m 791 ls [.ref (xr 0)]) (by rw [hrX]) ?_
  have hFc := frA hDX hS hA
  refine va_calli (va_runV (As := []) (rest := []) ⟨hx, hb, hml, hown, hG⟩ (kX8_barter l dC dI xr xt (xi 0) (xi 1) (xi 2) (xi 3) (xi 4) (xi 5) (xi 6) (xi 7) (xi 8) (xi 9) (xi 10) (xi 11) (xi 12) (xi 13) (xi 14) (xi 15) (xi 16) (xa 0) (xa 1) (xa 2) (xa 3) (xa 4) (xa 5) (xa 6) (xa 7) (xa 8) (xa 9) (xa 10) (xa 11) (xa 12) (xa 13) (xa 14) xJ xL H.size hIX hWB) (cwV 0 hG (goodV gw940 gw941 gw942 gw129 gw943) rfl rfl rfl hd_X8_barter ⟨(Nat.le_of_ble_eq_true rfl), (Nat.le_of_ble_eq_true rfl)⟩) ⟨fbW, va_recv hKX hPX (ci := 7) (q0 := 0) rfl rfl, pW_in hPX hKX hDX⟩ rfl rfl hl.1 rfl (lv_room (Nat.le_of_ble_eq_true rfl)) dL_law_791 ⟨(Nat.le_of_ble_eq_true rfl), (Nat.le_of_ble_eq_true rfl)⟩) hS (fun q _ h => hFc q h) hFc (fun r_2 u_ t_ H1 locs ht hvm hw hB hz1 hk1 hS => ?_)
  subst hw
  obtain ⟨n3, n4, n5, n6, hP1, hD1, hIX⟩ := hB
  rw [ht] at hP1
  obtain ⟨hPM, hdj⟩ := mvO hPM hdj (fun k q hk => hD1.2 k q hk) hk1
  have hPX := hP1
  have hDX := dW hFc hD1
  refine lv_pop hx hb dL_law_794 rfl ?_
  refine lv_aload_n hx hb dL_law_795 rfl (lv_at hl 1 rfl) ?_
  refine W.eq (g2 := F0 m 796 ls [.ref (mr 0)]) (by rw [hrM]) ?_
  have hFc := frA hDM hS hA
  refine va_calli (va_runV (As := []) (rest := []) ⟨hx, hb, hml, hown, hG⟩ (kX9_barter l dC dI mr mt (mi 0) (mi 1) (mi 2) (mi 3) (mi 4) (mi 5) (mi 6) (mi 7) (mi 8) (mi 9) (mi 10) (mi 11) (mi 12) (mi 13) (mi 14) (mi 15) (mi 16) (mi 17) (mi 18) (mi 19) (ma 0) (ma 1) (ma 2) (ma 3) (ma 4) (ma 5) (ma 6) (ma 7) (ma 8) (ma 9) (ma 10) (ma 11) (ma 12) (ma 13) (ma 14) (ma 15) mJ mL H1.size hIM) (cwV 0 hG (goodV gw1778 gw1779 gw1780 gw138 gw1781) rfl rfl rfl hd_X9_barter ⟨(Nat.le_of_ble_eq_true rfl), (Nat.le_of_ble_eq_true rfl)⟩) ⟨fbW, va_recv hKM hPM (ci := 8) (q0 := 0) rfl rfl, pW_in hPM hKM hDM⟩ rfl rfl hl.1 rfl (lv_room (Nat.le_of_ble_eq_true rfl)) dL_law_796 ⟨(Nat.le_of_ble_eq_true rfl), (Nat.le_of_ble_eq_true rfl)⟩) hS (fun q _ h => hFc q h) hFc (fun r_8 u_ t_ H7 locs ht hvm hw hB hz1 hk1 hS => ?_)
  subst hw
  obtain ⟨n9, n10, n11, n12, hP1, hD1, hIM⟩ := hB
  rw [ht] at hP1
  obtain ⟨hPX, hdj⟩ := mvO hPX (dj_sym hdj) (fun k q hk => hD1.2 k q hk) hk1
  have hdj := dj_sym hdj
  have hPM := hP1
  have hDM := dW hFc hD1
  refine lv_pop hx hb dL_law_799 rfl ?_
  refine lv_goto (tgt := 1540) hx hb dL_law_800 (by decide) ?_
  exact kk H7 _ _ ⟨xr, xt, (fun k => ([(xi 0), (xi 1), n3, (xi 3), (xi 4), (xi 5), (xi 6), (xi 7), (xi 8), (xi 9), (xi 10), (xi 11), (xi 12), (xi 13), (xi 14), (xi 15), (xi 16)] : List Int32).getD k 0), (fun k => ([(xa 0), (xa 1), n4, n5, (xa 4), (xa 5), (xa 6), (xa 7), (xa 8), (xa 9), (xa 10), (xa 11), (xa 12), (xa 13), (xa 14)] : List (Nat → Int32)).getD k (fun _ => 0)), n6, xL, mr, mt, (fun k => ([(mi 0), (mi 1), (mi 2), (mi 3), (mi 4), (mi 5), (mi 6), (mi 7), (mi 8), (mi 9), (mi 10), (mi 11), (mi 12), n9, n10, (mi 15), (mi 16), n11, (mi 18), (mi 19)] : List Int32).getD k 0), ma, n12, mL, hrX, hrM, hKX, hKM, hPX, hPM, hDX, hDM, hdj, hS, hIX, hWB, hRB, hBB, hIM, htm⟩ hl
set_option maxHeartbeats 4000000 in
set_option maxRecDepth 100000 in
theorem law_21 {p : Program} {e : Env} {s : State} {m : MethodId} {below : List Frame} {meth : Method} {c : Code} (l : Launch) {b L : Nat} {xs : Nat → Int32} (hL : L ≤ 3072) (C0 : lw_At p s m meth c b L xs) (dC : Nat → ClassId) (dI : Nat → Nat → Nat) (adK adV : Nat) (fS : Nat → Int32) (hZ : ZS adK adV fS (fun q : Nat => s.heap.size ≤ q) s s.heap) {aX aM : Nat} {i : Int32} (hi0 : 0 ≤ i.toInt) (hi1 : i.toInt + 6 ≤ (L : Int)) {H : Heap} {locs : List Loc} (hI : LI dC dI s aX aM H locs) {ls : Array Slot} (hl : lv_has ls 4 [(3, .int i), (2, .ref aM), (1, .ref aX), (0, .ref b)]) (kk : ∀ (H1 : Heap) (locs1 : List Loc) (ls1 : Array Slot), LI dC dI s aX aM H1 locs1 → lv_has ls1 4 [(3, .int i), (2, .ref aM), (1, .ref aX), (0, .ref b)] → W p l e room_1 s m #[Value.ref b] below meth c H1 locs1 103 20190 (lw_Z below #[Value.ref b] s) (F0 m 1540 ls1 [])) : W p l e room_1 s m #[Value.ref b] below meth c H locs 103 20190 (lw_Z below #[Value.ref b] s) (F0 m 803 ls []) := by
  obtain ⟨hx, hb, hr, hml, hown, hts, hX, hbl, hlocks, hgv⟩ := id C0
  have hown : s.vm.findClass RL = some m.cls := hown
  have hG : ∀ w ∈ GW, w.before _ s = true := fun w h => hts w (List.mem_filter.mp h).1
  have hA : ∀ q : Nat, s.heap.size ≤ q → (fun q : Nat => s.heap.size ≤ q) q := fun _ h => h
  have hbA : ¬ (fun q : Nat => s.heap.size ≤ q) b := Nat.not_le.mpr hbl
  obtain ⟨xr, xt, xi, xa, xJ, xL, mr, mt, mi, ma, mJ, mL, hrX, hrM, hKX, hKM, hPX, hPM, hDX, hDM, hdj, hS, hIX, hWB, hRB, hBB, hIM, htm⟩ := hI
  refine lv_aload_n hx hb dL_law_803 rfl (lv_at hl 2 rfl) ?_
  refine W.eq (g2 := F0 m 804 ls [.ref (xr 0)]) (by rw [hrX]) ?_
  refine lv_aload_n hx hb dL_law_804 rfl (lv_at hl 3 rfl) ?_
  refine lv_iload_n hx hb dL_law_805 rfl (lv_at hl 0 rfl) ?_
  refine lv_iconst (v := 1) hx hb dL_law_806 (by decide) ?_
  refine lv_iadd hx hb dL_law_807 ?_
  refine lv_topi (fun x1 ex1 => ?_)
  refine va_sld hx hb hX hbl hbA hS (sidx ex1 hi0 hi1 hL (by decide) (by decide)) dL_law_808 ?_
  refine lv_topi (fun x2 ex2 => ?_)
  refine lv_aload_n hx hb dL_law_809 rfl (lv_at hl 3 rfl) ?_
  refine lv_iload_n hx hb dL_law_810 rfl (lv_at hl 0 rfl) ?_
  refine lv_iconst (v := 2) hx hb dL_law_811 (by decide) ?_
  refine lv_iadd hx hb dL_law_812 ?_
  refine lv_topi (fun x3 ex3 => ?_)
  refine va_sld hx hb hX hbl hbA hS (sidx ex3 hi0 hi1 hL (by decide) (by decide)) dL_law_813 ?_
  refine lv_topi (fun x4 ex4 => ?_)
  refine lv_aload_n hx hb dL_law_814 rfl (lv_at hl 3 rfl) ?_
  refine lv_iload_n hx hb dL_law_815 rfl (lv_at hl 0 rfl) ?_
  refine lv_iconst (v := 3) hx hb dL_law_816 (by decide) ?_
  refine lv_iadd hx hb dL_law_817 ?_
  refine lv_topi (fun x5 ex5 => ?_)
  refine va_sld hx hb hX hbl hbA hS (sidx ex5 hi0 hi1 hL (by decide) (by decide)) dL_law_818 ?_
  refine lv_topi (fun x6 ex6 => ?_)
  refine va_calli (va_runV (As := [.int x2, .int x4, .int x6]) (rest := []) ⟨hx, hb, hml, hown, hG⟩ (kX8_find l dC dI xr xt (xi 0) (xi 1) (xi 2) (xi 3) (xi 4) (xi 5) (xi 6) (xi 7) (xi 8) (xi 9) (xi 10) (xi 11) (xi 12) (xi 13) (xi 14) (xi 15) (xi 16) (xa 0) (xa 1) (xa 2) (xa 3) (xa 4) (xa 5) (xa 6) (xa 7) (xa 8) (xa 9) (xa 10) (xa 11) (xa 12) (xa 13) (xa 14) xJ xL x2 x4 x6 H.size hIX) (cwV 3 hG (goodV gw997 gw998 gw999 gw129 gw1000) rfl rfl rfl hd_X8_find ⟨(Nat.le_of_ble_eq_true rfl), (Nat.le_of_ble_eq_true rfl)⟩) ⟨fbR, va_recv hKX hPX (ci := 7) (q0 := 0) rfl rfl, pR_in hPX hKX⟩ rfl rfl hl.1 rfl (lv_room (Nat.le_of_ble_eq_true rfl)) dL_law_819 ⟨(Nat.le_of_ble_eq_true rfl), (Nat.le_of_ble_eq_true rfl)⟩) hS (fun q hq h => absurd hq (Nat.not_lt.mpr h)) (fun q h => hA q (Nat.le_trans hS.1 h)) (fun r_8 u_ t_ H7 locs ht hvm hw hB hz1 hk1 hS => ?_)
  subst hw
  have hPX := wk hPX hk1
  have hPM := wk hPM hk1
  refine lv_pop hx hb dL_law_822 rfl ?_
  refine lv_aload_n hx hb dL_law_823 rfl (lv_at hl 1 rfl) ?_
  refine W.eq (g2 := F0 m 824 ls [.ref (mr 0)]) (by rw [hrM]) ?_
  refine lv_aload_n hx hb dL_law_824 rfl (lv_at hl 3 rfl) ?_
  refine lv_iload_n hx hb dL_law_825 rfl (lv_at hl 0 rfl) ?_
  refine lv_iconst (v := 1) hx hb dL_law_826 (by decide) ?_
  refine lv_iadd hx hb dL_law_827 ?_
  refine lv_topi (fun x9 ex9 => ?_)
  refine va_sld hx hb hX hbl hbA hS (sidx ex9 hi0 hi1 hL (by decide) (by decide)) dL_law_828 ?_
  refine lv_topi (fun x10 ex10 => ?_)
  refine lv_aload_n hx hb dL_law_829 rfl (lv_at hl 3 rfl) ?_
  refine lv_iload_n hx hb dL_law_830 rfl (lv_at hl 0 rfl) ?_
  refine lv_iconst (v := 2) hx hb dL_law_831 (by decide) ?_
  refine lv_iadd hx hb dL_law_832 ?_
  refine lv_topi (fun x11 ex11 => ?_)
  refine va_sld hx hb hX hbl hbA hS (sidx ex11 hi0 hi1 hL (by decide) (by decide)) dL_law_833 ?_
  refine lv_topi (fun x12 ex12 => ?_)
  refine lv_aload_n hx hb dL_law_834 rfl (lv_at hl 3 rfl) ?_
  refine lv_iload_n hx hb dL_law_835 rfl (lv_at hl 0 rfl) ?_
  refine lv_iconst (v := 3) hx hb dL_law_836 (by decide) ?_
  refine lv_iadd hx hb dL_law_837 ?_
  refine lv_topi (fun x13 ex13 => ?_)
  refine va_sld hx hb hX hbl hbA hS (sidx ex13 hi0 hi1 hL (by decide) (by decide)) dL_law_838 ?_
  refine lv_topi (fun x14 ex14 => ?_)
  refine va_calli (va_runV (As := [.int x10, .int x12, .int x14]) (rest := []) ⟨hx, hb, hml, hown, hG⟩ (kX9_find l dC dI mr mt (mi 0) (mi 1) (mi 2) (mi 3) (mi 4) (mi 5) (mi 6) (mi 7) (mi 8) (mi 9) (mi 10) (mi 11) (mi 12) (mi 13) (mi 14) (mi 15) (mi 16) (mi 17) (mi 18) (mi 19) (ma 0) (ma 1) (ma 2) (ma 3) (ma 4) (ma 5) (ma 6) (ma 7) (ma 8) (ma 9) (ma 10) (ma 11) (ma 12) (ma 13) (ma 14) (ma 15) mJ mL x10 x12 x14 H7.size hIM) (cwV 3 hG (goodV gw1625 gw1626 gw1627 gw138 gw1628) rfl rfl rfl hd_X9_find ⟨(Nat.le_of_ble_eq_true rfl), (Nat.le_of_ble_eq_true rfl)⟩) ⟨fbR, va_recv hKM hPM (ci := 8) (q0 := 0) rfl rfl, pR_in hPM hKM⟩ rfl rfl hl.1 rfl (lv_room (Nat.le_of_ble_eq_true rfl)) dL_law_839 ⟨(Nat.le_of_ble_eq_true rfl), (Nat.le_of_ble_eq_true rfl)⟩) hS (fun q hq h => absurd hq (Nat.not_lt.mpr h)) (fun q h => hA q (Nat.le_trans hS.1 h)) (fun r_16 u_ t_ H15 locs ht hvm hw hB hz1 hk1 hS => ?_)
  subst hw
  have hPX := wk hPX hk1
  have hPM := wk hPM hk1
  refine lv_pop hx hb dL_law_842 rfl ?_
  refine lv_goto (tgt := 1540) hx hb dL_law_843 (by decide) ?_
  exact kk H15 _ _ ⟨xr, xt, xi, xa, xJ, xL, mr, mt, mi, ma, mJ, mL, hrX, hrM, hKX, hKM, hPX, hPM, hDX, hDM, hdj, hS, hIX, hWB, hRB, hBB, hIM, htm⟩ hl
set_option maxHeartbeats 4000000 in
set_option maxRecDepth 100000 in
theorem law_22 {p : Program} {e : Env} {s : State} {m : MethodId} {below : List Frame} {meth : Method} {c : Code} (l : Launch) {b L : Nat} {xs : Nat → Int32} (hL : L ≤ 3072) (C0 : lw_At p s m meth c b L xs) (dC : Nat → ClassId) (dI : Nat → Nat → Nat) (adK adV : Nat) (fS : Nat → Int32) (hZ : ZS adK adV fS (fun q : Nat => s.heap.size ≤ q) s s.heap) {aX aM : Nat} {i : Int32} (hi0 : 0 ≤ i.toInt) (hi1 : i.toInt + 6 ≤ (L : Int)) {H : Heap} {locs : List Loc} (hI : LI dC dI s aX aM H locs) {ls : Array Slot} (hl : lv_has ls 4 [(3, .int i), (2, .ref aM), (1, .ref aX), (0, .ref b)]) (kk : ∀ (H1 : Heap) (locs1 : List Loc) (ls1 : Array Slot), LI dC dI s aX aM H1 locs1 → lv_has ls1 4 [(3, .int i), (2, .ref aM), (1, .ref aX), (0, .ref b)] → W p l e room_1 s m #[Value.ref b] below meth c H1 locs1 103 20190 (lw_Z below #[Value.ref b] s) (F0 m 1540 ls1 [])) : W p l e room_1 s m #[Value.ref b] below meth c H locs 103 20190 (lw_Z below #[Value.ref b] s) (F0 m 846 ls []) := by
  obtain ⟨hx, hb, hr, hml, hown, hts, hX, hbl, hlocks, hgv⟩ := id C0
  have hown : s.vm.findClass RL = some m.cls := hown
  have hG : ∀ w ∈ GW, w.before _ s = true := fun w h => hts w (List.mem_filter.mp h).1
  have hA : ∀ q : Nat, s.heap.size ≤ q → (fun q : Nat => s.heap.size ≤ q) q := fun _ h => h
  have hbA : ¬ (fun q : Nat => s.heap.size ≤ q) b := Nat.not_le.mpr hbl
  obtain ⟨xr, xt, xi, xa, xJ, xL, mr, mt, mi, ma, mJ, mL, hrX, hrM, hKX, hKM, hPX, hPM, hDX, hDM, hdj, hS, hIX, hWB, hRB, hBB, hIM, htm⟩ := hI
  refine lv_aload_n hx hb dL_law_846 rfl (lv_at hl 2 rfl) ?_
  refine W.eq (g2 := F0 m 847 ls [.ref (xr 0)]) (by rw [hrX]) ?_
  refine lv_aload_n hx hb dL_law_847 rfl (lv_at hl 3 rfl) ?_
  refine lv_iload_n hx hb dL_law_848 rfl (lv_at hl 0 rfl) ?_
  refine lv_iconst (v := 1) hx hb dL_law_849 (by decide) ?_
  refine lv_iadd hx hb dL_law_850 ?_
  refine lv_topi (fun x1 ex1 => ?_)
  refine va_sld hx hb hX hbl hbA hS (sidx ex1 hi0 hi1 hL (by decide) (by decide)) dL_law_851 ?_
  refine lv_topi (fun x2 ex2 => ?_)
  refine lv_aload_n hx hb dL_law_852 rfl (lv_at hl 3 rfl) ?_
  refine lv_iload_n hx hb dL_law_853 rfl (lv_at hl 0 rfl) ?_
  refine lv_iconst (v := 2) hx hb dL_law_854 (by decide) ?_
  refine lv_iadd hx hb dL_law_855 ?_
  refine lv_topi (fun x3 ex3 => ?_)
  refine va_sld hx hb hX hbl hbA hS (sidx ex3 hi0 hi1 hL (by decide) (by decide)) dL_law_856 ?_
  refine lv_topi (fun x4 ex4 => ?_)
  refine lv_aload_n hx hb dL_law_857 rfl (lv_at hl 3 rfl) ?_
  refine lv_iload_n hx hb dL_law_858 rfl (lv_at hl 0 rfl) ?_
  refine lv_iconst (v := 3) hx hb dL_law_859 (by decide) ?_
  refine lv_iadd hx hb dL_law_860 ?_
  refine lv_topi (fun x5 ex5 => ?_)
  refine va_sld hx hb hX hbl hbA hS (sidx ex5 hi0 hi1 hL (by decide) (by decide)) dL_law_861 ?_
  refine lv_topi (fun x6 ex6 => ?_)
  refine va_calli (va_runV (As := [.int x2, .int x4, .int x6]) (rest := []) ⟨hx, hb, hml, hown, hG⟩ (kX8_hum l dC dI xr xt (xi 0) (xi 1) (xi 2) (xi 3) (xi 4) (xi 5) (xi 6) (xi 7) (xi 8) (xi 9) (xi 10) (xi 11) (xi 12) (xi 13) (xi 14) (xi 15) (xi 16) (xa 0) (xa 1) (xa 2) (xa 3) (xa 4) (xa 5) (xa 6) (xa 7) (xa 8) (xa 9) (xa 10) (xa 11) (xa 12) (xa 13) (xa 14) xJ xL x2 x4 x6 H.size hIX) (cwV 3 hG (goodV gw1009 gw1010 gw1011 gw129 gw1012) rfl rfl rfl hd_X8_hum ⟨(Nat.le_of_ble_eq_true rfl), (Nat.le_of_ble_eq_true rfl)⟩) ⟨fbR, va_recv hKX hPX (ci := 7) (q0 := 0) rfl rfl, pR_in hPX hKX⟩ rfl rfl hl.1 rfl (lv_room (Nat.le_of_ble_eq_true rfl)) dL_law_862 ⟨(Nat.le_of_ble_eq_true rfl), (Nat.le_of_ble_eq_true rfl)⟩) hS (fun q hq h => absurd hq (Nat.not_lt.mpr h)) (fun q h => hA q (Nat.le_trans hS.1 h)) (fun r_8 u_ t_ H7 locs ht hvm hw hB hz1 hk1 hS => ?_)
  subst hw
  have hPX := wk hPX hk1
  have hPM := wk hPM hk1
  refine lv_pop hx hb dL_law_865 rfl ?_
  refine lv_aload_n hx hb dL_law_866 rfl (lv_at hl 1 rfl) ?_
  refine W.eq (g2 := F0 m 867 ls [.ref (mr 0)]) (by rw [hrM]) ?_
  refine lv_aload_n hx hb dL_law_867 rfl (lv_at hl 3 rfl) ?_
  refine lv_iload_n hx hb dL_law_868 rfl (lv_at hl 0 rfl) ?_
  refine lv_iconst (v := 1) hx hb dL_law_869 (by decide) ?_
  refine lv_iadd hx hb dL_law_870 ?_
  refine lv_topi (fun x9 ex9 => ?_)
  refine va_sld hx hb hX hbl hbA hS (sidx ex9 hi0 hi1 hL (by decide) (by decide)) dL_law_871 ?_
  refine lv_topi (fun x10 ex10 => ?_)
  refine lv_aload_n hx hb dL_law_872 rfl (lv_at hl 3 rfl) ?_
  refine lv_iload_n hx hb dL_law_873 rfl (lv_at hl 0 rfl) ?_
  refine lv_iconst (v := 2) hx hb dL_law_874 (by decide) ?_
  refine lv_iadd hx hb dL_law_875 ?_
  refine lv_topi (fun x11 ex11 => ?_)
  refine va_sld hx hb hX hbl hbA hS (sidx ex11 hi0 hi1 hL (by decide) (by decide)) dL_law_876 ?_
  refine lv_topi (fun x12 ex12 => ?_)
  refine lv_aload_n hx hb dL_law_877 rfl (lv_at hl 3 rfl) ?_
  refine lv_iload_n hx hb dL_law_878 rfl (lv_at hl 0 rfl) ?_
  refine lv_iconst (v := 3) hx hb dL_law_879 (by decide) ?_
  refine lv_iadd hx hb dL_law_880 ?_
  refine lv_topi (fun x13 ex13 => ?_)
  refine va_sld hx hb hX hbl hbA hS (sidx ex13 hi0 hi1 hL (by decide) (by decide)) dL_law_881 ?_
  refine lv_topi (fun x14 ex14 => ?_)
  refine va_calli (va_runV (As := [.int x10, .int x12, .int x14]) (rest := []) ⟨hx, hb, hml, hown, hG⟩ (kX9_hum l dC dI mr mt (mi 0) (mi 1) (mi 2) (mi 3) (mi 4) (mi 5) (mi 6) (mi 7) (mi 8) (mi 9) (mi 10) (mi 11) (mi 12) (mi 13) (mi 14) (mi 15) (mi 16) (mi 17) (mi 18) (mi 19) (ma 0) (ma 1) (ma 2) (ma 3) (ma 4) (ma 5) (ma 6) (ma 7) (ma 8) (ma 9) (ma 10) (ma 11) (ma 12) (ma 13) (ma 14) (ma 15) mJ mL x10 x12 x14 H7.size hIM) (cwV 3 hG (goodV gw1632 gw1633 gw1634 gw138 gw1635) rfl rfl rfl hd_X9_hum ⟨(Nat.le_of_ble_eq_true rfl), (Nat.le_of_ble_eq_true rfl)⟩) ⟨fbR, va_recv hKM hPM (ci := 8) (q0 := 0) rfl rfl, pR_in hPM hKM⟩ rfl rfl hl.1 rfl (lv_room (Nat.le_of_ble_eq_true rfl)) dL_law_882 ⟨(Nat.le_of_ble_eq_true rfl), (Nat.le_of_ble_eq_true rfl)⟩) hS (fun q hq h => absurd hq (Nat.not_lt.mpr h)) (fun q h => hA q (Nat.le_trans hS.1 h)) (fun r_16 u_ t_ H15 locs ht hvm hw hB hz1 hk1 hS => ?_)
  subst hw
  have hPX := wk hPX hk1
  have hPM := wk hPM hk1
  refine lv_pop hx hb dL_law_885 rfl ?_
  refine lv_goto (tgt := 1540) hx hb dL_law_886 (by decide) ?_
  exact kk H15 _ _ ⟨xr, xt, xi, xa, xJ, xL, mr, mt, mi, ma, mJ, mL, hrX, hrM, hKX, hKM, hPX, hPM, hDX, hDM, hdj, hS, hIX, hWB, hRB, hBB, hIM, htm⟩ hl
set_option maxHeartbeats 4000000 in
set_option maxRecDepth 100000 in
theorem law_23 {p : Program} {e : Env} {s : State} {m : MethodId} {below : List Frame} {meth : Method} {c : Code} (l : Launch) {b L : Nat} {xs : Nat → Int32} (hL : L ≤ 3072) (C0 : lw_At p s m meth c b L xs) (dC : Nat → ClassId) (dI : Nat → Nat → Nat) (adK adV : Nat) (fS : Nat → Int32) (hZ : ZS adK adV fS (fun q : Nat => s.heap.size ≤ q) s s.heap) {aX aM : Nat} {i : Int32} (hi0 : 0 ≤ i.toInt) (hi1 : i.toInt + 6 ≤ (L : Int)) {H : Heap} {locs : List Loc} (hI : LI dC dI s aX aM H locs) {ls : Array Slot} (hl : lv_has ls 4 [(3, .int i), (2, .ref aM), (1, .ref aX), (0, .ref b)]) (kk : ∀ (H1 : Heap) (locs1 : List Loc) (ls1 : Array Slot), LI dC dI s aX aM H1 locs1 → lv_has ls1 4 [(3, .int i), (2, .ref aM), (1, .ref aX), (0, .ref b)] → W p l e room_1 s m #[Value.ref b] below meth c H1 locs1 103 20190 (lw_Z below #[Value.ref b] s) (F0 m 1540 ls1 [])) : W p l e room_1 s m #[Value.ref b] below meth c H locs 103 20190 (lw_Z below #[Value.ref b] s) (F0 m 889 ls []) := by
  obtain ⟨hx, hb, hr, hml, hown, hts, hX, hbl, hlocks, hgv⟩ := id C0
  have hown : s.vm.findClass RL = some m.cls := hown
  have hG : ∀ w ∈ GW, w.before _ s = true := fun w h => hts w (List.mem_filter.mp h).1
  have hA : ∀ q : Nat, s.heap.size ≤ q → (fun q : Nat => s.heap.size ≤ q) q := fun _ h => h
  have hbA : ¬ (fun q : Nat => s.heap.size ≤ q) b := Nat.not_le.mpr hbl
  obtain ⟨xr, xt, xi, xa, xJ, xL, mr, mt, mi, ma, mJ, mL, hrX, hrM, hKX, hKM, hPX, hPM, hDX, hDM, hdj, hS, hIX, hWB, hRB, hBB, hIM, htm⟩ := hI
  refine lv_aload_n hx hb dL_law_889 rfl (lv_at hl 2 rfl) ?_
  refine W.eq (g2 := F0 m 890 ls [.ref (xr 0)]) (by rw [hrX]) ?_
  have hFc := frA hDX hS hA
  refine va_calli (va_runV (As := []) (rest := []) ⟨hx, hb, hml, hown, hG⟩ (kX8_spinsters l dC dI xr xt (xi 0) (xi 1) (xi 2) (xi 3) (xi 4) (xi 5) (xi 6) (xi 7) (xi 8) (xi 9) (xi 10) (xi 11) (xi 12) (xi 13) (xi 14) (xi 15) (xi 16) (xa 0) (xa 1) (xa 2) (xa 3) (xa 4) (xa 5) (xa 6) (xa 7) (xa 8) (xa 9) (xa 10) (xa 11) (xa 12) (xa 13) (xa 14) xJ xL H.size hIX) (cwV 0 hG (goodV gw883 gw884 gw885 gw129 gw886) rfl rfl rfl hd_X8_spinsters ⟨(Nat.le_of_ble_eq_true rfl), (Nat.le_of_ble_eq_true rfl)⟩) ⟨fbW, va_recv hKX hPX (ci := 7) (q0 := 0) rfl rfl, pW_in hPX hKX hDX⟩ rfl rfl hl.1 rfl (lv_room (Nat.le_of_ble_eq_true rfl)) dL_law_890 ⟨(Nat.le_of_ble_eq_true rfl), (Nat.le_of_ble_eq_true rfl)⟩) hS (fun q _ h => hFc q h) hFc (fun r_2 u_ t_ H1 locs ht hvm hw hB hz1 hk1 hS => ?_)
  subst hw
  obtain ⟨n3, hP1, hD1, hIX⟩ := hB
  rw [ht] at hP1
  obtain ⟨hPM, hdj⟩ := mvO hPM hdj (fun k q hk => hD1.2 k q hk) hk1
  have hPX := hP1
  have hDX := dW hFc hD1
  refine lv_pop hx hb dL_law_893 rfl ?_
  refine lv_aload_n hx hb dL_law_894 rfl (lv_at hl 1 rfl) ?_
  refine W.eq (g2 := F0 m 895 ls [.ref (mr 0)]) (by rw [hrM]) ?_
  have hFc := frA hDM hS hA
  refine va_calli (va_runV (As := []) (rest := []) ⟨hx, hb, hml, hown, hG⟩ (kX9_spinsters l dC dI mr mt (mi 0) (mi 1) (mi 2) (mi 3) (mi 4) (mi 5) (mi 6) (mi 7) (mi 8) (mi 9) (mi 10) (mi 11) (mi 12) (mi 13) (mi 14) (mi 15) (mi 16) (mi 17) (mi 18) (mi 19) (ma 0) (ma 1) (ma 2) (ma 3) (ma 4) (ma 5) (ma 6) (ma 7) (ma 8) (ma 9) (ma 10) (ma 11) (ma 12) (ma 13) (ma 14) (ma 15) mJ mL H1.size hIM) (cwV 0 hG (goodV gw1640 gw1641 gw1642 gw138 gw1643) rfl rfl rfl hd_X9_spinsters ⟨(Nat.le_of_ble_eq_true rfl), (Nat.le_of_ble_eq_true rfl)⟩) ⟨fbW, va_recv hKM hPM (ci := 8) (q0 := 0) rfl rfl, pW_in hPM hKM hDM⟩ rfl rfl hl.1 rfl (lv_room (Nat.le_of_ble_eq_true rfl)) dL_law_895 ⟨(Nat.le_of_ble_eq_true rfl), (Nat.le_of_ble_eq_true rfl)⟩) hS (fun q _ h => hFc q h) hFc (fun r_5 u_ t_ H4 locs ht hvm hw hB hz1 hk1 hS => ?_)
  subst hw
  obtain ⟨n6, n7, n8, hP1, hD1, hIM⟩ := hB
  rw [ht] at hP1
  obtain ⟨hPX, hdj⟩ := mvO hPX (dj_sym hdj) (fun k q hk => hD1.2 k q hk) hk1
  have hdj := dj_sym hdj
  have hPM := hP1
  have hDM := dW hFc hD1
  refine lv_pop hx hb dL_law_898 rfl ?_
  refine lv_goto (tgt := 1540) hx hb dL_law_899 (by decide) ?_
  exact kk H4 _ _ ⟨xr, xt, xi, xa, n3, xL, mr, mt, (fun k => ([(mi 0), (mi 1), (mi 2), (mi 3), (mi 4), (mi 5), (mi 6), (mi 7), (mi 8), (mi 9), (mi 10), (mi 11), (mi 12), n6, n7, (mi 15), (mi 16), (mi 17), (mi 18), (mi 19)] : List Int32).getD k 0), ma, n8, mL, hrX, hrM, hKX, hKM, hPX, hPM, hDX, hDM, hdj, hS, hIX, hWB, hRB, hBB, hIM, htm⟩ hl
set_option maxHeartbeats 4000000 in
set_option maxRecDepth 100000 in
theorem law_24 {p : Program} {e : Env} {s : State} {m : MethodId} {below : List Frame} {meth : Method} {c : Code} (l : Launch) {b L : Nat} {xs : Nat → Int32} (hL : L ≤ 3072) (C0 : lw_At p s m meth c b L xs) (dC : Nat → ClassId) (dI : Nat → Nat → Nat) (adK adV : Nat) (fS : Nat → Int32) (hZ : ZS adK adV fS (fun q : Nat => s.heap.size ≤ q) s s.heap) {aX aM : Nat} {i : Int32} (hi0 : 0 ≤ i.toInt) (hi1 : i.toInt + 6 ≤ (L : Int)) {H : Heap} {locs : List Loc} (hI : LI dC dI s aX aM H locs) {ls : Array Slot} (hl : lv_has ls 4 [(3, .int i), (2, .ref aM), (1, .ref aX), (0, .ref b)]) (kk : ∀ (H1 : Heap) (locs1 : List Loc) (ls1 : Array Slot), LI dC dI s aX aM H1 locs1 → lv_has ls1 4 [(3, .int i), (2, .ref aM), (1, .ref aX), (0, .ref b)] → W p l e room_1 s m #[Value.ref b] below meth c H1 locs1 103 20190 (lw_Z below #[Value.ref b] s) (F0 m 1540 ls1 [])) : W p l e room_1 s m #[Value.ref b] below meth c H locs 103 20190 (lw_Z below #[Value.ref b] s) (F0 m 902 ls []) := by
  obtain ⟨hx, hb, hr, hml, hown, hts, hX, hbl, hlocks, hgv⟩ := id C0
  have hown : s.vm.findClass RL = some m.cls := hown
  have hG : ∀ w ∈ GW, w.before _ s = true := fun w h => hts w (List.mem_filter.mp h).1
  have hA : ∀ q : Nat, s.heap.size ≤ q → (fun q : Nat => s.heap.size ≤ q) q := fun _ h => h
  have hbA : ¬ (fun q : Nat => s.heap.size ≤ q) b := Nat.not_le.mpr hbl
  obtain ⟨xr, xt, xi, xa, xJ, xL, mr, mt, mi, ma, mJ, mL, hrX, hrM, hKX, hKM, hPX, hPM, hDX, hDM, hdj, hS, hIX, hWB, hRB, hBB, hIM, htm⟩ := hI
  refine lv_aload_n hx hb dL_law_902 rfl (lv_at hl 2 rfl) ?_
  refine W.eq (g2 := F0 m 903 ls [.ref (xr 0)]) (by rw [hrX]) ?_
  refine lv_aload_n hx hb dL_law_903 rfl (lv_at hl 3 rfl) ?_
  refine lv_iload_n hx hb dL_law_904 rfl (lv_at hl 0 rfl) ?_
  refine lv_iconst (v := 1) hx hb dL_law_905 (by decide) ?_
  refine lv_iadd hx hb dL_law_906 ?_
  refine lv_topi (fun x1 ex1 => ?_)
  refine va_sld hx hb hX hbl hbA hS (sidx ex1 hi0 hi1 hL (by decide) (by decide)) dL_law_907 ?_
  refine lv_topi (fun x2 ex2 => ?_)
  refine lv_aload_n hx hb dL_law_908 rfl (lv_at hl 3 rfl) ?_
  refine lv_iload_n hx hb dL_law_909 rfl (lv_at hl 0 rfl) ?_
  refine lv_iconst (v := 2) hx hb dL_law_910 (by decide) ?_
  refine lv_iadd hx hb dL_law_911 ?_
  refine lv_topi (fun x3 ex3 => ?_)
  refine va_sld hx hb hX hbl hbA hS (sidx ex3 hi0 hi1 hL (by decide) (by decide)) dL_law_912 ?_
  refine lv_topi (fun x4 ex4 => ?_)
  have hFc := frA hDX hS hA
  refine va_calli (va_runV (As := [.int x2, .int x4]) (rest := []) ⟨hx, hb, hml, hown, hG⟩ (kX8_pair l dC dI xr xt (xi 0) (xi 1) (xi 2) (xi 3) (xi 4) (xi 5) (xi 6) (xi 7) (xi 8) (xi 9) (xi 10) (xi 11) (xi 12) (xi 13) (xi 14) (xi 15) (xi 16) (xa 0) (xa 1) (xa 2) (xa 3) (xa 4) (xa 5) (xa 6) (xa 7) (xa 8) (xa 9) (xa 10) (xa 11) (xa 12) (xa 13) (xa 14) xJ xL x2 x4 H.size hIX) (cwV 2 hG (goodV gw1013 gw1014 gw1015 gw129 gw1016) rfl rfl rfl hd_X8_pair ⟨(Nat.le_of_ble_eq_true rfl), (Nat.le_of_ble_eq_true rfl)⟩) ⟨fbW, va_recv hKX hPX (ci := 7) (q0 := 0) rfl rfl, pW_in hPX hKX hDX⟩ rfl rfl hl.1 rfl (lv_room (Nat.le_of_ble_eq_true rfl)) dL_law_913 ⟨(Nat.le_of_ble_eq_true rfl), (Nat.le_of_ble_eq_true rfl)⟩) hS (fun q _ h => hFc q h) hFc (fun r_6 u_ t_ H5 locs ht hvm hw hB hz1 hk1 hS => ?_)
  subst hw
  obtain ⟨n7, hP1, hD1, hIX⟩ := hB
  rw [ht] at hP1
  obtain ⟨hPM, hdj⟩ := mvO hPM hdj (fun k q hk => hD1.2 k q hk) hk1
  have hPX := hP1
  have hDX := dW hFc hD1
  refine lv_pop hx hb dL_law_916 rfl ?_
  refine lv_aload_n hx hb dL_law_917 rfl (lv_at hl 1 rfl) ?_
  refine W.eq (g2 := F0 m 918 ls [.ref (mr 0)]) (by rw [hrM]) ?_
  refine lv_aload_n hx hb dL_law_918 rfl (lv_at hl 3 rfl) ?_
  refine lv_iload_n hx hb dL_law_919 rfl (lv_at hl 0 rfl) ?_
  refine lv_iconst (v := 1) hx hb dL_law_920 (by decide) ?_
  refine lv_iadd hx hb dL_law_921 ?_
  refine lv_topi (fun x8 ex8 => ?_)
  refine va_sld hx hb hX hbl hbA hS (sidx ex8 hi0 hi1 hL (by decide) (by decide)) dL_law_922 ?_
  refine lv_topi (fun x9 ex9 => ?_)
  refine lv_aload_n hx hb dL_law_923 rfl (lv_at hl 3 rfl) ?_
  refine lv_iload_n hx hb dL_law_924 rfl (lv_at hl 0 rfl) ?_
  refine lv_iconst (v := 2) hx hb dL_law_925 (by decide) ?_
  refine lv_iadd hx hb dL_law_926 ?_
  refine lv_topi (fun x10 ex10 => ?_)
  refine va_sld hx hb hX hbl hbA hS (sidx ex10 hi0 hi1 hL (by decide) (by decide)) dL_law_927 ?_
  refine lv_topi (fun x11 ex11 => ?_)
  have hFc := frA hDM hS hA
  refine va_calli (va_runV (As := [.int x9, .int x11]) (rest := []) ⟨hx, hb, hml, hown, hG⟩ (kX9_pair l dC dI mr mt (mi 0) (mi 1) (mi 2) (mi 3) (mi 4) (mi 5) (mi 6) (mi 7) (mi 8) (mi 9) (mi 10) (mi 11) (mi 12) (mi 13) (mi 14) (mi 15) (mi 16) (mi 17) (mi 18) (mi 19) (ma 0) (ma 1) (ma 2) (ma 3) (ma 4) (ma 5) (ma 6) (ma 7) (ma 8) (ma 9) (ma 10) (ma 11) (ma 12) (ma 13) (ma 14) (ma 15) mJ mL x9 x11 H5.size hIM) (cwV 2 hG (goodV gw1652 gw1653 gw1654 gw138 gw1655) rfl rfl rfl hd_X9_pair ⟨(Nat.le_of_ble_eq_true rfl), (Nat.le_of_ble_eq_true rfl)⟩) ⟨fbW, va_recv hKM hPM (ci := 8) (q0 := 0) rfl rfl, pW_in hPM hKM hDM⟩ rfl rfl hl.1 rfl (lv_room (Nat.le_of_ble_eq_true rfl)) dL_law_928 ⟨(Nat.le_of_ble_eq_true rfl), (Nat.le_of_ble_eq_true rfl)⟩) hS (fun q _ h => hFc q h) hFc (fun r_13 u_ t_ H12 locs ht hvm hw hB hz1 hk1 hS => ?_)
  subst hw
  obtain ⟨n14, n15, n16, hP1, hD1, hIM⟩ := hB
  rw [ht] at hP1
  obtain ⟨hPX, hdj⟩ := mvO hPX (dj_sym hdj) (fun k q hk => hD1.2 k q hk) hk1
  have hdj := dj_sym hdj
  have hPM := hP1
  have hDM := dW hFc hD1
  refine lv_pop hx hb dL_law_931 rfl ?_
  refine lv_goto (tgt := 1540) hx hb dL_law_932 (by decide) ?_
  exact kk H12 _ _ ⟨xr, xt, xi, xa, n7, xL, mr, mt, (fun k => ([(mi 0), (mi 1), (mi 2), (mi 3), (mi 4), (mi 5), (mi 6), (mi 7), (mi 8), (mi 9), (mi 10), (mi 11), (mi 12), n14, n15, (mi 15), (mi 16), (mi 17), (mi 18), (mi 19)] : List Int32).getD k 0), ma, n16, mL, hrX, hrM, hKX, hKM, hPX, hPM, hDX, hDM, hdj, hS, hIX, hWB, hRB, hBB, hIM, htm⟩ hl
set_option maxHeartbeats 4000000 in
set_option maxRecDepth 100000 in
theorem law_25 {p : Program} {e : Env} {s : State} {m : MethodId} {below : List Frame} {meth : Method} {c : Code} (l : Launch) {b L : Nat} {xs : Nat → Int32} (hL : L ≤ 3072) (C0 : lw_At p s m meth c b L xs) (dC : Nat → ClassId) (dI : Nat → Nat → Nat) (adK adV : Nat) (fS : Nat → Int32) (hZ : ZS adK adV fS (fun q : Nat => s.heap.size ≤ q) s s.heap) {aX aM : Nat} {i : Int32} (hi0 : 0 ≤ i.toInt) (hi1 : i.toInt + 6 ≤ (L : Int)) {H : Heap} {locs : List Loc} (hI : LI dC dI s aX aM H locs) {ls : Array Slot} (hl : lv_has ls 4 [(3, .int i), (2, .ref aM), (1, .ref aX), (0, .ref b)]) (kk : ∀ (H1 : Heap) (locs1 : List Loc) (ls1 : Array Slot), LI dC dI s aX aM H1 locs1 → lv_has ls1 4 [(3, .int i), (2, .ref aM), (1, .ref aX), (0, .ref b)] → W p l e room_1 s m #[Value.ref b] below meth c H1 locs1 103 20190 (lw_Z below #[Value.ref b] s) (F0 m 1540 ls1 [])) : W p l e room_1 s m #[Value.ref b] below meth c H locs 103 20190 (lw_Z below #[Value.ref b] s) (F0 m 935 ls []) := by
  obtain ⟨hx, hb, hr, hml, hown, hts, hX, hbl, hlocks, hgv⟩ := id C0
  have hown : s.vm.findClass RL = some m.cls := hown
  have hG : ∀ w ∈ GW, w.before _ s = true := fun w h => hts w (List.mem_filter.mp h).1
  have hA : ∀ q : Nat, s.heap.size ≤ q → (fun q : Nat => s.heap.size ≤ q) q := fun _ h => h
  have hbA : ¬ (fun q : Nat => s.heap.size ≤ q) b := Nat.not_le.mpr hbl
  obtain ⟨xr, xt, xi, xa, xJ, xL, mr, mt, mi, ma, mJ, mL, hrX, hrM, hKX, hKM, hPX, hPM, hDX, hDM, hdj, hS, hIX, hWB, hRB, hBB, hIM, htm⟩ := hI
  refine lv_aload_n hx hb dL_law_935 rfl (lv_at hl 2 rfl) ?_
  refine W.eq (g2 := F0 m 936 ls [.ref (xr 0)]) (by rw [hrX]) ?_
  refine lv_aload_n hx hb dL_law_936 rfl (lv_at hl 3 rfl) ?_
  refine lv_iload_n hx hb dL_law_937 rfl (lv_at hl 0 rfl) ?_
  refine lv_iconst (v := 1) hx hb dL_law_938 (by decide) ?_
  refine lv_iadd hx hb dL_law_939 ?_
  refine lv_topi (fun x1 ex1 => ?_)
  refine va_sld hx hb hX hbl hbA hS (sidx ex1 hi0 hi1 hL (by decide) (by decide)) dL_law_940 ?_
  refine lv_topi (fun x2 ex2 => ?_)
  refine va_calli (va_runV (As := [.int x2]) (rest := []) ⟨hx, hb, hml, hown, hG⟩ (kX8_frayed l dC dI xr xt (xi 0) (xi 1) (xi 2) (xi 3) (xi 4) (xi 5) (xi 6) (xi 7) (xi 8) (xi 9) (xi 10) (xi 11) (xi 12) (xi 13) (xi 14) (xi 15) (xi 16) (xa 0) (xa 1) (xa 2) (xa 3) (xa 4) (xa 5) (xa 6) (xa 7) (xa 8) (xa 9) (xa 10) (xa 11) (xa 12) (xa 13) (xa 14) xJ xL x2 H.size hIX) (cwV 1 hG (goodV gw1017 gw1018 gw1019 gw129 gw1020) rfl rfl rfl hd_X8_frayed ⟨(Nat.le_of_ble_eq_true rfl), (Nat.le_of_ble_eq_true rfl)⟩) ⟨fbR, va_recv hKX hPX (ci := 7) (q0 := 0) rfl rfl, pR_in hPX hKX⟩ rfl rfl hl.1 rfl (lv_room (Nat.le_of_ble_eq_true rfl)) dL_law_941 ⟨(Nat.le_of_ble_eq_true rfl), (Nat.le_of_ble_eq_true rfl)⟩) hS (fun q hq h => absurd hq (Nat.not_lt.mpr h)) (fun q h => hA q (Nat.le_trans hS.1 h)) (fun r_4 u_ t_ H3 locs ht hvm hw hB hz1 hk1 hS => ?_)
  subst hw
  have hPX := wk hPX hk1
  have hPM := wk hPM hk1
  refine lv_pop hx hb dL_law_944 rfl ?_
  refine lv_aload_n hx hb dL_law_945 rfl (lv_at hl 1 rfl) ?_
  refine W.eq (g2 := F0 m 946 ls [.ref (mr 0)]) (by rw [hrM]) ?_
  refine lv_aload_n hx hb dL_law_946 rfl (lv_at hl 3 rfl) ?_
  refine lv_iload_n hx hb dL_law_947 rfl (lv_at hl 0 rfl) ?_
  refine lv_iconst (v := 1) hx hb dL_law_948 (by decide) ?_
  refine lv_iadd hx hb dL_law_949 ?_
  refine lv_topi (fun x5 ex5 => ?_)
  refine va_sld hx hb hX hbl hbA hS (sidx ex5 hi0 hi1 hL (by decide) (by decide)) dL_law_950 ?_
  refine lv_topi (fun x6 ex6 => ?_)
  refine va_calli (va_runV (As := [.int x6]) (rest := []) ⟨hx, hb, hml, hown, hG⟩ (kX9_frayed l dC dI mr mt (mi 0) (mi 1) (mi 2) (mi 3) (mi 4) (mi 5) (mi 6) (mi 7) (mi 8) (mi 9) (mi 10) (mi 11) (mi 12) (mi 13) (mi 14) (mi 15) (mi 16) (mi 17) (mi 18) (mi 19) (ma 0) (ma 1) (ma 2) (ma 3) (ma 4) (ma 5) (ma 6) (ma 7) (ma 8) (ma 9) (ma 10) (ma 11) (ma 12) (ma 13) (ma 14) (ma 15) mJ mL x6 H3.size hIM) (cwV 1 hG (goodV gw1621 gw1622 gw1623 gw138 gw1624) rfl rfl rfl hd_X9_frayed ⟨(Nat.le_of_ble_eq_true rfl), (Nat.le_of_ble_eq_true rfl)⟩) ⟨fbR, va_recv hKM hPM (ci := 8) (q0 := 0) rfl rfl, pR_in hPM hKM⟩ rfl rfl hl.1 rfl (lv_room (Nat.le_of_ble_eq_true rfl)) dL_law_951 ⟨(Nat.le_of_ble_eq_true rfl), (Nat.le_of_ble_eq_true rfl)⟩) hS (fun q hq h => absurd hq (Nat.not_lt.mpr h)) (fun q h => hA q (Nat.le_trans hS.1 h)) (fun r_8 u_ t_ H7 locs ht hvm hw hB hz1 hk1 hS => ?_)
  subst hw
  have hPX := wk hPX hk1
  have hPM := wk hPM hk1
  refine lv_pop hx hb dL_law_954 rfl ?_
  refine lv_goto (tgt := 1540) hx hb dL_law_955 (by decide) ?_
  exact kk H7 _ _ ⟨xr, xt, xi, xa, xJ, xL, mr, mt, mi, ma, mJ, mL, hrX, hrM, hKX, hKM, hPX, hPM, hDX, hDM, hdj, hS, hIX, hWB, hRB, hBB, hIM, htm⟩ hl
