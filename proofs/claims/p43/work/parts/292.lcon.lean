set_option maxHeartbeats 4000000 in
set_option maxRecDepth 100000 in
theorem law_39 {p : Program} {e : Env} {s : State} {m : MethodId} {below : List Frame} {meth : Method} {c : Code} (l : Launch) {b L : Nat} {xs : Nat → Int32} (hL : L ≤ 3072) (C0 : lw_At p s m meth c b L xs) (dC : Nat → ClassId) (dI : Nat → Nat → Nat) (adK adV : Nat) (fS : Nat → Int32) (hZ : ZS adK adV fS (fun q : Nat => s.heap.size ≤ q) s s.heap) {aX aM : Nat} {i : Int32} (hi0 : 0 ≤ i.toInt) (hi1 : i.toInt + 6 ≤ (L : Int)) {H : Heap} {locs : List Loc} (hI : LI dC dI s aX aM H locs) {ls : Array Slot} (hl : lv_has ls 4 [(3, .int i), (2, .ref aM), (1, .ref aX), (0, .ref b)]) (kk : ∀ (H1 : Heap) (locs1 : List Loc) (ls1 : Array Slot), LI dC dI s aX aM H1 locs1 → lv_has ls1 4 [(3, .int i), (2, .ref aM), (1, .ref aX), (0, .ref b)] → W p l e room_1 s m #[Value.ref b] below meth c H1 locs1 103 20190 (lw_Z below #[Value.ref b] s) (F0 m 1540 ls1 [])) : W p l e room_1 s m #[Value.ref b] below meth c H locs 103 20190 (lw_Z below #[Value.ref b] s) (F0 m 1277 ls []) := by
  obtain ⟨hx, hb, hr, hml, hown, hts, hX, hbl, hlocks, hgv⟩ := id C0
  have hown : s.vm.findClass RL = some m.cls := hown
  have hG : ∀ w ∈ GW, w.before _ s = true := fun w h => hts w (List.mem_filter.mp h).1
  have hA : ∀ q : Nat, s.heap.size ≤ q → (fun q : Nat => s.heap.size ≤ q) q := fun _ h => h
  have hbA : ¬ (fun q : Nat => s.heap.size ≤ q) b := Nat.not_le.mpr hbl
  obtain ⟨xr, xt, x_i_tapeLength, x_i_time, x_i_lyingCount, x_i_rd_fault, x_i_rd_token, x_i_rd_kind, x_i_sc_count, x_i_sc_at, x_i_A_tunes, x_i_A_houses, x_i_fA_length, x_i_B_tunes, x_i_B_houses, x_i_fB_length, x_i_acts_done, x_i_acts_undone, x_i_kn_count, x_f_boxes, x_f_boxKept, x_f_trial, x_f_offers, x_f_A_noteCounts, x_f_A_notes, x_f_B_noteCounts, x_f_B_notes, x_f_now_where, x_f_now_worn, x_f_ahead_where, x_f_ahead_worn, x_f_acts_rows, x_f_kn_tunes, x_f_kn_noteTimes, x_J, x_L, mr, mt, m_i_taped, m_i_size, m_i_faultKind, m_i_at, m_i_end, m_i_token, m_i_number, m_i_bank, m_i_rb, m_i_codes, m_i_within, m_i_piled, m_i_unitsInRule, m_i_askHouse, m_i_askTune, m_i_acts, m_i_undone, m_i_laid, m_i_knowns, m_i_time, m_f_text, m_f_tunes, m_f_houses, m_f_hums, m_f_told, m_f_many, m_f_ruleFrom, m_f_ruleTo, m_f_code, m_f_eWhat, m_f_eSign, m_f_all, m_f_kept, m_f_was, m_f_sTune, m_f_boxAll, m_J, m_L, hrX, hrM, hKX, hKM, hPX, hPM, hDX, hDM, hdj, hS, hIX, hWB, hRB, hBB, hIM, htm⟩ := hI
  refine lv_aload_n hx hb dL_law_1277 rfl (lv_at hl 2 rfl) ?_
  refine W.eq (g2 := F0 m 1278 ls [.ref (xr 0)]) (by rw [hrX]) ?_
  refine lv_aload_n hx hb dL_law_1278 rfl (lv_at hl 3 rfl) ?_
  refine lv_iload_n hx hb dL_law_1279 rfl (lv_at hl 0 rfl) ?_
  refine lv_iconst (v := 1) hx hb dL_law_1280 (by decide) ?_
  refine lv_iadd hx hb dL_law_1281 ?_
  refine lv_topi (fun x1 ex1 => ?_)
  refine va_sld hx hb hX hbl hbA hS (sidx ex1 hi0 hi1 hL (by decide) (by decide)) dL_law_1282 ?_
  refine lv_topi (fun x2 ex2 => ?_)
  refine lv_aload_n hx hb dL_law_1283 rfl (lv_at hl 3 rfl) ?_
  refine lv_iload_n hx hb dL_law_1284 rfl (lv_at hl 0 rfl) ?_
  refine lv_iconst (v := 2) hx hb dL_law_1285 (by decide) ?_
  refine lv_iadd hx hb dL_law_1286 ?_
  refine lv_topi (fun x3 ex3 => ?_)
  refine va_sld hx hb hX hbl hbA hS (sidx ex3 hi0 hi1 hL (by decide) (by decide)) dL_law_1287 ?_
  refine lv_topi (fun x4 ex4 => ?_)
  refine lv_aload_n hx hb dL_law_1288 rfl (lv_at hl 3 rfl) ?_
  refine lv_iload_n hx hb dL_law_1289 rfl (lv_at hl 0 rfl) ?_
  refine lv_iconst (v := 3) hx hb dL_law_1290 (by decide) ?_
  refine lv_iadd hx hb dL_law_1291 ?_
  refine lv_topi (fun x5 ex5 => ?_)
  refine va_sld hx hb hX hbl hbA hS (sidx ex5 hi0 hi1 hL (by decide) (by decide)) dL_law_1292 ?_
  refine lv_topi (fun x6 ex6 => ?_)
  refine lv_if_eq (tgt := 1300) hx hb dL_law_1293 (by decide) (fun _ => ?_) (fun _ => ?_)
  · skip
    refine lv_iconst (v := 0) hx hb dL_law_1300 (by decide) ?_
    have hFc := frA hDX hS hA
    refine va_calli (va_runV (As := [.int x2, .int x4, .int 0]) (rest := []) ⟨hx, hb, hml, hown, hG⟩ (kX8_known l dC dI xr xt x_i_tapeLength x_i_time x_i_lyingCount x_i_rd_fault x_i_rd_token x_i_rd_kind x_i_sc_count x_i_sc_at x_i_A_tunes x_i_A_houses x_i_fA_length x_i_B_tunes x_i_B_houses x_i_fB_length x_i_acts_done x_i_acts_undone x_i_kn_count x_f_boxes x_f_boxKept x_f_trial x_f_offers x_f_A_noteCounts x_f_A_notes x_f_B_noteCounts x_f_B_notes x_f_now_where x_f_now_worn x_f_ahead_where x_f_ahead_worn x_f_acts_rows x_f_kn_tunes x_f_kn_noteTimes x_J x_L x2 x4 0 H.size hIX (by decide)) (cwV 3 hG (goodV gw1053 gw1054 gw1055 gw129 gw1056) rfl rfl rfl hd_X8_known ⟨(Nat.le_of_ble_eq_true rfl), (Nat.le_of_ble_eq_true rfl)⟩) ⟨fbW, va_recv hKX hPX (ci := 7) (q0 := 0) rfl rfl, pW_in hPX hKX hDX⟩ rfl rfl hl.1 rfl (lv_room (Nat.le_of_ble_eq_true rfl)) dL_law_1301 ⟨(Nat.le_of_ble_eq_true rfl), (Nat.le_of_ble_eq_true rfl)⟩) hS (fun q _ h => hFc q h) hFc (fun r_8 u_ t_ H7 locs ht hvm hw hB hz1 hk1 hS => ?_)
    subst hw
    obtain ⟨n9, n10, n11, hP1, hD1, hIX⟩ := hB
    rw [ht] at hP1
    obtain ⟨hPM, hdj⟩ := mvO hPM hdj (fun k q hk => hD1.2 k q hk) hk1
    have hPX := hP1
    have hDX := dW hFc hD1
    refine lv_pop hx hb dL_law_1304 rfl ?_
    refine lv_aload_n hx hb dL_law_1305 rfl (lv_at hl 1 rfl) ?_
    refine W.eq (g2 := F0 m 1306 ls [.ref (mr 0)]) (by rw [hrM]) ?_
    refine lv_aload_n hx hb dL_law_1306 rfl (lv_at hl 3 rfl) ?_
    refine lv_iload_n hx hb dL_law_1307 rfl (lv_at hl 0 rfl) ?_
    refine lv_iconst (v := 1) hx hb dL_law_1308 (by decide) ?_
    refine lv_iadd hx hb dL_law_1309 ?_
    refine lv_topi (fun x12 ex12 => ?_)
    refine va_sld hx hb hX hbl hbA hS (sidx ex12 hi0 hi1 hL (by decide) (by decide)) dL_law_1310 ?_
    refine lv_topi (fun x13 ex13 => ?_)
    refine lv_aload_n hx hb dL_law_1311 rfl (lv_at hl 3 rfl) ?_
    refine lv_iload_n hx hb dL_law_1312 rfl (lv_at hl 0 rfl) ?_
    refine lv_iconst (v := 2) hx hb dL_law_1313 (by decide) ?_
    refine lv_iadd hx hb dL_law_1314 ?_
    refine lv_topi (fun x14 ex14 => ?_)
    refine va_sld hx hb hX hbl hbA hS (sidx ex14 hi0 hi1 hL (by decide) (by decide)) dL_law_1315 ?_
    refine lv_topi (fun x15 ex15 => ?_)
    refine lv_aload_n hx hb dL_law_1316 rfl (lv_at hl 3 rfl) ?_
    refine lv_iload_n hx hb dL_law_1317 rfl (lv_at hl 0 rfl) ?_
    refine lv_iconst (v := 3) hx hb dL_law_1318 (by decide) ?_
    refine lv_iadd hx hb dL_law_1319 ?_
    refine lv_topi (fun x16 ex16 => ?_)
    refine va_sld hx hb hX hbl hbA hS (sidx ex16 hi0 hi1 hL (by decide) (by decide)) dL_law_1320 ?_
    refine lv_topi (fun x17 ex17 => ?_)
    refine lv_if_eq (tgt := 1328) hx hb dL_law_1321 (by decide) (fun _ => ?_) (fun _ => ?_)
    · skip
      refine lv_iconst (v := 0) hx hb dL_law_1328 (by decide) ?_
      have hFc := frA hDM hS hA
      refine va_calli (va_runV (As := [.int x13, .int x15, .int 0]) (rest := []) ⟨hx, hb, hml, hown, hG⟩ (kX9_known l dC dI mr mt m_i_taped m_i_size m_i_faultKind m_i_at m_i_end m_i_token m_i_number m_i_bank m_i_rb m_i_codes m_i_within m_i_piled m_i_unitsInRule m_i_askHouse m_i_askTune m_i_acts m_i_undone m_i_laid m_i_knowns m_i_time m_f_text m_f_tunes m_f_houses m_f_hums m_f_told m_f_many m_f_ruleFrom m_f_ruleTo m_f_code m_f_eWhat m_f_eSign m_f_all m_f_kept m_f_was m_f_sTune m_f_boxAll m_J m_L x13 x15 0 H7.size hIM (by decide)) (cwV 3 hG (goodV gw1817 gw1818 gw1819 gw138 gw1820) rfl rfl rfl hd_X9_known ⟨(Nat.le_of_ble_eq_true rfl), (Nat.le_of_ble_eq_true rfl)⟩) ⟨fbW, va_recv hKM hPM (ci := 8) (q0 := 0) rfl rfl, pW_in hPM hKM hDM⟩ rfl rfl hl.1 rfl (lv_room (Nat.le_of_ble_eq_true rfl)) dL_law_1329 ⟨(Nat.le_of_ble_eq_true rfl), (Nat.le_of_ble_eq_true rfl)⟩) hS (fun q _ h => hFc q h) hFc (fun r_19 u_ t_ H18 locs ht hvm hw hB hz1 hk1 hS => ?_)
      subst hw
      obtain ⟨n20, n21, n22, hP1, hD1, hIM⟩ := hB
      rw [ht] at hP1
      obtain ⟨hPX, hdj⟩ := mvO hPX (dj_sym hdj) (fun k q hk => hD1.2 k q hk) hk1
      have hdj := dj_sym hdj
      have hPM := hP1
      have hDM := dW hFc hD1
      refine lv_pop hx hb dL_law_1332 rfl ?_
      refine lv_goto (tgt := 1540) hx hb dL_law_1333 (by decide) ?_
      exact kk H18 _ _ ⟨xr, xt, x_i_tapeLength, x_i_time, x_i_lyingCount, x_i_rd_fault, x_i_rd_token, x_i_rd_kind, x_i_sc_count, x_i_sc_at, x_i_A_tunes, x_i_A_houses, x_i_fA_length, x_i_B_tunes, x_i_B_houses, x_i_fB_length, x_i_acts_done, x_i_acts_undone, n9, x_f_boxes, x_f_boxKept, x_f_trial, x_f_offers, x_f_A_noteCounts, x_f_A_notes, x_f_B_noteCounts, x_f_B_notes, x_f_now_where, x_f_now_worn, x_f_ahead_where, x_f_ahead_worn, x_f_acts_rows, n10, x_f_kn_noteTimes, n11, x_L, mr, mt, m_i_taped, m_i_size, m_i_faultKind, m_i_at, m_i_end, m_i_token, m_i_number, m_i_bank, m_i_rb, m_i_codes, m_i_within, m_i_piled, m_i_unitsInRule, m_i_askHouse, m_i_askTune, m_i_acts, m_i_undone, m_i_laid, n20, m_i_time, m_f_text, m_f_tunes, m_f_houses, m_f_hums, m_f_told, m_f_many, m_f_ruleFrom, m_f_ruleTo, m_f_code, m_f_eWhat, m_f_eSign, m_f_all, m_f_kept, m_f_was, n21, m_f_boxAll, n22, m_L, hrX, hrM, hKX, hKM, hPX, hPM, hDX, hDM, hdj, hS, hIX, hWB, hRB, hBB, hIM, htm⟩ hl
    · skip
      refine lv_iconst (v := 1) hx hb dL_law_1324 (by decide) ?_
      refine lv_goto (tgt := 1329) hx hb dL_law_1325 (by decide) ?_
      have hFc := frA hDM hS hA
      refine va_calli (va_runV (As := [.int x13, .int x15, .int 1]) (rest := []) ⟨hx, hb, hml, hown, hG⟩ (kX9_known l dC dI mr mt m_i_taped m_i_size m_i_faultKind m_i_at m_i_end m_i_token m_i_number m_i_bank m_i_rb m_i_codes m_i_within m_i_piled m_i_unitsInRule m_i_askHouse m_i_askTune m_i_acts m_i_undone m_i_laid m_i_knowns m_i_time m_f_text m_f_tunes m_f_houses m_f_hums m_f_told m_f_many m_f_ruleFrom m_f_ruleTo m_f_code m_f_eWhat m_f_eSign m_f_all m_f_kept m_f_was m_f_sTune m_f_boxAll m_J m_L x13 x15 1 H7.size hIM (by decide)) (cwV 3 hG (goodV gw1817 gw1818 gw1819 gw138 gw1820) rfl rfl rfl hd_X9_known ⟨(Nat.le_of_ble_eq_true rfl), (Nat.le_of_ble_eq_true rfl)⟩) ⟨fbW, va_recv hKM hPM (ci := 8) (q0 := 0) rfl rfl, pW_in hPM hKM hDM⟩ rfl rfl hl.1 rfl (lv_room (Nat.le_of_ble_eq_true rfl)) dL_law_1329 ⟨(Nat.le_of_ble_eq_true rfl), (Nat.le_of_ble_eq_true rfl)⟩) hS (fun q _ h => hFc q h) hFc (fun r_24 u_ t_ H23 locs ht hvm hw hB hz1 hk1 hS => ?_)
      subst hw
      obtain ⟨n25, n26, n27, hP1, hD1, hIM⟩ := hB
      rw [ht] at hP1
      obtain ⟨hPX, hdj⟩ := mvO hPX (dj_sym hdj) (fun k q hk => hD1.2 k q hk) hk1
      have hdj := dj_sym hdj
      have hPM := hP1
      have hDM := dW hFc hD1
      refine lv_pop hx hb dL_law_1332 rfl ?_
      refine lv_goto (tgt := 1540) hx hb dL_law_1333 (by decide) ?_
      exact kk H23 _ _ ⟨xr, xt, x_i_tapeLength, x_i_time, x_i_lyingCount, x_i_rd_fault, x_i_rd_token, x_i_rd_kind, x_i_sc_count, x_i_sc_at, x_i_A_tunes, x_i_A_houses, x_i_fA_length, x_i_B_tunes, x_i_B_houses, x_i_fB_length, x_i_acts_done, x_i_acts_undone, n9, x_f_boxes, x_f_boxKept, x_f_trial, x_f_offers, x_f_A_noteCounts, x_f_A_notes, x_f_B_noteCounts, x_f_B_notes, x_f_now_where, x_f_now_worn, x_f_ahead_where, x_f_ahead_worn, x_f_acts_rows, n10, x_f_kn_noteTimes, n11, x_L, mr, mt, m_i_taped, m_i_size, m_i_faultKind, m_i_at, m_i_end, m_i_token, m_i_number, m_i_bank, m_i_rb, m_i_codes, m_i_within, m_i_piled, m_i_unitsInRule, m_i_askHouse, m_i_askTune, m_i_acts, m_i_undone, m_i_laid, n25, m_i_time, m_f_text, m_f_tunes, m_f_houses, m_f_hums, m_f_told, m_f_many, m_f_ruleFrom, m_f_ruleTo, m_f_code, m_f_eWhat, m_f_eSign, m_f_all, m_f_kept, m_f_was, n26, m_f_boxAll, n27, m_L, hrX, hrM, hKX, hKM, hPX, hPM, hDX, hDM, hdj, hS, hIX, hWB, hRB, hBB, hIM, htm⟩ hl
  · skip
    refine lv_iconst (v := 1) hx hb dL_law_1296 (by decide) ?_
    refine lv_goto (tgt := 1301) hx hb dL_law_1297 (by decide) ?_
    have hFc := frA hDX hS hA
    refine va_calli (va_runV (As := [.int x2, .int x4, .int 1]) (rest := []) ⟨hx, hb, hml, hown, hG⟩ (kX8_known l dC dI xr xt x_i_tapeLength x_i_time x_i_lyingCount x_i_rd_fault x_i_rd_token x_i_rd_kind x_i_sc_count x_i_sc_at x_i_A_tunes x_i_A_houses x_i_fA_length x_i_B_tunes x_i_B_houses x_i_fB_length x_i_acts_done x_i_acts_undone x_i_kn_count x_f_boxes x_f_boxKept x_f_trial x_f_offers x_f_A_noteCounts x_f_A_notes x_f_B_noteCounts x_f_B_notes x_f_now_where x_f_now_worn x_f_ahead_where x_f_ahead_worn x_f_acts_rows x_f_kn_tunes x_f_kn_noteTimes x_J x_L x2 x4 1 H.size hIX (by decide)) (cwV 3 hG (goodV gw1053 gw1054 gw1055 gw129 gw1056) rfl rfl rfl hd_X8_known ⟨(Nat.le_of_ble_eq_true rfl), (Nat.le_of_ble_eq_true rfl)⟩) ⟨fbW, va_recv hKX hPX (ci := 7) (q0 := 0) rfl rfl, pW_in hPX hKX hDX⟩ rfl rfl hl.1 rfl (lv_room (Nat.le_of_ble_eq_true rfl)) dL_law_1301 ⟨(Nat.le_of_ble_eq_true rfl), (Nat.le_of_ble_eq_true rfl)⟩) hS (fun q _ h => hFc q h) hFc (fun r_29 u_ t_ H28 locs ht hvm hw hB hz1 hk1 hS => ?_)
    subst hw
    obtain ⟨n30, n31, n32, hP1, hD1, hIX⟩ := hB
    rw [ht] at hP1
    obtain ⟨hPM, hdj⟩ := mvO hPM hdj (fun k q hk => hD1.2 k q hk) hk1
    have hPX := hP1
    have hDX := dW hFc hD1
    refine lv_pop hx hb dL_law_1304 rfl ?_
    refine lv_aload_n hx hb dL_law_1305 rfl (lv_at hl 1 rfl) ?_
    refine W.eq (g2 := F0 m 1306 ls [.ref (mr 0)]) (by rw [hrM]) ?_
    refine lv_aload_n hx hb dL_law_1306 rfl (lv_at hl 3 rfl) ?_
    refine lv_iload_n hx hb dL_law_1307 rfl (lv_at hl 0 rfl) ?_
    refine lv_iconst (v := 1) hx hb dL_law_1308 (by decide) ?_
    refine lv_iadd hx hb dL_law_1309 ?_
    refine lv_topi (fun x33 ex33 => ?_)
    refine va_sld hx hb hX hbl hbA hS (sidx ex33 hi0 hi1 hL (by decide) (by decide)) dL_law_1310 ?_
    refine lv_topi (fun x34 ex34 => ?_)
    refine lv_aload_n hx hb dL_law_1311 rfl (lv_at hl 3 rfl) ?_
    refine lv_iload_n hx hb dL_law_1312 rfl (lv_at hl 0 rfl) ?_
    refine lv_iconst (v := 2) hx hb dL_law_1313 (by decide) ?_
    refine lv_iadd hx hb dL_law_1314 ?_
    refine lv_topi (fun x35 ex35 => ?_)
    refine va_sld hx hb hX hbl hbA hS (sidx ex35 hi0 hi1 hL (by decide) (by decide)) dL_law_1315 ?_
    refine lv_topi (fun x36 ex36 => ?_)
    refine lv_aload_n hx hb dL_law_1316 rfl (lv_at hl 3 rfl) ?_
    refine lv_iload_n hx hb dL_law_1317 rfl (lv_at hl 0 rfl) ?_
    refine lv_iconst (v := 3) hx hb dL_law_1318 (by decide) ?_
    refine lv_iadd hx hb dL_law_1319 ?_
    refine lv_topi (fun x37 ex37 => ?_)
    refine va_sld hx hb hX hbl hbA hS (sidx ex37 hi0 hi1 hL (by decide) (by decide)) dL_law_1320 ?_
    refine lv_topi (fun x38 ex38 => ?_)
    refine lv_if_eq (tgt := 1328) hx hb dL_law_1321 (by decide) (fun _ => ?_) (fun _ => ?_)
    · skip
      refine lv_iconst (v := 0) hx hb dL_law_1328 (by decide) ?_
      have hFc := frA hDM hS hA
      refine va_calli (va_runV (As := [.int x34, .int x36, .int 0]) (rest := []) ⟨hx, hb, hml, hown, hG⟩ (kX9_known l dC dI mr mt m_i_taped m_i_size m_i_faultKind m_i_at m_i_end m_i_token m_i_number m_i_bank m_i_rb m_i_codes m_i_within m_i_piled m_i_unitsInRule m_i_askHouse m_i_askTune m_i_acts m_i_undone m_i_laid m_i_knowns m_i_time m_f_text m_f_tunes m_f_houses m_f_hums m_f_told m_f_many m_f_ruleFrom m_f_ruleTo m_f_code m_f_eWhat m_f_eSign m_f_all m_f_kept m_f_was m_f_sTune m_f_boxAll m_J m_L x34 x36 0 H28.size hIM (by decide)) (cwV 3 hG (goodV gw1817 gw1818 gw1819 gw138 gw1820) rfl rfl rfl hd_X9_known ⟨(Nat.le_of_ble_eq_true rfl), (Nat.le_of_ble_eq_true rfl)⟩) ⟨fbW, va_recv hKM hPM (ci := 8) (q0 := 0) rfl rfl, pW_in hPM hKM hDM⟩ rfl rfl hl.1 rfl (lv_room (Nat.le_of_ble_eq_true rfl)) dL_law_1329 ⟨(Nat.le_of_ble_eq_true rfl), (Nat.le_of_ble_eq_true rfl)⟩) hS (fun q _ h => hFc q h) hFc (fun r_40 u_ t_ H39 locs ht hvm hw hB hz1 hk1 hS => ?_)
      subst hw
      obtain ⟨n41, n42, n43, hP1, hD1, hIM⟩ := hB
      rw [ht] at hP1
      obtain ⟨hPX, hdj⟩ := mvO hPX (dj_sym hdj) (fun k q hk => hD1.2 k q hk) hk1
      have hdj := dj_sym hdj
      have hPM := hP1
      have hDM := dW hFc hD1
      refine lv_pop hx hb dL_law_1332 rfl ?_
      refine lv_goto (tgt := 1540) hx hb dL_law_1333 (by decide) ?_
      exact kk H39 _ _ ⟨xr, xt, x_i_tapeLength, x_i_time, x_i_lyingCount, x_i_rd_fault, x_i_rd_token, x_i_rd_kind, x_i_sc_count, x_i_sc_at, x_i_A_tunes, x_i_A_houses, x_i_fA_length, x_i_B_tunes, x_i_B_houses, x_i_fB_length, x_i_acts_done, x_i_acts_undone, n30, x_f_boxes, x_f_boxKept, x_f_trial, x_f_offers, x_f_A_noteCounts, x_f_A_notes, x_f_B_noteCounts, x_f_B_notes, x_f_now_where, x_f_now_worn, x_f_ahead_where, x_f_ahead_worn, x_f_acts_rows, n31, x_f_kn_noteTimes, n32, x_L, mr, mt, m_i_taped, m_i_size, m_i_faultKind, m_i_at, m_i_end, m_i_token, m_i_number, m_i_bank, m_i_rb, m_i_codes, m_i_within, m_i_piled, m_i_unitsInRule, m_i_askHouse, m_i_askTune, m_i_acts, m_i_undone, m_i_laid, n41, m_i_time, m_f_text, m_f_tunes, m_f_houses, m_f_hums, m_f_told, m_f_many, m_f_ruleFrom, m_f_ruleTo, m_f_code, m_f_eWhat, m_f_eSign, m_f_all, m_f_kept, m_f_was, n42, m_f_boxAll, n43, m_L, hrX, hrM, hKX, hKM, hPX, hPM, hDX, hDM, hdj, hS, hIX, hWB, hRB, hBB, hIM, htm⟩ hl
    · skip
      refine lv_iconst (v := 1) hx hb dL_law_1324 (by decide) ?_
      refine lv_goto (tgt := 1329) hx hb dL_law_1325 (by decide) ?_
      have hFc := frA hDM hS hA
      refine va_calli (va_runV (As := [.int x34, .int x36, .int 1]) (rest := []) ⟨hx, hb, hml, hown, hG⟩ (kX9_known l dC dI mr mt m_i_taped m_i_size m_i_faultKind m_i_at m_i_end m_i_token m_i_number m_i_bank m_i_rb m_i_codes m_i_within m_i_piled m_i_unitsInRule m_i_askHouse m_i_askTune m_i_acts m_i_undone m_i_laid m_i_knowns m_i_time m_f_text m_f_tunes m_f_houses m_f_hums m_f_told m_f_many m_f_ruleFrom m_f_ruleTo m_f_code m_f_eWhat m_f_eSign m_f_all m_f_kept m_f_was m_f_sTune m_f_boxAll m_J m_L x34 x36 1 H28.size hIM (by decide)) (cwV 3 hG (goodV gw1817 gw1818 gw1819 gw138 gw1820) rfl rfl rfl hd_X9_known ⟨(Nat.le_of_ble_eq_true rfl), (Nat.le_of_ble_eq_true rfl)⟩) ⟨fbW, va_recv hKM hPM (ci := 8) (q0 := 0) rfl rfl, pW_in hPM hKM hDM⟩ rfl rfl hl.1 rfl (lv_room (Nat.le_of_ble_eq_true rfl)) dL_law_1329 ⟨(Nat.le_of_ble_eq_true rfl), (Nat.le_of_ble_eq_true rfl)⟩) hS (fun q _ h => hFc q h) hFc (fun r_45 u_ t_ H44 locs ht hvm hw hB hz1 hk1 hS => ?_)
      subst hw
      obtain ⟨n46, n47, n48, hP1, hD1, hIM⟩ := hB
      rw [ht] at hP1
      obtain ⟨hPX, hdj⟩ := mvO hPX (dj_sym hdj) (fun k q hk => hD1.2 k q hk) hk1
      have hdj := dj_sym hdj
      have hPM := hP1
      have hDM := dW hFc hD1
      refine lv_pop hx hb dL_law_1332 rfl ?_
      refine lv_goto (tgt := 1540) hx hb dL_law_1333 (by decide) ?_
      exact kk H44 _ _ ⟨xr, xt, x_i_tapeLength, x_i_time, x_i_lyingCount, x_i_rd_fault, x_i_rd_token, x_i_rd_kind, x_i_sc_count, x_i_sc_at, x_i_A_tunes, x_i_A_houses, x_i_fA_length, x_i_B_tunes, x_i_B_houses, x_i_fB_length, x_i_acts_done, x_i_acts_undone, n30, x_f_boxes, x_f_boxKept, x_f_trial, x_f_offers, x_f_A_noteCounts, x_f_A_notes, x_f_B_noteCounts, x_f_B_notes, x_f_now_where, x_f_now_worn, x_f_ahead_where, x_f_ahead_worn, x_f_acts_rows, n31, x_f_kn_noteTimes, n32, x_L, mr, mt, m_i_taped, m_i_size, m_i_faultKind, m_i_at, m_i_end, m_i_token, m_i_number, m_i_bank, m_i_rb, m_i_codes, m_i_within, m_i_piled, m_i_unitsInRule, m_i_askHouse, m_i_askTune, m_i_acts, m_i_undone, m_i_laid, n46, m_i_time, m_f_text, m_f_tunes, m_f_houses, m_f_hums, m_f_told, m_f_many, m_f_ruleFrom, m_f_ruleTo, m_f_code, m_f_eWhat, m_f_eSign, m_f_all, m_f_kept, m_f_was, n47, m_f_boxAll, n48, m_L, hrX, hrM, hKX, hKM, hPX, hPM, hDX, hDM, hdj, hS, hIX, hWB, hRB, hBB, hIM, htm⟩ hl
set_option maxHeartbeats 4000000 in
set_option maxRecDepth 100000 in
theorem law_40 {p : Program} {e : Env} {s : State} {m : MethodId} {below : List Frame} {meth : Method} {c : Code} (l : Launch) {b L : Nat} {xs : Nat → Int32} (hL : L ≤ 3072) (C0 : lw_At p s m meth c b L xs) (dC : Nat → ClassId) (dI : Nat → Nat → Nat) (adK adV : Nat) (fS : Nat → Int32) (hZ : ZS adK adV fS (fun q : Nat => s.heap.size ≤ q) s s.heap) {aX aM : Nat} {i : Int32} (hi0 : 0 ≤ i.toInt) (hi1 : i.toInt + 6 ≤ (L : Int)) {H : Heap} {locs : List Loc} (hI : LI dC dI s aX aM H locs) {ls : Array Slot} (hl : lv_has ls 4 [(3, .int i), (2, .ref aM), (1, .ref aX), (0, .ref b)]) (kk : ∀ (H1 : Heap) (locs1 : List Loc) (ls1 : Array Slot), LI dC dI s aX aM H1 locs1 → lv_has ls1 4 [(3, .int i), (2, .ref aM), (1, .ref aX), (0, .ref b)] → W p l e room_1 s m #[Value.ref b] below meth c H1 locs1 103 20190 (lw_Z below #[Value.ref b] s) (F0 m 1540 ls1 [])) : W p l e room_1 s m #[Value.ref b] below meth c H locs 103 20190 (lw_Z below #[Value.ref b] s) (F0 m 1336 ls []) := by
  obtain ⟨hx, hb, hr, hml, hown, hts, hX, hbl, hlocks, hgv⟩ := id C0
  have hown : s.vm.findClass RL = some m.cls := hown
  have hG : ∀ w ∈ GW, w.before _ s = true := fun w h => hts w (List.mem_filter.mp h).1
  have hA : ∀ q : Nat, s.heap.size ≤ q → (fun q : Nat => s.heap.size ≤ q) q := fun _ h => h
  have hbA : ¬ (fun q : Nat => s.heap.size ≤ q) b := Nat.not_le.mpr hbl
  obtain ⟨xr, xt, x_i_tapeLength, x_i_time, x_i_lyingCount, x_i_rd_fault, x_i_rd_token, x_i_rd_kind, x_i_sc_count, x_i_sc_at, x_i_A_tunes, x_i_A_houses, x_i_fA_length, x_i_B_tunes, x_i_B_houses, x_i_fB_length, x_i_acts_done, x_i_acts_undone, x_i_kn_count, x_f_boxes, x_f_boxKept, x_f_trial, x_f_offers, x_f_A_noteCounts, x_f_A_notes, x_f_B_noteCounts, x_f_B_notes, x_f_now_where, x_f_now_worn, x_f_ahead_where, x_f_ahead_worn, x_f_acts_rows, x_f_kn_tunes, x_f_kn_noteTimes, x_J, x_L, mr, mt, m_i_taped, m_i_size, m_i_faultKind, m_i_at, m_i_end, m_i_token, m_i_number, m_i_bank, m_i_rb, m_i_codes, m_i_within, m_i_piled, m_i_unitsInRule, m_i_askHouse, m_i_askTune, m_i_acts, m_i_undone, m_i_laid, m_i_knowns, m_i_time, m_f_text, m_f_tunes, m_f_houses, m_f_hums, m_f_told, m_f_many, m_f_ruleFrom, m_f_ruleTo, m_f_code, m_f_eWhat, m_f_eSign, m_f_all, m_f_kept, m_f_was, m_f_sTune, m_f_boxAll, m_J, m_L, hrX, hrM, hKX, hKM, hPX, hPM, hDX, hDM, hdj, hS, hIX, hWB, hRB, hBB, hIM, htm⟩ := hI
  refine lv_aload_n hx hb dL_law_1336 rfl (lv_at hl 2 rfl) ?_
  refine W.eq (g2 := F0 m 1337 ls [.ref (xr 0)]) (by rw [hrX]) ?_
  refine lv_aload_n hx hb dL_law_1337 rfl (lv_at hl 3 rfl) ?_
  refine lv_iload_n hx hb dL_law_1338 rfl (lv_at hl 0 rfl) ?_
  refine lv_iconst (v := 1) hx hb dL_law_1339 (by decide) ?_
  refine lv_iadd hx hb dL_law_1340 ?_
  refine lv_topi (fun x1 ex1 => ?_)
  refine va_sld hx hb hX hbl hbA hS (sidx ex1 hi0 hi1 hL (by decide) (by decide)) dL_law_1341 ?_
  refine lv_topi (fun x2 ex2 => ?_)
  have hFc := frA hDX hS hA
  refine va_calli (va_runV (As := [.int x2]) (rest := []) ⟨hx, hb, hml, hown, hG⟩ (kX8_untell l dC dI xr xt x_i_tapeLength x_i_time x_i_lyingCount x_i_rd_fault x_i_rd_token x_i_rd_kind x_i_sc_count x_i_sc_at x_i_A_tunes x_i_A_houses x_i_fA_length x_i_B_tunes x_i_B_houses x_i_fB_length x_i_acts_done x_i_acts_undone x_i_kn_count x_f_boxes x_f_boxKept x_f_trial x_f_offers x_f_A_noteCounts x_f_A_notes x_f_B_noteCounts x_f_B_notes x_f_now_where x_f_now_worn x_f_ahead_where x_f_ahead_worn x_f_acts_rows x_f_kn_tunes x_f_kn_noteTimes x_J x_L x2 H.size hIX) (cwV 1 hG (goodV gw1061 gw1062 gw1063 gw129 gw1064) rfl rfl rfl hd_X8_untell ⟨(Nat.le_of_ble_eq_true rfl), (Nat.le_of_ble_eq_true rfl)⟩) ⟨fbW, va_recv hKX hPX (ci := 7) (q0 := 0) rfl rfl, pW_in hPX hKX hDX⟩ rfl rfl hl.1 rfl (lv_room (Nat.le_of_ble_eq_true rfl)) dL_law_1342 ⟨(Nat.le_of_ble_eq_true rfl), (Nat.le_of_ble_eq_true rfl)⟩) hS (fun q _ h => hFc q h) hFc (fun r_4 u_ t_ H3 locs ht hvm hw hB hz1 hk1 hS => ?_)
  subst hw
  obtain ⟨n5, hP1, hD1, hIX⟩ := hB
  rw [ht] at hP1
  obtain ⟨hPM, hdj⟩ := mvO hPM hdj (fun k q hk => hD1.2 k q hk) hk1
  have hPX := hP1
  have hDX := dW hFc hD1
  refine lv_pop hx hb dL_law_1345 rfl ?_
  refine lv_aload_n hx hb dL_law_1346 rfl (lv_at hl 1 rfl) ?_
  refine W.eq (g2 := F0 m 1347 ls [.ref (mr 0)]) (by rw [hrM]) ?_
  refine lv_aload_n hx hb dL_law_1347 rfl (lv_at hl 3 rfl) ?_
  refine lv_iload_n hx hb dL_law_1348 rfl (lv_at hl 0 rfl) ?_
  refine lv_iconst (v := 1) hx hb dL_law_1349 (by decide) ?_
  refine lv_iadd hx hb dL_law_1350 ?_
  refine lv_topi (fun x6 ex6 => ?_)
  refine va_sld hx hb hX hbl hbA hS (sidx ex6 hi0 hi1 hL (by decide) (by decide)) dL_law_1351 ?_
  refine lv_topi (fun x7 ex7 => ?_)
  have hFc := frA hDM hS hA
  refine va_calli (va_runV (As := [.int x7]) (rest := []) ⟨hx, hb, hml, hown, hG⟩ (kX9_untell l dC dI mr mt m_i_taped m_i_size m_i_faultKind m_i_at m_i_end m_i_token m_i_number m_i_bank m_i_rb m_i_codes m_i_within m_i_piled m_i_unitsInRule m_i_askHouse m_i_askTune m_i_acts m_i_undone m_i_laid m_i_knowns m_i_time m_f_text m_f_tunes m_f_houses m_f_hums m_f_told m_f_many m_f_ruleFrom m_f_ruleTo m_f_code m_f_eWhat m_f_eSign m_f_all m_f_kept m_f_was m_f_sTune m_f_boxAll m_J m_L x7 H3.size hIM) (cwV 1 hG (goodV gw1821 gw1822 gw1823 gw138 gw1824) rfl rfl rfl hd_X9_untell ⟨(Nat.le_of_ble_eq_true rfl), (Nat.le_of_ble_eq_true rfl)⟩) ⟨fbW, va_recv hKM hPM (ci := 8) (q0 := 0) rfl rfl, pW_in hPM hKM hDM⟩ rfl rfl hl.1 rfl (lv_room (Nat.le_of_ble_eq_true rfl)) dL_law_1352 ⟨(Nat.le_of_ble_eq_true rfl), (Nat.le_of_ble_eq_true rfl)⟩) hS (fun q _ h => hFc q h) hFc (fun r_9 u_ t_ H8 locs ht hvm hw hB hz1 hk1 hS => ?_)
  subst hw
  obtain ⟨n10, hP1, hD1, hIM⟩ := hB
  rw [ht] at hP1
  obtain ⟨hPX, hdj⟩ := mvO hPX (dj_sym hdj) (fun k q hk => hD1.2 k q hk) hk1
  have hdj := dj_sym hdj
  have hPM := hP1
  have hDM := dW hFc hD1
  refine lv_pop hx hb dL_law_1355 rfl ?_
  refine lv_goto (tgt := 1540) hx hb dL_law_1356 (by decide) ?_
  exact kk H8 _ _ ⟨xr, xt, x_i_tapeLength, x_i_time, x_i_lyingCount, x_i_rd_fault, x_i_rd_token, x_i_rd_kind, x_i_sc_count, x_i_sc_at, x_i_A_tunes, x_i_A_houses, x_i_fA_length, x_i_B_tunes, x_i_B_houses, x_i_fB_length, x_i_acts_done, x_i_acts_undone, x_i_kn_count, x_f_boxes, x_f_boxKept, x_f_trial, x_f_offers, x_f_A_noteCounts, x_f_A_notes, x_f_B_noteCounts, x_f_B_notes, x_f_now_where, x_f_now_worn, x_f_ahead_where, x_f_ahead_worn, x_f_acts_rows, x_f_kn_tunes, x_f_kn_noteTimes, n5, x_L, mr, mt, m_i_taped, m_i_size, m_i_faultKind, m_i_at, m_i_end, m_i_token, m_i_number, m_i_bank, m_i_rb, m_i_codes, m_i_within, m_i_piled, m_i_unitsInRule, m_i_askHouse, m_i_askTune, m_i_acts, m_i_undone, m_i_laid, m_i_knowns, m_i_time, m_f_text, m_f_tunes, m_f_houses, m_f_hums, m_f_told, m_f_many, m_f_ruleFrom, m_f_ruleTo, m_f_code, m_f_eWhat, m_f_eSign, m_f_all, m_f_kept, m_f_was, m_f_sTune, m_f_boxAll, n10, m_L, hrX, hrM, hKX, hKM, hPX, hPM, hDX, hDM, hdj, hS, hIX, hWB, hRB, hBB, hIM, htm⟩ hl
set_option maxHeartbeats 4000000 in
set_option maxRecDepth 100000 in
theorem law_41 {p : Program} {e : Env} {s : State} {m : MethodId} {below : List Frame} {meth : Method} {c : Code} (l : Launch) {b L : Nat} {xs : Nat → Int32} (hL : L ≤ 3072) (C0 : lw_At p s m meth c b L xs) (dC : Nat → ClassId) (dI : Nat → Nat → Nat) (adK adV : Nat) (fS : Nat → Int32) (hZ : ZS adK adV fS (fun q : Nat => s.heap.size ≤ q) s s.heap) {aX aM : Nat} {i : Int32} (hi0 : 0 ≤ i.toInt) (hi1 : i.toInt + 6 ≤ (L : Int)) {H : Heap} {locs : List Loc} (hI : LI dC dI s aX aM H locs) {ls : Array Slot} (hl : lv_has ls 4 [(3, .int i), (2, .ref aM), (1, .ref aX), (0, .ref b)]) (kk : ∀ (H1 : Heap) (locs1 : List Loc) (ls1 : Array Slot), LI dC dI s aX aM H1 locs1 → lv_has ls1 4 [(3, .int i), (2, .ref aM), (1, .ref aX), (0, .ref b)] → W p l e room_1 s m #[Value.ref b] below meth c H1 locs1 103 20190 (lw_Z below #[Value.ref b] s) (F0 m 1540 ls1 [])) : W p l e room_1 s m #[Value.ref b] below meth c H locs 103 20190 (lw_Z below #[Value.ref b] s) (F0 m 1359 ls []) := by
  obtain ⟨hx, hb, hr, hml, hown, hts, hX, hbl, hlocks, hgv⟩ := id C0
  have hown : s.vm.findClass RL = some m.cls := hown
  have hG : ∀ w ∈ GW, w.before _ s = true := fun w h => hts w (List.mem_filter.mp h).1
  have hA : ∀ q : Nat, s.heap.size ≤ q → (fun q : Nat => s.heap.size ≤ q) q := fun _ h => h
  have hbA : ¬ (fun q : Nat => s.heap.size ≤ q) b := Nat.not_le.mpr hbl
  obtain ⟨xr, xt, x_i_tapeLength, x_i_time, x_i_lyingCount, x_i_rd_fault, x_i_rd_token, x_i_rd_kind, x_i_sc_count, x_i_sc_at, x_i_A_tunes, x_i_A_houses, x_i_fA_length, x_i_B_tunes, x_i_B_houses, x_i_fB_length, x_i_acts_done, x_i_acts_undone, x_i_kn_count, x_f_boxes, x_f_boxKept, x_f_trial, x_f_offers, x_f_A_noteCounts, x_f_A_notes, x_f_B_noteCounts, x_f_B_notes, x_f_now_where, x_f_now_worn, x_f_ahead_where, x_f_ahead_worn, x_f_acts_rows, x_f_kn_tunes, x_f_kn_noteTimes, x_J, x_L, mr, mt, m_i_taped, m_i_size, m_i_faultKind, m_i_at, m_i_end, m_i_token, m_i_number, m_i_bank, m_i_rb, m_i_codes, m_i_within, m_i_piled, m_i_unitsInRule, m_i_askHouse, m_i_askTune, m_i_acts, m_i_undone, m_i_laid, m_i_knowns, m_i_time, m_f_text, m_f_tunes, m_f_houses, m_f_hums, m_f_told, m_f_many, m_f_ruleFrom, m_f_ruleTo, m_f_code, m_f_eWhat, m_f_eSign, m_f_all, m_f_kept, m_f_was, m_f_sTune, m_f_boxAll, m_J, m_L, hrX, hrM, hKX, hKM, hPX, hPM, hDX, hDM, hdj, hS, hIX, hWB, hRB, hBB, hIM, htm⟩ := hI
  refine lv_aload_n hx hb dL_law_1359 rfl (lv_at hl 2 rfl) ?_
  refine W.eq (g2 := F0 m 1360 ls [.ref (xr 0)]) (by rw [hrX]) ?_
  refine lv_aload_n hx hb dL_law_1360 rfl (lv_at hl 3 rfl) ?_
  refine lv_iload_n hx hb dL_law_1361 rfl (lv_at hl 0 rfl) ?_
  refine lv_iconst (v := 1) hx hb dL_law_1362 (by decide) ?_
  refine lv_iadd hx hb dL_law_1363 ?_
  refine lv_topi (fun x1 ex1 => ?_)
  refine va_sld hx hb hX hbl hbA hS (sidx ex1 hi0 hi1 hL (by decide) (by decide)) dL_law_1364 ?_
  refine lv_topi (fun x2 ex2 => ?_)
  have hFc := frA hDX hS hA
  refine va_calli (va_runV (As := [.int x2]) (rest := []) ⟨hx, hb, hml, hown, hG⟩ (kX8_later l dC dI xr xt x_i_tapeLength x_i_time x_i_lyingCount x_i_rd_fault x_i_rd_token x_i_rd_kind x_i_sc_count x_i_sc_at x_i_A_tunes x_i_A_houses x_i_fA_length x_i_B_tunes x_i_B_houses x_i_fB_length x_i_acts_done x_i_acts_undone x_i_kn_count x_f_boxes x_f_boxKept x_f_trial x_f_offers x_f_A_noteCounts x_f_A_notes x_f_B_noteCounts x_f_B_notes x_f_now_where x_f_now_worn x_f_ahead_where x_f_ahead_worn x_f_acts_rows x_f_kn_tunes x_f_kn_noteTimes x_J x_L x2 H.size hIX) (cwV 1 hG (goodV gw1069 gw1070 gw1071 gw129 gw1072) rfl rfl rfl hd_X8_later ⟨(Nat.le_of_ble_eq_true rfl), (Nat.le_of_ble_eq_true rfl)⟩) ⟨fbW, va_recv hKX hPX (ci := 7) (q0 := 0) rfl rfl, pW_in hPX hKX hDX⟩ rfl rfl hl.1 rfl (lv_room (Nat.le_of_ble_eq_true rfl)) dL_law_1365 ⟨(Nat.le_of_ble_eq_true rfl), (Nat.le_of_ble_eq_true rfl)⟩) hS (fun q _ h => hFc q h) hFc (fun r_4 u_ t_ H3 locs ht hvm hw hB hz1 hk1 hS => ?_)
  subst hw
  obtain ⟨n5, hP1, hD1, hIX, hltX⟩ := hB
  rw [ht] at hP1
  obtain ⟨hPM, hdj⟩ := mvO hPM hdj (fun k q hk => hD1.2 k q hk) hk1
  have hPX := hP1
  have hDX := dW hFc hD1
  refine lv_aload_n hx hb dL_law_1368 rfl (lv_at hl 1 rfl) ?_
  refine W.eq (g2 := F0 m 1369 ls [.ref (mr 0), .int r_4]) (by rw [hrM]) ?_
  refine lv_aload_n hx hb dL_law_1369 rfl (lv_at hl 3 rfl) ?_
  refine lv_iload_n hx hb dL_law_1370 rfl (lv_at hl 0 rfl) ?_
  refine lv_iconst (v := 1) hx hb dL_law_1371 (by decide) ?_
  refine lv_iadd hx hb dL_law_1372 ?_
  refine lv_topi (fun x6 ex6 => ?_)
  refine va_sld hx hb hX hbl hbA hS (sidx ex6 hi0 hi1 hL (by decide) (by decide)) dL_law_1373 ?_
  refine lv_topi (fun x7 ex7 => ?_)
  have qx7 : x7 = x2 := by rw [ex7, ex2, ex6, ex1]
  subst qx7
  have hFc := frA hDM hS hA
  refine va_calli (va_runV (As := [.int x2]) (rest := [.int r_4]) ⟨hx, hb, hml, hown, hG⟩ (kX9_later2 l dC dI mr mt m_i_taped m_i_size m_i_faultKind m_i_at m_i_end m_i_token m_i_number m_i_bank m_i_rb m_i_codes m_i_within m_i_piled m_i_unitsInRule m_i_askHouse m_i_askTune m_i_acts m_i_undone m_i_laid m_i_knowns m_i_time m_f_text m_f_tunes m_f_houses m_f_hums m_f_told m_f_many m_f_ruleFrom m_f_ruleTo m_f_code m_f_eWhat m_f_eSign m_f_all m_f_kept m_f_was m_f_sTune m_f_boxAll m_J m_L x2 H3.size hIM) (cwV 1 hG (goodV gw1825 gw1826 gw1827 gw138 gw1828) rfl rfl rfl hd_X9_later ⟨(Nat.le_of_ble_eq_true rfl), (Nat.le_of_ble_eq_true rfl)⟩) ⟨fbW, va_recv hKM hPM (ci := 8) (q0 := 0) rfl rfl, pW_in hPM hKM hDM⟩ rfl rfl hl.1 rfl (lv_room (Nat.le_of_ble_eq_true rfl)) dL_law_1374 ⟨(Nat.le_of_ble_eq_true rfl), (Nat.le_of_ble_eq_true rfl)⟩) hS (fun q _ h => hFc q h) hFc (fun r_9 u_ t_ H8 locs ht hvm hw hB hz1 hk1 hS => ?_)
  subst hw
  obtain ⟨n10, hP1, hD1, hIM, hltM⟩ := hB
  rw [ht] at hP1
  obtain ⟨hPX, hdj⟩ := mvO hPX (dj_sym hdj) (fun k q hk => hD1.2 k q hk) hk1
  have hdj := dj_sym hdj
  have hPM := hP1
  have hDM := dW hFc hD1
  obtain ⟨hu, hn⟩ := later_eq htm hltX hltM
  have htm := hn
  refine lv_icmp_eq (tgt := 1540) hx hb dL_law_1377 (by decide) (fun _ => ?_) (fun hne => absurd hu hne)
  exact kk H8 _ _ ⟨xr, xt, x_i_tapeLength, n5, x_i_lyingCount, x_i_rd_fault, x_i_rd_token, x_i_rd_kind, x_i_sc_count, x_i_sc_at, x_i_A_tunes, x_i_A_houses, x_i_fA_length, x_i_B_tunes, x_i_B_houses, x_i_fB_length, x_i_acts_done, x_i_acts_undone, x_i_kn_count, x_f_boxes, x_f_boxKept, x_f_trial, x_f_offers, x_f_A_noteCounts, x_f_A_notes, x_f_B_noteCounts, x_f_B_notes, x_f_now_where, x_f_now_worn, x_f_ahead_where, x_f_ahead_worn, x_f_acts_rows, x_f_kn_tunes, x_f_kn_noteTimes, x_J, x_L, mr, mt, m_i_taped, m_i_size, m_i_faultKind, m_i_at, m_i_end, m_i_token, m_i_number, m_i_bank, m_i_rb, m_i_codes, m_i_within, m_i_piled, m_i_unitsInRule, m_i_askHouse, m_i_askTune, m_i_acts, m_i_undone, m_i_laid, m_i_knowns, n10, m_f_text, m_f_tunes, m_f_houses, m_f_hums, m_f_told, m_f_many, m_f_ruleFrom, m_f_ruleTo, m_f_code, m_f_eWhat, m_f_eSign, m_f_all, m_f_kept, m_f_was, m_f_sTune, m_f_boxAll, m_J, m_L, hrX, hrM, hKX, hKM, hPX, hPM, hDX, hDM, hdj, hS, hIX, hWB, hRB, hBB, hIM, htm⟩ hl
set_option maxHeartbeats 4000000 in
set_option maxRecDepth 100000 in
theorem law_42 {p : Program} {e : Env} {s : State} {m : MethodId} {below : List Frame} {meth : Method} {c : Code} (l : Launch) {b L : Nat} {xs : Nat → Int32} (hL : L ≤ 3072) (C0 : lw_At p s m meth c b L xs) (dC : Nat → ClassId) (dI : Nat → Nat → Nat) (adK adV : Nat) (fS : Nat → Int32) (hZ : ZS adK adV fS (fun q : Nat => s.heap.size ≤ q) s s.heap) {aX aM : Nat} {i : Int32} (hi0 : 0 ≤ i.toInt) (hi1 : i.toInt + 6 ≤ (L : Int)) {H : Heap} {locs : List Loc} (hI : LI dC dI s aX aM H locs) {ls : Array Slot} (hl : lv_has ls 4 [(3, .int i), (2, .ref aM), (1, .ref aX), (0, .ref b)]) (kk : ∀ (H1 : Heap) (locs1 : List Loc) (ls1 : Array Slot), LI dC dI s aX aM H1 locs1 → lv_has ls1 4 [(3, .int i), (2, .ref aM), (1, .ref aX), (0, .ref b)] → W p l e room_1 s m #[Value.ref b] below meth c H1 locs1 103 20190 (lw_Z below #[Value.ref b] s) (F0 m 1540 ls1 [])) : W p l e room_1 s m #[Value.ref b] below meth c H locs 103 20190 (lw_Z below #[Value.ref b] s) (F0 m 1382 ls []) := by
  obtain ⟨hx, hb, hr, hml, hown, hts, hX, hbl, hlocks, hgv⟩ := id C0
  have hown : s.vm.findClass RL = some m.cls := hown
  have hG : ∀ w ∈ GW, w.before _ s = true := fun w h => hts w (List.mem_filter.mp h).1
  have hA : ∀ q : Nat, s.heap.size ≤ q → (fun q : Nat => s.heap.size ≤ q) q := fun _ h => h
  have hbA : ¬ (fun q : Nat => s.heap.size ≤ q) b := Nat.not_le.mpr hbl
  obtain ⟨xr, xt, x_i_tapeLength, x_i_time, x_i_lyingCount, x_i_rd_fault, x_i_rd_token, x_i_rd_kind, x_i_sc_count, x_i_sc_at, x_i_A_tunes, x_i_A_houses, x_i_fA_length, x_i_B_tunes, x_i_B_houses, x_i_fB_length, x_i_acts_done, x_i_acts_undone, x_i_kn_count, x_f_boxes, x_f_boxKept, x_f_trial, x_f_offers, x_f_A_noteCounts, x_f_A_notes, x_f_B_noteCounts, x_f_B_notes, x_f_now_where, x_f_now_worn, x_f_ahead_where, x_f_ahead_worn, x_f_acts_rows, x_f_kn_tunes, x_f_kn_noteTimes, x_J, x_L, mr, mt, m_i_taped, m_i_size, m_i_faultKind, m_i_at, m_i_end, m_i_token, m_i_number, m_i_bank, m_i_rb, m_i_codes, m_i_within, m_i_piled, m_i_unitsInRule, m_i_askHouse, m_i_askTune, m_i_acts, m_i_undone, m_i_laid, m_i_knowns, m_i_time, m_f_text, m_f_tunes, m_f_houses, m_f_hums, m_f_told, m_f_many, m_f_ruleFrom, m_f_ruleTo, m_f_code, m_f_eWhat, m_f_eSign, m_f_all, m_f_kept, m_f_was, m_f_sTune, m_f_boxAll, m_J, m_L, hrX, hrM, hKX, hKM, hPX, hPM, hDX, hDM, hdj, hS, hIX, hWB, hRB, hBB, hIM, htm⟩ := hI
  refine lv_aload_n hx hb dL_law_1382 rfl (lv_at hl 2 rfl) ?_
  refine W.eq (g2 := F0 m 1383 ls [.ref (xr 0)]) (by rw [hrX]) ?_
  refine lv_aload_n hx hb dL_law_1383 rfl (lv_at hl 3 rfl) ?_
  refine lv_iload_n hx hb dL_law_1384 rfl (lv_at hl 0 rfl) ?_
  refine lv_iconst (v := 1) hx hb dL_law_1385 (by decide) ?_
  refine lv_iadd hx hb dL_law_1386 ?_
  refine lv_topi (fun x1 ex1 => ?_)
  refine va_sld hx hb hX hbl hbA hS (sidx ex1 hi0 hi1 hL (by decide) (by decide)) dL_law_1387 ?_
  refine lv_topi (fun x2 ex2 => ?_)
  have hFc := frA hDX hS hA
  refine va_calli (va_runV (As := [.int x2]) (rest := []) ⟨hx, hb, hml, hown, hG⟩ (kX8_rows l dC dI xr xt x_i_tapeLength x_i_time x_i_lyingCount x_i_rd_fault x_i_rd_token x_i_rd_kind x_i_sc_count x_i_sc_at x_i_A_tunes x_i_A_houses x_i_fA_length x_i_B_tunes x_i_B_houses x_i_fB_length x_i_acts_done x_i_acts_undone x_i_kn_count x_f_boxes x_f_boxKept x_f_trial x_f_offers x_f_A_noteCounts x_f_A_notes x_f_B_noteCounts x_f_B_notes x_f_now_where x_f_now_worn x_f_ahead_where x_f_ahead_worn x_f_acts_rows x_f_kn_tunes x_f_kn_noteTimes x_J x_L x2 H.size hIX) (cwV 1 hG (goodV gw1074 gw1075 gw1076 gw129 gw1077) rfl rfl rfl hd_X8_rows ⟨(Nat.le_of_ble_eq_true rfl), (Nat.le_of_ble_eq_true rfl)⟩) ⟨fbW, va_recv hKX hPX (ci := 7) (q0 := 0) rfl rfl, pW_in hPX hKX hDX⟩ rfl rfl hl.1 rfl (lv_room (Nat.le_of_ble_eq_true rfl)) dL_law_1388 ⟨(Nat.le_of_ble_eq_true rfl), (Nat.le_of_ble_eq_true rfl)⟩) hS (fun q _ h => hFc q h) hFc (fun r_4 u_ t_ H3 locs ht hvm hw hB hz1 hk1 hS => ?_)
  subst hw
  obtain ⟨n5, n6, hP1, hD1, hIX⟩ := hB
  rw [ht] at hP1
  obtain ⟨hPM, hdj⟩ := mvO hPM hdj (fun k q hk => hD1.2 k q hk) hk1
  have hPX := hP1
  have hDX := dW hFc hD1
  refine lv_pop hx hb dL_law_1391 rfl ?_
  refine lv_aload_n hx hb dL_law_1392 rfl (lv_at hl 1 rfl) ?_
  refine W.eq (g2 := F0 m 1393 ls [.ref (mr 0)]) (by rw [hrM]) ?_
  refine lv_aload_n hx hb dL_law_1393 rfl (lv_at hl 3 rfl) ?_
  refine lv_iload_n hx hb dL_law_1394 rfl (lv_at hl 0 rfl) ?_
  refine lv_iconst (v := 1) hx hb dL_law_1395 (by decide) ?_
  refine lv_iadd hx hb dL_law_1396 ?_
  refine lv_topi (fun x7 ex7 => ?_)
  refine va_sld hx hb hX hbl hbA hS (sidx ex7 hi0 hi1 hL (by decide) (by decide)) dL_law_1397 ?_
  refine lv_topi (fun x8 ex8 => ?_)
  have hFc := frA hDM hS hA
  refine va_calli (va_runV (As := [.int x8]) (rest := []) ⟨hx, hb, hml, hown, hG⟩ (kX9_rows l dC dI mr mt m_i_taped m_i_size m_i_faultKind m_i_at m_i_end m_i_token m_i_number m_i_bank m_i_rb m_i_codes m_i_within m_i_piled m_i_unitsInRule m_i_askHouse m_i_askTune m_i_acts m_i_undone m_i_laid m_i_knowns m_i_time m_f_text m_f_tunes m_f_houses m_f_hums m_f_told m_f_many m_f_ruleFrom m_f_ruleTo m_f_code m_f_eWhat m_f_eSign m_f_all m_f_kept m_f_was m_f_sTune m_f_boxAll m_J m_L x8 H3.size hIM) (cwV 1 hG (goodV gw1830 gw1831 gw1832 gw138 gw1833) rfl rfl rfl hd_X9_rows ⟨(Nat.le_of_ble_eq_true rfl), (Nat.le_of_ble_eq_true rfl)⟩) ⟨fbW, va_recv hKM hPM (ci := 8) (q0 := 0) rfl rfl, pW_in hPM hKM hDM⟩ rfl rfl hl.1 rfl (lv_room (Nat.le_of_ble_eq_true rfl)) dL_law_1398 ⟨(Nat.le_of_ble_eq_true rfl), (Nat.le_of_ble_eq_true rfl)⟩) hS (fun q _ h => hFc q h) hFc (fun r_10 u_ t_ H9 locs ht hvm hw hB hz1 hk1 hS => ?_)
  subst hw
  obtain ⟨n11, n12, n13, n14, n15, hP1, hD1, hIM⟩ := hB
  rw [ht] at hP1
  obtain ⟨hPX, hdj⟩ := mvO hPX (dj_sym hdj) (fun k q hk => hD1.2 k q hk) hk1
  have hdj := dj_sym hdj
  have hPM := hP1
  have hDM := dW hFc hD1
  refine lv_pop hx hb dL_law_1401 rfl ?_
  refine lv_goto (tgt := 1540) hx hb dL_law_1402 (by decide) ?_
  exact kk H9 _ _ ⟨xr, xt, x_i_tapeLength, x_i_time, x_i_lyingCount, x_i_rd_fault, x_i_rd_token, x_i_rd_kind, x_i_sc_count, x_i_sc_at, x_i_A_tunes, x_i_A_houses, x_i_fA_length, x_i_B_tunes, x_i_B_houses, x_i_fB_length, x_i_acts_done, x_i_acts_undone, x_i_kn_count, x_f_boxes, x_f_boxKept, x_f_trial, x_f_offers, x_f_A_noteCounts, x_f_A_notes, x_f_B_noteCounts, x_f_B_notes, x_f_now_where, x_f_now_worn, x_f_ahead_where, x_f_ahead_worn, x_f_acts_rows, x_f_kn_tunes, n5, n6, x_L, mr, mt, m_i_taped, m_i_size, m_i_faultKind, m_i_at, m_i_end, m_i_token, m_i_number, m_i_bank, m_i_rb, m_i_codes, m_i_within, m_i_piled, m_i_unitsInRule, n11, n12, m_i_acts, m_i_undone, m_i_laid, m_i_knowns, m_i_time, m_f_text, m_f_tunes, m_f_houses, m_f_hums, m_f_told, m_f_many, m_f_ruleFrom, m_f_ruleTo, m_f_code, m_f_eWhat, m_f_eSign, n13, n14, m_f_was, m_f_sTune, m_f_boxAll, n15, m_L, hrX, hrM, hKX, hKM, hPX, hPM, hDX, hDM, hdj, hS, hIX, hWB, hRB, hBB, hIM, htm⟩ hl
set_option maxHeartbeats 4000000 in
set_option maxRecDepth 100000 in
theorem law_43 {p : Program} {e : Env} {s : State} {m : MethodId} {below : List Frame} {meth : Method} {c : Code} (l : Launch) {b L : Nat} {xs : Nat → Int32} (hL : L ≤ 3072) (C0 : lw_At p s m meth c b L xs) (dC : Nat → ClassId) (dI : Nat → Nat → Nat) (adK adV : Nat) (fS : Nat → Int32) (hZ : ZS adK adV fS (fun q : Nat => s.heap.size ≤ q) s s.heap) {aX aM : Nat} {i : Int32} (hi0 : 0 ≤ i.toInt) (hi1 : i.toInt + 6 ≤ (L : Int)) {H : Heap} {locs : List Loc} (hI : LI dC dI s aX aM H locs) {ls : Array Slot} (hl : lv_has ls 4 [(3, .int i), (2, .ref aM), (1, .ref aX), (0, .ref b)]) (kk : ∀ (H1 : Heap) (locs1 : List Loc) (ls1 : Array Slot), LI dC dI s aX aM H1 locs1 → lv_has ls1 4 [(3, .int i), (2, .ref aM), (1, .ref aX), (0, .ref b)] → W p l e room_1 s m #[Value.ref b] below meth c H1 locs1 103 20190 (lw_Z below #[Value.ref b] s) (F0 m 1540 ls1 [])) : W p l e room_1 s m #[Value.ref b] below meth c H locs 103 20190 (lw_Z below #[Value.ref b] s) (F0 m 1405 ls []) := by
  obtain ⟨hx, hb, hr, hml, hown, hts, hX, hbl, hlocks, hgv⟩ := id C0
  have hown : s.vm.findClass RL = some m.cls := hown
  have hG : ∀ w ∈ GW, w.before _ s = true := fun w h => hts w (List.mem_filter.mp h).1
  have hA : ∀ q : Nat, s.heap.size ≤ q → (fun q : Nat => s.heap.size ≤ q) q := fun _ h => h
  have hbA : ¬ (fun q : Nat => s.heap.size ≤ q) b := Nat.not_le.mpr hbl
  obtain ⟨xr, xt, x_i_tapeLength, x_i_time, x_i_lyingCount, x_i_rd_fault, x_i_rd_token, x_i_rd_kind, x_i_sc_count, x_i_sc_at, x_i_A_tunes, x_i_A_houses, x_i_fA_length, x_i_B_tunes, x_i_B_houses, x_i_fB_length, x_i_acts_done, x_i_acts_undone, x_i_kn_count, x_f_boxes, x_f_boxKept, x_f_trial, x_f_offers, x_f_A_noteCounts, x_f_A_notes, x_f_B_noteCounts, x_f_B_notes, x_f_now_where, x_f_now_worn, x_f_ahead_where, x_f_ahead_worn, x_f_acts_rows, x_f_kn_tunes, x_f_kn_noteTimes, x_J, x_L, mr, mt, m_i_taped, m_i_size, m_i_faultKind, m_i_at, m_i_end, m_i_token, m_i_number, m_i_bank, m_i_rb, m_i_codes, m_i_within, m_i_piled, m_i_unitsInRule, m_i_askHouse, m_i_askTune, m_i_acts, m_i_undone, m_i_laid, m_i_knowns, m_i_time, m_f_text, m_f_tunes, m_f_houses, m_f_hums, m_f_told, m_f_many, m_f_ruleFrom, m_f_ruleTo, m_f_code, m_f_eWhat, m_f_eSign, m_f_all, m_f_kept, m_f_was, m_f_sTune, m_f_boxAll, m_J, m_L, hrX, hrM, hKX, hKM, hPX, hPM, hDX, hDM, hdj, hS, hIX, hWB, hRB, hBB, hIM, htm⟩ := hI
  refine lv_aload_n hx hb dL_law_1405 rfl (lv_at hl 2 rfl) ?_
  refine W.eq (g2 := F0 m 1406 ls [.ref (xr 0)]) (by rw [hrX]) ?_
  refine lv_aload_n hx hb dL_law_1406 rfl (lv_at hl 3 rfl) ?_
  refine lv_iload_n hx hb dL_law_1407 rfl (lv_at hl 0 rfl) ?_
  refine lv_iconst (v := 1) hx hb dL_law_1408 (by decide) ?_
  refine lv_iadd hx hb dL_law_1409 ?_
  refine lv_topi (fun x1 ex1 => ?_)
  refine va_sld hx hb hX hbl hbA hS (sidx ex1 hi0 hi1 hL (by decide) (by decide)) dL_law_1410 ?_
  refine lv_topi (fun x2 ex2 => ?_)
  refine lv_aload_n hx hb dL_law_1411 rfl (lv_at hl 3 rfl) ?_
  refine lv_iload_n hx hb dL_law_1412 rfl (lv_at hl 0 rfl) ?_
  refine lv_iconst (v := 2) hx hb dL_law_1413 (by decide) ?_
  refine lv_iadd hx hb dL_law_1414 ?_
  refine lv_topi (fun x3 ex3 => ?_)
  refine va_sld hx hb hX hbl hbA hS (sidx ex3 hi0 hi1 hL (by decide) (by decide)) dL_law_1415 ?_
  refine lv_topi (fun x4 ex4 => ?_)
  have hFc := frA hDX hS hA
  refine va_calli (va_runV (As := [.int x2, .int x4]) (rest := []) ⟨hx, hb, hml, hown, hG⟩ (kX8_sure l dC dI xr xt x_i_tapeLength x_i_time x_i_lyingCount x_i_rd_fault x_i_rd_token x_i_rd_kind x_i_sc_count x_i_sc_at x_i_A_tunes x_i_A_houses x_i_fA_length x_i_B_tunes x_i_B_houses x_i_fB_length x_i_acts_done x_i_acts_undone x_i_kn_count x_f_boxes x_f_boxKept x_f_trial x_f_offers x_f_A_noteCounts x_f_A_notes x_f_B_noteCounts x_f_B_notes x_f_now_where x_f_now_worn x_f_ahead_where x_f_ahead_worn x_f_acts_rows x_f_kn_tunes x_f_kn_noteTimes x_J x_L x2 x4 H.size hIX) (cwV 2 hG (goodV gw1114 gw1115 gw1116 gw129 gw1117) rfl rfl rfl hd_X8_sure ⟨(Nat.le_of_ble_eq_true rfl), (Nat.le_of_ble_eq_true rfl)⟩) ⟨fbW, va_recv hKX hPX (ci := 7) (q0 := 0) rfl rfl, pW_in hPX hKX hDX⟩ rfl rfl hl.1 rfl (lv_room (Nat.le_of_ble_eq_true rfl)) dL_law_1416 ⟨(Nat.le_of_ble_eq_true rfl), (Nat.le_of_ble_eq_true rfl)⟩) hS (fun q _ h => hFc q h) hFc (fun r_6 u_ t_ H5 locs ht hvm hw hB hz1 hk1 hS => ?_)
  subst hw
  obtain ⟨n7, n8, hP1, hD1, hIX⟩ := hB
  rw [ht] at hP1
  obtain ⟨hPM, hdj⟩ := mvO hPM hdj (fun k q hk => hD1.2 k q hk) hk1
  have hPX := hP1
  have hDX := dW hFc hD1
  refine lv_pop hx hb dL_law_1419 rfl ?_
  refine lv_aload_n hx hb dL_law_1420 rfl (lv_at hl 1 rfl) ?_
  refine W.eq (g2 := F0 m 1421 ls [.ref (mr 0)]) (by rw [hrM]) ?_
  refine lv_aload_n hx hb dL_law_1421 rfl (lv_at hl 3 rfl) ?_
  refine lv_iload_n hx hb dL_law_1422 rfl (lv_at hl 0 rfl) ?_
  refine lv_iconst (v := 1) hx hb dL_law_1423 (by decide) ?_
  refine lv_iadd hx hb dL_law_1424 ?_
  refine lv_topi (fun x9 ex9 => ?_)
  refine va_sld hx hb hX hbl hbA hS (sidx ex9 hi0 hi1 hL (by decide) (by decide)) dL_law_1425 ?_
  refine lv_topi (fun x10 ex10 => ?_)
  refine lv_aload_n hx hb dL_law_1426 rfl (lv_at hl 3 rfl) ?_
  refine lv_iload_n hx hb dL_law_1427 rfl (lv_at hl 0 rfl) ?_
  refine lv_iconst (v := 2) hx hb dL_law_1428 (by decide) ?_
  refine lv_iadd hx hb dL_law_1429 ?_
  refine lv_topi (fun x11 ex11 => ?_)
  refine va_sld hx hb hX hbl hbA hS (sidx ex11 hi0 hi1 hL (by decide) (by decide)) dL_law_1430 ?_
  refine lv_topi (fun x12 ex12 => ?_)
  have hFc := frA hDM hS hA
  refine va_calli (va_runV (As := [.int x10, .int x12]) (rest := []) ⟨hx, hb, hml, hown, hG⟩ (kX9_sure l dC dI mr mt m_i_taped m_i_size m_i_faultKind m_i_at m_i_end m_i_token m_i_number m_i_bank m_i_rb m_i_codes m_i_within m_i_piled m_i_unitsInRule m_i_askHouse m_i_askTune m_i_acts m_i_undone m_i_laid m_i_knowns m_i_time m_f_text m_f_tunes m_f_houses m_f_hums m_f_told m_f_many m_f_ruleFrom m_f_ruleTo m_f_code m_f_eWhat m_f_eSign m_f_all m_f_kept m_f_was m_f_sTune m_f_boxAll m_J m_L x10 x12 H5.size hIM) (cwV 2 hG (goodV gw1849 gw1850 gw1851 gw138 gw1852) rfl rfl rfl hd_X9_sure ⟨(Nat.le_of_ble_eq_true rfl), (Nat.le_of_ble_eq_true rfl)⟩) ⟨fbW, va_recv hKM hPM (ci := 8) (q0 := 0) rfl rfl, pW_in hPM hKM hDM⟩ rfl rfl hl.1 rfl (lv_room (Nat.le_of_ble_eq_true rfl)) dL_law_1431 ⟨(Nat.le_of_ble_eq_true rfl), (Nat.le_of_ble_eq_true rfl)⟩) hS (fun q _ h => hFc q h) hFc (fun r_14 u_ t_ H13 locs ht hvm hw hB hz1 hk1 hS => ?_)
  subst hw
  obtain ⟨n15, n16, n17, n18, n19, hP1, hD1, hIM⟩ := hB
  rw [ht] at hP1
  obtain ⟨hPX, hdj⟩ := mvO hPX (dj_sym hdj) (fun k q hk => hD1.2 k q hk) hk1
  have hdj := dj_sym hdj
  have hPM := hP1
  have hDM := dW hFc hD1
  refine lv_pop hx hb dL_law_1434 rfl ?_
  refine lv_goto (tgt := 1540) hx hb dL_law_1435 (by decide) ?_
  exact kk H13 _ _ ⟨xr, xt, x_i_tapeLength, x_i_time, x_i_lyingCount, x_i_rd_fault, x_i_rd_token, x_i_rd_kind, x_i_sc_count, x_i_sc_at, x_i_A_tunes, x_i_A_houses, x_i_fA_length, x_i_B_tunes, x_i_B_houses, x_i_fB_length, x_i_acts_done, x_i_acts_undone, x_i_kn_count, x_f_boxes, x_f_boxKept, x_f_trial, x_f_offers, x_f_A_noteCounts, x_f_A_notes, x_f_B_noteCounts, x_f_B_notes, x_f_now_where, x_f_now_worn, x_f_ahead_where, x_f_ahead_worn, x_f_acts_rows, x_f_kn_tunes, n7, n8, x_L, mr, mt, m_i_taped, m_i_size, m_i_faultKind, m_i_at, m_i_end, m_i_token, m_i_number, m_i_bank, m_i_rb, m_i_codes, m_i_within, m_i_piled, m_i_unitsInRule, n15, n16, m_i_acts, m_i_undone, m_i_laid, m_i_knowns, m_i_time, m_f_text, m_f_tunes, m_f_houses, m_f_hums, m_f_told, m_f_many, m_f_ruleFrom, m_f_ruleTo, m_f_code, m_f_eWhat, m_f_eSign, n17, n18, m_f_was, m_f_sTune, m_f_boxAll, n19, m_L, hrX, hrM, hKX, hKM, hPX, hPM, hDX, hDM, hdj, hS, hIX, hWB, hRB, hBB, hIM, htm⟩ hl
set_option maxHeartbeats 4000000 in
set_option maxRecDepth 100000 in
theorem law_44 {p : Program} {e : Env} {s : State} {m : MethodId} {below : List Frame} {meth : Method} {c : Code} (l : Launch) {b L : Nat} {xs : Nat → Int32} (hL : L ≤ 3072) (C0 : lw_At p s m meth c b L xs) (dC : Nat → ClassId) (dI : Nat → Nat → Nat) (adK adV : Nat) (fS : Nat → Int32) (hZ : ZS adK adV fS (fun q : Nat => s.heap.size ≤ q) s s.heap) {aX aM : Nat} {i : Int32} (hi0 : 0 ≤ i.toInt) (hi1 : i.toInt + 6 ≤ (L : Int)) {H : Heap} {locs : List Loc} (hI : LI dC dI s aX aM H locs) {ls : Array Slot} (hl : lv_has ls 4 [(3, .int i), (2, .ref aM), (1, .ref aX), (0, .ref b)]) (kk : ∀ (H1 : Heap) (locs1 : List Loc) (ls1 : Array Slot), LI dC dI s aX aM H1 locs1 → lv_has ls1 4 [(3, .int i), (2, .ref aM), (1, .ref aX), (0, .ref b)] → W p l e room_1 s m #[Value.ref b] below meth c H1 locs1 103 20190 (lw_Z below #[Value.ref b] s) (F0 m 1540 ls1 [])) : W p l e room_1 s m #[Value.ref b] below meth c H locs 103 20190 (lw_Z below #[Value.ref b] s) (F0 m 1438 ls []) := by
  obtain ⟨hx, hb, hr, hml, hown, hts, hX, hbl, hlocks, hgv⟩ := id C0
  have hown : s.vm.findClass RL = some m.cls := hown
  have hG : ∀ w ∈ GW, w.before _ s = true := fun w h => hts w (List.mem_filter.mp h).1
  have hA : ∀ q : Nat, s.heap.size ≤ q → (fun q : Nat => s.heap.size ≤ q) q := fun _ h => h
  have hbA : ¬ (fun q : Nat => s.heap.size ≤ q) b := Nat.not_le.mpr hbl
  obtain ⟨xr, xt, x_i_tapeLength, x_i_time, x_i_lyingCount, x_i_rd_fault, x_i_rd_token, x_i_rd_kind, x_i_sc_count, x_i_sc_at, x_i_A_tunes, x_i_A_houses, x_i_fA_length, x_i_B_tunes, x_i_B_houses, x_i_fB_length, x_i_acts_done, x_i_acts_undone, x_i_kn_count, x_f_boxes, x_f_boxKept, x_f_trial, x_f_offers, x_f_A_noteCounts, x_f_A_notes, x_f_B_noteCounts, x_f_B_notes, x_f_now_where, x_f_now_worn, x_f_ahead_where, x_f_ahead_worn, x_f_acts_rows, x_f_kn_tunes, x_f_kn_noteTimes, x_J, x_L, mr, mt, m_i_taped, m_i_size, m_i_faultKind, m_i_at, m_i_end, m_i_token, m_i_number, m_i_bank, m_i_rb, m_i_codes, m_i_within, m_i_piled, m_i_unitsInRule, m_i_askHouse, m_i_askTune, m_i_acts, m_i_undone, m_i_laid, m_i_knowns, m_i_time, m_f_text, m_f_tunes, m_f_houses, m_f_hums, m_f_told, m_f_many, m_f_ruleFrom, m_f_ruleTo, m_f_code, m_f_eWhat, m_f_eSign, m_f_all, m_f_kept, m_f_was, m_f_sTune, m_f_boxAll, m_J, m_L, hrX, hrM, hKX, hKM, hPX, hPM, hDX, hDM, hdj, hS, hIX, hWB, hRB, hBB, hIM, htm⟩ := hI
  refine lv_aload_n hx hb dL_law_1438 rfl (lv_at hl 2 rfl) ?_
  refine W.eq (g2 := F0 m 1439 ls [.ref (xr 0)]) (by rw [hrX]) ?_
  refine lv_aload_n hx hb dL_law_1439 rfl (lv_at hl 3 rfl) ?_
  refine lv_iload_n hx hb dL_law_1440 rfl (lv_at hl 0 rfl) ?_
  refine lv_iconst (v := 1) hx hb dL_law_1441 (by decide) ?_
  refine lv_iadd hx hb dL_law_1442 ?_
  refine lv_topi (fun x1 ex1 => ?_)
  refine va_sld hx hb hX hbl hbA hS (sidx ex1 hi0 hi1 hL (by decide) (by decide)) dL_law_1443 ?_
  refine lv_topi (fun x2 ex2 => ?_)
  refine lv_aload_n hx hb dL_law_1444 rfl (lv_at hl 3 rfl) ?_
  refine lv_iload_n hx hb dL_law_1445 rfl (lv_at hl 0 rfl) ?_
  refine lv_iconst (v := 2) hx hb dL_law_1446 (by decide) ?_
  refine lv_iadd hx hb dL_law_1447 ?_
  refine lv_topi (fun x3 ex3 => ?_)
  refine va_sld hx hb hX hbl hbA hS (sidx ex3 hi0 hi1 hL (by decide) (by decide)) dL_law_1448 ?_
  refine lv_topi (fun x4 ex4 => ?_)
  have hFc := frA hDX hS hA
  refine va_calli (va_runV (As := [.int x2, .int x4]) (rest := []) ⟨hx, hb, hml, hown, hG⟩ (kX8_ask l dC dI xr xt x_i_tapeLength x_i_time x_i_lyingCount x_i_rd_fault x_i_rd_token x_i_rd_kind x_i_sc_count x_i_sc_at x_i_A_tunes x_i_A_houses x_i_fA_length x_i_B_tunes x_i_B_houses x_i_fB_length x_i_acts_done x_i_acts_undone x_i_kn_count x_f_boxes x_f_boxKept x_f_trial x_f_offers x_f_A_noteCounts x_f_A_notes x_f_B_noteCounts x_f_B_notes x_f_now_where x_f_now_worn x_f_ahead_where x_f_ahead_worn x_f_acts_rows x_f_kn_tunes x_f_kn_noteTimes x_J x_L x2 x4 H.size hIX) (cwV 2 hG (goodV gw1122 gw1123 gw1124 gw129 gw1125) rfl rfl rfl hd_X8_ask ⟨(Nat.le_of_ble_eq_true rfl), (Nat.le_of_ble_eq_true rfl)⟩) ⟨fbW, va_recv hKX hPX (ci := 7) (q0 := 0) rfl rfl, pW_in hPX hKX hDX⟩ rfl rfl hl.1 rfl (lv_room (Nat.le_of_ble_eq_true rfl)) dL_law_1449 ⟨(Nat.le_of_ble_eq_true rfl), (Nat.le_of_ble_eq_true rfl)⟩) hS (fun q _ h => hFc q h) hFc (fun r_6 u_ t_ H5 locs ht hvm hw hB hz1 hk1 hS => ?_)
  subst hw
  obtain ⟨n7, n8, hP1, hD1, hIX⟩ := hB
  rw [ht] at hP1
  obtain ⟨hPM, hdj⟩ := mvO hPM hdj (fun k q hk => hD1.2 k q hk) hk1
  have hPX := hP1
  have hDX := dW hFc hD1
  refine lv_pop hx hb dL_law_1452 rfl ?_
  refine lv_aload_n hx hb dL_law_1453 rfl (lv_at hl 1 rfl) ?_
  refine W.eq (g2 := F0 m 1454 ls [.ref (mr 0)]) (by rw [hrM]) ?_
  refine lv_aload_n hx hb dL_law_1454 rfl (lv_at hl 3 rfl) ?_
  refine lv_iload_n hx hb dL_law_1455 rfl (lv_at hl 0 rfl) ?_
  refine lv_iconst (v := 1) hx hb dL_law_1456 (by decide) ?_
  refine lv_iadd hx hb dL_law_1457 ?_
  refine lv_topi (fun x9 ex9 => ?_)
  refine va_sld hx hb hX hbl hbA hS (sidx ex9 hi0 hi1 hL (by decide) (by decide)) dL_law_1458 ?_
  refine lv_topi (fun x10 ex10 => ?_)
  refine lv_aload_n hx hb dL_law_1459 rfl (lv_at hl 3 rfl) ?_
  refine lv_iload_n hx hb dL_law_1460 rfl (lv_at hl 0 rfl) ?_
  refine lv_iconst (v := 2) hx hb dL_law_1461 (by decide) ?_
  refine lv_iadd hx hb dL_law_1462 ?_
  refine lv_topi (fun x11 ex11 => ?_)
  refine va_sld hx hb hX hbl hbA hS (sidx ex11 hi0 hi1 hL (by decide) (by decide)) dL_law_1463 ?_
  refine lv_topi (fun x12 ex12 => ?_)
  have hFc := frA hDM hS hA
  refine va_calli (va_runV (As := [.int x10, .int x12]) (rest := []) ⟨hx, hb, hml, hown, hG⟩ (kX9_ask l dC dI mr mt m_i_taped m_i_size m_i_faultKind m_i_at m_i_end m_i_token m_i_number m_i_bank m_i_rb m_i_codes m_i_within m_i_piled m_i_unitsInRule m_i_askHouse m_i_askTune m_i_acts m_i_undone m_i_laid m_i_knowns m_i_time m_f_text m_f_tunes m_f_houses m_f_hums m_f_told m_f_many m_f_ruleFrom m_f_ruleTo m_f_code m_f_eWhat m_f_eSign m_f_all m_f_kept m_f_was m_f_sTune m_f_boxAll m_J m_L x10 x12 H5.size hIM) (cwV 2 hG (goodV gw1853 gw1854 gw1855 gw138 gw1856) rfl rfl rfl hd_X9_ask ⟨(Nat.le_of_ble_eq_true rfl), (Nat.le_of_ble_eq_true rfl)⟩) ⟨fbW, va_recv hKM hPM (ci := 8) (q0 := 0) rfl rfl, pW_in hPM hKM hDM⟩ rfl rfl hl.1 rfl (lv_room (Nat.le_of_ble_eq_true rfl)) dL_law_1464 ⟨(Nat.le_of_ble_eq_true rfl), (Nat.le_of_ble_eq_true rfl)⟩) hS (fun q _ h => hFc q h) hFc (fun r_14 u_ t_ H13 locs ht hvm hw hB hz1 hk1 hS => ?_)
  subst hw
  obtain ⟨n15, n16, n17, n18, n19, hP1, hD1, hIM⟩ := hB
  rw [ht] at hP1
  obtain ⟨hPX, hdj⟩ := mvO hPX (dj_sym hdj) (fun k q hk => hD1.2 k q hk) hk1
  have hdj := dj_sym hdj
  have hPM := hP1
  have hDM := dW hFc hD1
  refine lv_pop hx hb dL_law_1467 rfl ?_
  refine lv_goto (tgt := 1540) hx hb dL_law_1468 (by decide) ?_
  exact kk H13 _ _ ⟨xr, xt, x_i_tapeLength, x_i_time, x_i_lyingCount, x_i_rd_fault, x_i_rd_token, x_i_rd_kind, x_i_sc_count, x_i_sc_at, x_i_A_tunes, x_i_A_houses, x_i_fA_length, x_i_B_tunes, x_i_B_houses, x_i_fB_length, x_i_acts_done, x_i_acts_undone, x_i_kn_count, x_f_boxes, x_f_boxKept, x_f_trial, x_f_offers, x_f_A_noteCounts, x_f_A_notes, x_f_B_noteCounts, x_f_B_notes, x_f_now_where, x_f_now_worn, x_f_ahead_where, x_f_ahead_worn, x_f_acts_rows, x_f_kn_tunes, n7, n8, x_L, mr, mt, m_i_taped, m_i_size, m_i_faultKind, m_i_at, m_i_end, m_i_token, m_i_number, m_i_bank, m_i_rb, m_i_codes, m_i_within, m_i_piled, m_i_unitsInRule, n15, n16, m_i_acts, m_i_undone, m_i_laid, m_i_knowns, m_i_time, m_f_text, m_f_tunes, m_f_houses, m_f_hums, m_f_told, m_f_many, m_f_ruleFrom, m_f_ruleTo, m_f_code, m_f_eWhat, m_f_eSign, n17, n18, m_f_was, m_f_sTune, m_f_boxAll, n19, m_L, hrX, hrM, hKX, hKM, hPX, hPM, hDX, hDM, hdj, hS, hIX, hWB, hRB, hBB, hIM, htm⟩ hl
set_option maxHeartbeats 4000000 in
set_option maxRecDepth 100000 in
theorem law_45 {p : Program} {e : Env} {s : State} {m : MethodId} {below : List Frame} {meth : Method} {c : Code} (l : Launch) {b L : Nat} {xs : Nat → Int32} (hL : L ≤ 3072) (C0 : lw_At p s m meth c b L xs) (dC : Nat → ClassId) (dI : Nat → Nat → Nat) (adK adV : Nat) (fS : Nat → Int32) (hZ : ZS adK adV fS (fun q : Nat => s.heap.size ≤ q) s s.heap) {aX aM : Nat} {i : Int32} (hi0 : 0 ≤ i.toInt) (hi1 : i.toInt + 6 ≤ (L : Int)) {H : Heap} {locs : List Loc} (hI : LI dC dI s aX aM H locs) {ls : Array Slot} (hl : lv_has ls 4 [(3, .int i), (2, .ref aM), (1, .ref aX), (0, .ref b)]) (kk : ∀ (H1 : Heap) (locs1 : List Loc) (ls1 : Array Slot), LI dC dI s aX aM H1 locs1 → lv_has ls1 4 [(3, .int i), (2, .ref aM), (1, .ref aX), (0, .ref b)] → W p l e room_1 s m #[Value.ref b] below meth c H1 locs1 103 20190 (lw_Z below #[Value.ref b] s) (F0 m 1540 ls1 [])) : W p l e room_1 s m #[Value.ref b] below meth c H locs 103 20190 (lw_Z below #[Value.ref b] s) (F0 m 1471 ls []) := by
  obtain ⟨hx, hb, hr, hml, hown, hts, hX, hbl, hlocks, hgv⟩ := id C0
  have hown : s.vm.findClass RL = some m.cls := hown
  have hG : ∀ w ∈ GW, w.before _ s = true := fun w h => hts w (List.mem_filter.mp h).1
  have hA : ∀ q : Nat, s.heap.size ≤ q → (fun q : Nat => s.heap.size ≤ q) q := fun _ h => h
  have hbA : ¬ (fun q : Nat => s.heap.size ≤ q) b := Nat.not_le.mpr hbl
  obtain ⟨xr, xt, x_i_tapeLength, x_i_time, x_i_lyingCount, x_i_rd_fault, x_i_rd_token, x_i_rd_kind, x_i_sc_count, x_i_sc_at, x_i_A_tunes, x_i_A_houses, x_i_fA_length, x_i_B_tunes, x_i_B_houses, x_i_fB_length, x_i_acts_done, x_i_acts_undone, x_i_kn_count, x_f_boxes, x_f_boxKept, x_f_trial, x_f_offers, x_f_A_noteCounts, x_f_A_notes, x_f_B_noteCounts, x_f_B_notes, x_f_now_where, x_f_now_worn, x_f_ahead_where, x_f_ahead_worn, x_f_acts_rows, x_f_kn_tunes, x_f_kn_noteTimes, x_J, x_L, mr, mt, m_i_taped, m_i_size, m_i_faultKind, m_i_at, m_i_end, m_i_token, m_i_number, m_i_bank, m_i_rb, m_i_codes, m_i_within, m_i_piled, m_i_unitsInRule, m_i_askHouse, m_i_askTune, m_i_acts, m_i_undone, m_i_laid, m_i_knowns, m_i_time, m_f_text, m_f_tunes, m_f_houses, m_f_hums, m_f_told, m_f_many, m_f_ruleFrom, m_f_ruleTo, m_f_code, m_f_eWhat, m_f_eSign, m_f_all, m_f_kept, m_f_was, m_f_sTune, m_f_boxAll, m_J, m_L, hrX, hrM, hKX, hKM, hPX, hPM, hDX, hDM, hdj, hS, hIX, hWB, hRB, hBB, hIM, htm⟩ := hI
  refine lv_aload_n hx hb dL_law_1471 rfl (lv_at hl 2 rfl) ?_
  refine W.eq (g2 := F0 m 1472 ls [.ref (xr 0)]) (by rw [hrX]) ?_
  refine lv_aload_n hx hb dL_law_1472 rfl (lv_at hl 3 rfl) ?_
  refine lv_iload_n hx hb dL_law_1473 rfl (lv_at hl 0 rfl) ?_
  refine lv_iconst (v := 1) hx hb dL_law_1474 (by decide) ?_
  refine lv_iadd hx hb dL_law_1475 ?_
  refine lv_topi (fun x1 ex1 => ?_)
  refine va_sld hx hb hX hbl hbA hS (sidx ex1 hi0 hi1 hL (by decide) (by decide)) dL_law_1476 ?_
  refine lv_topi (fun x2 ex2 => ?_)
  have hFc := frA hDX hS hA
  refine va_calli (va_runV (As := [.int x2]) (rest := []) ⟨hx, hb, hml, hown, hG⟩ (kX8_image l dC dI xr xt x_i_tapeLength x_i_time x_i_lyingCount x_i_rd_fault x_i_rd_token x_i_rd_kind x_i_sc_count x_i_sc_at x_i_A_tunes x_i_A_houses x_i_fA_length x_i_B_tunes x_i_B_houses x_i_fB_length x_i_acts_done x_i_acts_undone x_i_kn_count x_f_boxes x_f_boxKept x_f_trial x_f_offers x_f_A_noteCounts x_f_A_notes x_f_B_noteCounts x_f_B_notes x_f_now_where x_f_now_worn x_f_ahead_where x_f_ahead_worn x_f_acts_rows x_f_kn_tunes x_f_kn_noteTimes x_J x_L x2 H.size hIX hWB hBB) (cwV 1 hG (goodV gw1135 gw1136 gw1137 gw129 gw1138) rfl rfl rfl hd_X8_image ⟨(Nat.le_of_ble_eq_true rfl), (Nat.le_of_ble_eq_true rfl)⟩) ⟨fbW, va_recv hKX hPX (ci := 7) (q0 := 0) rfl rfl, pW_in hPX hKX hDX⟩ rfl rfl hl.1 rfl (lv_room (Nat.le_of_ble_eq_true rfl)) dL_law_1477 ⟨(Nat.le_of_ble_eq_true rfl), (Nat.le_of_ble_eq_true rfl)⟩) hS (fun q _ h => hFc q h) hFc (fun r_4 u_ t_ H3 locs ht hvm hw hB hz1 hk1 hS => ?_)
  subst hw
  obtain ⟨n5, n6, hP1, hD1, hIX, hBB⟩ := hB
  rw [ht] at hP1
  obtain ⟨hPM, hdj⟩ := mvO hPM hdj (fun k q hk => hD1.2 k q hk) hk1
  have hPX := hP1
  have hDX := dW hFc hD1
  refine lv_pop hx hb dL_law_1480 rfl ?_
  refine lv_aload_n hx hb dL_law_1481 rfl (lv_at hl 1 rfl) ?_
  refine W.eq (g2 := F0 m 1482 ls [.ref (mr 0)]) (by rw [hrM]) ?_
  refine lv_aload_n hx hb dL_law_1482 rfl (lv_at hl 3 rfl) ?_
  refine lv_iload_n hx hb dL_law_1483 rfl (lv_at hl 0 rfl) ?_
  refine lv_iconst (v := 1) hx hb dL_law_1484 (by decide) ?_
  refine lv_iadd hx hb dL_law_1485 ?_
  refine lv_topi (fun x7 ex7 => ?_)
  refine va_sld hx hb hX hbl hbA hS (sidx ex7 hi0 hi1 hL (by decide) (by decide)) dL_law_1486 ?_
  refine lv_topi (fun x8 ex8 => ?_)
  have hFc := frA hDM hS hA
  refine va_calli (va_runV (As := [.int x8]) (rest := []) ⟨hx, hb, hml, hown, hG⟩ (kX9_image l dC dI mr mt m_i_taped m_i_size m_i_faultKind m_i_at m_i_end m_i_token m_i_number m_i_bank m_i_rb m_i_codes m_i_within m_i_piled m_i_unitsInRule m_i_askHouse m_i_askTune m_i_acts m_i_undone m_i_laid m_i_knowns m_i_time m_f_text m_f_tunes m_f_houses m_f_hums m_f_told m_f_many m_f_ruleFrom m_f_ruleTo m_f_code m_f_eWhat m_f_eSign m_f_all m_f_kept m_f_was m_f_sTune m_f_boxAll m_J m_L x8 H3.size hIM) (cwV 1 hG (goodV gw1861 gw1862 gw1863 gw138 gw1864) rfl rfl rfl hd_X9_image ⟨(Nat.le_of_ble_eq_true rfl), (Nat.le_of_ble_eq_true rfl)⟩) ⟨fbW, va_recv hKM hPM (ci := 8) (q0 := 0) rfl rfl, pW_in hPM hKM hDM⟩ rfl rfl hl.1 rfl (lv_room (Nat.le_of_ble_eq_true rfl)) dL_law_1487 ⟨(Nat.le_of_ble_eq_true rfl), (Nat.le_of_ble_eq_true rfl)⟩) hS (fun q _ h => hFc q h) hFc (fun r_10 u_ t_ H9 locs ht hvm hw hB hz1 hk1 hS => ?_)
  subst hw
  obtain ⟨n11, n12, hP1, hD1, hIM⟩ := hB
  rw [ht] at hP1
  obtain ⟨hPX, hdj⟩ := mvO hPX (dj_sym hdj) (fun k q hk => hD1.2 k q hk) hk1
  have hdj := dj_sym hdj
  have hPM := hP1
  have hDM := dW hFc hD1
  refine lv_pop hx hb dL_law_1490 rfl ?_
  refine lv_goto (tgt := 1540) hx hb dL_law_1491 (by decide) ?_
  exact kk H9 _ _ ⟨xr, xt, x_i_tapeLength, x_i_time, x_i_lyingCount, x_i_rd_fault, x_i_rd_token, x_i_rd_kind, x_i_sc_count, x_i_sc_at, x_i_A_tunes, x_i_A_houses, x_i_fA_length, x_i_B_tunes, x_i_B_houses, x_i_fB_length, x_i_acts_done, x_i_acts_undone, x_i_kn_count, n5, n6, x_f_trial, x_f_offers, x_f_A_noteCounts, x_f_A_notes, x_f_B_noteCounts, x_f_B_notes, x_f_now_where, x_f_now_worn, x_f_ahead_where, x_f_ahead_worn, x_f_acts_rows, x_f_kn_tunes, x_f_kn_noteTimes, x_J, x_L, mr, mt, m_i_taped, m_i_size, m_i_faultKind, m_i_at, m_i_end, m_i_token, m_i_number, m_i_bank, m_i_rb, m_i_codes, m_i_within, m_i_piled, m_i_unitsInRule, m_i_askHouse, m_i_askTune, m_i_acts, m_i_undone, m_i_laid, m_i_knowns, m_i_time, m_f_text, m_f_tunes, m_f_houses, m_f_hums, m_f_told, m_f_many, m_f_ruleFrom, m_f_ruleTo, m_f_code, m_f_eWhat, m_f_eSign, m_f_all, m_f_kept, m_f_was, m_f_sTune, n11, n12, m_L, hrX, hrM, hKX, hKM, hPX, hPM, hDX, hDM, hdj, hS, hIX, hWB, hRB, hBB, hIM, htm⟩ hl
set_option maxHeartbeats 4000000 in
set_option maxRecDepth 100000 in
theorem law_46 {p : Program} {e : Env} {s : State} {m : MethodId} {below : List Frame} {meth : Method} {c : Code} (l : Launch) {b L : Nat} {xs : Nat → Int32} (hL : L ≤ 3072) (C0 : lw_At p s m meth c b L xs) (dC : Nat → ClassId) (dI : Nat → Nat → Nat) (adK adV : Nat) (fS : Nat → Int32) (hZ : ZS adK adV fS (fun q : Nat => s.heap.size ≤ q) s s.heap) {aX aM : Nat} {i : Int32} (hi0 : 0 ≤ i.toInt) (hi1 : i.toInt + 6 ≤ (L : Int)) {H : Heap} {locs : List Loc} (hI : LI dC dI s aX aM H locs) {ls : Array Slot} (hl : lv_has ls 4 [(3, .int i), (2, .ref aM), (1, .ref aX), (0, .ref b)]) (kk : ∀ (H1 : Heap) (locs1 : List Loc) (ls1 : Array Slot), LI dC dI s aX aM H1 locs1 → lv_has ls1 4 [(3, .int i), (2, .ref aM), (1, .ref aX), (0, .ref b)] → W p l e room_1 s m #[Value.ref b] below meth c H1 locs1 103 20190 (lw_Z below #[Value.ref b] s) (F0 m 1540 ls1 [])) : W p l e room_1 s m #[Value.ref b] below meth c H locs 103 20190 (lw_Z below #[Value.ref b] s) (F0 m 1494 ls []) := by
  obtain ⟨hx, hb, hr, hml, hown, hts, hX, hbl, hlocks, hgv⟩ := id C0
  have hown : s.vm.findClass RL = some m.cls := hown
  have hG : ∀ w ∈ GW, w.before _ s = true := fun w h => hts w (List.mem_filter.mp h).1
  have hA : ∀ q : Nat, s.heap.size ≤ q → (fun q : Nat => s.heap.size ≤ q) q := fun _ h => h
  have hbA : ¬ (fun q : Nat => s.heap.size ≤ q) b := Nat.not_le.mpr hbl
  obtain ⟨xr, xt, x_i_tapeLength, x_i_time, x_i_lyingCount, x_i_rd_fault, x_i_rd_token, x_i_rd_kind, x_i_sc_count, x_i_sc_at, x_i_A_tunes, x_i_A_houses, x_i_fA_length, x_i_B_tunes, x_i_B_houses, x_i_fB_length, x_i_acts_done, x_i_acts_undone, x_i_kn_count, x_f_boxes, x_f_boxKept, x_f_trial, x_f_offers, x_f_A_noteCounts, x_f_A_notes, x_f_B_noteCounts, x_f_B_notes, x_f_now_where, x_f_now_worn, x_f_ahead_where, x_f_ahead_worn, x_f_acts_rows, x_f_kn_tunes, x_f_kn_noteTimes, x_J, x_L, mr, mt, m_i_taped, m_i_size, m_i_faultKind, m_i_at, m_i_end, m_i_token, m_i_number, m_i_bank, m_i_rb, m_i_codes, m_i_within, m_i_piled, m_i_unitsInRule, m_i_askHouse, m_i_askTune, m_i_acts, m_i_undone, m_i_laid, m_i_knowns, m_i_time, m_f_text, m_f_tunes, m_f_houses, m_f_hums, m_f_told, m_f_many, m_f_ruleFrom, m_f_ruleTo, m_f_code, m_f_eWhat, m_f_eSign, m_f_all, m_f_kept, m_f_was, m_f_sTune, m_f_boxAll, m_J, m_L, hrX, hrM, hKX, hKM, hPX, hPM, hDX, hDM, hdj, hS, hIX, hWB, hRB, hBB, hIM, htm⟩ := hI
  refine lv_aload_n hx hb dL_law_1494 rfl (lv_at hl 2 rfl) ?_
  refine W.eq (g2 := F0 m 1495 ls [.ref (xr 0)]) (by rw [hrX]) ?_
  refine lv_aload_n hx hb dL_law_1495 rfl (lv_at hl 3 rfl) ?_
  refine lv_iload_n hx hb dL_law_1496 rfl (lv_at hl 0 rfl) ?_
  refine lv_iconst (v := 1) hx hb dL_law_1497 (by decide) ?_
  refine lv_iadd hx hb dL_law_1498 ?_
  refine lv_topi (fun x1 ex1 => ?_)
  refine va_sld hx hb hX hbl hbA hS (sidx ex1 hi0 hi1 hL (by decide) (by decide)) dL_law_1499 ?_
  refine lv_topi (fun x2 ex2 => ?_)
  have hFc := frA hDX hS hA
  refine va_calli (va_runV (As := [.int x2]) (rest := []) ⟨hx, hb, hml, hown, hG⟩ (kX8_restore l dC dI xr xt x_i_tapeLength x_i_time x_i_lyingCount x_i_rd_fault x_i_rd_token x_i_rd_kind x_i_sc_count x_i_sc_at x_i_A_tunes x_i_A_houses x_i_fA_length x_i_B_tunes x_i_B_houses x_i_fB_length x_i_acts_done x_i_acts_undone x_i_kn_count x_f_boxes x_f_boxKept x_f_trial x_f_offers x_f_A_noteCounts x_f_A_notes x_f_B_noteCounts x_f_B_notes x_f_now_where x_f_now_worn x_f_ahead_where x_f_ahead_worn x_f_acts_rows x_f_kn_tunes x_f_kn_noteTimes x_J x_L x2 H.size hIX hWB hRB hBB) (cwV 1 hG (goodV gw1140 gw1141 gw1142 gw129 gw1143) rfl rfl rfl hd_X8_restore ⟨(Nat.le_of_ble_eq_true rfl), (Nat.le_of_ble_eq_true rfl)⟩) ⟨fbW, va_recv hKX hPX (ci := 7) (q0 := 0) rfl rfl, pW_in hPX hKX hDX⟩ rfl rfl hl.1 rfl (lv_room (Nat.le_of_ble_eq_true rfl)) dL_law_1500 ⟨(Nat.le_of_ble_eq_true rfl), (Nat.le_of_ble_eq_true rfl)⟩) hS (fun q _ h => hFc q h) hFc (fun r_4 u_ t_ H3 locs ht hvm hw hB hz1 hk1 hS => ?_)
  subst hw
  obtain ⟨n5, n6, n7, n8, n9, n10, hP1, hD1, hIX, hWB, hRB⟩ := hB
  rw [ht] at hP1
  obtain ⟨hPM, hdj⟩ := mvO hPM hdj (fun k q hk => hD1.2 k q hk) hk1
  have hPX := hP1
  have hDX := dW hFc hD1
  refine lv_pop hx hb dL_law_1503 rfl ?_
  refine lv_aload_n hx hb dL_law_1504 rfl (lv_at hl 1 rfl) ?_
  refine W.eq (g2 := F0 m 1505 ls [.ref (mr 0)]) (by rw [hrM]) ?_
  refine lv_aload_n hx hb dL_law_1505 rfl (lv_at hl 3 rfl) ?_
  refine lv_iload_n hx hb dL_law_1506 rfl (lv_at hl 0 rfl) ?_
  refine lv_iconst (v := 1) hx hb dL_law_1507 (by decide) ?_
  refine lv_iadd hx hb dL_law_1508 ?_
  refine lv_topi (fun x11 ex11 => ?_)
  refine va_sld hx hb hX hbl hbA hS (sidx ex11 hi0 hi1 hL (by decide) (by decide)) dL_law_1509 ?_
  refine lv_topi (fun x12 ex12 => ?_)
  have hFc := frA hDM hS hA
  refine va_calli (va_runV (As := [.int x12]) (rest := []) ⟨hx, hb, hml, hown, hG⟩ (kX9_restore l dC dI mr mt m_i_taped m_i_size m_i_faultKind m_i_at m_i_end m_i_token m_i_number m_i_bank m_i_rb m_i_codes m_i_within m_i_piled m_i_unitsInRule m_i_askHouse m_i_askTune m_i_acts m_i_undone m_i_laid m_i_knowns m_i_time m_f_text m_f_tunes m_f_houses m_f_hums m_f_told m_f_many m_f_ruleFrom m_f_ruleTo m_f_code m_f_eWhat m_f_eSign m_f_all m_f_kept m_f_was m_f_sTune m_f_boxAll m_J m_L x12 H3.size hIM) (cwV 1 hG (goodV gw1865 gw1866 gw1867 gw138 gw1868) rfl rfl rfl hd_X9_restore ⟨(Nat.le_of_ble_eq_true rfl), (Nat.le_of_ble_eq_true rfl)⟩) ⟨fbW, va_recv hKM hPM (ci := 8) (q0 := 0) rfl rfl, pW_in hPM hKM hDM⟩ rfl rfl hl.1 rfl (lv_room (Nat.le_of_ble_eq_true rfl)) dL_law_1510 ⟨(Nat.le_of_ble_eq_true rfl), (Nat.le_of_ble_eq_true rfl)⟩) hS (fun q _ h => hFc q h) hFc (fun r_14 u_ t_ H13 locs ht hvm hw hB hz1 hk1 hS => ?_)
  subst hw
  obtain ⟨n15, n16, n17, hP1, hD1, hIM⟩ := hB
  rw [ht] at hP1
  obtain ⟨hPX, hdj⟩ := mvO hPX (dj_sym hdj) (fun k q hk => hD1.2 k q hk) hk1
  have hdj := dj_sym hdj
  have hPM := hP1
  have hDM := dW hFc hD1
  refine lv_pop hx hb dL_law_1513 rfl ?_
  refine lv_goto (tgt := 1540) hx hb dL_law_1514 (by decide) ?_
  exact kk H13 _ _ ⟨xr, xt, x_i_tapeLength, x_i_time, x_i_lyingCount, x_i_rd_fault, x_i_rd_token, x_i_rd_kind, x_i_sc_count, x_i_sc_at, x_i_A_tunes, x_i_A_houses, x_i_fA_length, x_i_B_tunes, x_i_B_houses, x_i_fB_length, n5, n6, x_i_kn_count, x_f_boxes, x_f_boxKept, x_f_trial, x_f_offers, x_f_A_noteCounts, x_f_A_notes, x_f_B_noteCounts, x_f_B_notes, n7, n8, x_f_ahead_where, x_f_ahead_worn, n9, x_f_kn_tunes, x_f_kn_noteTimes, n10, x_L, mr, mt, m_i_taped, m_i_size, m_i_faultKind, m_i_at, m_i_end, m_i_token, m_i_number, m_i_bank, m_i_rb, m_i_codes, m_i_within, m_i_piled, m_i_unitsInRule, m_i_askHouse, m_i_askTune, n15, n16, m_i_laid, m_i_knowns, m_i_time, m_f_text, m_f_tunes, m_f_houses, m_f_hums, m_f_told, m_f_many, m_f_ruleFrom, m_f_ruleTo, m_f_code, m_f_eWhat, m_f_eSign, n17, m_f_kept, m_f_was, m_f_sTune, m_f_boxAll, m_J, m_L, hrX, hrM, hKX, hKM, hPX, hPM, hDX, hDM, hdj, hS, hIX, hWB, hRB, hBB, hIM, htm⟩ hl
set_option maxHeartbeats 4000000 in
set_option maxRecDepth 100000 in
theorem law_47 {p : Program} {e : Env} {s : State} {m : MethodId} {below : List Frame} {meth : Method} {c : Code} (l : Launch) {b L : Nat} {xs : Nat → Int32} (hL : L ≤ 3072) (C0 : lw_At p s m meth c b L xs) (dC : Nat → ClassId) (dI : Nat → Nat → Nat) (adK adV : Nat) (fS : Nat → Int32) (hZ : ZS adK adV fS (fun q : Nat => s.heap.size ≤ q) s s.heap) {aX aM : Nat} {i : Int32} (hi0 : 0 ≤ i.toInt) (hi1 : i.toInt + 6 ≤ (L : Int)) {H : Heap} {locs : List Loc} (hI : LI dC dI s aX aM H locs) {ls : Array Slot} (hl : lv_has ls 4 [(3, .int i), (2, .ref aM), (1, .ref aX), (0, .ref b)]) (kk : ∀ (H1 : Heap) (locs1 : List Loc) (ls1 : Array Slot), LI dC dI s aX aM H1 locs1 → lv_has ls1 4 [(3, .int i), (2, .ref aM), (1, .ref aX), (0, .ref b)] → W p l e room_1 s m #[Value.ref b] below meth c H1 locs1 103 20190 (lw_Z below #[Value.ref b] s) (F0 m 1540 ls1 [])) : W p l e room_1 s m #[Value.ref b] below meth c H locs 103 20190 (lw_Z below #[Value.ref b] s) (F0 m 1517 ls []) := by
  obtain ⟨hx, hb, hr, hml, hown, hts, hX, hbl, hlocks, hgv⟩ := id C0
  have hown : s.vm.findClass RL = some m.cls := hown
  have hG : ∀ w ∈ GW, w.before _ s = true := fun w h => hts w (List.mem_filter.mp h).1
  have hA : ∀ q : Nat, s.heap.size ≤ q → (fun q : Nat => s.heap.size ≤ q) q := fun _ h => h
  have hbA : ¬ (fun q : Nat => s.heap.size ≤ q) b := Nat.not_le.mpr hbl
  obtain ⟨xr, xt, x_i_tapeLength, x_i_time, x_i_lyingCount, x_i_rd_fault, x_i_rd_token, x_i_rd_kind, x_i_sc_count, x_i_sc_at, x_i_A_tunes, x_i_A_houses, x_i_fA_length, x_i_B_tunes, x_i_B_houses, x_i_fB_length, x_i_acts_done, x_i_acts_undone, x_i_kn_count, x_f_boxes, x_f_boxKept, x_f_trial, x_f_offers, x_f_A_noteCounts, x_f_A_notes, x_f_B_noteCounts, x_f_B_notes, x_f_now_where, x_f_now_worn, x_f_ahead_where, x_f_ahead_worn, x_f_acts_rows, x_f_kn_tunes, x_f_kn_noteTimes, x_J, x_L, mr, mt, m_i_taped, m_i_size, m_i_faultKind, m_i_at, m_i_end, m_i_token, m_i_number, m_i_bank, m_i_rb, m_i_codes, m_i_within, m_i_piled, m_i_unitsInRule, m_i_askHouse, m_i_askTune, m_i_acts, m_i_undone, m_i_laid, m_i_knowns, m_i_time, m_f_text, m_f_tunes, m_f_houses, m_f_hums, m_f_told, m_f_many, m_f_ruleFrom, m_f_ruleTo, m_f_code, m_f_eWhat, m_f_eSign, m_f_all, m_f_kept, m_f_was, m_f_sTune, m_f_boxAll, m_J, m_L, hrX, hrM, hKX, hKM, hPX, hPM, hDX, hDM, hdj, hS, hIX, hWB, hRB, hBB, hIM, htm⟩ := hI
  refine lv_aload_n hx hb dL_law_1517 rfl (lv_at hl 2 rfl) ?_
  refine W.eq (g2 := F0 m 1518 ls [.ref (xr 0)]) (by rw [hrX]) ?_
  refine lv_aload_n hx hb dL_law_1518 rfl (lv_at hl 3 rfl) ?_
  refine lv_iload_n hx hb dL_law_1519 rfl (lv_at hl 0 rfl) ?_
  refine lv_iconst (v := 1) hx hb dL_law_1520 (by decide) ?_
  refine lv_iadd hx hb dL_law_1521 ?_
  refine lv_topi (fun x1 ex1 => ?_)
  refine va_sld hx hb hX hbl hbA hS (sidx ex1 hi0 hi1 hL (by decide) (by decide)) dL_law_1522 ?_
  refine lv_topi (fun x2 ex2 => ?_)
  refine va_calli (va_runV (As := [.int x2]) (rest := []) ⟨hx, hb, hml, hown, hG⟩ (kX8_about l dC dI xr xt x_i_tapeLength x_i_time x_i_lyingCount x_i_rd_fault x_i_rd_token x_i_rd_kind x_i_sc_count x_i_sc_at x_i_A_tunes x_i_A_houses x_i_fA_length x_i_B_tunes x_i_B_houses x_i_fB_length x_i_acts_done x_i_acts_undone x_i_kn_count x_f_boxes x_f_boxKept x_f_trial x_f_offers x_f_A_noteCounts x_f_A_notes x_f_B_noteCounts x_f_B_notes x_f_now_where x_f_now_worn x_f_ahead_where x_f_ahead_worn x_f_acts_rows x_f_kn_tunes x_f_kn_noteTimes x_J x_L x2 H.size hIX) (cwV 1 hG (goodV gw1145 gw1146 gw1147 gw129 gw1148) rfl rfl rfl hd_X8_about ⟨(Nat.le_of_ble_eq_true rfl), (Nat.le_of_ble_eq_true rfl)⟩) ⟨fbR, va_recv hKX hPX (ci := 7) (q0 := 0) rfl rfl, pR_in hPX hKX⟩ rfl rfl hl.1 rfl (lv_room (Nat.le_of_ble_eq_true rfl)) dL_law_1523 ⟨(Nat.le_of_ble_eq_true rfl), (Nat.le_of_ble_eq_true rfl)⟩) hS (fun q hq h => absurd hq (Nat.not_lt.mpr h)) (fun q h => hA q (Nat.le_trans hS.1 h)) (fun r_4 u_ t_ H3 locs ht hvm hw hB hz1 hk1 hS => ?_)
  subst hw
  have hPX := wk hPX hk1
  have hPM := wk hPM hk1
  refine lv_pop hx hb dL_law_1526 rfl ?_
  refine lv_aload_n hx hb dL_law_1527 rfl (lv_at hl 1 rfl) ?_
  refine W.eq (g2 := F0 m 1528 ls [.ref (mr 0)]) (by rw [hrM]) ?_
  refine lv_aload_n hx hb dL_law_1528 rfl (lv_at hl 3 rfl) ?_
  refine lv_iload_n hx hb dL_law_1529 rfl (lv_at hl 0 rfl) ?_
  refine lv_iconst (v := 1) hx hb dL_law_1530 (by decide) ?_
  refine lv_iadd hx hb dL_law_1531 ?_
  refine lv_topi (fun x5 ex5 => ?_)
  refine va_sld hx hb hX hbl hbA hS (sidx ex5 hi0 hi1 hL (by decide) (by decide)) dL_law_1532 ?_
  refine lv_topi (fun x6 ex6 => ?_)
  refine va_calli (va_runV (As := [.int x6]) (rest := []) ⟨hx, hb, hml, hown, hG⟩ (kX9_about l dC dI mr mt m_i_taped m_i_size m_i_faultKind m_i_at m_i_end m_i_token m_i_number m_i_bank m_i_rb m_i_codes m_i_within m_i_piled m_i_unitsInRule m_i_askHouse m_i_askTune m_i_acts m_i_undone m_i_laid m_i_knowns m_i_time m_f_text m_f_tunes m_f_houses m_f_hums m_f_told m_f_many m_f_ruleFrom m_f_ruleTo m_f_code m_f_eWhat m_f_eSign m_f_all m_f_kept m_f_was m_f_sTune m_f_boxAll m_J m_L x6 H3.size hIM) (cwV 1 hG (goodV gw1869 gw1870 gw1871 gw138 gw1872) rfl rfl rfl hd_X9_about ⟨(Nat.le_of_ble_eq_true rfl), (Nat.le_of_ble_eq_true rfl)⟩) ⟨fbR, va_recv hKM hPM (ci := 8) (q0 := 0) rfl rfl, pR_in hPM hKM⟩ rfl rfl hl.1 rfl (lv_room (Nat.le_of_ble_eq_true rfl)) dL_law_1533 ⟨(Nat.le_of_ble_eq_true rfl), (Nat.le_of_ble_eq_true rfl)⟩) hS (fun q hq h => absurd hq (Nat.not_lt.mpr h)) (fun q h => hA q (Nat.le_trans hS.1 h)) (fun r_8 u_ t_ H7 locs ht hvm hw hB hz1 hk1 hS => ?_)
  subst hw
  have hPX := wk hPX hk1
  have hPM := wk hPM hk1
  refine lv_pop hx hb dL_law_1536 rfl ?_
  refine lv_goto (tgt := 1540) hx hb dL_law_1537 (by decide) ?_
  exact kk H7 _ _ ⟨xr, xt, x_i_tapeLength, x_i_time, x_i_lyingCount, x_i_rd_fault, x_i_rd_token, x_i_rd_kind, x_i_sc_count, x_i_sc_at, x_i_A_tunes, x_i_A_houses, x_i_fA_length, x_i_B_tunes, x_i_B_houses, x_i_fB_length, x_i_acts_done, x_i_acts_undone, x_i_kn_count, x_f_boxes, x_f_boxKept, x_f_trial, x_f_offers, x_f_A_noteCounts, x_f_A_notes, x_f_B_noteCounts, x_f_B_notes, x_f_now_where, x_f_now_worn, x_f_ahead_where, x_f_ahead_worn, x_f_acts_rows, x_f_kn_tunes, x_f_kn_noteTimes, x_J, x_L, mr, mt, m_i_taped, m_i_size, m_i_faultKind, m_i_at, m_i_end, m_i_token, m_i_number, m_i_bank, m_i_rb, m_i_codes, m_i_within, m_i_piled, m_i_unitsInRule, m_i_askHouse, m_i_askTune, m_i_acts, m_i_undone, m_i_laid, m_i_knowns, m_i_time, m_f_text, m_f_tunes, m_f_houses, m_f_hums, m_f_told, m_f_many, m_f_ruleFrom, m_f_ruleTo, m_f_code, m_f_eWhat, m_f_eSign, m_f_all, m_f_kept, m_f_was, m_f_sTune, m_f_boxAll, m_J, m_L, hrX, hrM, hKX, hKM, hPX, hPM, hDX, hDM, hdj, hS, hIX, hWB, hRB, hBB, hIM, htm⟩ hl
