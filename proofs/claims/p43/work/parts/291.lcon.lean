set_option maxHeartbeats 4000000 in
set_option maxRecDepth 100000 in
theorem law_20 {p : Program} {e : Env} {s : State} {m : MethodId} {below : List Frame} {meth : Method} {c : Code} (l : Launch) {b L : Nat} {xs : Nat → Int32} (hL : L ≤ 3072) (C0 : lw_At p s m meth c b L xs) (dC : Nat → ClassId) (dI : Nat → Nat → Nat) (adK adV : Nat) (fS : Nat → Int32) (hZ : ZS adK adV fS (fun q : Nat => s.heap.size ≤ q) s s.heap) {aX aM : Nat} {i : Int32} (hi0 : 0 ≤ i.toInt) (hi1 : i.toInt + 6 ≤ (L : Int)) {H : Heap} {locs : List Loc} (hI : LI dC dI s aX aM H locs) {ls : Array Slot} (hl : lv_has ls 4 [(3, .int i), (2, .ref aM), (1, .ref aX), (0, .ref b)]) (kk : ∀ (H1 : Heap) (locs1 : List Loc) (ls1 : Array Slot), LI dC dI s aX aM H1 locs1 → lv_has ls1 4 [(3, .int i), (2, .ref aM), (1, .ref aX), (0, .ref b)] → W p l e room_1 s m #[Value.ref b] below meth c H1 locs1 103 20190 (lw_Z below #[Value.ref b] s) (F0 m 1540 ls1 [])) : W p l e room_1 s m #[Value.ref b] below meth c H locs 103 20190 (lw_Z below #[Value.ref b] s) (F0 m 790 ls []) := by
  obtain ⟨hx, hb, hr, hml, hown, hts, hX, hbl, hlocks, hgv⟩ := id C0
  have hown : s.vm.findClass RL = some m.cls := hown
  have hG : ∀ w ∈ GW, w.before _ s = true := fun w h => hts w (List.mem_filter.mp h).1
  have hA : ∀ q : Nat, s.heap.size ≤ q → (fun q : Nat => s.heap.size ≤ q) q := fun _ h => h
  have hbA : ¬ (fun q : Nat => s.heap.size ≤ q) b := Nat.not_le.mpr hbl
  obtain ⟨xr, xt, x_i_tapeLength, x_i_time, x_i_lyingCount, x_i_rd_fault, x_i_rd_token, x_i_rd_kind, x_i_sc_count, x_i_sc_at, x_i_A_tunes, x_i_A_houses, x_i_fA_length, x_i_B_tunes, x_i_B_houses, x_i_fB_length, x_i_acts_done, x_i_acts_undone, x_i_kn_count, x_f_boxes, x_f_boxKept, x_f_trial, x_f_offers, x_f_A_noteCounts, x_f_A_notes, x_f_B_noteCounts, x_f_B_notes, x_f_now_where, x_f_now_worn, x_f_ahead_where, x_f_ahead_worn, x_f_acts_rows, x_f_kn_tunes, x_f_kn_noteTimes, x_J, x_L, mr, mt, m_i_taped, m_i_size, m_i_faultKind, m_i_at, m_i_end, m_i_token, m_i_number, m_i_bank, m_i_rb, m_i_codes, m_i_within, m_i_piled, m_i_unitsInRule, m_i_askHouse, m_i_askTune, m_i_acts, m_i_undone, m_i_laid, m_i_knowns, m_i_time, m_f_text, m_f_tunes, m_f_houses, m_f_hums, m_f_told, m_f_many, m_f_ruleFrom, m_f_ruleTo, m_f_code, m_f_eWhat, m_f_eSign, m_f_all, m_f_kept, m_f_was, m_f_sTune, m_f_boxAll, m_J, m_L, hrX, hrM, hKX, hKM, hPX, hPM, hDX, hDM, hdj, hS, hIX, hWB, hRB, hBB, hIM, htm⟩ := hI
  refine lv_aload_n hx hb dL_law_790 rfl (lv_at hl 2 rfl) ?_
  refine W.eq (g2 := F0 m 791 ls [.ref (xr 0)]) (by rw [hrX]) ?_
  have hFc := frA hDX hS hA
  refine va_calli (va_runV (As := []) (rest := []) ⟨hx, hb, hml, hown, hG⟩ (kX8_barter l dC dI xr xt x_i_tapeLength x_i_time x_i_lyingCount x_i_rd_fault x_i_rd_token x_i_rd_kind x_i_sc_count x_i_sc_at x_i_A_tunes x_i_A_houses x_i_fA_length x_i_B_tunes x_i_B_houses x_i_fB_length x_i_acts_done x_i_acts_undone x_i_kn_count x_f_boxes x_f_boxKept x_f_trial x_f_offers x_f_A_noteCounts x_f_A_notes x_f_B_noteCounts x_f_B_notes x_f_now_where x_f_now_worn x_f_ahead_where x_f_ahead_worn x_f_acts_rows x_f_kn_tunes x_f_kn_noteTimes x_J x_L H.size hIX hWB) (cwV 0 hG (goodV gw940 gw941 gw942 gw129 gw943) rfl rfl rfl hd_X8_barter ⟨(Nat.le_of_ble_eq_true rfl), (Nat.le_of_ble_eq_true rfl)⟩) ⟨fbW, va_recv hKX hPX (ci := 7) (q0 := 0) rfl rfl, pW_in hPX hKX hDX⟩ rfl rfl hl.1 rfl (lv_room (Nat.le_of_ble_eq_true rfl)) dL_law_791 ⟨(Nat.le_of_ble_eq_true rfl), (Nat.le_of_ble_eq_true rfl)⟩) hS (fun q _ h => hFc q h) hFc (fun r_2 u_ t_ H1 locs ht hvm hw hB hz1 hk1 hS => ?_)
  subst hw
  obtain ⟨n3, n4, n5, n6, hP1, hD1, hIX⟩ := hB
  rw [ht] at hP1
  obtain ⟨hPM, hdj⟩ := mvO hPM hdj (fun k q hk => hD1.2 k q hk) hk1
  have hPX := hP1
  have hDX := dW hFc hD1
  refine lv_pop hx hb dL_law_794 rfl ?_
  refine lv_aload_n hx hb dL_law_795 rfl (lv_at hl 1 rfl) ?_
  refine W.eq (g2 := F0 m 796 ls [.ref (mr 0)]) (by rw [hrM]) ?_
  have hFc := frA hDM hS hA
  refine va_calli (va_runV (As := []) (rest := []) ⟨hx, hb, hml, hown, hG⟩ (kX9_barter l dC dI mr mt m_i_taped m_i_size m_i_faultKind m_i_at m_i_end m_i_token m_i_number m_i_bank m_i_rb m_i_codes m_i_within m_i_piled m_i_unitsInRule m_i_askHouse m_i_askTune m_i_acts m_i_undone m_i_laid m_i_knowns m_i_time m_f_text m_f_tunes m_f_houses m_f_hums m_f_told m_f_many m_f_ruleFrom m_f_ruleTo m_f_code m_f_eWhat m_f_eSign m_f_all m_f_kept m_f_was m_f_sTune m_f_boxAll m_J m_L H1.size hIM) (cwV 0 hG (goodV gw1778 gw1779 gw1780 gw138 gw1781) rfl rfl rfl hd_X9_barter ⟨(Nat.le_of_ble_eq_true rfl), (Nat.le_of_ble_eq_true rfl)⟩) ⟨fbW, va_recv hKM hPM (ci := 8) (q0 := 0) rfl rfl, pW_in hPM hKM hDM⟩ rfl rfl hl.1 rfl (lv_room (Nat.le_of_ble_eq_true rfl)) dL_law_796 ⟨(Nat.le_of_ble_eq_true rfl), (Nat.le_of_ble_eq_true rfl)⟩) hS (fun q _ h => hFc q h) hFc (fun r_8 u_ t_ H7 locs ht hvm hw hB hz1 hk1 hS => ?_)
  subst hw
  obtain ⟨n9, n10, n11, n12, hP1, hD1, hIM⟩ := hB
  rw [ht] at hP1
  obtain ⟨hPX, hdj⟩ := mvO hPX (dj_sym hdj) (fun k q hk => hD1.2 k q hk) hk1
  have hdj := dj_sym hdj
  have hPM := hP1
  have hDM := dW hFc hD1
  refine lv_pop hx hb dL_law_799 rfl ?_
  refine lv_goto (tgt := 1540) hx hb dL_law_800 (by decide) ?_
  exact kk H7 _ _ ⟨xr, xt, x_i_tapeLength, x_i_time, n3, x_i_rd_fault, x_i_rd_token, x_i_rd_kind, x_i_sc_count, x_i_sc_at, x_i_A_tunes, x_i_A_houses, x_i_fA_length, x_i_B_tunes, x_i_B_houses, x_i_fB_length, x_i_acts_done, x_i_acts_undone, x_i_kn_count, x_f_boxes, x_f_boxKept, n4, n5, x_f_A_noteCounts, x_f_A_notes, x_f_B_noteCounts, x_f_B_notes, x_f_now_where, x_f_now_worn, x_f_ahead_where, x_f_ahead_worn, x_f_acts_rows, x_f_kn_tunes, x_f_kn_noteTimes, n6, x_L, mr, mt, m_i_taped, m_i_size, m_i_faultKind, m_i_at, m_i_end, m_i_token, m_i_number, m_i_bank, m_i_rb, m_i_codes, m_i_within, m_i_piled, m_i_unitsInRule, n9, n10, m_i_acts, m_i_undone, n11, m_i_knowns, m_i_time, m_f_text, m_f_tunes, m_f_houses, m_f_hums, m_f_told, m_f_many, m_f_ruleFrom, m_f_ruleTo, m_f_code, m_f_eWhat, m_f_eSign, m_f_all, m_f_kept, m_f_was, m_f_sTune, m_f_boxAll, n12, m_L, hrX, hrM, hKX, hKM, hPX, hPM, hDX, hDM, hdj, hS, hIX, hWB, hRB, hBB, hIM, htm⟩ hl
set_option maxHeartbeats 4000000 in
set_option maxRecDepth 100000 in
theorem law_21 {p : Program} {e : Env} {s : State} {m : MethodId} {below : List Frame} {meth : Method} {c : Code} (l : Launch) {b L : Nat} {xs : Nat → Int32} (hL : L ≤ 3072) (C0 : lw_At p s m meth c b L xs) (dC : Nat → ClassId) (dI : Nat → Nat → Nat) (adK adV : Nat) (fS : Nat → Int32) (hZ : ZS adK adV fS (fun q : Nat => s.heap.size ≤ q) s s.heap) {aX aM : Nat} {i : Int32} (hi0 : 0 ≤ i.toInt) (hi1 : i.toInt + 6 ≤ (L : Int)) {H : Heap} {locs : List Loc} (hI : LI dC dI s aX aM H locs) {ls : Array Slot} (hl : lv_has ls 4 [(3, .int i), (2, .ref aM), (1, .ref aX), (0, .ref b)]) (kk : ∀ (H1 : Heap) (locs1 : List Loc) (ls1 : Array Slot), LI dC dI s aX aM H1 locs1 → lv_has ls1 4 [(3, .int i), (2, .ref aM), (1, .ref aX), (0, .ref b)] → W p l e room_1 s m #[Value.ref b] below meth c H1 locs1 103 20190 (lw_Z below #[Value.ref b] s) (F0 m 1540 ls1 [])) : W p l e room_1 s m #[Value.ref b] below meth c H locs 103 20190 (lw_Z below #[Value.ref b] s) (F0 m 803 ls []) := by
  obtain ⟨hx, hb, hr, hml, hown, hts, hX, hbl, hlocks, hgv⟩ := id C0
  have hown : s.vm.findClass RL = some m.cls := hown
  have hG : ∀ w ∈ GW, w.before _ s = true := fun w h => hts w (List.mem_filter.mp h).1
  have hA : ∀ q : Nat, s.heap.size ≤ q → (fun q : Nat => s.heap.size ≤ q) q := fun _ h => h
  have hbA : ¬ (fun q : Nat => s.heap.size ≤ q) b := Nat.not_le.mpr hbl
  obtain ⟨xr, xt, x_i_tapeLength, x_i_time, x_i_lyingCount, x_i_rd_fault, x_i_rd_token, x_i_rd_kind, x_i_sc_count, x_i_sc_at, x_i_A_tunes, x_i_A_houses, x_i_fA_length, x_i_B_tunes, x_i_B_houses, x_i_fB_length, x_i_acts_done, x_i_acts_undone, x_i_kn_count, x_f_boxes, x_f_boxKept, x_f_trial, x_f_offers, x_f_A_noteCounts, x_f_A_notes, x_f_B_noteCounts, x_f_B_notes, x_f_now_where, x_f_now_worn, x_f_ahead_where, x_f_ahead_worn, x_f_acts_rows, x_f_kn_tunes, x_f_kn_noteTimes, x_J, x_L, mr, mt, m_i_taped, m_i_size, m_i_faultKind, m_i_at, m_i_end, m_i_token, m_i_number, m_i_bank, m_i_rb, m_i_codes, m_i_within, m_i_piled, m_i_unitsInRule, m_i_askHouse, m_i_askTune, m_i_acts, m_i_undone, m_i_laid, m_i_knowns, m_i_time, m_f_text, m_f_tunes, m_f_houses, m_f_hums, m_f_told, m_f_many, m_f_ruleFrom, m_f_ruleTo, m_f_code, m_f_eWhat, m_f_eSign, m_f_all, m_f_kept, m_f_was, m_f_sTune, m_f_boxAll, m_J, m_L, hrX, hrM, hKX, hKM, hPX, hPM, hDX, hDM, hdj, hS, hIX, hWB, hRB, hBB, hIM, htm⟩ := hI
  refine lv_aload_n hx hb dL_law_803 rfl (lv_at hl 2 rfl) ?_
  refine W.eq (g2 := F0 m 804 ls [.ref (xr 0)]) (by rw [hrX]) ?_
  refine lv_aload_n hx hb dL_law_804 rfl (lv_at hl 3 rfl) ?_
  refine lv_iload_n hx hb dL_law_805 rfl (lv_at hl 0 rfl) ?_
  refine lv_iconst (v := 1) hx hb dL_law_806 (by decide) ?_
  refine lv_iadd hx hb dL_law_807 ?_
  refine lv_topi (fun x1 ex1 => ?_)
  refine va_sld hx hb hX hbl hbA hS (sidx ex1 hi0 hi1 hL (by decide) (by decide)) dL_law_808 ?_
  refine lv_topi (fun x2 ex2 => ?_)
  refine lv_aload_n hx hb dL_law_809 rfl (lv_at hl 3 rfl) ?_
  refine lv_iload_n hx hb dL_law_810 rfl (lv_at hl 0 rfl) ?_
  refine lv_iconst (v := 2) hx hb dL_law_811 (by decide) ?_
  refine lv_iadd hx hb dL_law_812 ?_
  refine lv_topi (fun x3 ex3 => ?_)
  refine va_sld hx hb hX hbl hbA hS (sidx ex3 hi0 hi1 hL (by decide) (by decide)) dL_law_813 ?_
  refine lv_topi (fun x4 ex4 => ?_)
  refine lv_aload_n hx hb dL_law_814 rfl (lv_at hl 3 rfl) ?_
  refine lv_iload_n hx hb dL_law_815 rfl (lv_at hl 0 rfl) ?_
  refine lv_iconst (v := 3) hx hb dL_law_816 (by decide) ?_
  refine lv_iadd hx hb dL_law_817 ?_
  refine lv_topi (fun x5 ex5 => ?_)
  refine va_sld hx hb hX hbl hbA hS (sidx ex5 hi0 hi1 hL (by decide) (by decide)) dL_law_818 ?_
  refine lv_topi (fun x6 ex6 => ?_)
  refine va_calli (va_runV (As := [.int x2, .int x4, .int x6]) (rest := []) ⟨hx, hb, hml, hown, hG⟩ (kX8_find l dC dI xr xt x_i_tapeLength x_i_time x_i_lyingCount x_i_rd_fault x_i_rd_token x_i_rd_kind x_i_sc_count x_i_sc_at x_i_A_tunes x_i_A_houses x_i_fA_length x_i_B_tunes x_i_B_houses x_i_fB_length x_i_acts_done x_i_acts_undone x_i_kn_count x_f_boxes x_f_boxKept x_f_trial x_f_offers x_f_A_noteCounts x_f_A_notes x_f_B_noteCounts x_f_B_notes x_f_now_where x_f_now_worn x_f_ahead_where x_f_ahead_worn x_f_acts_rows x_f_kn_tunes x_f_kn_noteTimes x_J x_L x2 x4 x6 H.size hIX) (cwV 3 hG (goodV gw997 gw998 gw999 gw129 gw1000) rfl rfl rfl hd_X8_find ⟨(Nat.le_of_ble_eq_true rfl), (Nat.le_of_ble_eq_true rfl)⟩) ⟨fbR, va_recv hKX hPX (ci := 7) (q0 := 0) rfl rfl, pR_in hPX hKX⟩ rfl rfl hl.1 rfl (lv_room (Nat.le_of_ble_eq_true rfl)) dL_law_819 ⟨(Nat.le_of_ble_eq_true rfl), (Nat.le_of_ble_eq_true rfl)⟩) hS (fun q hq h => absurd hq (Nat.not_lt.mpr h)) (fun q h => hA q (Nat.le_trans hS.1 h)) (fun r_8 u_ t_ H7 locs ht hvm hw hB hz1 hk1 hS => ?_)
  subst hw
  have hPX := wk hPX hk1
  have hPM := wk hPM hk1
  refine lv_pop hx hb dL_law_822 rfl ?_
  refine lv_aload_n hx hb dL_law_823 rfl (lv_at hl 1 rfl) ?_
  refine W.eq (g2 := F0 m 824 ls [.ref (mr 0)]) (by rw [hrM]) ?_
  refine lv_aload_n hx hb dL_law_824 rfl (lv_at hl 3 rfl) ?_
  refine lv_iload_n hx hb dL_law_825 rfl (lv_at hl 0 rfl) ?_
  refine lv_iconst (v := 1) hx hb dL_law_826 (by decide) ?_
  refine lv_iadd hx hb dL_law_827 ?_
  refine lv_topi (fun x9 ex9 => ?_)
  refine va_sld hx hb hX hbl hbA hS (sidx ex9 hi0 hi1 hL (by decide) (by decide)) dL_law_828 ?_
  refine lv_topi (fun x10 ex10 => ?_)
  refine lv_aload_n hx hb dL_law_829 rfl (lv_at hl 3 rfl) ?_
  refine lv_iload_n hx hb dL_law_830 rfl (lv_at hl 0 rfl) ?_
  refine lv_iconst (v := 2) hx hb dL_law_831 (by decide) ?_
  refine lv_iadd hx hb dL_law_832 ?_
  refine lv_topi (fun x11 ex11 => ?_)
  refine va_sld hx hb hX hbl hbA hS (sidx ex11 hi0 hi1 hL (by decide) (by decide)) dL_law_833 ?_
  refine lv_topi (fun x12 ex12 => ?_)
  refine lv_aload_n hx hb dL_law_834 rfl (lv_at hl 3 rfl) ?_
  refine lv_iload_n hx hb dL_law_835 rfl (lv_at hl 0 rfl) ?_
  refine lv_iconst (v := 3) hx hb dL_law_836 (by decide) ?_
  refine lv_iadd hx hb dL_law_837 ?_
  refine lv_topi (fun x13 ex13 => ?_)
  refine va_sld hx hb hX hbl hbA hS (sidx ex13 hi0 hi1 hL (by decide) (by decide)) dL_law_838 ?_
  refine lv_topi (fun x14 ex14 => ?_)
  refine va_calli (va_runV (As := [.int x10, .int x12, .int x14]) (rest := []) ⟨hx, hb, hml, hown, hG⟩ (kX9_find l dC dI mr mt m_i_taped m_i_size m_i_faultKind m_i_at m_i_end m_i_token m_i_number m_i_bank m_i_rb m_i_codes m_i_within m_i_piled m_i_unitsInRule m_i_askHouse m_i_askTune m_i_acts m_i_undone m_i_laid m_i_knowns m_i_time m_f_text m_f_tunes m_f_houses m_f_hums m_f_told m_f_many m_f_ruleFrom m_f_ruleTo m_f_code m_f_eWhat m_f_eSign m_f_all m_f_kept m_f_was m_f_sTune m_f_boxAll m_J m_L x10 x12 x14 H7.size hIM) (cwV 3 hG (goodV gw1625 gw1626 gw1627 gw138 gw1628) rfl rfl rfl hd_X9_find ⟨(Nat.le_of_ble_eq_true rfl), (Nat.le_of_ble_eq_true rfl)⟩) ⟨fbR, va_recv hKM hPM (ci := 8) (q0 := 0) rfl rfl, pR_in hPM hKM⟩ rfl rfl hl.1 rfl (lv_room (Nat.le_of_ble_eq_true rfl)) dL_law_839 ⟨(Nat.le_of_ble_eq_true rfl), (Nat.le_of_ble_eq_true rfl)⟩) hS (fun q hq h => absurd hq (Nat.not_lt.mpr h)) (fun q h => hA q (Nat.le_trans hS.1 h)) (fun r_16 u_ t_ H15 locs ht hvm hw hB hz1 hk1 hS => ?_)
  subst hw
  have hPX := wk hPX hk1
  have hPM := wk hPM hk1
  refine lv_pop hx hb dL_law_842 rfl ?_
  refine lv_goto (tgt := 1540) hx hb dL_law_843 (by decide) ?_
  exact kk H15 _ _ ⟨xr, xt, x_i_tapeLength, x_i_time, x_i_lyingCount, x_i_rd_fault, x_i_rd_token, x_i_rd_kind, x_i_sc_count, x_i_sc_at, x_i_A_tunes, x_i_A_houses, x_i_fA_length, x_i_B_tunes, x_i_B_houses, x_i_fB_length, x_i_acts_done, x_i_acts_undone, x_i_kn_count, x_f_boxes, x_f_boxKept, x_f_trial, x_f_offers, x_f_A_noteCounts, x_f_A_notes, x_f_B_noteCounts, x_f_B_notes, x_f_now_where, x_f_now_worn, x_f_ahead_where, x_f_ahead_worn, x_f_acts_rows, x_f_kn_tunes, x_f_kn_noteTimes, x_J, x_L, mr, mt, m_i_taped, m_i_size, m_i_faultKind, m_i_at, m_i_end, m_i_token, m_i_number, m_i_bank, m_i_rb, m_i_codes, m_i_within, m_i_piled, m_i_unitsInRule, m_i_askHouse, m_i_askTune, m_i_acts, m_i_undone, m_i_laid, m_i_knowns, m_i_time, m_f_text, m_f_tunes, m_f_houses, m_f_hums, m_f_told, m_f_many, m_f_ruleFrom, m_f_ruleTo, m_f_code, m_f_eWhat, m_f_eSign, m_f_all, m_f_kept, m_f_was, m_f_sTune, m_f_boxAll, m_J, m_L, hrX, hrM, hKX, hKM, hPX, hPM, hDX, hDM, hdj, hS, hIX, hWB, hRB, hBB, hIM, htm⟩ hl
set_option maxHeartbeats 4000000 in
set_option maxRecDepth 100000 in
theorem law_22 {p : Program} {e : Env} {s : State} {m : MethodId} {below : List Frame} {meth : Method} {c : Code} (l : Launch) {b L : Nat} {xs : Nat → Int32} (hL : L ≤ 3072) (C0 : lw_At p s m meth c b L xs) (dC : Nat → ClassId) (dI : Nat → Nat → Nat) (adK adV : Nat) (fS : Nat → Int32) (hZ : ZS adK adV fS (fun q : Nat => s.heap.size ≤ q) s s.heap) {aX aM : Nat} {i : Int32} (hi0 : 0 ≤ i.toInt) (hi1 : i.toInt + 6 ≤ (L : Int)) {H : Heap} {locs : List Loc} (hI : LI dC dI s aX aM H locs) {ls : Array Slot} (hl : lv_has ls 4 [(3, .int i), (2, .ref aM), (1, .ref aX), (0, .ref b)]) (kk : ∀ (H1 : Heap) (locs1 : List Loc) (ls1 : Array Slot), LI dC dI s aX aM H1 locs1 → lv_has ls1 4 [(3, .int i), (2, .ref aM), (1, .ref aX), (0, .ref b)] → W p l e room_1 s m #[Value.ref b] below meth c H1 locs1 103 20190 (lw_Z below #[Value.ref b] s) (F0 m 1540 ls1 [])) : W p l e room_1 s m #[Value.ref b] below meth c H locs 103 20190 (lw_Z below #[Value.ref b] s) (F0 m 846 ls []) := by
  obtain ⟨hx, hb, hr, hml, hown, hts, hX, hbl, hlocks, hgv⟩ := id C0
  have hown : s.vm.findClass RL = some m.cls := hown
  have hG : ∀ w ∈ GW, w.before _ s = true := fun w h => hts w (List.mem_filter.mp h).1
  have hA : ∀ q : Nat, s.heap.size ≤ q → (fun q : Nat => s.heap.size ≤ q) q := fun _ h => h
  have hbA : ¬ (fun q : Nat => s.heap.size ≤ q) b := Nat.not_le.mpr hbl
  obtain ⟨xr, xt, x_i_tapeLength, x_i_time, x_i_lyingCount, x_i_rd_fault, x_i_rd_token, x_i_rd_kind, x_i_sc_count, x_i_sc_at, x_i_A_tunes, x_i_A_houses, x_i_fA_length, x_i_B_tunes, x_i_B_houses, x_i_fB_length, x_i_acts_done, x_i_acts_undone, x_i_kn_count, x_f_boxes, x_f_boxKept, x_f_trial, x_f_offers, x_f_A_noteCounts, x_f_A_notes, x_f_B_noteCounts, x_f_B_notes, x_f_now_where, x_f_now_worn, x_f_ahead_where, x_f_ahead_worn, x_f_acts_rows, x_f_kn_tunes, x_f_kn_noteTimes, x_J, x_L, mr, mt, m_i_taped, m_i_size, m_i_faultKind, m_i_at, m_i_end, m_i_token, m_i_number, m_i_bank, m_i_rb, m_i_codes, m_i_within, m_i_piled, m_i_unitsInRule, m_i_askHouse, m_i_askTune, m_i_acts, m_i_undone, m_i_laid, m_i_knowns, m_i_time, m_f_text, m_f_tunes, m_f_houses, m_f_hums, m_f_told, m_f_many, m_f_ruleFrom, m_f_ruleTo, m_f_code, m_f_eWhat, m_f_eSign, m_f_all, m_f_kept, m_f_was, m_f_sTune, m_f_boxAll, m_J, m_L, hrX, hrM, hKX, hKM, hPX, hPM, hDX, hDM, hdj, hS, hIX, hWB, hRB, hBB, hIM, htm⟩ := hI
  refine lv_aload_n hx hb dL_law_846 rfl (lv_at hl 2 rfl) ?_
  refine W.eq (g2 := F0 m 847 ls [.ref (xr 0)]) (by rw [hrX]) ?_
  refine lv_aload_n hx hb dL_law_847 rfl (lv_at hl 3 rfl) ?_
  refine lv_iload_n hx hb dL_law_848 rfl (lv_at hl 0 rfl) ?_
  refine lv_iconst (v := 1) hx hb dL_law_849 (by decide) ?_
  refine lv_iadd hx hb dL_law_850 ?_
  refine lv_topi (fun x1 ex1 => ?_)
  refine va_sld hx hb hX hbl hbA hS (sidx ex1 hi0 hi1 hL (by decide) (by decide)) dL_law_851 ?_
  refine lv_topi (fun x2 ex2 => ?_)
  refine lv_aload_n hx hb dL_law_852 rfl (lv_at hl 3 rfl) ?_
  refine lv_iload_n hx hb dL_law_853 rfl (lv_at hl 0 rfl) ?_
  refine lv_iconst (v := 2) hx hb dL_law_854 (by decide) ?_
  refine lv_iadd hx hb dL_law_855 ?_
  refine lv_topi (fun x3 ex3 => ?_)
  refine va_sld hx hb hX hbl hbA hS (sidx ex3 hi0 hi1 hL (by decide) (by decide)) dL_law_856 ?_
  refine lv_topi (fun x4 ex4 => ?_)
  refine lv_aload_n hx hb dL_law_857 rfl (lv_at hl 3 rfl) ?_
  refine lv_iload_n hx hb dL_law_858 rfl (lv_at hl 0 rfl) ?_
  refine lv_iconst (v := 3) hx hb dL_law_859 (by decide) ?_
  refine lv_iadd hx hb dL_law_860 ?_
  refine lv_topi (fun x5 ex5 => ?_)
  refine va_sld hx hb hX hbl hbA hS (sidx ex5 hi0 hi1 hL (by decide) (by decide)) dL_law_861 ?_
  refine lv_topi (fun x6 ex6 => ?_)
  refine va_calli (va_runV (As := [.int x2, .int x4, .int x6]) (rest := []) ⟨hx, hb, hml, hown, hG⟩ (kX8_hum l dC dI xr xt x_i_tapeLength x_i_time x_i_lyingCount x_i_rd_fault x_i_rd_token x_i_rd_kind x_i_sc_count x_i_sc_at x_i_A_tunes x_i_A_houses x_i_fA_length x_i_B_tunes x_i_B_houses x_i_fB_length x_i_acts_done x_i_acts_undone x_i_kn_count x_f_boxes x_f_boxKept x_f_trial x_f_offers x_f_A_noteCounts x_f_A_notes x_f_B_noteCounts x_f_B_notes x_f_now_where x_f_now_worn x_f_ahead_where x_f_ahead_worn x_f_acts_rows x_f_kn_tunes x_f_kn_noteTimes x_J x_L x2 x4 x6 H.size hIX) (cwV 3 hG (goodV gw1009 gw1010 gw1011 gw129 gw1012) rfl rfl rfl hd_X8_hum ⟨(Nat.le_of_ble_eq_true rfl), (Nat.le_of_ble_eq_true rfl)⟩) ⟨fbR, va_recv hKX hPX (ci := 7) (q0 := 0) rfl rfl, pR_in hPX hKX⟩ rfl rfl hl.1 rfl (lv_room (Nat.le_of_ble_eq_true rfl)) dL_law_862 ⟨(Nat.le_of_ble_eq_true rfl), (Nat.le_of_ble_eq_true rfl)⟩) hS (fun q hq h => absurd hq (Nat.not_lt.mpr h)) (fun q h => hA q (Nat.le_trans hS.1 h)) (fun r_8 u_ t_ H7 locs ht hvm hw hB hz1 hk1 hS => ?_)
  subst hw
  have hPX := wk hPX hk1
  have hPM := wk hPM hk1
  refine lv_pop hx hb dL_law_865 rfl ?_
  refine lv_aload_n hx hb dL_law_866 rfl (lv_at hl 1 rfl) ?_
  refine W.eq (g2 := F0 m 867 ls [.ref (mr 0)]) (by rw [hrM]) ?_
  refine lv_aload_n hx hb dL_law_867 rfl (lv_at hl 3 rfl) ?_
  refine lv_iload_n hx hb dL_law_868 rfl (lv_at hl 0 rfl) ?_
  refine lv_iconst (v := 1) hx hb dL_law_869 (by decide) ?_
  refine lv_iadd hx hb dL_law_870 ?_
  refine lv_topi (fun x9 ex9 => ?_)
  refine va_sld hx hb hX hbl hbA hS (sidx ex9 hi0 hi1 hL (by decide) (by decide)) dL_law_871 ?_
  refine lv_topi (fun x10 ex10 => ?_)
  refine lv_aload_n hx hb dL_law_872 rfl (lv_at hl 3 rfl) ?_
  refine lv_iload_n hx hb dL_law_873 rfl (lv_at hl 0 rfl) ?_
  refine lv_iconst (v := 2) hx hb dL_law_874 (by decide) ?_
  refine lv_iadd hx hb dL_law_875 ?_
  refine lv_topi (fun x11 ex11 => ?_)
  refine va_sld hx hb hX hbl hbA hS (sidx ex11 hi0 hi1 hL (by decide) (by decide)) dL_law_876 ?_
  refine lv_topi (fun x12 ex12 => ?_)
  refine lv_aload_n hx hb dL_law_877 rfl (lv_at hl 3 rfl) ?_
  refine lv_iload_n hx hb dL_law_878 rfl (lv_at hl 0 rfl) ?_
  refine lv_iconst (v := 3) hx hb dL_law_879 (by decide) ?_
  refine lv_iadd hx hb dL_law_880 ?_
  refine lv_topi (fun x13 ex13 => ?_)
  refine va_sld hx hb hX hbl hbA hS (sidx ex13 hi0 hi1 hL (by decide) (by decide)) dL_law_881 ?_
  refine lv_topi (fun x14 ex14 => ?_)
  refine va_calli (va_runV (As := [.int x10, .int x12, .int x14]) (rest := []) ⟨hx, hb, hml, hown, hG⟩ (kX9_hum l dC dI mr mt m_i_taped m_i_size m_i_faultKind m_i_at m_i_end m_i_token m_i_number m_i_bank m_i_rb m_i_codes m_i_within m_i_piled m_i_unitsInRule m_i_askHouse m_i_askTune m_i_acts m_i_undone m_i_laid m_i_knowns m_i_time m_f_text m_f_tunes m_f_houses m_f_hums m_f_told m_f_many m_f_ruleFrom m_f_ruleTo m_f_code m_f_eWhat m_f_eSign m_f_all m_f_kept m_f_was m_f_sTune m_f_boxAll m_J m_L x10 x12 x14 H7.size hIM) (cwV 3 hG (goodV gw1632 gw1633 gw1634 gw138 gw1635) rfl rfl rfl hd_X9_hum ⟨(Nat.le_of_ble_eq_true rfl), (Nat.le_of_ble_eq_true rfl)⟩) ⟨fbR, va_recv hKM hPM (ci := 8) (q0 := 0) rfl rfl, pR_in hPM hKM⟩ rfl rfl hl.1 rfl (lv_room (Nat.le_of_ble_eq_true rfl)) dL_law_882 ⟨(Nat.le_of_ble_eq_true rfl), (Nat.le_of_ble_eq_true rfl)⟩) hS (fun q hq h => absurd hq (Nat.not_lt.mpr h)) (fun q h => hA q (Nat.le_trans hS.1 h)) (fun r_16 u_ t_ H15 locs ht hvm hw hB hz1 hk1 hS => ?_)
  subst hw
  have hPX := wk hPX hk1
  have hPM := wk hPM hk1
  refine lv_pop hx hb dL_law_885 rfl ?_
  refine lv_goto (tgt := 1540) hx hb dL_law_886 (by decide) ?_
  exact kk H15 _ _ ⟨xr, xt, x_i_tapeLength, x_i_time, x_i_lyingCount, x_i_rd_fault, x_i_rd_token, x_i_rd_kind, x_i_sc_count, x_i_sc_at, x_i_A_tunes, x_i_A_houses, x_i_fA_length, x_i_B_tunes, x_i_B_houses, x_i_fB_length, x_i_acts_done, x_i_acts_undone, x_i_kn_count, x_f_boxes, x_f_boxKept, x_f_trial, x_f_offers, x_f_A_noteCounts, x_f_A_notes, x_f_B_noteCounts, x_f_B_notes, x_f_now_where, x_f_now_worn, x_f_ahead_where, x_f_ahead_worn, x_f_acts_rows, x_f_kn_tunes, x_f_kn_noteTimes, x_J, x_L, mr, mt, m_i_taped, m_i_size, m_i_faultKind, m_i_at, m_i_end, m_i_token, m_i_number, m_i_bank, m_i_rb, m_i_codes, m_i_within, m_i_piled, m_i_unitsInRule, m_i_askHouse, m_i_askTune, m_i_acts, m_i_undone, m_i_laid, m_i_knowns, m_i_time, m_f_text, m_f_tunes, m_f_houses, m_f_hums, m_f_told, m_f_many, m_f_ruleFrom, m_f_ruleTo, m_f_code, m_f_eWhat, m_f_eSign, m_f_all, m_f_kept, m_f_was, m_f_sTune, m_f_boxAll, m_J, m_L, hrX, hrM, hKX, hKM, hPX, hPM, hDX, hDM, hdj, hS, hIX, hWB, hRB, hBB, hIM, htm⟩ hl
set_option maxHeartbeats 4000000 in
set_option maxRecDepth 100000 in
theorem law_23 {p : Program} {e : Env} {s : State} {m : MethodId} {below : List Frame} {meth : Method} {c : Code} (l : Launch) {b L : Nat} {xs : Nat → Int32} (hL : L ≤ 3072) (C0 : lw_At p s m meth c b L xs) (dC : Nat → ClassId) (dI : Nat → Nat → Nat) (adK adV : Nat) (fS : Nat → Int32) (hZ : ZS adK adV fS (fun q : Nat => s.heap.size ≤ q) s s.heap) {aX aM : Nat} {i : Int32} (hi0 : 0 ≤ i.toInt) (hi1 : i.toInt + 6 ≤ (L : Int)) {H : Heap} {locs : List Loc} (hI : LI dC dI s aX aM H locs) {ls : Array Slot} (hl : lv_has ls 4 [(3, .int i), (2, .ref aM), (1, .ref aX), (0, .ref b)]) (kk : ∀ (H1 : Heap) (locs1 : List Loc) (ls1 : Array Slot), LI dC dI s aX aM H1 locs1 → lv_has ls1 4 [(3, .int i), (2, .ref aM), (1, .ref aX), (0, .ref b)] → W p l e room_1 s m #[Value.ref b] below meth c H1 locs1 103 20190 (lw_Z below #[Value.ref b] s) (F0 m 1540 ls1 [])) : W p l e room_1 s m #[Value.ref b] below meth c H locs 103 20190 (lw_Z below #[Value.ref b] s) (F0 m 889 ls []) := by
  obtain ⟨hx, hb, hr, hml, hown, hts, hX, hbl, hlocks, hgv⟩ := id C0
  have hown : s.vm.findClass RL = some m.cls := hown
  have hG : ∀ w ∈ GW, w.before _ s = true := fun w h => hts w (List.mem_filter.mp h).1
  have hA : ∀ q : Nat, s.heap.size ≤ q → (fun q : Nat => s.heap.size ≤ q) q := fun _ h => h
  have hbA : ¬ (fun q : Nat => s.heap.size ≤ q) b := Nat.not_le.mpr hbl
  obtain ⟨xr, xt, x_i_tapeLength, x_i_time, x_i_lyingCount, x_i_rd_fault, x_i_rd_token, x_i_rd_kind, x_i_sc_count, x_i_sc_at, x_i_A_tunes, x_i_A_houses, x_i_fA_length, x_i_B_tunes, x_i_B_houses, x_i_fB_length, x_i_acts_done, x_i_acts_undone, x_i_kn_count, x_f_boxes, x_f_boxKept, x_f_trial, x_f_offers, x_f_A_noteCounts, x_f_A_notes, x_f_B_noteCounts, x_f_B_notes, x_f_now_where, x_f_now_worn, x_f_ahead_where, x_f_ahead_worn, x_f_acts_rows, x_f_kn_tunes, x_f_kn_noteTimes, x_J, x_L, mr, mt, m_i_taped, m_i_size, m_i_faultKind, m_i_at, m_i_end, m_i_token, m_i_number, m_i_bank, m_i_rb, m_i_codes, m_i_within, m_i_piled, m_i_unitsInRule, m_i_askHouse, m_i_askTune, m_i_acts, m_i_undone, m_i_laid, m_i_knowns, m_i_time, m_f_text, m_f_tunes, m_f_houses, m_f_hums, m_f_told, m_f_many, m_f_ruleFrom, m_f_ruleTo, m_f_code, m_f_eWhat, m_f_eSign, m_f_all, m_f_kept, m_f_was, m_f_sTune, m_f_boxAll, m_J, m_L, hrX, hrM, hKX, hKM, hPX, hPM, hDX, hDM, hdj, hS, hIX, hWB, hRB, hBB, hIM, htm⟩ := hI
  refine lv_aload_n hx hb dL_law_889 rfl (lv_at hl 2 rfl) ?_
  refine W.eq (g2 := F0 m 890 ls [.ref (xr 0)]) (by rw [hrX]) ?_
  have hFc := frA hDX hS hA
  refine va_calli (va_runV (As := []) (rest := []) ⟨hx, hb, hml, hown, hG⟩ (kX8_spinsters l dC dI xr xt x_i_tapeLength x_i_time x_i_lyingCount x_i_rd_fault x_i_rd_token x_i_rd_kind x_i_sc_count x_i_sc_at x_i_A_tunes x_i_A_houses x_i_fA_length x_i_B_tunes x_i_B_houses x_i_fB_length x_i_acts_done x_i_acts_undone x_i_kn_count x_f_boxes x_f_boxKept x_f_trial x_f_offers x_f_A_noteCounts x_f_A_notes x_f_B_noteCounts x_f_B_notes x_f_now_where x_f_now_worn x_f_ahead_where x_f_ahead_worn x_f_acts_rows x_f_kn_tunes x_f_kn_noteTimes x_J x_L H.size hIX) (cwV 0 hG (goodV gw883 gw884 gw885 gw129 gw886) rfl rfl rfl hd_X8_spinsters ⟨(Nat.le_of_ble_eq_true rfl), (Nat.le_of_ble_eq_true rfl)⟩) ⟨fbW, va_recv hKX hPX (ci := 7) (q0 := 0) rfl rfl, pW_in hPX hKX hDX⟩ rfl rfl hl.1 rfl (lv_room (Nat.le_of_ble_eq_true rfl)) dL_law_890 ⟨(Nat.le_of_ble_eq_true rfl), (Nat.le_of_ble_eq_true rfl)⟩) hS (fun q _ h => hFc q h) hFc (fun r_2 u_ t_ H1 locs ht hvm hw hB hz1 hk1 hS => ?_)
  subst hw
  obtain ⟨n3, hP1, hD1, hIX⟩ := hB
  rw [ht] at hP1
  obtain ⟨hPM, hdj⟩ := mvO hPM hdj (fun k q hk => hD1.2 k q hk) hk1
  have hPX := hP1
  have hDX := dW hFc hD1
  refine lv_pop hx hb dL_law_893 rfl ?_
  refine lv_aload_n hx hb dL_law_894 rfl (lv_at hl 1 rfl) ?_
  refine W.eq (g2 := F0 m 895 ls [.ref (mr 0)]) (by rw [hrM]) ?_
  have hFc := frA hDM hS hA
  refine va_calli (va_runV (As := []) (rest := []) ⟨hx, hb, hml, hown, hG⟩ (kX9_spinsters l dC dI mr mt m_i_taped m_i_size m_i_faultKind m_i_at m_i_end m_i_token m_i_number m_i_bank m_i_rb m_i_codes m_i_within m_i_piled m_i_unitsInRule m_i_askHouse m_i_askTune m_i_acts m_i_undone m_i_laid m_i_knowns m_i_time m_f_text m_f_tunes m_f_houses m_f_hums m_f_told m_f_many m_f_ruleFrom m_f_ruleTo m_f_code m_f_eWhat m_f_eSign m_f_all m_f_kept m_f_was m_f_sTune m_f_boxAll m_J m_L H1.size hIM) (cwV 0 hG (goodV gw1640 gw1641 gw1642 gw138 gw1643) rfl rfl rfl hd_X9_spinsters ⟨(Nat.le_of_ble_eq_true rfl), (Nat.le_of_ble_eq_true rfl)⟩) ⟨fbW, va_recv hKM hPM (ci := 8) (q0 := 0) rfl rfl, pW_in hPM hKM hDM⟩ rfl rfl hl.1 rfl (lv_room (Nat.le_of_ble_eq_true rfl)) dL_law_895 ⟨(Nat.le_of_ble_eq_true rfl), (Nat.le_of_ble_eq_true rfl)⟩) hS (fun q _ h => hFc q h) hFc (fun r_5 u_ t_ H4 locs ht hvm hw hB hz1 hk1 hS => ?_)
  subst hw
  obtain ⟨n6, n7, n8, hP1, hD1, hIM⟩ := hB
  rw [ht] at hP1
  obtain ⟨hPX, hdj⟩ := mvO hPX (dj_sym hdj) (fun k q hk => hD1.2 k q hk) hk1
  have hdj := dj_sym hdj
  have hPM := hP1
  have hDM := dW hFc hD1
  refine lv_pop hx hb dL_law_898 rfl ?_
  refine lv_goto (tgt := 1540) hx hb dL_law_899 (by decide) ?_
  exact kk H4 _ _ ⟨xr, xt, x_i_tapeLength, x_i_time, x_i_lyingCount, x_i_rd_fault, x_i_rd_token, x_i_rd_kind, x_i_sc_count, x_i_sc_at, x_i_A_tunes, x_i_A_houses, x_i_fA_length, x_i_B_tunes, x_i_B_houses, x_i_fB_length, x_i_acts_done, x_i_acts_undone, x_i_kn_count, x_f_boxes, x_f_boxKept, x_f_trial, x_f_offers, x_f_A_noteCounts, x_f_A_notes, x_f_B_noteCounts, x_f_B_notes, x_f_now_where, x_f_now_worn, x_f_ahead_where, x_f_ahead_worn, x_f_acts_rows, x_f_kn_tunes, x_f_kn_noteTimes, n3, x_L, mr, mt, m_i_taped, m_i_size, m_i_faultKind, m_i_at, m_i_end, m_i_token, m_i_number, m_i_bank, m_i_rb, m_i_codes, m_i_within, m_i_piled, m_i_unitsInRule, n6, n7, m_i_acts, m_i_undone, m_i_laid, m_i_knowns, m_i_time, m_f_text, m_f_tunes, m_f_houses, m_f_hums, m_f_told, m_f_many, m_f_ruleFrom, m_f_ruleTo, m_f_code, m_f_eWhat, m_f_eSign, m_f_all, m_f_kept, m_f_was, m_f_sTune, m_f_boxAll, n8, m_L, hrX, hrM, hKX, hKM, hPX, hPM, hDX, hDM, hdj, hS, hIX, hWB, hRB, hBB, hIM, htm⟩ hl
set_option maxHeartbeats 4000000 in
set_option maxRecDepth 100000 in
theorem law_24 {p : Program} {e : Env} {s : State} {m : MethodId} {below : List Frame} {meth : Method} {c : Code} (l : Launch) {b L : Nat} {xs : Nat → Int32} (hL : L ≤ 3072) (C0 : lw_At p s m meth c b L xs) (dC : Nat → ClassId) (dI : Nat → Nat → Nat) (adK adV : Nat) (fS : Nat → Int32) (hZ : ZS adK adV fS (fun q : Nat => s.heap.size ≤ q) s s.heap) {aX aM : Nat} {i : Int32} (hi0 : 0 ≤ i.toInt) (hi1 : i.toInt + 6 ≤ (L : Int)) {H : Heap} {locs : List Loc} (hI : LI dC dI s aX aM H locs) {ls : Array Slot} (hl : lv_has ls 4 [(3, .int i), (2, .ref aM), (1, .ref aX), (0, .ref b)]) (kk : ∀ (H1 : Heap) (locs1 : List Loc) (ls1 : Array Slot), LI dC dI s aX aM H1 locs1 → lv_has ls1 4 [(3, .int i), (2, .ref aM), (1, .ref aX), (0, .ref b)] → W p l e room_1 s m #[Value.ref b] below meth c H1 locs1 103 20190 (lw_Z below #[Value.ref b] s) (F0 m 1540 ls1 [])) : W p l e room_1 s m #[Value.ref b] below meth c H locs 103 20190 (lw_Z below #[Value.ref b] s) (F0 m 902 ls []) := by
  obtain ⟨hx, hb, hr, hml, hown, hts, hX, hbl, hlocks, hgv⟩ := id C0
  have hown : s.vm.findClass RL = some m.cls := hown
  have hG : ∀ w ∈ GW, w.before _ s = true := fun w h => hts w (List.mem_filter.mp h).1
  have hA : ∀ q : Nat, s.heap.size ≤ q → (fun q : Nat => s.heap.size ≤ q) q := fun _ h => h
  have hbA : ¬ (fun q : Nat => s.heap.size ≤ q) b := Nat.not_le.mpr hbl
  obtain ⟨xr, xt, x_i_tapeLength, x_i_time, x_i_lyingCount, x_i_rd_fault, x_i_rd_token, x_i_rd_kind, x_i_sc_count, x_i_sc_at, x_i_A_tunes, x_i_A_houses, x_i_fA_length, x_i_B_tunes, x_i_B_houses, x_i_fB_length, x_i_acts_done, x_i_acts_undone, x_i_kn_count, x_f_boxes, x_f_boxKept, x_f_trial, x_f_offers, x_f_A_noteCounts, x_f_A_notes, x_f_B_noteCounts, x_f_B_notes, x_f_now_where, x_f_now_worn, x_f_ahead_where, x_f_ahead_worn, x_f_acts_rows, x_f_kn_tunes, x_f_kn_noteTimes, x_J, x_L, mr, mt, m_i_taped, m_i_size, m_i_faultKind, m_i_at, m_i_end, m_i_token, m_i_number, m_i_bank, m_i_rb, m_i_codes, m_i_within, m_i_piled, m_i_unitsInRule, m_i_askHouse, m_i_askTune, m_i_acts, m_i_undone, m_i_laid, m_i_knowns, m_i_time, m_f_text, m_f_tunes, m_f_houses, m_f_hums, m_f_told, m_f_many, m_f_ruleFrom, m_f_ruleTo, m_f_code, m_f_eWhat, m_f_eSign, m_f_all, m_f_kept, m_f_was, m_f_sTune, m_f_boxAll, m_J, m_L, hrX, hrM, hKX, hKM, hPX, hPM, hDX, hDM, hdj, hS, hIX, hWB, hRB, hBB, hIM, htm⟩ := hI
  refine lv_aload_n hx hb dL_law_902 rfl (lv_at hl 2 rfl) ?_
  refine W.eq (g2 := F0 m 903 ls [.ref (xr 0)]) (by rw [hrX]) ?_
  refine lv_aload_n hx hb dL_law_903 rfl (lv_at hl 3 rfl) ?_
  refine lv_iload_n hx hb dL_law_904 rfl (lv_at hl 0 rfl) ?_
  refine lv_iconst (v := 1) hx hb dL_law_905 (by decide) ?_
  refine lv_iadd hx hb dL_law_906 ?_
  refine lv_topi (fun x1 ex1 => ?_)
  refine va_sld hx hb hX hbl hbA hS (sidx ex1 hi0 hi1 hL (by decide) (by decide)) dL_law_907 ?_
  refine lv_topi (fun x2 ex2 => ?_)
  refine lv_aload_n hx hb dL_law_908 rfl (lv_at hl 3 rfl) ?_
  refine lv_iload_n hx hb dL_law_909 rfl (lv_at hl 0 rfl) ?_
  refine lv_iconst (v := 2) hx hb dL_law_910 (by decide) ?_
  refine lv_iadd hx hb dL_law_911 ?_
  refine lv_topi (fun x3 ex3 => ?_)
  refine va_sld hx hb hX hbl hbA hS (sidx ex3 hi0 hi1 hL (by decide) (by decide)) dL_law_912 ?_
  refine lv_topi (fun x4 ex4 => ?_)
  have hFc := frA hDX hS hA
  refine va_calli (va_runV (As := [.int x2, .int x4]) (rest := []) ⟨hx, hb, hml, hown, hG⟩ (kX8_pair l dC dI xr xt x_i_tapeLength x_i_time x_i_lyingCount x_i_rd_fault x_i_rd_token x_i_rd_kind x_i_sc_count x_i_sc_at x_i_A_tunes x_i_A_houses x_i_fA_length x_i_B_tunes x_i_B_houses x_i_fB_length x_i_acts_done x_i_acts_undone x_i_kn_count x_f_boxes x_f_boxKept x_f_trial x_f_offers x_f_A_noteCounts x_f_A_notes x_f_B_noteCounts x_f_B_notes x_f_now_where x_f_now_worn x_f_ahead_where x_f_ahead_worn x_f_acts_rows x_f_kn_tunes x_f_kn_noteTimes x_J x_L x2 x4 H.size hIX) (cwV 2 hG (goodV gw1013 gw1014 gw1015 gw129 gw1016) rfl rfl rfl hd_X8_pair ⟨(Nat.le_of_ble_eq_true rfl), (Nat.le_of_ble_eq_true rfl)⟩) ⟨fbW, va_recv hKX hPX (ci := 7) (q0 := 0) rfl rfl, pW_in hPX hKX hDX⟩ rfl rfl hl.1 rfl (lv_room (Nat.le_of_ble_eq_true rfl)) dL_law_913 ⟨(Nat.le_of_ble_eq_true rfl), (Nat.le_of_ble_eq_true rfl)⟩) hS (fun q _ h => hFc q h) hFc (fun r_6 u_ t_ H5 locs ht hvm hw hB hz1 hk1 hS => ?_)
  subst hw
  obtain ⟨n7, hP1, hD1, hIX⟩ := hB
  rw [ht] at hP1
  obtain ⟨hPM, hdj⟩ := mvO hPM hdj (fun k q hk => hD1.2 k q hk) hk1
  have hPX := hP1
  have hDX := dW hFc hD1
  refine lv_pop hx hb dL_law_916 rfl ?_
  refine lv_aload_n hx hb dL_law_917 rfl (lv_at hl 1 rfl) ?_
  refine W.eq (g2 := F0 m 918 ls [.ref (mr 0)]) (by rw [hrM]) ?_
  refine lv_aload_n hx hb dL_law_918 rfl (lv_at hl 3 rfl) ?_
  refine lv_iload_n hx hb dL_law_919 rfl (lv_at hl 0 rfl) ?_
  refine lv_iconst (v := 1) hx hb dL_law_920 (by decide) ?_
  refine lv_iadd hx hb dL_law_921 ?_
  refine lv_topi (fun x8 ex8 => ?_)
  refine va_sld hx hb hX hbl hbA hS (sidx ex8 hi0 hi1 hL (by decide) (by decide)) dL_law_922 ?_
  refine lv_topi (fun x9 ex9 => ?_)
  refine lv_aload_n hx hb dL_law_923 rfl (lv_at hl 3 rfl) ?_
  refine lv_iload_n hx hb dL_law_924 rfl (lv_at hl 0 rfl) ?_
  refine lv_iconst (v := 2) hx hb dL_law_925 (by decide) ?_
  refine lv_iadd hx hb dL_law_926 ?_
  refine lv_topi (fun x10 ex10 => ?_)
  refine va_sld hx hb hX hbl hbA hS (sidx ex10 hi0 hi1 hL (by decide) (by decide)) dL_law_927 ?_
  refine lv_topi (fun x11 ex11 => ?_)
  have hFc := frA hDM hS hA
  refine va_calli (va_runV (As := [.int x9, .int x11]) (rest := []) ⟨hx, hb, hml, hown, hG⟩ (kX9_pair l dC dI mr mt m_i_taped m_i_size m_i_faultKind m_i_at m_i_end m_i_token m_i_number m_i_bank m_i_rb m_i_codes m_i_within m_i_piled m_i_unitsInRule m_i_askHouse m_i_askTune m_i_acts m_i_undone m_i_laid m_i_knowns m_i_time m_f_text m_f_tunes m_f_houses m_f_hums m_f_told m_f_many m_f_ruleFrom m_f_ruleTo m_f_code m_f_eWhat m_f_eSign m_f_all m_f_kept m_f_was m_f_sTune m_f_boxAll m_J m_L x9 x11 H5.size hIM) (cwV 2 hG (goodV gw1652 gw1653 gw1654 gw138 gw1655) rfl rfl rfl hd_X9_pair ⟨(Nat.le_of_ble_eq_true rfl), (Nat.le_of_ble_eq_true rfl)⟩) ⟨fbW, va_recv hKM hPM (ci := 8) (q0 := 0) rfl rfl, pW_in hPM hKM hDM⟩ rfl rfl hl.1 rfl (lv_room (Nat.le_of_ble_eq_true rfl)) dL_law_928 ⟨(Nat.le_of_ble_eq_true rfl), (Nat.le_of_ble_eq_true rfl)⟩) hS (fun q _ h => hFc q h) hFc (fun r_13 u_ t_ H12 locs ht hvm hw hB hz1 hk1 hS => ?_)
  subst hw
  obtain ⟨n14, n15, n16, hP1, hD1, hIM⟩ := hB
  rw [ht] at hP1
  obtain ⟨hPX, hdj⟩ := mvO hPX (dj_sym hdj) (fun k q hk => hD1.2 k q hk) hk1
  have hdj := dj_sym hdj
  have hPM := hP1
  have hDM := dW hFc hD1
  refine lv_pop hx hb dL_law_931 rfl ?_
  refine lv_goto (tgt := 1540) hx hb dL_law_932 (by decide) ?_
  exact kk H12 _ _ ⟨xr, xt, x_i_tapeLength, x_i_time, x_i_lyingCount, x_i_rd_fault, x_i_rd_token, x_i_rd_kind, x_i_sc_count, x_i_sc_at, x_i_A_tunes, x_i_A_houses, x_i_fA_length, x_i_B_tunes, x_i_B_houses, x_i_fB_length, x_i_acts_done, x_i_acts_undone, x_i_kn_count, x_f_boxes, x_f_boxKept, x_f_trial, x_f_offers, x_f_A_noteCounts, x_f_A_notes, x_f_B_noteCounts, x_f_B_notes, x_f_now_where, x_f_now_worn, x_f_ahead_where, x_f_ahead_worn, x_f_acts_rows, x_f_kn_tunes, x_f_kn_noteTimes, n7, x_L, mr, mt, m_i_taped, m_i_size, m_i_faultKind, m_i_at, m_i_end, m_i_token, m_i_number, m_i_bank, m_i_rb, m_i_codes, m_i_within, m_i_piled, m_i_unitsInRule, n14, n15, m_i_acts, m_i_undone, m_i_laid, m_i_knowns, m_i_time, m_f_text, m_f_tunes, m_f_houses, m_f_hums, m_f_told, m_f_many, m_f_ruleFrom, m_f_ruleTo, m_f_code, m_f_eWhat, m_f_eSign, m_f_all, m_f_kept, m_f_was, m_f_sTune, m_f_boxAll, n16, m_L, hrX, hrM, hKX, hKM, hPX, hPM, hDX, hDM, hdj, hS, hIX, hWB, hRB, hBB, hIM, htm⟩ hl
set_option maxHeartbeats 4000000 in
set_option maxRecDepth 100000 in
theorem law_25 {p : Program} {e : Env} {s : State} {m : MethodId} {below : List Frame} {meth : Method} {c : Code} (l : Launch) {b L : Nat} {xs : Nat → Int32} (hL : L ≤ 3072) (C0 : lw_At p s m meth c b L xs) (dC : Nat → ClassId) (dI : Nat → Nat → Nat) (adK adV : Nat) (fS : Nat → Int32) (hZ : ZS adK adV fS (fun q : Nat => s.heap.size ≤ q) s s.heap) {aX aM : Nat} {i : Int32} (hi0 : 0 ≤ i.toInt) (hi1 : i.toInt + 6 ≤ (L : Int)) {H : Heap} {locs : List Loc} (hI : LI dC dI s aX aM H locs) {ls : Array Slot} (hl : lv_has ls 4 [(3, .int i), (2, .ref aM), (1, .ref aX), (0, .ref b)]) (kk : ∀ (H1 : Heap) (locs1 : List Loc) (ls1 : Array Slot), LI dC dI s aX aM H1 locs1 → lv_has ls1 4 [(3, .int i), (2, .ref aM), (1, .ref aX), (0, .ref b)] → W p l e room_1 s m #[Value.ref b] below meth c H1 locs1 103 20190 (lw_Z below #[Value.ref b] s) (F0 m 1540 ls1 [])) : W p l e room_1 s m #[Value.ref b] below meth c H locs 103 20190 (lw_Z below #[Value.ref b] s) (F0 m 935 ls []) := by
  obtain ⟨hx, hb, hr, hml, hown, hts, hX, hbl, hlocks, hgv⟩ := id C0
  have hown : s.vm.findClass RL = some m.cls := hown
  have hG : ∀ w ∈ GW, w.before _ s = true := fun w h => hts w (List.mem_filter.mp h).1
  have hA : ∀ q : Nat, s.heap.size ≤ q → (fun q : Nat => s.heap.size ≤ q) q := fun _ h => h
  have hbA : ¬ (fun q : Nat => s.heap.size ≤ q) b := Nat.not_le.mpr hbl
  obtain ⟨xr, xt, x_i_tapeLength, x_i_time, x_i_lyingCount, x_i_rd_fault, x_i_rd_token, x_i_rd_kind, x_i_sc_count, x_i_sc_at, x_i_A_tunes, x_i_A_houses, x_i_fA_length, x_i_B_tunes, x_i_B_houses, x_i_fB_length, x_i_acts_done, x_i_acts_undone, x_i_kn_count, x_f_boxes, x_f_boxKept, x_f_trial, x_f_offers, x_f_A_noteCounts, x_f_A_notes, x_f_B_noteCounts, x_f_B_notes, x_f_now_where, x_f_now_worn, x_f_ahead_where, x_f_ahead_worn, x_f_acts_rows, x_f_kn_tunes, x_f_kn_noteTimes, x_J, x_L, mr, mt, m_i_taped, m_i_size, m_i_faultKind, m_i_at, m_i_end, m_i_token, m_i_number, m_i_bank, m_i_rb, m_i_codes, m_i_within, m_i_piled, m_i_unitsInRule, m_i_askHouse, m_i_askTune, m_i_acts, m_i_undone, m_i_laid, m_i_knowns, m_i_time, m_f_text, m_f_tunes, m_f_houses, m_f_hums, m_f_told, m_f_many, m_f_ruleFrom, m_f_ruleTo, m_f_code, m_f_eWhat, m_f_eSign, m_f_all, m_f_kept, m_f_was, m_f_sTune, m_f_boxAll, m_J, m_L, hrX, hrM, hKX, hKM, hPX, hPM, hDX, hDM, hdj, hS, hIX, hWB, hRB, hBB, hIM, htm⟩ := hI
  refine lv_aload_n hx hb dL_law_935 rfl (lv_at hl 2 rfl) ?_
  refine W.eq (g2 := F0 m 936 ls [.ref (xr 0)]) (by rw [hrX]) ?_
  refine lv_aload_n hx hb dL_law_936 rfl (lv_at hl 3 rfl) ?_
  refine lv_iload_n hx hb dL_law_937 rfl (lv_at hl 0 rfl) ?_
  refine lv_iconst (v := 1) hx hb dL_law_938 (by decide) ?_
  refine lv_iadd hx hb dL_law_939 ?_
  refine lv_topi (fun x1 ex1 => ?_)
  refine va_sld hx hb hX hbl hbA hS (sidx ex1 hi0 hi1 hL (by decide) (by decide)) dL_law_940 ?_
  refine lv_topi (fun x2 ex2 => ?_)
  refine va_calli (va_runV (As := [.int x2]) (rest := []) ⟨hx, hb, hml, hown, hG⟩ (kX8_frayed l dC dI xr xt x_i_tapeLength x_i_time x_i_lyingCount x_i_rd_fault x_i_rd_token x_i_rd_kind x_i_sc_count x_i_sc_at x_i_A_tunes x_i_A_houses x_i_fA_length x_i_B_tunes x_i_B_houses x_i_fB_length x_i_acts_done x_i_acts_undone x_i_kn_count x_f_boxes x_f_boxKept x_f_trial x_f_offers x_f_A_noteCounts x_f_A_notes x_f_B_noteCounts x_f_B_notes x_f_now_where x_f_now_worn x_f_ahead_where x_f_ahead_worn x_f_acts_rows x_f_kn_tunes x_f_kn_noteTimes x_J x_L x2 H.size hIX) (cwV 1 hG (goodV gw1017 gw1018 gw1019 gw129 gw1020) rfl rfl rfl hd_X8_frayed ⟨(Nat.le_of_ble_eq_true rfl), (Nat.le_of_ble_eq_true rfl)⟩) ⟨fbR, va_recv hKX hPX (ci := 7) (q0 := 0) rfl rfl, pR_in hPX hKX⟩ rfl rfl hl.1 rfl (lv_room (Nat.le_of_ble_eq_true rfl)) dL_law_941 ⟨(Nat.le_of_ble_eq_true rfl), (Nat.le_of_ble_eq_true rfl)⟩) hS (fun q hq h => absurd hq (Nat.not_lt.mpr h)) (fun q h => hA q (Nat.le_trans hS.1 h)) (fun r_4 u_ t_ H3 locs ht hvm hw hB hz1 hk1 hS => ?_)
  subst hw
  have hPX := wk hPX hk1
  have hPM := wk hPM hk1
  refine lv_pop hx hb dL_law_944 rfl ?_
  refine lv_aload_n hx hb dL_law_945 rfl (lv_at hl 1 rfl) ?_
  refine W.eq (g2 := F0 m 946 ls [.ref (mr 0)]) (by rw [hrM]) ?_
  refine lv_aload_n hx hb dL_law_946 rfl (lv_at hl 3 rfl) ?_
  refine lv_iload_n hx hb dL_law_947 rfl (lv_at hl 0 rfl) ?_
  refine lv_iconst (v := 1) hx hb dL_law_948 (by decide) ?_
  refine lv_iadd hx hb dL_law_949 ?_
  refine lv_topi (fun x5 ex5 => ?_)
  refine va_sld hx hb hX hbl hbA hS (sidx ex5 hi0 hi1 hL (by decide) (by decide)) dL_law_950 ?_
  refine lv_topi (fun x6 ex6 => ?_)
  refine va_calli (va_runV (As := [.int x6]) (rest := []) ⟨hx, hb, hml, hown, hG⟩ (kX9_frayed l dC dI mr mt m_i_taped m_i_size m_i_faultKind m_i_at m_i_end m_i_token m_i_number m_i_bank m_i_rb m_i_codes m_i_within m_i_piled m_i_unitsInRule m_i_askHouse m_i_askTune m_i_acts m_i_undone m_i_laid m_i_knowns m_i_time m_f_text m_f_tunes m_f_houses m_f_hums m_f_told m_f_many m_f_ruleFrom m_f_ruleTo m_f_code m_f_eWhat m_f_eSign m_f_all m_f_kept m_f_was m_f_sTune m_f_boxAll m_J m_L x6 H3.size hIM) (cwV 1 hG (goodV gw1621 gw1622 gw1623 gw138 gw1624) rfl rfl rfl hd_X9_frayed ⟨(Nat.le_of_ble_eq_true rfl), (Nat.le_of_ble_eq_true rfl)⟩) ⟨fbR, va_recv hKM hPM (ci := 8) (q0 := 0) rfl rfl, pR_in hPM hKM⟩ rfl rfl hl.1 rfl (lv_room (Nat.le_of_ble_eq_true rfl)) dL_law_951 ⟨(Nat.le_of_ble_eq_true rfl), (Nat.le_of_ble_eq_true rfl)⟩) hS (fun q hq h => absurd hq (Nat.not_lt.mpr h)) (fun q h => hA q (Nat.le_trans hS.1 h)) (fun r_8 u_ t_ H7 locs ht hvm hw hB hz1 hk1 hS => ?_)
  subst hw
  have hPX := wk hPX hk1
  have hPM := wk hPM hk1
  refine lv_pop hx hb dL_law_954 rfl ?_
  refine lv_goto (tgt := 1540) hx hb dL_law_955 (by decide) ?_
  exact kk H7 _ _ ⟨xr, xt, x_i_tapeLength, x_i_time, x_i_lyingCount, x_i_rd_fault, x_i_rd_token, x_i_rd_kind, x_i_sc_count, x_i_sc_at, x_i_A_tunes, x_i_A_houses, x_i_fA_length, x_i_B_tunes, x_i_B_houses, x_i_fB_length, x_i_acts_done, x_i_acts_undone, x_i_kn_count, x_f_boxes, x_f_boxKept, x_f_trial, x_f_offers, x_f_A_noteCounts, x_f_A_notes, x_f_B_noteCounts, x_f_B_notes, x_f_now_where, x_f_now_worn, x_f_ahead_where, x_f_ahead_worn, x_f_acts_rows, x_f_kn_tunes, x_f_kn_noteTimes, x_J, x_L, mr, mt, m_i_taped, m_i_size, m_i_faultKind, m_i_at, m_i_end, m_i_token, m_i_number, m_i_bank, m_i_rb, m_i_codes, m_i_within, m_i_piled, m_i_unitsInRule, m_i_askHouse, m_i_askTune, m_i_acts, m_i_undone, m_i_laid, m_i_knowns, m_i_time, m_f_text, m_f_tunes, m_f_houses, m_f_hums, m_f_told, m_f_many, m_f_ruleFrom, m_f_ruleTo, m_f_code, m_f_eWhat, m_f_eSign, m_f_all, m_f_kept, m_f_was, m_f_sTune, m_f_boxAll, m_J, m_L, hrX, hrM, hKX, hKM, hPX, hPM, hDX, hDM, hdj, hS, hIX, hWB, hRB, hBB, hIM, htm⟩ hl
set_option maxHeartbeats 4000000 in
set_option maxRecDepth 100000 in
theorem law_26 {p : Program} {e : Env} {s : State} {m : MethodId} {below : List Frame} {meth : Method} {c : Code} (l : Launch) {b L : Nat} {xs : Nat → Int32} (hL : L ≤ 3072) (C0 : lw_At p s m meth c b L xs) (dC : Nat → ClassId) (dI : Nat → Nat → Nat) (adK adV : Nat) (fS : Nat → Int32) (hZ : ZS adK adV fS (fun q : Nat => s.heap.size ≤ q) s s.heap) {aX aM : Nat} {i : Int32} (hi0 : 0 ≤ i.toInt) (hi1 : i.toInt + 6 ≤ (L : Int)) {H : Heap} {locs : List Loc} (hI : LI dC dI s aX aM H locs) {ls : Array Slot} (hl : lv_has ls 4 [(3, .int i), (2, .ref aM), (1, .ref aX), (0, .ref b)]) (kk : ∀ (H1 : Heap) (locs1 : List Loc) (ls1 : Array Slot), LI dC dI s aX aM H1 locs1 → lv_has ls1 4 [(3, .int i), (2, .ref aM), (1, .ref aX), (0, .ref b)] → W p l e room_1 s m #[Value.ref b] below meth c H1 locs1 103 20190 (lw_Z below #[Value.ref b] s) (F0 m 1540 ls1 [])) : W p l e room_1 s m #[Value.ref b] below meth c H locs 103 20190 (lw_Z below #[Value.ref b] s) (F0 m 958 ls []) := by
  obtain ⟨hx, hb, hr, hml, hown, hts, hX, hbl, hlocks, hgv⟩ := id C0
  have hown : s.vm.findClass RL = some m.cls := hown
  have hG : ∀ w ∈ GW, w.before _ s = true := fun w h => hts w (List.mem_filter.mp h).1
  have hA : ∀ q : Nat, s.heap.size ≤ q → (fun q : Nat => s.heap.size ≤ q) q := fun _ h => h
  have hbA : ¬ (fun q : Nat => s.heap.size ≤ q) b := Nat.not_le.mpr hbl
  obtain ⟨xr, xt, x_i_tapeLength, x_i_time, x_i_lyingCount, x_i_rd_fault, x_i_rd_token, x_i_rd_kind, x_i_sc_count, x_i_sc_at, x_i_A_tunes, x_i_A_houses, x_i_fA_length, x_i_B_tunes, x_i_B_houses, x_i_fB_length, x_i_acts_done, x_i_acts_undone, x_i_kn_count, x_f_boxes, x_f_boxKept, x_f_trial, x_f_offers, x_f_A_noteCounts, x_f_A_notes, x_f_B_noteCounts, x_f_B_notes, x_f_now_where, x_f_now_worn, x_f_ahead_where, x_f_ahead_worn, x_f_acts_rows, x_f_kn_tunes, x_f_kn_noteTimes, x_J, x_L, mr, mt, m_i_taped, m_i_size, m_i_faultKind, m_i_at, m_i_end, m_i_token, m_i_number, m_i_bank, m_i_rb, m_i_codes, m_i_within, m_i_piled, m_i_unitsInRule, m_i_askHouse, m_i_askTune, m_i_acts, m_i_undone, m_i_laid, m_i_knowns, m_i_time, m_f_text, m_f_tunes, m_f_houses, m_f_hums, m_f_told, m_f_many, m_f_ruleFrom, m_f_ruleTo, m_f_code, m_f_eWhat, m_f_eSign, m_f_all, m_f_kept, m_f_was, m_f_sTune, m_f_boxAll, m_J, m_L, hrX, hrM, hKX, hKM, hPX, hPM, hDX, hDM, hdj, hS, hIX, hWB, hRB, hBB, hIM, htm⟩ := hI
  refine lv_aload_n hx hb dL_law_958 rfl (lv_at hl 2 rfl) ?_
  refine W.eq (g2 := F0 m 959 ls [.ref (xr 0)]) (by rw [hrX]) ?_
  refine lv_aload_n hx hb dL_law_959 rfl (lv_at hl 3 rfl) ?_
  refine lv_iload_n hx hb dL_law_960 rfl (lv_at hl 0 rfl) ?_
  refine lv_iconst (v := 1) hx hb dL_law_961 (by decide) ?_
  refine lv_iadd hx hb dL_law_962 ?_
  refine lv_topi (fun x1 ex1 => ?_)
  refine va_sld hx hb hX hbl hbA hS (sidx ex1 hi0 hi1 hL (by decide) (by decide)) dL_law_963 ?_
  refine lv_topi (fun x2 ex2 => ?_)
  refine lv_aload_n hx hb dL_law_964 rfl (lv_at hl 3 rfl) ?_
  refine lv_iload_n hx hb dL_law_965 rfl (lv_at hl 0 rfl) ?_
  refine lv_iconst (v := 2) hx hb dL_law_966 (by decide) ?_
  refine lv_iadd hx hb dL_law_967 ?_
  refine lv_topi (fun x3 ex3 => ?_)
  refine va_sld hx hb hX hbl hbA hS (sidx ex3 hi0 hi1 hL (by decide) (by decide)) dL_law_968 ?_
  refine lv_topi (fun x4 ex4 => ?_)
  have hFc := frA hDX hS hA
  refine va_calli (va_runV (As := [.int x2, .int x4]) (rest := []) ⟨hx, hb, hml, hown, hG⟩ (kX8_rivals l dC dI xr xt x_i_tapeLength x_i_time x_i_lyingCount x_i_rd_fault x_i_rd_token x_i_rd_kind x_i_sc_count x_i_sc_at x_i_A_tunes x_i_A_houses x_i_fA_length x_i_B_tunes x_i_B_houses x_i_fB_length x_i_acts_done x_i_acts_undone x_i_kn_count x_f_boxes x_f_boxKept x_f_trial x_f_offers x_f_A_noteCounts x_f_A_notes x_f_B_noteCounts x_f_B_notes x_f_now_where x_f_now_worn x_f_ahead_where x_f_ahead_worn x_f_acts_rows x_f_kn_tunes x_f_kn_noteTimes x_J x_L x2 x4 H.size hIX) (cwV 2 hG (goodV gw969 gw970 gw971 gw129 gw972) rfl rfl rfl hd_X8_rivals ⟨(Nat.le_of_ble_eq_true rfl), (Nat.le_of_ble_eq_true rfl)⟩) ⟨fbW, va_recv hKX hPX (ci := 7) (q0 := 0) rfl rfl, pW_in hPX hKX hDX⟩ rfl rfl hl.1 rfl (lv_room (Nat.le_of_ble_eq_true rfl)) dL_law_969 ⟨(Nat.le_of_ble_eq_true rfl), (Nat.le_of_ble_eq_true rfl)⟩) hS (fun q _ h => hFc q h) hFc (fun r_6 u_ t_ H5 locs ht hvm hw hB hz1 hk1 hS => ?_)
  subst hw
  obtain ⟨n7, n8, hP1, hD1, hIX⟩ := hB
  rw [ht] at hP1
  obtain ⟨hPM, hdj⟩ := mvO hPM hdj (fun k q hk => hD1.2 k q hk) hk1
  have hPX := hP1
  have hDX := dW hFc hD1
  refine lv_pop hx hb dL_law_972 rfl ?_
  refine lv_aload_n hx hb dL_law_973 rfl (lv_at hl 1 rfl) ?_
  refine W.eq (g2 := F0 m 974 ls [.ref (mr 0)]) (by rw [hrM]) ?_
  refine lv_aload_n hx hb dL_law_974 rfl (lv_at hl 3 rfl) ?_
  refine lv_iload_n hx hb dL_law_975 rfl (lv_at hl 0 rfl) ?_
  refine lv_iconst (v := 1) hx hb dL_law_976 (by decide) ?_
  refine lv_iadd hx hb dL_law_977 ?_
  refine lv_topi (fun x9 ex9 => ?_)
  refine va_sld hx hb hX hbl hbA hS (sidx ex9 hi0 hi1 hL (by decide) (by decide)) dL_law_978 ?_
  refine lv_topi (fun x10 ex10 => ?_)
  refine lv_aload_n hx hb dL_law_979 rfl (lv_at hl 3 rfl) ?_
  refine lv_iload_n hx hb dL_law_980 rfl (lv_at hl 0 rfl) ?_
  refine lv_iconst (v := 2) hx hb dL_law_981 (by decide) ?_
  refine lv_iadd hx hb dL_law_982 ?_
  refine lv_topi (fun x11 ex11 => ?_)
  refine va_sld hx hb hX hbl hbA hS (sidx ex11 hi0 hi1 hL (by decide) (by decide)) dL_law_983 ?_
  refine lv_topi (fun x12 ex12 => ?_)
  have hFc := frA hDM hS hA
  refine va_calli (va_runV (As := [.int x10, .int x12]) (rest := []) ⟨hx, hb, hml, hown, hG⟩ (kX9_rivals l dC dI mr mt m_i_taped m_i_size m_i_faultKind m_i_at m_i_end m_i_token m_i_number m_i_bank m_i_rb m_i_codes m_i_within m_i_piled m_i_unitsInRule m_i_askHouse m_i_askTune m_i_acts m_i_undone m_i_laid m_i_knowns m_i_time m_f_text m_f_tunes m_f_houses m_f_hums m_f_told m_f_many m_f_ruleFrom m_f_ruleTo m_f_code m_f_eWhat m_f_eSign m_f_all m_f_kept m_f_was m_f_sTune m_f_boxAll m_J m_L x10 x12 H5.size hIM) (cwV 2 hG (goodV gw1798 gw1799 gw1800 gw138 gw1801) rfl rfl rfl hd_X9_rivals ⟨(Nat.le_of_ble_eq_true rfl), (Nat.le_of_ble_eq_true rfl)⟩) ⟨fbW, va_recv hKM hPM (ci := 8) (q0 := 0) rfl rfl, pW_in hPM hKM hDM⟩ rfl rfl hl.1 rfl (lv_room (Nat.le_of_ble_eq_true rfl)) dL_law_984 ⟨(Nat.le_of_ble_eq_true rfl), (Nat.le_of_ble_eq_true rfl)⟩) hS (fun q _ h => hFc q h) hFc (fun r_14 u_ t_ H13 locs ht hvm hw hB hz1 hk1 hS => ?_)
  subst hw
  obtain ⟨n15, n16, n17, n18, hP1, hD1, hIM⟩ := hB
  rw [ht] at hP1
  obtain ⟨hPX, hdj⟩ := mvO hPX (dj_sym hdj) (fun k q hk => hD1.2 k q hk) hk1
  have hdj := dj_sym hdj
  have hPM := hP1
  have hDM := dW hFc hD1
  refine lv_pop hx hb dL_law_987 rfl ?_
  refine lv_goto (tgt := 1540) hx hb dL_law_988 (by decide) ?_
  exact kk H13 _ _ ⟨xr, xt, x_i_tapeLength, x_i_time, n7, x_i_rd_fault, x_i_rd_token, x_i_rd_kind, x_i_sc_count, x_i_sc_at, x_i_A_tunes, x_i_A_houses, x_i_fA_length, x_i_B_tunes, x_i_B_houses, x_i_fB_length, x_i_acts_done, x_i_acts_undone, x_i_kn_count, x_f_boxes, x_f_boxKept, x_f_trial, x_f_offers, x_f_A_noteCounts, x_f_A_notes, x_f_B_noteCounts, x_f_B_notes, x_f_now_where, x_f_now_worn, x_f_ahead_where, x_f_ahead_worn, x_f_acts_rows, x_f_kn_tunes, x_f_kn_noteTimes, n8, x_L, mr, mt, m_i_taped, m_i_size, m_i_faultKind, m_i_at, m_i_end, m_i_token, m_i_number, m_i_bank, m_i_rb, m_i_codes, m_i_within, m_i_piled, m_i_unitsInRule, n15, n16, m_i_acts, m_i_undone, n17, m_i_knowns, m_i_time, m_f_text, m_f_tunes, m_f_houses, m_f_hums, m_f_told, m_f_many, m_f_ruleFrom, m_f_ruleTo, m_f_code, m_f_eWhat, m_f_eSign, m_f_all, m_f_kept, m_f_was, m_f_sTune, m_f_boxAll, n18, m_L, hrX, hrM, hKX, hKM, hPX, hPM, hDX, hDM, hdj, hS, hIX, hWB, hRB, hBB, hIM, htm⟩ hl
set_option maxHeartbeats 4000000 in
set_option maxRecDepth 100000 in
theorem law_27 {p : Program} {e : Env} {s : State} {m : MethodId} {below : List Frame} {meth : Method} {c : Code} (l : Launch) {b L : Nat} {xs : Nat → Int32} (hL : L ≤ 3072) (C0 : lw_At p s m meth c b L xs) (dC : Nat → ClassId) (dI : Nat → Nat → Nat) (adK adV : Nat) (fS : Nat → Int32) (hZ : ZS adK adV fS (fun q : Nat => s.heap.size ≤ q) s s.heap) {aX aM : Nat} {i : Int32} (hi0 : 0 ≤ i.toInt) (hi1 : i.toInt + 6 ≤ (L : Int)) {H : Heap} {locs : List Loc} (hI : LI dC dI s aX aM H locs) {ls : Array Slot} (hl : lv_has ls 4 [(3, .int i), (2, .ref aM), (1, .ref aX), (0, .ref b)]) (kk : ∀ (H1 : Heap) (locs1 : List Loc) (ls1 : Array Slot), LI dC dI s aX aM H1 locs1 → lv_has ls1 4 [(3, .int i), (2, .ref aM), (1, .ref aX), (0, .ref b)] → W p l e room_1 s m #[Value.ref b] below meth c H1 locs1 103 20190 (lw_Z below #[Value.ref b] s) (F0 m 1540 ls1 [])) : W p l e room_1 s m #[Value.ref b] below meth c H locs 103 20190 (lw_Z below #[Value.ref b] s) (F0 m 991 ls []) := by
  obtain ⟨hx, hb, hr, hml, hown, hts, hX, hbl, hlocks, hgv⟩ := id C0
  have hown : s.vm.findClass RL = some m.cls := hown
  have hG : ∀ w ∈ GW, w.before _ s = true := fun w h => hts w (List.mem_filter.mp h).1
  have hA : ∀ q : Nat, s.heap.size ≤ q → (fun q : Nat => s.heap.size ≤ q) q := fun _ h => h
  have hbA : ¬ (fun q : Nat => s.heap.size ≤ q) b := Nat.not_le.mpr hbl
  obtain ⟨xr, xt, x_i_tapeLength, x_i_time, x_i_lyingCount, x_i_rd_fault, x_i_rd_token, x_i_rd_kind, x_i_sc_count, x_i_sc_at, x_i_A_tunes, x_i_A_houses, x_i_fA_length, x_i_B_tunes, x_i_B_houses, x_i_fB_length, x_i_acts_done, x_i_acts_undone, x_i_kn_count, x_f_boxes, x_f_boxKept, x_f_trial, x_f_offers, x_f_A_noteCounts, x_f_A_notes, x_f_B_noteCounts, x_f_B_notes, x_f_now_where, x_f_now_worn, x_f_ahead_where, x_f_ahead_worn, x_f_acts_rows, x_f_kn_tunes, x_f_kn_noteTimes, x_J, x_L, mr, mt, m_i_taped, m_i_size, m_i_faultKind, m_i_at, m_i_end, m_i_token, m_i_number, m_i_bank, m_i_rb, m_i_codes, m_i_within, m_i_piled, m_i_unitsInRule, m_i_askHouse, m_i_askTune, m_i_acts, m_i_undone, m_i_laid, m_i_knowns, m_i_time, m_f_text, m_f_tunes, m_f_houses, m_f_hums, m_f_told, m_f_many, m_f_ruleFrom, m_f_ruleTo, m_f_code, m_f_eWhat, m_f_eSign, m_f_all, m_f_kept, m_f_was, m_f_sTune, m_f_boxAll, m_J, m_L, hrX, hrM, hKX, hKM, hPX, hPM, hDX, hDM, hdj, hS, hIX, hWB, hRB, hBB, hIM, htm⟩ := hI
  refine lv_aload_n hx hb dL_law_991 rfl (lv_at hl 2 rfl) ?_
  refine W.eq (g2 := F0 m 992 ls [.ref (xr 0)]) (by rw [hrX]) ?_
  refine lv_aload_n hx hb dL_law_992 rfl (lv_at hl 3 rfl) ?_
  refine lv_iload_n hx hb dL_law_993 rfl (lv_at hl 0 rfl) ?_
  refine lv_iconst (v := 1) hx hb dL_law_994 (by decide) ?_
  refine lv_iadd hx hb dL_law_995 ?_
  refine lv_topi (fun x1 ex1 => ?_)
  refine va_sld hx hb hX hbl hbA hS (sidx ex1 hi0 hi1 hL (by decide) (by decide)) dL_law_996 ?_
  refine lv_topi (fun x2 ex2 => ?_)
  refine lv_aload_n hx hb dL_law_997 rfl (lv_at hl 3 rfl) ?_
  refine lv_iload_n hx hb dL_law_998 rfl (lv_at hl 0 rfl) ?_
  refine lv_iconst (v := 2) hx hb dL_law_999 (by decide) ?_
  refine lv_iadd hx hb dL_law_1000 ?_
  refine lv_topi (fun x3 ex3 => ?_)
  refine va_sld hx hb hX hbl hbA hS (sidx ex3 hi0 hi1 hL (by decide) (by decide)) dL_law_1001 ?_
  refine lv_topi (fun x4 ex4 => ?_)
  have hFc := frA hDX hS hA
  refine va_calli (va_runV (As := [.int x2, .int x4]) (rest := []) ⟨hx, hb, hml, hown, hG⟩ (kX8_sale l dC dI xr xt x_i_tapeLength x_i_time x_i_lyingCount x_i_rd_fault x_i_rd_token x_i_rd_kind x_i_sc_count x_i_sc_at x_i_A_tunes x_i_A_houses x_i_fA_length x_i_B_tunes x_i_B_houses x_i_fB_length x_i_acts_done x_i_acts_undone x_i_kn_count x_f_boxes x_f_boxKept x_f_trial x_f_offers x_f_A_noteCounts x_f_A_notes x_f_B_noteCounts x_f_B_notes x_f_now_where x_f_now_worn x_f_ahead_where x_f_ahead_worn x_f_acts_rows x_f_kn_tunes x_f_kn_noteTimes x_J x_L x2 x4 H.size hIX) (cwV 2 hG (goodV gw981 gw982 gw983 gw129 gw984) rfl rfl rfl hd_X8_sale ⟨(Nat.le_of_ble_eq_true rfl), (Nat.le_of_ble_eq_true rfl)⟩) ⟨fbW, va_recv hKX hPX (ci := 7) (q0 := 0) rfl rfl, pW_in hPX hKX hDX⟩ rfl rfl hl.1 rfl (lv_room (Nat.le_of_ble_eq_true rfl)) dL_law_1002 ⟨(Nat.le_of_ble_eq_true rfl), (Nat.le_of_ble_eq_true rfl)⟩) hS (fun q _ h => hFc q h) hFc (fun r_6 u_ t_ H5 locs ht hvm hw hB hz1 hk1 hS => ?_)
  subst hw
  obtain ⟨n7, hP1, hD1, hIX⟩ := hB
  rw [ht] at hP1
  obtain ⟨hPM, hdj⟩ := mvO hPM hdj (fun k q hk => hD1.2 k q hk) hk1
  have hPX := hP1
  have hDX := dW hFc hD1
  refine lv_pop hx hb dL_law_1005 rfl ?_
  refine lv_aload_n hx hb dL_law_1006 rfl (lv_at hl 1 rfl) ?_
  refine W.eq (g2 := F0 m 1007 ls [.ref (mr 0)]) (by rw [hrM]) ?_
  refine lv_aload_n hx hb dL_law_1007 rfl (lv_at hl 3 rfl) ?_
  refine lv_iload_n hx hb dL_law_1008 rfl (lv_at hl 0 rfl) ?_
  refine lv_iconst (v := 1) hx hb dL_law_1009 (by decide) ?_
  refine lv_iadd hx hb dL_law_1010 ?_
  refine lv_topi (fun x8 ex8 => ?_)
  refine va_sld hx hb hX hbl hbA hS (sidx ex8 hi0 hi1 hL (by decide) (by decide)) dL_law_1011 ?_
  refine lv_topi (fun x9 ex9 => ?_)
  refine lv_aload_n hx hb dL_law_1012 rfl (lv_at hl 3 rfl) ?_
  refine lv_iload_n hx hb dL_law_1013 rfl (lv_at hl 0 rfl) ?_
  refine lv_iconst (v := 2) hx hb dL_law_1014 (by decide) ?_
  refine lv_iadd hx hb dL_law_1015 ?_
  refine lv_topi (fun x10 ex10 => ?_)
  refine va_sld hx hb hX hbl hbA hS (sidx ex10 hi0 hi1 hL (by decide) (by decide)) dL_law_1016 ?_
  refine lv_topi (fun x11 ex11 => ?_)
  have hFc := frA hDM hS hA
  refine va_calli (va_runV (As := [.int x9, .int x11]) (rest := []) ⟨hx, hb, hml, hown, hG⟩ (kX9_sale l dC dI mr mt m_i_taped m_i_size m_i_faultKind m_i_at m_i_end m_i_token m_i_number m_i_bank m_i_rb m_i_codes m_i_within m_i_piled m_i_unitsInRule m_i_askHouse m_i_askTune m_i_acts m_i_undone m_i_laid m_i_knowns m_i_time m_f_text m_f_tunes m_f_houses m_f_hums m_f_told m_f_many m_f_ruleFrom m_f_ruleTo m_f_code m_f_eWhat m_f_eSign m_f_all m_f_kept m_f_was m_f_sTune m_f_boxAll m_J m_L x9 x11 H5.size hIM) (cwV 2 hG (goodV gw1794 gw1795 gw1796 gw138 gw1797) rfl rfl rfl hd_X9_sale ⟨(Nat.le_of_ble_eq_true rfl), (Nat.le_of_ble_eq_true rfl)⟩) ⟨fbW, va_recv hKM hPM (ci := 8) (q0 := 0) rfl rfl, pW_in hPM hKM hDM⟩ rfl rfl hl.1 rfl (lv_room (Nat.le_of_ble_eq_true rfl)) dL_law_1017 ⟨(Nat.le_of_ble_eq_true rfl), (Nat.le_of_ble_eq_true rfl)⟩) hS (fun q _ h => hFc q h) hFc (fun r_13 u_ t_ H12 locs ht hvm hw hB hz1 hk1 hS => ?_)
  subst hw
  obtain ⟨n14, n15, n16, hP1, hD1, hIM⟩ := hB
  rw [ht] at hP1
  obtain ⟨hPX, hdj⟩ := mvO hPX (dj_sym hdj) (fun k q hk => hD1.2 k q hk) hk1
  have hdj := dj_sym hdj
  have hPM := hP1
  have hDM := dW hFc hD1
  refine lv_pop hx hb dL_law_1020 rfl ?_
  refine lv_goto (tgt := 1540) hx hb dL_law_1021 (by decide) ?_
  exact kk H12 _ _ ⟨xr, xt, x_i_tapeLength, x_i_time, x_i_lyingCount, x_i_rd_fault, x_i_rd_token, x_i_rd_kind, x_i_sc_count, x_i_sc_at, x_i_A_tunes, x_i_A_houses, x_i_fA_length, x_i_B_tunes, x_i_B_houses, x_i_fB_length, x_i_acts_done, x_i_acts_undone, x_i_kn_count, x_f_boxes, x_f_boxKept, x_f_trial, x_f_offers, x_f_A_noteCounts, x_f_A_notes, x_f_B_noteCounts, x_f_B_notes, x_f_now_where, x_f_now_worn, x_f_ahead_where, x_f_ahead_worn, x_f_acts_rows, x_f_kn_tunes, x_f_kn_noteTimes, n7, x_L, mr, mt, m_i_taped, m_i_size, m_i_faultKind, m_i_at, m_i_end, m_i_token, m_i_number, m_i_bank, m_i_rb, m_i_codes, m_i_within, m_i_piled, m_i_unitsInRule, n14, n15, m_i_acts, m_i_undone, m_i_laid, m_i_knowns, m_i_time, m_f_text, m_f_tunes, m_f_houses, m_f_hums, m_f_told, m_f_many, m_f_ruleFrom, m_f_ruleTo, m_f_code, m_f_eWhat, m_f_eSign, m_f_all, m_f_kept, m_f_was, m_f_sTune, m_f_boxAll, n16, m_L, hrX, hrM, hKX, hKM, hPX, hPM, hDX, hDM, hdj, hS, hIX, hWB, hRB, hBB, hIM, htm⟩ hl
set_option maxHeartbeats 4000000 in
set_option maxRecDepth 100000 in
theorem law_28 {p : Program} {e : Env} {s : State} {m : MethodId} {below : List Frame} {meth : Method} {c : Code} (l : Launch) {b L : Nat} {xs : Nat → Int32} (hL : L ≤ 3072) (C0 : lw_At p s m meth c b L xs) (dC : Nat → ClassId) (dI : Nat → Nat → Nat) (adK adV : Nat) (fS : Nat → Int32) (hZ : ZS adK adV fS (fun q : Nat => s.heap.size ≤ q) s s.heap) {aX aM : Nat} {i : Int32} (hi0 : 0 ≤ i.toInt) (hi1 : i.toInt + 6 ≤ (L : Int)) {H : Heap} {locs : List Loc} (hI : LI dC dI s aX aM H locs) {ls : Array Slot} (hl : lv_has ls 4 [(3, .int i), (2, .ref aM), (1, .ref aX), (0, .ref b)]) (kk : ∀ (H1 : Heap) (locs1 : List Loc) (ls1 : Array Slot), LI dC dI s aX aM H1 locs1 → lv_has ls1 4 [(3, .int i), (2, .ref aM), (1, .ref aX), (0, .ref b)] → W p l e room_1 s m #[Value.ref b] below meth c H1 locs1 103 20190 (lw_Z below #[Value.ref b] s) (F0 m 1540 ls1 [])) : W p l e room_1 s m #[Value.ref b] below meth c H locs 103 20190 (lw_Z below #[Value.ref b] s) (F0 m 1024 ls []) := by
  obtain ⟨hx, hb, hr, hml, hown, hts, hX, hbl, hlocks, hgv⟩ := id C0
  have hown : s.vm.findClass RL = some m.cls := hown
  have hG : ∀ w ∈ GW, w.before _ s = true := fun w h => hts w (List.mem_filter.mp h).1
  have hA : ∀ q : Nat, s.heap.size ≤ q → (fun q : Nat => s.heap.size ≤ q) q := fun _ h => h
  have hbA : ¬ (fun q : Nat => s.heap.size ≤ q) b := Nat.not_le.mpr hbl
  obtain ⟨xr, xt, x_i_tapeLength, x_i_time, x_i_lyingCount, x_i_rd_fault, x_i_rd_token, x_i_rd_kind, x_i_sc_count, x_i_sc_at, x_i_A_tunes, x_i_A_houses, x_i_fA_length, x_i_B_tunes, x_i_B_houses, x_i_fB_length, x_i_acts_done, x_i_acts_undone, x_i_kn_count, x_f_boxes, x_f_boxKept, x_f_trial, x_f_offers, x_f_A_noteCounts, x_f_A_notes, x_f_B_noteCounts, x_f_B_notes, x_f_now_where, x_f_now_worn, x_f_ahead_where, x_f_ahead_worn, x_f_acts_rows, x_f_kn_tunes, x_f_kn_noteTimes, x_J, x_L, mr, mt, m_i_taped, m_i_size, m_i_faultKind, m_i_at, m_i_end, m_i_token, m_i_number, m_i_bank, m_i_rb, m_i_codes, m_i_within, m_i_piled, m_i_unitsInRule, m_i_askHouse, m_i_askTune, m_i_acts, m_i_undone, m_i_laid, m_i_knowns, m_i_time, m_f_text, m_f_tunes, m_f_houses, m_f_hums, m_f_told, m_f_many, m_f_ruleFrom, m_f_ruleTo, m_f_code, m_f_eWhat, m_f_eSign, m_f_all, m_f_kept, m_f_was, m_f_sTune, m_f_boxAll, m_J, m_L, hrX, hrM, hKX, hKM, hPX, hPM, hDX, hDM, hdj, hS, hIX, hWB, hRB, hBB, hIM, htm⟩ := hI
  refine lv_aload_n hx hb dL_law_1024 rfl (lv_at hl 2 rfl) ?_
  refine W.eq (g2 := F0 m 1025 ls [.ref (xr 0)]) (by rw [hrX]) ?_
  refine lv_aload_n hx hb dL_law_1025 rfl (lv_at hl 3 rfl) ?_
  refine lv_iload_n hx hb dL_law_1026 rfl (lv_at hl 0 rfl) ?_
  refine lv_iconst (v := 1) hx hb dL_law_1027 (by decide) ?_
  refine lv_iadd hx hb dL_law_1028 ?_
  refine lv_topi (fun x1 ex1 => ?_)
  refine va_sld hx hb hX hbl hbA hS (sidx ex1 hi0 hi1 hL (by decide) (by decide)) dL_law_1029 ?_
  refine lv_topi (fun x2 ex2 => ?_)
  have hFc := frA hDX hS hA
  refine va_calli (va_runV (As := [.int x2]) (rest := []) ⟨hx, hb, hml, hown, hG⟩ (kX8_swap l dC dI xr xt x_i_tapeLength x_i_time x_i_lyingCount x_i_rd_fault x_i_rd_token x_i_rd_kind x_i_sc_count x_i_sc_at x_i_A_tunes x_i_A_houses x_i_fA_length x_i_B_tunes x_i_B_houses x_i_fB_length x_i_acts_done x_i_acts_undone x_i_kn_count x_f_boxes x_f_boxKept x_f_trial x_f_offers x_f_A_noteCounts x_f_A_notes x_f_B_noteCounts x_f_B_notes x_f_now_where x_f_now_worn x_f_ahead_where x_f_ahead_worn x_f_acts_rows x_f_kn_tunes x_f_kn_noteTimes x_J x_L x2 H.size hIX hWB) (cwV 1 hG (goodV gw961 gw962 gw963 gw129 gw964) rfl rfl rfl hd_X8_swap ⟨(Nat.le_of_ble_eq_true rfl), (Nat.le_of_ble_eq_true rfl)⟩) ⟨fbW, va_recv hKX hPX (ci := 7) (q0 := 0) rfl rfl, pW_in hPX hKX hDX⟩ rfl rfl hl.1 rfl (lv_room (Nat.le_of_ble_eq_true rfl)) dL_law_1030 ⟨(Nat.le_of_ble_eq_true rfl), (Nat.le_of_ble_eq_true rfl)⟩) hS (fun q _ h => hFc q h) hFc (fun r_4 u_ t_ H3 locs ht hvm hw hB hz1 hk1 hS => ?_)
  subst hw
  obtain ⟨n5, hP1, hD1, hIX⟩ := hB
  rw [ht] at hP1
  obtain ⟨hPM, hdj⟩ := mvO hPM hdj (fun k q hk => hD1.2 k q hk) hk1
  have hPX := hP1
  have hDX := dW hFc hD1
  refine lv_pop hx hb dL_law_1033 rfl ?_
  refine lv_aload_n hx hb dL_law_1034 rfl (lv_at hl 1 rfl) ?_
  refine W.eq (g2 := F0 m 1035 ls [.ref (mr 0)]) (by rw [hrM]) ?_
  refine lv_aload_n hx hb dL_law_1035 rfl (lv_at hl 3 rfl) ?_
  refine lv_iload_n hx hb dL_law_1036 rfl (lv_at hl 0 rfl) ?_
  refine lv_iconst (v := 1) hx hb dL_law_1037 (by decide) ?_
  refine lv_iadd hx hb dL_law_1038 ?_
  refine lv_topi (fun x6 ex6 => ?_)
  refine va_sld hx hb hX hbl hbA hS (sidx ex6 hi0 hi1 hL (by decide) (by decide)) dL_law_1039 ?_
  refine lv_topi (fun x7 ex7 => ?_)
  have hFc := frA hDM hS hA
  refine va_calli (va_runV (As := [.int x7]) (rest := []) ⟨hx, hb, hml, hown, hG⟩ (kX9_swap l dC dI mr mt m_i_taped m_i_size m_i_faultKind m_i_at m_i_end m_i_token m_i_number m_i_bank m_i_rb m_i_codes m_i_within m_i_piled m_i_unitsInRule m_i_askHouse m_i_askTune m_i_acts m_i_undone m_i_laid m_i_knowns m_i_time m_f_text m_f_tunes m_f_houses m_f_hums m_f_told m_f_many m_f_ruleFrom m_f_ruleTo m_f_code m_f_eWhat m_f_eSign m_f_all m_f_kept m_f_was m_f_sTune m_f_boxAll m_J m_L x7 H3.size hIM) (cwV 1 hG (goodV gw1790 gw1791 gw1792 gw138 gw1793) rfl rfl rfl hd_X9_swap ⟨(Nat.le_of_ble_eq_true rfl), (Nat.le_of_ble_eq_true rfl)⟩) ⟨fbW, va_recv hKM hPM (ci := 8) (q0 := 0) rfl rfl, pW_in hPM hKM hDM⟩ rfl rfl hl.1 rfl (lv_room (Nat.le_of_ble_eq_true rfl)) dL_law_1040 ⟨(Nat.le_of_ble_eq_true rfl), (Nat.le_of_ble_eq_true rfl)⟩) hS (fun q _ h => hFc q h) hFc (fun r_9 u_ t_ H8 locs ht hvm hw hB hz1 hk1 hS => ?_)
  subst hw
  obtain ⟨n10, n11, n12, hP1, hD1, hIM⟩ := hB
  rw [ht] at hP1
  obtain ⟨hPX, hdj⟩ := mvO hPX (dj_sym hdj) (fun k q hk => hD1.2 k q hk) hk1
  have hdj := dj_sym hdj
  have hPM := hP1
  have hDM := dW hFc hD1
  refine lv_pop hx hb dL_law_1043 rfl ?_
  refine lv_goto (tgt := 1540) hx hb dL_law_1044 (by decide) ?_
  exact kk H8 _ _ ⟨xr, xt, x_i_tapeLength, x_i_time, x_i_lyingCount, x_i_rd_fault, x_i_rd_token, x_i_rd_kind, x_i_sc_count, x_i_sc_at, x_i_A_tunes, x_i_A_houses, x_i_fA_length, x_i_B_tunes, x_i_B_houses, x_i_fB_length, x_i_acts_done, x_i_acts_undone, x_i_kn_count, x_f_boxes, x_f_boxKept, x_f_trial, x_f_offers, x_f_A_noteCounts, x_f_A_notes, x_f_B_noteCounts, x_f_B_notes, x_f_now_where, x_f_now_worn, x_f_ahead_where, x_f_ahead_worn, x_f_acts_rows, x_f_kn_tunes, x_f_kn_noteTimes, n5, x_L, mr, mt, m_i_taped, m_i_size, m_i_faultKind, m_i_at, m_i_end, m_i_token, m_i_number, m_i_bank, m_i_rb, m_i_codes, m_i_within, m_i_piled, m_i_unitsInRule, n10, n11, m_i_acts, m_i_undone, m_i_laid, m_i_knowns, m_i_time, m_f_text, m_f_tunes, m_f_houses, m_f_hums, m_f_told, m_f_many, m_f_ruleFrom, m_f_ruleTo, m_f_code, m_f_eWhat, m_f_eSign, m_f_all, m_f_kept, m_f_was, m_f_sTune, m_f_boxAll, n12, m_L, hrX, hrM, hKX, hKM, hPX, hPM, hDX, hDM, hdj, hS, hIX, hWB, hRB, hBB, hIM, htm⟩ hl
set_option maxHeartbeats 4000000 in
set_option maxRecDepth 100000 in
theorem law_29 {p : Program} {e : Env} {s : State} {m : MethodId} {below : List Frame} {meth : Method} {c : Code} (l : Launch) {b L : Nat} {xs : Nat → Int32} (hL : L ≤ 3072) (C0 : lw_At p s m meth c b L xs) (dC : Nat → ClassId) (dI : Nat → Nat → Nat) (adK adV : Nat) (fS : Nat → Int32) (hZ : ZS adK adV fS (fun q : Nat => s.heap.size ≤ q) s s.heap) {aX aM : Nat} {i : Int32} (hi0 : 0 ≤ i.toInt) (hi1 : i.toInt + 6 ≤ (L : Int)) {H : Heap} {locs : List Loc} (hI : LI dC dI s aX aM H locs) {ls : Array Slot} (hl : lv_has ls 4 [(3, .int i), (2, .ref aM), (1, .ref aX), (0, .ref b)]) (kk : ∀ (H1 : Heap) (locs1 : List Loc) (ls1 : Array Slot), LI dC dI s aX aM H1 locs1 → lv_has ls1 4 [(3, .int i), (2, .ref aM), (1, .ref aX), (0, .ref b)] → W p l e room_1 s m #[Value.ref b] below meth c H1 locs1 103 20190 (lw_Z below #[Value.ref b] s) (F0 m 1540 ls1 [])) : W p l e room_1 s m #[Value.ref b] below meth c H locs 103 20190 (lw_Z below #[Value.ref b] s) (F0 m 1047 ls []) := by
  obtain ⟨hx, hb, hr, hml, hown, hts, hX, hbl, hlocks, hgv⟩ := id C0
  have hown : s.vm.findClass RL = some m.cls := hown
  have hG : ∀ w ∈ GW, w.before _ s = true := fun w h => hts w (List.mem_filter.mp h).1
  have hA : ∀ q : Nat, s.heap.size ≤ q → (fun q : Nat => s.heap.size ≤ q) q := fun _ h => h
  have hbA : ¬ (fun q : Nat => s.heap.size ≤ q) b := Nat.not_le.mpr hbl
  obtain ⟨xr, xt, x_i_tapeLength, x_i_time, x_i_lyingCount, x_i_rd_fault, x_i_rd_token, x_i_rd_kind, x_i_sc_count, x_i_sc_at, x_i_A_tunes, x_i_A_houses, x_i_fA_length, x_i_B_tunes, x_i_B_houses, x_i_fB_length, x_i_acts_done, x_i_acts_undone, x_i_kn_count, x_f_boxes, x_f_boxKept, x_f_trial, x_f_offers, x_f_A_noteCounts, x_f_A_notes, x_f_B_noteCounts, x_f_B_notes, x_f_now_where, x_f_now_worn, x_f_ahead_where, x_f_ahead_worn, x_f_acts_rows, x_f_kn_tunes, x_f_kn_noteTimes, x_J, x_L, mr, mt, m_i_taped, m_i_size, m_i_faultKind, m_i_at, m_i_end, m_i_token, m_i_number, m_i_bank, m_i_rb, m_i_codes, m_i_within, m_i_piled, m_i_unitsInRule, m_i_askHouse, m_i_askTune, m_i_acts, m_i_undone, m_i_laid, m_i_knowns, m_i_time, m_f_text, m_f_tunes, m_f_houses, m_f_hums, m_f_told, m_f_many, m_f_ruleFrom, m_f_ruleTo, m_f_code, m_f_eWhat, m_f_eSign, m_f_all, m_f_kept, m_f_was, m_f_sTune, m_f_boxAll, m_J, m_L, hrX, hrM, hKX, hKM, hPX, hPM, hDX, hDM, hdj, hS, hIX, hWB, hRB, hBB, hIM, htm⟩ := hI
  refine lv_aload_n hx hb dL_law_1047 rfl (lv_at hl 2 rfl) ?_
  refine W.eq (g2 := F0 m 1048 ls [.ref (xr 0)]) (by rw [hrX]) ?_
  refine va_calli (va_runV (As := []) (rest := []) ⟨hx, hb, hml, hown, hG⟩ (kX8_idle l dC dI xr xt x_i_tapeLength x_i_time x_i_lyingCount x_i_rd_fault x_i_rd_token x_i_rd_kind x_i_sc_count x_i_sc_at x_i_A_tunes x_i_A_houses x_i_fA_length x_i_B_tunes x_i_B_houses x_i_fB_length x_i_acts_done x_i_acts_undone x_i_kn_count x_f_boxes x_f_boxKept x_f_trial x_f_offers x_f_A_noteCounts x_f_A_notes x_f_B_noteCounts x_f_B_notes x_f_now_where x_f_now_worn x_f_ahead_where x_f_ahead_worn x_f_acts_rows x_f_kn_tunes x_f_kn_noteTimes x_J x_L H.size hIX hWB) (cwV 0 hG (goodV gw1021 gw1022 gw1023 gw129 gw1024) rfl rfl rfl hd_X8_idle ⟨(Nat.le_of_ble_eq_true rfl), (Nat.le_of_ble_eq_true rfl)⟩) ⟨fbR, va_recv hKX hPX (ci := 7) (q0 := 0) rfl rfl, pR_in hPX hKX⟩ rfl rfl hl.1 rfl (lv_room (Nat.le_of_ble_eq_true rfl)) dL_law_1048 ⟨(Nat.le_of_ble_eq_true rfl), (Nat.le_of_ble_eq_true rfl)⟩) hS (fun q hq h => absurd hq (Nat.not_lt.mpr h)) (fun q h => hA q (Nat.le_trans hS.1 h)) (fun r_2 u_ t_ H1 locs ht hvm hw hB hz1 hk1 hS => ?_)
  subst hw
  have hPX := wk hPX hk1
  have hPM := wk hPM hk1
  refine lv_pop hx hb dL_law_1051 rfl ?_
  refine lv_aload_n hx hb dL_law_1052 rfl (lv_at hl 1 rfl) ?_
  refine W.eq (g2 := F0 m 1053 ls [.ref (mr 0)]) (by rw [hrM]) ?_
  refine va_calli (va_runV (As := []) (rest := []) ⟨hx, hb, hml, hown, hG⟩ (kX9_idle l dC dI mr mt m_i_taped m_i_size m_i_faultKind m_i_at m_i_end m_i_token m_i_number m_i_bank m_i_rb m_i_codes m_i_within m_i_piled m_i_unitsInRule m_i_askHouse m_i_askTune m_i_acts m_i_undone m_i_laid m_i_knowns m_i_time m_f_text m_f_tunes m_f_houses m_f_hums m_f_told m_f_many m_f_ruleFrom m_f_ruleTo m_f_code m_f_eWhat m_f_eSign m_f_all m_f_kept m_f_was m_f_sTune m_f_boxAll m_J m_L H1.size hIM) (cwV 0 hG (goodV gw1656 gw1657 gw1658 gw138 gw1659) rfl rfl rfl hd_X9_idle ⟨(Nat.le_of_ble_eq_true rfl), (Nat.le_of_ble_eq_true rfl)⟩) ⟨fbR, va_recv hKM hPM (ci := 8) (q0 := 0) rfl rfl, pR_in hPM hKM⟩ rfl rfl hl.1 rfl (lv_room (Nat.le_of_ble_eq_true rfl)) dL_law_1053 ⟨(Nat.le_of_ble_eq_true rfl), (Nat.le_of_ble_eq_true rfl)⟩) hS (fun q hq h => absurd hq (Nat.not_lt.mpr h)) (fun q h => hA q (Nat.le_trans hS.1 h)) (fun r_4 u_ t_ H3 locs ht hvm hw hB hz1 hk1 hS => ?_)
  subst hw
  have hPX := wk hPX hk1
  have hPM := wk hPM hk1
  refine lv_pop hx hb dL_law_1056 rfl ?_
  refine lv_goto (tgt := 1540) hx hb dL_law_1057 (by decide) ?_
  exact kk H3 _ _ ⟨xr, xt, x_i_tapeLength, x_i_time, x_i_lyingCount, x_i_rd_fault, x_i_rd_token, x_i_rd_kind, x_i_sc_count, x_i_sc_at, x_i_A_tunes, x_i_A_houses, x_i_fA_length, x_i_B_tunes, x_i_B_houses, x_i_fB_length, x_i_acts_done, x_i_acts_undone, x_i_kn_count, x_f_boxes, x_f_boxKept, x_f_trial, x_f_offers, x_f_A_noteCounts, x_f_A_notes, x_f_B_noteCounts, x_f_B_notes, x_f_now_where, x_f_now_worn, x_f_ahead_where, x_f_ahead_worn, x_f_acts_rows, x_f_kn_tunes, x_f_kn_noteTimes, x_J, x_L, mr, mt, m_i_taped, m_i_size, m_i_faultKind, m_i_at, m_i_end, m_i_token, m_i_number, m_i_bank, m_i_rb, m_i_codes, m_i_within, m_i_piled, m_i_unitsInRule, m_i_askHouse, m_i_askTune, m_i_acts, m_i_undone, m_i_laid, m_i_knowns, m_i_time, m_f_text, m_f_tunes, m_f_houses, m_f_hums, m_f_told, m_f_many, m_f_ruleFrom, m_f_ruleTo, m_f_code, m_f_eWhat, m_f_eSign, m_f_all, m_f_kept, m_f_was, m_f_sTune, m_f_boxAll, m_J, m_L, hrX, hrM, hKX, hKM, hPX, hPM, hDX, hDM, hdj, hS, hIX, hWB, hRB, hBB, hIM, htm⟩ hl
set_option maxHeartbeats 4000000 in
set_option maxRecDepth 100000 in
theorem law_30 {p : Program} {e : Env} {s : State} {m : MethodId} {below : List Frame} {meth : Method} {c : Code} (l : Launch) {b L : Nat} {xs : Nat → Int32} (hL : L ≤ 3072) (C0 : lw_At p s m meth c b L xs) (dC : Nat → ClassId) (dI : Nat → Nat → Nat) (adK adV : Nat) (fS : Nat → Int32) (hZ : ZS adK adV fS (fun q : Nat => s.heap.size ≤ q) s s.heap) {aX aM : Nat} {i : Int32} (hi0 : 0 ≤ i.toInt) (hi1 : i.toInt + 6 ≤ (L : Int)) {H : Heap} {locs : List Loc} (hI : LI dC dI s aX aM H locs) {ls : Array Slot} (hl : lv_has ls 4 [(3, .int i), (2, .ref aM), (1, .ref aX), (0, .ref b)]) (kk : ∀ (H1 : Heap) (locs1 : List Loc) (ls1 : Array Slot), LI dC dI s aX aM H1 locs1 → lv_has ls1 4 [(3, .int i), (2, .ref aM), (1, .ref aX), (0, .ref b)] → W p l e room_1 s m #[Value.ref b] below meth c H1 locs1 103 20190 (lw_Z below #[Value.ref b] s) (F0 m 1540 ls1 [])) : W p l e room_1 s m #[Value.ref b] below meth c H locs 103 20190 (lw_Z below #[Value.ref b] s) (F0 m 1060 ls []) := by
  obtain ⟨hx, hb, hr, hml, hown, hts, hX, hbl, hlocks, hgv⟩ := id C0
  have hown : s.vm.findClass RL = some m.cls := hown
  have hG : ∀ w ∈ GW, w.before _ s = true := fun w h => hts w (List.mem_filter.mp h).1
  have hA : ∀ q : Nat, s.heap.size ≤ q → (fun q : Nat => s.heap.size ≤ q) q := fun _ h => h
  have hbA : ¬ (fun q : Nat => s.heap.size ≤ q) b := Nat.not_le.mpr hbl
  obtain ⟨xr, xt, x_i_tapeLength, x_i_time, x_i_lyingCount, x_i_rd_fault, x_i_rd_token, x_i_rd_kind, x_i_sc_count, x_i_sc_at, x_i_A_tunes, x_i_A_houses, x_i_fA_length, x_i_B_tunes, x_i_B_houses, x_i_fB_length, x_i_acts_done, x_i_acts_undone, x_i_kn_count, x_f_boxes, x_f_boxKept, x_f_trial, x_f_offers, x_f_A_noteCounts, x_f_A_notes, x_f_B_noteCounts, x_f_B_notes, x_f_now_where, x_f_now_worn, x_f_ahead_where, x_f_ahead_worn, x_f_acts_rows, x_f_kn_tunes, x_f_kn_noteTimes, x_J, x_L, mr, mt, m_i_taped, m_i_size, m_i_faultKind, m_i_at, m_i_end, m_i_token, m_i_number, m_i_bank, m_i_rb, m_i_codes, m_i_within, m_i_piled, m_i_unitsInRule, m_i_askHouse, m_i_askTune, m_i_acts, m_i_undone, m_i_laid, m_i_knowns, m_i_time, m_f_text, m_f_tunes, m_f_houses, m_f_hums, m_f_told, m_f_many, m_f_ruleFrom, m_f_ruleTo, m_f_code, m_f_eWhat, m_f_eSign, m_f_all, m_f_kept, m_f_was, m_f_sTune, m_f_boxAll, m_J, m_L, hrX, hrM, hKX, hKM, hPX, hPM, hDX, hDM, hdj, hS, hIX, hWB, hRB, hBB, hIM, htm⟩ := hI
  refine lv_aload_n hx hb dL_law_1060 rfl (lv_at hl 2 rfl) ?_
  refine W.eq (g2 := F0 m 1061 ls [.ref (xr 0)]) (by rw [hrX]) ?_
  refine va_calli (va_runV (As := []) (rest := []) ⟨hx, hb, hml, hown, hG⟩ (kX8_fashion l dC dI xr xt x_i_tapeLength x_i_time x_i_lyingCount x_i_rd_fault x_i_rd_token x_i_rd_kind x_i_sc_count x_i_sc_at x_i_A_tunes x_i_A_houses x_i_fA_length x_i_B_tunes x_i_B_houses x_i_fB_length x_i_acts_done x_i_acts_undone x_i_kn_count x_f_boxes x_f_boxKept x_f_trial x_f_offers x_f_A_noteCounts x_f_A_notes x_f_B_noteCounts x_f_B_notes x_f_now_where x_f_now_worn x_f_ahead_where x_f_ahead_worn x_f_acts_rows x_f_kn_tunes x_f_kn_noteTimes x_J x_L H.size hIX) (cwV 0 hG (goodV gw1025 gw1026 gw1027 gw129 gw1028) rfl rfl rfl hd_X8_fashion ⟨(Nat.le_of_ble_eq_true rfl), (Nat.le_of_ble_eq_true rfl)⟩) ⟨fbR, va_recv hKX hPX (ci := 7) (q0 := 0) rfl rfl, pR_in hPX hKX⟩ rfl rfl hl.1 rfl (lv_room (Nat.le_of_ble_eq_true rfl)) dL_law_1061 ⟨(Nat.le_of_ble_eq_true rfl), (Nat.le_of_ble_eq_true rfl)⟩) hS (fun q hq h => absurd hq (Nat.not_lt.mpr h)) (fun q h => hA q (Nat.le_trans hS.1 h)) (fun r_2 u_ t_ H1 locs ht hvm hw hB hz1 hk1 hS => ?_)
  subst hw
  have hPX := wk hPX hk1
  have hPM := wk hPM hk1
  refine lv_pop hx hb dL_law_1064 rfl ?_
  refine lv_aload_n hx hb dL_law_1065 rfl (lv_at hl 1 rfl) ?_
  refine W.eq (g2 := F0 m 1066 ls [.ref (mr 0)]) (by rw [hrM]) ?_
  refine va_calli (va_runV (As := []) (rest := []) ⟨hx, hb, hml, hown, hG⟩ (kX9_fashion l dC dI mr mt m_i_taped m_i_size m_i_faultKind m_i_at m_i_end m_i_token m_i_number m_i_bank m_i_rb m_i_codes m_i_within m_i_piled m_i_unitsInRule m_i_askHouse m_i_askTune m_i_acts m_i_undone m_i_laid m_i_knowns m_i_time m_f_text m_f_tunes m_f_houses m_f_hums m_f_told m_f_many m_f_ruleFrom m_f_ruleTo m_f_code m_f_eWhat m_f_eSign m_f_all m_f_kept m_f_was m_f_sTune m_f_boxAll m_J m_L H1.size hIM) (cwV 0 hG (goodV gw1660 gw1661 gw1662 gw138 gw1663) rfl rfl rfl hd_X9_fashion ⟨(Nat.le_of_ble_eq_true rfl), (Nat.le_of_ble_eq_true rfl)⟩) ⟨fbR, va_recv hKM hPM (ci := 8) (q0 := 0) rfl rfl, pR_in hPM hKM⟩ rfl rfl hl.1 rfl (lv_room (Nat.le_of_ble_eq_true rfl)) dL_law_1066 ⟨(Nat.le_of_ble_eq_true rfl), (Nat.le_of_ble_eq_true rfl)⟩) hS (fun q hq h => absurd hq (Nat.not_lt.mpr h)) (fun q h => hA q (Nat.le_trans hS.1 h)) (fun r_4 u_ t_ H3 locs ht hvm hw hB hz1 hk1 hS => ?_)
  subst hw
  have hPX := wk hPX hk1
  have hPM := wk hPM hk1
  refine lv_pop hx hb dL_law_1069 rfl ?_
  refine lv_goto (tgt := 1540) hx hb dL_law_1070 (by decide) ?_
  exact kk H3 _ _ ⟨xr, xt, x_i_tapeLength, x_i_time, x_i_lyingCount, x_i_rd_fault, x_i_rd_token, x_i_rd_kind, x_i_sc_count, x_i_sc_at, x_i_A_tunes, x_i_A_houses, x_i_fA_length, x_i_B_tunes, x_i_B_houses, x_i_fB_length, x_i_acts_done, x_i_acts_undone, x_i_kn_count, x_f_boxes, x_f_boxKept, x_f_trial, x_f_offers, x_f_A_noteCounts, x_f_A_notes, x_f_B_noteCounts, x_f_B_notes, x_f_now_where, x_f_now_worn, x_f_ahead_where, x_f_ahead_worn, x_f_acts_rows, x_f_kn_tunes, x_f_kn_noteTimes, x_J, x_L, mr, mt, m_i_taped, m_i_size, m_i_faultKind, m_i_at, m_i_end, m_i_token, m_i_number, m_i_bank, m_i_rb, m_i_codes, m_i_within, m_i_piled, m_i_unitsInRule, m_i_askHouse, m_i_askTune, m_i_acts, m_i_undone, m_i_laid, m_i_knowns, m_i_time, m_f_text, m_f_tunes, m_f_houses, m_f_hums, m_f_told, m_f_many, m_f_ruleFrom, m_f_ruleTo, m_f_code, m_f_eWhat, m_f_eSign, m_f_all, m_f_kept, m_f_was, m_f_sTune, m_f_boxAll, m_J, m_L, hrX, hrM, hKX, hKM, hPX, hPM, hDX, hDM, hdj, hS, hIX, hWB, hRB, hBB, hIM, htm⟩ hl
set_option maxHeartbeats 4000000 in
set_option maxRecDepth 100000 in
theorem law_31 {p : Program} {e : Env} {s : State} {m : MethodId} {below : List Frame} {meth : Method} {c : Code} (l : Launch) {b L : Nat} {xs : Nat → Int32} (hL : L ≤ 3072) (C0 : lw_At p s m meth c b L xs) (dC : Nat → ClassId) (dI : Nat → Nat → Nat) (adK adV : Nat) (fS : Nat → Int32) (hZ : ZS adK adV fS (fun q : Nat => s.heap.size ≤ q) s s.heap) {aX aM : Nat} {i : Int32} (hi0 : 0 ≤ i.toInt) (hi1 : i.toInt + 6 ≤ (L : Int)) {H : Heap} {locs : List Loc} (hI : LI dC dI s aX aM H locs) {ls : Array Slot} (hl : lv_has ls 4 [(3, .int i), (2, .ref aM), (1, .ref aX), (0, .ref b)]) (kk : ∀ (H1 : Heap) (locs1 : List Loc) (ls1 : Array Slot), LI dC dI s aX aM H1 locs1 → lv_has ls1 4 [(3, .int i), (2, .ref aM), (1, .ref aX), (0, .ref b)] → W p l e room_1 s m #[Value.ref b] below meth c H1 locs1 103 20190 (lw_Z below #[Value.ref b] s) (F0 m 1540 ls1 [])) : W p l e room_1 s m #[Value.ref b] below meth c H locs 103 20190 (lw_Z below #[Value.ref b] s) (F0 m 1073 ls []) := by
  obtain ⟨hx, hb, hr, hml, hown, hts, hX, hbl, hlocks, hgv⟩ := id C0
  have hown : s.vm.findClass RL = some m.cls := hown
  have hG : ∀ w ∈ GW, w.before _ s = true := fun w h => hts w (List.mem_filter.mp h).1
  have hA : ∀ q : Nat, s.heap.size ≤ q → (fun q : Nat => s.heap.size ≤ q) q := fun _ h => h
  have hbA : ¬ (fun q : Nat => s.heap.size ≤ q) b := Nat.not_le.mpr hbl
  obtain ⟨xr, xt, x_i_tapeLength, x_i_time, x_i_lyingCount, x_i_rd_fault, x_i_rd_token, x_i_rd_kind, x_i_sc_count, x_i_sc_at, x_i_A_tunes, x_i_A_houses, x_i_fA_length, x_i_B_tunes, x_i_B_houses, x_i_fB_length, x_i_acts_done, x_i_acts_undone, x_i_kn_count, x_f_boxes, x_f_boxKept, x_f_trial, x_f_offers, x_f_A_noteCounts, x_f_A_notes, x_f_B_noteCounts, x_f_B_notes, x_f_now_where, x_f_now_worn, x_f_ahead_where, x_f_ahead_worn, x_f_acts_rows, x_f_kn_tunes, x_f_kn_noteTimes, x_J, x_L, mr, mt, m_i_taped, m_i_size, m_i_faultKind, m_i_at, m_i_end, m_i_token, m_i_number, m_i_bank, m_i_rb, m_i_codes, m_i_within, m_i_piled, m_i_unitsInRule, m_i_askHouse, m_i_askTune, m_i_acts, m_i_undone, m_i_laid, m_i_knowns, m_i_time, m_f_text, m_f_tunes, m_f_houses, m_f_hums, m_f_told, m_f_many, m_f_ruleFrom, m_f_ruleTo, m_f_code, m_f_eWhat, m_f_eSign, m_f_all, m_f_kept, m_f_was, m_f_sTune, m_f_boxAll, m_J, m_L, hrX, hrM, hKX, hKM, hPX, hPM, hDX, hDM, hdj, hS, hIX, hWB, hRB, hBB, hIM, htm⟩ := hI
  refine lv_aload_n hx hb dL_law_1073 rfl (lv_at hl 2 rfl) ?_
  refine W.eq (g2 := F0 m 1074 ls [.ref (xr 0)]) (by rw [hrX]) ?_
  refine lv_aload_n hx hb dL_law_1074 rfl (lv_at hl 3 rfl) ?_
  refine lv_iload_n hx hb dL_law_1075 rfl (lv_at hl 0 rfl) ?_
  refine lv_iconst (v := 1) hx hb dL_law_1076 (by decide) ?_
  refine lv_iadd hx hb dL_law_1077 ?_
  refine lv_topi (fun x1 ex1 => ?_)
  refine va_sld hx hb hX hbl hbA hS (sidx ex1 hi0 hi1 hL (by decide) (by decide)) dL_law_1078 ?_
  refine lv_topi (fun x2 ex2 => ?_)
  refine va_calli (va_runV (As := [.int x2]) (rest := []) ⟨hx, hb, hml, hown, hG⟩ (kX8_due l dC dI xr xt x_i_tapeLength x_i_time x_i_lyingCount x_i_rd_fault x_i_rd_token x_i_rd_kind x_i_sc_count x_i_sc_at x_i_A_tunes x_i_A_houses x_i_fA_length x_i_B_tunes x_i_B_houses x_i_fB_length x_i_acts_done x_i_acts_undone x_i_kn_count x_f_boxes x_f_boxKept x_f_trial x_f_offers x_f_A_noteCounts x_f_A_notes x_f_B_noteCounts x_f_B_notes x_f_now_where x_f_now_worn x_f_ahead_where x_f_ahead_worn x_f_acts_rows x_f_kn_tunes x_f_kn_noteTimes x_J x_L x2 H.size hIX) (cwV 1 hG (goodV gw1030 gw1031 gw1032 gw129 gw1033) rfl rfl rfl hd_X8_due ⟨(Nat.le_of_ble_eq_true rfl), (Nat.le_of_ble_eq_true rfl)⟩) ⟨fbR, va_recv hKX hPX (ci := 7) (q0 := 0) rfl rfl, pR_in hPX hKX⟩ rfl rfl hl.1 rfl (lv_room (Nat.le_of_ble_eq_true rfl)) dL_law_1079 ⟨(Nat.le_of_ble_eq_true rfl), (Nat.le_of_ble_eq_true rfl)⟩) hS (fun q hq h => absurd hq (Nat.not_lt.mpr h)) (fun q h => hA q (Nat.le_trans hS.1 h)) (fun r_4 u_ t_ H3 locs ht hvm hw hB hz1 hk1 hS => ?_)
  subst hw
  have hPX := wk hPX hk1
  have hPM := wk hPM hk1
  refine lv_pop hx hb dL_law_1082 rfl ?_
  refine lv_aload_n hx hb dL_law_1083 rfl (lv_at hl 1 rfl) ?_
  refine W.eq (g2 := F0 m 1084 ls [.ref (mr 0)]) (by rw [hrM]) ?_
  refine lv_aload_n hx hb dL_law_1084 rfl (lv_at hl 3 rfl) ?_
  refine lv_iload_n hx hb dL_law_1085 rfl (lv_at hl 0 rfl) ?_
  refine lv_iconst (v := 1) hx hb dL_law_1086 (by decide) ?_
  refine lv_iadd hx hb dL_law_1087 ?_
  refine lv_topi (fun x5 ex5 => ?_)
  refine va_sld hx hb hX hbl hbA hS (sidx ex5 hi0 hi1 hL (by decide) (by decide)) dL_law_1088 ?_
  refine lv_topi (fun x6 ex6 => ?_)
  refine va_calli (va_runV (As := [.int x6]) (rest := []) ⟨hx, hb, hml, hown, hG⟩ (kX9_due l dC dI mr mt m_i_taped m_i_size m_i_faultKind m_i_at m_i_end m_i_token m_i_number m_i_bank m_i_rb m_i_codes m_i_within m_i_piled m_i_unitsInRule m_i_askHouse m_i_askTune m_i_acts m_i_undone m_i_laid m_i_knowns m_i_time m_f_text m_f_tunes m_f_houses m_f_hums m_f_told m_f_many m_f_ruleFrom m_f_ruleTo m_f_code m_f_eWhat m_f_eSign m_f_all m_f_kept m_f_was m_f_sTune m_f_boxAll m_J m_L x6 H3.size hIM) (cwV 1 hG (goodV gw1664 gw1665 gw1666 gw138 gw1667) rfl rfl rfl hd_X9_due ⟨(Nat.le_of_ble_eq_true rfl), (Nat.le_of_ble_eq_true rfl)⟩) ⟨fbR, va_recv hKM hPM (ci := 8) (q0 := 0) rfl rfl, pR_in hPM hKM⟩ rfl rfl hl.1 rfl (lv_room (Nat.le_of_ble_eq_true rfl)) dL_law_1089 ⟨(Nat.le_of_ble_eq_true rfl), (Nat.le_of_ble_eq_true rfl)⟩) hS (fun q hq h => absurd hq (Nat.not_lt.mpr h)) (fun q h => hA q (Nat.le_trans hS.1 h)) (fun r_8 u_ t_ H7 locs ht hvm hw hB hz1 hk1 hS => ?_)
  subst hw
  have hPX := wk hPX hk1
  have hPM := wk hPM hk1
  refine lv_pop hx hb dL_law_1092 rfl ?_
  refine lv_goto (tgt := 1540) hx hb dL_law_1093 (by decide) ?_
  exact kk H7 _ _ ⟨xr, xt, x_i_tapeLength, x_i_time, x_i_lyingCount, x_i_rd_fault, x_i_rd_token, x_i_rd_kind, x_i_sc_count, x_i_sc_at, x_i_A_tunes, x_i_A_houses, x_i_fA_length, x_i_B_tunes, x_i_B_houses, x_i_fB_length, x_i_acts_done, x_i_acts_undone, x_i_kn_count, x_f_boxes, x_f_boxKept, x_f_trial, x_f_offers, x_f_A_noteCounts, x_f_A_notes, x_f_B_noteCounts, x_f_B_notes, x_f_now_where, x_f_now_worn, x_f_ahead_where, x_f_ahead_worn, x_f_acts_rows, x_f_kn_tunes, x_f_kn_noteTimes, x_J, x_L, mr, mt, m_i_taped, m_i_size, m_i_faultKind, m_i_at, m_i_end, m_i_token, m_i_number, m_i_bank, m_i_rb, m_i_codes, m_i_within, m_i_piled, m_i_unitsInRule, m_i_askHouse, m_i_askTune, m_i_acts, m_i_undone, m_i_laid, m_i_knowns, m_i_time, m_f_text, m_f_tunes, m_f_houses, m_f_hums, m_f_told, m_f_many, m_f_ruleFrom, m_f_ruleTo, m_f_code, m_f_eWhat, m_f_eSign, m_f_all, m_f_kept, m_f_was, m_f_sTune, m_f_boxAll, m_J, m_L, hrX, hrM, hKX, hKM, hPX, hPM, hDX, hDM, hdj, hS, hIX, hWB, hRB, hBB, hIM, htm⟩ hl
set_option maxHeartbeats 4000000 in
set_option maxRecDepth 100000 in
theorem law_32 {p : Program} {e : Env} {s : State} {m : MethodId} {below : List Frame} {meth : Method} {c : Code} (l : Launch) {b L : Nat} {xs : Nat → Int32} (hL : L ≤ 3072) (C0 : lw_At p s m meth c b L xs) (dC : Nat → ClassId) (dI : Nat → Nat → Nat) (adK adV : Nat) (fS : Nat → Int32) (hZ : ZS adK adV fS (fun q : Nat => s.heap.size ≤ q) s s.heap) {aX aM : Nat} {i : Int32} (hi0 : 0 ≤ i.toInt) (hi1 : i.toInt + 6 ≤ (L : Int)) {H : Heap} {locs : List Loc} (hI : LI dC dI s aX aM H locs) {ls : Array Slot} (hl : lv_has ls 4 [(3, .int i), (2, .ref aM), (1, .ref aX), (0, .ref b)]) (kk : ∀ (H1 : Heap) (locs1 : List Loc) (ls1 : Array Slot), LI dC dI s aX aM H1 locs1 → lv_has ls1 4 [(3, .int i), (2, .ref aM), (1, .ref aX), (0, .ref b)] → W p l e room_1 s m #[Value.ref b] below meth c H1 locs1 103 20190 (lw_Z below #[Value.ref b] s) (F0 m 1540 ls1 [])) : W p l e room_1 s m #[Value.ref b] below meth c H locs 103 20190 (lw_Z below #[Value.ref b] s) (F0 m 1096 ls []) := by
  obtain ⟨hx, hb, hr, hml, hown, hts, hX, hbl, hlocks, hgv⟩ := id C0
  have hown : s.vm.findClass RL = some m.cls := hown
  have hG : ∀ w ∈ GW, w.before _ s = true := fun w h => hts w (List.mem_filter.mp h).1
  have hA : ∀ q : Nat, s.heap.size ≤ q → (fun q : Nat => s.heap.size ≤ q) q := fun _ h => h
  have hbA : ¬ (fun q : Nat => s.heap.size ≤ q) b := Nat.not_le.mpr hbl
  obtain ⟨xr, xt, x_i_tapeLength, x_i_time, x_i_lyingCount, x_i_rd_fault, x_i_rd_token, x_i_rd_kind, x_i_sc_count, x_i_sc_at, x_i_A_tunes, x_i_A_houses, x_i_fA_length, x_i_B_tunes, x_i_B_houses, x_i_fB_length, x_i_acts_done, x_i_acts_undone, x_i_kn_count, x_f_boxes, x_f_boxKept, x_f_trial, x_f_offers, x_f_A_noteCounts, x_f_A_notes, x_f_B_noteCounts, x_f_B_notes, x_f_now_where, x_f_now_worn, x_f_ahead_where, x_f_ahead_worn, x_f_acts_rows, x_f_kn_tunes, x_f_kn_noteTimes, x_J, x_L, mr, mt, m_i_taped, m_i_size, m_i_faultKind, m_i_at, m_i_end, m_i_token, m_i_number, m_i_bank, m_i_rb, m_i_codes, m_i_within, m_i_piled, m_i_unitsInRule, m_i_askHouse, m_i_askTune, m_i_acts, m_i_undone, m_i_laid, m_i_knowns, m_i_time, m_f_text, m_f_tunes, m_f_houses, m_f_hums, m_f_told, m_f_many, m_f_ruleFrom, m_f_ruleTo, m_f_code, m_f_eWhat, m_f_eSign, m_f_all, m_f_kept, m_f_was, m_f_sTune, m_f_boxAll, m_J, m_L, hrX, hrM, hKX, hKM, hPX, hPM, hDX, hDM, hdj, hS, hIX, hWB, hRB, hBB, hIM, htm⟩ := hI
  refine lv_aload_n hx hb dL_law_1096 rfl (lv_at hl 2 rfl) ?_
  refine W.eq (g2 := F0 m 1097 ls [.ref (xr 0)]) (by rw [hrX]) ?_
  refine lv_aload_n hx hb dL_law_1097 rfl (lv_at hl 3 rfl) ?_
  refine lv_iload_n hx hb dL_law_1098 rfl (lv_at hl 0 rfl) ?_
  refine lv_iconst (v := 1) hx hb dL_law_1099 (by decide) ?_
  refine lv_iadd hx hb dL_law_1100 ?_
  refine lv_topi (fun x1 ex1 => ?_)
  refine va_sld hx hb hX hbl hbA hS (sidx ex1 hi0 hi1 hL (by decide) (by decide)) dL_law_1101 ?_
  refine lv_topi (fun x2 ex2 => ?_)
  refine lv_aload_n hx hb dL_law_1102 rfl (lv_at hl 3 rfl) ?_
  refine lv_iload_n hx hb dL_law_1103 rfl (lv_at hl 0 rfl) ?_
  refine lv_iconst (v := 2) hx hb dL_law_1104 (by decide) ?_
  refine lv_iadd hx hb dL_law_1105 ?_
  refine lv_topi (fun x3 ex3 => ?_)
  refine va_sld hx hb hX hbl hbA hS (sidx ex3 hi0 hi1 hL (by decide) (by decide)) dL_law_1106 ?_
  refine lv_topi (fun x4 ex4 => ?_)
  refine va_calli (va_runV (As := [.int x2, .int x4]) (rest := []) ⟨hx, hb, hml, hown, hG⟩ (kX8_along l dC dI xr xt x_i_tapeLength x_i_time x_i_lyingCount x_i_rd_fault x_i_rd_token x_i_rd_kind x_i_sc_count x_i_sc_at x_i_A_tunes x_i_A_houses x_i_fA_length x_i_B_tunes x_i_B_houses x_i_fB_length x_i_acts_done x_i_acts_undone x_i_kn_count x_f_boxes x_f_boxKept x_f_trial x_f_offers x_f_A_noteCounts x_f_A_notes x_f_B_noteCounts x_f_B_notes x_f_now_where x_f_now_worn x_f_ahead_where x_f_ahead_worn x_f_acts_rows x_f_kn_tunes x_f_kn_noteTimes x_J x_L x2 x4 H.size hIX) (cwV 2 hG (goodV gw1034 gw1035 gw1036 gw129 gw1037) rfl rfl rfl hd_X8_along ⟨(Nat.le_of_ble_eq_true rfl), (Nat.le_of_ble_eq_true rfl)⟩) ⟨fbR, va_recv hKX hPX (ci := 7) (q0 := 0) rfl rfl, pR_in hPX hKX⟩ rfl rfl hl.1 rfl (lv_room (Nat.le_of_ble_eq_true rfl)) dL_law_1107 ⟨(Nat.le_of_ble_eq_true rfl), (Nat.le_of_ble_eq_true rfl)⟩) hS (fun q hq h => absurd hq (Nat.not_lt.mpr h)) (fun q h => hA q (Nat.le_trans hS.1 h)) (fun r_6 u_ t_ H5 locs ht hvm hw hB hz1 hk1 hS => ?_)
  subst hw
  have hPX := wk hPX hk1
  have hPM := wk hPM hk1
  refine lv_pop hx hb dL_law_1110 rfl ?_
  refine lv_aload_n hx hb dL_law_1111 rfl (lv_at hl 1 rfl) ?_
  refine W.eq (g2 := F0 m 1112 ls [.ref (mr 0)]) (by rw [hrM]) ?_
  refine lv_aload_n hx hb dL_law_1112 rfl (lv_at hl 3 rfl) ?_
  refine lv_iload_n hx hb dL_law_1113 rfl (lv_at hl 0 rfl) ?_
  refine lv_iconst (v := 1) hx hb dL_law_1114 (by decide) ?_
  refine lv_iadd hx hb dL_law_1115 ?_
  refine lv_topi (fun x7 ex7 => ?_)
  refine va_sld hx hb hX hbl hbA hS (sidx ex7 hi0 hi1 hL (by decide) (by decide)) dL_law_1116 ?_
  refine lv_topi (fun x8 ex8 => ?_)
  refine lv_aload_n hx hb dL_law_1117 rfl (lv_at hl 3 rfl) ?_
  refine lv_iload_n hx hb dL_law_1118 rfl (lv_at hl 0 rfl) ?_
  refine lv_iconst (v := 2) hx hb dL_law_1119 (by decide) ?_
  refine lv_iadd hx hb dL_law_1120 ?_
  refine lv_topi (fun x9 ex9 => ?_)
  refine va_sld hx hb hX hbl hbA hS (sidx ex9 hi0 hi1 hL (by decide) (by decide)) dL_law_1121 ?_
  refine lv_topi (fun x10 ex10 => ?_)
  refine va_calli (va_runV (As := [.int x8, .int x10]) (rest := []) ⟨hx, hb, hml, hown, hG⟩ (kX9_along l dC dI mr mt m_i_taped m_i_size m_i_faultKind m_i_at m_i_end m_i_token m_i_number m_i_bank m_i_rb m_i_codes m_i_within m_i_piled m_i_unitsInRule m_i_askHouse m_i_askTune m_i_acts m_i_undone m_i_laid m_i_knowns m_i_time m_f_text m_f_tunes m_f_houses m_f_hums m_f_told m_f_many m_f_ruleFrom m_f_ruleTo m_f_code m_f_eWhat m_f_eSign m_f_all m_f_kept m_f_was m_f_sTune m_f_boxAll m_J m_L x8 x10 H5.size hIM) (cwV 2 hG (goodV gw1672 gw1673 gw1674 gw138 gw1675) rfl rfl rfl hd_X9_along ⟨(Nat.le_of_ble_eq_true rfl), (Nat.le_of_ble_eq_true rfl)⟩) ⟨fbR, va_recv hKM hPM (ci := 8) (q0 := 0) rfl rfl, pR_in hPM hKM⟩ rfl rfl hl.1 rfl (lv_room (Nat.le_of_ble_eq_true rfl)) dL_law_1122 ⟨(Nat.le_of_ble_eq_true rfl), (Nat.le_of_ble_eq_true rfl)⟩) hS (fun q hq h => absurd hq (Nat.not_lt.mpr h)) (fun q h => hA q (Nat.le_trans hS.1 h)) (fun r_12 u_ t_ H11 locs ht hvm hw hB hz1 hk1 hS => ?_)
  subst hw
  have hPX := wk hPX hk1
  have hPM := wk hPM hk1
  refine lv_pop hx hb dL_law_1125 rfl ?_
  refine lv_goto (tgt := 1540) hx hb dL_law_1126 (by decide) ?_
  exact kk H11 _ _ ⟨xr, xt, x_i_tapeLength, x_i_time, x_i_lyingCount, x_i_rd_fault, x_i_rd_token, x_i_rd_kind, x_i_sc_count, x_i_sc_at, x_i_A_tunes, x_i_A_houses, x_i_fA_length, x_i_B_tunes, x_i_B_houses, x_i_fB_length, x_i_acts_done, x_i_acts_undone, x_i_kn_count, x_f_boxes, x_f_boxKept, x_f_trial, x_f_offers, x_f_A_noteCounts, x_f_A_notes, x_f_B_noteCounts, x_f_B_notes, x_f_now_where, x_f_now_worn, x_f_ahead_where, x_f_ahead_worn, x_f_acts_rows, x_f_kn_tunes, x_f_kn_noteTimes, x_J, x_L, mr, mt, m_i_taped, m_i_size, m_i_faultKind, m_i_at, m_i_end, m_i_token, m_i_number, m_i_bank, m_i_rb, m_i_codes, m_i_within, m_i_piled, m_i_unitsInRule, m_i_askHouse, m_i_askTune, m_i_acts, m_i_undone, m_i_laid, m_i_knowns, m_i_time, m_f_text, m_f_tunes, m_f_houses, m_f_hums, m_f_told, m_f_many, m_f_ruleFrom, m_f_ruleTo, m_f_code, m_f_eWhat, m_f_eSign, m_f_all, m_f_kept, m_f_was, m_f_sTune, m_f_boxAll, m_J, m_L, hrX, hrM, hKX, hKM, hPX, hPM, hDX, hDM, hdj, hS, hIX, hWB, hRB, hBB, hIM, htm⟩ hl
set_option maxHeartbeats 4000000 in
set_option maxRecDepth 100000 in
theorem law_33 {p : Program} {e : Env} {s : State} {m : MethodId} {below : List Frame} {meth : Method} {c : Code} (l : Launch) {b L : Nat} {xs : Nat → Int32} (hL : L ≤ 3072) (C0 : lw_At p s m meth c b L xs) (dC : Nat → ClassId) (dI : Nat → Nat → Nat) (adK adV : Nat) (fS : Nat → Int32) (hZ : ZS adK adV fS (fun q : Nat => s.heap.size ≤ q) s s.heap) {aX aM : Nat} {i : Int32} (hi0 : 0 ≤ i.toInt) (hi1 : i.toInt + 6 ≤ (L : Int)) {H : Heap} {locs : List Loc} (hI : LI dC dI s aX aM H locs) {ls : Array Slot} (hl : lv_has ls 4 [(3, .int i), (2, .ref aM), (1, .ref aX), (0, .ref b)]) (kk : ∀ (H1 : Heap) (locs1 : List Loc) (ls1 : Array Slot), LI dC dI s aX aM H1 locs1 → lv_has ls1 4 [(3, .int i), (2, .ref aM), (1, .ref aX), (0, .ref b)] → W p l e room_1 s m #[Value.ref b] below meth c H1 locs1 103 20190 (lw_Z below #[Value.ref b] s) (F0 m 1540 ls1 [])) : W p l e room_1 s m #[Value.ref b] below meth c H locs 103 20190 (lw_Z below #[Value.ref b] s) (F0 m 1129 ls []) := by
  obtain ⟨hx, hb, hr, hml, hown, hts, hX, hbl, hlocks, hgv⟩ := id C0
  have hown : s.vm.findClass RL = some m.cls := hown
  have hG : ∀ w ∈ GW, w.before _ s = true := fun w h => hts w (List.mem_filter.mp h).1
  have hA : ∀ q : Nat, s.heap.size ≤ q → (fun q : Nat => s.heap.size ≤ q) q := fun _ h => h
  have hbA : ¬ (fun q : Nat => s.heap.size ≤ q) b := Nat.not_le.mpr hbl
  obtain ⟨xr, xt, x_i_tapeLength, x_i_time, x_i_lyingCount, x_i_rd_fault, x_i_rd_token, x_i_rd_kind, x_i_sc_count, x_i_sc_at, x_i_A_tunes, x_i_A_houses, x_i_fA_length, x_i_B_tunes, x_i_B_houses, x_i_fB_length, x_i_acts_done, x_i_acts_undone, x_i_kn_count, x_f_boxes, x_f_boxKept, x_f_trial, x_f_offers, x_f_A_noteCounts, x_f_A_notes, x_f_B_noteCounts, x_f_B_notes, x_f_now_where, x_f_now_worn, x_f_ahead_where, x_f_ahead_worn, x_f_acts_rows, x_f_kn_tunes, x_f_kn_noteTimes, x_J, x_L, mr, mt, m_i_taped, m_i_size, m_i_faultKind, m_i_at, m_i_end, m_i_token, m_i_number, m_i_bank, m_i_rb, m_i_codes, m_i_within, m_i_piled, m_i_unitsInRule, m_i_askHouse, m_i_askTune, m_i_acts, m_i_undone, m_i_laid, m_i_knowns, m_i_time, m_f_text, m_f_tunes, m_f_houses, m_f_hums, m_f_told, m_f_many, m_f_ruleFrom, m_f_ruleTo, m_f_code, m_f_eWhat, m_f_eSign, m_f_all, m_f_kept, m_f_was, m_f_sTune, m_f_boxAll, m_J, m_L, hrX, hrM, hKX, hKM, hPX, hPM, hDX, hDM, hdj, hS, hIX, hWB, hRB, hBB, hIM, htm⟩ := hI
  refine lv_aload_n hx hb dL_law_1129 rfl (lv_at hl 2 rfl) ?_
  refine W.eq (g2 := F0 m 1130 ls [.ref (xr 0)]) (by rw [hrX]) ?_
  refine lv_aload_n hx hb dL_law_1130 rfl (lv_at hl 3 rfl) ?_
  refine lv_iload_n hx hb dL_law_1131 rfl (lv_at hl 0 rfl) ?_
  refine lv_iconst (v := 1) hx hb dL_law_1132 (by decide) ?_
  refine lv_iadd hx hb dL_law_1133 ?_
  refine lv_topi (fun x1 ex1 => ?_)
  refine va_sld hx hb hX hbl hbA hS (sidx ex1 hi0 hi1 hL (by decide) (by decide)) dL_law_1134 ?_
  refine lv_topi (fun x2 ex2 => ?_)
  refine lv_aload_n hx hb dL_law_1135 rfl (lv_at hl 3 rfl) ?_
  refine lv_iload_n hx hb dL_law_1136 rfl (lv_at hl 0 rfl) ?_
  refine lv_iconst (v := 2) hx hb dL_law_1137 (by decide) ?_
  refine lv_iadd hx hb dL_law_1138 ?_
  refine lv_topi (fun x3 ex3 => ?_)
  refine va_sld hx hb hX hbl hbA hS (sidx ex3 hi0 hi1 hL (by decide) (by decide)) dL_law_1139 ?_
  refine lv_topi (fun x4 ex4 => ?_)
  refine va_calli (va_runV (As := [.int x2, .int x4]) (rest := []) ⟨hx, hb, hml, hown, hG⟩ (kX8_alike l dC dI xr xt x_i_tapeLength x_i_time x_i_lyingCount x_i_rd_fault x_i_rd_token x_i_rd_kind x_i_sc_count x_i_sc_at x_i_A_tunes x_i_A_houses x_i_fA_length x_i_B_tunes x_i_B_houses x_i_fB_length x_i_acts_done x_i_acts_undone x_i_kn_count x_f_boxes x_f_boxKept x_f_trial x_f_offers x_f_A_noteCounts x_f_A_notes x_f_B_noteCounts x_f_B_notes x_f_now_where x_f_now_worn x_f_ahead_where x_f_ahead_worn x_f_acts_rows x_f_kn_tunes x_f_kn_noteTimes x_J x_L x2 x4 H.size hIX) (cwV 2 hG (goodV gw1038 gw1039 gw1040 gw129 gw1041) rfl rfl rfl hd_X8_alike ⟨(Nat.le_of_ble_eq_true rfl), (Nat.le_of_ble_eq_true rfl)⟩) ⟨fbR, va_recv hKX hPX (ci := 7) (q0 := 0) rfl rfl, pR_in hPX hKX⟩ rfl rfl hl.1 rfl (lv_room (Nat.le_of_ble_eq_true rfl)) dL_law_1140 ⟨(Nat.le_of_ble_eq_true rfl), (Nat.le_of_ble_eq_true rfl)⟩) hS (fun q hq h => absurd hq (Nat.not_lt.mpr h)) (fun q h => hA q (Nat.le_trans hS.1 h)) (fun r_6 u_ t_ H5 locs ht hvm hw hB hz1 hk1 hS => ?_)
  subst hw
  have hPX := wk hPX hk1
  have hPM := wk hPM hk1
  refine lv_pop hx hb dL_law_1143 rfl ?_
  refine lv_aload_n hx hb dL_law_1144 rfl (lv_at hl 1 rfl) ?_
  refine W.eq (g2 := F0 m 1145 ls [.ref (mr 0)]) (by rw [hrM]) ?_
  refine lv_aload_n hx hb dL_law_1145 rfl (lv_at hl 3 rfl) ?_
  refine lv_iload_n hx hb dL_law_1146 rfl (lv_at hl 0 rfl) ?_
  refine lv_iconst (v := 1) hx hb dL_law_1147 (by decide) ?_
  refine lv_iadd hx hb dL_law_1148 ?_
  refine lv_topi (fun x7 ex7 => ?_)
  refine va_sld hx hb hX hbl hbA hS (sidx ex7 hi0 hi1 hL (by decide) (by decide)) dL_law_1149 ?_
  refine lv_topi (fun x8 ex8 => ?_)
  refine lv_aload_n hx hb dL_law_1150 rfl (lv_at hl 3 rfl) ?_
  refine lv_iload_n hx hb dL_law_1151 rfl (lv_at hl 0 rfl) ?_
  refine lv_iconst (v := 2) hx hb dL_law_1152 (by decide) ?_
  refine lv_iadd hx hb dL_law_1153 ?_
  refine lv_topi (fun x9 ex9 => ?_)
  refine va_sld hx hb hX hbl hbA hS (sidx ex9 hi0 hi1 hL (by decide) (by decide)) dL_law_1154 ?_
  refine lv_topi (fun x10 ex10 => ?_)
  refine va_calli (va_runV (As := [.int x8, .int x10]) (rest := []) ⟨hx, hb, hml, hown, hG⟩ (kX9_alike l dC dI mr mt m_i_taped m_i_size m_i_faultKind m_i_at m_i_end m_i_token m_i_number m_i_bank m_i_rb m_i_codes m_i_within m_i_piled m_i_unitsInRule m_i_askHouse m_i_askTune m_i_acts m_i_undone m_i_laid m_i_knowns m_i_time m_f_text m_f_tunes m_f_houses m_f_hums m_f_told m_f_many m_f_ruleFrom m_f_ruleTo m_f_code m_f_eWhat m_f_eSign m_f_all m_f_kept m_f_was m_f_sTune m_f_boxAll m_J m_L x8 x10 H5.size hIM) (cwV 2 hG (goodV gw1636 gw1637 gw1638 gw138 gw1639) rfl rfl rfl hd_X9_alike ⟨(Nat.le_of_ble_eq_true rfl), (Nat.le_of_ble_eq_true rfl)⟩) ⟨fbR, va_recv hKM hPM (ci := 8) (q0 := 0) rfl rfl, pR_in hPM hKM⟩ rfl rfl hl.1 rfl (lv_room (Nat.le_of_ble_eq_true rfl)) dL_law_1155 ⟨(Nat.le_of_ble_eq_true rfl), (Nat.le_of_ble_eq_true rfl)⟩) hS (fun q hq h => absurd hq (Nat.not_lt.mpr h)) (fun q h => hA q (Nat.le_trans hS.1 h)) (fun r_12 u_ t_ H11 locs ht hvm hw hB hz1 hk1 hS => ?_)
  subst hw
  have hPX := wk hPX hk1
  have hPM := wk hPM hk1
  refine lv_pop hx hb dL_law_1158 rfl ?_
  refine lv_goto (tgt := 1540) hx hb dL_law_1159 (by decide) ?_
  exact kk H11 _ _ ⟨xr, xt, x_i_tapeLength, x_i_time, x_i_lyingCount, x_i_rd_fault, x_i_rd_token, x_i_rd_kind, x_i_sc_count, x_i_sc_at, x_i_A_tunes, x_i_A_houses, x_i_fA_length, x_i_B_tunes, x_i_B_houses, x_i_fB_length, x_i_acts_done, x_i_acts_undone, x_i_kn_count, x_f_boxes, x_f_boxKept, x_f_trial, x_f_offers, x_f_A_noteCounts, x_f_A_notes, x_f_B_noteCounts, x_f_B_notes, x_f_now_where, x_f_now_worn, x_f_ahead_where, x_f_ahead_worn, x_f_acts_rows, x_f_kn_tunes, x_f_kn_noteTimes, x_J, x_L, mr, mt, m_i_taped, m_i_size, m_i_faultKind, m_i_at, m_i_end, m_i_token, m_i_number, m_i_bank, m_i_rb, m_i_codes, m_i_within, m_i_piled, m_i_unitsInRule, m_i_askHouse, m_i_askTune, m_i_acts, m_i_undone, m_i_laid, m_i_knowns, m_i_time, m_f_text, m_f_tunes, m_f_houses, m_f_hums, m_f_told, m_f_many, m_f_ruleFrom, m_f_ruleTo, m_f_code, m_f_eWhat, m_f_eSign, m_f_all, m_f_kept, m_f_was, m_f_sTune, m_f_boxAll, m_J, m_L, hrX, hrM, hKX, hKM, hPX, hPM, hDX, hDM, hdj, hS, hIX, hWB, hRB, hBB, hIM, htm⟩ hl
set_option maxHeartbeats 4000000 in
set_option maxRecDepth 100000 in
theorem law_34 {p : Program} {e : Env} {s : State} {m : MethodId} {below : List Frame} {meth : Method} {c : Code} (l : Launch) {b L : Nat} {xs : Nat → Int32} (hL : L ≤ 3072) (C0 : lw_At p s m meth c b L xs) (dC : Nat → ClassId) (dI : Nat → Nat → Nat) (adK adV : Nat) (fS : Nat → Int32) (hZ : ZS adK adV fS (fun q : Nat => s.heap.size ≤ q) s s.heap) {aX aM : Nat} {i : Int32} (hi0 : 0 ≤ i.toInt) (hi1 : i.toInt + 6 ≤ (L : Int)) {H : Heap} {locs : List Loc} (hI : LI dC dI s aX aM H locs) {ls : Array Slot} (hl : lv_has ls 4 [(3, .int i), (2, .ref aM), (1, .ref aX), (0, .ref b)]) (kk : ∀ (H1 : Heap) (locs1 : List Loc) (ls1 : Array Slot), LI dC dI s aX aM H1 locs1 → lv_has ls1 4 [(3, .int i), (2, .ref aM), (1, .ref aX), (0, .ref b)] → W p l e room_1 s m #[Value.ref b] below meth c H1 locs1 103 20190 (lw_Z below #[Value.ref b] s) (F0 m 1540 ls1 [])) : W p l e room_1 s m #[Value.ref b] below meth c H locs 103 20190 (lw_Z below #[Value.ref b] s) (F0 m 1162 ls []) := by
  obtain ⟨hx, hb, hr, hml, hown, hts, hX, hbl, hlocks, hgv⟩ := id C0
  have hown : s.vm.findClass RL = some m.cls := hown
  have hG : ∀ w ∈ GW, w.before _ s = true := fun w h => hts w (List.mem_filter.mp h).1
  have hA : ∀ q : Nat, s.heap.size ≤ q → (fun q : Nat => s.heap.size ≤ q) q := fun _ h => h
  have hbA : ¬ (fun q : Nat => s.heap.size ≤ q) b := Nat.not_le.mpr hbl
  obtain ⟨xr, xt, x_i_tapeLength, x_i_time, x_i_lyingCount, x_i_rd_fault, x_i_rd_token, x_i_rd_kind, x_i_sc_count, x_i_sc_at, x_i_A_tunes, x_i_A_houses, x_i_fA_length, x_i_B_tunes, x_i_B_houses, x_i_fB_length, x_i_acts_done, x_i_acts_undone, x_i_kn_count, x_f_boxes, x_f_boxKept, x_f_trial, x_f_offers, x_f_A_noteCounts, x_f_A_notes, x_f_B_noteCounts, x_f_B_notes, x_f_now_where, x_f_now_worn, x_f_ahead_where, x_f_ahead_worn, x_f_acts_rows, x_f_kn_tunes, x_f_kn_noteTimes, x_J, x_L, mr, mt, m_i_taped, m_i_size, m_i_faultKind, m_i_at, m_i_end, m_i_token, m_i_number, m_i_bank, m_i_rb, m_i_codes, m_i_within, m_i_piled, m_i_unitsInRule, m_i_askHouse, m_i_askTune, m_i_acts, m_i_undone, m_i_laid, m_i_knowns, m_i_time, m_f_text, m_f_tunes, m_f_houses, m_f_hums, m_f_told, m_f_many, m_f_ruleFrom, m_f_ruleTo, m_f_code, m_f_eWhat, m_f_eSign, m_f_all, m_f_kept, m_f_was, m_f_sTune, m_f_boxAll, m_J, m_L, hrX, hrM, hKX, hKM, hPX, hPM, hDX, hDM, hdj, hS, hIX, hWB, hRB, hBB, hIM, htm⟩ := hI
  refine lv_aload_n hx hb dL_law_1162 rfl (lv_at hl 2 rfl) ?_
  refine W.eq (g2 := F0 m 1163 ls [.ref (xr 0)]) (by rw [hrX]) ?_
  refine lv_aload_n hx hb dL_law_1163 rfl (lv_at hl 3 rfl) ?_
  refine lv_iload_n hx hb dL_law_1164 rfl (lv_at hl 0 rfl) ?_
  refine lv_iconst (v := 1) hx hb dL_law_1165 (by decide) ?_
  refine lv_iadd hx hb dL_law_1166 ?_
  refine lv_topi (fun x1 ex1 => ?_)
  refine va_sld hx hb hX hbl hbA hS (sidx ex1 hi0 hi1 hL (by decide) (by decide)) dL_law_1167 ?_
  refine lv_topi (fun x2 ex2 => ?_)
  refine lv_aload_n hx hb dL_law_1168 rfl (lv_at hl 3 rfl) ?_
  refine lv_iload_n hx hb dL_law_1169 rfl (lv_at hl 0 rfl) ?_
  refine lv_iconst (v := 2) hx hb dL_law_1170 (by decide) ?_
  refine lv_iadd hx hb dL_law_1171 ?_
  refine lv_topi (fun x3 ex3 => ?_)
  refine va_sld hx hb hX hbl hbA hS (sidx ex3 hi0 hi1 hL (by decide) (by decide)) dL_law_1172 ?_
  refine lv_topi (fun x4 ex4 => ?_)
  have hFc := frA hDX hS hA
  refine va_calli (va_runV (As := [.int x2, .int x4]) (rest := []) ⟨hx, hb, hml, hown, hG⟩ (kX8_law l dC dI xr xt x_i_tapeLength x_i_time x_i_lyingCount x_i_rd_fault x_i_rd_token x_i_rd_kind x_i_sc_count x_i_sc_at x_i_A_tunes x_i_A_houses x_i_fA_length x_i_B_tunes x_i_B_houses x_i_fB_length x_i_acts_done x_i_acts_undone x_i_kn_count x_f_boxes x_f_boxKept x_f_trial x_f_offers x_f_A_noteCounts x_f_A_notes x_f_B_noteCounts x_f_B_notes x_f_now_where x_f_now_worn x_f_ahead_where x_f_ahead_worn x_f_acts_rows x_f_kn_tunes x_f_kn_noteTimes x_J x_L x2 x4 H.size hIX) (cwV 2 hG (goodV gw873 gw874 gw875 gw129 gw876) rfl rfl rfl hd_X8_law ⟨(Nat.le_of_ble_eq_true rfl), (Nat.le_of_ble_eq_true rfl)⟩) ⟨fbW, va_recv hKX hPX (ci := 7) (q0 := 0) rfl rfl, pW_in hPX hKX hDX⟩ rfl rfl hl.1 rfl (lv_room (Nat.le_of_ble_eq_true rfl)) dL_law_1173 ⟨(Nat.le_of_ble_eq_true rfl), (Nat.le_of_ble_eq_true rfl)⟩) hS (fun q _ h => hFc q h) hFc (fun r_6 u_ t_ H5 locs ht hvm hw hB hz1 hk1 hS => ?_)
  subst hw
  obtain ⟨n7, hP1, hD1, hIX⟩ := hB
  rw [ht] at hP1
  obtain ⟨hPM, hdj⟩ := mvO hPM hdj (fun k q hk => hD1.2 k q hk) hk1
  have hPX := hP1
  have hDX := dW hFc hD1
  refine lv_pop hx hb dL_law_1176 rfl ?_
  refine lv_aload_n hx hb dL_law_1177 rfl (lv_at hl 1 rfl) ?_
  refine W.eq (g2 := F0 m 1178 ls [.ref (mr 0)]) (by rw [hrM]) ?_
  refine lv_aload_n hx hb dL_law_1178 rfl (lv_at hl 3 rfl) ?_
  refine lv_iload_n hx hb dL_law_1179 rfl (lv_at hl 0 rfl) ?_
  refine lv_iconst (v := 1) hx hb dL_law_1180 (by decide) ?_
  refine lv_iadd hx hb dL_law_1181 ?_
  refine lv_topi (fun x8 ex8 => ?_)
  refine va_sld hx hb hX hbl hbA hS (sidx ex8 hi0 hi1 hL (by decide) (by decide)) dL_law_1182 ?_
  refine lv_topi (fun x9 ex9 => ?_)
  refine lv_aload_n hx hb dL_law_1183 rfl (lv_at hl 3 rfl) ?_
  refine lv_iload_n hx hb dL_law_1184 rfl (lv_at hl 0 rfl) ?_
  refine lv_iconst (v := 2) hx hb dL_law_1185 (by decide) ?_
  refine lv_iadd hx hb dL_law_1186 ?_
  refine lv_topi (fun x10 ex10 => ?_)
  refine va_sld hx hb hX hbl hbA hS (sidx ex10 hi0 hi1 hL (by decide) (by decide)) dL_law_1187 ?_
  refine lv_topi (fun x11 ex11 => ?_)
  have hFc := frA hDM hS hA
  refine va_calli (va_runV (As := [.int x9, .int x11]) (rest := []) ⟨hx, hb, hml, hown, hG⟩ (kX9_law l dC dI mr mt m_i_taped m_i_size m_i_faultKind m_i_at m_i_end m_i_token m_i_number m_i_bank m_i_rb m_i_codes m_i_within m_i_piled m_i_unitsInRule m_i_askHouse m_i_askTune m_i_acts m_i_undone m_i_laid m_i_knowns m_i_time m_f_text m_f_tunes m_f_houses m_f_hums m_f_told m_f_many m_f_ruleFrom m_f_ruleTo m_f_code m_f_eWhat m_f_eSign m_f_all m_f_kept m_f_was m_f_sTune m_f_boxAll m_J m_L x9 x11 H5.size hIM) (cwV 2 hG (goodV gw1614 gw1615 gw1616 gw138 gw1617) rfl rfl rfl hd_X9_law ⟨(Nat.le_of_ble_eq_true rfl), (Nat.le_of_ble_eq_true rfl)⟩) ⟨fbW, va_recv hKM hPM (ci := 8) (q0 := 0) rfl rfl, pW_in hPM hKM hDM⟩ rfl rfl hl.1 rfl (lv_room (Nat.le_of_ble_eq_true rfl)) dL_law_1188 ⟨(Nat.le_of_ble_eq_true rfl), (Nat.le_of_ble_eq_true rfl)⟩) hS (fun q _ h => hFc q h) hFc (fun r_13 u_ t_ H12 locs ht hvm hw hB hz1 hk1 hS => ?_)
  subst hw
  obtain ⟨n14, n15, n16, n17, hP1, hD1, hIM⟩ := hB
  rw [ht] at hP1
  obtain ⟨hPX, hdj⟩ := mvO hPX (dj_sym hdj) (fun k q hk => hD1.2 k q hk) hk1
  have hdj := dj_sym hdj
  have hPM := hP1
  have hDM := dW hFc hD1
  refine lv_pop hx hb dL_law_1191 rfl ?_
  refine lv_goto (tgt := 1540) hx hb dL_law_1192 (by decide) ?_
  exact kk H12 _ _ ⟨xr, xt, x_i_tapeLength, x_i_time, x_i_lyingCount, x_i_rd_fault, x_i_rd_token, x_i_rd_kind, x_i_sc_count, x_i_sc_at, x_i_A_tunes, x_i_A_houses, x_i_fA_length, x_i_B_tunes, x_i_B_houses, x_i_fB_length, x_i_acts_done, x_i_acts_undone, x_i_kn_count, x_f_boxes, x_f_boxKept, x_f_trial, x_f_offers, x_f_A_noteCounts, x_f_A_notes, x_f_B_noteCounts, x_f_B_notes, x_f_now_where, x_f_now_worn, x_f_ahead_where, x_f_ahead_worn, x_f_acts_rows, x_f_kn_tunes, x_f_kn_noteTimes, n7, x_L, mr, mt, m_i_taped, m_i_size, m_i_faultKind, m_i_at, m_i_end, m_i_token, m_i_number, m_i_bank, m_i_rb, m_i_codes, m_i_within, m_i_piled, m_i_unitsInRule, n14, n15, m_i_acts, m_i_undone, m_i_laid, m_i_knowns, m_i_time, m_f_text, m_f_tunes, m_f_houses, m_f_hums, m_f_told, m_f_many, m_f_ruleFrom, m_f_ruleTo, m_f_code, m_f_eWhat, m_f_eSign, n16, m_f_kept, m_f_was, m_f_sTune, m_f_boxAll, n17, m_L, hrX, hrM, hKX, hKM, hPX, hPM, hDX, hDM, hdj, hS, hIX, hWB, hRB, hBB, hIM, htm⟩ hl
set_option maxHeartbeats 4000000 in
set_option maxRecDepth 100000 in
theorem law_35 {p : Program} {e : Env} {s : State} {m : MethodId} {below : List Frame} {meth : Method} {c : Code} (l : Launch) {b L : Nat} {xs : Nat → Int32} (hL : L ≤ 3072) (C0 : lw_At p s m meth c b L xs) (dC : Nat → ClassId) (dI : Nat → Nat → Nat) (adK adV : Nat) (fS : Nat → Int32) (hZ : ZS adK adV fS (fun q : Nat => s.heap.size ≤ q) s s.heap) {aX aM : Nat} {i : Int32} (hi0 : 0 ≤ i.toInt) (hi1 : i.toInt + 6 ≤ (L : Int)) {H : Heap} {locs : List Loc} (hI : LI dC dI s aX aM H locs) {ls : Array Slot} (hl : lv_has ls 4 [(3, .int i), (2, .ref aM), (1, .ref aX), (0, .ref b)]) (kk : ∀ (H1 : Heap) (locs1 : List Loc) (ls1 : Array Slot), LI dC dI s aX aM H1 locs1 → lv_has ls1 4 [(3, .int i), (2, .ref aM), (1, .ref aX), (0, .ref b)] → W p l e room_1 s m #[Value.ref b] below meth c H1 locs1 103 20190 (lw_Z below #[Value.ref b] s) (F0 m 1540 ls1 [])) : W p l e room_1 s m #[Value.ref b] below meth c H locs 103 20190 (lw_Z below #[Value.ref b] s) (F0 m 1195 ls []) := by
  obtain ⟨hx, hb, hr, hml, hown, hts, hX, hbl, hlocks, hgv⟩ := id C0
  have hown : s.vm.findClass RL = some m.cls := hown
  have hG : ∀ w ∈ GW, w.before _ s = true := fun w h => hts w (List.mem_filter.mp h).1
  have hA : ∀ q : Nat, s.heap.size ≤ q → (fun q : Nat => s.heap.size ≤ q) q := fun _ h => h
  have hbA : ¬ (fun q : Nat => s.heap.size ≤ q) b := Nat.not_le.mpr hbl
  obtain ⟨xr, xt, x_i_tapeLength, x_i_time, x_i_lyingCount, x_i_rd_fault, x_i_rd_token, x_i_rd_kind, x_i_sc_count, x_i_sc_at, x_i_A_tunes, x_i_A_houses, x_i_fA_length, x_i_B_tunes, x_i_B_houses, x_i_fB_length, x_i_acts_done, x_i_acts_undone, x_i_kn_count, x_f_boxes, x_f_boxKept, x_f_trial, x_f_offers, x_f_A_noteCounts, x_f_A_notes, x_f_B_noteCounts, x_f_B_notes, x_f_now_where, x_f_now_worn, x_f_ahead_where, x_f_ahead_worn, x_f_acts_rows, x_f_kn_tunes, x_f_kn_noteTimes, x_J, x_L, mr, mt, m_i_taped, m_i_size, m_i_faultKind, m_i_at, m_i_end, m_i_token, m_i_number, m_i_bank, m_i_rb, m_i_codes, m_i_within, m_i_piled, m_i_unitsInRule, m_i_askHouse, m_i_askTune, m_i_acts, m_i_undone, m_i_laid, m_i_knowns, m_i_time, m_f_text, m_f_tunes, m_f_houses, m_f_hums, m_f_told, m_f_many, m_f_ruleFrom, m_f_ruleTo, m_f_code, m_f_eWhat, m_f_eSign, m_f_all, m_f_kept, m_f_was, m_f_sTune, m_f_boxAll, m_J, m_L, hrX, hrM, hKX, hKM, hPX, hPM, hDX, hDM, hdj, hS, hIX, hWB, hRB, hBB, hIM, htm⟩ := hI
  refine lv_aload_n hx hb dL_law_1195 rfl (lv_at hl 2 rfl) ?_
  refine W.eq (g2 := F0 m 1196 ls [.ref (xr 0)]) (by rw [hrX]) ?_
  have hFc := frA hDX hS hA
  refine va_calli (va_runV (As := []) (rest := []) ⟨hx, hb, hml, hown, hG⟩ (kX8_favourite l dC dI xr xt x_i_tapeLength x_i_time x_i_lyingCount x_i_rd_fault x_i_rd_token x_i_rd_kind x_i_sc_count x_i_sc_at x_i_A_tunes x_i_A_houses x_i_fA_length x_i_B_tunes x_i_B_houses x_i_fB_length x_i_acts_done x_i_acts_undone x_i_kn_count x_f_boxes x_f_boxKept x_f_trial x_f_offers x_f_A_noteCounts x_f_A_notes x_f_B_noteCounts x_f_B_notes x_f_now_where x_f_now_worn x_f_ahead_where x_f_ahead_worn x_f_acts_rows x_f_kn_tunes x_f_kn_noteTimes x_J x_L H.size hIX) (cwV 0 hG (goodV gw887 gw888 gw889 gw129 gw890) rfl rfl rfl hd_X8_favourite ⟨(Nat.le_of_ble_eq_true rfl), (Nat.le_of_ble_eq_true rfl)⟩) ⟨fbW, va_recv hKX hPX (ci := 7) (q0 := 0) rfl rfl, pW_in hPX hKX hDX⟩ rfl rfl hl.1 rfl (lv_room (Nat.le_of_ble_eq_true rfl)) dL_law_1196 ⟨(Nat.le_of_ble_eq_true rfl), (Nat.le_of_ble_eq_true rfl)⟩) hS (fun q _ h => hFc q h) hFc (fun r_2 u_ t_ H1 locs ht hvm hw hB hz1 hk1 hS => ?_)
  subst hw
  obtain ⟨n3, hP1, hD1, hIX⟩ := hB
  rw [ht] at hP1
  obtain ⟨hPM, hdj⟩ := mvO hPM hdj (fun k q hk => hD1.2 k q hk) hk1
  have hPX := hP1
  have hDX := dW hFc hD1
  refine lv_pop hx hb dL_law_1199 rfl ?_
  refine lv_aload_n hx hb dL_law_1200 rfl (lv_at hl 1 rfl) ?_
  refine W.eq (g2 := F0 m 1201 ls [.ref (mr 0)]) (by rw [hrM]) ?_
  have hFc := frA hDM hS hA
  refine va_calli (va_runV (As := []) (rest := []) ⟨hx, hb, hml, hown, hG⟩ (kX9_favourite l dC dI mr mt m_i_taped m_i_size m_i_faultKind m_i_at m_i_end m_i_token m_i_number m_i_bank m_i_rb m_i_codes m_i_within m_i_piled m_i_unitsInRule m_i_askHouse m_i_askTune m_i_acts m_i_undone m_i_laid m_i_knowns m_i_time m_f_text m_f_tunes m_f_houses m_f_hums m_f_told m_f_many m_f_ruleFrom m_f_ruleTo m_f_code m_f_eWhat m_f_eSign m_f_all m_f_kept m_f_was m_f_sTune m_f_boxAll m_J m_L H1.size hIM) (cwV 0 hG (goodV gw1648 gw1649 gw1650 gw138 gw1651) rfl rfl rfl hd_X9_favourite ⟨(Nat.le_of_ble_eq_true rfl), (Nat.le_of_ble_eq_true rfl)⟩) ⟨fbW, va_recv hKM hPM (ci := 8) (q0 := 0) rfl rfl, pW_in hPM hKM hDM⟩ rfl rfl hl.1 rfl (lv_room (Nat.le_of_ble_eq_true rfl)) dL_law_1201 ⟨(Nat.le_of_ble_eq_true rfl), (Nat.le_of_ble_eq_true rfl)⟩) hS (fun q _ h => hFc q h) hFc (fun r_5 u_ t_ H4 locs ht hvm hw hB hz1 hk1 hS => ?_)
  subst hw
  obtain ⟨n6, n7, n8, hP1, hD1, hIM⟩ := hB
  rw [ht] at hP1
  obtain ⟨hPX, hdj⟩ := mvO hPX (dj_sym hdj) (fun k q hk => hD1.2 k q hk) hk1
  have hdj := dj_sym hdj
  have hPM := hP1
  have hDM := dW hFc hD1
  refine lv_pop hx hb dL_law_1204 rfl ?_
  refine lv_goto (tgt := 1540) hx hb dL_law_1205 (by decide) ?_
  exact kk H4 _ _ ⟨xr, xt, x_i_tapeLength, x_i_time, x_i_lyingCount, x_i_rd_fault, x_i_rd_token, x_i_rd_kind, x_i_sc_count, x_i_sc_at, x_i_A_tunes, x_i_A_houses, x_i_fA_length, x_i_B_tunes, x_i_B_houses, x_i_fB_length, x_i_acts_done, x_i_acts_undone, x_i_kn_count, x_f_boxes, x_f_boxKept, x_f_trial, x_f_offers, x_f_A_noteCounts, x_f_A_notes, x_f_B_noteCounts, x_f_B_notes, x_f_now_where, x_f_now_worn, x_f_ahead_where, x_f_ahead_worn, x_f_acts_rows, x_f_kn_tunes, x_f_kn_noteTimes, n3, x_L, mr, mt, m_i_taped, m_i_size, m_i_faultKind, m_i_at, m_i_end, m_i_token, m_i_number, m_i_bank, m_i_rb, m_i_codes, m_i_within, m_i_piled, m_i_unitsInRule, n6, n7, m_i_acts, m_i_undone, m_i_laid, m_i_knowns, m_i_time, m_f_text, m_f_tunes, m_f_houses, m_f_hums, m_f_told, m_f_many, m_f_ruleFrom, m_f_ruleTo, m_f_code, m_f_eWhat, m_f_eSign, m_f_all, m_f_kept, m_f_was, m_f_sTune, m_f_boxAll, n8, m_L, hrX, hrM, hKX, hKM, hPX, hPM, hDX, hDM, hdj, hS, hIX, hWB, hRB, hBB, hIM, htm⟩ hl
set_option maxHeartbeats 4000000 in
set_option maxRecDepth 100000 in
theorem law_36 {p : Program} {e : Env} {s : State} {m : MethodId} {below : List Frame} {meth : Method} {c : Code} (l : Launch) {b L : Nat} {xs : Nat → Int32} (hL : L ≤ 3072) (C0 : lw_At p s m meth c b L xs) (dC : Nat → ClassId) (dI : Nat → Nat → Nat) (adK adV : Nat) (fS : Nat → Int32) (hZ : ZS adK adV fS (fun q : Nat => s.heap.size ≤ q) s s.heap) {aX aM : Nat} {i : Int32} (hi0 : 0 ≤ i.toInt) (hi1 : i.toInt + 6 ≤ (L : Int)) {H : Heap} {locs : List Loc} (hI : LI dC dI s aX aM H locs) {ls : Array Slot} (hl : lv_has ls 4 [(3, .int i), (2, .ref aM), (1, .ref aX), (0, .ref b)]) (kk : ∀ (H1 : Heap) (locs1 : List Loc) (ls1 : Array Slot), LI dC dI s aX aM H1 locs1 → lv_has ls1 4 [(3, .int i), (2, .ref aM), (1, .ref aX), (0, .ref b)] → W p l e room_1 s m #[Value.ref b] below meth c H1 locs1 103 20190 (lw_Z below #[Value.ref b] s) (F0 m 1540 ls1 [])) : W p l e room_1 s m #[Value.ref b] below meth c H locs 103 20190 (lw_Z below #[Value.ref b] s) (F0 m 1208 ls []) := by
  obtain ⟨hx, hb, hr, hml, hown, hts, hX, hbl, hlocks, hgv⟩ := id C0
  have hown : s.vm.findClass RL = some m.cls := hown
  have hG : ∀ w ∈ GW, w.before _ s = true := fun w h => hts w (List.mem_filter.mp h).1
  have hA : ∀ q : Nat, s.heap.size ≤ q → (fun q : Nat => s.heap.size ≤ q) q := fun _ h => h
  have hbA : ¬ (fun q : Nat => s.heap.size ≤ q) b := Nat.not_le.mpr hbl
  obtain ⟨xr, xt, x_i_tapeLength, x_i_time, x_i_lyingCount, x_i_rd_fault, x_i_rd_token, x_i_rd_kind, x_i_sc_count, x_i_sc_at, x_i_A_tunes, x_i_A_houses, x_i_fA_length, x_i_B_tunes, x_i_B_houses, x_i_fB_length, x_i_acts_done, x_i_acts_undone, x_i_kn_count, x_f_boxes, x_f_boxKept, x_f_trial, x_f_offers, x_f_A_noteCounts, x_f_A_notes, x_f_B_noteCounts, x_f_B_notes, x_f_now_where, x_f_now_worn, x_f_ahead_where, x_f_ahead_worn, x_f_acts_rows, x_f_kn_tunes, x_f_kn_noteTimes, x_J, x_L, mr, mt, m_i_taped, m_i_size, m_i_faultKind, m_i_at, m_i_end, m_i_token, m_i_number, m_i_bank, m_i_rb, m_i_codes, m_i_within, m_i_piled, m_i_unitsInRule, m_i_askHouse, m_i_askTune, m_i_acts, m_i_undone, m_i_laid, m_i_knowns, m_i_time, m_f_text, m_f_tunes, m_f_houses, m_f_hums, m_f_told, m_f_many, m_f_ruleFrom, m_f_ruleTo, m_f_code, m_f_eWhat, m_f_eSign, m_f_all, m_f_kept, m_f_was, m_f_sTune, m_f_boxAll, m_J, m_L, hrX, hrM, hKX, hKM, hPX, hPM, hDX, hDM, hdj, hS, hIX, hWB, hRB, hBB, hIM, htm⟩ := hI
  refine lv_aload_n hx hb dL_law_1208 rfl (lv_at hl 2 rfl) ?_
  refine W.eq (g2 := F0 m 1209 ls [.ref (xr 0)]) (by rw [hrX]) ?_
  refine va_calli (va_runV (As := []) (rest := []) ⟨hx, hb, hml, hown, hG⟩ (kX8_earned l dC dI xr xt x_i_tapeLength x_i_time x_i_lyingCount x_i_rd_fault x_i_rd_token x_i_rd_kind x_i_sc_count x_i_sc_at x_i_A_tunes x_i_A_houses x_i_fA_length x_i_B_tunes x_i_B_houses x_i_fB_length x_i_acts_done x_i_acts_undone x_i_kn_count x_f_boxes x_f_boxKept x_f_trial x_f_offers x_f_A_noteCounts x_f_A_notes x_f_B_noteCounts x_f_B_notes x_f_now_where x_f_now_worn x_f_ahead_where x_f_ahead_worn x_f_acts_rows x_f_kn_tunes x_f_kn_noteTimes x_J x_L H.size hIX) (cwV 0 hG (goodV gw989 gw990 gw991 gw129 gw992) rfl rfl rfl hd_X8_earned ⟨(Nat.le_of_ble_eq_true rfl), (Nat.le_of_ble_eq_true rfl)⟩) ⟨fbR, va_recv hKX hPX (ci := 7) (q0 := 0) rfl rfl, pR_in hPX hKX⟩ rfl rfl hl.1 rfl (lv_room (Nat.le_of_ble_eq_true rfl)) dL_law_1209 ⟨(Nat.le_of_ble_eq_true rfl), (Nat.le_of_ble_eq_true rfl)⟩) hS (fun q hq h => absurd hq (Nat.not_lt.mpr h)) (fun q h => hA q (Nat.le_trans hS.1 h)) (fun r_2 u_ t_ H1 locs ht hvm hw hB hz1 hk1 hS => ?_)
  subst hw
  have hPX := wk hPX hk1
  have hPM := wk hPM hk1
  refine lv_pop hx hb dL_law_1212 rfl ?_
  refine lv_aload_n hx hb dL_law_1213 rfl (lv_at hl 1 rfl) ?_
  refine W.eq (g2 := F0 m 1214 ls [.ref (mr 0)]) (by rw [hrM]) ?_
  refine va_calli (va_runV (As := []) (rest := []) ⟨hx, hb, hml, hown, hG⟩ (kX9_earned l dC dI mr mt m_i_taped m_i_size m_i_faultKind m_i_at m_i_end m_i_token m_i_number m_i_bank m_i_rb m_i_codes m_i_within m_i_piled m_i_unitsInRule m_i_askHouse m_i_askTune m_i_acts m_i_undone m_i_laid m_i_knowns m_i_time m_f_text m_f_tunes m_f_houses m_f_hums m_f_told m_f_many m_f_ruleFrom m_f_ruleTo m_f_code m_f_eWhat m_f_eSign m_f_all m_f_kept m_f_was m_f_sTune m_f_boxAll m_J m_L H1.size hIM) (cwV 0 hG (goodV gw1676 gw1677 gw1678 gw138 gw1679) rfl rfl rfl hd_X9_earned ⟨(Nat.le_of_ble_eq_true rfl), (Nat.le_of_ble_eq_true rfl)⟩) ⟨fbR, va_recv hKM hPM (ci := 8) (q0 := 0) rfl rfl, pR_in hPM hKM⟩ rfl rfl hl.1 rfl (lv_room (Nat.le_of_ble_eq_true rfl)) dL_law_1214 ⟨(Nat.le_of_ble_eq_true rfl), (Nat.le_of_ble_eq_true rfl)⟩) hS (fun q hq h => absurd hq (Nat.not_lt.mpr h)) (fun q h => hA q (Nat.le_trans hS.1 h)) (fun r_4 u_ t_ H3 locs ht hvm hw hB hz1 hk1 hS => ?_)
  subst hw
  have hPX := wk hPX hk1
  have hPM := wk hPM hk1
  refine lv_pop hx hb dL_law_1217 rfl ?_
  refine lv_goto (tgt := 1540) hx hb dL_law_1218 (by decide) ?_
  exact kk H3 _ _ ⟨xr, xt, x_i_tapeLength, x_i_time, x_i_lyingCount, x_i_rd_fault, x_i_rd_token, x_i_rd_kind, x_i_sc_count, x_i_sc_at, x_i_A_tunes, x_i_A_houses, x_i_fA_length, x_i_B_tunes, x_i_B_houses, x_i_fB_length, x_i_acts_done, x_i_acts_undone, x_i_kn_count, x_f_boxes, x_f_boxKept, x_f_trial, x_f_offers, x_f_A_noteCounts, x_f_A_notes, x_f_B_noteCounts, x_f_B_notes, x_f_now_where, x_f_now_worn, x_f_ahead_where, x_f_ahead_worn, x_f_acts_rows, x_f_kn_tunes, x_f_kn_noteTimes, x_J, x_L, mr, mt, m_i_taped, m_i_size, m_i_faultKind, m_i_at, m_i_end, m_i_token, m_i_number, m_i_bank, m_i_rb, m_i_codes, m_i_within, m_i_piled, m_i_unitsInRule, m_i_askHouse, m_i_askTune, m_i_acts, m_i_undone, m_i_laid, m_i_knowns, m_i_time, m_f_text, m_f_tunes, m_f_houses, m_f_hums, m_f_told, m_f_many, m_f_ruleFrom, m_f_ruleTo, m_f_code, m_f_eWhat, m_f_eSign, m_f_all, m_f_kept, m_f_was, m_f_sTune, m_f_boxAll, m_J, m_L, hrX, hrM, hKX, hKM, hPX, hPM, hDX, hDM, hdj, hS, hIX, hWB, hRB, hBB, hIM, htm⟩ hl
set_option maxHeartbeats 4000000 in
set_option maxRecDepth 100000 in
theorem law_37 {p : Program} {e : Env} {s : State} {m : MethodId} {below : List Frame} {meth : Method} {c : Code} (l : Launch) {b L : Nat} {xs : Nat → Int32} (hL : L ≤ 3072) (C0 : lw_At p s m meth c b L xs) (dC : Nat → ClassId) (dI : Nat → Nat → Nat) (adK adV : Nat) (fS : Nat → Int32) (hZ : ZS adK adV fS (fun q : Nat => s.heap.size ≤ q) s s.heap) {aX aM : Nat} {i : Int32} (hi0 : 0 ≤ i.toInt) (hi1 : i.toInt + 6 ≤ (L : Int)) {H : Heap} {locs : List Loc} (hI : LI dC dI s aX aM H locs) {ls : Array Slot} (hl : lv_has ls 4 [(3, .int i), (2, .ref aM), (1, .ref aX), (0, .ref b)]) (kk : ∀ (H1 : Heap) (locs1 : List Loc) (ls1 : Array Slot), LI dC dI s aX aM H1 locs1 → lv_has ls1 4 [(3, .int i), (2, .ref aM), (1, .ref aX), (0, .ref b)] → W p l e room_1 s m #[Value.ref b] below meth c H1 locs1 103 20190 (lw_Z below #[Value.ref b] s) (F0 m 1540 ls1 [])) : W p l e room_1 s m #[Value.ref b] below meth c H locs 103 20190 (lw_Z below #[Value.ref b] s) (F0 m 1221 ls []) := by
  obtain ⟨hx, hb, hr, hml, hown, hts, hX, hbl, hlocks, hgv⟩ := id C0
  have hown : s.vm.findClass RL = some m.cls := hown
  have hG : ∀ w ∈ GW, w.before _ s = true := fun w h => hts w (List.mem_filter.mp h).1
  have hA : ∀ q : Nat, s.heap.size ≤ q → (fun q : Nat => s.heap.size ≤ q) q := fun _ h => h
  have hbA : ¬ (fun q : Nat => s.heap.size ≤ q) b := Nat.not_le.mpr hbl
  obtain ⟨xr, xt, x_i_tapeLength, x_i_time, x_i_lyingCount, x_i_rd_fault, x_i_rd_token, x_i_rd_kind, x_i_sc_count, x_i_sc_at, x_i_A_tunes, x_i_A_houses, x_i_fA_length, x_i_B_tunes, x_i_B_houses, x_i_fB_length, x_i_acts_done, x_i_acts_undone, x_i_kn_count, x_f_boxes, x_f_boxKept, x_f_trial, x_f_offers, x_f_A_noteCounts, x_f_A_notes, x_f_B_noteCounts, x_f_B_notes, x_f_now_where, x_f_now_worn, x_f_ahead_where, x_f_ahead_worn, x_f_acts_rows, x_f_kn_tunes, x_f_kn_noteTimes, x_J, x_L, mr, mt, m_i_taped, m_i_size, m_i_faultKind, m_i_at, m_i_end, m_i_token, m_i_number, m_i_bank, m_i_rb, m_i_codes, m_i_within, m_i_piled, m_i_unitsInRule, m_i_askHouse, m_i_askTune, m_i_acts, m_i_undone, m_i_laid, m_i_knowns, m_i_time, m_f_text, m_f_tunes, m_f_houses, m_f_hums, m_f_told, m_f_many, m_f_ruleFrom, m_f_ruleTo, m_f_code, m_f_eWhat, m_f_eSign, m_f_all, m_f_kept, m_f_was, m_f_sTune, m_f_boxAll, m_J, m_L, hrX, hrM, hKX, hKM, hPX, hPM, hDX, hDM, hdj, hS, hIX, hWB, hRB, hBB, hIM, htm⟩ := hI
  refine lv_aload_n hx hb dL_law_1221 rfl (lv_at hl 2 rfl) ?_
  refine W.eq (g2 := F0 m 1222 ls [.ref (xr 0)]) (by rw [hrX]) ?_
  refine lv_aload_n hx hb dL_law_1222 rfl (lv_at hl 3 rfl) ?_
  refine lv_iload_n hx hb dL_law_1223 rfl (lv_at hl 0 rfl) ?_
  refine lv_iconst (v := 1) hx hb dL_law_1224 (by decide) ?_
  refine lv_iadd hx hb dL_law_1225 ?_
  refine lv_topi (fun x1 ex1 => ?_)
  refine va_sld hx hb hX hbl hbA hS (sidx ex1 hi0 hi1 hL (by decide) (by decide)) dL_law_1226 ?_
  refine lv_topi (fun x2 ex2 => ?_)
  refine lv_aload_n hx hb dL_law_1227 rfl (lv_at hl 3 rfl) ?_
  refine lv_iload_n hx hb dL_law_1228 rfl (lv_at hl 0 rfl) ?_
  refine lv_iconst (v := 2) hx hb dL_law_1229 (by decide) ?_
  refine lv_iadd hx hb dL_law_1230 ?_
  refine lv_topi (fun x3 ex3 => ?_)
  refine va_sld hx hb hX hbl hbA hS (sidx ex3 hi0 hi1 hL (by decide) (by decide)) dL_law_1231 ?_
  refine lv_topi (fun x4 ex4 => ?_)
  refine va_calli (va_runV (As := [.int x2, .int x4]) (rest := []) ⟨hx, hb, hml, hown, hG⟩ (kX8_odds l dC dI xr xt x_i_tapeLength x_i_time x_i_lyingCount x_i_rd_fault x_i_rd_token x_i_rd_kind x_i_sc_count x_i_sc_at x_i_A_tunes x_i_A_houses x_i_fA_length x_i_B_tunes x_i_B_houses x_i_fB_length x_i_acts_done x_i_acts_undone x_i_kn_count x_f_boxes x_f_boxKept x_f_trial x_f_offers x_f_A_noteCounts x_f_A_notes x_f_B_noteCounts x_f_B_notes x_f_now_where x_f_now_worn x_f_ahead_where x_f_ahead_worn x_f_acts_rows x_f_kn_tunes x_f_kn_noteTimes x_J x_L x2 x4 H.size hIX) (cwV 2 hG (goodV gw1042 gw1043 gw1044 gw129 gw1045) rfl rfl rfl hd_X8_odds ⟨(Nat.le_of_ble_eq_true rfl), (Nat.le_of_ble_eq_true rfl)⟩) ⟨fbR, va_recv hKX hPX (ci := 7) (q0 := 0) rfl rfl, pR_in hPX hKX⟩ rfl rfl hl.1 rfl (lv_room (Nat.le_of_ble_eq_true rfl)) dL_law_1232 ⟨(Nat.le_of_ble_eq_true rfl), (Nat.le_of_ble_eq_true rfl)⟩) hS (fun q hq h => absurd hq (Nat.not_lt.mpr h)) (fun q h => hA q (Nat.le_trans hS.1 h)) (fun r_6 u_ t_ H5 locs ht hvm hw hB hz1 hk1 hS => ?_)
  subst hw
  have hPX := wk hPX hk1
  have hPM := wk hPM hk1
  refine lv_pop hx hb dL_law_1235 rfl ?_
  refine lv_aload_n hx hb dL_law_1236 rfl (lv_at hl 1 rfl) ?_
  refine W.eq (g2 := F0 m 1237 ls [.ref (mr 0)]) (by rw [hrM]) ?_
  refine lv_aload_n hx hb dL_law_1237 rfl (lv_at hl 3 rfl) ?_
  refine lv_iload_n hx hb dL_law_1238 rfl (lv_at hl 0 rfl) ?_
  refine lv_iconst (v := 1) hx hb dL_law_1239 (by decide) ?_
  refine lv_iadd hx hb dL_law_1240 ?_
  refine lv_topi (fun x7 ex7 => ?_)
  refine va_sld hx hb hX hbl hbA hS (sidx ex7 hi0 hi1 hL (by decide) (by decide)) dL_law_1241 ?_
  refine lv_topi (fun x8 ex8 => ?_)
  refine lv_aload_n hx hb dL_law_1242 rfl (lv_at hl 3 rfl) ?_
  refine lv_iload_n hx hb dL_law_1243 rfl (lv_at hl 0 rfl) ?_
  refine lv_iconst (v := 2) hx hb dL_law_1244 (by decide) ?_
  refine lv_iadd hx hb dL_law_1245 ?_
  refine lv_topi (fun x9 ex9 => ?_)
  refine va_sld hx hb hX hbl hbA hS (sidx ex9 hi0 hi1 hL (by decide) (by decide)) dL_law_1246 ?_
  refine lv_topi (fun x10 ex10 => ?_)
  refine va_calli (va_runV (As := [.int x8, .int x10]) (rest := []) ⟨hx, hb, hml, hown, hG⟩ (kX9_odds l dC dI mr mt m_i_taped m_i_size m_i_faultKind m_i_at m_i_end m_i_token m_i_number m_i_bank m_i_rb m_i_codes m_i_within m_i_piled m_i_unitsInRule m_i_askHouse m_i_askTune m_i_acts m_i_undone m_i_laid m_i_knowns m_i_time m_f_text m_f_tunes m_f_houses m_f_hums m_f_told m_f_many m_f_ruleFrom m_f_ruleTo m_f_code m_f_eWhat m_f_eSign m_f_all m_f_kept m_f_was m_f_sTune m_f_boxAll m_J m_L x8 x10 H5.size hIM) (cwV 2 hG (goodV gw1810 gw1811 gw1812 gw138 gw1813) rfl rfl rfl hd_X9_odds ⟨(Nat.le_of_ble_eq_true rfl), (Nat.le_of_ble_eq_true rfl)⟩) ⟨fbR, va_recv hKM hPM (ci := 8) (q0 := 0) rfl rfl, pR_in hPM hKM⟩ rfl rfl hl.1 rfl (lv_room (Nat.le_of_ble_eq_true rfl)) dL_law_1247 ⟨(Nat.le_of_ble_eq_true rfl), (Nat.le_of_ble_eq_true rfl)⟩) hS (fun q hq h => absurd hq (Nat.not_lt.mpr h)) (fun q h => hA q (Nat.le_trans hS.1 h)) (fun r_12 u_ t_ H11 locs ht hvm hw hB hz1 hk1 hS => ?_)
  subst hw
  have hPX := wk hPX hk1
  have hPM := wk hPM hk1
  refine lv_pop hx hb dL_law_1250 rfl ?_
  refine lv_goto (tgt := 1540) hx hb dL_law_1251 (by decide) ?_
  exact kk H11 _ _ ⟨xr, xt, x_i_tapeLength, x_i_time, x_i_lyingCount, x_i_rd_fault, x_i_rd_token, x_i_rd_kind, x_i_sc_count, x_i_sc_at, x_i_A_tunes, x_i_A_houses, x_i_fA_length, x_i_B_tunes, x_i_B_houses, x_i_fB_length, x_i_acts_done, x_i_acts_undone, x_i_kn_count, x_f_boxes, x_f_boxKept, x_f_trial, x_f_offers, x_f_A_noteCounts, x_f_A_notes, x_f_B_noteCounts, x_f_B_notes, x_f_now_where, x_f_now_worn, x_f_ahead_where, x_f_ahead_worn, x_f_acts_rows, x_f_kn_tunes, x_f_kn_noteTimes, x_J, x_L, mr, mt, m_i_taped, m_i_size, m_i_faultKind, m_i_at, m_i_end, m_i_token, m_i_number, m_i_bank, m_i_rb, m_i_codes, m_i_within, m_i_piled, m_i_unitsInRule, m_i_askHouse, m_i_askTune, m_i_acts, m_i_undone, m_i_laid, m_i_knowns, m_i_time, m_f_text, m_f_tunes, m_f_houses, m_f_hums, m_f_told, m_f_many, m_f_ruleFrom, m_f_ruleTo, m_f_code, m_f_eWhat, m_f_eSign, m_f_all, m_f_kept, m_f_was, m_f_sTune, m_f_boxAll, m_J, m_L, hrX, hrM, hKX, hKM, hPX, hPM, hDX, hDM, hdj, hS, hIX, hWB, hRB, hBB, hIM, htm⟩ hl
set_option maxHeartbeats 4000000 in
set_option maxRecDepth 100000 in
theorem law_38 {p : Program} {e : Env} {s : State} {m : MethodId} {below : List Frame} {meth : Method} {c : Code} (l : Launch) {b L : Nat} {xs : Nat → Int32} (hL : L ≤ 3072) (C0 : lw_At p s m meth c b L xs) (dC : Nat → ClassId) (dI : Nat → Nat → Nat) (adK adV : Nat) (fS : Nat → Int32) (hZ : ZS adK adV fS (fun q : Nat => s.heap.size ≤ q) s s.heap) {aX aM : Nat} {i : Int32} (hi0 : 0 ≤ i.toInt) (hi1 : i.toInt + 6 ≤ (L : Int)) {H : Heap} {locs : List Loc} (hI : LI dC dI s aX aM H locs) {ls : Array Slot} (hl : lv_has ls 4 [(3, .int i), (2, .ref aM), (1, .ref aX), (0, .ref b)]) (kk : ∀ (H1 : Heap) (locs1 : List Loc) (ls1 : Array Slot), LI dC dI s aX aM H1 locs1 → lv_has ls1 4 [(3, .int i), (2, .ref aM), (1, .ref aX), (0, .ref b)] → W p l e room_1 s m #[Value.ref b] below meth c H1 locs1 103 20190 (lw_Z below #[Value.ref b] s) (F0 m 1540 ls1 [])) : W p l e room_1 s m #[Value.ref b] below meth c H locs 103 20190 (lw_Z below #[Value.ref b] s) (F0 m 1254 ls []) := by
  obtain ⟨hx, hb, hr, hml, hown, hts, hX, hbl, hlocks, hgv⟩ := id C0
  have hown : s.vm.findClass RL = some m.cls := hown
  have hG : ∀ w ∈ GW, w.before _ s = true := fun w h => hts w (List.mem_filter.mp h).1
  have hA : ∀ q : Nat, s.heap.size ≤ q → (fun q : Nat => s.heap.size ≤ q) q := fun _ h => h
  have hbA : ¬ (fun q : Nat => s.heap.size ≤ q) b := Nat.not_le.mpr hbl
  obtain ⟨xr, xt, x_i_tapeLength, x_i_time, x_i_lyingCount, x_i_rd_fault, x_i_rd_token, x_i_rd_kind, x_i_sc_count, x_i_sc_at, x_i_A_tunes, x_i_A_houses, x_i_fA_length, x_i_B_tunes, x_i_B_houses, x_i_fB_length, x_i_acts_done, x_i_acts_undone, x_i_kn_count, x_f_boxes, x_f_boxKept, x_f_trial, x_f_offers, x_f_A_noteCounts, x_f_A_notes, x_f_B_noteCounts, x_f_B_notes, x_f_now_where, x_f_now_worn, x_f_ahead_where, x_f_ahead_worn, x_f_acts_rows, x_f_kn_tunes, x_f_kn_noteTimes, x_J, x_L, mr, mt, m_i_taped, m_i_size, m_i_faultKind, m_i_at, m_i_end, m_i_token, m_i_number, m_i_bank, m_i_rb, m_i_codes, m_i_within, m_i_piled, m_i_unitsInRule, m_i_askHouse, m_i_askTune, m_i_acts, m_i_undone, m_i_laid, m_i_knowns, m_i_time, m_f_text, m_f_tunes, m_f_houses, m_f_hums, m_f_told, m_f_many, m_f_ruleFrom, m_f_ruleTo, m_f_code, m_f_eWhat, m_f_eSign, m_f_all, m_f_kept, m_f_was, m_f_sTune, m_f_boxAll, m_J, m_L, hrX, hrM, hKX, hKM, hPX, hPM, hDX, hDM, hdj, hS, hIX, hWB, hRB, hBB, hIM, htm⟩ := hI
  refine lv_aload_n hx hb dL_law_1254 rfl (lv_at hl 2 rfl) ?_
  refine W.eq (g2 := F0 m 1255 ls [.ref (xr 0)]) (by rw [hrX]) ?_
  refine lv_aload_n hx hb dL_law_1255 rfl (lv_at hl 3 rfl) ?_
  refine lv_iload_n hx hb dL_law_1256 rfl (lv_at hl 0 rfl) ?_
  refine lv_iconst (v := 1) hx hb dL_law_1257 (by decide) ?_
  refine lv_iadd hx hb dL_law_1258 ?_
  refine lv_topi (fun x1 ex1 => ?_)
  refine va_sld hx hb hX hbl hbA hS (sidx ex1 hi0 hi1 hL (by decide) (by decide)) dL_law_1259 ?_
  refine lv_topi (fun x2 ex2 => ?_)
  refine va_calli (va_runV (As := [.int x2]) (rest := []) ⟨hx, hb, hml, hown, hG⟩ (kX8_lies l dC dI xr xt x_i_tapeLength x_i_time x_i_lyingCount x_i_rd_fault x_i_rd_token x_i_rd_kind x_i_sc_count x_i_sc_at x_i_A_tunes x_i_A_houses x_i_fA_length x_i_B_tunes x_i_B_houses x_i_fB_length x_i_acts_done x_i_acts_undone x_i_kn_count x_f_boxes x_f_boxKept x_f_trial x_f_offers x_f_A_noteCounts x_f_A_notes x_f_B_noteCounts x_f_B_notes x_f_now_where x_f_now_worn x_f_ahead_where x_f_ahead_worn x_f_acts_rows x_f_kn_tunes x_f_kn_noteTimes x_J x_L x2 H.size hIX) (cwV 1 hG (goodV gw1049 gw1050 gw1051 gw129 gw1052) rfl rfl rfl hd_X8_lies ⟨(Nat.le_of_ble_eq_true rfl), (Nat.le_of_ble_eq_true rfl)⟩) ⟨fbR, va_recv hKX hPX (ci := 7) (q0 := 0) rfl rfl, pR_in hPX hKX⟩ rfl rfl hl.1 rfl (lv_room (Nat.le_of_ble_eq_true rfl)) dL_law_1260 ⟨(Nat.le_of_ble_eq_true rfl), (Nat.le_of_ble_eq_true rfl)⟩) hS (fun q hq h => absurd hq (Nat.not_lt.mpr h)) (fun q h => hA q (Nat.le_trans hS.1 h)) (fun r_4 u_ t_ H3 locs ht hvm hw hB hz1 hk1 hS => ?_)
  subst hw
  have hPX := wk hPX hk1
  have hPM := wk hPM hk1
  refine lv_pop hx hb dL_law_1263 rfl ?_
  refine lv_aload_n hx hb dL_law_1264 rfl (lv_at hl 1 rfl) ?_
  refine W.eq (g2 := F0 m 1265 ls [.ref (mr 0)]) (by rw [hrM]) ?_
  refine lv_aload_n hx hb dL_law_1265 rfl (lv_at hl 3 rfl) ?_
  refine lv_iload_n hx hb dL_law_1266 rfl (lv_at hl 0 rfl) ?_
  refine lv_iconst (v := 1) hx hb dL_law_1267 (by decide) ?_
  refine lv_iadd hx hb dL_law_1268 ?_
  refine lv_topi (fun x5 ex5 => ?_)
  refine va_sld hx hb hX hbl hbA hS (sidx ex5 hi0 hi1 hL (by decide) (by decide)) dL_law_1269 ?_
  refine lv_topi (fun x6 ex6 => ?_)
  refine va_calli (va_runV (As := [.int x6]) (rest := []) ⟨hx, hb, hml, hown, hG⟩ (kX9_lies l dC dI mr mt m_i_taped m_i_size m_i_faultKind m_i_at m_i_end m_i_token m_i_number m_i_bank m_i_rb m_i_codes m_i_within m_i_piled m_i_unitsInRule m_i_askHouse m_i_askTune m_i_acts m_i_undone m_i_laid m_i_knowns m_i_time m_f_text m_f_tunes m_f_houses m_f_hums m_f_told m_f_many m_f_ruleFrom m_f_ruleTo m_f_code m_f_eWhat m_f_eSign m_f_all m_f_kept m_f_was m_f_sTune m_f_boxAll m_J m_L x6 H3.size hIM) (cwV 1 hG (goodV gw1748 gw1749 gw1750 gw138 gw1751) rfl rfl rfl hd_X9_lies ⟨(Nat.le_of_ble_eq_true rfl), (Nat.le_of_ble_eq_true rfl)⟩) ⟨fbR, va_recv hKM hPM (ci := 8) (q0 := 0) rfl rfl, pR_in hPM hKM⟩ rfl rfl hl.1 rfl (lv_room (Nat.le_of_ble_eq_true rfl)) dL_law_1270 ⟨(Nat.le_of_ble_eq_true rfl), (Nat.le_of_ble_eq_true rfl)⟩) hS (fun q hq h => absurd hq (Nat.not_lt.mpr h)) (fun q h => hA q (Nat.le_trans hS.1 h)) (fun r_8 u_ t_ H7 locs ht hvm hw hB hz1 hk1 hS => ?_)
  subst hw
  have hPX := wk hPX hk1
  have hPM := wk hPM hk1
  refine lv_pop hx hb dL_law_1273 rfl ?_
  refine lv_goto (tgt := 1540) hx hb dL_law_1274 (by decide) ?_
  exact kk H7 _ _ ⟨xr, xt, x_i_tapeLength, x_i_time, x_i_lyingCount, x_i_rd_fault, x_i_rd_token, x_i_rd_kind, x_i_sc_count, x_i_sc_at, x_i_A_tunes, x_i_A_houses, x_i_fA_length, x_i_B_tunes, x_i_B_houses, x_i_fB_length, x_i_acts_done, x_i_acts_undone, x_i_kn_count, x_f_boxes, x_f_boxKept, x_f_trial, x_f_offers, x_f_A_noteCounts, x_f_A_notes, x_f_B_noteCounts, x_f_B_notes, x_f_now_where, x_f_now_worn, x_f_ahead_where, x_f_ahead_worn, x_f_acts_rows, x_f_kn_tunes, x_f_kn_noteTimes, x_J, x_L, mr, mt, m_i_taped, m_i_size, m_i_faultKind, m_i_at, m_i_end, m_i_token, m_i_number, m_i_bank, m_i_rb, m_i_codes, m_i_within, m_i_piled, m_i_unitsInRule, m_i_askHouse, m_i_askTune, m_i_acts, m_i_undone, m_i_laid, m_i_knowns, m_i_time, m_f_text, m_f_tunes, m_f_houses, m_f_hums, m_f_told, m_f_many, m_f_ruleFrom, m_f_ruleTo, m_f_code, m_f_eWhat, m_f_eSign, m_f_all, m_f_kept, m_f_was, m_f_sTune, m_f_boxAll, m_J, m_L, hrX, hrM, hKX, hKM, hPX, hPM, hDX, hDM, hdj, hS, hIX, hWB, hRB, hBB, hIM, htm⟩ hl
