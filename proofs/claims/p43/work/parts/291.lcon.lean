set_option maxHeartbeats 4000000 in
set_option maxRecDepth 100000 in
theorem law_26 {p : Program} {e : Env} {s : State} {m : MethodId} {below : List Frame} {meth : Method} {c : Code} (l : Launch) {b L : Nat} {xs : Nat → Int32} (hL : L ≤ 3072) (C0 : lw_At p s m meth c b L xs) (dC : Nat → ClassId) (dI : Nat → Nat → Nat) (adK adV : Nat) (fS : Nat → Int32) (hZ : ZS adK adV fS (fun q : Nat => s.heap.size ≤ q) s s.heap) {aX aM : Nat} {i : Int32} (hi0 : 0 ≤ i.toInt) (hi1 : i.toInt + 6 ≤ (L : Int)) {H : Heap} {locs : List Loc} (hI : LI dC dI s aX aM H locs) {ls : Array Slot} (hl : lv_has ls 4 [(3, .int i), (2, .ref aM), (1, .ref aX), (0, .ref b)]) (kk : ∀ (H1 : Heap) (locs1 : List Loc) (ls1 : Array Slot), LI dC dI s aX aM H1 locs1 → lv_has ls1 4 [(3, .int i), (2, .ref aM), (1, .ref aX), (0, .ref b)] → W p l e room_1 s m #[Value.ref b] below meth c H1 locs1 103 20190 (lw_Z below #[Value.ref b] s) (F0 m 1540 ls1 [])) : W p l e room_1 s m #[Value.ref b] below meth c H locs 103 20190 (lw_Z below #[Value.ref b] s) (F0 m 958 ls []) := by
  obtain ⟨hx, hb, hr, hml, hown, hts, hX, hbl, hlocks, hgv⟩ := id C0
  have hown : s.vm.findClass RL = some m.cls := hown
  have hG : ∀ w ∈ GW, w.before _ s = true := fun w h => hts w (List.mem_filter.mp h).1
  have hA : ∀ q : Nat, s.heap.size ≤ q → (fun q : Nat => s.heap.size ≤ q) q := fun _ h => h
  have hbA : ¬ (fun q : Nat => s.heap.size ≤ q) b := Nat.not_le.mpr hbl
  obtain ⟨xr, xt, xi, xa, xJ, xL, mr, mt, mi, ma, mJ, mL, hrX, hrM, hKX, hKM, hPX, hPM, hDX, hDM, hdj, hS, hIX, hWB, hRB, hBB, hIM, htm⟩ := hI
  refine lv_aload_n hx hb dL_law_958 rfl (lv_at hl 2 rfl) ?_
  refine W.eq (g2 := F0 m 959 ls [.ref (xr 0)]) (by rw [hrX]) ?_
  refine lv_aload_n hx hb dL_law_959 rfl (lv_at hl 3 rfl) ?_
  refine lv_iload_n hx hb dL_law_960 rfl (lv_at hl 0 rfl) ?_
  refine lv_iconst (v := 1) hx hb dL_law_961 (by decide) ?_
  refine lv_iadd hx hb dL_law_962 ?_
  refine lv_topi (fun x1 ex1 => ?_)
  refine va_sld hx hb hX hbl hbA hS (sidx ex1 hi0 hi1 hL (by decide) (by decide)) dL_law_963 ?_
  refine lv_topi (fun x2 ex2 => ?_)
  refine lv_aload_n hx hb dL_law_964 rfl (lv_at hl 3 rfl) ?_
  refine lv_iload_n hx hb dL_law_965 rfl (lv_at hl 0 rfl) ?_
  refine lv_iconst (v := 2) hx hb dL_law_966 (by decide) ?_
  refine lv_iadd hx hb dL_law_967 ?_
  refine lv_topi (fun x3 ex3 => ?_)
  refine va_sld hx hb hX hbl hbA hS (sidx ex3 hi0 hi1 hL (by decide) (by decide)) dL_law_968 ?_
  refine lv_topi (fun x4 ex4 => ?_)
  have hFc := frA hDX hS hA
  refine va_calli (va_runV (As := [.int x2, .int x4]) (rest := []) ⟨hx, hb, hml, hown, hG⟩ (kX8_rivals l dC dI xr xt (xi 0) (xi 1) (xi 2) (xi 3) (xi 4) (xi 5) (xi 6) (xi 7) (xi 8) (xi 9) (xi 10) (xi 11) (xi 12) (xi 13) (xi 14) (xi 15) (xi 16) (xa 0) (xa 1) (xa 2) (xa 3) (xa 4) (xa 5) (xa 6) (xa 7) (xa 8) (xa 9) (xa 10) (xa 11) (xa 12) (xa 13) (xa 14) xJ xL x2 x4 H.size hIX) (cwV 2 hG (goodV gw969 gw970 gw971 gw129 gw972) rfl rfl rfl hd_X8_rivals ⟨(Nat.le_of_ble_eq_true rfl), (Nat.le_of_ble_eq_true rfl)⟩) ⟨fbW, va_recv hKX hPX (ci := 7) (q0 := 0) rfl rfl, pW_in hPX hKX hDX⟩ rfl rfl hl.1 rfl (lv_room (Nat.le_of_ble_eq_true rfl)) dL_law_969 ⟨(Nat.le_of_ble_eq_true rfl), (Nat.le_of_ble_eq_true rfl)⟩) hS (fun q _ h => hFc q h) hFc (fun r_6 u_ t_ H5 locs ht hvm hw hB hz1 hk1 hS => ?_)
  subst hw
  obtain ⟨n7, n8, hP1, hD1, hIX⟩ := hB
  rw [ht] at hP1
  obtain ⟨hPM, hdj⟩ := mvO hPM hdj (fun k q hk => hD1.2 k q hk) hk1
  have hPX := hP1
  have hDX := dW hFc hD1
  refine lv_pop hx hb dL_law_972 rfl ?_
  refine lv_aload_n hx hb dL_law_973 rfl (lv_at hl 1 rfl) ?_
  refine W.eq (g2 := F0 m 974 ls [.ref (mr 0)]) (by rw [hrM]) ?_
  refine lv_aload_n hx hb dL_law_974 rfl (lv_at hl 3 rfl) ?_
  refine lv_iload_n hx hb dL_law_975 rfl (lv_at hl 0 rfl) ?_
  refine lv_iconst (v := 1) hx hb dL_law_976 (by decide) ?_
  refine lv_iadd hx hb dL_law_977 ?_
  refine lv_topi (fun x9 ex9 => ?_)
  refine va_sld hx hb hX hbl hbA hS (sidx ex9 hi0 hi1 hL (by decide) (by decide)) dL_law_978 ?_
  refine lv_topi (fun x10 ex10 => ?_)
  refine lv_aload_n hx hb dL_law_979 rfl (lv_at hl 3 rfl) ?_
  refine lv_iload_n hx hb dL_law_980 rfl (lv_at hl 0 rfl) ?_
  refine lv_iconst (v := 2) hx hb dL_law_981 (by decide) ?_
  refine lv_iadd hx hb dL_law_982 ?_
  refine lv_topi (fun x11 ex11 => ?_)
  refine va_sld hx hb hX hbl hbA hS (sidx ex11 hi0 hi1 hL (by decide) (by decide)) dL_law_983 ?_
  refine lv_topi (fun x12 ex12 => ?_)
  have hFc := frA hDM hS hA
  refine va_calli (va_runV (As := [.int x10, .int x12]) (rest := []) ⟨hx, hb, hml, hown, hG⟩ (kX9_rivals l dC dI mr mt (mi 0) (mi 1) (mi 2) (mi 3) (mi 4) (mi 5) (mi 6) (mi 7) (mi 8) (mi 9) (mi 10) (mi 11) (mi 12) (mi 13) (mi 14) (mi 15) (mi 16) (mi 17) (mi 18) (mi 19) (ma 0) (ma 1) (ma 2) (ma 3) (ma 4) (ma 5) (ma 6) (ma 7) (ma 8) (ma 9) (ma 10) (ma 11) (ma 12) (ma 13) (ma 14) (ma 15) mJ mL x10 x12 H5.size hIM) (cwV 2 hG (goodV gw1798 gw1799 gw1800 gw138 gw1801) rfl rfl rfl hd_X9_rivals ⟨(Nat.le_of_ble_eq_true rfl), (Nat.le_of_ble_eq_true rfl)⟩) ⟨fbW, va_recv hKM hPM (ci := 8) (q0 := 0) rfl rfl, pW_in hPM hKM hDM⟩ rfl rfl hl.1 rfl (lv_room (Nat.le_of_ble_eq_true rfl)) dL_law_984 ⟨(Nat.le_of_ble_eq_true rfl), (Nat.le_of_ble_eq_true rfl)⟩) hS (fun q _ h => hFc q h) hFc (fun r_14 u_ t_ H13 locs ht hvm hw hB hz1 hk1 hS => ?_)
  subst hw
  obtain ⟨n15, n16, n17, n18, hP1, hD1, hIM⟩ := hB
  rw [ht] at hP1
  obtain ⟨hPX, hdj⟩ := mvO hPX (dj_sym hdj) (fun k q hk => hD1.2 k q hk) hk1
  have hdj := dj_sym hdj
  have hPM := hP1
  have hDM := dW hFc hD1
  refine lv_pop hx hb dL_law_987 rfl ?_
  refine lv_goto (tgt := 1540) hx hb dL_law_988 (by decide) ?_
  exact kk H13 _ _ ⟨xr, xt, (fun k => ([(xi 0), (xi 1), n7, (xi 3), (xi 4), (xi 5), (xi 6), (xi 7), (xi 8), (xi 9), (xi 10), (xi 11), (xi 12), (xi 13), (xi 14), (xi 15), (xi 16)] : List Int32).getD k 0), xa, n8, xL, mr, mt, (fun k => ([(mi 0), (mi 1), (mi 2), (mi 3), (mi 4), (mi 5), (mi 6), (mi 7), (mi 8), (mi 9), (mi 10), (mi 11), (mi 12), n15, n16, (mi 15), (mi 16), n17, (mi 18), (mi 19)] : List Int32).getD k 0), ma, n18, mL, hrX, hrM, hKX, hKM, hPX, hPM, hDX, hDM, hdj, hS, hIX, hWB, hRB, hBB, hIM, htm⟩ hl
set_option maxHeartbeats 4000000 in
set_option maxRecDepth 100000 in
theorem law_27 {p : Program} {e : Env} {s : State} {m : MethodId} {below : List Frame} {meth : Method} {c : Code} (l : Launch) {b L : Nat} {xs : Nat → Int32} (hL : L ≤ 3072) (C0 : lw_At p s m meth c b L xs) (dC : Nat → ClassId) (dI : Nat → Nat → Nat) (adK adV : Nat) (fS : Nat → Int32) (hZ : ZS adK adV fS (fun q : Nat => s.heap.size ≤ q) s s.heap) {aX aM : Nat} {i : Int32} (hi0 : 0 ≤ i.toInt) (hi1 : i.toInt + 6 ≤ (L : Int)) {H : Heap} {locs : List Loc} (hI : LI dC dI s aX aM H locs) {ls : Array Slot} (hl : lv_has ls 4 [(3, .int i), (2, .ref aM), (1, .ref aX), (0, .ref b)]) (kk : ∀ (H1 : Heap) (locs1 : List Loc) (ls1 : Array Slot), LI dC dI s aX aM H1 locs1 → lv_has ls1 4 [(3, .int i), (2, .ref aM), (1, .ref aX), (0, .ref b)] → W p l e room_1 s m #[Value.ref b] below meth c H1 locs1 103 20190 (lw_Z below #[Value.ref b] s) (F0 m 1540 ls1 [])) : W p l e room_1 s m #[Value.ref b] below meth c H locs 103 20190 (lw_Z below #[Value.ref b] s) (F0 m 991 ls []) := by
  obtain ⟨hx, hb, hr, hml, hown, hts, hX, hbl, hlocks, hgv⟩ := id C0
  have hown : s.vm.findClass RL = some m.cls := hown
  have hG : ∀ w ∈ GW, w.before _ s = true := fun w h => hts w (List.mem_filter.mp h).1
  have hA : ∀ q : Nat, s.heap.size ≤ q → (fun q : Nat => s.heap.size ≤ q) q := fun _ h => h
  have hbA : ¬ (fun q : Nat => s.heap.size ≤ q) b := Nat.not_le.mpr hbl
  obtain ⟨xr, xt, xi, xa, xJ, xL, mr, mt, mi, ma, mJ, mL, hrX, hrM, hKX, hKM, hPX, hPM, hDX, hDM, hdj, hS, hIX, hWB, hRB, hBB, hIM, htm⟩ := hI
  refine lv_aload_n hx hb dL_law_991 rfl (lv_at hl 2 rfl) ?_
  refine W.eq (g2 := F0 m 992 ls [.ref (xr 0)]) (by rw [hrX]) ?_
  refine lv_aload_n hx hb dL_law_992 rfl (lv_at hl 3 rfl) ?_
  refine lv_iload_n hx hb dL_law_993 rfl (lv_at hl 0 rfl) ?_
  refine lv_iconst (v := 1) hx hb dL_law_994 (by decide) ?_
  refine lv_iadd hx hb dL_law_995 ?_
  refine lv_topi (fun x1 ex1 => ?_)
  refine va_sld hx hb hX hbl hbA hS (sidx ex1 hi0 hi1 hL (by decide) (by decide)) dL_law_996 ?_
  refine lv_topi (fun x2 ex2 => ?_)
  refine lv_aload_n hx hb dL_law_997 rfl (lv_at hl 3 rfl) ?_
  refine lv_iload_n hx hb dL_law_998 rfl (lv_at hl 0 rfl) ?_
  refine lv_iconst (v := 2) hx hb dL_law_999 (by decide) ?_
  refine lv_iadd hx hb dL_law_1000 ?_
  refine lv_topi (fun x3 ex3 => ?_)
  refine va_sld hx hb hX hbl hbA hS (sidx ex3 hi0 hi1 hL (by decide) (by decide)) dL_law_1001 ?_
  refine lv_topi (fun x4 ex4 => ?_)
  have hFc := frA hDX hS hA
  refine va_calli (va_runV (As := [.int x2, .int x4]) (rest := []) ⟨hx, hb, hml, hown, hG⟩ (kX8_sale l dC dI xr xt (xi 0) (xi 1) (xi 2) (xi 3) (xi 4) (xi 5) (xi 6) (xi 7) (xi 8) (xi 9) (xi 10) (xi 11) (xi 12) (xi 13) (xi 14) (xi 15) (xi 16) (xa 0) (xa 1) (xa 2) (xa 3) (xa 4) (xa 5) (xa 6) (xa 7) (xa 8) (xa 9) (xa 10) (xa 11) (xa 12) (xa 13) (xa 14) xJ xL x2 x4 H.size hIX) (cwV 2 hG (goodV gw981 gw982 gw983 gw129 gw984) rfl rfl rfl hd_X8_sale ⟨(Nat.le_of_ble_eq_true rfl), (Nat.le_of_ble_eq_true rfl)⟩) ⟨fbW, va_recv hKX hPX (ci := 7) (q0 := 0) rfl rfl, pW_in hPX hKX hDX⟩ rfl rfl hl.1 rfl (lv_room (Nat.le_of_ble_eq_true rfl)) dL_law_1002 ⟨(Nat.le_of_ble_eq_true rfl), (Nat.le_of_ble_eq_true rfl)⟩) hS (fun q _ h => hFc q h) hFc (fun r_6 u_ t_ H5 locs ht hvm hw hB hz1 hk1 hS => ?_)
  subst hw
  obtain ⟨n7, hP1, hD1, hIX⟩ := hB
  rw [ht] at hP1
  obtain ⟨hPM, hdj⟩ := mvO hPM hdj (fun k q hk => hD1.2 k q hk) hk1
  have hPX := hP1
  have hDX := dW hFc hD1
  refine lv_pop hx hb dL_law_1005 rfl ?_
  refine lv_aload_n hx hb dL_law_1006 rfl (lv_at hl 1 rfl) ?_
  refine W.eq (g2 := F0 m 1007 ls [.ref (mr 0)]) (by rw [hrM]) ?_
  refine lv_aload_n hx hb dL_law_1007 rfl (lv_at hl 3 rfl) ?_
  refine lv_iload_n hx hb dL_law_1008 rfl (lv_at hl 0 rfl) ?_
  refine lv_iconst (v := 1) hx hb dL_law_1009 (by decide) ?_
  refine lv_iadd hx hb dL_law_1010 ?_
  refine lv_topi (fun x8 ex8 => ?_)
  refine va_sld hx hb hX hbl hbA hS (sidx ex8 hi0 hi1 hL (by decide) (by decide)) dL_law_1011 ?_
  refine lv_topi (fun x9 ex9 => ?_)
  refine lv_aload_n hx hb dL_law_1012 rfl (lv_at hl 3 rfl) ?_
  refine lv_iload_n hx hb dL_law_1013 rfl (lv_at hl 0 rfl) ?_
  refine lv_iconst (v := 2) hx hb dL_law_1014 (by decide) ?_
  refine lv_iadd hx hb dL_law_1015 ?_
  refine lv_topi (fun x10 ex10 => ?_)
  refine va_sld hx hb hX hbl hbA hS (sidx ex10 hi0 hi1 hL (by decide) (by decide)) dL_law_1016 ?_
  refine lv_topi (fun x11 ex11 => ?_)
  have hFc := frA hDM hS hA
  refine va_calli (va_runV (As := [.int x9, .int x11]) (rest := []) ⟨hx, hb, hml, hown, hG⟩ (kX9_sale l dC dI mr mt (mi 0) (mi 1) (mi 2) (mi 3) (mi 4) (mi 5) (mi 6) (mi 7) (mi 8) (mi 9) (mi 10) (mi 11) (mi 12) (mi 13) (mi 14) (mi 15) (mi 16) (mi 17) (mi 18) (mi 19) (ma 0) (ma 1) (ma 2) (ma 3) (ma 4) (ma 5) (ma 6) (ma 7) (ma 8) (ma 9) (ma 10) (ma 11) (ma 12) (ma 13) (ma 14) (ma 15) mJ mL x9 x11 H5.size hIM) (cwV 2 hG (goodV gw1794 gw1795 gw1796 gw138 gw1797) rfl rfl rfl hd_X9_sale ⟨(Nat.le_of_ble_eq_true rfl), (Nat.le_of_ble_eq_true rfl)⟩) ⟨fbW, va_recv hKM hPM (ci := 8) (q0 := 0) rfl rfl, pW_in hPM hKM hDM⟩ rfl rfl hl.1 rfl (lv_room (Nat.le_of_ble_eq_true rfl)) dL_law_1017 ⟨(Nat.le_of_ble_eq_true rfl), (Nat.le_of_ble_eq_true rfl)⟩) hS (fun q _ h => hFc q h) hFc (fun r_13 u_ t_ H12 locs ht hvm hw hB hz1 hk1 hS => ?_)
  subst hw
  obtain ⟨n14, n15, n16, hP1, hD1, hIM⟩ := hB
  rw [ht] at hP1
  obtain ⟨hPX, hdj⟩ := mvO hPX (dj_sym hdj) (fun k q hk => hD1.2 k q hk) hk1
  have hdj := dj_sym hdj
  have hPM := hP1
  have hDM := dW hFc hD1
  refine lv_pop hx hb dL_law_1020 rfl ?_
  refine lv_goto (tgt := 1540) hx hb dL_law_1021 (by decide) ?_
  exact kk H12 _ _ ⟨xr, xt, xi, xa, n7, xL, mr, mt, (fun k => ([(mi 0), (mi 1), (mi 2), (mi 3), (mi 4), (mi 5), (mi 6), (mi 7), (mi 8), (mi 9), (mi 10), (mi 11), (mi 12), n14, n15, (mi 15), (mi 16), (mi 17), (mi 18), (mi 19)] : List Int32).getD k 0), ma, n16, mL, hrX, hrM, hKX, hKM, hPX, hPM, hDX, hDM, hdj, hS, hIX, hWB, hRB, hBB, hIM, htm⟩ hl
set_option maxHeartbeats 4000000 in
set_option maxRecDepth 100000 in
theorem law_28 {p : Program} {e : Env} {s : State} {m : MethodId} {below : List Frame} {meth : Method} {c : Code} (l : Launch) {b L : Nat} {xs : Nat → Int32} (hL : L ≤ 3072) (C0 : lw_At p s m meth c b L xs) (dC : Nat → ClassId) (dI : Nat → Nat → Nat) (adK adV : Nat) (fS : Nat → Int32) (hZ : ZS adK adV fS (fun q : Nat => s.heap.size ≤ q) s s.heap) {aX aM : Nat} {i : Int32} (hi0 : 0 ≤ i.toInt) (hi1 : i.toInt + 6 ≤ (L : Int)) {H : Heap} {locs : List Loc} (hI : LI dC dI s aX aM H locs) {ls : Array Slot} (hl : lv_has ls 4 [(3, .int i), (2, .ref aM), (1, .ref aX), (0, .ref b)]) (kk : ∀ (H1 : Heap) (locs1 : List Loc) (ls1 : Array Slot), LI dC dI s aX aM H1 locs1 → lv_has ls1 4 [(3, .int i), (2, .ref aM), (1, .ref aX), (0, .ref b)] → W p l e room_1 s m #[Value.ref b] below meth c H1 locs1 103 20190 (lw_Z below #[Value.ref b] s) (F0 m 1540 ls1 [])) : W p l e room_1 s m #[Value.ref b] below meth c H locs 103 20190 (lw_Z below #[Value.ref b] s) (F0 m 1024 ls []) := by
  obtain ⟨hx, hb, hr, hml, hown, hts, hX, hbl, hlocks, hgv⟩ := id C0
  have hown : s.vm.findClass RL = some m.cls := hown
  have hG : ∀ w ∈ GW, w.before _ s = true := fun w h => hts w (List.mem_filter.mp h).1
  have hA : ∀ q : Nat, s.heap.size ≤ q → (fun q : Nat => s.heap.size ≤ q) q := fun _ h => h
  have hbA : ¬ (fun q : Nat => s.heap.size ≤ q) b := Nat.not_le.mpr hbl
  obtain ⟨xr, xt, xi, xa, xJ, xL, mr, mt, mi, ma, mJ, mL, hrX, hrM, hKX, hKM, hPX, hPM, hDX, hDM, hdj, hS, hIX, hWB, hRB, hBB, hIM, htm⟩ := hI
  refine lv_aload_n hx hb dL_law_1024 rfl (lv_at hl 2 rfl) ?_
  refine W.eq (g2 := F0 m 1025 ls [.ref (xr 0)]) (by rw [hrX]) ?_
  refine lv_aload_n hx hb dL_law_1025 rfl (lv_at hl 3 rfl) ?_
  refine lv_iload_n hx hb dL_law_1026 rfl (lv_at hl 0 rfl) ?_
  refine lv_iconst (v := 1) hx hb dL_law_1027 (by decide) ?_
  refine lv_iadd hx hb dL_law_1028 ?_
  refine lv_topi (fun x1 ex1 => ?_)
  refine va_sld hx hb hX hbl hbA hS (sidx ex1 hi0 hi1 hL (by decide) (by decide)) dL_law_1029 ?_
  refine lv_topi (fun x2 ex2 => ?_)
  have hFc := frA hDX hS hA
  refine va_calli (va_runV (As := [.int x2]) (rest := []) ⟨hx, hb, hml, hown, hG⟩ (kX8_swap l dC dI xr xt (xi 0) (xi 1) (xi 2) (xi 3) (xi 4) (xi 5) (xi 6) (xi 7) (xi 8) (xi 9) (xi 10) (xi 11) (xi 12) (xi 13) (xi 14) (xi 15) (xi 16) (xa 0) (xa 1) (xa 2) (xa 3) (xa 4) (xa 5) (xa 6) (xa 7) (xa 8) (xa 9) (xa 10) (xa 11) (xa 12) (xa 13) (xa 14) xJ xL x2 H.size hIX hWB) (cwV 1 hG (goodV gw961 gw962 gw963 gw129 gw964) rfl rfl rfl hd_X8_swap ⟨(Nat.le_of_ble_eq_true rfl), (Nat.le_of_ble_eq_true rfl)⟩) ⟨fbW, va_recv hKX hPX (ci := 7) (q0 := 0) rfl rfl, pW_in hPX hKX hDX⟩ rfl rfl hl.1 rfl (lv_room (Nat.le_of_ble_eq_true rfl)) dL_law_1030 ⟨(Nat.le_of_ble_eq_true rfl), (Nat.le_of_ble_eq_true rfl)⟩) hS (fun q _ h => hFc q h) hFc (fun r_4 u_ t_ H3 locs ht hvm hw hB hz1 hk1 hS => ?_)
  subst hw
  obtain ⟨n5, hP1, hD1, hIX⟩ := hB
  rw [ht] at hP1
  obtain ⟨hPM, hdj⟩ := mvO hPM hdj (fun k q hk => hD1.2 k q hk) hk1
  have hPX := hP1
  have hDX := dW hFc hD1
  refine lv_pop hx hb dL_law_1033 rfl ?_
  refine lv_aload_n hx hb dL_law_1034 rfl (lv_at hl 1 rfl) ?_
  refine W.eq (g2 := F0 m 1035 ls [.ref (mr 0)]) (by rw [hrM]) ?_
  refine lv_aload_n hx hb dL_law_1035 rfl (lv_at hl 3 rfl) ?_
  refine lv_iload_n hx hb dL_law_1036 rfl (lv_at hl 0 rfl) ?_
  refine lv_iconst (v := 1) hx hb dL_law_1037 (by decide) ?_
  refine lv_iadd hx hb dL_law_1038 ?_
  refine lv_topi (fun x6 ex6 => ?_)
  refine va_sld hx hb hX hbl hbA hS (sidx ex6 hi0 hi1 hL (by decide) (by decide)) dL_law_1039 ?_
  refine lv_topi (fun x7 ex7 => ?_)
  have hFc := frA hDM hS hA
  refine va_calli (va_runV (As := [.int x7]) (rest := []) ⟨hx, hb, hml, hown, hG⟩ (kX9_swap l dC dI mr mt (mi 0) (mi 1) (mi 2) (mi 3) (mi 4) (mi 5) (mi 6) (mi 7) (mi 8) (mi 9) (mi 10) (mi 11) (mi 12) (mi 13) (mi 14) (mi 15) (mi 16) (mi 17) (mi 18) (mi 19) (ma 0) (ma 1) (ma 2) (ma 3) (ma 4) (ma 5) (ma 6) (ma 7) (ma 8) (ma 9) (ma 10) (ma 11) (ma 12) (ma 13) (ma 14) (ma 15) mJ mL x7 H3.size hIM) (cwV 1 hG (goodV gw1790 gw1791 gw1792 gw138 gw1793) rfl rfl rfl hd_X9_swap ⟨(Nat.le_of_ble_eq_true rfl), (Nat.le_of_ble_eq_true rfl)⟩) ⟨fbW, va_recv hKM hPM (ci := 8) (q0 := 0) rfl rfl, pW_in hPM hKM hDM⟩ rfl rfl hl.1 rfl (lv_room (Nat.le_of_ble_eq_true rfl)) dL_law_1040 ⟨(Nat.le_of_ble_eq_true rfl), (Nat.le_of_ble_eq_true rfl)⟩) hS (fun q _ h => hFc q h) hFc (fun r_9 u_ t_ H8 locs ht hvm hw hB hz1 hk1 hS => ?_)
  subst hw
  obtain ⟨n10, n11, n12, hP1, hD1, hIM⟩ := hB
  rw [ht] at hP1
  obtain ⟨hPX, hdj⟩ := mvO hPX (dj_sym hdj) (fun k q hk => hD1.2 k q hk) hk1
  have hdj := dj_sym hdj
  have hPM := hP1
  have hDM := dW hFc hD1
  refine lv_pop hx hb dL_law_1043 rfl ?_
  refine lv_goto (tgt := 1540) hx hb dL_law_1044 (by decide) ?_
  exact kk H8 _ _ ⟨xr, xt, xi, xa, n5, xL, mr, mt, (fun k => ([(mi 0), (mi 1), (mi 2), (mi 3), (mi 4), (mi 5), (mi 6), (mi 7), (mi 8), (mi 9), (mi 10), (mi 11), (mi 12), n10, n11, (mi 15), (mi 16), (mi 17), (mi 18), (mi 19)] : List Int32).getD k 0), ma, n12, mL, hrX, hrM, hKX, hKM, hPX, hPM, hDX, hDM, hdj, hS, hIX, hWB, hRB, hBB, hIM, htm⟩ hl
set_option maxHeartbeats 4000000 in
set_option maxRecDepth 100000 in
theorem law_29 {p : Program} {e : Env} {s : State} {m : MethodId} {below : List Frame} {meth : Method} {c : Code} (l : Launch) {b L : Nat} {xs : Nat → Int32} (hL : L ≤ 3072) (C0 : lw_At p s m meth c b L xs) (dC : Nat → ClassId) (dI : Nat → Nat → Nat) (adK adV : Nat) (fS : Nat → Int32) (hZ : ZS adK adV fS (fun q : Nat => s.heap.size ≤ q) s s.heap) {aX aM : Nat} {i : Int32} (hi0 : 0 ≤ i.toInt) (hi1 : i.toInt + 6 ≤ (L : Int)) {H : Heap} {locs : List Loc} (hI : LI dC dI s aX aM H locs) {ls : Array Slot} (hl : lv_has ls 4 [(3, .int i), (2, .ref aM), (1, .ref aX), (0, .ref b)]) (kk : ∀ (H1 : Heap) (locs1 : List Loc) (ls1 : Array Slot), LI dC dI s aX aM H1 locs1 → lv_has ls1 4 [(3, .int i), (2, .ref aM), (1, .ref aX), (0, .ref b)] → W p l e room_1 s m #[Value.ref b] below meth c H1 locs1 103 20190 (lw_Z below #[Value.ref b] s) (F0 m 1540 ls1 [])) : W p l e room_1 s m #[Value.ref b] below meth c H locs 103 20190 (lw_Z below #[Value.ref b] s) (F0 m 1047 ls []) := by
  obtain ⟨hx, hb, hr, hml, hown, hts, hX, hbl, hlocks, hgv⟩ := id C0
  have hown : s.vm.findClass RL = some m.cls := hown
  have hG : ∀ w ∈ GW, w.before _ s = true := fun w h => hts w (List.mem_filter.mp h).1
  have hA : ∀ q : Nat, s.heap.size ≤ q → (fun q : Nat => s.heap.size ≤ q) q := fun _ h => h
  have hbA : ¬ (fun q : Nat => s.heap.size ≤ q) b := Nat.not_le.mpr hbl
  obtain ⟨xr, xt, xi, xa, xJ, xL, mr, mt, mi, ma, mJ, mL, hrX, hrM, hKX, hKM, hPX, hPM, hDX, hDM, hdj, hS, hIX, hWB, hRB, hBB, hIM, htm⟩ := hI
  refine lv_aload_n hx hb dL_law_1047 rfl (lv_at hl 2 rfl) ?_
  refine W.eq (g2 := F0 m 1048 ls [.ref (xr 0)]) (by rw [hrX]) ?_
  refine va_calli (va_runV (As := []) (rest := []) ⟨hx, hb, hml, hown, hG⟩ (kX8_idle l dC dI xr xt (xi 0) (xi 1) (xi 2) (xi 3) (xi 4) (xi 5) (xi 6) (xi 7) (xi 8) (xi 9) (xi 10) (xi 11) (xi 12) (xi 13) (xi 14) (xi 15) (xi 16) (xa 0) (xa 1) (xa 2) (xa 3) (xa 4) (xa 5) (xa 6) (xa 7) (xa 8) (xa 9) (xa 10) (xa 11) (xa 12) (xa 13) (xa 14) xJ xL H.size hIX hWB) (cwV 0 hG (goodV gw1021 gw1022 gw1023 gw129 gw1024) rfl rfl rfl hd_X8_idle ⟨(Nat.le_of_ble_eq_true rfl), (Nat.le_of_ble_eq_true rfl)⟩) ⟨fbR, va_recv hKX hPX (ci := 7) (q0 := 0) rfl rfl, pR_in hPX hKX⟩ rfl rfl hl.1 rfl (lv_room (Nat.le_of_ble_eq_true rfl)) dL_law_1048 ⟨(Nat.le_of_ble_eq_true rfl), (Nat.le_of_ble_eq_true rfl)⟩) hS (fun q hq h => absurd hq (Nat.not_lt.mpr h)) (fun q h => hA q (Nat.le_trans hS.1 h)) (fun r_2 u_ t_ H1 locs ht hvm hw hB hz1 hk1 hS => ?_)
  subst hw
  have hPX := wk hPX hk1
  have hPM := wk hPM hk1
  refine lv_pop hx hb dL_law_1051 rfl ?_
  refine lv_aload_n hx hb dL_law_1052 rfl (lv_at hl 1 rfl) ?_
  refine W.eq (g2 := F0 m 1053 ls [.ref (mr 0)]) (by rw [hrM]) ?_
  refine va_calli (va_runV (As := []) (rest := []) ⟨hx, hb, hml, hown, hG⟩ (kX9_idle l dC dI mr mt (mi 0) (mi 1) (mi 2) (mi 3) (mi 4) (mi 5) (mi 6) (mi 7) (mi 8) (mi 9) (mi 10) (mi 11) (mi 12) (mi 13) (mi 14) (mi 15) (mi 16) (mi 17) (mi 18) (mi 19) (ma 0) (ma 1) (ma 2) (ma 3) (ma 4) (ma 5) (ma 6) (ma 7) (ma 8) (ma 9) (ma 10) (ma 11) (ma 12) (ma 13) (ma 14) (ma 15) mJ mL H1.size hIM) (cwV 0 hG (goodV gw1656 gw1657 gw1658 gw138 gw1659) rfl rfl rfl hd_X9_idle ⟨(Nat.le_of_ble_eq_true rfl), (Nat.le_of_ble_eq_true rfl)⟩) ⟨fbR, va_recv hKM hPM (ci := 8) (q0 := 0) rfl rfl, pR_in hPM hKM⟩ rfl rfl hl.1 rfl (lv_room (Nat.le_of_ble_eq_true rfl)) dL_law_1053 ⟨(Nat.le_of_ble_eq_true rfl), (Nat.le_of_ble_eq_true rfl)⟩) hS (fun q hq h => absurd hq (Nat.not_lt.mpr h)) (fun q h => hA q (Nat.le_trans hS.1 h)) (fun r_4 u_ t_ H3 locs ht hvm hw hB hz1 hk1 hS => ?_)
  subst hw
  have hPX := wk hPX hk1
  have hPM := wk hPM hk1
  refine lv_pop hx hb dL_law_1056 rfl ?_
  refine lv_goto (tgt := 1540) hx hb dL_law_1057 (by decide) ?_
  exact kk H3 _ _ ⟨xr, xt, xi, xa, xJ, xL, mr, mt, mi, ma, mJ, mL, hrX, hrM, hKX, hKM, hPX, hPM, hDX, hDM, hdj, hS, hIX, hWB, hRB, hBB, hIM, htm⟩ hl
set_option maxHeartbeats 4000000 in
set_option maxRecDepth 100000 in
theorem law_30 {p : Program} {e : Env} {s : State} {m : MethodId} {below : List Frame} {meth : Method} {c : Code} (l : Launch) {b L : Nat} {xs : Nat → Int32} (hL : L ≤ 3072) (C0 : lw_At p s m meth c b L xs) (dC : Nat → ClassId) (dI : Nat → Nat → Nat) (adK adV : Nat) (fS : Nat → Int32) (hZ : ZS adK adV fS (fun q : Nat => s.heap.size ≤ q) s s.heap) {aX aM : Nat} {i : Int32} (hi0 : 0 ≤ i.toInt) (hi1 : i.toInt + 6 ≤ (L : Int)) {H : Heap} {locs : List Loc} (hI : LI dC dI s aX aM H locs) {ls : Array Slot} (hl : lv_has ls 4 [(3, .int i), (2, .ref aM), (1, .ref aX), (0, .ref b)]) (kk : ∀ (H1 : Heap) (locs1 : List Loc) (ls1 : Array Slot), LI dC dI s aX aM H1 locs1 → lv_has ls1 4 [(3, .int i), (2, .ref aM), (1, .ref aX), (0, .ref b)] → W p l e room_1 s m #[Value.ref b] below meth c H1 locs1 103 20190 (lw_Z below #[Value.ref b] s) (F0 m 1540 ls1 [])) : W p l e room_1 s m #[Value.ref b] below meth c H locs 103 20190 (lw_Z below #[Value.ref b] s) (F0 m 1060 ls []) := by
  obtain ⟨hx, hb, hr, hml, hown, hts, hX, hbl, hlocks, hgv⟩ := id C0
  have hown : s.vm.findClass RL = some m.cls := hown
  have hG : ∀ w ∈ GW, w.before _ s = true := fun w h => hts w (List.mem_filter.mp h).1
  have hA : ∀ q : Nat, s.heap.size ≤ q → (fun q : Nat => s.heap.size ≤ q) q := fun _ h => h
  have hbA : ¬ (fun q : Nat => s.heap.size ≤ q) b := Nat.not_le.mpr hbl
  obtain ⟨xr, xt, xi, xa, xJ, xL, mr, mt, mi, ma, mJ, mL, hrX, hrM, hKX, hKM, hPX, hPM, hDX, hDM, hdj, hS, hIX, hWB, hRB, hBB, hIM, htm⟩ := hI
  refine lv_aload_n hx hb dL_law_1060 rfl (lv_at hl 2 rfl) ?_
  refine W.eq (g2 := F0 m 1061 ls [.ref (xr 0)]) (by rw [hrX]) ?_
  refine va_calli (va_runV (As := []) (rest := []) ⟨hx, hb, hml, hown, hG⟩ (kX8_fashion l dC dI xr xt (xi 0) (xi 1) (xi 2) (xi 3) (xi 4) (xi 5) (xi 6) (xi 7) (xi 8) (xi 9) (xi 10) (xi 11) (xi 12) (xi 13) (xi 14) (xi 15) (xi 16) (xa 0) (xa 1) (xa 2) (xa 3) (xa 4) (xa 5) (xa 6) (xa 7) (xa 8) (xa 9) (xa 10) (xa 11) (xa 12) (xa 13) (xa 14) xJ xL H.size hIX) (cwV 0 hG (goodV gw1025 gw1026 gw1027 gw129 gw1028) rfl rfl rfl hd_X8_fashion ⟨(Nat.le_of_ble_eq_true rfl), (Nat.le_of_ble_eq_true rfl)⟩) ⟨fbR, va_recv hKX hPX (ci := 7) (q0 := 0) rfl rfl, pR_in hPX hKX⟩ rfl rfl hl.1 rfl (lv_room (Nat.le_of_ble_eq_true rfl)) dL_law_1061 ⟨(Nat.le_of_ble_eq_true rfl), (Nat.le_of_ble_eq_true rfl)⟩) hS (fun q hq h => absurd hq (Nat.not_lt.mpr h)) (fun q h => hA q (Nat.le_trans hS.1 h)) (fun r_2 u_ t_ H1 locs ht hvm hw hB hz1 hk1 hS => ?_)
  subst hw
  have hPX := wk hPX hk1
  have hPM := wk hPM hk1
  refine lv_pop hx hb dL_law_1064 rfl ?_
  refine lv_aload_n hx hb dL_law_1065 rfl (lv_at hl 1 rfl) ?_
  refine W.eq (g2 := F0 m 1066 ls [.ref (mr 0)]) (by rw [hrM]) ?_
  refine va_calli (va_runV (As := []) (rest := []) ⟨hx, hb, hml, hown, hG⟩ (kX9_fashion l dC dI mr mt (mi 0) (mi 1) (mi 2) (mi 3) (mi 4) (mi 5) (mi 6) (mi 7) (mi 8) (mi 9) (mi 10) (mi 11) (mi 12) (mi 13) (mi 14) (mi 15) (mi 16) (mi 17) (mi 18) (mi 19) (ma 0) (ma 1) (ma 2) (ma 3) (ma 4) (ma 5) (ma 6) (ma 7) (ma 8) (ma 9) (ma 10) (ma 11) (ma 12) (ma 13) (ma 14) (ma 15) mJ mL H1.size hIM) (cwV 0 hG (goodV gw1660 gw1661 gw1662 gw138 gw1663) rfl rfl rfl hd_X9_fashion ⟨(Nat.le_of_ble_eq_true rfl), (Nat.le_of_ble_eq_true rfl)⟩) ⟨fbR, va_recv hKM hPM (ci := 8) (q0 := 0) rfl rfl, pR_in hPM hKM⟩ rfl rfl hl.1 rfl (lv_room (Nat.le_of_ble_eq_true rfl)) dL_law_1066 ⟨(Nat.le_of_ble_eq_true rfl), (Nat.le_of_ble_eq_true rfl)⟩) hS (fun q hq h => absurd hq (Nat.not_lt.mpr h)) (fun q h => hA q (Nat.le_trans hS.1 h)) (fun r_4 u_ t_ H3 locs ht hvm hw hB hz1 hk1 hS => ?_)
  subst hw
  have hPX := wk hPX hk1
  have hPM := wk hPM hk1
  refine lv_pop hx hb dL_law_1069 rfl ?_
  refine lv_goto (tgt := 1540) hx hb dL_law_1070 (by decide) ?_
  exact kk H3 _ _ ⟨xr, xt, xi, xa, xJ, xL, mr, mt, mi, ma, mJ, mL, hrX, hrM, hKX, hKM, hPX, hPM, hDX, hDM, hdj, hS, hIX, hWB, hRB, hBB, hIM, htm⟩ hl
set_option maxHeartbeats 4000000 in
set_option maxRecDepth 100000 in
theorem law_31 {p : Program} {e : Env} {s : State} {m : MethodId} {below : List Frame} {meth : Method} {c : Code} (l : Launch) {b L : Nat} {xs : Nat → Int32} (hL : L ≤ 3072) (C0 : lw_At p s m meth c b L xs) (dC : Nat → ClassId) (dI : Nat → Nat → Nat) (adK adV : Nat) (fS : Nat → Int32) (hZ : ZS adK adV fS (fun q : Nat => s.heap.size ≤ q) s s.heap) {aX aM : Nat} {i : Int32} (hi0 : 0 ≤ i.toInt) (hi1 : i.toInt + 6 ≤ (L : Int)) {H : Heap} {locs : List Loc} (hI : LI dC dI s aX aM H locs) {ls : Array Slot} (hl : lv_has ls 4 [(3, .int i), (2, .ref aM), (1, .ref aX), (0, .ref b)]) (kk : ∀ (H1 : Heap) (locs1 : List Loc) (ls1 : Array Slot), LI dC dI s aX aM H1 locs1 → lv_has ls1 4 [(3, .int i), (2, .ref aM), (1, .ref aX), (0, .ref b)] → W p l e room_1 s m #[Value.ref b] below meth c H1 locs1 103 20190 (lw_Z below #[Value.ref b] s) (F0 m 1540 ls1 [])) : W p l e room_1 s m #[Value.ref b] below meth c H locs 103 20190 (lw_Z below #[Value.ref b] s) (F0 m 1073 ls []) := by
  obtain ⟨hx, hb, hr, hml, hown, hts, hX, hbl, hlocks, hgv⟩ := id C0
  have hown : s.vm.findClass RL = some m.cls := hown
  have hG : ∀ w ∈ GW, w.before _ s = true := fun w h => hts w (List.mem_filter.mp h).1
  have hA : ∀ q : Nat, s.heap.size ≤ q → (fun q : Nat => s.heap.size ≤ q) q := fun _ h => h
  have hbA : ¬ (fun q : Nat => s.heap.size ≤ q) b := Nat.not_le.mpr hbl
  obtain ⟨xr, xt, xi, xa, xJ, xL, mr, mt, mi, ma, mJ, mL, hrX, hrM, hKX, hKM, hPX, hPM, hDX, hDM, hdj, hS, hIX, hWB, hRB, hBB, hIM, htm⟩ := hI
  refine lv_aload_n hx hb dL_law_1073 rfl (lv_at hl 2 rfl) ?_
  refine W.eq (g2 := F0 m 1074 ls [.ref (xr 0)]) (by rw [hrX]) ?_
  refine lv_aload_n hx hb dL_law_1074 rfl (lv_at hl 3 rfl) ?_
  refine lv_iload_n hx hb dL_law_1075 rfl (lv_at hl 0 rfl) ?_
  refine lv_iconst (v := 1) hx hb dL_law_1076 (by decide) ?_
  refine lv_iadd hx hb dL_law_1077 ?_
  refine lv_topi (fun x1 ex1 => ?_)
  refine va_sld hx hb hX hbl hbA hS (sidx ex1 hi0 hi1 hL (by decide) (by decide)) dL_law_1078 ?_
  refine lv_topi (fun x2 ex2 => ?_)
  refine va_calli (va_runV (As := [.int x2]) (rest := []) ⟨hx, hb, hml, hown, hG⟩ (kX8_due l dC dI xr xt (xi 0) (xi 1) (xi 2) (xi 3) (xi 4) (xi 5) (xi 6) (xi 7) (xi 8) (xi 9) (xi 10) (xi 11) (xi 12) (xi 13) (xi 14) (xi 15) (xi 16) (xa 0) (xa 1) (xa 2) (xa 3) (xa 4) (xa 5) (xa 6) (xa 7) (xa 8) (xa 9) (xa 10) (xa 11) (xa 12) (xa 13) (xa 14) xJ xL x2 H.size hIX) (cwV 1 hG (goodV gw1030 gw1031 gw1032 gw129 gw1033) rfl rfl rfl hd_X8_due ⟨(Nat.le_of_ble_eq_true rfl), (Nat.le_of_ble_eq_true rfl)⟩) ⟨fbR, va_recv hKX hPX (ci := 7) (q0 := 0) rfl rfl, pR_in hPX hKX⟩ rfl rfl hl.1 rfl (lv_room (Nat.le_of_ble_eq_true rfl)) dL_law_1079 ⟨(Nat.le_of_ble_eq_true rfl), (Nat.le_of_ble_eq_true rfl)⟩) hS (fun q hq h => absurd hq (Nat.not_lt.mpr h)) (fun q h => hA q (Nat.le_trans hS.1 h)) (fun r_4 u_ t_ H3 locs ht hvm hw hB hz1 hk1 hS => ?_)
  subst hw
  have hPX := wk hPX hk1
  have hPM := wk hPM hk1
  refine lv_pop hx hb dL_law_1082 rfl ?_
  refine lv_aload_n hx hb dL_law_1083 rfl (lv_at hl 1 rfl) ?_
  refine W.eq (g2 := F0 m 1084 ls [.ref (mr 0)]) (by rw [hrM]) ?_
  refine lv_aload_n hx hb dL_law_1084 rfl (lv_at hl 3 rfl) ?_
  refine lv_iload_n hx hb dL_law_1085 rfl (lv_at hl 0 rfl) ?_
  refine lv_iconst (v := 1) hx hb dL_law_1086 (by decide) ?_
  refine lv_iadd hx hb dL_law_1087 ?_
  refine lv_topi (fun x5 ex5 => ?_)
  refine va_sld hx hb hX hbl hbA hS (sidx ex5 hi0 hi1 hL (by decide) (by decide)) dL_law_1088 ?_
  refine lv_topi (fun x6 ex6 => ?_)
  refine va_calli (va_runV (As := [.int x6]) (rest := []) ⟨hx, hb, hml, hown, hG⟩ (kX9_due l dC dI mr mt (mi 0) (mi 1) (mi 2) (mi 3) (mi 4) (mi 5) (mi 6) (mi 7) (mi 8) (mi 9) (mi 10) (mi 11) (mi 12) (mi 13) (mi 14) (mi 15) (mi 16) (mi 17) (mi 18) (mi 19) (ma 0) (ma 1) (ma 2) (ma 3) (ma 4) (ma 5) (ma 6) (ma 7) (ma 8) (ma 9) (ma 10) (ma 11) (ma 12) (ma 13) (ma 14) (ma 15) mJ mL x6 H3.size hIM) (cwV 1 hG (goodV gw1664 gw1665 gw1666 gw138 gw1667) rfl rfl rfl hd_X9_due ⟨(Nat.le_of_ble_eq_true rfl), (Nat.le_of_ble_eq_true rfl)⟩) ⟨fbR, va_recv hKM hPM (ci := 8) (q0 := 0) rfl rfl, pR_in hPM hKM⟩ rfl rfl hl.1 rfl (lv_room (Nat.le_of_ble_eq_true rfl)) dL_law_1089 ⟨(Nat.le_of_ble_eq_true rfl), (Nat.le_of_ble_eq_true rfl)⟩) hS (fun q hq h => absurd hq (Nat.not_lt.mpr h)) (fun q h => hA q (Nat.le_trans hS.1 h)) (fun r_8 u_ t_ H7 locs ht hvm hw hB hz1 hk1 hS => ?_)
  subst hw
  have hPX := wk hPX hk1
  have hPM := wk hPM hk1
  refine lv_pop hx hb dL_law_1092 rfl ?_
  refine lv_goto (tgt := 1540) hx hb dL_law_1093 (by decide) ?_
  exact kk H7 _ _ ⟨xr, xt, xi, xa, xJ, xL, mr, mt, mi, ma, mJ, mL, hrX, hrM, hKX, hKM, hPX, hPM, hDX, hDM, hdj, hS, hIX, hWB, hRB, hBB, hIM, htm⟩ hl
set_option maxHeartbeats 4000000 in
set_option maxRecDepth 100000 in
theorem law_32 {p : Program} {e : Env} {s : State} {m : MethodId} {below : List Frame} {meth : Method} {c : Code} (l : Launch) {b L : Nat} {xs : Nat → Int32} (hL : L ≤ 3072) (C0 : lw_At p s m meth c b L xs) (dC : Nat → ClassId) (dI : Nat → Nat → Nat) (adK adV : Nat) (fS : Nat → Int32) (hZ : ZS adK adV fS (fun q : Nat => s.heap.size ≤ q) s s.heap) {aX aM : Nat} {i : Int32} (hi0 : 0 ≤ i.toInt) (hi1 : i.toInt + 6 ≤ (L : Int)) {H : Heap} {locs : List Loc} (hI : LI dC dI s aX aM H locs) {ls : Array Slot} (hl : lv_has ls 4 [(3, .int i), (2, .ref aM), (1, .ref aX), (0, .ref b)]) (kk : ∀ (H1 : Heap) (locs1 : List Loc) (ls1 : Array Slot), LI dC dI s aX aM H1 locs1 → lv_has ls1 4 [(3, .int i), (2, .ref aM), (1, .ref aX), (0, .ref b)] → W p l e room_1 s m #[Value.ref b] below meth c H1 locs1 103 20190 (lw_Z below #[Value.ref b] s) (F0 m 1540 ls1 [])) : W p l e room_1 s m #[Value.ref b] below meth c H locs 103 20190 (lw_Z below #[Value.ref b] s) (F0 m 1096 ls []) := by
  obtain ⟨hx, hb, hr, hml, hown, hts, hX, hbl, hlocks, hgv⟩ := id C0
  have hown : s.vm.findClass RL = some m.cls := hown
  have hG : ∀ w ∈ GW, w.before _ s = true := fun w h => hts w (List.mem_filter.mp h).1
  have hA : ∀ q : Nat, s.heap.size ≤ q → (fun q : Nat => s.heap.size ≤ q) q := fun _ h => h
  have hbA : ¬ (fun q : Nat => s.heap.size ≤ q) b := Nat.not_le.mpr hbl
  obtain ⟨xr, xt, xi, xa, xJ, xL, mr, mt, mi, ma, mJ, mL, hrX, hrM, hKX, hKM, hPX, hPM, hDX, hDM, hdj, hS, hIX, hWB, hRB, hBB, hIM, htm⟩ := hI
  refine lv_aload_n hx hb dL_law_1096 rfl (lv_at hl 2 rfl) ?_
  refine W.eq (g2 := F0 m 1097 ls [.ref (xr 0)]) (by rw [hrX]) ?_
  refine lv_aload_n hx hb dL_law_1097 rfl (lv_at hl 3 rfl) ?_
  refine lv_iload_n hx hb dL_law_1098 rfl (lv_at hl 0 rfl) ?_
  refine lv_iconst (v := 1) hx hb dL_law_1099 (by decide) ?_
  refine lv_iadd hx hb dL_law_1100 ?_
  refine lv_topi (fun x1 ex1 => ?_)
  refine va_sld hx hb hX hbl hbA hS (sidx ex1 hi0 hi1 hL (by decide) (by decide)) dL_law_1101 ?_
  refine lv_topi (fun x2 ex2 => ?_)
  refine lv_aload_n hx hb dL_law_1102 rfl (lv_at hl 3 rfl) ?_
  refine lv_iload_n hx hb dL_law_1103 rfl (lv_at hl 0 rfl) ?_
  refine lv_iconst (v := 2) hx hb dL_law_1104 (by decide) ?_
  refine lv_iadd hx hb dL_law_1105 ?_
  refine lv_topi (fun x3 ex3 => ?_)
  refine va_sld hx hb hX hbl hbA hS (sidx ex3 hi0 hi1 hL (by decide) (by decide)) dL_law_1106 ?_
  refine lv_topi (fun x4 ex4 => ?_)
  refine va_calli (va_runV (As := [.int x2, .int x4]) (rest := []) ⟨hx, hb, hml, hown, hG⟩ (kX8_along l dC dI xr xt (xi 0) (xi 1) (xi 2) (xi 3) (xi 4) (xi 5) (xi 6) (xi 7) (xi 8) (xi 9) (xi 10) (xi 11) (xi 12) (xi 13) (xi 14) (xi 15) (xi 16) (xa 0) (xa 1) (xa 2) (xa 3) (xa 4) (xa 5) (xa 6) (xa 7) (xa 8) (xa 9) (xa 10) (xa 11) (xa 12) (xa 13) (xa 14) xJ xL x2 x4 H.size hIX) (cwV 2 hG (goodV gw1034 gw1035 gw1036 gw129 gw1037) rfl rfl rfl hd_X8_along ⟨(Nat.le_of_ble_eq_true rfl), (Nat.le_of_ble_eq_true rfl)⟩) ⟨fbR, va_recv hKX hPX (ci := 7) (q0 := 0) rfl rfl, pR_in hPX hKX⟩ rfl rfl hl.1 rfl (lv_room (Nat.le_of_ble_eq_true rfl)) dL_law_1107 ⟨(Nat.le_of_ble_eq_true rfl), (Nat.le_of_ble_eq_true rfl)⟩) hS (fun q hq h => absurd hq (Nat.not_lt.mpr h)) (fun q h => hA q (Nat.le_trans hS.1 h)) (fun r_6 u_ t_ H5 locs ht hvm hw hB hz1 hk1 hS => ?_)
  subst hw
  have hPX := wk hPX hk1
  have hPM := wk hPM hk1
  refine lv_pop hx hb dL_law_1110 rfl ?_
  refine lv_aload_n hx hb dL_law_1111 rfl (lv_at hl 1 rfl) ?_
  refine W.eq (g2 := F0 m 1112 ls [.ref (mr 0)]) (by rw [hrM]) ?_
  refine lv_aload_n hx hb dL_law_1112 rfl (lv_at hl 3 rfl) ?_
  refine lv_iload_n hx hb dL_law_1113 rfl (lv_at hl 0 rfl) ?_
  refine lv_iconst (v := 1) hx hb dL_law_1114 (by decide) ?_
  refine lv_iadd hx hb dL_law_1115 ?_
  refine lv_topi (fun x7 ex7 => ?_)
  refine va_sld hx hb hX hbl hbA hS (sidx ex7 hi0 hi1 hL (by decide) (by decide)) dL_law_1116 ?_
  refine lv_topi (fun x8 ex8 => ?_)
  refine lv_aload_n hx hb dL_law_1117 rfl (lv_at hl 3 rfl) ?_
  refine lv_iload_n hx hb dL_law_1118 rfl (lv_at hl 0 rfl) ?_
  refine lv_iconst (v := 2) hx hb dL_law_1119 (by decide) ?_
  refine lv_iadd hx hb dL_law_1120 ?_
  refine lv_topi (fun x9 ex9 => ?_)
  refine va_sld hx hb hX hbl hbA hS (sidx ex9 hi0 hi1 hL (by decide) (by decide)) dL_law_1121 ?_
  refine lv_topi (fun x10 ex10 => ?_)
  refine va_calli (va_runV (As := [.int x8, .int x10]) (rest := []) ⟨hx, hb, hml, hown, hG⟩ (kX9_along l dC dI mr mt (mi 0) (mi 1) (mi 2) (mi 3) (mi 4) (mi 5) (mi 6) (mi 7) (mi 8) (mi 9) (mi 10) (mi 11) (mi 12) (mi 13) (mi 14) (mi 15) (mi 16) (mi 17) (mi 18) (mi 19) (ma 0) (ma 1) (ma 2) (ma 3) (ma 4) (ma 5) (ma 6) (ma 7) (ma 8) (ma 9) (ma 10) (ma 11) (ma 12) (ma 13) (ma 14) (ma 15) mJ mL x8 x10 H5.size hIM) (cwV 2 hG (goodV gw1672 gw1673 gw1674 gw138 gw1675) rfl rfl rfl hd_X9_along ⟨(Nat.le_of_ble_eq_true rfl), (Nat.le_of_ble_eq_true rfl)⟩) ⟨fbR, va_recv hKM hPM (ci := 8) (q0 := 0) rfl rfl, pR_in hPM hKM⟩ rfl rfl hl.1 rfl (lv_room (Nat.le_of_ble_eq_true rfl)) dL_law_1122 ⟨(Nat.le_of_ble_eq_true rfl), (Nat.le_of_ble_eq_true rfl)⟩) hS (fun q hq h => absurd hq (Nat.not_lt.mpr h)) (fun q h => hA q (Nat.le_trans hS.1 h)) (fun r_12 u_ t_ H11 locs ht hvm hw hB hz1 hk1 hS => ?_)
  subst hw
  have hPX := wk hPX hk1
  have hPM := wk hPM hk1
  refine lv_pop hx hb dL_law_1125 rfl ?_
  refine lv_goto (tgt := 1540) hx hb dL_law_1126 (by decide) ?_
  exact kk H11 _ _ ⟨xr, xt, xi, xa, xJ, xL, mr, mt, mi, ma, mJ, mL, hrX, hrM, hKX, hKM, hPX, hPM, hDX, hDM, hdj, hS, hIX, hWB, hRB, hBB, hIM, htm⟩ hl
set_option maxHeartbeats 4000000 in
set_option maxRecDepth 100000 in
theorem law_33 {p : Program} {e : Env} {s : State} {m : MethodId} {below : List Frame} {meth : Method} {c : Code} (l : Launch) {b L : Nat} {xs : Nat → Int32} (hL : L ≤ 3072) (C0 : lw_At p s m meth c b L xs) (dC : Nat → ClassId) (dI : Nat → Nat → Nat) (adK adV : Nat) (fS : Nat → Int32) (hZ : ZS adK adV fS (fun q : Nat => s.heap.size ≤ q) s s.heap) {aX aM : Nat} {i : Int32} (hi0 : 0 ≤ i.toInt) (hi1 : i.toInt + 6 ≤ (L : Int)) {H : Heap} {locs : List Loc} (hI : LI dC dI s aX aM H locs) {ls : Array Slot} (hl : lv_has ls 4 [(3, .int i), (2, .ref aM), (1, .ref aX), (0, .ref b)]) (kk : ∀ (H1 : Heap) (locs1 : List Loc) (ls1 : Array Slot), LI dC dI s aX aM H1 locs1 → lv_has ls1 4 [(3, .int i), (2, .ref aM), (1, .ref aX), (0, .ref b)] → W p l e room_1 s m #[Value.ref b] below meth c H1 locs1 103 20190 (lw_Z below #[Value.ref b] s) (F0 m 1540 ls1 [])) : W p l e room_1 s m #[Value.ref b] below meth c H locs 103 20190 (lw_Z below #[Value.ref b] s) (F0 m 1129 ls []) := by
  obtain ⟨hx, hb, hr, hml, hown, hts, hX, hbl, hlocks, hgv⟩ := id C0
  have hown : s.vm.findClass RL = some m.cls := hown
  have hG : ∀ w ∈ GW, w.before _ s = true := fun w h => hts w (List.mem_filter.mp h).1
  have hA : ∀ q : Nat, s.heap.size ≤ q → (fun q : Nat => s.heap.size ≤ q) q := fun _ h => h
  have hbA : ¬ (fun q : Nat => s.heap.size ≤ q) b := Nat.not_le.mpr hbl
  obtain ⟨xr, xt, xi, xa, xJ, xL, mr, mt, mi, ma, mJ, mL, hrX, hrM, hKX, hKM, hPX, hPM, hDX, hDM, hdj, hS, hIX, hWB, hRB, hBB, hIM, htm⟩ := hI
  refine lv_aload_n hx hb dL_law_1129 rfl (lv_at hl 2 rfl) ?_
  refine W.eq (g2 := F0 m 1130 ls [.ref (xr 0)]) (by rw [hrX]) ?_
  refine lv_aload_n hx hb dL_law_1130 rfl (lv_at hl 3 rfl) ?_
  refine lv_iload_n hx hb dL_law_1131 rfl (lv_at hl 0 rfl) ?_
  refine lv_iconst (v := 1) hx hb dL_law_1132 (by decide) ?_
  refine lv_iadd hx hb dL_law_1133 ?_
  refine lv_topi (fun x1 ex1 => ?_)
  refine va_sld hx hb hX hbl hbA hS (sidx ex1 hi0 hi1 hL (by decide) (by decide)) dL_law_1134 ?_
  refine lv_topi (fun x2 ex2 => ?_)
  refine lv_aload_n hx hb dL_law_1135 rfl (lv_at hl 3 rfl) ?_
  refine lv_iload_n hx hb dL_law_1136 rfl (lv_at hl 0 rfl) ?_
  refine lv_iconst (v := 2) hx hb dL_law_1137 (by decide) ?_
  refine lv_iadd hx hb dL_law_1138 ?_
  refine lv_topi (fun x3 ex3 => ?_)
  refine va_sld hx hb hX hbl hbA hS (sidx ex3 hi0 hi1 hL (by decide) (by decide)) dL_law_1139 ?_
  refine lv_topi (fun x4 ex4 => ?_)
  refine va_calli (va_runV (As := [.int x2, .int x4]) (rest := []) ⟨hx, hb, hml, hown, hG⟩ (kX8_alike l dC dI xr xt (xi 0) (xi 1) (xi 2) (xi 3) (xi 4) (xi 5) (xi 6) (xi 7) (xi 8) (xi 9) (xi 10) (xi 11) (xi 12) (xi 13) (xi 14) (xi 15) (xi 16) (xa 0) (xa 1) (xa 2) (xa 3) (xa 4) (xa 5) (xa 6) (xa 7) (xa 8) (xa 9) (xa 10) (xa 11) (xa 12) (xa 13) (xa 14) xJ xL x2 x4 H.size hIX) (cwV 2 hG (goodV gw1038 gw1039 gw1040 gw129 gw1041) rfl rfl rfl hd_X8_alike ⟨(Nat.le_of_ble_eq_true rfl), (Nat.le_of_ble_eq_true rfl)⟩) ⟨fbR, va_recv hKX hPX (ci := 7) (q0 := 0) rfl rfl, pR_in hPX hKX⟩ rfl rfl hl.1 rfl (lv_room (Nat.le_of_ble_eq_true rfl)) dL_law_1140 ⟨(Nat.le_of_ble_eq_true rfl), (Nat.le_of_ble_eq_true rfl)⟩) hS (fun q hq h => absurd hq (Nat.not_lt.mpr h)) (fun q h => hA q (Nat.le_trans hS.1 h)) (fun r_6 u_ t_ H5 locs ht hvm hw hB hz1 hk1 hS => ?_)
  subst hw
  have hPX := wk hPX hk1
  have hPM := wk hPM hk1
  refine lv_pop hx hb dL_law_1143 rfl ?_
  refine lv_aload_n hx hb dL_law_1144 rfl (lv_at hl 1 rfl) ?_
  refine W.eq (g2 := F0 m 1145 ls [.ref (mr 0)]) (by rw [hrM]) ?_
  refine lv_aload_n hx hb dL_law_1145 rfl (lv_at hl 3 rfl) ?_
  refine lv_iload_n hx hb dL_law_1146 rfl (lv_at hl 0 rfl) ?_
  refine lv_iconst (v := 1) hx hb dL_law_1147 (by decide) ?_
  refine lv_iadd hx hb dL_law_1148 ?_
  refine lv_topi (fun x7 ex7 => ?_)
  refine va_sld hx hb hX hbl hbA hS (sidx ex7 hi0 hi1 hL (by decide) (by decide)) dL_law_1149 ?_
  refine lv_topi (fun x8 ex8 => ?_)
  refine lv_aload_n hx hb dL_law_1150 rfl (lv_at hl 3 rfl) ?_
  refine lv_iload_n hx hb dL_law_1151 rfl (lv_at hl 0 rfl) ?_
  refine lv_iconst (v := 2) hx hb dL_law_1152 (by decide) ?_
  refine lv_iadd hx hb dL_law_1153 ?_
  refine lv_topi (fun x9 ex9 => ?_)
  refine va_sld hx hb hX hbl hbA hS (sidx ex9 hi0 hi1 hL (by decide) (by decide)) dL_law_1154 ?_
  refine lv_topi (fun x10 ex10 => ?_)
  refine va_calli (va_runV (As := [.int x8, .int x10]) (rest := []) ⟨hx, hb, hml, hown, hG⟩ (kX9_alike l dC dI mr mt (mi 0) (mi 1) (mi 2) (mi 3) (mi 4) (mi 5) (mi 6) (mi 7) (mi 8) (mi 9) (mi 10) (mi 11) (mi 12) (mi 13) (mi 14) (mi 15) (mi 16) (mi 17) (mi 18) (mi 19) (ma 0) (ma 1) (ma 2) (ma 3) (ma 4) (ma 5) (ma 6) (ma 7) (ma 8) (ma 9) (ma 10) (ma 11) (ma 12) (ma 13) (ma 14) (ma 15) mJ mL x8 x10 H5.size hIM) (cwV 2 hG (goodV gw1636 gw1637 gw1638 gw138 gw1639) rfl rfl rfl hd_X9_alike ⟨(Nat.le_of_ble_eq_true rfl), (Nat.le_of_ble_eq_true rfl)⟩) ⟨fbR, va_recv hKM hPM (ci := 8) (q0 := 0) rfl rfl, pR_in hPM hKM⟩ rfl rfl hl.1 rfl (lv_room (Nat.le_of_ble_eq_true rfl)) dL_law_1155 ⟨(Nat.le_of_ble_eq_true rfl), (Nat.le_of_ble_eq_true rfl)⟩) hS (fun q hq h => absurd hq (Nat.not_lt.mpr h)) (fun q h => hA q (Nat.le_trans hS.1 h)) (fun r_12 u_ t_ H11 locs ht hvm hw hB hz1 hk1 hS => ?_)
  subst hw
  have hPX := wk hPX hk1
  have hPM := wk hPM hk1
  refine lv_pop hx hb dL_law_1158 rfl ?_
  refine lv_goto (tgt := 1540) hx hb dL_law_1159 (by decide) ?_
  exact kk H11 _ _ ⟨xr, xt, xi, xa, xJ, xL, mr, mt, mi, ma, mJ, mL, hrX, hrM, hKX, hKM, hPX, hPM, hDX, hDM, hdj, hS, hIX, hWB, hRB, hBB, hIM, htm⟩ hl
set_option maxHeartbeats 4000000 in
set_option maxRecDepth 100000 in
theorem law_34 {p : Program} {e : Env} {s : State} {m : MethodId} {below : List Frame} {meth : Method} {c : Code} (l : Launch) {b L : Nat} {xs : Nat → Int32} (hL : L ≤ 3072) (C0 : lw_At p s m meth c b L xs) (dC : Nat → ClassId) (dI : Nat → Nat → Nat) (adK adV : Nat) (fS : Nat → Int32) (hZ : ZS adK adV fS (fun q : Nat => s.heap.size ≤ q) s s.heap) {aX aM : Nat} {i : Int32} (hi0 : 0 ≤ i.toInt) (hi1 : i.toInt + 6 ≤ (L : Int)) {H : Heap} {locs : List Loc} (hI : LI dC dI s aX aM H locs) {ls : Array Slot} (hl : lv_has ls 4 [(3, .int i), (2, .ref aM), (1, .ref aX), (0, .ref b)]) (kk : ∀ (H1 : Heap) (locs1 : List Loc) (ls1 : Array Slot), LI dC dI s aX aM H1 locs1 → lv_has ls1 4 [(3, .int i), (2, .ref aM), (1, .ref aX), (0, .ref b)] → W p l e room_1 s m #[Value.ref b] below meth c H1 locs1 103 20190 (lw_Z below #[Value.ref b] s) (F0 m 1540 ls1 [])) : W p l e room_1 s m #[Value.ref b] below meth c H locs 103 20190 (lw_Z below #[Value.ref b] s) (F0 m 1162 ls []) := by
  obtain ⟨hx, hb, hr, hml, hown, hts, hX, hbl, hlocks, hgv⟩ := id C0
  have hown : s.vm.findClass RL = some m.cls := hown
  have hG : ∀ w ∈ GW, w.before _ s = true := fun w h => hts w (List.mem_filter.mp h).1
  have hA : ∀ q : Nat, s.heap.size ≤ q → (fun q : Nat => s.heap.size ≤ q) q := fun _ h => h
  have hbA : ¬ (fun q : Nat => s.heap.size ≤ q) b := Nat.not_le.mpr hbl
  obtain ⟨xr, xt, xi, xa, xJ, xL, mr, mt, mi, ma, mJ, mL, hrX, hrM, hKX, hKM, hPX, hPM, hDX, hDM, hdj, hS, hIX, hWB, hRB, hBB, hIM, htm⟩ := hI
  refine lv_aload_n hx hb dL_law_1162 rfl (lv_at hl 2 rfl) ?_
  refine W.eq (g2 := F0 m 1163 ls [.ref (xr 0)]) (by rw [hrX]) ?_
  refine lv_aload_n hx hb dL_law_1163 rfl (lv_at hl 3 rfl) ?_
  refine lv_iload_n hx hb dL_law_1164 rfl (lv_at hl 0 rfl) ?_
  refine lv_iconst (v := 1) hx hb dL_law_1165 (by decide) ?_
  refine lv_iadd hx hb dL_law_1166 ?_
  refine lv_topi (fun x1 ex1 => ?_)
  refine va_sld hx hb hX hbl hbA hS (sidx ex1 hi0 hi1 hL (by decide) (by decide)) dL_law_1167 ?_
  refine lv_topi (fun x2 ex2 => ?_)
  refine lv_aload_n hx hb dL_law_1168 rfl (lv_at hl 3 rfl) ?_
  refine lv_iload_n hx hb dL_law_1169 rfl (lv_at hl 0 rfl) ?_
  refine lv_iconst (v := 2) hx hb dL_law_1170 (by decide) ?_
  refine lv_iadd hx hb dL_law_1171 ?_
  refine lv_topi (fun x3 ex3 => ?_)
  refine va_sld hx hb hX hbl hbA hS (sidx ex3 hi0 hi1 hL (by decide) (by decide)) dL_law_1172 ?_
  refine lv_topi (fun x4 ex4 => ?_)
  have hFc := frA hDX hS hA
  refine va_calli (va_runV (As := [.int x2, .int x4]) (rest := []) ⟨hx, hb, hml, hown, hG⟩ (kX8_law l dC dI xr xt (xi 0) (xi 1) (xi 2) (xi 3) (xi 4) (xi 5) (xi 6) (xi 7) (xi 8) (xi 9) (xi 10) (xi 11) (xi 12) (xi 13) (xi 14) (xi 15) (xi 16) (xa 0) (xa 1) (xa 2) (xa 3) (xa 4) (xa 5) (xa 6) (xa 7) (xa 8) (xa 9) (xa 10) (xa 11) (xa 12) (xa 13) (xa 14) xJ xL x2 x4 H.size hIX) (cwV 2 hG (goodV gw873 gw874 gw875 gw129 gw876) rfl rfl rfl hd_X8_law ⟨(Nat.le_of_ble_eq_true rfl), (Nat.le_of_ble_eq_true rfl)⟩) ⟨fbW, va_recv hKX hPX (ci := 7) (q0 := 0) rfl rfl, pW_in hPX hKX hDX⟩ rfl rfl hl.1 rfl (lv_room (Nat.le_of_ble_eq_true rfl)) dL_law_1173 ⟨(Nat.le_of_ble_eq_true rfl), (Nat.le_of_ble_eq_true rfl)⟩) hS (fun q _ h => hFc q h) hFc (fun r_6 u_ t_ H5 locs ht hvm hw hB hz1 hk1 hS => ?_)
  subst hw
  obtain ⟨n7, hP1, hD1, hIX⟩ := hB
  rw [ht] at hP1
  obtain ⟨hPM, hdj⟩ := mvO hPM hdj (fun k q hk => hD1.2 k q hk) hk1
  have hPX := hP1
  have hDX := dW hFc hD1
  refine lv_pop hx hb dL_law_1176 rfl ?_
  refine lv_aload_n hx hb dL_law_1177 rfl (lv_at hl 1 rfl) ?_
  refine W.eq (g2 := F0 m 1178 ls [.ref (mr 0)]) (by rw [hrM]) ?_
  refine lv_aload_n hx hb dL_law_1178 rfl (lv_at hl 3 rfl) ?_
  refine lv_iload_n hx hb dL_law_1179 rfl (lv_at hl 0 rfl) ?_
  refine lv_iconst (v := 1) hx hb dL_law_1180 (by decide) ?_
  refine lv_iadd hx hb dL_law_1181 ?_
  refine lv_topi (fun x8 ex8 => ?_)
  refine va_sld hx hb hX hbl hbA hS (sidx ex8 hi0 hi1 hL (by decide) (by decide)) dL_law_1182 ?_
  refine lv_topi (fun x9 ex9 => ?_)
  refine lv_aload_n hx hb dL_law_1183 rfl (lv_at hl 3 rfl) ?_
  refine lv_iload_n hx hb dL_law_1184 rfl (lv_at hl 0 rfl) ?_
  refine lv_iconst (v := 2) hx hb dL_law_1185 (by decide) ?_
  refine lv_iadd hx hb dL_law_1186 ?_
  refine lv_topi (fun x10 ex10 => ?_)
  refine va_sld hx hb hX hbl hbA hS (sidx ex10 hi0 hi1 hL (by decide) (by decide)) dL_law_1187 ?_
  refine lv_topi (fun x11 ex11 => ?_)
  have hFc := frA hDM hS hA
  refine va_calli (va_runV (As := [.int x9, .int x11]) (rest := []) ⟨hx, hb, hml, hown, hG⟩ (kX9_law l dC dI mr mt (mi 0) (mi 1) (mi 2) (mi 3) (mi 4) (mi 5) (mi 6) (mi 7) (mi 8) (mi 9) (mi 10) (mi 11) (mi 12) (mi 13) (mi 14) (mi 15) (mi 16) (mi 17) (mi 18) (mi 19) (ma 0) (ma 1) (ma 2) (ma 3) (ma 4) (ma 5) (ma 6) (ma 7) (ma 8) (ma 9) (ma 10) (ma 11) (ma 12) (ma 13) (ma 14) (ma 15) mJ mL x9 x11 H5.size hIM) (cwV 2 hG (goodV gw1614 gw1615 gw1616 gw138 gw1617) rfl rfl rfl hd_X9_law ⟨(Nat.le_of_ble_eq_true rfl), (Nat.le_of_ble_eq_true rfl)⟩) ⟨fbW, va_recv hKM hPM (ci := 8) (q0 := 0) rfl rfl, pW_in hPM hKM hDM⟩ rfl rfl hl.1 rfl (lv_room (Nat.le_of_ble_eq_true rfl)) dL_law_1188 ⟨(Nat.le_of_ble_eq_true rfl), (Nat.le_of_ble_eq_true rfl)⟩) hS (fun q _ h => hFc q h) hFc (fun r_13 u_ t_ H12 locs ht hvm hw hB hz1 hk1 hS => ?_)
  subst hw
  obtain ⟨n14, n15, n16, n17, hP1, hD1, hIM⟩ := hB
  rw [ht] at hP1
  obtain ⟨hPX, hdj⟩ := mvO hPX (dj_sym hdj) (fun k q hk => hD1.2 k q hk) hk1
  have hdj := dj_sym hdj
  have hPM := hP1
  have hDM := dW hFc hD1
  refine lv_pop hx hb dL_law_1191 rfl ?_
  refine lv_goto (tgt := 1540) hx hb dL_law_1192 (by decide) ?_
  exact kk H12 _ _ ⟨xr, xt, xi, xa, n7, xL, mr, mt, (fun k => ([(mi 0), (mi 1), (mi 2), (mi 3), (mi 4), (mi 5), (mi 6), (mi 7), (mi 8), (mi 9), (mi 10), (mi 11), (mi 12), n14, n15, (mi 15), (mi 16), (mi 17), (mi 18), (mi 19)] : List Int32).getD k 0), (fun k => ([(ma 0), (ma 1), (ma 2), (ma 3), (ma 4), (ma 5), (ma 6), (ma 7), (ma 8), (ma 9), (ma 10), n16, (ma 12), (ma 13), (ma 14), (ma 15)] : List (Nat → Int32)).getD k (fun _ => 0)), n17, mL, hrX, hrM, hKX, hKM, hPX, hPM, hDX, hDM, hdj, hS, hIX, hWB, hRB, hBB, hIM, htm⟩ hl
set_option maxHeartbeats 4000000 in
set_option maxRecDepth 100000 in
theorem law_35 {p : Program} {e : Env} {s : State} {m : MethodId} {below : List Frame} {meth : Method} {c : Code} (l : Launch) {b L : Nat} {xs : Nat → Int32} (hL : L ≤ 3072) (C0 : lw_At p s m meth c b L xs) (dC : Nat → ClassId) (dI : Nat → Nat → Nat) (adK adV : Nat) (fS : Nat → Int32) (hZ : ZS adK adV fS (fun q : Nat => s.heap.size ≤ q) s s.heap) {aX aM : Nat} {i : Int32} (hi0 : 0 ≤ i.toInt) (hi1 : i.toInt + 6 ≤ (L : Int)) {H : Heap} {locs : List Loc} (hI : LI dC dI s aX aM H locs) {ls : Array Slot} (hl : lv_has ls 4 [(3, .int i), (2, .ref aM), (1, .ref aX), (0, .ref b)]) (kk : ∀ (H1 : Heap) (locs1 : List Loc) (ls1 : Array Slot), LI dC dI s aX aM H1 locs1 → lv_has ls1 4 [(3, .int i), (2, .ref aM), (1, .ref aX), (0, .ref b)] → W p l e room_1 s m #[Value.ref b] below meth c H1 locs1 103 20190 (lw_Z below #[Value.ref b] s) (F0 m 1540 ls1 [])) : W p l e room_1 s m #[Value.ref b] below meth c H locs 103 20190 (lw_Z below #[Value.ref b] s) (F0 m 1195 ls []) := by
  obtain ⟨hx, hb, hr, hml, hown, hts, hX, hbl, hlocks, hgv⟩ := id C0
  have hown : s.vm.findClass RL = some m.cls := hown
  have hG : ∀ w ∈ GW, w.before _ s = true := fun w h => hts w (List.mem_filter.mp h).1
  have hA : ∀ q : Nat, s.heap.size ≤ q → (fun q : Nat => s.heap.size ≤ q) q := fun _ h => h
  have hbA : ¬ (fun q : Nat => s.heap.size ≤ q) b := Nat.not_le.mpr hbl
  obtain ⟨xr, xt, xi, xa, xJ, xL, mr, mt, mi, ma, mJ, mL, hrX, hrM, hKX, hKM, hPX, hPM, hDX, hDM, hdj, hS, hIX, hWB, hRB, hBB, hIM, htm⟩ := hI
  refine lv_aload_n hx hb dL_law_1195 rfl (lv_at hl 2 rfl) ?_
  refine W.eq (g2 := F0 m 1196 ls [.ref (xr 0)]) (by rw [hrX]) ?_
  have hFc := frA hDX hS hA
  refine va_calli (va_runV (As := []) (rest := []) ⟨hx, hb, hml, hown, hG⟩ (kX8_favourite l dC dI xr xt (xi 0) (xi 1) (xi 2) (xi 3) (xi 4) (xi 5) (xi 6) (xi 7) (xi 8) (xi 9) (xi 10) (xi 11) (xi 12) (xi 13) (xi 14) (xi 15) (xi 16) (xa 0) (xa 1) (xa 2) (xa 3) (xa 4) (xa 5) (xa 6) (xa 7) (xa 8) (xa 9) (xa 10) (xa 11) (xa 12) (xa 13) (xa 14) xJ xL H.size hIX) (cwV 0 hG (goodV gw887 gw888 gw889 gw129 gw890) rfl rfl rfl hd_X8_favourite ⟨(Nat.le_of_ble_eq_true rfl), (Nat.le_of_ble_eq_true rfl)⟩) ⟨fbW, va_recv hKX hPX (ci := 7) (q0 := 0) rfl rfl, pW_in hPX hKX hDX⟩ rfl rfl hl.1 rfl (lv_room (Nat.le_of_ble_eq_true rfl)) dL_law_1196 ⟨(Nat.le_of_ble_eq_true rfl), (Nat.le_of_ble_eq_true rfl)⟩) hS (fun q _ h => hFc q h) hFc (fun r_2 u_ t_ H1 locs ht hvm hw hB hz1 hk1 hS => ?_)
  subst hw
  obtain ⟨n3, hP1, hD1, hIX⟩ := hB
  rw [ht] at hP1
  obtain ⟨hPM, hdj⟩ := mvO hPM hdj (fun k q hk => hD1.2 k q hk) hk1
  have hPX := hP1
  have hDX := dW hFc hD1
  refine lv_pop hx hb dL_law_1199 rfl ?_
  refine lv_aload_n hx hb dL_law_1200 rfl (lv_at hl 1 rfl) ?_
  refine W.eq (g2 := F0 m 1201 ls [.ref (mr 0)]) (by rw [hrM]) ?_
  have hFc := frA hDM hS hA
  refine va_calli (va_runV (As := []) (rest := []) ⟨hx, hb, hml, hown, hG⟩ (kX9_favourite l dC dI mr mt (mi 0) (mi 1) (mi 2) (mi 3) (mi 4) (mi 5) (mi 6) (mi 7) (mi 8) (mi 9) (mi 10) (mi 11) (mi 12) (mi 13) (mi 14) (mi 15) (mi 16) (mi 17) (mi 18) (mi 19) (ma 0) (ma 1) (ma 2) (ma 3) (ma 4) (ma 5) (ma 6) (ma 7) (ma 8) (ma 9) (ma 10) (ma 11) (ma 12) (ma 13) (ma 14) (ma 15) mJ mL H1.size hIM) (cwV 0 hG (goodV gw1648 gw1649 gw1650 gw138 gw1651) rfl rfl rfl hd_X9_favourite ⟨(Nat.le_of_ble_eq_true rfl), (Nat.le_of_ble_eq_true rfl)⟩) ⟨fbW, va_recv hKM hPM (ci := 8) (q0 := 0) rfl rfl, pW_in hPM hKM hDM⟩ rfl rfl hl.1 rfl (lv_room (Nat.le_of_ble_eq_true rfl)) dL_law_1201 ⟨(Nat.le_of_ble_eq_true rfl), (Nat.le_of_ble_eq_true rfl)⟩) hS (fun q _ h => hFc q h) hFc (fun r_5 u_ t_ H4 locs ht hvm hw hB hz1 hk1 hS => ?_)
  subst hw
  obtain ⟨n6, n7, n8, hP1, hD1, hIM⟩ := hB
  rw [ht] at hP1
  obtain ⟨hPX, hdj⟩ := mvO hPX (dj_sym hdj) (fun k q hk => hD1.2 k q hk) hk1
  have hdj := dj_sym hdj
  have hPM := hP1
  have hDM := dW hFc hD1
  refine lv_pop hx hb dL_law_1204 rfl ?_
  refine lv_goto (tgt := 1540) hx hb dL_law_1205 (by decide) ?_
  exact kk H4 _ _ ⟨xr, xt, xi, xa, n3, xL, mr, mt, (fun k => ([(mi 0), (mi 1), (mi 2), (mi 3), (mi 4), (mi 5), (mi 6), (mi 7), (mi 8), (mi 9), (mi 10), (mi 11), (mi 12), n6, n7, (mi 15), (mi 16), (mi 17), (mi 18), (mi 19)] : List Int32).getD k 0), ma, n8, mL, hrX, hrM, hKX, hKM, hPX, hPM, hDX, hDM, hdj, hS, hIX, hWB, hRB, hBB, hIM, htm⟩ hl
set_option maxHeartbeats 4000000 in
set_option maxRecDepth 100000 in
theorem law_36 {p : Program} {e : Env} {s : State} {m : MethodId} {below : List Frame} {meth : Method} {c : Code} (l : Launch) {b L : Nat} {xs : Nat → Int32} (hL : L ≤ 3072) (C0 : lw_At p s m meth c b L xs) (dC : Nat → ClassId) (dI : Nat → Nat → Nat) (adK adV : Nat) (fS : Nat → Int32) (hZ : ZS adK adV fS (fun q : Nat => s.heap.size ≤ q) s s.heap) {aX aM : Nat} {i : Int32} (hi0 : 0 ≤ i.toInt) (hi1 : i.toInt + 6 ≤ (L : Int)) {H : Heap} {locs : List Loc} (hI : LI dC dI s aX aM H locs) {ls : Array Slot} (hl : lv_has ls 4 [(3, .int i), (2, .ref aM), (1, .ref aX), (0, .ref b)]) (kk : ∀ (H1 : Heap) (locs1 : List Loc) (ls1 : Array Slot), LI dC dI s aX aM H1 locs1 → lv_has ls1 4 [(3, .int i), (2, .ref aM), (1, .ref aX), (0, .ref b)] → W p l e room_1 s m #[Value.ref b] below meth c H1 locs1 103 20190 (lw_Z below #[Value.ref b] s) (F0 m 1540 ls1 [])) : W p l e room_1 s m #[Value.ref b] below meth c H locs 103 20190 (lw_Z below #[Value.ref b] s) (F0 m 1208 ls []) := by
  obtain ⟨hx, hb, hr, hml, hown, hts, hX, hbl, hlocks, hgv⟩ := id C0
  have hown : s.vm.findClass RL = some m.cls := hown
  have hG : ∀ w ∈ GW, w.before _ s = true := fun w h => hts w (List.mem_filter.mp h).1
  have hA : ∀ q : Nat, s.heap.size ≤ q → (fun q : Nat => s.heap.size ≤ q) q := fun _ h => h
  have hbA : ¬ (fun q : Nat => s.heap.size ≤ q) b := Nat.not_le.mpr hbl
  obtain ⟨xr, xt, xi, xa, xJ, xL, mr, mt, mi, ma, mJ, mL, hrX, hrM, hKX, hKM, hPX, hPM, hDX, hDM, hdj, hS, hIX, hWB, hRB, hBB, hIM, htm⟩ := hI
  refine lv_aload_n hx hb dL_law_1208 rfl (lv_at hl 2 rfl) ?_
  refine W.eq (g2 := F0 m 1209 ls [.ref (xr 0)]) (by rw [hrX]) ?_
  refine va_calli (va_runV (As := []) (rest := []) ⟨hx, hb, hml, hown, hG⟩ (kX8_earned l dC dI xr xt (xi 0) (xi 1) (xi 2) (xi 3) (xi 4) (xi 5) (xi 6) (xi 7) (xi 8) (xi 9) (xi 10) (xi 11) (xi 12) (xi 13) (xi 14) (xi 15) (xi 16) (xa 0) (xa 1) (xa 2) (xa 3) (xa 4) (xa 5) (xa 6) (xa 7) (xa 8) (xa 9) (xa 10) (xa 11) (xa 12) (xa 13) (xa 14) xJ xL H.size hIX) (cwV 0 hG (goodV gw989 gw990 gw991 gw129 gw992) rfl rfl rfl hd_X8_earned ⟨(Nat.le_of_ble_eq_true rfl), (Nat.le_of_ble_eq_true rfl)⟩) ⟨fbR, va_recv hKX hPX (ci := 7) (q0 := 0) rfl rfl, pR_in hPX hKX⟩ rfl rfl hl.1 rfl (lv_room (Nat.le_of_ble_eq_true rfl)) dL_law_1209 ⟨(Nat.le_of_ble_eq_true rfl), (Nat.le_of_ble_eq_true rfl)⟩) hS (fun q hq h => absurd hq (Nat.not_lt.mpr h)) (fun q h => hA q (Nat.le_trans hS.1 h)) (fun r_2 u_ t_ H1 locs ht hvm hw hB hz1 hk1 hS => ?_)
  subst hw
  have hPX := wk hPX hk1
  have hPM := wk hPM hk1
  refine lv_pop hx hb dL_law_1212 rfl ?_
  refine lv_aload_n hx hb dL_law_1213 rfl (lv_at hl 1 rfl) ?_
  refine W.eq (g2 := F0 m 1214 ls [.ref (mr 0)]) (by rw [hrM]) ?_
  refine va_calli (va_runV (As := []) (rest := []) ⟨hx, hb, hml, hown, hG⟩ (kX9_earned l dC dI mr mt (mi 0) (mi 1) (mi 2) (mi 3) (mi 4) (mi 5) (mi 6) (mi 7) (mi 8) (mi 9) (mi 10) (mi 11) (mi 12) (mi 13) (mi 14) (mi 15) (mi 16) (mi 17) (mi 18) (mi 19) (ma 0) (ma 1) (ma 2) (ma 3) (ma 4) (ma 5) (ma 6) (ma 7) (ma 8) (ma 9) (ma 10) (ma 11) (ma 12) (ma 13) (ma 14) (ma 15) mJ mL H1.size hIM) (cwV 0 hG (goodV gw1676 gw1677 gw1678 gw138 gw1679) rfl rfl rfl hd_X9_earned ⟨(Nat.le_of_ble_eq_true rfl), (Nat.le_of_ble_eq_true rfl)⟩) ⟨fbR, va_recv hKM hPM (ci := 8) (q0 := 0) rfl rfl, pR_in hPM hKM⟩ rfl rfl hl.1 rfl (lv_room (Nat.le_of_ble_eq_true rfl)) dL_law_1214 ⟨(Nat.le_of_ble_eq_true rfl), (Nat.le_of_ble_eq_true rfl)⟩) hS (fun q hq h => absurd hq (Nat.not_lt.mpr h)) (fun q h => hA q (Nat.le_trans hS.1 h)) (fun r_4 u_ t_ H3 locs ht hvm hw hB hz1 hk1 hS => ?_)
  subst hw
  have hPX := wk hPX hk1
  have hPM := wk hPM hk1
  refine lv_pop hx hb dL_law_1217 rfl ?_
  refine lv_goto (tgt := 1540) hx hb dL_law_1218 (by decide) ?_
  exact kk H3 _ _ ⟨xr, xt, xi, xa, xJ, xL, mr, mt, mi, ma, mJ, mL, hrX, hrM, hKX, hKM, hPX, hPM, hDX, hDM, hdj, hS, hIX, hWB, hRB, hBB, hIM, htm⟩ hl
set_option maxHeartbeats 4000000 in
set_option maxRecDepth 100000 in
theorem law_37 {p : Program} {e : Env} {s : State} {m : MethodId} {below : List Frame} {meth : Method} {c : Code} (l : Launch) {b L : Nat} {xs : Nat → Int32} (hL : L ≤ 3072) (C0 : lw_At p s m meth c b L xs) (dC : Nat → ClassId) (dI : Nat → Nat → Nat) (adK adV : Nat) (fS : Nat → Int32) (hZ : ZS adK adV fS (fun q : Nat => s.heap.size ≤ q) s s.heap) {aX aM : Nat} {i : Int32} (hi0 : 0 ≤ i.toInt) (hi1 : i.toInt + 6 ≤ (L : Int)) {H : Heap} {locs : List Loc} (hI : LI dC dI s aX aM H locs) {ls : Array Slot} (hl : lv_has ls 4 [(3, .int i), (2, .ref aM), (1, .ref aX), (0, .ref b)]) (kk : ∀ (H1 : Heap) (locs1 : List Loc) (ls1 : Array Slot), LI dC dI s aX aM H1 locs1 → lv_has ls1 4 [(3, .int i), (2, .ref aM), (1, .ref aX), (0, .ref b)] → W p l e room_1 s m #[Value.ref b] below meth c H1 locs1 103 20190 (lw_Z below #[Value.ref b] s) (F0 m 1540 ls1 [])) : W p l e room_1 s m #[Value.ref b] below meth c H locs 103 20190 (lw_Z below #[Value.ref b] s) (F0 m 1221 ls []) := by
  obtain ⟨hx, hb, hr, hml, hown, hts, hX, hbl, hlocks, hgv⟩ := id C0
  have hown : s.vm.findClass RL = some m.cls := hown
  have hG : ∀ w ∈ GW, w.before _ s = true := fun w h => hts w (List.mem_filter.mp h).1
  have hA : ∀ q : Nat, s.heap.size ≤ q → (fun q : Nat => s.heap.size ≤ q) q := fun _ h => h
  have hbA : ¬ (fun q : Nat => s.heap.size ≤ q) b := Nat.not_le.mpr hbl
  obtain ⟨xr, xt, xi, xa, xJ, xL, mr, mt, mi, ma, mJ, mL, hrX, hrM, hKX, hKM, hPX, hPM, hDX, hDM, hdj, hS, hIX, hWB, hRB, hBB, hIM, htm⟩ := hI
  refine lv_aload_n hx hb dL_law_1221 rfl (lv_at hl 2 rfl) ?_
  refine W.eq (g2 := F0 m 1222 ls [.ref (xr 0)]) (by rw [hrX]) ?_
  refine lv_aload_n hx hb dL_law_1222 rfl (lv_at hl 3 rfl) ?_
  refine lv_iload_n hx hb dL_law_1223 rfl (lv_at hl 0 rfl) ?_
  refine lv_iconst (v := 1) hx hb dL_law_1224 (by decide) ?_
  refine lv_iadd hx hb dL_law_1225 ?_
  refine lv_topi (fun x1 ex1 => ?_)
  refine va_sld hx hb hX hbl hbA hS (sidx ex1 hi0 hi1 hL (by decide) (by decide)) dL_law_1226 ?_
  refine lv_topi (fun x2 ex2 => ?_)
  refine lv_aload_n hx hb dL_law_1227 rfl (lv_at hl 3 rfl) ?_
  refine lv_iload_n hx hb dL_law_1228 rfl (lv_at hl 0 rfl) ?_
  refine lv_iconst (v := 2) hx hb dL_law_1229 (by decide) ?_
  refine lv_iadd hx hb dL_law_1230 ?_
  refine lv_topi (fun x3 ex3 => ?_)
  refine va_sld hx hb hX hbl hbA hS (sidx ex3 hi0 hi1 hL (by decide) (by decide)) dL_law_1231 ?_
  refine lv_topi (fun x4 ex4 => ?_)
  refine va_calli (va_runV (As := [.int x2, .int x4]) (rest := []) ⟨hx, hb, hml, hown, hG⟩ (kX8_odds l dC dI xr xt (xi 0) (xi 1) (xi 2) (xi 3) (xi 4) (xi 5) (xi 6) (xi 7) (xi 8) (xi 9) (xi 10) (xi 11) (xi 12) (xi 13) (xi 14) (xi 15) (xi 16) (xa 0) (xa 1) (xa 2) (xa 3) (xa 4) (xa 5) (xa 6) (xa 7) (xa 8) (xa 9) (xa 10) (xa 11) (xa 12) (xa 13) (xa 14) xJ xL x2 x4 H.size hIX) (cwV 2 hG (goodV gw1042 gw1043 gw1044 gw129 gw1045) rfl rfl rfl hd_X8_odds ⟨(Nat.le_of_ble_eq_true rfl), (Nat.le_of_ble_eq_true rfl)⟩) ⟨fbR, va_recv hKX hPX (ci := 7) (q0 := 0) rfl rfl, pR_in hPX hKX⟩ rfl rfl hl.1 rfl (lv_room (Nat.le_of_ble_eq_true rfl)) dL_law_1232 ⟨(Nat.le_of_ble_eq_true rfl), (Nat.le_of_ble_eq_true rfl)⟩) hS (fun q hq h => absurd hq (Nat.not_lt.mpr h)) (fun q h => hA q (Nat.le_trans hS.1 h)) (fun r_6 u_ t_ H5 locs ht hvm hw hB hz1 hk1 hS => ?_)
  subst hw
  have hPX := wk hPX hk1
  have hPM := wk hPM hk1
  refine lv_pop hx hb dL_law_1235 rfl ?_
  refine lv_aload_n hx hb dL_law_1236 rfl (lv_at hl 1 rfl) ?_
  refine W.eq (g2 := F0 m 1237 ls [.ref (mr 0)]) (by rw [hrM]) ?_
  refine lv_aload_n hx hb dL_law_1237 rfl (lv_at hl 3 rfl) ?_
  refine lv_iload_n hx hb dL_law_1238 rfl (lv_at hl 0 rfl) ?_
  refine lv_iconst (v := 1) hx hb dL_law_1239 (by decide) ?_
  refine lv_iadd hx hb dL_law_1240 ?_
  refine lv_topi (fun x7 ex7 => ?_)
  refine va_sld hx hb hX hbl hbA hS (sidx ex7 hi0 hi1 hL (by decide) (by decide)) dL_law_1241 ?_
  refine lv_topi (fun x8 ex8 => ?_)
  refine lv_aload_n hx hb dL_law_1242 rfl (lv_at hl 3 rfl) ?_
  refine lv_iload_n hx hb dL_law_1243 rfl (lv_at hl 0 rfl) ?_
  refine lv_iconst (v := 2) hx hb dL_law_1244 (by decide) ?_
  refine lv_iadd hx hb dL_law_1245 ?_
  refine lv_topi (fun x9 ex9 => ?_)
  refine va_sld hx hb hX hbl hbA hS (sidx ex9 hi0 hi1 hL (by decide) (by decide)) dL_law_1246 ?_
  refine lv_topi (fun x10 ex10 => ?_)
  refine va_calli (va_runV (As := [.int x8, .int x10]) (rest := []) ⟨hx, hb, hml, hown, hG⟩ (kX9_odds l dC dI mr mt (mi 0) (mi 1) (mi 2) (mi 3) (mi 4) (mi 5) (mi 6) (mi 7) (mi 8) (mi 9) (mi 10) (mi 11) (mi 12) (mi 13) (mi 14) (mi 15) (mi 16) (mi 17) (mi 18) (mi 19) (ma 0) (ma 1) (ma 2) (ma 3) (ma 4) (ma 5) (ma 6) (ma 7) (ma 8) (ma 9) (ma 10) (ma 11) (ma 12) (ma 13) (ma 14) (ma 15) mJ mL x8 x10 H5.size hIM) (cwV 2 hG (goodV gw1810 gw1811 gw1812 gw138 gw1813) rfl rfl rfl hd_X9_odds ⟨(Nat.le_of_ble_eq_true rfl), (Nat.le_of_ble_eq_true rfl)⟩) ⟨fbR, va_recv hKM hPM (ci := 8) (q0 := 0) rfl rfl, pR_in hPM hKM⟩ rfl rfl hl.1 rfl (lv_room (Nat.le_of_ble_eq_true rfl)) dL_law_1247 ⟨(Nat.le_of_ble_eq_true rfl), (Nat.le_of_ble_eq_true rfl)⟩) hS (fun q hq h => absurd hq (Nat.not_lt.mpr h)) (fun q h => hA q (Nat.le_trans hS.1 h)) (fun r_12 u_ t_ H11 locs ht hvm hw hB hz1 hk1 hS => ?_)
  subst hw
  have hPX := wk hPX hk1
  have hPM := wk hPM hk1
  refine lv_pop hx hb dL_law_1250 rfl ?_
  refine lv_goto (tgt := 1540) hx hb dL_law_1251 (by decide) ?_
  exact kk H11 _ _ ⟨xr, xt, xi, xa, xJ, xL, mr, mt, mi, ma, mJ, mL, hrX, hrM, hKX, hKM, hPX, hPM, hDX, hDM, hdj, hS, hIX, hWB, hRB, hBB, hIM, htm⟩ hl
set_option maxHeartbeats 4000000 in
set_option maxRecDepth 100000 in
theorem law_38 {p : Program} {e : Env} {s : State} {m : MethodId} {below : List Frame} {meth : Method} {c : Code} (l : Launch) {b L : Nat} {xs : Nat → Int32} (hL : L ≤ 3072) (C0 : lw_At p s m meth c b L xs) (dC : Nat → ClassId) (dI : Nat → Nat → Nat) (adK adV : Nat) (fS : Nat → Int32) (hZ : ZS adK adV fS (fun q : Nat => s.heap.size ≤ q) s s.heap) {aX aM : Nat} {i : Int32} (hi0 : 0 ≤ i.toInt) (hi1 : i.toInt + 6 ≤ (L : Int)) {H : Heap} {locs : List Loc} (hI : LI dC dI s aX aM H locs) {ls : Array Slot} (hl : lv_has ls 4 [(3, .int i), (2, .ref aM), (1, .ref aX), (0, .ref b)]) (kk : ∀ (H1 : Heap) (locs1 : List Loc) (ls1 : Array Slot), LI dC dI s aX aM H1 locs1 → lv_has ls1 4 [(3, .int i), (2, .ref aM), (1, .ref aX), (0, .ref b)] → W p l e room_1 s m #[Value.ref b] below meth c H1 locs1 103 20190 (lw_Z below #[Value.ref b] s) (F0 m 1540 ls1 [])) : W p l e room_1 s m #[Value.ref b] below meth c H locs 103 20190 (lw_Z below #[Value.ref b] s) (F0 m 1254 ls []) := by
  obtain ⟨hx, hb, hr, hml, hown, hts, hX, hbl, hlocks, hgv⟩ := id C0
  have hown : s.vm.findClass RL = some m.cls := hown
  have hG : ∀ w ∈ GW, w.before _ s = true := fun w h => hts w (List.mem_filter.mp h).1
  have hA : ∀ q : Nat, s.heap.size ≤ q → (fun q : Nat => s.heap.size ≤ q) q := fun _ h => h
  have hbA : ¬ (fun q : Nat => s.heap.size ≤ q) b := Nat.not_le.mpr hbl
  obtain ⟨xr, xt, xi, xa, xJ, xL, mr, mt, mi, ma, mJ, mL, hrX, hrM, hKX, hKM, hPX, hPM, hDX, hDM, hdj, hS, hIX, hWB, hRB, hBB, hIM, htm⟩ := hI
  refine lv_aload_n hx hb dL_law_1254 rfl (lv_at hl 2 rfl) ?_
  refine W.eq (g2 := F0 m 1255 ls [.ref (xr 0)]) (by rw [hrX]) ?_
  refine lv_aload_n hx hb dL_law_1255 rfl (lv_at hl 3 rfl) ?_
  refine lv_iload_n hx hb dL_law_1256 rfl (lv_at hl 0 rfl) ?_
  refine lv_iconst (v := 1) hx hb dL_law_1257 (by decide) ?_
  refine lv_iadd hx hb dL_law_1258 ?_
  refine lv_topi (fun x1 ex1 => ?_)
  refine va_sld hx hb hX hbl hbA hS (sidx ex1 hi0 hi1 hL (by decide) (by decide)) dL_law_1259 ?_
  refine lv_topi (fun x2 ex2 => ?_)
  refine va_calli (va_runV (As := [.int x2]) (rest := []) ⟨hx, hb, hml, hown, hG⟩ (kX8_lies l dC dI xr xt (xi 0) (xi 1) (xi 2) (xi 3) (xi 4) (xi 5) (xi 6) (xi 7) (xi 8) (xi 9) (xi 10) (xi 11) (xi 12) (xi 13) (xi 14) (xi 15) (xi 16) (xa 0) (xa 1) (xa 2) (xa 3) (xa 4) (xa 5) (xa 6) (xa 7) (xa 8) (xa 9) (xa 10) (xa 11) (xa 12) (xa 13) (xa 14) xJ xL x2 H.size hIX) (cwV 1 hG (goodV gw1049 gw1050 gw1051 gw129 gw1052) rfl rfl rfl hd_X8_lies ⟨(Nat.le_of_ble_eq_true rfl), (Nat.le_of_ble_eq_true rfl)⟩) ⟨fbR, va_recv hKX hPX (ci := 7) (q0 := 0) rfl rfl, pR_in hPX hKX⟩ rfl rfl hl.1 rfl (lv_room (Nat.le_of_ble_eq_true rfl)) dL_law_1260 ⟨(Nat.le_of_ble_eq_true rfl), (Nat.le_of_ble_eq_true rfl)⟩) hS (fun q hq h => absurd hq (Nat.not_lt.mpr h)) (fun q h => hA q (Nat.le_trans hS.1 h)) (fun r_4 u_ t_ H3 locs ht hvm hw hB hz1 hk1 hS => ?_)
  subst hw
  have hPX := wk hPX hk1
  have hPM := wk hPM hk1
  refine lv_pop hx hb dL_law_1263 rfl ?_
  refine lv_aload_n hx hb dL_law_1264 rfl (lv_at hl 1 rfl) ?_
  refine W.eq (g2 := F0 m 1265 ls [.ref (mr 0)]) (by rw [hrM]) ?_
  refine lv_aload_n hx hb dL_law_1265 rfl (lv_at hl 3 rfl) ?_
  refine lv_iload_n hx hb dL_law_1266 rfl (lv_at hl 0 rfl) ?_
  refine lv_iconst (v := 1) hx hb dL_law_1267 (by decide) ?_
  refine lv_iadd hx hb dL_law_1268 ?_
  refine lv_topi (fun x5 ex5 => ?_)
  refine va_sld hx hb hX hbl hbA hS (sidx ex5 hi0 hi1 hL (by decide) (by decide)) dL_law_1269 ?_
  refine lv_topi (fun x6 ex6 => ?_)
  refine va_calli (va_runV (As := [.int x6]) (rest := []) ⟨hx, hb, hml, hown, hG⟩ (kX9_lies l dC dI mr mt (mi 0) (mi 1) (mi 2) (mi 3) (mi 4) (mi 5) (mi 6) (mi 7) (mi 8) (mi 9) (mi 10) (mi 11) (mi 12) (mi 13) (mi 14) (mi 15) (mi 16) (mi 17) (mi 18) (mi 19) (ma 0) (ma 1) (ma 2) (ma 3) (ma 4) (ma 5) (ma 6) (ma 7) (ma 8) (ma 9) (ma 10) (ma 11) (ma 12) (ma 13) (ma 14) (ma 15) mJ mL x6 H3.size hIM) (cwV 1 hG (goodV gw1748 gw1749 gw1750 gw138 gw1751) rfl rfl rfl hd_X9_lies ⟨(Nat.le_of_ble_eq_true rfl), (Nat.le_of_ble_eq_true rfl)⟩) ⟨fbR, va_recv hKM hPM (ci := 8) (q0 := 0) rfl rfl, pR_in hPM hKM⟩ rfl rfl hl.1 rfl (lv_room (Nat.le_of_ble_eq_true rfl)) dL_law_1270 ⟨(Nat.le_of_ble_eq_true rfl), (Nat.le_of_ble_eq_true rfl)⟩) hS (fun q hq h => absurd hq (Nat.not_lt.mpr h)) (fun q h => hA q (Nat.le_trans hS.1 h)) (fun r_8 u_ t_ H7 locs ht hvm hw hB hz1 hk1 hS => ?_)
  subst hw
  have hPX := wk hPX hk1
  have hPM := wk hPM hk1
  refine lv_pop hx hb dL_law_1273 rfl ?_
  refine lv_goto (tgt := 1540) hx hb dL_law_1274 (by decide) ?_
  exact kk H7 _ _ ⟨xr, xt, xi, xa, xJ, xL, mr, mt, mi, ma, mJ, mL, hrX, hrM, hKX, hKM, hPX, hPM, hDX, hDM, hdj, hS, hIX, hWB, hRB, hBB, hIM, htm⟩ hl
set_option maxHeartbeats 4000000 in
set_option maxRecDepth 100000 in
theorem law_39 {p : Program} {e : Env} {s : State} {m : MethodId} {below : List Frame} {meth : Method} {c : Code} (l : Launch) {b L : Nat} {xs : Nat → Int32} (hL : L ≤ 3072) (C0 : lw_At p s m meth c b L xs) (dC : Nat → ClassId) (dI : Nat → Nat → Nat) (adK adV : Nat) (fS : Nat → Int32) (hZ : ZS adK adV fS (fun q : Nat => s.heap.size ≤ q) s s.heap) {aX aM : Nat} {i : Int32} (hi0 : 0 ≤ i.toInt) (hi1 : i.toInt + 6 ≤ (L : Int)) {H : Heap} {locs : List Loc} (hI : LI dC dI s aX aM H locs) {ls : Array Slot} (hl : lv_has ls 4 [(3, .int i), (2, .ref aM), (1, .ref aX), (0, .ref b)]) (kk : ∀ (H1 : Heap) (locs1 : List Loc) (ls1 : Array Slot), LI dC dI s aX aM H1 locs1 → lv_has ls1 4 [(3, .int i), (2, .ref aM), (1, .ref aX), (0, .ref b)] → W p l e room_1 s m #[Value.ref b] below meth c H1 locs1 103 20190 (lw_Z below #[Value.ref b] s) (F0 m 1540 ls1 [])) : W p l e room_1 s m #[Value.ref b] below meth c H locs 103 20190 (lw_Z below #[Value.ref b] s) (F0 m 1277 ls []) := by
  obtain ⟨hx, hb, hr, hml, hown, hts, hX, hbl, hlocks, hgv⟩ := id C0
  have hown : s.vm.findClass RL = some m.cls := hown
  have hG : ∀ w ∈ GW, w.before _ s = true := fun w h => hts w (List.mem_filter.mp h).1
  have hA : ∀ q : Nat, s.heap.size ≤ q → (fun q : Nat => s.heap.size ≤ q) q := fun _ h => h
  have hbA : ¬ (fun q : Nat => s.heap.size ≤ q) b := Nat.not_le.mpr hbl
  obtain ⟨xr, xt, xi, xa, xJ, xL, mr, mt, mi, ma, mJ, mL, hrX, hrM, hKX, hKM, hPX, hPM, hDX, hDM, hdj, hS, hIX, hWB, hRB, hBB, hIM, htm⟩ := hI
  refine lv_aload_n hx hb dL_law_1277 rfl (lv_at hl 2 rfl) ?_
  refine W.eq (g2 := F0 m 1278 ls [.ref (xr 0)]) (by rw [hrX]) ?_
  refine lv_aload_n hx hb dL_law_1278 rfl (lv_at hl 3 rfl) ?_
  refine lv_iload_n hx hb dL_law_1279 rfl (lv_at hl 0 rfl) ?_
  refine lv_iconst (v := 1) hx hb dL_law_1280 (by decide) ?_
  refine lv_iadd hx hb dL_law_1281 ?_
  refine lv_topi (fun x1 ex1 => ?_)
  refine va_sld hx hb hX hbl hbA hS (sidx ex1 hi0 hi1 hL (by decide) (by decide)) dL_law_1282 ?_
  refine lv_topi (fun x2 ex2 => ?_)
  refine lv_aload_n hx hb dL_law_1283 rfl (lv_at hl 3 rfl) ?_
  refine lv_iload_n hx hb dL_law_1284 rfl (lv_at hl 0 rfl) ?_
  refine lv_iconst (v := 2) hx hb dL_law_1285 (by decide) ?_
  refine lv_iadd hx hb dL_law_1286 ?_
  refine lv_topi (fun x3 ex3 => ?_)
  refine va_sld hx hb hX hbl hbA hS (sidx ex3 hi0 hi1 hL (by decide) (by decide)) dL_law_1287 ?_
  refine lv_topi (fun x4 ex4 => ?_)
  refine lv_aload_n hx hb dL_law_1288 rfl (lv_at hl 3 rfl) ?_
  refine lv_iload_n hx hb dL_law_1289 rfl (lv_at hl 0 rfl) ?_
  refine lv_iconst (v := 3) hx hb dL_law_1290 (by decide) ?_
  refine lv_iadd hx hb dL_law_1291 ?_
  refine lv_topi (fun x5 ex5 => ?_)
  refine va_sld hx hb hX hbl hbA hS (sidx ex5 hi0 hi1 hL (by decide) (by decide)) dL_law_1292 ?_
  refine lv_topi (fun x6 ex6 => ?_)
  refine lv_if_eq (tgt := 1300) hx hb dL_law_1293 (by decide) (fun _ => ?_) (fun _ => ?_)
  · skip
    refine lv_iconst (v := 0) hx hb dL_law_1300 (by decide) ?_
    have hFc := frA hDX hS hA
    refine va_calli (va_runV (As := [.int x2, .int x4, .int 0]) (rest := []) ⟨hx, hb, hml, hown, hG⟩ (kX8_known l dC dI xr xt (xi 0) (xi 1) (xi 2) (xi 3) (xi 4) (xi 5) (xi 6) (xi 7) (xi 8) (xi 9) (xi 10) (xi 11) (xi 12) (xi 13) (xi 14) (xi 15) (xi 16) (xa 0) (xa 1) (xa 2) (xa 3) (xa 4) (xa 5) (xa 6) (xa 7) (xa 8) (xa 9) (xa 10) (xa 11) (xa 12) (xa 13) (xa 14) xJ xL x2 x4 0 H.size hIX (by decide)) (cwV 3 hG (goodV gw1053 gw1054 gw1055 gw129 gw1056) rfl rfl rfl hd_X8_known ⟨(Nat.le_of_ble_eq_true rfl), (Nat.le_of_ble_eq_true rfl)⟩) ⟨fbW, va_recv hKX hPX (ci := 7) (q0 := 0) rfl rfl, pW_in hPX hKX hDX⟩ rfl rfl hl.1 rfl (lv_room (Nat.le_of_ble_eq_true rfl)) dL_law_1301 ⟨(Nat.le_of_ble_eq_true rfl), (Nat.le_of_ble_eq_true rfl)⟩) hS (fun q _ h => hFc q h) hFc (fun r_8 u_ t_ H7 locs ht hvm hw hB hz1 hk1 hS => ?_)
    subst hw
    obtain ⟨n9, n10, n11, hP1, hD1, hIX⟩ := hB
    rw [ht] at hP1
    obtain ⟨hPM, hdj⟩ := mvO hPM hdj (fun k q hk => hD1.2 k q hk) hk1
    have hPX := hP1
    have hDX := dW hFc hD1
    refine lv_pop hx hb dL_law_1304 rfl ?_
    refine lv_aload_n hx hb dL_law_1305 rfl (lv_at hl 1 rfl) ?_
    refine W.eq (g2 := F0 m 1306 ls [.ref (mr 0)]) (by rw [hrM]) ?_
    refine lv_aload_n hx hb dL_law_1306 rfl (lv_at hl 3 rfl) ?_
    refine lv_iload_n hx hb dL_law_1307 rfl (lv_at hl 0 rfl) ?_
    refine lv_iconst (v := 1) hx hb dL_law_1308 (by decide) ?_
    refine lv_iadd hx hb dL_law_1309 ?_
    refine lv_topi (fun x12 ex12 => ?_)
    refine va_sld hx hb hX hbl hbA hS (sidx ex12 hi0 hi1 hL (by decide) (by decide)) dL_law_1310 ?_
    refine lv_topi (fun x13 ex13 => ?_)
    refine lv_aload_n hx hb dL_law_1311 rfl (lv_at hl 3 rfl) ?_
    refine lv_iload_n hx hb dL_law_1312 rfl (lv_at hl 0 rfl) ?_
    refine lv_iconst (v := 2) hx hb dL_law_1313 (by decide) ?_
    refine lv_iadd hx hb dL_law_1314 ?_
    refine lv_topi (fun x14 ex14 => ?_)
    refine va_sld hx hb hX hbl hbA hS (sidx ex14 hi0 hi1 hL (by decide) (by decide)) dL_law_1315 ?_
    refine lv_topi (fun x15 ex15 => ?_)
    refine lv_aload_n hx hb dL_law_1316 rfl (lv_at hl 3 rfl) ?_
    refine lv_iload_n hx hb dL_law_1317 rfl (lv_at hl 0 rfl) ?_
    refine lv_iconst (v := 3) hx hb dL_law_1318 (by decide) ?_
    refine lv_iadd hx hb dL_law_1319 ?_
    refine lv_topi (fun x16 ex16 => ?_)
    refine va_sld hx hb hX hbl hbA hS (sidx ex16 hi0 hi1 hL (by decide) (by decide)) dL_law_1320 ?_
    refine lv_topi (fun x17 ex17 => ?_)
    refine lv_if_eq (tgt := 1328) hx hb dL_law_1321 (by decide) (fun _ => ?_) (fun _ => ?_)
    · skip
      refine lv_iconst (v := 0) hx hb dL_law_1328 (by decide) ?_
      have hFc := frA hDM hS hA
      refine va_calli (va_runV (As := [.int x13, .int x15, .int 0]) (rest := []) ⟨hx, hb, hml, hown, hG⟩ (kX9_known l dC dI mr mt (mi 0) (mi 1) (mi 2) (mi 3) (mi 4) (mi 5) (mi 6) (mi 7) (mi 8) (mi 9) (mi 10) (mi 11) (mi 12) (mi 13) (mi 14) (mi 15) (mi 16) (mi 17) (mi 18) (mi 19) (ma 0) (ma 1) (ma 2) (ma 3) (ma 4) (ma 5) (ma 6) (ma 7) (ma 8) (ma 9) (ma 10) (ma 11) (ma 12) (ma 13) (ma 14) (ma 15) mJ mL x13 x15 0 H7.size hIM (by decide)) (cwV 3 hG (goodV gw1817 gw1818 gw1819 gw138 gw1820) rfl rfl rfl hd_X9_known ⟨(Nat.le_of_ble_eq_true rfl), (Nat.le_of_ble_eq_true rfl)⟩) ⟨fbW, va_recv hKM hPM (ci := 8) (q0 := 0) rfl rfl, pW_in hPM hKM hDM⟩ rfl rfl hl.1 rfl (lv_room (Nat.le_of_ble_eq_true rfl)) dL_law_1329 ⟨(Nat.le_of_ble_eq_true rfl), (Nat.le_of_ble_eq_true rfl)⟩) hS (fun q _ h => hFc q h) hFc (fun r_19 u_ t_ H18 locs ht hvm hw hB hz1 hk1 hS => ?_)
      subst hw
      obtain ⟨n20, n21, n22, hP1, hD1, hIM⟩ := hB
      rw [ht] at hP1
      obtain ⟨hPX, hdj⟩ := mvO hPX (dj_sym hdj) (fun k q hk => hD1.2 k q hk) hk1
      have hdj := dj_sym hdj
      have hPM := hP1
      have hDM := dW hFc hD1
      refine lv_pop hx hb dL_law_1332 rfl ?_
      refine lv_goto (tgt := 1540) hx hb dL_law_1333 (by decide) ?_
      exact kk H18 _ _ ⟨xr, xt, (fun k => ([(xi 0), (xi 1), (xi 2), (xi 3), (xi 4), (xi 5), (xi 6), (xi 7), (xi 8), (xi 9), (xi 10), (xi 11), (xi 12), (xi 13), (xi 14), (xi 15), n9] : List Int32).getD k 0), (fun k => ([(xa 0), (xa 1), (xa 2), (xa 3), (xa 4), (xa 5), (xa 6), (xa 7), (xa 8), (xa 9), (xa 10), (xa 11), (xa 12), n10, (xa 14)] : List (Nat → Int32)).getD k (fun _ => 0)), n11, xL, mr, mt, (fun k => ([(mi 0), (mi 1), (mi 2), (mi 3), (mi 4), (mi 5), (mi 6), (mi 7), (mi 8), (mi 9), (mi 10), (mi 11), (mi 12), (mi 13), (mi 14), (mi 15), (mi 16), (mi 17), n20, (mi 19)] : List Int32).getD k 0), (fun k => ([(ma 0), (ma 1), (ma 2), (ma 3), (ma 4), (ma 5), (ma 6), (ma 7), (ma 8), (ma 9), (ma 10), (ma 11), (ma 12), (ma 13), n21, (ma 15)] : List (Nat → Int32)).getD k (fun _ => 0)), n22, mL, hrX, hrM, hKX, hKM, hPX, hPM, hDX, hDM, hdj, hS, hIX, hWB, hRB, hBB, hIM, htm⟩ hl
    · skip
      refine lv_iconst (v := 1) hx hb dL_law_1324 (by decide) ?_
      refine lv_goto (tgt := 1329) hx hb dL_law_1325 (by decide) ?_
      have hFc := frA hDM hS hA
      refine va_calli (va_runV (As := [.int x13, .int x15, .int 1]) (rest := []) ⟨hx, hb, hml, hown, hG⟩ (kX9_known l dC dI mr mt (mi 0) (mi 1) (mi 2) (mi 3) (mi 4) (mi 5) (mi 6) (mi 7) (mi 8) (mi 9) (mi 10) (mi 11) (mi 12) (mi 13) (mi 14) (mi 15) (mi 16) (mi 17) (mi 18) (mi 19) (ma 0) (ma 1) (ma 2) (ma 3) (ma 4) (ma 5) (ma 6) (ma 7) (ma 8) (ma 9) (ma 10) (ma 11) (ma 12) (ma 13) (ma 14) (ma 15) mJ mL x13 x15 1 H7.size hIM (by decide)) (cwV 3 hG (goodV gw1817 gw1818 gw1819 gw138 gw1820) rfl rfl rfl hd_X9_known ⟨(Nat.le_of_ble_eq_true rfl), (Nat.le_of_ble_eq_true rfl)⟩) ⟨fbW, va_recv hKM hPM (ci := 8) (q0 := 0) rfl rfl, pW_in hPM hKM hDM⟩ rfl rfl hl.1 rfl (lv_room (Nat.le_of_ble_eq_true rfl)) dL_law_1329 ⟨(Nat.le_of_ble_eq_true rfl), (Nat.le_of_ble_eq_true rfl)⟩) hS (fun q _ h => hFc q h) hFc (fun r_24 u_ t_ H23 locs ht hvm hw hB hz1 hk1 hS => ?_)
      subst hw
      obtain ⟨n25, n26, n27, hP1, hD1, hIM⟩ := hB
      rw [ht] at hP1
      obtain ⟨hPX, hdj⟩ := mvO hPX (dj_sym hdj) (fun k q hk => hD1.2 k q hk) hk1
      have hdj := dj_sym hdj
      have hPM := hP1
      have hDM := dW hFc hD1
      refine lv_pop hx hb dL_law_1332 rfl ?_
      refine lv_goto (tgt := 1540) hx hb dL_law_1333 (by decide) ?_
      exact kk H23 _ _ ⟨xr, xt, (fun k => ([(xi 0), (xi 1), (xi 2), (xi 3), (xi 4), (xi 5), (xi 6), (xi 7), (xi 8), (xi 9), (xi 10), (xi 11), (xi 12), (xi 13), (xi 14), (xi 15), n9] : List Int32).getD k 0), (fun k => ([(xa 0), (xa 1), (xa 2), (xa 3), (xa 4), (xa 5), (xa 6), (xa 7), (xa 8), (xa 9), (xa 10), (xa 11), (xa 12), n10, (xa 14)] : List (Nat → Int32)).getD k (fun _ => 0)), n11, xL, mr, mt, (fun k => ([(mi 0), (mi 1), (mi 2), (mi 3), (mi 4), (mi 5), (mi 6), (mi 7), (mi 8), (mi 9), (mi 10), (mi 11), (mi 12), (mi 13), (mi 14), (mi 15), (mi 16), (mi 17), n25, (mi 19)] : List Int32).getD k 0), (fun k => ([(ma 0), (ma 1), (ma 2), (ma 3), (ma 4), (ma 5), (ma 6), (ma 7), (ma 8), (ma 9), (ma 10), (ma 11), (ma 12), (ma 13), n26, (ma 15)] : List (Nat → Int32)).getD k (fun _ => 0)), n27, mL, hrX, hrM, hKX, hKM, hPX, hPM, hDX, hDM, hdj, hS, hIX, hWB, hRB, hBB, hIM, htm⟩ hl
  · skip
    refine lv_iconst (v := 1) hx hb dL_law_1296 (by decide) ?_
    refine lv_goto (tgt := 1301) hx hb dL_law_1297 (by decide) ?_
    have hFc := frA hDX hS hA
    refine va_calli (va_runV (As := [.int x2, .int x4, .int 1]) (rest := []) ⟨hx, hb, hml, hown, hG⟩ (kX8_known l dC dI xr xt (xi 0) (xi 1) (xi 2) (xi 3) (xi 4) (xi 5) (xi 6) (xi 7) (xi 8) (xi 9) (xi 10) (xi 11) (xi 12) (xi 13) (xi 14) (xi 15) (xi 16) (xa 0) (xa 1) (xa 2) (xa 3) (xa 4) (xa 5) (xa 6) (xa 7) (xa 8) (xa 9) (xa 10) (xa 11) (xa 12) (xa 13) (xa 14) xJ xL x2 x4 1 H.size hIX (by decide)) (cwV 3 hG (goodV gw1053 gw1054 gw1055 gw129 gw1056) rfl rfl rfl hd_X8_known ⟨(Nat.le_of_ble_eq_true rfl), (Nat.le_of_ble_eq_true rfl)⟩) ⟨fbW, va_recv hKX hPX (ci := 7) (q0 := 0) rfl rfl, pW_in hPX hKX hDX⟩ rfl rfl hl.1 rfl (lv_room (Nat.le_of_ble_eq_true rfl)) dL_law_1301 ⟨(Nat.le_of_ble_eq_true rfl), (Nat.le_of_ble_eq_true rfl)⟩) hS (fun q _ h => hFc q h) hFc (fun r_29 u_ t_ H28 locs ht hvm hw hB hz1 hk1 hS => ?_)
    subst hw
    obtain ⟨n30, n31, n32, hP1, hD1, hIX⟩ := hB
    rw [ht] at hP1
    obtain ⟨hPM, hdj⟩ := mvO hPM hdj (fun k q hk => hD1.2 k q hk) hk1
    have hPX := hP1
    have hDX := dW hFc hD1
    refine lv_pop hx hb dL_law_1304 rfl ?_
    refine lv_aload_n hx hb dL_law_1305 rfl (lv_at hl 1 rfl) ?_
    refine W.eq (g2 := F0 m 1306 ls [.ref (mr 0)]) (by rw [hrM]) ?_
    refine lv_aload_n hx hb dL_law_1306 rfl (lv_at hl 3 rfl) ?_
    refine lv_iload_n hx hb dL_law_1307 rfl (lv_at hl 0 rfl) ?_
    refine lv_iconst (v := 1) hx hb dL_law_1308 (by decide) ?_
    refine lv_iadd hx hb dL_law_1309 ?_
    refine lv_topi (fun x33 ex33 => ?_)
    refine va_sld hx hb hX hbl hbA hS (sidx ex33 hi0 hi1 hL (by decide) (by decide)) dL_law_1310 ?_
    refine lv_topi (fun x34 ex34 => ?_)
    refine lv_aload_n hx hb dL_law_1311 rfl (lv_at hl 3 rfl) ?_
    refine lv_iload_n hx hb dL_law_1312 rfl (lv_at hl 0 rfl) ?_
    refine lv_iconst (v := 2) hx hb dL_law_1313 (by decide) ?_
    refine lv_iadd hx hb dL_law_1314 ?_
    refine lv_topi (fun x35 ex35 => ?_)
    refine va_sld hx hb hX hbl hbA hS (sidx ex35 hi0 hi1 hL (by decide) (by decide)) dL_law_1315 ?_
    refine lv_topi (fun x36 ex36 => ?_)
    refine lv_aload_n hx hb dL_law_1316 rfl (lv_at hl 3 rfl) ?_
    refine lv_iload_n hx hb dL_law_1317 rfl (lv_at hl 0 rfl) ?_
    refine lv_iconst (v := 3) hx hb dL_law_1318 (by decide) ?_
    refine lv_iadd hx hb dL_law_1319 ?_
    refine lv_topi (fun x37 ex37 => ?_)
    refine va_sld hx hb hX hbl hbA hS (sidx ex37 hi0 hi1 hL (by decide) (by decide)) dL_law_1320 ?_
    refine lv_topi (fun x38 ex38 => ?_)
    refine lv_if_eq (tgt := 1328) hx hb dL_law_1321 (by decide) (fun _ => ?_) (fun _ => ?_)
    · skip
      refine lv_iconst (v := 0) hx hb dL_law_1328 (by decide) ?_
      have hFc := frA hDM hS hA
      refine va_calli (va_runV (As := [.int x34, .int x36, .int 0]) (rest := []) ⟨hx, hb, hml, hown, hG⟩ (kX9_known l dC dI mr mt (mi 0) (mi 1) (mi 2) (mi 3) (mi 4) (mi 5) (mi 6) (mi 7) (mi 8) (mi 9) (mi 10) (mi 11) (mi 12) (mi 13) (mi 14) (mi 15) (mi 16) (mi 17) (mi 18) (mi 19) (ma 0) (ma 1) (ma 2) (ma 3) (ma 4) (ma 5) (ma 6) (ma 7) (ma 8) (ma 9) (ma 10) (ma 11) (ma 12) (ma 13) (ma 14) (ma 15) mJ mL x34 x36 0 H28.size hIM (by decide)) (cwV 3 hG (goodV gw1817 gw1818 gw1819 gw138 gw1820) rfl rfl rfl hd_X9_known ⟨(Nat.le_of_ble_eq_true rfl), (Nat.le_of_ble_eq_true rfl)⟩) ⟨fbW, va_recv hKM hPM (ci := 8) (q0 := 0) rfl rfl, pW_in hPM hKM hDM⟩ rfl rfl hl.1 rfl (lv_room (Nat.le_of_ble_eq_true rfl)) dL_law_1329 ⟨(Nat.le_of_ble_eq_true rfl), (Nat.le_of_ble_eq_true rfl)⟩) hS (fun q _ h => hFc q h) hFc (fun r_40 u_ t_ H39 locs ht hvm hw hB hz1 hk1 hS => ?_)
      subst hw
      obtain ⟨n41, n42, n43, hP1, hD1, hIM⟩ := hB
      rw [ht] at hP1
      obtain ⟨hPX, hdj⟩ := mvO hPX (dj_sym hdj) (fun k q hk => hD1.2 k q hk) hk1
      have hdj := dj_sym hdj
      have hPM := hP1
      have hDM := dW hFc hD1
      refine lv_pop hx hb dL_law_1332 rfl ?_
      refine lv_goto (tgt := 1540) hx hb dL_law_1333 (by decide) ?_
      exact kk H39 _ _ ⟨xr, xt, (fun k => ([(xi 0), (xi 1), (xi 2), (xi 3), (xi 4), (xi 5), (xi 6), (xi 7), (xi 8), (xi 9), (xi 10), (xi 11), (xi 12), (xi 13), (xi 14), (xi 15), n30] : List Int32).getD k 0), (fun k => ([(xa 0), (xa 1), (xa 2), (xa 3), (xa 4), (xa 5), (xa 6), (xa 7), (xa 8), (xa 9), (xa 10), (xa 11), (xa 12), n31, (xa 14)] : List (Nat → Int32)).getD k (fun _ => 0)), n32, xL, mr, mt, (fun k => ([(mi 0), (mi 1), (mi 2), (mi 3), (mi 4), (mi 5), (mi 6), (mi 7), (mi 8), (mi 9), (mi 10), (mi 11), (mi 12), (mi 13), (mi 14), (mi 15), (mi 16), (mi 17), n41, (mi 19)] : List Int32).getD k 0), (fun k => ([(ma 0), (ma 1), (ma 2), (ma 3), (ma 4), (ma 5), (ma 6), (ma 7), (ma 8), (ma 9), (ma 10), (ma 11), (ma 12), (ma 13), n42, (ma 15)] : List (Nat → Int32)).getD k (fun _ => 0)), n43, mL, hrX, hrM, hKX, hKM, hPX, hPM, hDX, hDM, hdj, hS, hIX, hWB, hRB, hBB, hIM, htm⟩ hl
    · skip
      refine lv_iconst (v := 1) hx hb dL_law_1324 (by decide) ?_
      refine lv_goto (tgt := 1329) hx hb dL_law_1325 (by decide) ?_
      have hFc := frA hDM hS hA
      refine va_calli (va_runV (As := [.int x34, .int x36, .int 1]) (rest := []) ⟨hx, hb, hml, hown, hG⟩ (kX9_known l dC dI mr mt (mi 0) (mi 1) (mi 2) (mi 3) (mi 4) (mi 5) (mi 6) (mi 7) (mi 8) (mi 9) (mi 10) (mi 11) (mi 12) (mi 13) (mi 14) (mi 15) (mi 16) (mi 17) (mi 18) (mi 19) (ma 0) (ma 1) (ma 2) (ma 3) (ma 4) (ma 5) (ma 6) (ma 7) (ma 8) (ma 9) (ma 10) (ma 11) (ma 12) (ma 13) (ma 14) (ma 15) mJ mL x34 x36 1 H28.size hIM (by decide)) (cwV 3 hG (goodV gw1817 gw1818 gw1819 gw138 gw1820) rfl rfl rfl hd_X9_known ⟨(Nat.le_of_ble_eq_true rfl), (Nat.le_of_ble_eq_true rfl)⟩) ⟨fbW, va_recv hKM hPM (ci := 8) (q0 := 0) rfl rfl, pW_in hPM hKM hDM⟩ rfl rfl hl.1 rfl (lv_room (Nat.le_of_ble_eq_true rfl)) dL_law_1329 ⟨(Nat.le_of_ble_eq_true rfl), (Nat.le_of_ble_eq_true rfl)⟩) hS (fun q _ h => hFc q h) hFc (fun r_45 u_ t_ H44 locs ht hvm hw hB hz1 hk1 hS => ?_)
      subst hw
      obtain ⟨n46, n47, n48, hP1, hD1, hIM⟩ := hB
      rw [ht] at hP1
      obtain ⟨hPX, hdj⟩ := mvO hPX (dj_sym hdj) (fun k q hk => hD1.2 k q hk) hk1
      have hdj := dj_sym hdj
      have hPM := hP1
      have hDM := dW hFc hD1
      refine lv_pop hx hb dL_law_1332 rfl ?_
      refine lv_goto (tgt := 1540) hx hb dL_law_1333 (by decide) ?_
      exact kk H44 _ _ ⟨xr, xt, (fun k => ([(xi 0), (xi 1), (xi 2), (xi 3), (xi 4), (xi 5), (xi 6), (xi 7), (xi 8), (xi 9), (xi 10), (xi 11), (xi 12), (xi 13), (xi 14), (xi 15), n30] : List Int32).getD k 0), (fun k => ([(xa 0), (xa 1), (xa 2), (xa 3), (xa 4), (xa 5), (xa 6), (xa 7), (xa 8), (xa 9), (xa 10), (xa 11), (xa 12), n31, (xa 14)] : List (Nat → Int32)).getD k (fun _ => 0)), n32, xL, mr, mt, (fun k => ([(mi 0), (mi 1), (mi 2), (mi 3), (mi 4), (mi 5), (mi 6), (mi 7), (mi 8), (mi 9), (mi 10), (mi 11), (mi 12), (mi 13), (mi 14), (mi 15), (mi 16), (mi 17), n46, (mi 19)] : List Int32).getD k 0), (fun k => ([(ma 0), (ma 1), (ma 2), (ma 3), (ma 4), (ma 5), (ma 6), (ma 7), (ma 8), (ma 9), (ma 10), (ma 11), (ma 12), (ma 13), n47, (ma 15)] : List (Nat → Int32)).getD k (fun _ => 0)), n48, mL, hrX, hrM, hKX, hKM, hPX, hPM, hDX, hDM, hdj, hS, hIX, hWB, hRB, hBB, hIM, htm⟩ hl
set_option maxHeartbeats 4000000 in
set_option maxRecDepth 100000 in
theorem law_40 {p : Program} {e : Env} {s : State} {m : MethodId} {below : List Frame} {meth : Method} {c : Code} (l : Launch) {b L : Nat} {xs : Nat → Int32} (hL : L ≤ 3072) (C0 : lw_At p s m meth c b L xs) (dC : Nat → ClassId) (dI : Nat → Nat → Nat) (adK adV : Nat) (fS : Nat → Int32) (hZ : ZS adK adV fS (fun q : Nat => s.heap.size ≤ q) s s.heap) {aX aM : Nat} {i : Int32} (hi0 : 0 ≤ i.toInt) (hi1 : i.toInt + 6 ≤ (L : Int)) {H : Heap} {locs : List Loc} (hI : LI dC dI s aX aM H locs) {ls : Array Slot} (hl : lv_has ls 4 [(3, .int i), (2, .ref aM), (1, .ref aX), (0, .ref b)]) (kk : ∀ (H1 : Heap) (locs1 : List Loc) (ls1 : Array Slot), LI dC dI s aX aM H1 locs1 → lv_has ls1 4 [(3, .int i), (2, .ref aM), (1, .ref aX), (0, .ref b)] → W p l e room_1 s m #[Value.ref b] below meth c H1 locs1 103 20190 (lw_Z below #[Value.ref b] s) (F0 m 1540 ls1 [])) : W p l e room_1 s m #[Value.ref b] below meth c H locs 103 20190 (lw_Z below #[Value.ref b] s) (F0 m 1336 ls []) := by
  obtain ⟨hx, hb, hr, hml, hown, hts, hX, hbl, hlocks, hgv⟩ := id C0
  have hown : s.vm.findClass RL = some m.cls := hown
  have hG : ∀ w ∈ GW, w.before _ s = true := fun w h => hts w (List.mem_filter.mp h).1
  have hA : ∀ q : Nat, s.heap.size ≤ q → (fun q : Nat => s.heap.size ≤ q) q := fun _ h => h
  have hbA : ¬ (fun q : Nat => s.heap.size ≤ q) b := Nat.not_le.mpr hbl
  obtain ⟨xr, xt, xi, xa, xJ, xL, mr, mt, mi, ma, mJ, mL, hrX, hrM, hKX, hKM, hPX, hPM, hDX, hDM, hdj, hS, hIX, hWB, hRB, hBB, hIM, htm⟩ := hI
  refine lv_aload_n hx hb dL_law_1336 rfl (lv_at hl 2 rfl) ?_
  refine W.eq (g2 := F0 m 1337 ls [.ref (xr 0)]) (by rw [hrX]) ?_
  refine lv_aload_n hx hb dL_law_1337 rfl (lv_at hl 3 rfl) ?_
  refine lv_iload_n hx hb dL_law_1338 rfl (lv_at hl 0 rfl) ?_
  refine lv_iconst (v := 1) hx hb dL_law_1339 (by decide) ?_
  refine lv_iadd hx hb dL_law_1340 ?_
  refine lv_topi (fun x1 ex1 => ?_)
  refine va_sld hx hb hX hbl hbA hS (sidx ex1 hi0 hi1 hL (by decide) (by decide)) dL_law_1341 ?_
  refine lv_topi (fun x2 ex2 => ?_)
  have hFc := frA hDX hS hA
  refine va_calli (va_runV (As := [.int x2]) (rest := []) ⟨hx, hb, hml, hown, hG⟩ (kX8_untell l dC dI xr xt (xi 0) (xi 1) (xi 2) (xi 3) (xi 4) (xi 5) (xi 6) (xi 7) (xi 8) (xi 9) (xi 10) (xi 11) (xi 12) (xi 13) (xi 14) (xi 15) (xi 16) (xa 0) (xa 1) (xa 2) (xa 3) (xa 4) (xa 5) (xa 6) (xa 7) (xa 8) (xa 9) (xa 10) (xa 11) (xa 12) (xa 13) (xa 14) xJ xL x2 H.size hIX) (cwV 1 hG (goodV gw1061 gw1062 gw1063 gw129 gw1064) rfl rfl rfl hd_X8_untell ⟨(Nat.le_of_ble_eq_true rfl), (Nat.le_of_ble_eq_true rfl)⟩) ⟨fbW, va_recv hKX hPX (ci := 7) (q0 := 0) rfl rfl, pW_in hPX hKX hDX⟩ rfl rfl hl.1 rfl (lv_room (Nat.le_of_ble_eq_true rfl)) dL_law_1342 ⟨(Nat.le_of_ble_eq_true rfl), (Nat.le_of_ble_eq_true rfl)⟩) hS (fun q _ h => hFc q h) hFc (fun r_4 u_ t_ H3 locs ht hvm hw hB hz1 hk1 hS => ?_)
  subst hw
  obtain ⟨n5, hP1, hD1, hIX⟩ := hB
  rw [ht] at hP1
  obtain ⟨hPM, hdj⟩ := mvO hPM hdj (fun k q hk => hD1.2 k q hk) hk1
  have hPX := hP1
  have hDX := dW hFc hD1
  refine lv_pop hx hb dL_law_1345 rfl ?_
  refine lv_aload_n hx hb dL_law_1346 rfl (lv_at hl 1 rfl) ?_
  refine W.eq (g2 := F0 m 1347 ls [.ref (mr 0)]) (by rw [hrM]) ?_
  refine lv_aload_n hx hb dL_law_1347 rfl (lv_at hl 3 rfl) ?_
  refine lv_iload_n hx hb dL_law_1348 rfl (lv_at hl 0 rfl) ?_
  refine lv_iconst (v := 1) hx hb dL_law_1349 (by decide) ?_
  refine lv_iadd hx hb dL_law_1350 ?_
  refine lv_topi (fun x6 ex6 => ?_)
  refine va_sld hx hb hX hbl hbA hS (sidx ex6 hi0 hi1 hL (by decide) (by decide)) dL_law_1351 ?_
  refine lv_topi (fun x7 ex7 => ?_)
  have hFc := frA hDM hS hA
  refine va_calli (va_runV (As := [.int x7]) (rest := []) ⟨hx, hb, hml, hown, hG⟩ (kX9_untell l dC dI mr mt (mi 0) (mi 1) (mi 2) (mi 3) (mi 4) (mi 5) (mi 6) (mi 7) (mi 8) (mi 9) (mi 10) (mi 11) (mi 12) (mi 13) (mi 14) (mi 15) (mi 16) (mi 17) (mi 18) (mi 19) (ma 0) (ma 1) (ma 2) (ma 3) (ma 4) (ma 5) (ma 6) (ma 7) (ma 8) (ma 9) (ma 10) (ma 11) (ma 12) (ma 13) (ma 14) (ma 15) mJ mL x7 H3.size hIM) (cwV 1 hG (goodV gw1821 gw1822 gw1823 gw138 gw1824) rfl rfl rfl hd_X9_untell ⟨(Nat.le_of_ble_eq_true rfl), (Nat.le_of_ble_eq_true rfl)⟩) ⟨fbW, va_recv hKM hPM (ci := 8) (q0 := 0) rfl rfl, pW_in hPM hKM hDM⟩ rfl rfl hl.1 rfl (lv_room (Nat.le_of_ble_eq_true rfl)) dL_law_1352 ⟨(Nat.le_of_ble_eq_true rfl), (Nat.le_of_ble_eq_true rfl)⟩) hS (fun q _ h => hFc q h) hFc (fun r_9 u_ t_ H8 locs ht hvm hw hB hz1 hk1 hS => ?_)
  subst hw
  obtain ⟨n10, hP1, hD1, hIM⟩ := hB
  rw [ht] at hP1
  obtain ⟨hPX, hdj⟩ := mvO hPX (dj_sym hdj) (fun k q hk => hD1.2 k q hk) hk1
  have hdj := dj_sym hdj
  have hPM := hP1
  have hDM := dW hFc hD1
  refine lv_pop hx hb dL_law_1355 rfl ?_
  refine lv_goto (tgt := 1540) hx hb dL_law_1356 (by decide) ?_
  exact kk H8 _ _ ⟨xr, xt, xi, xa, n5, xL, mr, mt, mi, ma, n10, mL, hrX, hrM, hKX, hKM, hPX, hPM, hDX, hDM, hdj, hS, hIX, hWB, hRB, hBB, hIM, htm⟩ hl
set_option maxHeartbeats 4000000 in
set_option maxRecDepth 100000 in
theorem law_41 {p : Program} {e : Env} {s : State} {m : MethodId} {below : List Frame} {meth : Method} {c : Code} (l : Launch) {b L : Nat} {xs : Nat → Int32} (hL : L ≤ 3072) (C0 : lw_At p s m meth c b L xs) (dC : Nat → ClassId) (dI : Nat → Nat → Nat) (adK adV : Nat) (fS : Nat → Int32) (hZ : ZS adK adV fS (fun q : Nat => s.heap.size ≤ q) s s.heap) {aX aM : Nat} {i : Int32} (hi0 : 0 ≤ i.toInt) (hi1 : i.toInt + 6 ≤ (L : Int)) {H : Heap} {locs : List Loc} (hI : LI dC dI s aX aM H locs) {ls : Array Slot} (hl : lv_has ls 4 [(3, .int i), (2, .ref aM), (1, .ref aX), (0, .ref b)]) (kk : ∀ (H1 : Heap) (locs1 : List Loc) (ls1 : Array Slot), LI dC dI s aX aM H1 locs1 → lv_has ls1 4 [(3, .int i), (2, .ref aM), (1, .ref aX), (0, .ref b)] → W p l e room_1 s m #[Value.ref b] below meth c H1 locs1 103 20190 (lw_Z below #[Value.ref b] s) (F0 m 1540 ls1 [])) : W p l e room_1 s m #[Value.ref b] below meth c H locs 103 20190 (lw_Z below #[Value.ref b] s) (F0 m 1359 ls []) := by
  obtain ⟨hx, hb, hr, hml, hown, hts, hX, hbl, hlocks, hgv⟩ := id C0
  have hown : s.vm.findClass RL = some m.cls := hown
  have hG : ∀ w ∈ GW, w.before _ s = true := fun w h => hts w (List.mem_filter.mp h).1
  have hA : ∀ q : Nat, s.heap.size ≤ q → (fun q : Nat => s.heap.size ≤ q) q := fun _ h => h
  have hbA : ¬ (fun q : Nat => s.heap.size ≤ q) b := Nat.not_le.mpr hbl
  obtain ⟨xr, xt, xi, xa, xJ, xL, mr, mt, mi, ma, mJ, mL, hrX, hrM, hKX, hKM, hPX, hPM, hDX, hDM, hdj, hS, hIX, hWB, hRB, hBB, hIM, htm⟩ := hI
  refine lv_aload_n hx hb dL_law_1359 rfl (lv_at hl 2 rfl) ?_
  refine W.eq (g2 := F0 m 1360 ls [.ref (xr 0)]) (by rw [hrX]) ?_
  refine lv_aload_n hx hb dL_law_1360 rfl (lv_at hl 3 rfl) ?_
  refine lv_iload_n hx hb dL_law_1361 rfl (lv_at hl 0 rfl) ?_
  refine lv_iconst (v := 1) hx hb dL_law_1362 (by decide) ?_
  refine lv_iadd hx hb dL_law_1363 ?_
  refine lv_topi (fun x1 ex1 => ?_)
  refine va_sld hx hb hX hbl hbA hS (sidx ex1 hi0 hi1 hL (by decide) (by decide)) dL_law_1364 ?_
  refine lv_topi (fun x2 ex2 => ?_)
  have hFc := frA hDX hS hA
  refine va_calli (va_runV (As := [.int x2]) (rest := []) ⟨hx, hb, hml, hown, hG⟩ (kX8_later l dC dI xr xt (xi 0) (xi 1) (xi 2) (xi 3) (xi 4) (xi 5) (xi 6) (xi 7) (xi 8) (xi 9) (xi 10) (xi 11) (xi 12) (xi 13) (xi 14) (xi 15) (xi 16) (xa 0) (xa 1) (xa 2) (xa 3) (xa 4) (xa 5) (xa 6) (xa 7) (xa 8) (xa 9) (xa 10) (xa 11) (xa 12) (xa 13) (xa 14) xJ xL x2 H.size hIX) (cwV 1 hG (goodV gw1069 gw1070 gw1071 gw129 gw1072) rfl rfl rfl hd_X8_later ⟨(Nat.le_of_ble_eq_true rfl), (Nat.le_of_ble_eq_true rfl)⟩) ⟨fbW, va_recv hKX hPX (ci := 7) (q0 := 0) rfl rfl, pW_in hPX hKX hDX⟩ rfl rfl hl.1 rfl (lv_room (Nat.le_of_ble_eq_true rfl)) dL_law_1365 ⟨(Nat.le_of_ble_eq_true rfl), (Nat.le_of_ble_eq_true rfl)⟩) hS (fun q _ h => hFc q h) hFc (fun r_4 u_ t_ H3 locs ht hvm hw hB hz1 hk1 hS => ?_)
  subst hw
  obtain ⟨n5, hP1, hD1, hIX, hltX⟩ := hB
  rw [ht] at hP1
  obtain ⟨hPM, hdj⟩ := mvO hPM hdj (fun k q hk => hD1.2 k q hk) hk1
  have hPX := hP1
  have hDX := dW hFc hD1
  refine lv_aload_n hx hb dL_law_1368 rfl (lv_at hl 1 rfl) ?_
  refine W.eq (g2 := F0 m 1369 ls [.ref (mr 0), .int r_4]) (by rw [hrM]) ?_
  refine lv_aload_n hx hb dL_law_1369 rfl (lv_at hl 3 rfl) ?_
  refine lv_iload_n hx hb dL_law_1370 rfl (lv_at hl 0 rfl) ?_
  refine lv_iconst (v := 1) hx hb dL_law_1371 (by decide) ?_
  refine lv_iadd hx hb dL_law_1372 ?_
  refine lv_topi (fun x6 ex6 => ?_)
  refine va_sld hx hb hX hbl hbA hS (sidx ex6 hi0 hi1 hL (by decide) (by decide)) dL_law_1373 ?_
  refine lv_topi (fun x7 ex7 => ?_)
  have qx7 : x2 = x7 := by rw [ex2, ex7, ex1, ex6]
  subst qx7
  have hFc := frA hDM hS hA
  refine va_calli (va_runV (As := [.int x2]) (rest := [.int r_4]) ⟨hx, hb, hml, hown, hG⟩ (kX9_later2 l dC dI mr mt (mi 0) (mi 1) (mi 2) (mi 3) (mi 4) (mi 5) (mi 6) (mi 7) (mi 8) (mi 9) (mi 10) (mi 11) (mi 12) (mi 13) (mi 14) (mi 15) (mi 16) (mi 17) (mi 18) (mi 19) (ma 0) (ma 1) (ma 2) (ma 3) (ma 4) (ma 5) (ma 6) (ma 7) (ma 8) (ma 9) (ma 10) (ma 11) (ma 12) (ma 13) (ma 14) (ma 15) mJ mL x2 H3.size hIM) (cwV 1 hG (goodV gw1825 gw1826 gw1827 gw138 gw1828) rfl rfl rfl hd_X9_later ⟨(Nat.le_of_ble_eq_true rfl), (Nat.le_of_ble_eq_true rfl)⟩) ⟨fbW, va_recv hKM hPM (ci := 8) (q0 := 0) rfl rfl, pW_in hPM hKM hDM⟩ rfl rfl hl.1 rfl (lv_room (Nat.le_of_ble_eq_true rfl)) dL_law_1374 ⟨(Nat.le_of_ble_eq_true rfl), (Nat.le_of_ble_eq_true rfl)⟩) hS (fun q _ h => hFc q h) hFc (fun r_9 u_ t_ H8 locs ht hvm hw hB hz1 hk1 hS => ?_)
  subst hw
  obtain ⟨n10, hP1, hD1, hIM, hltM⟩ := hB
  rw [ht] at hP1
  obtain ⟨hPX, hdj⟩ := mvO hPX (dj_sym hdj) (fun k q hk => hD1.2 k q hk) hk1
  have hdj := dj_sym hdj
  have hPM := hP1
  have hDM := dW hFc hD1
  obtain ⟨hu, hn⟩ := later_eq htm hltX hltM
  have htm := hn
  refine lv_icmp_eq (tgt := 1540) hx hb dL_law_1377 (by decide) (fun _ => ?_) (fun hne => absurd hu hne)
  exact kk H8 _ _ ⟨xr, xt, (fun k => ([(xi 0), n5, (xi 2), (xi 3), (xi 4), (xi 5), (xi 6), (xi 7), (xi 8), (xi 9), (xi 10), (xi 11), (xi 12), (xi 13), (xi 14), (xi 15), (xi 16)] : List Int32).getD k 0), xa, xJ, xL, mr, mt, (fun k => ([(mi 0), (mi 1), (mi 2), (mi 3), (mi 4), (mi 5), (mi 6), (mi 7), (mi 8), (mi 9), (mi 10), (mi 11), (mi 12), (mi 13), (mi 14), (mi 15), (mi 16), (mi 17), (mi 18), n10] : List Int32).getD k 0), ma, mJ, mL, hrX, hrM, hKX, hKM, hPX, hPM, hDX, hDM, hdj, hS, hIX, hWB, hRB, hBB, hIM, htm⟩ hl
set_option maxHeartbeats 4000000 in
set_option maxRecDepth 100000 in
theorem law_42 {p : Program} {e : Env} {s : State} {m : MethodId} {below : List Frame} {meth : Method} {c : Code} (l : Launch) {b L : Nat} {xs : Nat → Int32} (hL : L ≤ 3072) (C0 : lw_At p s m meth c b L xs) (dC : Nat → ClassId) (dI : Nat → Nat → Nat) (adK adV : Nat) (fS : Nat → Int32) (hZ : ZS adK adV fS (fun q : Nat => s.heap.size ≤ q) s s.heap) {aX aM : Nat} {i : Int32} (hi0 : 0 ≤ i.toInt) (hi1 : i.toInt + 6 ≤ (L : Int)) {H : Heap} {locs : List Loc} (hI : LI dC dI s aX aM H locs) {ls : Array Slot} (hl : lv_has ls 4 [(3, .int i), (2, .ref aM), (1, .ref aX), (0, .ref b)]) (kk : ∀ (H1 : Heap) (locs1 : List Loc) (ls1 : Array Slot), LI dC dI s aX aM H1 locs1 → lv_has ls1 4 [(3, .int i), (2, .ref aM), (1, .ref aX), (0, .ref b)] → W p l e room_1 s m #[Value.ref b] below meth c H1 locs1 103 20190 (lw_Z below #[Value.ref b] s) (F0 m 1540 ls1 [])) : W p l e room_1 s m #[Value.ref b] below meth c H locs 103 20190 (lw_Z below #[Value.ref b] s) (F0 m 1382 ls []) := by
  obtain ⟨hx, hb, hr, hml, hown, hts, hX, hbl, hlocks, hgv⟩ := id C0
  have hown : s.vm.findClass RL = some m.cls := hown
  have hG : ∀ w ∈ GW, w.before _ s = true := fun w h => hts w (List.mem_filter.mp h).1
  have hA : ∀ q : Nat, s.heap.size ≤ q → (fun q : Nat => s.heap.size ≤ q) q := fun _ h => h
  have hbA : ¬ (fun q : Nat => s.heap.size ≤ q) b := Nat.not_le.mpr hbl
  obtain ⟨xr, xt, xi, xa, xJ, xL, mr, mt, mi, ma, mJ, mL, hrX, hrM, hKX, hKM, hPX, hPM, hDX, hDM, hdj, hS, hIX, hWB, hRB, hBB, hIM, htm⟩ := hI
  refine lv_aload_n hx hb dL_law_1382 rfl (lv_at hl 2 rfl) ?_
  refine W.eq (g2 := F0 m 1383 ls [.ref (xr 0)]) (by rw [hrX]) ?_
  refine lv_aload_n hx hb dL_law_1383 rfl (lv_at hl 3 rfl) ?_
  refine lv_iload_n hx hb dL_law_1384 rfl (lv_at hl 0 rfl) ?_
  refine lv_iconst (v := 1) hx hb dL_law_1385 (by decide) ?_
  refine lv_iadd hx hb dL_law_1386 ?_
  refine lv_topi (fun x1 ex1 => ?_)
  refine va_sld hx hb hX hbl hbA hS (sidx ex1 hi0 hi1 hL (by decide) (by decide)) dL_law_1387 ?_
  refine lv_topi (fun x2 ex2 => ?_)
  have hFc := frA hDX hS hA
  refine va_calli (va_runV (As := [.int x2]) (rest := []) ⟨hx, hb, hml, hown, hG⟩ (kX8_rows l dC dI xr xt (xi 0) (xi 1) (xi 2) (xi 3) (xi 4) (xi 5) (xi 6) (xi 7) (xi 8) (xi 9) (xi 10) (xi 11) (xi 12) (xi 13) (xi 14) (xi 15) (xi 16) (xa 0) (xa 1) (xa 2) (xa 3) (xa 4) (xa 5) (xa 6) (xa 7) (xa 8) (xa 9) (xa 10) (xa 11) (xa 12) (xa 13) (xa 14) xJ xL x2 H.size hIX) (cwV 1 hG (goodV gw1074 gw1075 gw1076 gw129 gw1077) rfl rfl rfl hd_X8_rows ⟨(Nat.le_of_ble_eq_true rfl), (Nat.le_of_ble_eq_true rfl)⟩) ⟨fbW, va_recv hKX hPX (ci := 7) (q0 := 0) rfl rfl, pW_in hPX hKX hDX⟩ rfl rfl hl.1 rfl (lv_room (Nat.le_of_ble_eq_true rfl)) dL_law_1388 ⟨(Nat.le_of_ble_eq_true rfl), (Nat.le_of_ble_eq_true rfl)⟩) hS (fun q _ h => hFc q h) hFc (fun r_4 u_ t_ H3 locs ht hvm hw hB hz1 hk1 hS => ?_)
  subst hw
  obtain ⟨n5, n6, hP1, hD1, hIX⟩ := hB
  rw [ht] at hP1
  obtain ⟨hPM, hdj⟩ := mvO hPM hdj (fun k q hk => hD1.2 k q hk) hk1
  have hPX := hP1
  have hDX := dW hFc hD1
  refine lv_pop hx hb dL_law_1391 rfl ?_
  refine lv_aload_n hx hb dL_law_1392 rfl (lv_at hl 1 rfl) ?_
  refine W.eq (g2 := F0 m 1393 ls [.ref (mr 0)]) (by rw [hrM]) ?_
  refine lv_aload_n hx hb dL_law_1393 rfl (lv_at hl 3 rfl) ?_
  refine lv_iload_n hx hb dL_law_1394 rfl (lv_at hl 0 rfl) ?_
  refine lv_iconst (v := 1) hx hb dL_law_1395 (by decide) ?_
  refine lv_iadd hx hb dL_law_1396 ?_
  refine lv_topi (fun x7 ex7 => ?_)
  refine va_sld hx hb hX hbl hbA hS (sidx ex7 hi0 hi1 hL (by decide) (by decide)) dL_law_1397 ?_
  refine lv_topi (fun x8 ex8 => ?_)
  have hFc := frA hDM hS hA
  refine va_calli (va_runV (As := [.int x8]) (rest := []) ⟨hx, hb, hml, hown, hG⟩ (kX9_rows l dC dI mr mt (mi 0) (mi 1) (mi 2) (mi 3) (mi 4) (mi 5) (mi 6) (mi 7) (mi 8) (mi 9) (mi 10) (mi 11) (mi 12) (mi 13) (mi 14) (mi 15) (mi 16) (mi 17) (mi 18) (mi 19) (ma 0) (ma 1) (ma 2) (ma 3) (ma 4) (ma 5) (ma 6) (ma 7) (ma 8) (ma 9) (ma 10) (ma 11) (ma 12) (ma 13) (ma 14) (ma 15) mJ mL x8 H3.size hIM) (cwV 1 hG (goodV gw1830 gw1831 gw1832 gw138 gw1833) rfl rfl rfl hd_X9_rows ⟨(Nat.le_of_ble_eq_true rfl), (Nat.le_of_ble_eq_true rfl)⟩) ⟨fbW, va_recv hKM hPM (ci := 8) (q0 := 0) rfl rfl, pW_in hPM hKM hDM⟩ rfl rfl hl.1 rfl (lv_room (Nat.le_of_ble_eq_true rfl)) dL_law_1398 ⟨(Nat.le_of_ble_eq_true rfl), (Nat.le_of_ble_eq_true rfl)⟩) hS (fun q _ h => hFc q h) hFc (fun r_10 u_ t_ H9 locs ht hvm hw hB hz1 hk1 hS => ?_)
  subst hw
  obtain ⟨n11, n12, n13, n14, n15, hP1, hD1, hIM⟩ := hB
  rw [ht] at hP1
  obtain ⟨hPX, hdj⟩ := mvO hPX (dj_sym hdj) (fun k q hk => hD1.2 k q hk) hk1
  have hdj := dj_sym hdj
  have hPM := hP1
  have hDM := dW hFc hD1
  refine lv_pop hx hb dL_law_1401 rfl ?_
  refine lv_goto (tgt := 1540) hx hb dL_law_1402 (by decide) ?_
  exact kk H9 _ _ ⟨xr, xt, xi, (fun k => ([(xa 0), (xa 1), (xa 2), (xa 3), (xa 4), (xa 5), (xa 6), (xa 7), (xa 8), (xa 9), (xa 10), (xa 11), (xa 12), (xa 13), n5] : List (Nat → Int32)).getD k (fun _ => 0)), n6, xL, mr, mt, (fun k => ([(mi 0), (mi 1), (mi 2), (mi 3), (mi 4), (mi 5), (mi 6), (mi 7), (mi 8), (mi 9), (mi 10), (mi 11), (mi 12), n11, n12, (mi 15), (mi 16), (mi 17), (mi 18), (mi 19)] : List Int32).getD k 0), (fun k => ([(ma 0), (ma 1), (ma 2), (ma 3), (ma 4), (ma 5), (ma 6), (ma 7), (ma 8), (ma 9), (ma 10), n13, n14, (ma 13), (ma 14), (ma 15)] : List (Nat → Int32)).getD k (fun _ => 0)), n15, mL, hrX, hrM, hKX, hKM, hPX, hPM, hDX, hDM, hdj, hS, hIX, hWB, hRB, hBB, hIM, htm⟩ hl
set_option maxHeartbeats 4000000 in
set_option maxRecDepth 100000 in
theorem law_43 {p : Program} {e : Env} {s : State} {m : MethodId} {below : List Frame} {meth : Method} {c : Code} (l : Launch) {b L : Nat} {xs : Nat → Int32} (hL : L ≤ 3072) (C0 : lw_At p s m meth c b L xs) (dC : Nat → ClassId) (dI : Nat → Nat → Nat) (adK adV : Nat) (fS : Nat → Int32) (hZ : ZS adK adV fS (fun q : Nat => s.heap.size ≤ q) s s.heap) {aX aM : Nat} {i : Int32} (hi0 : 0 ≤ i.toInt) (hi1 : i.toInt + 6 ≤ (L : Int)) {H : Heap} {locs : List Loc} (hI : LI dC dI s aX aM H locs) {ls : Array Slot} (hl : lv_has ls 4 [(3, .int i), (2, .ref aM), (1, .ref aX), (0, .ref b)]) (kk : ∀ (H1 : Heap) (locs1 : List Loc) (ls1 : Array Slot), LI dC dI s aX aM H1 locs1 → lv_has ls1 4 [(3, .int i), (2, .ref aM), (1, .ref aX), (0, .ref b)] → W p l e room_1 s m #[Value.ref b] below meth c H1 locs1 103 20190 (lw_Z below #[Value.ref b] s) (F0 m 1540 ls1 [])) : W p l e room_1 s m #[Value.ref b] below meth c H locs 103 20190 (lw_Z below #[Value.ref b] s) (F0 m 1405 ls []) := by
  obtain ⟨hx, hb, hr, hml, hown, hts, hX, hbl, hlocks, hgv⟩ := id C0
  have hown : s.vm.findClass RL = some m.cls := hown
  have hG : ∀ w ∈ GW, w.before _ s = true := fun w h => hts w (List.mem_filter.mp h).1
  have hA : ∀ q : Nat, s.heap.size ≤ q → (fun q : Nat => s.heap.size ≤ q) q := fun _ h => h
  have hbA : ¬ (fun q : Nat => s.heap.size ≤ q) b := Nat.not_le.mpr hbl
  obtain ⟨xr, xt, xi, xa, xJ, xL, mr, mt, mi, ma, mJ, mL, hrX, hrM, hKX, hKM, hPX, hPM, hDX, hDM, hdj, hS, hIX, hWB, hRB, hBB, hIM, htm⟩ := hI
  refine lv_aload_n hx hb dL_law_1405 rfl (lv_at hl 2 rfl) ?_
  refine W.eq (g2 := F0 m 1406 ls [.ref (xr 0)]) (by rw [hrX]) ?_
  refine lv_aload_n hx hb dL_law_1406 rfl (lv_at hl 3 rfl) ?_
  refine lv_iload_n hx hb dL_law_1407 rfl (lv_at hl 0 rfl) ?_
  refine lv_iconst (v := 1) hx hb dL_law_1408 (by decide) ?_
  refine lv_iadd hx hb dL_law_1409 ?_
  refine lv_topi (fun x1 ex1 => ?_)
  refine va_sld hx hb hX hbl hbA hS (sidx ex1 hi0 hi1 hL (by decide) (by decide)) dL_law_1410 ?_
  refine lv_topi (fun x2 ex2 => ?_)
  refine lv_aload_n hx hb dL_law_1411 rfl (lv_at hl 3 rfl) ?_
  refine lv_iload_n hx hb dL_law_1412 rfl (lv_at hl 0 rfl) ?_
  refine lv_iconst (v := 2) hx hb dL_law_1413 (by decide) ?_
  refine lv_iadd hx hb dL_law_1414 ?_
  refine lv_topi (fun x3 ex3 => ?_)
  refine va_sld hx hb hX hbl hbA hS (sidx ex3 hi0 hi1 hL (by decide) (by decide)) dL_law_1415 ?_
  refine lv_topi (fun x4 ex4 => ?_)
  have hFc := frA hDX hS hA
  refine va_calli (va_runV (As := [.int x2, .int x4]) (rest := []) ⟨hx, hb, hml, hown, hG⟩ (kX8_sure l dC dI xr xt (xi 0) (xi 1) (xi 2) (xi 3) (xi 4) (xi 5) (xi 6) (xi 7) (xi 8) (xi 9) (xi 10) (xi 11) (xi 12) (xi 13) (xi 14) (xi 15) (xi 16) (xa 0) (xa 1) (xa 2) (xa 3) (xa 4) (xa 5) (xa 6) (xa 7) (xa 8) (xa 9) (xa 10) (xa 11) (xa 12) (xa 13) (xa 14) xJ xL x2 x4 H.size hIX) (cwV 2 hG (goodV gw1114 gw1115 gw1116 gw129 gw1117) rfl rfl rfl hd_X8_sure ⟨(Nat.le_of_ble_eq_true rfl), (Nat.le_of_ble_eq_true rfl)⟩) ⟨fbW, va_recv hKX hPX (ci := 7) (q0 := 0) rfl rfl, pW_in hPX hKX hDX⟩ rfl rfl hl.1 rfl (lv_room (Nat.le_of_ble_eq_true rfl)) dL_law_1416 ⟨(Nat.le_of_ble_eq_true rfl), (Nat.le_of_ble_eq_true rfl)⟩) hS (fun q _ h => hFc q h) hFc (fun r_6 u_ t_ H5 locs ht hvm hw hB hz1 hk1 hS => ?_)
  subst hw
  obtain ⟨n7, n8, hP1, hD1, hIX⟩ := hB
  rw [ht] at hP1
  obtain ⟨hPM, hdj⟩ := mvO hPM hdj (fun k q hk => hD1.2 k q hk) hk1
  have hPX := hP1
  have hDX := dW hFc hD1
  refine lv_pop hx hb dL_law_1419 rfl ?_
  refine lv_aload_n hx hb dL_law_1420 rfl (lv_at hl 1 rfl) ?_
  refine W.eq (g2 := F0 m 1421 ls [.ref (mr 0)]) (by rw [hrM]) ?_
  refine lv_aload_n hx hb dL_law_1421 rfl (lv_at hl 3 rfl) ?_
  refine lv_iload_n hx hb dL_law_1422 rfl (lv_at hl 0 rfl) ?_
  refine lv_iconst (v := 1) hx hb dL_law_1423 (by decide) ?_
  refine lv_iadd hx hb dL_law_1424 ?_
  refine lv_topi (fun x9 ex9 => ?_)
  refine va_sld hx hb hX hbl hbA hS (sidx ex9 hi0 hi1 hL (by decide) (by decide)) dL_law_1425 ?_
  refine lv_topi (fun x10 ex10 => ?_)
  refine lv_aload_n hx hb dL_law_1426 rfl (lv_at hl 3 rfl) ?_
  refine lv_iload_n hx hb dL_law_1427 rfl (lv_at hl 0 rfl) ?_
  refine lv_iconst (v := 2) hx hb dL_law_1428 (by decide) ?_
  refine lv_iadd hx hb dL_law_1429 ?_
  refine lv_topi (fun x11 ex11 => ?_)
  refine va_sld hx hb hX hbl hbA hS (sidx ex11 hi0 hi1 hL (by decide) (by decide)) dL_law_1430 ?_
  refine lv_topi (fun x12 ex12 => ?_)
  have hFc := frA hDM hS hA
  refine va_calli (va_runV (As := [.int x10, .int x12]) (rest := []) ⟨hx, hb, hml, hown, hG⟩ (kX9_sure l dC dI mr mt (mi 0) (mi 1) (mi 2) (mi 3) (mi 4) (mi 5) (mi 6) (mi 7) (mi 8) (mi 9) (mi 10) (mi 11) (mi 12) (mi 13) (mi 14) (mi 15) (mi 16) (mi 17) (mi 18) (mi 19) (ma 0) (ma 1) (ma 2) (ma 3) (ma 4) (ma 5) (ma 6) (ma 7) (ma 8) (ma 9) (ma 10) (ma 11) (ma 12) (ma 13) (ma 14) (ma 15) mJ mL x10 x12 H5.size hIM) (cwV 2 hG (goodV gw1849 gw1850 gw1851 gw138 gw1852) rfl rfl rfl hd_X9_sure ⟨(Nat.le_of_ble_eq_true rfl), (Nat.le_of_ble_eq_true rfl)⟩) ⟨fbW, va_recv hKM hPM (ci := 8) (q0 := 0) rfl rfl, pW_in hPM hKM hDM⟩ rfl rfl hl.1 rfl (lv_room (Nat.le_of_ble_eq_true rfl)) dL_law_1431 ⟨(Nat.le_of_ble_eq_true rfl), (Nat.le_of_ble_eq_true rfl)⟩) hS (fun q _ h => hFc q h) hFc (fun r_14 u_ t_ H13 locs ht hvm hw hB hz1 hk1 hS => ?_)
  subst hw
  obtain ⟨n15, n16, n17, n18, n19, hP1, hD1, hIM⟩ := hB
  rw [ht] at hP1
  obtain ⟨hPX, hdj⟩ := mvO hPX (dj_sym hdj) (fun k q hk => hD1.2 k q hk) hk1
  have hdj := dj_sym hdj
  have hPM := hP1
  have hDM := dW hFc hD1
  refine lv_pop hx hb dL_law_1434 rfl ?_
  refine lv_goto (tgt := 1540) hx hb dL_law_1435 (by decide) ?_
  exact kk H13 _ _ ⟨xr, xt, xi, (fun k => ([(xa 0), (xa 1), (xa 2), (xa 3), (xa 4), (xa 5), (xa 6), (xa 7), (xa 8), (xa 9), (xa 10), (xa 11), (xa 12), (xa 13), n7] : List (Nat → Int32)).getD k (fun _ => 0)), n8, xL, mr, mt, (fun k => ([(mi 0), (mi 1), (mi 2), (mi 3), (mi 4), (mi 5), (mi 6), (mi 7), (mi 8), (mi 9), (mi 10), (mi 11), (mi 12), n15, n16, (mi 15), (mi 16), (mi 17), (mi 18), (mi 19)] : List Int32).getD k 0), (fun k => ([(ma 0), (ma 1), (ma 2), (ma 3), (ma 4), (ma 5), (ma 6), (ma 7), (ma 8), (ma 9), (ma 10), n17, n18, (ma 13), (ma 14), (ma 15)] : List (Nat → Int32)).getD k (fun _ => 0)), n19, mL, hrX, hrM, hKX, hKM, hPX, hPM, hDX, hDM, hdj, hS, hIX, hWB, hRB, hBB, hIM, htm⟩ hl
set_option maxHeartbeats 4000000 in
set_option maxRecDepth 100000 in
theorem law_44 {p : Program} {e : Env} {s : State} {m : MethodId} {below : List Frame} {meth : Method} {c : Code} (l : Launch) {b L : Nat} {xs : Nat → Int32} (hL : L ≤ 3072) (C0 : lw_At p s m meth c b L xs) (dC : Nat → ClassId) (dI : Nat → Nat → Nat) (adK adV : Nat) (fS : Nat → Int32) (hZ : ZS adK adV fS (fun q : Nat => s.heap.size ≤ q) s s.heap) {aX aM : Nat} {i : Int32} (hi0 : 0 ≤ i.toInt) (hi1 : i.toInt + 6 ≤ (L : Int)) {H : Heap} {locs : List Loc} (hI : LI dC dI s aX aM H locs) {ls : Array Slot} (hl : lv_has ls 4 [(3, .int i), (2, .ref aM), (1, .ref aX), (0, .ref b)]) (kk : ∀ (H1 : Heap) (locs1 : List Loc) (ls1 : Array Slot), LI dC dI s aX aM H1 locs1 → lv_has ls1 4 [(3, .int i), (2, .ref aM), (1, .ref aX), (0, .ref b)] → W p l e room_1 s m #[Value.ref b] below meth c H1 locs1 103 20190 (lw_Z below #[Value.ref b] s) (F0 m 1540 ls1 [])) : W p l e room_1 s m #[Value.ref b] below meth c H locs 103 20190 (lw_Z below #[Value.ref b] s) (F0 m 1438 ls []) := by
  obtain ⟨hx, hb, hr, hml, hown, hts, hX, hbl, hlocks, hgv⟩ := id C0
  have hown : s.vm.findClass RL = some m.cls := hown
  have hG : ∀ w ∈ GW, w.before _ s = true := fun w h => hts w (List.mem_filter.mp h).1
  have hA : ∀ q : Nat, s.heap.size ≤ q → (fun q : Nat => s.heap.size ≤ q) q := fun _ h => h
  have hbA : ¬ (fun q : Nat => s.heap.size ≤ q) b := Nat.not_le.mpr hbl
  obtain ⟨xr, xt, xi, xa, xJ, xL, mr, mt, mi, ma, mJ, mL, hrX, hrM, hKX, hKM, hPX, hPM, hDX, hDM, hdj, hS, hIX, hWB, hRB, hBB, hIM, htm⟩ := hI
  refine lv_aload_n hx hb dL_law_1438 rfl (lv_at hl 2 rfl) ?_
  refine W.eq (g2 := F0 m 1439 ls [.ref (xr 0)]) (by rw [hrX]) ?_
  refine lv_aload_n hx hb dL_law_1439 rfl (lv_at hl 3 rfl) ?_
  refine lv_iload_n hx hb dL_law_1440 rfl (lv_at hl 0 rfl) ?_
  refine lv_iconst (v := 1) hx hb dL_law_1441 (by decide) ?_
  refine lv_iadd hx hb dL_law_1442 ?_
  refine lv_topi (fun x1 ex1 => ?_)
  refine va_sld hx hb hX hbl hbA hS (sidx ex1 hi0 hi1 hL (by decide) (by decide)) dL_law_1443 ?_
  refine lv_topi (fun x2 ex2 => ?_)
  refine lv_aload_n hx hb dL_law_1444 rfl (lv_at hl 3 rfl) ?_
  refine lv_iload_n hx hb dL_law_1445 rfl (lv_at hl 0 rfl) ?_
  refine lv_iconst (v := 2) hx hb dL_law_1446 (by decide) ?_
  refine lv_iadd hx hb dL_law_1447 ?_
  refine lv_topi (fun x3 ex3 => ?_)
  refine va_sld hx hb hX hbl hbA hS (sidx ex3 hi0 hi1 hL (by decide) (by decide)) dL_law_1448 ?_
  refine lv_topi (fun x4 ex4 => ?_)
  have hFc := frA hDX hS hA
  refine va_calli (va_runV (As := [.int x2, .int x4]) (rest := []) ⟨hx, hb, hml, hown, hG⟩ (kX8_ask l dC dI xr xt (xi 0) (xi 1) (xi 2) (xi 3) (xi 4) (xi 5) (xi 6) (xi 7) (xi 8) (xi 9) (xi 10) (xi 11) (xi 12) (xi 13) (xi 14) (xi 15) (xi 16) (xa 0) (xa 1) (xa 2) (xa 3) (xa 4) (xa 5) (xa 6) (xa 7) (xa 8) (xa 9) (xa 10) (xa 11) (xa 12) (xa 13) (xa 14) xJ xL x2 x4 H.size hIX) (cwV 2 hG (goodV gw1122 gw1123 gw1124 gw129 gw1125) rfl rfl rfl hd_X8_ask ⟨(Nat.le_of_ble_eq_true rfl), (Nat.le_of_ble_eq_true rfl)⟩) ⟨fbW, va_recv hKX hPX (ci := 7) (q0 := 0) rfl rfl, pW_in hPX hKX hDX⟩ rfl rfl hl.1 rfl (lv_room (Nat.le_of_ble_eq_true rfl)) dL_law_1449 ⟨(Nat.le_of_ble_eq_true rfl), (Nat.le_of_ble_eq_true rfl)⟩) hS (fun q _ h => hFc q h) hFc (fun r_6 u_ t_ H5 locs ht hvm hw hB hz1 hk1 hS => ?_)
  subst hw
  obtain ⟨n7, n8, hP1, hD1, hIX⟩ := hB
  rw [ht] at hP1
  obtain ⟨hPM, hdj⟩ := mvO hPM hdj (fun k q hk => hD1.2 k q hk) hk1
  have hPX := hP1
  have hDX := dW hFc hD1
  refine lv_pop hx hb dL_law_1452 rfl ?_
  refine lv_aload_n hx hb dL_law_1453 rfl (lv_at hl 1 rfl) ?_
  refine W.eq (g2 := F0 m 1454 ls [.ref (mr 0)]) (by rw [hrM]) ?_
  refine lv_aload_n hx hb dL_law_1454 rfl (lv_at hl 3 rfl) ?_
  refine lv_iload_n hx hb dL_law_1455 rfl (lv_at hl 0 rfl) ?_
  refine lv_iconst (v := 1) hx hb dL_law_1456 (by decide) ?_
  refine lv_iadd hx hb dL_law_1457 ?_
  refine lv_topi (fun x9 ex9 => ?_)
  refine va_sld hx hb hX hbl hbA hS (sidx ex9 hi0 hi1 hL (by decide) (by decide)) dL_law_1458 ?_
  refine lv_topi (fun x10 ex10 => ?_)
  refine lv_aload_n hx hb dL_law_1459 rfl (lv_at hl 3 rfl) ?_
  refine lv_iload_n hx hb dL_law_1460 rfl (lv_at hl 0 rfl) ?_
  refine lv_iconst (v := 2) hx hb dL_law_1461 (by decide) ?_
  refine lv_iadd hx hb dL_law_1462 ?_
  refine lv_topi (fun x11 ex11 => ?_)
  refine va_sld hx hb hX hbl hbA hS (sidx ex11 hi0 hi1 hL (by decide) (by decide)) dL_law_1463 ?_
  refine lv_topi (fun x12 ex12 => ?_)
  have hFc := frA hDM hS hA
  refine va_calli (va_runV (As := [.int x10, .int x12]) (rest := []) ⟨hx, hb, hml, hown, hG⟩ (kX9_ask l dC dI mr mt (mi 0) (mi 1) (mi 2) (mi 3) (mi 4) (mi 5) (mi 6) (mi 7) (mi 8) (mi 9) (mi 10) (mi 11) (mi 12) (mi 13) (mi 14) (mi 15) (mi 16) (mi 17) (mi 18) (mi 19) (ma 0) (ma 1) (ma 2) (ma 3) (ma 4) (ma 5) (ma 6) (ma 7) (ma 8) (ma 9) (ma 10) (ma 11) (ma 12) (ma 13) (ma 14) (ma 15) mJ mL x10 x12 H5.size hIM) (cwV 2 hG (goodV gw1853 gw1854 gw1855 gw138 gw1856) rfl rfl rfl hd_X9_ask ⟨(Nat.le_of_ble_eq_true rfl), (Nat.le_of_ble_eq_true rfl)⟩) ⟨fbW, va_recv hKM hPM (ci := 8) (q0 := 0) rfl rfl, pW_in hPM hKM hDM⟩ rfl rfl hl.1 rfl (lv_room (Nat.le_of_ble_eq_true rfl)) dL_law_1464 ⟨(Nat.le_of_ble_eq_true rfl), (Nat.le_of_ble_eq_true rfl)⟩) hS (fun q _ h => hFc q h) hFc (fun r_14 u_ t_ H13 locs ht hvm hw hB hz1 hk1 hS => ?_)
  subst hw
  obtain ⟨n15, n16, n17, n18, n19, hP1, hD1, hIM⟩ := hB
  rw [ht] at hP1
  obtain ⟨hPX, hdj⟩ := mvO hPX (dj_sym hdj) (fun k q hk => hD1.2 k q hk) hk1
  have hdj := dj_sym hdj
  have hPM := hP1
  have hDM := dW hFc hD1
  refine lv_pop hx hb dL_law_1467 rfl ?_
  refine lv_goto (tgt := 1540) hx hb dL_law_1468 (by decide) ?_
  exact kk H13 _ _ ⟨xr, xt, xi, (fun k => ([(xa 0), (xa 1), (xa 2), (xa 3), (xa 4), (xa 5), (xa 6), (xa 7), (xa 8), (xa 9), (xa 10), (xa 11), (xa 12), (xa 13), n7] : List (Nat → Int32)).getD k (fun _ => 0)), n8, xL, mr, mt, (fun k => ([(mi 0), (mi 1), (mi 2), (mi 3), (mi 4), (mi 5), (mi 6), (mi 7), (mi 8), (mi 9), (mi 10), (mi 11), (mi 12), n15, n16, (mi 15), (mi 16), (mi 17), (mi 18), (mi 19)] : List Int32).getD k 0), (fun k => ([(ma 0), (ma 1), (ma 2), (ma 3), (ma 4), (ma 5), (ma 6), (ma 7), (ma 8), (ma 9), (ma 10), n17, n18, (ma 13), (ma 14), (ma 15)] : List (Nat → Int32)).getD k (fun _ => 0)), n19, mL, hrX, hrM, hKX, hKM, hPX, hPM, hDX, hDM, hdj, hS, hIX, hWB, hRB, hBB, hIM, htm⟩ hl
set_option maxHeartbeats 4000000 in
set_option maxRecDepth 100000 in
theorem law_45 {p : Program} {e : Env} {s : State} {m : MethodId} {below : List Frame} {meth : Method} {c : Code} (l : Launch) {b L : Nat} {xs : Nat → Int32} (hL : L ≤ 3072) (C0 : lw_At p s m meth c b L xs) (dC : Nat → ClassId) (dI : Nat → Nat → Nat) (adK adV : Nat) (fS : Nat → Int32) (hZ : ZS adK adV fS (fun q : Nat => s.heap.size ≤ q) s s.heap) {aX aM : Nat} {i : Int32} (hi0 : 0 ≤ i.toInt) (hi1 : i.toInt + 6 ≤ (L : Int)) {H : Heap} {locs : List Loc} (hI : LI dC dI s aX aM H locs) {ls : Array Slot} (hl : lv_has ls 4 [(3, .int i), (2, .ref aM), (1, .ref aX), (0, .ref b)]) (kk : ∀ (H1 : Heap) (locs1 : List Loc) (ls1 : Array Slot), LI dC dI s aX aM H1 locs1 → lv_has ls1 4 [(3, .int i), (2, .ref aM), (1, .ref aX), (0, .ref b)] → W p l e room_1 s m #[Value.ref b] below meth c H1 locs1 103 20190 (lw_Z below #[Value.ref b] s) (F0 m 1540 ls1 [])) : W p l e room_1 s m #[Value.ref b] below meth c H locs 103 20190 (lw_Z below #[Value.ref b] s) (F0 m 1471 ls []) := by
  obtain ⟨hx, hb, hr, hml, hown, hts, hX, hbl, hlocks, hgv⟩ := id C0
  have hown : s.vm.findClass RL = some m.cls := hown
  have hG : ∀ w ∈ GW, w.before _ s = true := fun w h => hts w (List.mem_filter.mp h).1
  have hA : ∀ q : Nat, s.heap.size ≤ q → (fun q : Nat => s.heap.size ≤ q) q := fun _ h => h
  have hbA : ¬ (fun q : Nat => s.heap.size ≤ q) b := Nat.not_le.mpr hbl
  obtain ⟨xr, xt, xi, xa, xJ, xL, mr, mt, mi, ma, mJ, mL, hrX, hrM, hKX, hKM, hPX, hPM, hDX, hDM, hdj, hS, hIX, hWB, hRB, hBB, hIM, htm⟩ := hI
  refine lv_aload_n hx hb dL_law_1471 rfl (lv_at hl 2 rfl) ?_
  refine W.eq (g2 := F0 m 1472 ls [.ref (xr 0)]) (by rw [hrX]) ?_
  refine lv_aload_n hx hb dL_law_1472 rfl (lv_at hl 3 rfl) ?_
  refine lv_iload_n hx hb dL_law_1473 rfl (lv_at hl 0 rfl) ?_
  refine lv_iconst (v := 1) hx hb dL_law_1474 (by decide) ?_
  refine lv_iadd hx hb dL_law_1475 ?_
  refine lv_topi (fun x1 ex1 => ?_)
  refine va_sld hx hb hX hbl hbA hS (sidx ex1 hi0 hi1 hL (by decide) (by decide)) dL_law_1476 ?_
  refine lv_topi (fun x2 ex2 => ?_)
  have hFc := frA hDX hS hA
  refine va_calli (va_runV (As := [.int x2]) (rest := []) ⟨hx, hb, hml, hown, hG⟩ (kX8_image l dC dI xr xt (xi 0) (xi 1) (xi 2) (xi 3) (xi 4) (xi 5) (xi 6) (xi 7) (xi 8) (xi 9) (xi 10) (xi 11) (xi 12) (xi 13) (xi 14) (xi 15) (xi 16) (xa 0) (xa 1) (xa 2) (xa 3) (xa 4) (xa 5) (xa 6) (xa 7) (xa 8) (xa 9) (xa 10) (xa 11) (xa 12) (xa 13) (xa 14) xJ xL x2 H.size hIX hWB hBB) (cwV 1 hG (goodV gw1135 gw1136 gw1137 gw129 gw1138) rfl rfl rfl hd_X8_image ⟨(Nat.le_of_ble_eq_true rfl), (Nat.le_of_ble_eq_true rfl)⟩) ⟨fbW, va_recv hKX hPX (ci := 7) (q0 := 0) rfl rfl, pW_in hPX hKX hDX⟩ rfl rfl hl.1 rfl (lv_room (Nat.le_of_ble_eq_true rfl)) dL_law_1477 ⟨(Nat.le_of_ble_eq_true rfl), (Nat.le_of_ble_eq_true rfl)⟩) hS (fun q _ h => hFc q h) hFc (fun r_4 u_ t_ H3 locs ht hvm hw hB hz1 hk1 hS => ?_)
  subst hw
  obtain ⟨n5, n6, hP1, hD1, hIX, hBB⟩ := hB
  rw [ht] at hP1
  obtain ⟨hPM, hdj⟩ := mvO hPM hdj (fun k q hk => hD1.2 k q hk) hk1
  have hPX := hP1
  have hDX := dW hFc hD1
  refine lv_pop hx hb dL_law_1480 rfl ?_
  refine lv_aload_n hx hb dL_law_1481 rfl (lv_at hl 1 rfl) ?_
  refine W.eq (g2 := F0 m 1482 ls [.ref (mr 0)]) (by rw [hrM]) ?_
  refine lv_aload_n hx hb dL_law_1482 rfl (lv_at hl 3 rfl) ?_
  refine lv_iload_n hx hb dL_law_1483 rfl (lv_at hl 0 rfl) ?_
  refine lv_iconst (v := 1) hx hb dL_law_1484 (by decide) ?_
  refine lv_iadd hx hb dL_law_1485 ?_
  refine lv_topi (fun x7 ex7 => ?_)
  refine va_sld hx hb hX hbl hbA hS (sidx ex7 hi0 hi1 hL (by decide) (by decide)) dL_law_1486 ?_
  refine lv_topi (fun x8 ex8 => ?_)
  have hFc := frA hDM hS hA
  refine va_calli (va_runV (As := [.int x8]) (rest := []) ⟨hx, hb, hml, hown, hG⟩ (kX9_image l dC dI mr mt (mi 0) (mi 1) (mi 2) (mi 3) (mi 4) (mi 5) (mi 6) (mi 7) (mi 8) (mi 9) (mi 10) (mi 11) (mi 12) (mi 13) (mi 14) (mi 15) (mi 16) (mi 17) (mi 18) (mi 19) (ma 0) (ma 1) (ma 2) (ma 3) (ma 4) (ma 5) (ma 6) (ma 7) (ma 8) (ma 9) (ma 10) (ma 11) (ma 12) (ma 13) (ma 14) (ma 15) mJ mL x8 H3.size hIM) (cwV 1 hG (goodV gw1861 gw1862 gw1863 gw138 gw1864) rfl rfl rfl hd_X9_image ⟨(Nat.le_of_ble_eq_true rfl), (Nat.le_of_ble_eq_true rfl)⟩) ⟨fbW, va_recv hKM hPM (ci := 8) (q0 := 0) rfl rfl, pW_in hPM hKM hDM⟩ rfl rfl hl.1 rfl (lv_room (Nat.le_of_ble_eq_true rfl)) dL_law_1487 ⟨(Nat.le_of_ble_eq_true rfl), (Nat.le_of_ble_eq_true rfl)⟩) hS (fun q _ h => hFc q h) hFc (fun r_10 u_ t_ H9 locs ht hvm hw hB hz1 hk1 hS => ?_)
  subst hw
  obtain ⟨n11, n12, hP1, hD1, hIM⟩ := hB
  rw [ht] at hP1
  obtain ⟨hPX, hdj⟩ := mvO hPX (dj_sym hdj) (fun k q hk => hD1.2 k q hk) hk1
  have hdj := dj_sym hdj
  have hPM := hP1
  have hDM := dW hFc hD1
  refine lv_pop hx hb dL_law_1490 rfl ?_
  refine lv_goto (tgt := 1540) hx hb dL_law_1491 (by decide) ?_
  exact kk H9 _ _ ⟨xr, xt, xi, (fun k => ([n5, n6, (xa 2), (xa 3), (xa 4), (xa 5), (xa 6), (xa 7), (xa 8), (xa 9), (xa 10), (xa 11), (xa 12), (xa 13), (xa 14)] : List (Nat → Int32)).getD k (fun _ => 0)), xJ, xL, mr, mt, mi, (fun k => ([(ma 0), (ma 1), (ma 2), (ma 3), (ma 4), (ma 5), (ma 6), (ma 7), (ma 8), (ma 9), (ma 10), (ma 11), (ma 12), (ma 13), (ma 14), n11] : List (Nat → Int32)).getD k (fun _ => 0)), n12, mL, hrX, hrM, hKX, hKM, hPX, hPM, hDX, hDM, hdj, hS, hIX, hWB, hRB, hBB, hIM, htm⟩ hl
set_option maxHeartbeats 4000000 in
set_option maxRecDepth 100000 in
theorem law_46 {p : Program} {e : Env} {s : State} {m : MethodId} {below : List Frame} {meth : Method} {c : Code} (l : Launch) {b L : Nat} {xs : Nat → Int32} (hL : L ≤ 3072) (C0 : lw_At p s m meth c b L xs) (dC : Nat → ClassId) (dI : Nat → Nat → Nat) (adK adV : Nat) (fS : Nat → Int32) (hZ : ZS adK adV fS (fun q : Nat => s.heap.size ≤ q) s s.heap) {aX aM : Nat} {i : Int32} (hi0 : 0 ≤ i.toInt) (hi1 : i.toInt + 6 ≤ (L : Int)) {H : Heap} {locs : List Loc} (hI : LI dC dI s aX aM H locs) {ls : Array Slot} (hl : lv_has ls 4 [(3, .int i), (2, .ref aM), (1, .ref aX), (0, .ref b)]) (kk : ∀ (H1 : Heap) (locs1 : List Loc) (ls1 : Array Slot), LI dC dI s aX aM H1 locs1 → lv_has ls1 4 [(3, .int i), (2, .ref aM), (1, .ref aX), (0, .ref b)] → W p l e room_1 s m #[Value.ref b] below meth c H1 locs1 103 20190 (lw_Z below #[Value.ref b] s) (F0 m 1540 ls1 [])) : W p l e room_1 s m #[Value.ref b] below meth c H locs 103 20190 (lw_Z below #[Value.ref b] s) (F0 m 1494 ls []) := by
  obtain ⟨hx, hb, hr, hml, hown, hts, hX, hbl, hlocks, hgv⟩ := id C0
  have hown : s.vm.findClass RL = some m.cls := hown
  have hG : ∀ w ∈ GW, w.before _ s = true := fun w h => hts w (List.mem_filter.mp h).1
  have hA : ∀ q : Nat, s.heap.size ≤ q → (fun q : Nat => s.heap.size ≤ q) q := fun _ h => h
  have hbA : ¬ (fun q : Nat => s.heap.size ≤ q) b := Nat.not_le.mpr hbl
  obtain ⟨xr, xt, xi, xa, xJ, xL, mr, mt, mi, ma, mJ, mL, hrX, hrM, hKX, hKM, hPX, hPM, hDX, hDM, hdj, hS, hIX, hWB, hRB, hBB, hIM, htm⟩ := hI
  refine lv_aload_n hx hb dL_law_1494 rfl (lv_at hl 2 rfl) ?_
  refine W.eq (g2 := F0 m 1495 ls [.ref (xr 0)]) (by rw [hrX]) ?_
  refine lv_aload_n hx hb dL_law_1495 rfl (lv_at hl 3 rfl) ?_
  refine lv_iload_n hx hb dL_law_1496 rfl (lv_at hl 0 rfl) ?_
  refine lv_iconst (v := 1) hx hb dL_law_1497 (by decide) ?_
  refine lv_iadd hx hb dL_law_1498 ?_
  refine lv_topi (fun x1 ex1 => ?_)
  refine va_sld hx hb hX hbl hbA hS (sidx ex1 hi0 hi1 hL (by decide) (by decide)) dL_law_1499 ?_
  refine lv_topi (fun x2 ex2 => ?_)
  have hFc := frA hDX hS hA
  refine va_calli (va_runV (As := [.int x2]) (rest := []) ⟨hx, hb, hml, hown, hG⟩ (kX8_restore l dC dI xr xt (xi 0) (xi 1) (xi 2) (xi 3) (xi 4) (xi 5) (xi 6) (xi 7) (xi 8) (xi 9) (xi 10) (xi 11) (xi 12) (xi 13) (xi 14) (xi 15) (xi 16) (xa 0) (xa 1) (xa 2) (xa 3) (xa 4) (xa 5) (xa 6) (xa 7) (xa 8) (xa 9) (xa 10) (xa 11) (xa 12) (xa 13) (xa 14) xJ xL x2 H.size hIX hWB hRB hBB) (cwV 1 hG (goodV gw1140 gw1141 gw1142 gw129 gw1143) rfl rfl rfl hd_X8_restore ⟨(Nat.le_of_ble_eq_true rfl), (Nat.le_of_ble_eq_true rfl)⟩) ⟨fbW, va_recv hKX hPX (ci := 7) (q0 := 0) rfl rfl, pW_in hPX hKX hDX⟩ rfl rfl hl.1 rfl (lv_room (Nat.le_of_ble_eq_true rfl)) dL_law_1500 ⟨(Nat.le_of_ble_eq_true rfl), (Nat.le_of_ble_eq_true rfl)⟩) hS (fun q _ h => hFc q h) hFc (fun r_4 u_ t_ H3 locs ht hvm hw hB hz1 hk1 hS => ?_)
  subst hw
  obtain ⟨n5, n6, n7, n8, n9, n10, hP1, hD1, hIX, hWB, hRB⟩ := hB
  rw [ht] at hP1
  obtain ⟨hPM, hdj⟩ := mvO hPM hdj (fun k q hk => hD1.2 k q hk) hk1
  have hPX := hP1
  have hDX := dW hFc hD1
  refine lv_pop hx hb dL_law_1503 rfl ?_
  refine lv_aload_n hx hb dL_law_1504 rfl (lv_at hl 1 rfl) ?_
  refine W.eq (g2 := F0 m 1505 ls [.ref (mr 0)]) (by rw [hrM]) ?_
  refine lv_aload_n hx hb dL_law_1505 rfl (lv_at hl 3 rfl) ?_
  refine lv_iload_n hx hb dL_law_1506 rfl (lv_at hl 0 rfl) ?_
  refine lv_iconst (v := 1) hx hb dL_law_1507 (by decide) ?_
  refine lv_iadd hx hb dL_law_1508 ?_
  refine lv_topi (fun x11 ex11 => ?_)
  refine va_sld hx hb hX hbl hbA hS (sidx ex11 hi0 hi1 hL (by decide) (by decide)) dL_law_1509 ?_
  refine lv_topi (fun x12 ex12 => ?_)
  have hFc := frA hDM hS hA
  refine va_calli (va_runV (As := [.int x12]) (rest := []) ⟨hx, hb, hml, hown, hG⟩ (kX9_restore l dC dI mr mt (mi 0) (mi 1) (mi 2) (mi 3) (mi 4) (mi 5) (mi 6) (mi 7) (mi 8) (mi 9) (mi 10) (mi 11) (mi 12) (mi 13) (mi 14) (mi 15) (mi 16) (mi 17) (mi 18) (mi 19) (ma 0) (ma 1) (ma 2) (ma 3) (ma 4) (ma 5) (ma 6) (ma 7) (ma 8) (ma 9) (ma 10) (ma 11) (ma 12) (ma 13) (ma 14) (ma 15) mJ mL x12 H3.size hIM) (cwV 1 hG (goodV gw1865 gw1866 gw1867 gw138 gw1868) rfl rfl rfl hd_X9_restore ⟨(Nat.le_of_ble_eq_true rfl), (Nat.le_of_ble_eq_true rfl)⟩) ⟨fbW, va_recv hKM hPM (ci := 8) (q0 := 0) rfl rfl, pW_in hPM hKM hDM⟩ rfl rfl hl.1 rfl (lv_room (Nat.le_of_ble_eq_true rfl)) dL_law_1510 ⟨(Nat.le_of_ble_eq_true rfl), (Nat.le_of_ble_eq_true rfl)⟩) hS (fun q _ h => hFc q h) hFc (fun r_14 u_ t_ H13 locs ht hvm hw hB hz1 hk1 hS => ?_)
  subst hw
  obtain ⟨n15, n16, n17, hP1, hD1, hIM⟩ := hB
  rw [ht] at hP1
  obtain ⟨hPX, hdj⟩ := mvO hPX (dj_sym hdj) (fun k q hk => hD1.2 k q hk) hk1
  have hdj := dj_sym hdj
  have hPM := hP1
  have hDM := dW hFc hD1
  refine lv_pop hx hb dL_law_1513 rfl ?_
  refine lv_goto (tgt := 1540) hx hb dL_law_1514 (by decide) ?_
  exact kk H13 _ _ ⟨xr, xt, (fun k => ([(xi 0), (xi 1), (xi 2), (xi 3), (xi 4), (xi 5), (xi 6), (xi 7), (xi 8), (xi 9), (xi 10), (xi 11), (xi 12), (xi 13), n5, n6, (xi 16)] : List Int32).getD k 0), (fun k => ([(xa 0), (xa 1), (xa 2), (xa 3), (xa 4), (xa 5), (xa 6), (xa 7), n7, n8, (xa 10), (xa 11), n9, (xa 13), (xa 14)] : List (Nat → Int32)).getD k (fun _ => 0)), n10, xL, mr, mt, (fun k => ([(mi 0), (mi 1), (mi 2), (mi 3), (mi 4), (mi 5), (mi 6), (mi 7), (mi 8), (mi 9), (mi 10), (mi 11), (mi 12), (mi 13), (mi 14), n15, n16, (mi 17), (mi 18), (mi 19)] : List Int32).getD k 0), (fun k => ([(ma 0), (ma 1), (ma 2), (ma 3), (ma 4), (ma 5), (ma 6), (ma 7), (ma 8), (ma 9), (ma 10), n17, (ma 12), (ma 13), (ma 14), (ma 15)] : List (Nat → Int32)).getD k (fun _ => 0)), mJ, mL, hrX, hrM, hKX, hKM, hPX, hPM, hDX, hDM, hdj, hS, hIX, hWB, hRB, hBB, hIM, htm⟩ hl
set_option maxHeartbeats 4000000 in
set_option maxRecDepth 100000 in
theorem law_47 {p : Program} {e : Env} {s : State} {m : MethodId} {below : List Frame} {meth : Method} {c : Code} (l : Launch) {b L : Nat} {xs : Nat → Int32} (hL : L ≤ 3072) (C0 : lw_At p s m meth c b L xs) (dC : Nat → ClassId) (dI : Nat → Nat → Nat) (adK adV : Nat) (fS : Nat → Int32) (hZ : ZS adK adV fS (fun q : Nat => s.heap.size ≤ q) s s.heap) {aX aM : Nat} {i : Int32} (hi0 : 0 ≤ i.toInt) (hi1 : i.toInt + 6 ≤ (L : Int)) {H : Heap} {locs : List Loc} (hI : LI dC dI s aX aM H locs) {ls : Array Slot} (hl : lv_has ls 4 [(3, .int i), (2, .ref aM), (1, .ref aX), (0, .ref b)]) (kk : ∀ (H1 : Heap) (locs1 : List Loc) (ls1 : Array Slot), LI dC dI s aX aM H1 locs1 → lv_has ls1 4 [(3, .int i), (2, .ref aM), (1, .ref aX), (0, .ref b)] → W p l e room_1 s m #[Value.ref b] below meth c H1 locs1 103 20190 (lw_Z below #[Value.ref b] s) (F0 m 1540 ls1 [])) : W p l e room_1 s m #[Value.ref b] below meth c H locs 103 20190 (lw_Z below #[Value.ref b] s) (F0 m 1517 ls []) := by
  obtain ⟨hx, hb, hr, hml, hown, hts, hX, hbl, hlocks, hgv⟩ := id C0
  have hown : s.vm.findClass RL = some m.cls := hown
  have hG : ∀ w ∈ GW, w.before _ s = true := fun w h => hts w (List.mem_filter.mp h).1
  have hA : ∀ q : Nat, s.heap.size ≤ q → (fun q : Nat => s.heap.size ≤ q) q := fun _ h => h
  have hbA : ¬ (fun q : Nat => s.heap.size ≤ q) b := Nat.not_le.mpr hbl
  obtain ⟨xr, xt, xi, xa, xJ, xL, mr, mt, mi, ma, mJ, mL, hrX, hrM, hKX, hKM, hPX, hPM, hDX, hDM, hdj, hS, hIX, hWB, hRB, hBB, hIM, htm⟩ := hI
  refine lv_aload_n hx hb dL_law_1517 rfl (lv_at hl 2 rfl) ?_
  refine W.eq (g2 := F0 m 1518 ls [.ref (xr 0)]) (by rw [hrX]) ?_
  refine lv_aload_n hx hb dL_law_1518 rfl (lv_at hl 3 rfl) ?_
  refine lv_iload_n hx hb dL_law_1519 rfl (lv_at hl 0 rfl) ?_
  refine lv_iconst (v := 1) hx hb dL_law_1520 (by decide) ?_
  refine lv_iadd hx hb dL_law_1521 ?_
  refine lv_topi (fun x1 ex1 => ?_)
  refine va_sld hx hb hX hbl hbA hS (sidx ex1 hi0 hi1 hL (by decide) (by decide)) dL_law_1522 ?_
  refine lv_topi (fun x2 ex2 => ?_)
  refine va_calli (va_runV (As := [.int x2]) (rest := []) ⟨hx, hb, hml, hown, hG⟩ (kX8_about l dC dI xr xt (xi 0) (xi 1) (xi 2) (xi 3) (xi 4) (xi 5) (xi 6) (xi 7) (xi 8) (xi 9) (xi 10) (xi 11) (xi 12) (xi 13) (xi 14) (xi 15) (xi 16) (xa 0) (xa 1) (xa 2) (xa 3) (xa 4) (xa 5) (xa 6) (xa 7) (xa 8) (xa 9) (xa 10) (xa 11) (xa 12) (xa 13) (xa 14) xJ xL x2 H.size hIX) (cwV 1 hG (goodV gw1145 gw1146 gw1147 gw129 gw1148) rfl rfl rfl hd_X8_about ⟨(Nat.le_of_ble_eq_true rfl), (Nat.le_of_ble_eq_true rfl)⟩) ⟨fbR, va_recv hKX hPX (ci := 7) (q0 := 0) rfl rfl, pR_in hPX hKX⟩ rfl rfl hl.1 rfl (lv_room (Nat.le_of_ble_eq_true rfl)) dL_law_1523 ⟨(Nat.le_of_ble_eq_true rfl), (Nat.le_of_ble_eq_true rfl)⟩) hS (fun q hq h => absurd hq (Nat.not_lt.mpr h)) (fun q h => hA q (Nat.le_trans hS.1 h)) (fun r_4 u_ t_ H3 locs ht hvm hw hB hz1 hk1 hS => ?_)
  subst hw
  have hPX := wk hPX hk1
  have hPM := wk hPM hk1
  refine lv_pop hx hb dL_law_1526 rfl ?_
  refine lv_aload_n hx hb dL_law_1527 rfl (lv_at hl 1 rfl) ?_
  refine W.eq (g2 := F0 m 1528 ls [.ref (mr 0)]) (by rw [hrM]) ?_
  refine lv_aload_n hx hb dL_law_1528 rfl (lv_at hl 3 rfl) ?_
  refine lv_iload_n hx hb dL_law_1529 rfl (lv_at hl 0 rfl) ?_
  refine lv_iconst (v := 1) hx hb dL_law_1530 (by decide) ?_
  refine lv_iadd hx hb dL_law_1531 ?_
  refine lv_topi (fun x5 ex5 => ?_)
  refine va_sld hx hb hX hbl hbA hS (sidx ex5 hi0 hi1 hL (by decide) (by decide)) dL_law_1532 ?_
  refine lv_topi (fun x6 ex6 => ?_)
  refine va_calli (va_runV (As := [.int x6]) (rest := []) ⟨hx, hb, hml, hown, hG⟩ (kX9_about l dC dI mr mt (mi 0) (mi 1) (mi 2) (mi 3) (mi 4) (mi 5) (mi 6) (mi 7) (mi 8) (mi 9) (mi 10) (mi 11) (mi 12) (mi 13) (mi 14) (mi 15) (mi 16) (mi 17) (mi 18) (mi 19) (ma 0) (ma 1) (ma 2) (ma 3) (ma 4) (ma 5) (ma 6) (ma 7) (ma 8) (ma 9) (ma 10) (ma 11) (ma 12) (ma 13) (ma 14) (ma 15) mJ mL x6 H3.size hIM) (cwV 1 hG (goodV gw1869 gw1870 gw1871 gw138 gw1872) rfl rfl rfl hd_X9_about ⟨(Nat.le_of_ble_eq_true rfl), (Nat.le_of_ble_eq_true rfl)⟩) ⟨fbR, va_recv hKM hPM (ci := 8) (q0 := 0) rfl rfl, pR_in hPM hKM⟩ rfl rfl hl.1 rfl (lv_room (Nat.le_of_ble_eq_true rfl)) dL_law_1533 ⟨(Nat.le_of_ble_eq_true rfl), (Nat.le_of_ble_eq_true rfl)⟩) hS (fun q hq h => absurd hq (Nat.not_lt.mpr h)) (fun q h => hA q (Nat.le_trans hS.1 h)) (fun r_8 u_ t_ H7 locs ht hvm hw hB hz1 hk1 hS => ?_)
  subst hw
  have hPX := wk hPX hk1
  have hPM := wk hPM hk1
  refine lv_pop hx hb dL_law_1536 rfl ?_
  refine lv_goto (tgt := 1540) hx hb dL_law_1537 (by decide) ?_
  exact kk H7 _ _ ⟨xr, xt, xi, xa, xJ, xL, mr, mt, mi, ma, mJ, mL, hrX, hrM, hKX, hKM, hPX, hPM, hDX, hDM, hdj, hS, hIX, hWB, hRB, hBB, hIM, htm⟩ hl
