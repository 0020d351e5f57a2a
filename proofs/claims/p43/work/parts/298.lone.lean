set_option maxHeartbeats 4000000 in
set_option maxRecDepth 100000 in
theorem lw_one {p : Program} {e : Env} {s : State} {m : MethodId} {below : List Frame} {meth : Method} {c : Code} (l : Launch) {b L : Nat} {xs : Nat → Int32} (hL : L ≤ 3072) (C0 : lw_At p s m meth c b L xs) (dC : Nat → ClassId) (dI : Nat → Nat → Nat) (adK adV : Nat) (fS : Nat → Int32) (hZ : ZS adK adV fS (fun q : Nat => s.heap.size ≤ q) s s.heap) (hN : cNW s) (hK : va_K (dC, dI) vwCl [] s) (hP : va_P (dC, dI) vwCl [] s.heap) (hD : va_D (fun q : Nat => s.heap.size ≤ q) []) (hS : va_S (fun q : Nat => s.heap.size ≤ q) s.heap s.heap []) {ls : Array Slot} (hl : lv_has ls 4 [(0, .ref b)]) : W p l e room_1 s m #[Value.ref b] below meth c s.heap [] 0 0 (lw_Z below #[Value.ref b] s) (F0 m 0 ls []) := by
  obtain ⟨hx, hb, hr, hml, hown, hts, hX, hbl, hlocks, hgv⟩ := id C0
  have hown : s.vm.findClass RL = some m.cls := hown
  have hG : ∀ w ∈ GW, w.before _ s = true := fun w h => hts w (List.mem_filter.mp h).1
  have hA : ∀ q : Nat, s.heap.size ≤ q → (fun q : Nat => s.heap.size ≤ q) q := fun _ h => h
  have hbA : ¬ (fun q : Nat => s.heap.size ≤ q) b := Nat.not_le.mpr hbl
  refine va_new (ci := 7) (fs := [.null, .int 0, .null, .null, .null, .null, .null, .null, .null, .null, .int 0, .null, .int 0, .null, .null, .null]) (C := RX8) (T := TX8) (N := 16) hx hb hG inX8 tyX8 tyX8_ok hown (hG _ gw146) (hG _ gw147) (hG _ gw129) hK hP hD hS hA rfl (by decide +kernel) (Nat.le_of_ble_eq_true rfl) (Nat.le_of_ble_eq_true rfl) dL_law_0 (fun q1 H2 hP hD hS => ?_)
  have hPc := P_r hP
  have hDc := D_r hD
  refine W.widen (k := 1) (n := 16) (Nat.le_of_ble_eq_true rfl) (Nat.le_of_ble_eq_true rfl) ?_
  refine lv_dup hx hb dL_law_3 rfl ?_
  have hFc := frA hDc hS hA
  refine va_callv (va_runI (As := []) (rest := [.ref q1]) ⟨hx, hb, hml, hown, hG⟩ (kX8_init l dC dI q1 H2.size) (cwI 0 hG (good1 gw150) rfl rfl rfl (hG _ gw129) (hG _ gw148) (hG _ gw149) rfl hd_X8_init ⟨(Nat.le_of_ble_eq_true rfl), (Nat.le_of_ble_eq_true rfl)⟩) ⟨fbN, pN_in hPc hK hDc hN⟩ rfl rfl hl.1 rfl (lv_room (Nat.le_of_ble_eq_true rfl)) dL_law_4 ⟨(Nat.le_of_ble_eq_true rfl), (Nat.le_of_ble_eq_true rfl)⟩) hS (fun q _ h => hFc q h) hFc (fun u t H3 locs ht hvm hw hB hz1 hk1 hS => ?_)
  refine W.widen (k := 64) (n := 10820) (Nat.le_of_ble_eq_true rfl) (Nat.le_of_ble_eq_true rfl) ?_
  obtain ⟨xr, xt, x_i_tapeLength, x_i_time, x_i_lyingCount, x_i_rd_fault, x_i_rd_token, x_i_rd_kind, x_i_sc_count, x_i_sc_at, x_i_A_tunes, x_i_A_houses, x_i_fA_length, x_i_B_tunes, x_i_B_houses, x_i_fB_length, x_i_acts_done, x_i_acts_undone, x_i_kn_count, x_f_boxes, x_f_boxKept, x_f_trial, x_f_offers, x_f_A_noteCounts, x_f_A_notes, x_f_B_noteCounts, x_f_B_notes, x_f_now_where, x_f_now_worn, x_f_ahead_where, x_f_ahead_worn, x_f_acts_rows, x_f_kn_tunes, x_f_kn_noteTimes, x_J, x_L, hP1, hK1, hD1, hrX, hIX, hWB, hRB, hBB, hx0⟩ := hB
  rw [ht] at hP1
  have hKX := va_K.moved hvm.symm hK1
  have hDX := dW hFc hD1
  refine lv_astore_n (lv' := [(1, .ref q1), (0, .ref b)]) hx hb dL_law_7 rfl hl (by decide) rfl (fun ls hl => ?_)
  exact lw_two l hL C0 dC dI adK adV fS hZ hN xr xt (fun k => ([x_i_tapeLength, x_i_time, x_i_lyingCount, x_i_rd_fault, x_i_rd_token, x_i_rd_kind, x_i_sc_count, x_i_sc_at, x_i_A_tunes, x_i_A_houses, x_i_fA_length, x_i_B_tunes, x_i_B_houses, x_i_fB_length, x_i_acts_done, x_i_acts_undone, x_i_kn_count] : List Int32).getD k 0) (fun k => ([x_f_boxes, x_f_boxKept, x_f_trial, x_f_offers, x_f_A_noteCounts, x_f_A_notes, x_f_B_noteCounts, x_f_B_notes, x_f_now_where, x_f_now_worn, x_f_ahead_where, x_f_ahead_worn, x_f_acts_rows, x_f_kn_tunes, x_f_kn_noteTimes] : List (Nat → Int32)).getD k (fun _ => 0)) x_J x_L hKX hP1 hDX hIX hWB hRB hBB hx0 hrX hS hl
