set_option maxHeartbeats 4000000 in
set_option maxRecDepth 100000 in
theorem lw_two {p : Program} {e : Env} {s : State} {m : MethodId} {below : List Frame} {meth : Method} {c : Code} (l : Launch) {b L : Nat} {xs : Nat → Int32} (hL : L ≤ 3072) (C0 : lw_At p s m meth c b L xs) (dC : Nat → ClassId) (dI : Nat → Nat → Nat) (adK adV : Nat) (fS : Nat → Int32) (hZ : ZS adK adV fS (fun q : Nat => s.heap.size ≤ q) s s.heap) (hN : cNW s) (xr : Nat → Nat) (xt : Nat → ClassId) (xi : Nat → Int32) (xa : Nat → Nat → Int32) (xJ : Nat → Nat → Int32) (xL : Nat → Nat → Int64) {aX : Nat} {H : Heap} {locs : List Loc} (hKX : va_K (dC, dI) vwCl (TX xt) s) (hPX : va_P (dC, dI) vwCl (WX xr xt (xi 0) (xi 1) (xi 2) (xi 3) (xi 4) (xi 5) (xi 6) (xi 7) (xi 8) (xi 9) (xi 10) (xi 11) (xi 12) (xi 13) (xi 14) (xi 15) (xi 16) (xa 0) (xa 1) (xa 2) (xa 3) (xa 4) (xa 5) (xa 6) (xa 7) (xa 8) (xa 9) (xa 10) (xa 11) (xa 12) (xa 13) (xa 14) xJ xL) H) (hDX : va_D (fun q : Nat => s.heap.size ≤ q) (WX xr xt (xi 0) (xi 1) (xi 2) (xi 3) (xi 4) (xi 5) (xi 6) (xi 7) (xi 8) (xi 9) (xi 10) (xi 11) (xi 12) (xi 13) (xi 14) (xi 15) (xi 16) (xa 0) (xa 1) (xa 2) (xa 3) (xa 4) (xa 5) (xa 6) (xa 7) (xa 8) (xa 9) (xa 10) (xa 11) (xa 12) (xa 13) (xa 14) xJ xL)) (hIX : (IX (xi 0) (xi 1) (xi 2) (xi 4) (xi 6) (xi 7) (xi 8) (xi 9) (xi 10) (xi 11) (xi 12) (xi 13) (xi 14) (xi 15) (xi 16) (xa 0) (xa 4) (xa 5) (xa 6) (xa 7) (xa 9) (xa 11) (xa 12) (xa 13))) (hWB : WB (xi 8) (xa 8)) (hRB : RB (xi 8) (xi 14) (xi 15) (xa 12)) (hBB : BB (xi 8) (xa 1) (xa 0)) (hx0 : (xi 1) = 0) (hrX : xr 0 = aX) (hS : va_S (fun q : Nat => s.heap.size ≤ q) s.heap H locs) {ls : Array Slot} (hl : lv_has ls 4 [(1, .ref aX), (0, .ref b)]) : W p l e room_1 s m #[Value.ref b] below meth c H locs 64 10820 (lw_Z below #[Value.ref b] s) (F0 m 8 ls []) := by
  obtain ⟨hx, hb, hr, hml, hown, hts, hX, hbl, hlocks, hgv⟩ := id C0
  have hown : s.vm.findClass RL = some m.cls := hown
  have hG : ∀ w ∈ GW, w.before _ s = true := fun w h => hts w (List.mem_filter.mp h).1
  have hA : ∀ q : Nat, s.heap.size ≤ q → (fun q : Nat => s.heap.size ≤ q) q := fun _ h => h
  have hbA : ¬ (fun q : Nat => s.heap.size ≤ q) b := Nat.not_le.mpr hbl
  refine va_new (ci := 8) (fs := [.null, .null, .int 0, .int 0, .int 0, .int 0, .int 0, .int 0, .int 0, .int 0, .long 0, .null, .null, .null, .null, .null, .null, .null, .null, .null, .null, .null, .null, .null, .null, .null, .null, .null, .null, .null, .null, .null, .null, .int 0, .int 0, .int 0, .int 0, .int 0, .int 0, .int 0, .int 0, .int 0, .null, .null, .null, .int 0, .int 0, .null, .int 0, .null, .null, .null, .null, .null, .null, .null, .null, .int 0, .int 0, .int 0, .null, .null]) (C := RX9) (T := TX9) (N := 62) hx hb hG inX9 tyX9 tyX9_ok hown (hG _ gw1149) (hG _ gw1150) (hG _ gw138) hKX hPX hDX hS hA rfl (by decide +kernel) (Nat.le_of_ble_eq_true rfl) (Nat.le_of_ble_eq_true rfl) dL_law_8 (fun q1 H2 hP hD hS => ?_)
  have hPX := P_l hP
  have hPc := P_r hP
  have hDX := D_l hD
  have hDc := D_r hD
  have hdj := dj_of hD
  refine W.widen (k := 65) (n := 10882) (Nat.le_of_ble_eq_true rfl) (Nat.le_of_ble_eq_true rfl) ?_
  refine lv_dup hx hb dL_law_11 rfl ?_
  have hKc : va_K (dC, dI) vwCl [] s := hKX.sub [] rfl
  have hFc := frA hDc hS hA
  refine va_callv (va_runI (As := []) (rest := [.ref q1]) ⟨hx, hb, hml, hown, hG⟩ (kX9_init l dC dI q1 H2.size) (cwI 0 hG (good1 gw1153) rfl rfl rfl (hG _ gw138) (hG _ gw1151) (hG _ gw1152) rfl hd_X9_init ⟨(Nat.le_of_ble_eq_true rfl), (Nat.le_of_ble_eq_true rfl)⟩) ⟨fbN, pN_in hPc hKc hDc hN⟩ rfl rfl hl.1 rfl (lv_room (Nat.le_of_ble_eq_true rfl)) dL_law_12 ⟨(Nat.le_of_ble_eq_true rfl), (Nat.le_of_ble_eq_true rfl)⟩) hS (fun q _ h => hFc q h) hFc (fun u t H3 locs ht hvm hw hB hz1 hk1 hS => ?_)
  refine W.widen (k := 103) (n := 20190) (Nat.le_of_ble_eq_true rfl) (Nat.le_of_ble_eq_true rfl) ?_
  obtain ⟨mr, mt, m_i_taped, m_i_size, m_i_faultKind, m_i_at, m_i_end, m_i_token, m_i_number, m_i_bank, m_i_rb, m_i_codes, m_i_within, m_i_piled, m_i_unitsInRule, m_i_askHouse, m_i_askTune, m_i_acts, m_i_undone, m_i_laid, m_i_knowns, m_i_time, m_f_text, m_f_tunes, m_f_houses, m_f_hums, m_f_told, m_f_many, m_f_ruleFrom, m_f_ruleTo, m_f_code, m_f_eWhat, m_f_eSign, m_f_all, m_f_kept, m_f_was, m_f_sTune, m_f_boxAll, m_J, m_L, hP1, hK1, hD1, hrM, hIM, hm0⟩ := hB
  rw [ht] at hP1
  have hKM := va_K.moved hvm.symm hK1
  obtain ⟨hPX, hdj⟩ := mvO hPX (dj_sym hdj) (fun k q hk => hD1.2 k q hk) hk1
  have hdj := dj_sym hdj
  have hDM := dW hFc hD1
  refine lv_astore_n (lv' := [(2, .ref q1), (1, .ref aX), (0, .ref b)]) hx hb dL_law_15 rfl hl (by decide) rfl (fun ls hl => ?_)
  refine lv_iconst (v := 0) hx hb dL_law_16 (by decide) ?_
  refine lv_istore_n (lv' := [(3, .int 0), (2, .ref q1), (1, .ref aX), (0, .ref b)]) hx hb dL_law_17 rfl hl (by decide) rfl (fun ls hl => ?_)
  exact law_loop l hL C0 dC dI adK adV fS hZ (L + 1) 0 H3 _ ls (by decide) (show (0 : Int32).toInt ≤ (L : Int) by have z : (0 : Int32).toInt = 0 := (by decide); omega) ⟨xr, xt, xi, xa, xJ, xL, mr, mt, (fun k => ([m_i_taped, m_i_size, m_i_faultKind, m_i_at, m_i_end, m_i_token, m_i_number, m_i_bank, m_i_rb, m_i_codes, m_i_within, m_i_piled, m_i_unitsInRule, m_i_askHouse, m_i_askTune, m_i_acts, m_i_undone, m_i_laid, m_i_knowns, m_i_time] : List Int32).getD k 0), (fun k => ([m_f_text, m_f_tunes, m_f_houses, m_f_hums, m_f_told, m_f_many, m_f_ruleFrom, m_f_ruleTo, m_f_code, m_f_eWhat, m_f_eSign, m_f_all, m_f_kept, m_f_was, m_f_sTune, m_f_boxAll] : List (Nat → Int32)).getD k (fun _ => 0)), m_J, m_L, hrX, hrM, hKX, hKM, hPX, hP1, hDX, hDM, hdj, hS, hIX, hWB, hRB, hBB, hIM, hx0.trans hm0.symm⟩ hl (by have z : (0 : Int32).toInt = 0 := (by decide); omega)
