set_option maxHeartbeats 4000000 in
set_option maxRecDepth 100000 in
theorem kX9_readLine (l : Launch) (dC : Nat → ClassId) (dI : Nat → Nat → Nat) (r : Nat → Nat) (ct : Nat → ClassId) (i_taped i_size i_faultKind i_at i_end i_token i_number i_bank i_rb i_codes i_within i_piled i_unitsInRule i_askHouse i_askTune i_acts i_undone i_laid i_knowns i_time : Int32) (f_text f_tunes f_houses f_hums f_told f_many f_ruleFrom f_ruleTo f_code f_eWhat f_eSign f_all f_kept f_was f_sTune f_boxAll : Nat → Int32) (J : Nat → Nat → Int32) (L : Nat → Nat → Int64) (sz : Nat) (hI : (IM i_taped i_size i_faultKind i_at i_end i_bank i_rb i_acts i_undone i_laid i_knowns i_time f_tunes f_houses f_hums f_told f_many f_ruleFrom f_ruleTo f_code f_all f_kept f_was f_sTune f_boxAll)) (hp0 : i_rb.toInt + i_bank.toInt = (1 : Int)) (hp1 : i_faultKind.toInt = (0 : Int)) (hp2 : i_token.toInt ≠ (0 : Int)) (hp3 : (i_faultKind.toInt = 0 → M7 i_rb f_tunes f_many)) (hp4 : (i_faultKind.toInt = 0 → RU i_rb f_told f_ruleFrom f_ruleTo f_code)) (hp5 : (¬ BT (f_told (i_rb.toInt).toNat) 1 → i_codes.toInt = 560 * i_rb.toInt)) : Met l yX9_readLine (.code yX9_readLine cX9_readLine 3 none :: GW) { frames := 14, cells := 0, slots := 0, locals := 467 } (va_Pc [.ref (r 0)] (pW (dC, dI) (WM r ct i_taped i_size i_faultKind i_at i_end i_token i_number i_bank i_rb i_codes i_within i_piled i_unitsInRule i_askHouse i_askTune i_acts i_undone i_laid i_knowns i_time f_text f_tunes f_houses f_hums f_told f_many f_ruleFrom f_ruleTo f_code f_eWhat f_eSign f_all f_kept f_was f_sTune f_boxAll J L) (TM ct) sz)) (va_Qv (fun _ : Unit => True) (fun (_ : Unit) (t : State) => ∃ (n_i_faultKind n_i_at n_i_end n_i_token n_i_number n_i_codes n_i_within n_i_piled n_i_unitsInRule : Int32) (n_f_tunes n_f_houses n_f_hums n_f_told n_f_many n_f_ruleFrom n_f_ruleTo n_f_code n_f_eWhat n_f_eSign : Nat → Int32) (n_J : Nat → Nat → Int32) (n_L : Nat → Nat → Int64), va_P (dC, dI) vwCl (WM r ct i_taped i_size n_i_faultKind n_i_at n_i_end n_i_token n_i_number i_bank i_rb n_i_codes n_i_within n_i_piled n_i_unitsInRule i_askHouse i_askTune i_acts i_undone i_laid i_knowns i_time f_text n_f_tunes n_f_houses n_f_hums n_f_told n_f_many n_f_ruleFrom n_f_ruleTo n_f_code n_f_eWhat n_f_eSign f_all f_kept f_was f_sTune f_boxAll n_J n_L) t.heap ∧ va_D (va_A (WM r ct i_taped i_size i_faultKind i_at i_end i_token i_number i_bank i_rb i_codes i_within i_piled i_unitsInRule i_askHouse i_askTune i_acts i_undone i_laid i_knowns i_time f_text f_tunes f_houses f_hums f_told f_many f_ruleFrom f_ruleTo f_code f_eWhat f_eSign f_all f_kept f_was f_sTune f_boxAll J L) sz) (WM r ct i_taped i_size n_i_faultKind n_i_at n_i_end n_i_token n_i_number i_bank i_rb n_i_codes n_i_within n_i_piled n_i_unitsInRule i_askHouse i_askTune i_acts i_undone i_laid i_knowns i_time f_text n_f_tunes n_f_houses n_f_hums n_f_told n_f_many n_f_ruleFrom n_f_ruleTo n_f_code n_f_eWhat n_f_eSign f_all f_kept f_was f_sTune f_boxAll n_J n_L) ∧ (IM i_taped i_size n_i_faultKind n_i_at n_i_end i_bank i_rb i_acts i_undone i_laid i_knowns i_time n_f_tunes n_f_houses n_f_hums n_f_told n_f_many n_f_ruleFrom n_f_ruleTo n_f_code f_all f_kept f_was f_sTune f_boxAll) ∧ (i_end.toInt ≤ n_i_end.toInt) ∧ (((1 : Int) ≤ n_i_faultKind.toInt) ∨ ((n_i_faultKind.toInt = (0 : Int)) ∧ ((n_i_token.toInt = (0 : Int)) ∨ (i_end.toInt + 1 ≤ n_i_end.toInt)))) ∧ ((n_i_faultKind.toInt = 0 → M7 i_rb n_f_tunes n_f_many)) ∧ ((n_i_faultKind.toInt = 0 → RU i_rb n_f_told n_f_ruleFrom n_f_ruleTo n_f_code)) ∧ ((¬ BT (n_f_told (i_rb.toInt).toNat) 1 → n_i_codes.toInt = 560 * i_rb.toInt))) (va_A (WM r ct i_taped i_size i_faultKind i_at i_end i_token i_number i_bank i_rb i_codes i_within i_piled i_unitsInRule i_askHouse i_askTune i_acts i_undone i_laid i_knowns i_time f_text f_tunes f_houses f_hums f_told f_many f_ruleFrom f_ruleTo f_code f_eWhat f_eSign f_all f_kept f_was f_sTune f_boxAll J L) sz)) 0 0 (va_A (WM r ct i_taped i_size i_faultKind i_at i_end i_token i_number i_bank i_rb i_codes i_within i_piled i_unitsInRule i_askHouse i_askTune i_acts i_undone i_laid i_knowns i_time f_text f_tunes f_houses f_hums f_told f_many f_ruleFrom f_ruleTo f_code f_eWhat f_eSign f_all f_kept f_was f_sTune f_boxAll J L) sz) := by
  refine Met.ofW (cc := cX9_readLine) (maxL := 3) (ret := none) (by decide) rfl ?_
  intro p e s m args below meth c0 s₁ B hml hv
  obtain ⟨rfl, hsz, hP, hK, hD0⟩ := hv
  have hx := B.exec
  have hb := B.bytes
  have hr := B.returns
  have hts := atoms_spec (ws := .code yX9_readLine cX9_readLine 3 none :: GW) B.pre
  have hG : ∀ w ∈ GW, w.before _ s = true := fun w h => hts w (List.mem_cons_of_mem _ h)
  have hown : s.vm.findClass RX9 = some m.cls := findClass_of_methodNamed B.named
  subst hsz
  have hD := hD0.self (sz := s.heap.size)
  generalize hAe : va_A (WM r ct i_taped i_size i_faultKind i_at i_end i_token i_number i_bank i_rb i_codes i_within i_piled i_unitsInRule i_askHouse i_askTune i_acts i_undone i_laid i_knowns i_time f_text f_tunes f_houses f_hums f_told f_many f_ruleFrom f_ruleTo f_code f_eWhat f_eSign f_all f_kept f_was f_sTune f_boxAll J L) s.heap.size = A at hD ⊢
  have hA : ∀ q : Nat, s.heap.size ≤ q → A q := fun q h => by rw [← hAe]; exact Or.inr h
  have hS : va_S A s.heap s.heap [] := va_S.rf
  have hP : va_P (dC, dI) vwCl (WM r ct i_taped i_size i_faultKind i_at i_end i_token i_number i_bank i_rb i_codes i_within i_piled i_unitsInRule i_askHouse i_askTune i_acts i_undone i_laid i_knowns i_time f_text f_tunes f_houses f_hums f_told f_many f_ruleFrom f_ruleTo f_code f_eWhat f_eSign f_all f_kept f_was f_sTune f_boxAll J L) s.heap := hP
  have hl := lv_entry ([.ref (r 0)]) (n := 3) (Nat.le_of_ble_eq_true rfl)
  rw [lg_entry_eq]
  generalize (lg_sl ([.ref (r 0)]) ++ List.replicate (3 - (lg_sl ([.ref (r 0)])).length) Slot.unset).toArray = ls at hl ⊢
  have hl : lv_has ls 3 [(0, .ref (r 0))] := hl
  refine nameQ (fun Q hQ => ?_)
  obtain ⟨ie0, ie1, ie2, ie3, ie4, ie5, ie6, ie7, ie8, ie9, ie10, ie11, ie12, ie13, ie14, ie15, ie16, ie17, ie18, ie19, ie20, ie21, ie22, ie23, ie24, ie25, ie26, ie27, ie28, ie29, ie30, ie31, ie32⟩ := id hI
  have f1 : 0 ≤ (f_tunes (i_bank.toInt).toNat).toInt ∧ (f_tunes (i_bank.toInt).toNat).toInt ≤ 5 := ie21 (i_bank.toInt)
  have f2 : 0 ≤ (f_houses (i_bank.toInt).toNat).toInt ∧ (f_houses (i_bank.toInt).toNat).toInt ≤ 4 := ie22 (i_bank.toInt)
  refine lv_aload_n hx hb dX9_readLine_0 rfl (lv_at hl 0 rfl) ?_
  refine gM_X9_198_0 hx hb hG hown hK hP dX9_readLine_1 ?_
  refine lv_lstore_n (lv' := [(1, .long (L 0 0)), (0, .ref (r 0))]) hx hb dX9_readLine_4 rfl hl (by decide) rfl (fun ls hl => ?_)
  refine lv_aload_n hx hb dX9_readLine_5 rfl (lv_at hl 1 rfl) ?_
  refine gM_X9_191_0 hx hb hG hown hK hP dX9_readLine_6 ?_
  refine lv_iconst (v := 3) hx hb dX9_readLine_9 (by decide) ?_
  refine lv_icmp_ne (tgt := 20) hx hb dX9_readLine_10 (by decide) (fun c_3 => ?_) (fun c_3 => ?_)
  · skip
    have f4 : i_token.toInt ≠ 3 := qi_ne c_3 rfl zc_3
    refine lv_aload_n hx hb dX9_readLine_20 rfl (lv_at hl 1 rfl) ?_
    have hFc := frA hD hS hA
    refine va_callv (va_runV (As := []) (rest := []) ⟨hx, hb, hml, hown, hG⟩ (kX9_misplaced l dC dI r ct i_taped i_size i_faultKind i_at i_end i_token i_number i_bank i_rb i_codes i_within i_piled i_unitsInRule i_askHouse i_askTune i_acts i_undone i_laid i_knowns i_time f_text f_tunes f_houses f_hums f_told f_many f_ruleFrom f_ruleTo f_code f_eWhat f_eSign f_all f_kept f_was f_sTune f_boxAll J L s.heap.size hI) (cwV 0 hG (goodV gw1420 gw1422 gw65 gw138 gw1423) rfl rfl rfl hd_X9_misplaced ⟨(Nat.le_of_ble_eq_true rfl), (Nat.le_of_ble_eq_true rfl)⟩) ⟨fbW, va_recv hK hP (ci := 8) (q0 := 0) rfl rfl, pW_in hP hK hD⟩ rfl rfl hl.1 rfl (lv_room (Nat.le_of_ble_eq_true rfl)) dX9_readLine_21 ⟨(Nat.le_of_ble_eq_true rfl), (Nat.le_of_ble_eq_true rfl)⟩) hS (fun q _ h => hFc q h) hFc (fun _ t_ H5 locs ht hvm hw hB hz1 hk1 hS => ?_)
    obtain ⟨x7, J8, hP1, hD1, hI10, f9⟩ := hB
    rw [ht] at hP1
    have hP := hP1
    have hD := dW hFc hD1
    obtain ⟨im11, im12, im13, im14, im15, im16, im17, im18, im19, im20, im21, im22, im23, im24, im25, im26, im27, im28, im29, im30, im31, im32, im33, im34, im35, im36, im37, im38, im39, im40, im41, im42, im43⟩ := id hI10
    refine lv_aload_n hx hb dX9_readLine_24 rfl (lv_at hl 1 rfl) ?_
    refine va_calli (va_runV (As := []) (rest := []) ⟨hx, hb, hml, hown, hG⟩ (kX9_isGood l dC dI r ct i_taped i_size x7 i_at i_end i_token i_number i_bank i_rb i_codes i_within i_piled i_unitsInRule i_askHouse i_askTune i_acts i_undone i_laid i_knowns i_time f_text f_tunes f_houses f_hums f_told f_many f_ruleFrom f_ruleTo f_code f_eWhat f_eSign f_all f_kept f_was f_sTune f_boxAll J8 L H5.size hI10) (cwV 0 hG (goodV gw1401 gw1403 gw61 gw138 gw1404) rfl rfl rfl hd_X9_isGood ⟨(Nat.le_of_ble_eq_true rfl), (Nat.le_of_ble_eq_true rfl)⟩) ⟨fbR, va_recv hK hP (ci := 8) (q0 := 0) rfl rfl, pR_in hP hK⟩ rfl rfl hl.1 rfl (lv_room (Nat.le_of_ble_eq_true rfl)) dX9_readLine_25 ⟨(Nat.le_of_ble_eq_true rfl), (Nat.le_of_ble_eq_true rfl)⟩) hS (fun q hq h => absurd hq (Nat.not_lt.mpr h)) (fun q h => hA q (Nat.le_trans hS.1 h)) (fun r_45 u_ t_ H44 locs ht hvm hw hB hz1 hk1 hS => ?_)
    subst hw
    have hP := wk hP hk1
    obtain ⟨f46, f47, f48⟩ := hB
    refine lv_if_ne (tgt := 32) hx hb dX9_readLine_28 (by decide) (fun c_49 => ((ob_231 (qi_ne c_49 rfl zc_0) f9 f46)).elim) (fun c_49 => ?_)
    have f50 : r_45.toInt = 0 := qi_eq c_49 rfl zc_0
    have f51 : x7.toInt ≠ (0 : Int) := (ob_232 im28 f9)
    have f52 : (1 : Int) ≤ x7.toInt := (ob_217 im28 f9)
    have f53 : r_45.toInt = (0 : Int) := (ob_226 f47 f48 f50)
    rw [hQ]
    exact W.vret hx hb hr (fun t ht hW => ⟨⟨(), rfl, trivial, ⟨x7, i_at, i_end, i_token, i_number, i_codes, i_within, i_piled, i_unitsInRule, f_tunes, f_houses, f_hums, f_told, f_many, f_ruleFrom, f_ruleTo, f_code, f_eWhat, f_eSign, J8, L, by rw [ht]; exact hP, hD, hI10, (ob_146), (ob_726 im28 f9), (fun h => hp3 (ob_613 ie17 hp1)), (fun h => hp4 (ob_613 ie17 hp1)), hp5⟩⟩, hS.F ht⟩) hS.2.2 dX9_readLine_31
  · skip
    have f54 : i_token.toInt = 3 := qi_eq c_3 rfl zc_3
    have f55 : (1 : Int) ≤ i_token.toInt := (ob_652 f54)
    refine lv_aload_n hx hb dX9_readLine_13 rfl (lv_at hl 1 rfl) ?_
    refine va_calli (va_runV (As := []) (rest := []) ⟨hx, hb, hml, hown, hG⟩ (kX9_isFull l dC dI r ct i_taped i_size i_faultKind i_at i_end i_token i_number i_bank i_rb i_codes i_within i_piled i_unitsInRule i_askHouse i_askTune i_acts i_undone i_laid i_knowns i_time f_text f_tunes f_houses f_hums f_told f_many f_ruleFrom f_ruleTo f_code f_eWhat f_eSign f_all f_kept f_was f_sTune f_boxAll J L s.heap.size hI (ob_727 f54 f55)) (cwV 0 hG (goodV gw1409 gw1411 gw63 gw138 gw1412) rfl rfl rfl hd_X9_isFull ⟨(Nat.le_of_ble_eq_true rfl), (Nat.le_of_ble_eq_true rfl)⟩) ⟨fbR, va_recv hK hP (ci := 8) (q0 := 0) rfl rfl, pR_in hP hK⟩ rfl rfl hl.1 rfl (lv_room (Nat.le_of_ble_eq_true rfl)) dX9_readLine_14 ⟨(Nat.le_of_ble_eq_true rfl), (Nat.le_of_ble_eq_true rfl)⟩) hS (fun q hq h => absurd hq (Nat.not_lt.mpr h)) (fun q h => hA q (Nat.le_trans hS.1 h)) (fun r_57 u_ t_ H56 locs ht hvm hw hB hz1 hk1 hS => ?_)
    subst hw
    have hP := wk hP hk1
    obtain ⟨f58, f59, f60, f61, f62⟩ := hB
    refine lv_if_eq (tgt := 24) hx hb dX9_readLine_17 (by decide) (fun c_63 => ?_) (fun c_63 => ?_)
    · skip
      have f64 : r_57.toInt = 0 := qi_eq c_63 rfl zc_0
      have f65 : ((L 0 0).toInt = (1953853029 : Int)) → ((f_tunes (i_rb.toInt).toNat).toInt ≤ (4 : Int)) := (ob_728 f60 f64)
      have f66 : ((L 0 0).toInt = (448546567013 : Int)) → ((f_houses (i_rb.toInt).toNat).toInt ≤ (3 : Int)) := (ob_729 f61 f64)
      refine lv_aload_n hx hb dX9_readLine_24 rfl (lv_at hl 1 rfl) ?_
      refine va_calli (va_runV (As := []) (rest := []) ⟨hx, hb, hml, hown, hG⟩ (kX9_isGood l dC dI r ct i_taped i_size i_faultKind i_at i_end i_token i_number i_bank i_rb i_codes i_within i_piled i_unitsInRule i_askHouse i_askTune i_acts i_undone i_laid i_knowns i_time f_text f_tunes f_houses f_hums f_told f_many f_ruleFrom f_ruleTo f_code f_eWhat f_eSign f_all f_kept f_was f_sTune f_boxAll J L H56.size hI) (cwV 0 hG (goodV gw1401 gw1403 gw61 gw138 gw1404) rfl rfl rfl hd_X9_isGood ⟨(Nat.le_of_ble_eq_true rfl), (Nat.le_of_ble_eq_true rfl)⟩) ⟨fbR, va_recv hK hP (ci := 8) (q0 := 0) rfl rfl, pR_in hP hK⟩ rfl rfl hl.1 rfl (lv_room (Nat.le_of_ble_eq_true rfl)) dX9_readLine_25 ⟨(Nat.le_of_ble_eq_true rfl), (Nat.le_of_ble_eq_true rfl)⟩) hS (fun q hq h => absurd hq (Nat.not_lt.mpr h)) (fun q h => hA q (Nat.le_trans hS.1 h)) (fun r_68 u_ t_ H67 locs ht hvm hw hB hz1 hk1 hS => ?_)
      subst hw
      have hP := wk hP hk1
      obtain ⟨f69, f70, f71⟩ := hB
      refine lv_if_ne (tgt := 32) hx hb dX9_readLine_28 (by decide) (fun c_72 => ?_) (fun c_72 => ((ob_228 (qi_eq c_72 rfl zc_0) hp1 f69)).elim)
      have f73 : r_68.toInt ≠ 0 := qi_ne c_72 rfl zc_0
      have f74 : i_faultKind.toInt = (0 : Int) := (ob_229 ie17 hp1)
      have f75 : r_68.toInt = (1 : Int) := (ob_220 f69 f73)
      have f76 : (1 : Int) ≤ r_68.toInt := (ob_162 f70 f71 f75)
      refine lv_aload_n hx hb dX9_readLine_32 rfl (lv_at hl 1 rfl) ?_
      have hFc := frA hD hS hA
      refine va_callv (va_runV (As := []) (rest := []) ⟨hx, hb, hml, hown, hG⟩ (kX9_goOn l dC dI r ct i_taped i_size i_faultKind i_at i_end i_token i_number i_bank i_rb i_codes i_within i_piled i_unitsInRule i_askHouse i_askTune i_acts i_undone i_laid i_knowns i_time f_text f_tunes f_houses f_hums f_told f_many f_ruleFrom f_ruleTo f_code f_eWhat f_eSign f_all f_kept f_was f_sTune f_boxAll J L H67.size hI) (cwV 0 hG (goodV gw1362 gw1364 gw59 gw138 gw1365) rfl rfl rfl hd_X9_goOn ⟨(Nat.le_of_ble_eq_true rfl), (Nat.le_of_ble_eq_true rfl)⟩) ⟨fbW, va_recv hK hP (ci := 8) (q0 := 0) rfl rfl, pW_in hP hK hD⟩ rfl rfl hl.1 rfl (lv_room (Nat.le_of_ble_eq_true rfl)) dX9_readLine_33 ⟨(Nat.le_of_ble_eq_true rfl), (Nat.le_of_ble_eq_true rfl)⟩) hS (fun q _ h => hFc q h) hFc (fun _ t_ H77 locs ht hvm hw hB hz1 hk1 hS => ?_)
      obtain ⟨x79, x80, x81, x82, L83, hP1, hD1, hI87, f84, f85, f86⟩ := hB
      rw [ht] at hP1
      have hP := hP1
      have hD := dW hFc hD1
      obtain ⟨im88, im89, im90, im91, im92, im93, im94, im95, im96, im97, im98, im99, im100, im101, im102, im103, im104, im105, im106, im107, im108, im109, im110, im111, im112, im113, im114, im115, im116, im117, im118, im119, im120⟩ := id hI87
      refine lv_lload_n hx hb dX9_readLine_36 rfl (lv_at hl 0 rfl) ?_
      refine lv_ldc2 (v := 7021235455869215084) hx hb hown (hG _ gw1376) dX9_readLine_37 ?_
      refine W.lcmp hx hb dX9_readLine_40 ?_
      refine lv_topi (fun x121 ex121 => ?_)
      have f122 : (x121.toInt = 0 ∧ (L 0 0).toInt = (7021235455869215084 : Int64).toInt) ∨ (x121.toInt ≠ 0 ∧ (L 0 0).toInt ≠ (7021235455869215084 : Int64).toInt) := lcmp_or ex121
      refine lv_if_ne (tgt := 61) hx hb dX9_readLine_41 (by decide) (fun c_123 => ?_) (fun c_123 => ?_)
      · skip
        have f124 : x121.toInt ≠ 0 := qi_ne c_123 rfl zc_0
        have f125 : x121.toInt ≠ (0 : Int) := (ob_27 f122 f124 zl_7021235455869215084)
        have f126 : (L 0 0).toInt ≠ (7021235455869215084 : Int) := (ob_730 f122 f124 zl_7021235455869215084)
        refine lv_lload_n hx hb dX9_readLine_61 rfl (lv_at hl 0 rfl) ?_
        refine lv_ldc2 (v := 1953853029) hx hb hown (hG _ gw1377) dX9_readLine_62 ?_
        refine W.lcmp hx hb dX9_readLine_65 ?_
        refine lv_topi (fun x127 ex127 => ?_)
        have f128 : (x127.toInt = 0 ∧ (L 0 0).toInt = (1953853029 : Int64).toInt) ∨ (x127.toInt ≠ 0 ∧ (L 0 0).toInt ≠ (1953853029 : Int64).toInt) := lcmp_or ex127
        refine lv_if_ne (tgt := 73) hx hb dX9_readLine_66 (by decide) (fun c_129 => ?_) (fun c_129 => ?_)
        · skip
          have f130 : x127.toInt ≠ 0 := qi_ne c_129 rfl zc_0
          have f131 : x127.toInt ≠ (0 : Int) := (ob_30 f128 f130 zl_1953853029)
          have f132 : (L 0 0).toInt ≠ (1953853029 : Int) := (ob_31 f128 f130 zl_1953853029)
          refine lv_lload_n hx hb dX9_readLine_73 rfl (lv_at hl 0 rfl) ?_
          refine lv_ldc2 (v := 448546567013) hx hb hown (hG _ gw1380) dX9_readLine_74 ?_
          refine W.lcmp hx hb dX9_readLine_77 ?_
          refine lv_topi (fun x133 ex133 => ?_)
          have f134 : (x133.toInt = 0 ∧ (L 0 0).toInt = (448546567013 : Int64).toInt) ∨ (x133.toInt ≠ 0 ∧ (L 0 0).toInt ≠ (448546567013 : Int64).toInt) := lcmp_or ex133
          refine lv_if_ne (tgt := 85) hx hb dX9_readLine_78 (by decide) (fun c_135 => ?_) (fun c_135 => ?_)
          · skip
            have f136 : x133.toInt ≠ 0 := qi_ne c_135 rfl zc_0
            have f137 : x133.toInt ≠ (0 : Int) := (ob_39 f134 f136 zl_448546567013)
            have f138 : (L 0 0).toInt ≠ (448546567013 : Int) := (ob_40 f134 f136 zl_448546567013)
            refine lv_lload_n hx hb dX9_readLine_85 rfl (lv_at hl 0 rfl) ?_
            refine lv_ldc2 (v := 1735156068) hx hb hown (hG _ gw1384) dX9_readLine_86 ?_
            refine W.lcmp hx hb dX9_readLine_89 ?_
            refine lv_topi (fun x139 ex139 => ?_)
            have f140 : (x139.toInt = 0 ∧ (L 0 0).toInt = (1735156068 : Int64).toInt) ∨ (x139.toInt ≠ 0 ∧ (L 0 0).toInt ≠ (1735156068 : Int64).toInt) := lcmp_or ex139
            refine lv_if_ne (tgt := 97) hx hb dX9_readLine_90 (by decide) (fun c_141 => ?_) (fun c_141 => ?_)
            · skip
              have f142 : x139.toInt ≠ 0 := qi_ne c_141 rfl zc_0
              have f143 : x139.toInt ≠ (0 : Int) := (ob_50 f140 f142 zl_1735156068)
              have f144 : (L 0 0).toInt ≠ (1735156068 : Int) := (ob_51 f140 f142 zl_1735156068)
              refine lv_lload_n hx hb dX9_readLine_97 rfl (lv_at hl 0 rfl) ?_
              refine lv_ldc2 (v := 1752526195) hx hb hown (hG _ gw1385) dX9_readLine_98 ?_
              refine W.lcmp hx hb dX9_readLine_101 ?_
              refine lv_topi (fun x145 ex145 => ?_)
              have f146 : (x145.toInt = 0 ∧ (L 0 0).toInt = (1752526195 : Int64).toInt) ∨ (x145.toInt ≠ 0 ∧ (L 0 0).toInt ≠ (1752526195 : Int64).toInt) := lcmp_or ex145
              refine lv_if_ne (tgt := 122) hx hb dX9_readLine_102 (by decide) (fun c_147 => ?_) (fun c_147 => ?_)
              · skip
                have f148 : x145.toInt ≠ 0 := qi_ne c_147 rfl zc_0
                have f149 : x145.toInt ≠ (0 : Int) := (ob_53 f146 f148 zl_1752526195)
                have f150 : (L 0 0).toInt ≠ (1752526195 : Int) := (ob_54 f146 f148 zl_1752526195)
                refine lv_lload_n hx hb dX9_readLine_122 rfl (lv_at hl 0 rfl) ?_
                refine lv_ldc2 (v := 1685217655) hx hb hown (hG _ gw1386) dX9_readLine_123 ?_
                refine W.lcmp hx hb dX9_readLine_126 ?_
                refine lv_topi (fun x151 ex151 => ?_)
                have f152 : (x151.toInt = 0 ∧ (L 0 0).toInt = (1685217655 : Int64).toInt) ∨ (x151.toInt ≠ 0 ∧ (L 0 0).toInt ≠ (1685217655 : Int64).toInt) := lcmp_or ex151
                refine lv_if_ne (tgt := 148) hx hb dX9_readLine_127 (by decide) (fun c_153 => ?_) (fun c_153 => ?_)
                · skip
                  have f154 : x151.toInt ≠ 0 := qi_ne c_153 rfl zc_0
                  have f155 : x151.toInt ≠ (0 : Int) := (ob_56 f152 f154 zl_1685217655)
                  have f156 : (L 0 0).toInt ≠ (1685217655 : Int) := (ob_57 f152 f154 zl_1685217655)
                  refine lv_aload_n hx hb dX9_readLine_148 rfl (lv_at hl 1 rfl) ?_
                  refine lv_aload_n hx hb dX9_readLine_149 rfl (lv_at hl 1 rfl) ?_
                  refine lv_bipush (v := 59) hx hb dX9_readLine_150 (by decide) ?_
                  refine va_calli (va_runV (As := [.int 59]) (rest := [.ref (r 0)]) ⟨hx, hb, hml, hown, hG⟩ (kX9_isSignHere l dC dI r ct i_taped i_size i_faultKind x79 x80 x81 x82 i_bank i_rb i_codes i_within i_piled i_unitsInRule i_askHouse i_askTune i_acts i_undone i_laid i_knowns i_time f_text f_tunes f_houses f_hums f_told f_many f_ruleFrom f_ruleTo f_code f_eWhat f_eSign f_all f_kept f_was f_sTune f_boxAll J L83 59 H77.size hI87) (cwV 1 hG (goodV gw1476 gw1478 gw79 gw138 gw1479) rfl rfl rfl hd_X9_isSignHere ⟨(Nat.le_of_ble_eq_true rfl), (Nat.le_of_ble_eq_true rfl)⟩) ⟨fbR, va_recv hK hP (ci := 8) (q0 := 0) rfl rfl, pR_in hP hK⟩ rfl rfl hl.1 rfl (lv_room (Nat.le_of_ble_eq_true rfl)) dX9_readLine_152 ⟨(Nat.le_of_ble_eq_true rfl), (Nat.le_of_ble_eq_true rfl)⟩) hS (fun q hq h => absurd hq (Nat.not_lt.mpr h)) (fun q h => hA q (Nat.le_trans hS.1 h)) (fun r_158 u_ t_ H157 locs ht hvm hw hB hz1 hk1 hS => ?_)
                  subst hw
                  have hP := wk hP hk1
                  obtain ⟨f159, f160, f161⟩ := hB
                  have hFc := frA hD hS hA
                  refine va_callv (va_runV (As := [.int r_158]) (rest := []) ⟨hx, hb, hml, hown, hG⟩ (kX9_must l dC dI r ct i_taped i_size i_faultKind x79 x80 x81 x82 i_bank i_rb i_codes i_within i_piled i_unitsInRule i_askHouse i_askTune i_acts i_undone i_laid i_knowns i_time f_text f_tunes f_houses f_hums f_told f_many f_ruleFrom f_ruleTo f_code f_eWhat f_eSign f_all f_kept f_was f_sTune f_boxAll J L83 r_158 H157.size hI87 (ob_242 f160 f161)) (cwV 1 hG (goodV gw1452 gw1454 gw73 gw138 gw1455) rfl rfl rfl hd_X9_must ⟨(Nat.le_of_ble_eq_true rfl), (Nat.le_of_ble_eq_true rfl)⟩) ⟨fbW, va_recv hK hP (ci := 8) (q0 := 0) rfl rfl, pW_in hP hK hD⟩ rfl rfl hl.1 rfl (lv_room (Nat.le_of_ble_eq_true rfl)) dX9_readLine_155 ⟨(Nat.le_of_ble_eq_true rfl), (Nat.le_of_ble_eq_true rfl)⟩) hS (fun q _ h => hFc q h) hFc (fun _ t_ H162 locs ht hvm hw hB hz1 hk1 hS => ?_)
                  obtain ⟨x164, x165, x166, x167, x168, J169, L170, hP1, hD1, hI173, f171, f172⟩ := hB
                  rw [ht] at hP1
                  have hP := hP1
                  have hD := dW hFc hD1
                  obtain ⟨im174, im175, im176, im177, im178, im179, im180, im181, im182, im183, im184, im185, im186, im187, im188, im189, im190, im191, im192, im193, im194, im195, im196, im197, im198, im199, im200, im201, im202, im203, im204, im205, im206⟩ := id hI173
                  rw [hQ]
                  exact W.vret hx hb hr (fun t ht hW => ⟨⟨(), rfl, trivial, ⟨x164, x165, x166, x167, x168, i_codes, i_within, i_piled, i_unitsInRule, f_tunes, f_houses, f_hums, f_told, f_many, f_ruleFrom, f_ruleTo, f_code, f_eWhat, f_eSign, J169, L170, by rw [ht]; exact hP, hD, hI173, (ob_166 f84 f171), (ob_731 f84 f172), (fun h => hp3 (ob_613 ie17 hp1)), (fun h => hp4 (ob_613 ie17 hp1)), hp5⟩⟩, hS.F ht⟩) hS.2.2 dX9_readLine_158
                · skip
                  have f207 : x151.toInt = 0 := qi_eq c_153 rfl zc_0
                  have f208 : x151.toInt = (0 : Int) := (ob_25 f207)
                  have f209 : (L 0 0).toInt = (1685217655 : Int) := (ob_55 f152 f207 zl_1685217655)
                  refine lv_aload_n hx hb dX9_readLine_130 rfl (lv_at hl 1 rfl) ?_
                  refine gM_X9_36_0 hx hb hG hown hK hP dX9_readLine_131 ?_
                  refine lv_aload_n hx hb dX9_readLine_134 rfl (lv_at hl 1 rfl) ?_
                  refine gM_X9_240_0 hx hb hG hown hK hP dX9_readLine_135 ?_
                  refine lv_aload_n hx hb dX9_readLine_138 rfl (lv_at hl 1 rfl) ?_
                  refine lv_iconst (v := 3) hx hb dX9_readLine_139 (by decide) ?_
                  refine lv_iconst (v := 0) hx hb dX9_readLine_140 (by decide) ?_
                  refine lv_sipush (v := 999) hx hb dX9_readLine_141 (by decide) ?_
                  have hFc := frA hD hS hA
                  refine va_calli (va_runV (As := [.int 3, .int 0, .int 999]) (rest := [.int i_rb, .ref (r 8)]) ⟨hx, hb, hml, hown, hG⟩ (kX9_once l dC dI r ct i_taped i_size i_faultKind x79 x80 x81 x82 i_bank i_rb i_codes i_within i_piled i_unitsInRule i_askHouse i_askTune i_acts i_undone i_laid i_knowns i_time f_text f_tunes f_houses f_hums f_told f_many f_ruleFrom f_ruleTo f_code f_eWhat f_eSign f_all f_kept f_was f_sTune f_boxAll J L83 0 999 H77.size hI87 (ob_377 hp0) (ob_732 zc_999 zc_0) (fun h => hp4 h) hp5) (cwV 3 hG (goodV gw1428 gw1430 gw67 gw138 gw1431) rfl rfl rfl hd_X9_once ⟨(Nat.le_of_ble_eq_true rfl), (Nat.le_of_ble_eq_true rfl)⟩) ⟨fbW, va_recv hK hP (ci := 8) (q0 := 0) rfl rfl, pW_in hP hK hD⟩ rfl rfl hl.1 rfl (lv_room (Nat.le_of_ble_eq_true rfl)) dX9_readLine_144 ⟨(Nat.le_of_ble_eq_true rfl), (Nat.le_of_ble_eq_true rfl)⟩) hS (fun q _ h => hFc q h) hFc (fun r_211 u_ t_ H210 locs ht hvm hw hB hz1 hk1 hS => ?_)
                  subst hw
                  obtain ⟨x212, x213, x214, x215, x216, z217, J218, L219, hP1, hD1, hI226, f220, f221, f222, f223, f224, f225⟩ := hB
                  rw [ht] at hP1
                  have hP := hP1
                  have hD := dW hFc hD1
                  obtain ⟨im227, im228, im229, im230, im231, im232, im233, im234, im235, im236, im237, im238, im239, im240, im241, im242, im243, im244, im245, im246, im247, im248, im249, im250, im251, im252, im253, im254, im255, im256, im257, im258, im259⟩ := id hI226
                  refine stM_8 (mm := i_rb.toInt) hx hb hK hP hD hS rfl (ob_244 ie6 ie7 hp0) (ob_245 ie6 ie7 hp0) dX9_readLine_147 (fun J261 H260 locs hP hD hS => ?_)
                  refine lv_aload_n hx hb dX9_readLine_148 rfl (lv_at hl 1 rfl) ?_
                  refine lv_aload_n hx hb dX9_readLine_149 rfl (lv_at hl 1 rfl) ?_
                  refine lv_bipush (v := 59) hx hb dX9_readLine_150 (by decide) ?_
                  refine va_calli (va_runV (As := [.int 59]) (rest := [.ref (r 0)]) ⟨hx, hb, hml, hown, hG⟩ (kX9_isSignHere l dC dI r ct i_taped i_size x212 x213 x214 x215 x216 i_bank i_rb i_codes i_within i_piled i_unitsInRule i_askHouse i_askTune i_acts i_undone i_laid i_knowns i_time f_text f_tunes f_houses f_hums z217 f_many f_ruleFrom f_ruleTo f_code f_eWhat f_eSign f_all f_kept f_was f_sTune f_boxAll J261 L219 59 H260.size hI226) (cwV 1 hG (goodV gw1476 gw1478 gw79 gw138 gw1479) rfl rfl rfl hd_X9_isSignHere ⟨(Nat.le_of_ble_eq_true rfl), (Nat.le_of_ble_eq_true rfl)⟩) ⟨fbR, va_recv hK hP (ci := 8) (q0 := 0) rfl rfl, pR_in hP hK⟩ rfl rfl hl.1 rfl (lv_room (Nat.le_of_ble_eq_true rfl)) dX9_readLine_152 ⟨(Nat.le_of_ble_eq_true rfl), (Nat.le_of_ble_eq_true rfl)⟩) hS (fun q hq h => absurd hq (Nat.not_lt.mpr h)) (fun q h => hA q (Nat.le_trans hS.1 h)) (fun r_263 u_ t_ H262 locs ht hvm hw hB hz1 hk1 hS => ?_)
                  subst hw
                  have hP := wk hP hk1
                  obtain ⟨f264, f265, f266⟩ := hB
                  have hFc := frA hD hS hA
                  refine va_callv (va_runV (As := [.int r_263]) (rest := []) ⟨hx, hb, hml, hown, hG⟩ (kX9_must l dC dI r ct i_taped i_size x212 x213 x214 x215 x216 i_bank i_rb i_codes i_within i_piled i_unitsInRule i_askHouse i_askTune i_acts i_undone i_laid i_knowns i_time f_text f_tunes f_houses f_hums z217 f_many f_ruleFrom f_ruleTo f_code f_eWhat f_eSign f_all f_kept f_was f_sTune f_boxAll J261 L219 r_263 H262.size hI226 (ob_242 f265 f266)) (cwV 1 hG (goodV gw1452 gw1454 gw73 gw138 gw1455) rfl rfl rfl hd_X9_must ⟨(Nat.le_of_ble_eq_true rfl), (Nat.le_of_ble_eq_true rfl)⟩) ⟨fbW, va_recv hK hP (ci := 8) (q0 := 0) rfl rfl, pW_in hP hK hD⟩ rfl rfl hl.1 rfl (lv_room (Nat.le_of_ble_eq_true rfl)) dX9_readLine_155 ⟨(Nat.le_of_ble_eq_true rfl), (Nat.le_of_ble_eq_true rfl)⟩) hS (fun q _ h => hFc q h) hFc (fun _ t_ H267 locs ht hvm hw hB hz1 hk1 hS => ?_)
                  obtain ⟨x269, x270, x271, x272, x273, J274, L275, hP1, hD1, hI278, f276, f277⟩ := hB
                  rw [ht] at hP1
                  have hP := hP1
                  have hD := dW hFc hD1
                  obtain ⟨im279, im280, im281, im282, im283, im284, im285, im286, im287, im288, im289, im290, im291, im292, im293, im294, im295, im296, im297, im298, im299, im300, im301, im302, im303, im304, im305, im306, im307, im308, im309, im310, im311⟩ := id hI278
                  rw [hQ]
                  exact W.vret hx hb hr (fun t ht hW => ⟨⟨(), rfl, trivial, ⟨x269, x270, x271, x272, x273, i_codes, i_within, i_piled, i_unitsInRule, f_tunes, f_houses, f_hums, z217, f_many, f_ruleFrom, f_ruleTo, f_code, f_eWhat, f_eSign, J274, L275, by rw [ht]; exact hP, hD, hI278, (ob_725 f84 f222 f276), (ob_733 f84 f222 f277), (fun h => hp3 (ob_613 ie17 hp1)), (fun h => f224 (ob_734 f277 h)), f225⟩⟩, hS.F ht⟩) hS.2.2 dX9_readLine_158
              · skip
                have f312 : x145.toInt = 0 := qi_eq c_147 rfl zc_0
                have f313 : x145.toInt = (0 : Int) := (ob_25 f312)
                have f314 : (L 0 0).toInt = (1752526195 : Int) := (ob_52 f146 f312 zl_1752526195)
                refine lv_aload_n hx hb dX9_readLine_105 rfl (lv_at hl 1 rfl) ?_
                refine gM_X9_33_0 hx hb hG hown hK hP dX9_readLine_106 ?_
                refine lv_aload_n hx hb dX9_readLine_109 rfl (lv_at hl 1 rfl) ?_
                refine gM_X9_240_0 hx hb hG hown hK hP dX9_readLine_110 ?_
                refine lv_aload_n hx hb dX9_readLine_113 rfl (lv_at hl 1 rfl) ?_
                refine lv_iconst (v := 2) hx hb dX9_readLine_114 (by decide) ?_
                refine lv_iconst (v := 0) hx hb dX9_readLine_115 (by decide) ?_
                refine lv_bipush (v := 100) hx hb dX9_readLine_116 (by decide) ?_
                have hFc := frA hD hS hA
                refine va_calli (va_runV (As := [.int 2, .int 0, .int 100]) (rest := [.int i_rb, .ref (r 7)]) ⟨hx, hb, hml, hown, hG⟩ (kX9_once_v1 l dC dI r ct i_taped i_size i_faultKind x79 x80 x81 x82 i_bank i_rb i_codes i_within i_piled i_unitsInRule i_askHouse i_askTune i_acts i_undone i_laid i_knowns i_time f_text f_tunes f_houses f_hums f_told f_many f_ruleFrom f_ruleTo f_code f_eWhat f_eSign f_all f_kept f_was f_sTune f_boxAll J L83 0 100 H77.size hI87 (ob_377 hp0) (ob_735 zc_100 zc_0) (fun h => hp4 h) hp5) (cwV 3 hG (goodV gw1428 gw1430 gw67 gw138 gw1431) rfl rfl rfl hd_X9_once ⟨(Nat.le_of_ble_eq_true rfl), (Nat.le_of_ble_eq_true rfl)⟩) ⟨fbW, va_recv hK hP (ci := 8) (q0 := 0) rfl rfl, pW_in hP hK hD⟩ rfl rfl hl.1 rfl (lv_room (Nat.le_of_ble_eq_true rfl)) dX9_readLine_118 ⟨(Nat.le_of_ble_eq_true rfl), (Nat.le_of_ble_eq_true rfl)⟩) hS (fun q _ h => hFc q h) hFc (fun r_316 u_ t_ H315 locs ht hvm hw hB hz1 hk1 hS => ?_)
                subst hw
                obtain ⟨x317, x318, x319, x320, x321, z322, J323, L324, hP1, hD1, hI331, f325, f326, f327, f328, f329, f330⟩ := hB
                rw [ht] at hP1
                have hP := hP1
                have hD := dW hFc hD1
                obtain ⟨im332, im333, im334, im335, im336, im337, im338, im339, im340, im341, im342, im343, im344, im345, im346, im347, im348, im349, im350, im351, im352, im353, im354, im355, im356, im357, im358, im359, im360, im361, im362, im363, im364⟩ := id hI331
                refine stM_7 (mm := i_rb.toInt) hx hb hK hP hD hS rfl (ob_244 ie6 ie7 hp0) (ob_245 ie6 ie7 hp0) dX9_readLine_121 (fun z366 H365 locs ez366 hP hD hS => ?_)
                have g367 : EB 0 100 z366 := ez366 ▸ EB_upd ie24 (ob_736 f325 f326 zc_100 zc_0) (ob_737 f325 f326 zc_100 zc_0)
                refine lv_lload_n hx hb dX9_readLine_122 rfl (lv_at hl 0 rfl) ?_
                refine lv_ldc2 (v := 1685217655) hx hb hown (hG _ gw1386) dX9_readLine_123 ?_
                refine W.lcmp hx hb dX9_readLine_126 ?_
                refine lv_topi (fun x368 ex368 => ?_)
                have f369 : (x368.toInt = 0 ∧ (L 0 0).toInt = (1685217655 : Int64).toInt) ∨ (x368.toInt ≠ 0 ∧ (L 0 0).toInt ≠ (1685217655 : Int64).toInt) := lcmp_or ex368
                refine lv_if_ne (tgt := 148) hx hb dX9_readLine_127 (by decide) (fun c_370 => ?_) (fun c_370 => ((ob_738 (qi_eq c_370 rfl zc_0) f314 f369 zl_1685217655)).elim)
                have f371 : x368.toInt ≠ 0 := qi_ne c_370 rfl zc_0
                have f372 : x368.toInt ≠ (0 : Int) := (ob_56 f369 f371 zl_1685217655)
                have f373 : (L 0 0).toInt ≠ (1685217655 : Int) := (ob_739 f314)
                refine lv_aload_n hx hb dX9_readLine_148 rfl (lv_at hl 1 rfl) ?_
                refine lv_aload_n hx hb dX9_readLine_149 rfl (lv_at hl 1 rfl) ?_
                refine lv_bipush (v := 59) hx hb dX9_readLine_150 (by decide) ?_
                refine va_calli (va_runV (As := [.int 59]) (rest := [.ref (r 0)]) ⟨hx, hb, hml, hown, hG⟩ (kX9_isSignHere l dC dI r ct i_taped i_size x317 x318 x319 x320 x321 i_bank i_rb i_codes i_within i_piled i_unitsInRule i_askHouse i_askTune i_acts i_undone i_laid i_knowns i_time f_text f_tunes f_houses z366 z322 f_many f_ruleFrom f_ruleTo f_code f_eWhat f_eSign f_all f_kept f_was f_sTune f_boxAll J323 L324 59 H365.size ⟨ie0, ie1, ie2, ie3, ie4, ie5, ie6, ie7, ie8, ie9, ie10, ie11, ie12, ie13, im346, im347, im348, im349, ie18, ie19, ie20, ie21, ie22, ie23, g367, im357, ie26, ie27, ie28, ie29, ie30, ie31, im364⟩) (cwV 1 hG (goodV gw1476 gw1478 gw79 gw138 gw1479) rfl rfl rfl hd_X9_isSignHere ⟨(Nat.le_of_ble_eq_true rfl), (Nat.le_of_ble_eq_true rfl)⟩) ⟨fbR, va_recv hK hP (ci := 8) (q0 := 0) rfl rfl, pR_in hP hK⟩ rfl rfl hl.1 rfl (lv_room (Nat.le_of_ble_eq_true rfl)) dX9_readLine_152 ⟨(Nat.le_of_ble_eq_true rfl), (Nat.le_of_ble_eq_true rfl)⟩) hS (fun q hq h => absurd hq (Nat.not_lt.mpr h)) (fun q h => hA q (Nat.le_trans hS.1 h)) (fun r_375 u_ t_ H374 locs ht hvm hw hB hz1 hk1 hS => ?_)
                subst hw
                have hP := wk hP hk1
                obtain ⟨f376, f377, f378⟩ := hB
                have hFc := frA hD hS hA
                refine va_callv (va_runV (As := [.int r_375]) (rest := []) ⟨hx, hb, hml, hown, hG⟩ (kX9_must l dC dI r ct i_taped i_size x317 x318 x319 x320 x321 i_bank i_rb i_codes i_within i_piled i_unitsInRule i_askHouse i_askTune i_acts i_undone i_laid i_knowns i_time f_text f_tunes f_houses z366 z322 f_many f_ruleFrom f_ruleTo f_code f_eWhat f_eSign f_all f_kept f_was f_sTune f_boxAll J323 L324 r_375 H374.size ⟨ie0, ie1, ie2, ie3, ie4, ie5, ie6, ie7, ie8, ie9, ie10, ie11, ie12, ie13, im346, im347, im348, im349, ie18, ie19, ie20, ie21, ie22, ie23, g367, im357, ie26, ie27, ie28, ie29, ie30, ie31, im364⟩ (ob_242 f377 f378)) (cwV 1 hG (goodV gw1452 gw1454 gw73 gw138 gw1455) rfl rfl rfl hd_X9_must ⟨(Nat.le_of_ble_eq_true rfl), (Nat.le_of_ble_eq_true rfl)⟩) ⟨fbW, va_recv hK hP (ci := 8) (q0 := 0) rfl rfl, pW_in hP hK hD⟩ rfl rfl hl.1 rfl (lv_room (Nat.le_of_ble_eq_true rfl)) dX9_readLine_155 ⟨(Nat.le_of_ble_eq_true rfl), (Nat.le_of_ble_eq_true rfl)⟩) hS (fun q _ h => hFc q h) hFc (fun _ t_ H379 locs ht hvm hw hB hz1 hk1 hS => ?_)
                obtain ⟨x381, x382, x383, x384, x385, J386, L387, hP1, hD1, hI390, f388, f389⟩ := hB
                rw [ht] at hP1
                have hP := hP1
                have hD := dW hFc hD1
                obtain ⟨im391, im392, im393, im394, im395, im396, im397, im398, im399, im400, im401, im402, im403, im404, im405, im406, im407, im408, im409, im410, im411, im412, im413, im414, im415, im416, im417, im418, im419, im420, im421, im422, im423⟩ := id hI390
                rw [hQ]
                exact W.vret hx hb hr (fun t ht hW => ⟨⟨(), rfl, trivial, ⟨x381, x382, x383, x384, x385, i_codes, i_within, i_piled, i_unitsInRule, f_tunes, f_houses, z366, z322, f_many, f_ruleFrom, f_ruleTo, f_code, f_eWhat, f_eSign, J386, L387, by rw [ht]; exact hP, hD, hI390, (ob_725 f84 f327 f388), (ob_733 f84 f327 f389), (fun h => hp3 (ob_613 ie17 hp1)), (fun h => f329 (ob_734 f389 h)), f330⟩⟩, hS.F ht⟩) hS.2.2 dX9_readLine_158
            · skip
              have f424 : x139.toInt = 0 := qi_eq c_141 rfl zc_0
              have f425 : x139.toInt = (0 : Int) := (ob_25 f424)
              have f426 : (L 0 0).toInt = (1735156068 : Int) := (ob_82 f140 f424 zl_1735156068)
              have f427 : i_codes.toInt = 560 * i_rb.toInt := hp5 (f62 (ob_740 f58 f59 f64) (ob_741 f426))
              refine lv_aload_n hx hb dX9_readLine_93 rfl (lv_at hl 1 rfl) ?_
              have hFc := frA hD hS hA
              refine va_callv (va_runV (As := []) (rest := []) ⟨hx, hb, hml, hown, hG⟩ (kX9_readRule l dC dI r ct i_taped i_size i_faultKind x79 x80 x81 x82 i_bank i_rb i_codes i_within i_piled i_unitsInRule i_askHouse i_askTune i_acts i_undone i_laid i_knowns i_time f_text f_tunes f_houses f_hums f_told f_many f_ruleFrom f_ruleTo f_code f_eWhat f_eSign f_all f_kept f_was f_sTune f_boxAll J L83 H77.size hI87 (ob_377 hp0) (ob_248 f427) (ob_229 ie17 hp1)) (cwV 0 hG (goodV gw1460 gw1462 gw75 gw138 gw1463) rfl rfl rfl hd_X9_readRule ⟨(Nat.le_of_ble_eq_true rfl), (Nat.le_of_ble_eq_true rfl)⟩) ⟨fbW, va_recv hK hP (ci := 8) (q0 := 0) rfl rfl, pW_in hP hK hD⟩ rfl rfl hl.1 rfl (lv_room (Nat.le_of_ble_eq_true rfl)) dX9_readLine_94 ⟨(Nat.le_of_ble_eq_true rfl), (Nat.le_of_ble_eq_true rfl)⟩) hS (fun q _ h => hFc q h) hFc (fun _ t_ H428 locs ht hvm hw hB hz1 hk1 hS => ?_)
              obtain ⟨x430, x431, x432, x433, x434, x435, x436, x437, x438, z439, z440, z441, z442, z443, z444, J445, L446, hP1, hD1, hI450, f447, f448, f449⟩ := hB
              rw [ht] at hP1
              have hP := hP1
              have hD := dW hFc hD1
              obtain ⟨im451, im452, im453, im454, im455, im456, im457, im458, im459, im460, im461, im462, im463, im464, im465, im466, im467, im468, im469, im470, im471, im472, im473, im474, im475, im476, im477, im478, im479, im480, im481, im482, im483⟩ := id hI450
              refine lv_lload_n hx hb dX9_readLine_97 rfl (lv_at hl 0 rfl) ?_
              refine lv_ldc2 (v := 1752526195) hx hb hown (hG _ gw1385) dX9_readLine_98 ?_
              refine W.lcmp hx hb dX9_readLine_101 ?_
              refine lv_topi (fun x484 ex484 => ?_)
              have f485 : (x484.toInt = 0 ∧ (L 0 0).toInt = (1752526195 : Int64).toInt) ∨ (x484.toInt ≠ 0 ∧ (L 0 0).toInt ≠ (1752526195 : Int64).toInt) := lcmp_or ex484
              refine lv_if_ne (tgt := 122) hx hb dX9_readLine_102 (by decide) (fun c_486 => ?_) (fun c_486 => ((ob_742 (qi_eq c_486 rfl zc_0) f426 f485 zl_1752526195)).elim)
              have f487 : x484.toInt ≠ 0 := qi_ne c_486 rfl zc_0
              have f488 : x484.toInt ≠ (0 : Int) := (ob_53 f485 f487 zl_1752526195)
              have f489 : (L 0 0).toInt ≠ (1752526195 : Int) := (ob_743 f426)
              refine lv_lload_n hx hb dX9_readLine_122 rfl (lv_at hl 0 rfl) ?_
              refine lv_ldc2 (v := 1685217655) hx hb hown (hG _ gw1386) dX9_readLine_123 ?_
              refine W.lcmp hx hb dX9_readLine_126 ?_
              refine lv_topi (fun x490 ex490 => ?_)
              have f491 : (x490.toInt = 0 ∧ (L 0 0).toInt = (1685217655 : Int64).toInt) ∨ (x490.toInt ≠ 0 ∧ (L 0 0).toInt ≠ (1685217655 : Int64).toInt) := lcmp_or ex490
              refine lv_if_ne (tgt := 148) hx hb dX9_readLine_127 (by decide) (fun c_492 => ?_) (fun c_492 => ((ob_744 (qi_eq c_492 rfl zc_0) f426 f491 zl_1685217655)).elim)
              have f493 : x490.toInt ≠ 0 := qi_ne c_492 rfl zc_0
              have f494 : x490.toInt ≠ (0 : Int) := (ob_56 f491 f493 zl_1685217655)
              have f495 : (L 0 0).toInt ≠ (1685217655 : Int) := (ob_745 f426)
              refine lv_aload_n hx hb dX9_readLine_148 rfl (lv_at hl 1 rfl) ?_
              refine lv_aload_n hx hb dX9_readLine_149 rfl (lv_at hl 1 rfl) ?_
              refine lv_bipush (v := 59) hx hb dX9_readLine_150 (by decide) ?_
              refine va_calli (va_runV (As := [.int 59]) (rest := [.ref (r 0)]) ⟨hx, hb, hml, hown, hG⟩ (kX9_isSignHere l dC dI r ct i_taped i_size x430 x431 x432 x433 x434 i_bank i_rb x435 x436 x437 x438 i_askHouse i_askTune i_acts i_undone i_laid i_knowns i_time f_text f_tunes f_houses f_hums z439 f_many z440 z441 z442 z443 z444 f_all f_kept f_was f_sTune f_boxAll J445 L446 59 H428.size hI450) (cwV 1 hG (goodV gw1476 gw1478 gw79 gw138 gw1479) rfl rfl rfl hd_X9_isSignHere ⟨(Nat.le_of_ble_eq_true rfl), (Nat.le_of_ble_eq_true rfl)⟩) ⟨fbR, va_recv hK hP (ci := 8) (q0 := 0) rfl rfl, pR_in hP hK⟩ rfl rfl hl.1 rfl (lv_room (Nat.le_of_ble_eq_true rfl)) dX9_readLine_152 ⟨(Nat.le_of_ble_eq_true rfl), (Nat.le_of_ble_eq_true rfl)⟩) hS (fun q hq h => absurd hq (Nat.not_lt.mpr h)) (fun q h => hA q (Nat.le_trans hS.1 h)) (fun r_497 u_ t_ H496 locs ht hvm hw hB hz1 hk1 hS => ?_)
              subst hw
              have hP := wk hP hk1
              obtain ⟨f498, f499, f500⟩ := hB
              have hFc := frA hD hS hA
              refine va_callv (va_runV (As := [.int r_497]) (rest := []) ⟨hx, hb, hml, hown, hG⟩ (kX9_must l dC dI r ct i_taped i_size x430 x431 x432 x433 x434 i_bank i_rb x435 x436 x437 x438 i_askHouse i_askTune i_acts i_undone i_laid i_knowns i_time f_text f_tunes f_houses f_hums z439 f_many z440 z441 z442 z443 z444 f_all f_kept f_was f_sTune f_boxAll J445 L446 r_497 H496.size hI450 (ob_242 f499 f500)) (cwV 1 hG (goodV gw1452 gw1454 gw73 gw138 gw1455) rfl rfl rfl hd_X9_must ⟨(Nat.le_of_ble_eq_true rfl), (Nat.le_of_ble_eq_true rfl)⟩) ⟨fbW, va_recv hK hP (ci := 8) (q0 := 0) rfl rfl, pW_in hP hK hD⟩ rfl rfl hl.1 rfl (lv_room (Nat.le_of_ble_eq_true rfl)) dX9_readLine_155 ⟨(Nat.le_of_ble_eq_true rfl), (Nat.le_of_ble_eq_true rfl)⟩) hS (fun q _ h => hFc q h) hFc (fun _ t_ H501 locs ht hvm hw hB hz1 hk1 hS => ?_)
              obtain ⟨x503, x504, x505, x506, x507, J508, L509, hP1, hD1, hI512, f510, f511⟩ := hB
              rw [ht] at hP1
              have hP := hP1
              have hD := dW hFc hD1
              obtain ⟨im513, im514, im515, im516, im517, im518, im519, im520, im521, im522, im523, im524, im525, im526, im527, im528, im529, im530, im531, im532, im533, im534, im535, im536, im537, im538, im539, im540, im541, im542, im543, im544, im545⟩ := id hI512
              rw [hQ]
              exact W.vret hx hb hr (fun t ht hW => ⟨⟨(), rfl, trivial, ⟨x503, x504, x505, x506, x507, x435, x436, x437, x438, f_tunes, f_houses, f_hums, z439, f_many, z440, z441, z442, z443, z444, J508, L509, by rw [ht]; exact hP, hD, hI512, (ob_725 f84 f447 f510), (ob_733 f84 f447 f511), (fun h => hp3 (ob_613 ie17 hp1)), (fun h => f448 (ob_734 f511 h)), f449⟩⟩, hS.F ht⟩) hS.2.2 dX9_readLine_158
          · skip
            have f546 : x133.toInt = 0 := qi_eq c_135 rfl zc_0
            have f547 : x133.toInt = (0 : Int) := (ob_25 f546)
            have f548 : (L 0 0).toInt = (448546567013 : Int) := (ob_38 f134 f546 zl_448546567013)
            refine lv_aload_n hx hb dX9_readLine_81 rfl (lv_at hl 1 rfl) ?_
            have hFc := frA hD hS hA
            refine va_callv (va_runV (As := []) (rest := []) ⟨hx, hb, hml, hown, hG⟩ (kX9_readHouse l dC dI r ct i_taped i_size i_faultKind x79 x80 x81 x82 i_bank i_rb i_codes i_within i_piled i_unitsInRule i_askHouse i_askTune i_acts i_undone i_laid i_knowns i_time f_text f_tunes f_houses f_hums f_told f_many f_ruleFrom f_ruleTo f_code f_eWhat f_eSign f_all f_kept f_was f_sTune f_boxAll J L83 H77.size hI87 (ob_377 hp0) (ob_746 f61 f64 f548) (ob_229 ie17 hp1)) (cwV 0 hG (goodV gw1456 gw1458 gw74 gw138 gw1459) rfl rfl rfl hd_X9_readHouse ⟨(Nat.le_of_ble_eq_true rfl), (Nat.le_of_ble_eq_true rfl)⟩) ⟨fbW, va_recv hK hP (ci := 8) (q0 := 0) rfl rfl, pW_in hP hK hD⟩ rfl rfl hl.1 rfl (lv_room (Nat.le_of_ble_eq_true rfl)) dX9_readLine_82 ⟨(Nat.le_of_ble_eq_true rfl), (Nat.le_of_ble_eq_true rfl)⟩) hS (fun q _ h => hFc q h) hFc (fun _ t_ H549 locs ht hvm hw hB hz1 hk1 hS => ?_)
            obtain ⟨x551, x552, x553, x554, x555, z556, J557, L558, hP1, hD1, hI560, f559⟩ := hB
            rw [ht] at hP1
            have hP := hP1
            have hD := dW hFc hD1
            obtain ⟨im561, im562, im563, im564, im565, im566, im567, im568, im569, im570, im571, im572, im573, im574, im575, im576, im577, im578, im579, im580, im581, im582, im583, im584, im585, im586, im587, im588, im589, im590, im591, im592, im593⟩ := id hI560
            refine lv_lload_n hx hb dX9_readLine_85 rfl (lv_at hl 0 rfl) ?_
            refine lv_ldc2 (v := 1735156068) hx hb hown (hG _ gw1384) dX9_readLine_86 ?_
            refine W.lcmp hx hb dX9_readLine_89 ?_
            refine lv_topi (fun x594 ex594 => ?_)
            have f595 : (x594.toInt = 0 ∧ (L 0 0).toInt = (1735156068 : Int64).toInt) ∨ (x594.toInt ≠ 0 ∧ (L 0 0).toInt ≠ (1735156068 : Int64).toInt) := lcmp_or ex594
            refine lv_if_ne (tgt := 97) hx hb dX9_readLine_90 (by decide) (fun c_596 => ?_) (fun c_596 => ((ob_747 (qi_eq c_596 rfl zc_0) f548 f595 zl_1735156068)).elim)
            have f597 : x594.toInt ≠ 0 := qi_ne c_596 rfl zc_0
            have f598 : x594.toInt ≠ (0 : Int) := (ob_50 f595 f597 zl_1735156068)
            have f599 : (L 0 0).toInt ≠ (1735156068 : Int) := (ob_748 f548)
            refine lv_lload_n hx hb dX9_readLine_97 rfl (lv_at hl 0 rfl) ?_
            refine lv_ldc2 (v := 1752526195) hx hb hown (hG _ gw1385) dX9_readLine_98 ?_
            refine W.lcmp hx hb dX9_readLine_101 ?_
            refine lv_topi (fun x600 ex600 => ?_)
            have f601 : (x600.toInt = 0 ∧ (L 0 0).toInt = (1752526195 : Int64).toInt) ∨ (x600.toInt ≠ 0 ∧ (L 0 0).toInt ≠ (1752526195 : Int64).toInt) := lcmp_or ex600
            refine lv_if_ne (tgt := 122) hx hb dX9_readLine_102 (by decide) (fun c_602 => ?_) (fun c_602 => ((ob_749 (qi_eq c_602 rfl zc_0) f548 f601 zl_1752526195)).elim)
            have f603 : x600.toInt ≠ 0 := qi_ne c_602 rfl zc_0
            have f604 : x600.toInt ≠ (0 : Int) := (ob_53 f601 f603 zl_1752526195)
            have f605 : (L 0 0).toInt ≠ (1752526195 : Int) := (ob_750 f548)
            refine lv_lload_n hx hb dX9_readLine_122 rfl (lv_at hl 0 rfl) ?_
            refine lv_ldc2 (v := 1685217655) hx hb hown (hG _ gw1386) dX9_readLine_123 ?_
            refine W.lcmp hx hb dX9_readLine_126 ?_
            refine lv_topi (fun x606 ex606 => ?_)
            have f607 : (x606.toInt = 0 ∧ (L 0 0).toInt = (1685217655 : Int64).toInt) ∨ (x606.toInt ≠ 0 ∧ (L 0 0).toInt ≠ (1685217655 : Int64).toInt) := lcmp_or ex606
            refine lv_if_ne (tgt := 148) hx hb dX9_readLine_127 (by decide) (fun c_608 => ?_) (fun c_608 => ((ob_751 (qi_eq c_608 rfl zc_0) f548 f607 zl_1685217655)).elim)
            have f609 : x606.toInt ≠ 0 := qi_ne c_608 rfl zc_0
            have f610 : x606.toInt ≠ (0 : Int) := (ob_56 f607 f609 zl_1685217655)
            have f611 : (L 0 0).toInt ≠ (1685217655 : Int) := (ob_752 f548)
            refine lv_aload_n hx hb dX9_readLine_148 rfl (lv_at hl 1 rfl) ?_
            refine lv_aload_n hx hb dX9_readLine_149 rfl (lv_at hl 1 rfl) ?_
            refine lv_bipush (v := 59) hx hb dX9_readLine_150 (by decide) ?_
            refine va_calli (va_runV (As := [.int 59]) (rest := [.ref (r 0)]) ⟨hx, hb, hml, hown, hG⟩ (kX9_isSignHere l dC dI r ct i_taped i_size x551 x552 x553 x554 x555 i_bank i_rb i_codes i_within i_piled i_unitsInRule i_askHouse i_askTune i_acts i_undone i_laid i_knowns i_time f_text f_tunes z556 f_hums f_told f_many f_ruleFrom f_ruleTo f_code f_eWhat f_eSign f_all f_kept f_was f_sTune f_boxAll J557 L558 59 H549.size hI560) (cwV 1 hG (goodV gw1476 gw1478 gw79 gw138 gw1479) rfl rfl rfl hd_X9_isSignHere ⟨(Nat.le_of_ble_eq_true rfl), (Nat.le_of_ble_eq_true rfl)⟩) ⟨fbR, va_recv hK hP (ci := 8) (q0 := 0) rfl rfl, pR_in hP hK⟩ rfl rfl hl.1 rfl (lv_room (Nat.le_of_ble_eq_true rfl)) dX9_readLine_152 ⟨(Nat.le_of_ble_eq_true rfl), (Nat.le_of_ble_eq_true rfl)⟩) hS (fun q hq h => absurd hq (Nat.not_lt.mpr h)) (fun q h => hA q (Nat.le_trans hS.1 h)) (fun r_613 u_ t_ H612 locs ht hvm hw hB hz1 hk1 hS => ?_)
            subst hw
            have hP := wk hP hk1
            obtain ⟨f614, f615, f616⟩ := hB
            have hFc := frA hD hS hA
            refine va_callv (va_runV (As := [.int r_613]) (rest := []) ⟨hx, hb, hml, hown, hG⟩ (kX9_must l dC dI r ct i_taped i_size x551 x552 x553 x554 x555 i_bank i_rb i_codes i_within i_piled i_unitsInRule i_askHouse i_askTune i_acts i_undone i_laid i_knowns i_time f_text f_tunes z556 f_hums f_told f_many f_ruleFrom f_ruleTo f_code f_eWhat f_eSign f_all f_kept f_was f_sTune f_boxAll J557 L558 r_613 H612.size hI560 (ob_242 f615 f616)) (cwV 1 hG (goodV gw1452 gw1454 gw73 gw138 gw1455) rfl rfl rfl hd_X9_must ⟨(Nat.le_of_ble_eq_true rfl), (Nat.le_of_ble_eq_true rfl)⟩) ⟨fbW, va_recv hK hP (ci := 8) (q0 := 0) rfl rfl, pW_in hP hK hD⟩ rfl rfl hl.1 rfl (lv_room (Nat.le_of_ble_eq_true rfl)) dX9_readLine_155 ⟨(Nat.le_of_ble_eq_true rfl), (Nat.le_of_ble_eq_true rfl)⟩) hS (fun q _ h => hFc q h) hFc (fun _ t_ H617 locs ht hvm hw hB hz1 hk1 hS => ?_)
            obtain ⟨x619, x620, x621, x622, x623, J624, L625, hP1, hD1, hI628, f626, f627⟩ := hB
            rw [ht] at hP1
            have hP := hP1
            have hD := dW hFc hD1
            obtain ⟨im629, im630, im631, im632, im633, im634, im635, im636, im637, im638, im639, im640, im641, im642, im643, im644, im645, im646, im647, im648, im649, im650, im651, im652, im653, im654, im655, im656, im657, im658, im659, im660, im661⟩ := id hI628
            rw [hQ]
            exact W.vret hx hb hr (fun t ht hW => ⟨⟨(), rfl, trivial, ⟨x619, x620, x621, x622, x623, i_codes, i_within, i_piled, i_unitsInRule, f_tunes, z556, f_hums, f_told, f_many, f_ruleFrom, f_ruleTo, f_code, f_eWhat, f_eSign, J624, L625, by rw [ht]; exact hP, hD, hI628, (ob_725 f84 f559 f626), (ob_733 f84 f559 f627), (fun h => hp3 (ob_613 ie17 hp1)), (fun h => hp4 (ob_613 ie17 hp1)), hp5⟩⟩, hS.F ht⟩) hS.2.2 dX9_readLine_158
        · skip
          have f662 : x127.toInt = 0 := qi_eq c_129 rfl zc_0
          have f663 : x127.toInt = (0 : Int) := (ob_25 f662)
          have f664 : (L 0 0).toInt = (1953853029 : Int) := (ob_29 f128 f662 zl_1953853029)
          refine lv_aload_n hx hb dX9_readLine_69 rfl (lv_at hl 1 rfl) ?_
          have hFc := frA hD hS hA
          refine va_callv (va_runV (As := []) (rest := []) ⟨hx, hb, hml, hown, hG⟩ (kX9_readTune l dC dI r ct i_taped i_size i_faultKind x79 x80 x81 x82 i_bank i_rb i_codes i_within i_piled i_unitsInRule i_askHouse i_askTune i_acts i_undone i_laid i_knowns i_time f_text f_tunes f_houses f_hums f_told f_many f_ruleFrom f_ruleTo f_code f_eWhat f_eSign f_all f_kept f_was f_sTune f_boxAll J L83 H77.size hI87 (ob_377 hp0) (ob_753 f60 f64 f664) (ob_229 ie17 hp1) (fun h => hp3 h)) (cwV 0 hG (goodV gw1436 gw1438 gw69 gw138 gw1439) rfl rfl rfl hd_X9_readTune ⟨(Nat.le_of_ble_eq_true rfl), (Nat.le_of_ble_eq_true rfl)⟩) ⟨fbW, va_recv hK hP (ci := 8) (q0 := 0) rfl rfl, pW_in hP hK hD⟩ rfl rfl hl.1 rfl (lv_room (Nat.le_of_ble_eq_true rfl)) dX9_readLine_70 ⟨(Nat.le_of_ble_eq_true rfl), (Nat.le_of_ble_eq_true rfl)⟩) hS (fun q _ h => hFc q h) hFc (fun _ t_ H665 locs ht hvm hw hB hz1 hk1 hS => ?_)
          obtain ⟨x667, x668, x669, x670, x671, z672, z673, J674, L675, hP1, hD1, hI678, f676, f677⟩ := hB
          rw [ht] at hP1
          have hP := hP1
          have hD := dW hFc hD1
          obtain ⟨im679, im680, im681, im682, im683, im684, im685, im686, im687, im688, im689, im690, im691, im692, im693, im694, im695, im696, im697, im698, im699, im700, im701, im702, im703, im704, im705, im706, im707, im708, im709, im710, im711⟩ := id hI678
          refine lv_lload_n hx hb dX9_readLine_73 rfl (lv_at hl 0 rfl) ?_
          refine lv_ldc2 (v := 448546567013) hx hb hown (hG _ gw1380) dX9_readLine_74 ?_
          refine W.lcmp hx hb dX9_readLine_77 ?_
          refine lv_topi (fun x712 ex712 => ?_)
          have f713 : (x712.toInt = 0 ∧ (L 0 0).toInt = (448546567013 : Int64).toInt) ∨ (x712.toInt ≠ 0 ∧ (L 0 0).toInt ≠ (448546567013 : Int64).toInt) := lcmp_or ex712
          refine lv_if_ne (tgt := 85) hx hb dX9_readLine_78 (by decide) (fun c_714 => ?_) (fun c_714 => ((ob_754 (qi_eq c_714 rfl zc_0) f664 f713 zl_448546567013)).elim)
          have f715 : x712.toInt ≠ 0 := qi_ne c_714 rfl zc_0
          have f716 : x712.toInt ≠ (0 : Int) := (ob_39 f713 f715 zl_448546567013)
          have f717 : (L 0 0).toInt ≠ (448546567013 : Int) := (ob_755 f664)
          refine lv_lload_n hx hb dX9_readLine_85 rfl (lv_at hl 0 rfl) ?_
          refine lv_ldc2 (v := 1735156068) hx hb hown (hG _ gw1384) dX9_readLine_86 ?_
          refine W.lcmp hx hb dX9_readLine_89 ?_
          refine lv_topi (fun x718 ex718 => ?_)
          have f719 : (x718.toInt = 0 ∧ (L 0 0).toInt = (1735156068 : Int64).toInt) ∨ (x718.toInt ≠ 0 ∧ (L 0 0).toInt ≠ (1735156068 : Int64).toInt) := lcmp_or ex718
          refine lv_if_ne (tgt := 97) hx hb dX9_readLine_90 (by decide) (fun c_720 => ?_) (fun c_720 => ((ob_756 (qi_eq c_720 rfl zc_0) f664 f719 zl_1735156068)).elim)
          have f721 : x718.toInt ≠ 0 := qi_ne c_720 rfl zc_0
          have f722 : x718.toInt ≠ (0 : Int) := (ob_50 f719 f721 zl_1735156068)
          have f723 : (L 0 0).toInt ≠ (1735156068 : Int) := (ob_757 f664)
          refine lv_lload_n hx hb dX9_readLine_97 rfl (lv_at hl 0 rfl) ?_
          refine lv_ldc2 (v := 1752526195) hx hb hown (hG _ gw1385) dX9_readLine_98 ?_
          refine W.lcmp hx hb dX9_readLine_101 ?_
          refine lv_topi (fun x724 ex724 => ?_)
          have f725 : (x724.toInt = 0 ∧ (L 0 0).toInt = (1752526195 : Int64).toInt) ∨ (x724.toInt ≠ 0 ∧ (L 0 0).toInt ≠ (1752526195 : Int64).toInt) := lcmp_or ex724
          refine lv_if_ne (tgt := 122) hx hb dX9_readLine_102 (by decide) (fun c_726 => ?_) (fun c_726 => ((ob_758 (qi_eq c_726 rfl zc_0) f664 f725 zl_1752526195)).elim)
          have f727 : x724.toInt ≠ 0 := qi_ne c_726 rfl zc_0
          have f728 : x724.toInt ≠ (0 : Int) := (ob_53 f725 f727 zl_1752526195)
          have f729 : (L 0 0).toInt ≠ (1752526195 : Int) := (ob_759 f664)
          refine lv_lload_n hx hb dX9_readLine_122 rfl (lv_at hl 0 rfl) ?_
          refine lv_ldc2 (v := 1685217655) hx hb hown (hG _ gw1386) dX9_readLine_123 ?_
          refine W.lcmp hx hb dX9_readLine_126 ?_
          refine lv_topi (fun x730 ex730 => ?_)
          have f731 : (x730.toInt = 0 ∧ (L 0 0).toInt = (1685217655 : Int64).toInt) ∨ (x730.toInt ≠ 0 ∧ (L 0 0).toInt ≠ (1685217655 : Int64).toInt) := lcmp_or ex730
          refine lv_if_ne (tgt := 148) hx hb dX9_readLine_127 (by decide) (fun c_732 => ?_) (fun c_732 => ((ob_760 (qi_eq c_732 rfl zc_0) f664 f731 zl_1685217655)).elim)
          have f733 : x730.toInt ≠ 0 := qi_ne c_732 rfl zc_0
          have f734 : x730.toInt ≠ (0 : Int) := (ob_56 f731 f733 zl_1685217655)
          have f735 : (L 0 0).toInt ≠ (1685217655 : Int) := (ob_761 f664)
          refine lv_aload_n hx hb dX9_readLine_148 rfl (lv_at hl 1 rfl) ?_
          refine lv_aload_n hx hb dX9_readLine_149 rfl (lv_at hl 1 rfl) ?_
          refine lv_bipush (v := 59) hx hb dX9_readLine_150 (by decide) ?_
          refine va_calli (va_runV (As := [.int 59]) (rest := [.ref (r 0)]) ⟨hx, hb, hml, hown, hG⟩ (kX9_isSignHere l dC dI r ct i_taped i_size x667 x668 x669 x670 x671 i_bank i_rb i_codes i_within i_piled i_unitsInRule i_askHouse i_askTune i_acts i_undone i_laid i_knowns i_time f_text z672 f_houses f_hums f_told z673 f_ruleFrom f_ruleTo f_code f_eWhat f_eSign f_all f_kept f_was f_sTune f_boxAll J674 L675 59 H665.size hI678) (cwV 1 hG (goodV gw1476 gw1478 gw79 gw138 gw1479) rfl rfl rfl hd_X9_isSignHere ⟨(Nat.le_of_ble_eq_true rfl), (Nat.le_of_ble_eq_true rfl)⟩) ⟨fbR, va_recv hK hP (ci := 8) (q0 := 0) rfl rfl, pR_in hP hK⟩ rfl rfl hl.1 rfl (lv_room (Nat.le_of_ble_eq_true rfl)) dX9_readLine_152 ⟨(Nat.le_of_ble_eq_true rfl), (Nat.le_of_ble_eq_true rfl)⟩) hS (fun q hq h => absurd hq (Nat.not_lt.mpr h)) (fun q h => hA q (Nat.le_trans hS.1 h)) (fun r_737 u_ t_ H736 locs ht hvm hw hB hz1 hk1 hS => ?_)
          subst hw
          have hP := wk hP hk1
          obtain ⟨f738, f739, f740⟩ := hB
          have hFc := frA hD hS hA
          refine va_callv (va_runV (As := [.int r_737]) (rest := []) ⟨hx, hb, hml, hown, hG⟩ (kX9_must l dC dI r ct i_taped i_size x667 x668 x669 x670 x671 i_bank i_rb i_codes i_within i_piled i_unitsInRule i_askHouse i_askTune i_acts i_undone i_laid i_knowns i_time f_text z672 f_houses f_hums f_told z673 f_ruleFrom f_ruleTo f_code f_eWhat f_eSign f_all f_kept f_was f_sTune f_boxAll J674 L675 r_737 H736.size hI678 (ob_242 f739 f740)) (cwV 1 hG (goodV gw1452 gw1454 gw73 gw138 gw1455) rfl rfl rfl hd_X9_must ⟨(Nat.le_of_ble_eq_true rfl), (Nat.le_of_ble_eq_true rfl)⟩) ⟨fbW, va_recv hK hP (ci := 8) (q0 := 0) rfl rfl, pW_in hP hK hD⟩ rfl rfl hl.1 rfl (lv_room (Nat.le_of_ble_eq_true rfl)) dX9_readLine_155 ⟨(Nat.le_of_ble_eq_true rfl), (Nat.le_of_ble_eq_true rfl)⟩) hS (fun q _ h => hFc q h) hFc (fun _ t_ H741 locs ht hvm hw hB hz1 hk1 hS => ?_)
          obtain ⟨x743, x744, x745, x746, x747, J748, L749, hP1, hD1, hI752, f750, f751⟩ := hB
          rw [ht] at hP1
          have hP := hP1
          have hD := dW hFc hD1
          obtain ⟨im753, im754, im755, im756, im757, im758, im759, im760, im761, im762, im763, im764, im765, im766, im767, im768, im769, im770, im771, im772, im773, im774, im775, im776, im777, im778, im779, im780, im781, im782, im783, im784, im785⟩ := id hI752
          rw [hQ]
          exact W.vret hx hb hr (fun t ht hW => ⟨⟨(), rfl, trivial, ⟨x743, x744, x745, x746, x747, i_codes, i_within, i_piled, i_unitsInRule, z672, f_houses, f_hums, f_told, z673, f_ruleFrom, f_ruleTo, f_code, f_eWhat, f_eSign, J748, L749, by rw [ht]; exact hP, hD, hI752, (ob_725 f84 f676 f750), (ob_733 f84 f676 f751), (fun h => f677 (ob_734 f751 h)), (fun h => hp4 (ob_613 ie17 hp1)), hp5⟩⟩, hS.F ht⟩) hS.2.2 dX9_readLine_158
      · skip
        have f786 : x121.toInt = 0 := qi_eq c_123 rfl zc_0
        have f787 : x121.toInt = (0 : Int) := (ob_25 f786)
        have f788 : (L 0 0).toInt = (7021235455869215084 : Int) := (ob_762 f122 f786 zl_7021235455869215084)
        refine lv_aload_n hx hb dX9_readLine_44 rfl (lv_at hl 1 rfl) ?_
        refine gM_X9_20_0 hx hb hG hown hK hP dX9_readLine_45 ?_
        refine lv_aload_n hx hb dX9_readLine_48 rfl (lv_at hl 1 rfl) ?_
        refine gM_X9_240_0 hx hb hG hown hK hP dX9_readLine_49 ?_
        refine lv_aload_n hx hb dX9_readLine_52 rfl (lv_at hl 1 rfl) ?_
        refine lv_iconst (v := 0) hx hb dX9_readLine_53 (by decide) ?_
        refine lv_iconst (v := 1) hx hb dX9_readLine_54 (by decide) ?_
        refine lv_bipush (v := 9) hx hb dX9_readLine_55 (by decide) ?_
        have hFc := frA hD hS hA
        refine va_calli (va_runV (As := [.int 0, .int 1, .int 9]) (rest := [.int i_rb, .ref (r 3)]) ⟨hx, hb, hml, hown, hG⟩ (kX9_once_v2 l dC dI r ct i_taped i_size i_faultKind x79 x80 x81 x82 i_bank i_rb i_codes i_within i_piled i_unitsInRule i_askHouse i_askTune i_acts i_undone i_laid i_knowns i_time f_text f_tunes f_houses f_hums f_told f_many f_ruleFrom f_ruleTo f_code f_eWhat f_eSign f_all f_kept f_was f_sTune f_boxAll J L83 1 9 H77.size hI87 (ob_377 hp0) (ob_763 zc_9 zc_1) (fun h => hp4 h) hp5) (cwV 3 hG (goodV gw1428 gw1430 gw67 gw138 gw1431) rfl rfl rfl hd_X9_once ⟨(Nat.le_of_ble_eq_true rfl), (Nat.le_of_ble_eq_true rfl)⟩) ⟨fbW, va_recv hK hP (ci := 8) (q0 := 0) rfl rfl, pW_in hP hK hD⟩ rfl rfl hl.1 rfl (lv_room (Nat.le_of_ble_eq_true rfl)) dX9_readLine_57 ⟨(Nat.le_of_ble_eq_true rfl), (Nat.le_of_ble_eq_true rfl)⟩) hS (fun q _ h => hFc q h) hFc (fun r_790 u_ t_ H789 locs ht hvm hw hB hz1 hk1 hS => ?_)
        subst hw
        obtain ⟨x791, x792, x793, x794, x795, z796, J797, L798, hP1, hD1, hI805, f799, f800, f801, f802, f803, f804⟩ := hB
        rw [ht] at hP1
        have hP := hP1
        have hD := dW hFc hD1
        obtain ⟨im806, im807, im808, im809, im810, im811, im812, im813, im814, im815, im816, im817, im818, im819, im820, im821, im822, im823, im824, im825, im826, im827, im828, im829, im830, im831, im832, im833, im834, im835, im836, im837, im838⟩ := id hI805
        refine stM_3 (mm := i_rb.toInt) hx hb hK hP hD hS rfl (ob_244 ie6 ie7 hp0) (ob_245 ie6 ie7 hp0) dX9_readLine_60 (fun J840 H839 locs hP hD hS => ?_)
        refine lv_lload_n hx hb dX9_readLine_61 rfl (lv_at hl 0 rfl) ?_
        refine lv_ldc2 (v := 1953853029) hx hb hown (hG _ gw1377) dX9_readLine_62 ?_
        refine W.lcmp hx hb dX9_readLine_65 ?_
        refine lv_topi (fun x841 ex841 => ?_)
        have f842 : (x841.toInt = 0 ∧ (L 0 0).toInt = (1953853029 : Int64).toInt) ∨ (x841.toInt ≠ 0 ∧ (L 0 0).toInt ≠ (1953853029 : Int64).toInt) := lcmp_or ex841
        refine lv_if_ne (tgt := 73) hx hb dX9_readLine_66 (by decide) (fun c_843 => ?_) (fun c_843 => ((ob_764 (qi_eq c_843 rfl zc_0) f788 f842 zl_1953853029)).elim)
        have f844 : x841.toInt ≠ 0 := qi_ne c_843 rfl zc_0
        have f845 : x841.toInt ≠ (0 : Int) := (ob_30 f842 f844 zl_1953853029)
        have f846 : (L 0 0).toInt ≠ (1953853029 : Int) := (ob_765 f788)
        refine lv_lload_n hx hb dX9_readLine_73 rfl (lv_at hl 0 rfl) ?_
        refine lv_ldc2 (v := 448546567013) hx hb hown (hG _ gw1380) dX9_readLine_74 ?_
        refine W.lcmp hx hb dX9_readLine_77 ?_
        refine lv_topi (fun x847 ex847 => ?_)
        have f848 : (x847.toInt = 0 ∧ (L 0 0).toInt = (448546567013 : Int64).toInt) ∨ (x847.toInt ≠ 0 ∧ (L 0 0).toInt ≠ (448546567013 : Int64).toInt) := lcmp_or ex847
        refine lv_if_ne (tgt := 85) hx hb dX9_readLine_78 (by decide) (fun c_849 => ?_) (fun c_849 => ((ob_766 (qi_eq c_849 rfl zc_0) f788 f848 zl_448546567013)).elim)
        have f850 : x847.toInt ≠ 0 := qi_ne c_849 rfl zc_0
        have f851 : x847.toInt ≠ (0 : Int) := (ob_39 f848 f850 zl_448546567013)
        have f852 : (L 0 0).toInt ≠ (448546567013 : Int) := (ob_767 f788)
        refine lv_lload_n hx hb dX9_readLine_85 rfl (lv_at hl 0 rfl) ?_
        refine lv_ldc2 (v := 1735156068) hx hb hown (hG _ gw1384) dX9_readLine_86 ?_
        refine W.lcmp hx hb dX9_readLine_89 ?_
        refine lv_topi (fun x853 ex853 => ?_)
        have f854 : (x853.toInt = 0 ∧ (L 0 0).toInt = (1735156068 : Int64).toInt) ∨ (x853.toInt ≠ 0 ∧ (L 0 0).toInt ≠ (1735156068 : Int64).toInt) := lcmp_or ex853
        refine lv_if_ne (tgt := 97) hx hb dX9_readLine_90 (by decide) (fun c_855 => ?_) (fun c_855 => ((ob_768 (qi_eq c_855 rfl zc_0) f788 f854 zl_1735156068)).elim)
        have f856 : x853.toInt ≠ 0 := qi_ne c_855 rfl zc_0
        have f857 : x853.toInt ≠ (0 : Int) := (ob_50 f854 f856 zl_1735156068)
        have f858 : (L 0 0).toInt ≠ (1735156068 : Int) := (ob_769 f788)
        refine lv_lload_n hx hb dX9_readLine_97 rfl (lv_at hl 0 rfl) ?_
        refine lv_ldc2 (v := 1752526195) hx hb hown (hG _ gw1385) dX9_readLine_98 ?_
        refine W.lcmp hx hb dX9_readLine_101 ?_
        refine lv_topi (fun x859 ex859 => ?_)
        have f860 : (x859.toInt = 0 ∧ (L 0 0).toInt = (1752526195 : Int64).toInt) ∨ (x859.toInt ≠ 0 ∧ (L 0 0).toInt ≠ (1752526195 : Int64).toInt) := lcmp_or ex859
        refine lv_if_ne (tgt := 122) hx hb dX9_readLine_102 (by decide) (fun c_861 => ?_) (fun c_861 => ((ob_770 (qi_eq c_861 rfl zc_0) f788 f860 zl_1752526195)).elim)
        have f862 : x859.toInt ≠ 0 := qi_ne c_861 rfl zc_0
        have f863 : x859.toInt ≠ (0 : Int) := (ob_53 f860 f862 zl_1752526195)
        have f864 : (L 0 0).toInt ≠ (1752526195 : Int) := (ob_771 f788)
        refine lv_lload_n hx hb dX9_readLine_122 rfl (lv_at hl 0 rfl) ?_
        refine lv_ldc2 (v := 1685217655) hx hb hown (hG _ gw1386) dX9_readLine_123 ?_
        refine W.lcmp hx hb dX9_readLine_126 ?_
        refine lv_topi (fun x865 ex865 => ?_)
        have f866 : (x865.toInt = 0 ∧ (L 0 0).toInt = (1685217655 : Int64).toInt) ∨ (x865.toInt ≠ 0 ∧ (L 0 0).toInt ≠ (1685217655 : Int64).toInt) := lcmp_or ex865
        refine lv_if_ne (tgt := 148) hx hb dX9_readLine_127 (by decide) (fun c_867 => ?_) (fun c_867 => ((ob_772 (qi_eq c_867 rfl zc_0) f788 f866 zl_1685217655)).elim)
        have f868 : x865.toInt ≠ 0 := qi_ne c_867 rfl zc_0
        have f869 : x865.toInt ≠ (0 : Int) := (ob_56 f866 f868 zl_1685217655)
        have f870 : (L 0 0).toInt ≠ (1685217655 : Int) := (ob_773 f788)
        refine lv_aload_n hx hb dX9_readLine_148 rfl (lv_at hl 1 rfl) ?_
        refine lv_aload_n hx hb dX9_readLine_149 rfl (lv_at hl 1 rfl) ?_
        refine lv_bipush (v := 59) hx hb dX9_readLine_150 (by decide) ?_
        refine va_calli (va_runV (As := [.int 59]) (rest := [.ref (r 0)]) ⟨hx, hb, hml, hown, hG⟩ (kX9_isSignHere l dC dI r ct i_taped i_size x791 x792 x793 x794 x795 i_bank i_rb i_codes i_within i_piled i_unitsInRule i_askHouse i_askTune i_acts i_undone i_laid i_knowns i_time f_text f_tunes f_houses f_hums z796 f_many f_ruleFrom f_ruleTo f_code f_eWhat f_eSign f_all f_kept f_was f_sTune f_boxAll J840 L798 59 H839.size hI805) (cwV 1 hG (goodV gw1476 gw1478 gw79 gw138 gw1479) rfl rfl rfl hd_X9_isSignHere ⟨(Nat.le_of_ble_eq_true rfl), (Nat.le_of_ble_eq_true rfl)⟩) ⟨fbR, va_recv hK hP (ci := 8) (q0 := 0) rfl rfl, pR_in hP hK⟩ rfl rfl hl.1 rfl (lv_room (Nat.le_of_ble_eq_true rfl)) dX9_readLine_152 ⟨(Nat.le_of_ble_eq_true rfl), (Nat.le_of_ble_eq_true rfl)⟩) hS (fun q hq h => absurd hq (Nat.not_lt.mpr h)) (fun q h => hA q (Nat.le_trans hS.1 h)) (fun r_872 u_ t_ H871 locs ht hvm hw hB hz1 hk1 hS => ?_)
        subst hw
        have hP := wk hP hk1
        obtain ⟨f873, f874, f875⟩ := hB
        have hFc := frA hD hS hA
        refine va_callv (va_runV (As := [.int r_872]) (rest := []) ⟨hx, hb, hml, hown, hG⟩ (kX9_must l dC dI r ct i_taped i_size x791 x792 x793 x794 x795 i_bank i_rb i_codes i_within i_piled i_unitsInRule i_askHouse i_askTune i_acts i_undone i_laid i_knowns i_time f_text f_tunes f_houses f_hums z796 f_many f_ruleFrom f_ruleTo f_code f_eWhat f_eSign f_all f_kept f_was f_sTune f_boxAll J840 L798 r_872 H871.size hI805 (ob_242 f874 f875)) (cwV 1 hG (goodV gw1452 gw1454 gw73 gw138 gw1455) rfl rfl rfl hd_X9_must ⟨(Nat.le_of_ble_eq_true rfl), (Nat.le_of_ble_eq_true rfl)⟩) ⟨fbW, va_recv hK hP (ci := 8) (q0 := 0) rfl rfl, pW_in hP hK hD⟩ rfl rfl hl.1 rfl (lv_room (Nat.le_of_ble_eq_true rfl)) dX9_readLine_155 ⟨(Nat.le_of_ble_eq_true rfl), (Nat.le_of_ble_eq_true rfl)⟩) hS (fun q _ h => hFc q h) hFc (fun _ t_ H876 locs ht hvm hw hB hz1 hk1 hS => ?_)
        obtain ⟨x878, x879, x880, x881, x882, J883, L884, hP1, hD1, hI887, f885, f886⟩ := hB
        rw [ht] at hP1
        have hP := hP1
        have hD := dW hFc hD1
        obtain ⟨im888, im889, im890, im891, im892, im893, im894, im895, im896, im897, im898, im899, im900, im901, im902, im903, im904, im905, im906, im907, im908, im909, im910, im911, im912, im913, im914, im915, im916, im917, im918, im919, im920⟩ := id hI887
        rw [hQ]
        exact W.vret hx hb hr (fun t ht hW => ⟨⟨(), rfl, trivial, ⟨x878, x879, x880, x881, x882, i_codes, i_within, i_piled, i_unitsInRule, f_tunes, f_houses, f_hums, z796, f_many, f_ruleFrom, f_ruleTo, f_code, f_eWhat, f_eSign, J883, L884, by rw [ht]; exact hP, hD, hI887, (ob_725 f84 f801 f885), (ob_733 f84 f801 f886), (fun h => hp3 (ob_613 ie17 hp1)), (fun h => f803 (ob_734 f886 h)), f804⟩⟩, hS.F ht⟩) hS.2.2 dX9_readLine_158
    · skip
      have f921 : r_57.toInt ≠ 0 := qi_ne c_63 rfl zc_0
      have f922 : (1 : Int) ≤ r_57.toInt := (ob_22 f58 f921)
      refine lv_aload_n hx hb dX9_readLine_20 rfl (lv_at hl 1 rfl) ?_
      have hFc := frA hD hS hA
      refine va_callv (va_runV (As := []) (rest := []) ⟨hx, hb, hml, hown, hG⟩ (kX9_misplaced l dC dI r ct i_taped i_size i_faultKind i_at i_end i_token i_number i_bank i_rb i_codes i_within i_piled i_unitsInRule i_askHouse i_askTune i_acts i_undone i_laid i_knowns i_time f_text f_tunes f_houses f_hums f_told f_many f_ruleFrom f_ruleTo f_code f_eWhat f_eSign f_all f_kept f_was f_sTune f_boxAll J L H56.size hI) (cwV 0 hG (goodV gw1420 gw1422 gw65 gw138 gw1423) rfl rfl rfl hd_X9_misplaced ⟨(Nat.le_of_ble_eq_true rfl), (Nat.le_of_ble_eq_true rfl)⟩) ⟨fbW, va_recv hK hP (ci := 8) (q0 := 0) rfl rfl, pW_in hP hK hD⟩ rfl rfl hl.1 rfl (lv_room (Nat.le_of_ble_eq_true rfl)) dX9_readLine_21 ⟨(Nat.le_of_ble_eq_true rfl), (Nat.le_of_ble_eq_true rfl)⟩) hS (fun q _ h => hFc q h) hFc (fun _ t_ H923 locs ht hvm hw hB hz1 hk1 hS => ?_)
      obtain ⟨x925, J926, hP1, hD1, hI928, f927⟩ := hB
      rw [ht] at hP1
      have hP := hP1
      have hD := dW hFc hD1
      obtain ⟨im929, im930, im931, im932, im933, im934, im935, im936, im937, im938, im939, im940, im941, im942, im943, im944, im945, im946, im947, im948, im949, im950, im951, im952, im953, im954, im955, im956, im957, im958, im959, im960, im961⟩ := id hI928
      refine lv_aload_n hx hb dX9_readLine_24 rfl (lv_at hl 1 rfl) ?_
      refine va_calli (va_runV (As := []) (rest := []) ⟨hx, hb, hml, hown, hG⟩ (kX9_isGood l dC dI r ct i_taped i_size x925 i_at i_end i_token i_number i_bank i_rb i_codes i_within i_piled i_unitsInRule i_askHouse i_askTune i_acts i_undone i_laid i_knowns i_time f_text f_tunes f_houses f_hums f_told f_many f_ruleFrom f_ruleTo f_code f_eWhat f_eSign f_all f_kept f_was f_sTune f_boxAll J926 L H923.size hI928) (cwV 0 hG (goodV gw1401 gw1403 gw61 gw138 gw1404) rfl rfl rfl hd_X9_isGood ⟨(Nat.le_of_ble_eq_true rfl), (Nat.le_of_ble_eq_true rfl)⟩) ⟨fbR, va_recv hK hP (ci := 8) (q0 := 0) rfl rfl, pR_in hP hK⟩ rfl rfl hl.1 rfl (lv_room (Nat.le_of_ble_eq_true rfl)) dX9_readLine_25 ⟨(Nat.le_of_ble_eq_true rfl), (Nat.le_of_ble_eq_true rfl)⟩) hS (fun q hq h => absurd hq (Nat.not_lt.mpr h)) (fun q h => hA q (Nat.le_trans hS.1 h)) (fun r_963 u_ t_ H962 locs ht hvm hw hB hz1 hk1 hS => ?_)
      subst hw
      have hP := wk hP hk1
      obtain ⟨f964, f965, f966⟩ := hB
      refine lv_if_ne (tgt := 32) hx hb dX9_readLine_28 (by decide) (fun c_967 => ((ob_231 (qi_ne c_967 rfl zc_0) f927 f964)).elim) (fun c_967 => ?_)
      have f968 : r_963.toInt = 0 := qi_eq c_967 rfl zc_0
      have f969 : x925.toInt ≠ (0 : Int) := (ob_232 im946 f927)
      have f970 : (1 : Int) ≤ x925.toInt := (ob_217 im946 f927)
      have f971 : r_963.toInt = (0 : Int) := (ob_226 f965 f966 f968)
      rw [hQ]
      exact W.vret hx hb hr (fun t ht hW => ⟨⟨(), rfl, trivial, ⟨x925, i_at, i_end, i_token, i_number, i_codes, i_within, i_piled, i_unitsInRule, f_tunes, f_houses, f_hums, f_told, f_many, f_ruleFrom, f_ruleTo, f_code, f_eWhat, f_eSign, J926, L, by rw [ht]; exact hP, hD, hI928, (ob_146), (ob_774 f927), (fun h => hp3 (ob_613 ie17 hp1)), (fun h => hp4 (ob_613 ie17 hp1)), hp5⟩⟩, hS.F ht⟩) hS.2.2 dX9_readLine_31
set_option maxHeartbeats 4000000 in
set_option maxRecDepth 100000 in
theorem kX9_homes (l : Launch) (dC : Nat → ClassId) (dI : Nat → Nat → Nat) (r : Nat → Nat) (ct : Nat → ClassId) (i_taped i_size i_faultKind i_at i_end i_token i_number i_bank i_rb i_codes i_within i_piled i_unitsInRule i_askHouse i_askTune i_acts i_undone i_laid i_knowns i_time : Int32) (f_text f_tunes f_houses f_hums f_told f_many f_ruleFrom f_ruleTo f_code f_eWhat f_eSign f_all f_kept f_was f_sTune f_boxAll : Nat → Int32) (J : Nat → Nat → Int32) (L : Nat → Nat → Int64) (sz : Nat) (hI : (IM i_taped i_size i_faultKind i_at i_end i_bank i_rb i_acts i_undone i_laid i_knowns i_time f_tunes f_houses f_hums f_told f_many f_ruleFrom f_ruleTo f_code f_all f_kept f_was f_sTune f_boxAll)) : Met l yX9_homes (.code yX9_homes cX9_homes 1 (some .int) :: GW) { frames := 2, cells := 0, slots := 0, locals := 100 } (va_Pc [.ref (r 0)] (pR (dC, dI) (WM r ct i_taped i_size i_faultKind i_at i_end i_token i_number i_bank i_rb i_codes i_within i_piled i_unitsInRule i_askHouse i_askTune i_acts i_undone i_laid i_knowns i_time f_text f_tunes f_houses f_hums f_told f_many f_ruleFrom f_ruleTo f_code f_eWhat f_eSign f_all f_kept f_was f_sTune f_boxAll J L) (TM ct) sz)) (va_Qi (fun (r0 : Int32) (u : Int32) => r0 = u) (fun (u : Int32) (t : State) => (u.toInt = (f_houses (i_bank.toInt).toNat).toInt)) (fun q => sz ≤ q)) 0 0 (fun q => sz ≤ q) := by
  refine Met.ofW (cc := cX9_homes) (maxL := 1) (ret := (some .int)) (by decide) rfl ?_
  intro p e s m args below meth c0 s₁ B hml hv
  obtain ⟨rfl, hsz, hP, hK⟩ := hv
  have hx := B.exec
  have hb := B.bytes
  have hr := B.returns
  have hts := atoms_spec (ws := .code yX9_homes cX9_homes 1 (some .int) :: GW) B.pre
  have hG : ∀ w ∈ GW, w.before _ s = true := fun w h => hts w (List.mem_cons_of_mem _ h)
  have hown : s.vm.findClass RX9 = some m.cls := findClass_of_methodNamed B.named
  subst hsz
  have hS : va_S (fun q => s.heap.size ≤ q) s.heap s.heap [] := va_S.rf
  have hP : va_P (dC, dI) vwCl (WM r ct i_taped i_size i_faultKind i_at i_end i_token i_number i_bank i_rb i_codes i_within i_piled i_unitsInRule i_askHouse i_askTune i_acts i_undone i_laid i_knowns i_time f_text f_tunes f_houses f_hums f_told f_many f_ruleFrom f_ruleTo f_code f_eWhat f_eSign f_all f_kept f_was f_sTune f_boxAll J L) s.heap := hP
  have hl := lv_entry ([.ref (r 0)]) (n := 1) (Nat.le_of_ble_eq_true rfl)
  rw [lg_entry_eq]
  generalize (lg_sl ([.ref (r 0)]) ++ List.replicate (1 - (lg_sl ([.ref (r 0)])).length) Slot.unset).toArray = ls at hl ⊢
  have hl : lv_has ls 1 [(0, .ref (r 0))] := hl
  refine nameQ (fun Q hQ => ?_)
  obtain ⟨ie0, ie1, ie2, ie3, ie4, ie5, ie6, ie7, ie8, ie9, ie10, ie11, ie12, ie13, ie14, ie15, ie16, ie17, ie18, ie19, ie20, ie21, ie22, ie23, ie24, ie25, ie26, ie27, ie28, ie29, ie30, ie31, ie32⟩ := id hI
  have f1 : 0 ≤ (f_tunes (i_bank.toInt).toNat).toInt ∧ (f_tunes (i_bank.toInt).toNat).toInt ≤ 5 := ie21 (i_bank.toInt)
  have f2 : 0 ≤ (f_houses (i_bank.toInt).toNat).toInt ∧ (f_houses (i_bank.toInt).toNat).toInt ≤ 4 := ie22 (i_bank.toInt)
  refine lv_aload_n hx hb dX9_homes_0 rfl (lv_at hl 0 rfl) ?_
  refine gM_X9_27_0 hx hb hG hown hK hP dX9_homes_1 ?_
  refine lv_aload_n hx hb dX9_homes_4 rfl (lv_at hl 0 rfl) ?_
  refine gM_X9_249_0 hx hb hG hown hK hP dX9_homes_5 ?_
  refine ldM_5 (mm := i_bank.toInt) hx hb hK hP rfl (ob_263 ie4 ie5) (ob_264 ie4 ie5) dX9_homes_8 ?_
  rw [hQ]
  exact W.iret (v := (f_houses (i_bank.toInt).toNat)) hx hb hr (fun t ht hW => ⟨⟨(f_houses (i_bank.toInt).toNat), (f_houses (i_bank.toInt).toNat), rfl, rfl, (ob_775)⟩, hS.F ht⟩) hS.2.2 dX9_homes_9
set_option maxHeartbeats 4000000 in
set_option maxRecDepth 100000 in
theorem kX9_layTold (l : Launch) (dC : Nat → ClassId) (dI : Nat → Nat → Nat) (r : Nat → Nat) (ct : Nat → ClassId) (i_taped i_size i_faultKind i_at i_end i_token i_number i_bank i_rb i_codes i_within i_piled i_unitsInRule i_askHouse i_askTune i_acts i_undone i_laid i_knowns i_time : Int32) (f_text f_tunes f_houses f_hums f_told f_many f_ruleFrom f_ruleTo f_code f_eWhat f_eSign f_all f_kept f_was f_sTune f_boxAll : Nat → Int32) (J : Nat → Nat → Int32) (L : Nat → Nat → Int64) (sz : Nat) (hI : (IM i_taped i_size i_faultKind i_at i_end i_bank i_rb i_acts i_undone i_laid i_knowns i_time f_tunes f_houses f_hums f_told f_many f_ruleFrom f_ruleTo f_code f_all f_kept f_was f_sTune f_boxAll)) : Met l yX9_layTold (.code yX9_layTold cX9_layTold 2 none :: GW) { frames := 4, cells := 0, slots := 0, locals := 160 } (va_Pc [.ref (r 0)] (pW (dC, dI) (WM r ct i_taped i_size i_faultKind i_at i_end i_token i_number i_bank i_rb i_codes i_within i_piled i_unitsInRule i_askHouse i_askTune i_acts i_undone i_laid i_knowns i_time f_text f_tunes f_houses f_hums f_told f_many f_ruleFrom f_ruleTo f_code f_eWhat f_eSign f_all f_kept f_was f_sTune f_boxAll J L) (TM ct) sz)) (va_Qv (fun _ : Unit => True) (fun (_ : Unit) (t : State) => ∃ (n_f_all : Nat → Int32), va_P (dC, dI) vwCl (WM r ct i_taped i_size i_faultKind i_at i_end i_token i_number i_bank i_rb i_codes i_within i_piled i_unitsInRule i_askHouse i_askTune i_acts i_undone i_laid i_knowns i_time f_text f_tunes f_houses f_hums f_told f_many f_ruleFrom f_ruleTo f_code f_eWhat f_eSign n_f_all f_kept f_was f_sTune f_boxAll J L) t.heap ∧ va_D (va_A (WM r ct i_taped i_size i_faultKind i_at i_end i_token i_number i_bank i_rb i_codes i_within i_piled i_unitsInRule i_askHouse i_askTune i_acts i_undone i_laid i_knowns i_time f_text f_tunes f_houses f_hums f_told f_many f_ruleFrom f_ruleTo f_code f_eWhat f_eSign f_all f_kept f_was f_sTune f_boxAll J L) sz) (WM r ct i_taped i_size i_faultKind i_at i_end i_token i_number i_bank i_rb i_codes i_within i_piled i_unitsInRule i_askHouse i_askTune i_acts i_undone i_laid i_knowns i_time f_text f_tunes f_houses f_hums f_told f_many f_ruleFrom f_ruleTo f_code f_eWhat f_eSign n_f_all f_kept f_was f_sTune f_boxAll J L) ∧ (IM i_taped i_size i_faultKind i_at i_end i_bank i_rb i_acts i_undone i_laid i_knowns i_time f_tunes f_houses f_hums f_told f_many f_ruleFrom f_ruleTo f_code n_f_all f_kept f_was f_sTune f_boxAll)) (va_A (WM r ct i_taped i_size i_faultKind i_at i_end i_token i_number i_bank i_rb i_codes i_within i_piled i_unitsInRule i_askHouse i_askTune i_acts i_undone i_laid i_knowns i_time f_text f_tunes f_houses f_hums f_told f_many f_ruleFrom f_ruleTo f_code f_eWhat f_eSign f_all f_kept f_was f_sTune f_boxAll J L) sz)) 0 0 (va_A (WM r ct i_taped i_size i_faultKind i_at i_end i_token i_number i_bank i_rb i_codes i_within i_piled i_unitsInRule i_askHouse i_askTune i_acts i_undone i_laid i_knowns i_time f_text f_tunes f_houses f_hums f_told f_many f_ruleFrom f_ruleTo f_code f_eWhat f_eSign f_all f_kept f_was f_sTune f_boxAll J L) sz) := by
  refine Met.ofW (cc := cX9_layTold) (maxL := 2) (ret := none) (by decide) rfl ?_
  intro p e s m args below meth c0 s₁ B hml hv
  obtain ⟨rfl, hsz, hP, hK, hD0⟩ := hv
  have hx := B.exec
  have hb := B.bytes
  have hr := B.returns
  have hts := atoms_spec (ws := .code yX9_layTold cX9_layTold 2 none :: GW) B.pre
  have hG : ∀ w ∈ GW, w.before _ s = true := fun w h => hts w (List.mem_cons_of_mem _ h)
  have hown : s.vm.findClass RX9 = some m.cls := findClass_of_methodNamed B.named
  subst hsz
  have hD := hD0.self (sz := s.heap.size)
  generalize hAe : va_A (WM r ct i_taped i_size i_faultKind i_at i_end i_token i_number i_bank i_rb i_codes i_within i_piled i_unitsInRule i_askHouse i_askTune i_acts i_undone i_laid i_knowns i_time f_text f_tunes f_houses f_hums f_told f_many f_ruleFrom f_ruleTo f_code f_eWhat f_eSign f_all f_kept f_was f_sTune f_boxAll J L) s.heap.size = A at hD ⊢
  have hA : ∀ q : Nat, s.heap.size ≤ q → A q := fun q h => by rw [← hAe]; exact Or.inr h
  have hS : va_S A s.heap s.heap [] := va_S.rf
  have hP : va_P (dC, dI) vwCl (WM r ct i_taped i_size i_faultKind i_at i_end i_token i_number i_bank i_rb i_codes i_within i_piled i_unitsInRule i_askHouse i_askTune i_acts i_undone i_laid i_knowns i_time f_text f_tunes f_houses f_hums f_told f_many f_ruleFrom f_ruleTo f_code f_eWhat f_eSign f_all f_kept f_was f_sTune f_boxAll J L) s.heap := hP
  have hl := lv_entry ([.ref (r 0)]) (n := 2) (Nat.le_of_ble_eq_true rfl)
  rw [lg_entry_eq]
  generalize (lg_sl ([.ref (r 0)]) ++ List.replicate (2 - (lg_sl ([.ref (r 0)])).length) Slot.unset).toArray = ls at hl ⊢
  have hl : lv_has ls 2 [(0, .ref (r 0))] := hl
  refine nameQ (fun Q hQ => ?_)
  obtain ⟨ie0, ie1, ie2, ie3, ie4, ie5, ie6, ie7, ie8, ie9, ie10, ie11, ie12, ie13, ie14, ie15, ie16, ie17, ie18, ie19, ie20, ie21, ie22, ie23, ie24, ie25, ie26, ie27, ie28, ie29, ie30, ie31, ie32⟩ := id hI
  have f1 : 0 ≤ (f_tunes (i_bank.toInt).toNat).toInt ∧ (f_tunes (i_bank.toInt).toNat).toInt ≤ 5 := ie21 (i_bank.toInt)
  have f2 : 0 ≤ (f_houses (i_bank.toInt).toNat).toInt ∧ (f_houses (i_bank.toInt).toNat).toInt ≤ 4 := ie22 (i_bank.toInt)
  refine lv_iconst (v := 0) hx hb dX9_layTold_0 (by decide) ?_
  refine lv_istore_n (lv' := [(1, .int 0), (0, .ref (r 0))]) hx hb dX9_layTold_1 rfl hl (by decide) rfl (fun ls hl => ?_)
  have L2 : ∀ (N2 : Nat) (y2_1 : Int32) (m2_f_all : Nat → Int32) (H2 : Heap) (locs : List Loc) (ls : Array Slot) (g2_0 : (0 : Int) ≤ y2_1.toInt) (g2_1 : y2_1.toInt ≤ (26 : Int)) (gi2_all_p : EW m2_f_all) (hP : va_P (dC, dI) vwCl (WM r ct i_taped i_size i_faultKind i_at i_end i_token i_number i_bank i_rb i_codes i_within i_piled i_unitsInRule i_askHouse i_askTune i_acts i_undone i_laid i_knowns i_time f_text f_tunes f_houses f_hums f_told f_many f_ruleFrom f_ruleTo f_code f_eWhat f_eSign m2_f_all f_kept f_was f_sTune f_boxAll J L) H2) (hD : va_D A (WM r ct i_taped i_size i_faultKind i_at i_end i_token i_number i_bank i_rb i_codes i_within i_piled i_unitsInRule i_askHouse i_askTune i_acts i_undone i_laid i_knowns i_time f_text f_tunes f_houses f_hums f_told f_many f_ruleFrom f_ruleTo f_code f_eWhat f_eSign m2_f_all f_kept f_was f_sTune f_boxAll J L)) (hS : va_S A s.heap H2 locs) (hl : lv_has ls 2 [(0, .ref (r 0)), (1, .int y2_1)]) (hM : -1 * y2_1.toInt + 26 < (N2 : Int)), W p l e { frames := 4, cells := 0, slots := 0, locals := 160 } s m ([.ref (r 0)] : List Value).toArray below meth c0 H2 locs 0 0 Q (F0 m 2 ls []) := by
    intro N2
    induction N2 with
    | zero =>
      intro y2_1 m2_f_all H2 locs ls g2_0 g2_1 gi2_all_p hP hD hS hl hM
      exact ((ob_776 hM g2_0 g2_1)).elim
    | succ N2 ih2 =>
      intro y2_1 m2_f_all H2 locs ls g2_0 g2_1 gi2_all_p hP hD hS hl hM
      have hM2 := msucc hM
      refine lv_iload_n hx hb dX9_layTold_2 rfl (lv_at hl 1 rfl) ?_
      refine lv_bipush (v := 26) hx hb dX9_layTold_3 (by decide) ?_
      refine lv_icmp_ge (tgt := 21) hx hb dX9_layTold_5 (by decide) (fun c_3 => ?_) (fun c_3 => ?_)
      · skip
        have f4 : 26 ≤ y2_1.toInt := qi_le c_3 zc_26 rfl
        refine lv_iconst (v := 0) hx hb dX9_layTold_21 (by decide) ?_
        refine lv_istore_n (lv' := [(1, .int 0), (0, .ref (r 0))]) hx hb dX9_layTold_22 rfl hl (by decide) rfl (fun ls hl => ?_)
        have L23 : ∀ (N23 : Nat) (y23_1 : Int32) (m23_f_all : Nat → Int32) (H23 : Heap) (locs : List Loc) (ls : Array Slot) (g23_0 : (0 : Int) ≤ y23_1.toInt) (g23_1 : y23_1.toInt ≤ (5 : Int)) (gi23_all_p : EW m23_f_all) (hP : va_P (dC, dI) vwCl (WM r ct i_taped i_size i_faultKind i_at i_end i_token i_number i_bank i_rb i_codes i_within i_piled i_unitsInRule i_askHouse i_askTune i_acts i_undone i_laid i_knowns i_time f_text f_tunes f_houses f_hums f_told f_many f_ruleFrom f_ruleTo f_code f_eWhat f_eSign m23_f_all f_kept f_was f_sTune f_boxAll J L) H23) (hD : va_D A (WM r ct i_taped i_size i_faultKind i_at i_end i_token i_number i_bank i_rb i_codes i_within i_piled i_unitsInRule i_askHouse i_askTune i_acts i_undone i_laid i_knowns i_time f_text f_tunes f_houses f_hums f_told f_many f_ruleFrom f_ruleTo f_code f_eWhat f_eSign m23_f_all f_kept f_was f_sTune f_boxAll J L)) (hS : va_S A s.heap H23 locs) (hl : lv_has ls 2 [(0, .ref (r 0)), (1, .int y23_1)]) (hM : -1 * y23_1.toInt + 5 < (N23 : Int)), W p l e { frames := 4, cells := 0, slots := 0, locals := 160 } s m ([.ref (r 0)] : List Value).toArray below meth c0 H23 locs 0 0 Q (F0 m 23 ls []) := by
          intro N23
          induction N23 with
          | zero =>
            intro y23_1 m23_f_all H23 locs ls g23_0 g23_1 gi23_all_p hP hD hS hl hM
            exact ((ob_777 hM g23_0 g23_1)).elim
          | succ N23 ih23 =>
            intro y23_1 m23_f_all H23 locs ls g23_0 g23_1 gi23_all_p hP hD hS hl hM
            have hM23 := msucc hM
            refine lv_iload_n hx hb dX9_layTold_23 rfl (lv_at hl 1 rfl) ?_
            refine lv_iconst (v := 5) hx hb dX9_layTold_24 (by decide) ?_
            refine lv_icmp_ge (tgt := 43) hx hb dX9_layTold_25 (by decide) (fun c_5 => ?_) (fun c_5 => ?_)
            · skip
              have f6 : 5 ≤ y23_1.toInt := qi_le c_5 zc_5 rfl
              refine lv_iconst (v := 0) hx hb dX9_layTold_43 (by decide) ?_
              refine lv_istore_n (lv' := [(1, .int 0), (0, .ref (r 0))]) hx hb dX9_layTold_44 rfl hl (by decide) rfl (fun ls hl => ?_)
              have L45 : ∀ (N45 : Nat) (y45_1 : Int32) (m45_f_all : Nat → Int32) (H45 : Heap) (locs : List Loc) (ls : Array Slot) (g45_0 : (0 : Int) ≤ y45_1.toInt) (g45_1 : y45_1.toInt ≤ (4 : Int)) (gi45_all_p : EW m45_f_all) (hP : va_P (dC, dI) vwCl (WM r ct i_taped i_size i_faultKind i_at i_end i_token i_number i_bank i_rb i_codes i_within i_piled i_unitsInRule i_askHouse i_askTune i_acts i_undone i_laid i_knowns i_time f_text f_tunes f_houses f_hums f_told f_many f_ruleFrom f_ruleTo f_code f_eWhat f_eSign m45_f_all f_kept f_was f_sTune f_boxAll J L) H45) (hD : va_D A (WM r ct i_taped i_size i_faultKind i_at i_end i_token i_number i_bank i_rb i_codes i_within i_piled i_unitsInRule i_askHouse i_askTune i_acts i_undone i_laid i_knowns i_time f_text f_tunes f_houses f_hums f_told f_many f_ruleFrom f_ruleTo f_code f_eWhat f_eSign m45_f_all f_kept f_was f_sTune f_boxAll J L)) (hS : va_S A s.heap H45 locs) (hl : lv_has ls 2 [(0, .ref (r 0)), (1, .int y45_1)]) (hM : -1 * y45_1.toInt + 4 < (N45 : Int)), W p l e { frames := 4, cells := 0, slots := 0, locals := 160 } s m ([.ref (r 0)] : List Value).toArray below meth c0 H45 locs 0 0 Q (F0 m 45 ls []) := by
                intro N45
                induction N45 with
                | zero =>
                  intro y45_1 m45_f_all H45 locs ls g45_0 g45_1 gi45_all_p hP hD hS hl hM
                  exact ((ob_778 hM g45_0 g45_1)).elim
                | succ N45 ih45 =>
                  intro y45_1 m45_f_all H45 locs ls g45_0 g45_1 gi45_all_p hP hD hS hl hM
                  have hM45 := msucc hM
                  refine lv_iload_n hx hb dX9_layTold_45 rfl (lv_at hl 1 rfl) ?_
                  refine lv_aload_n hx hb dX9_layTold_46 rfl (lv_at hl 0 rfl) ?_
                  refine va_calli (va_runV (As := []) (rest := [.int y45_1]) ⟨hx, hb, hml, hown, hG⟩ (kX9_homes l dC dI r ct i_taped i_size i_faultKind i_at i_end i_token i_number i_bank i_rb i_codes i_within i_piled i_unitsInRule i_askHouse i_askTune i_acts i_undone i_laid i_knowns i_time f_text f_tunes f_houses f_hums f_told f_many f_ruleFrom f_ruleTo f_code f_eWhat f_eSign m45_f_all f_kept f_was f_sTune f_boxAll J L H45.size ⟨ie0, ie1, ie2, ie3, ie4, ie5, ie6, ie7, ie8, ie9, ie10, ie11, ie12, ie13, ie14, ie15, ie16, ie17, ie18, ie19, ie20, ie21, ie22, ie23, ie24, ie25, ie26, gi45_all_p, ie28, ie29, ie30, ie31, ie32⟩) (cwV 0 hG (goodV gw1167 gw1169 gw58 gw138 gw1170) rfl rfl rfl hd_X9_homes ⟨(Nat.le_of_ble_eq_true rfl), (Nat.le_of_ble_eq_true rfl)⟩) ⟨fbR, va_recv hK hP (ci := 8) (q0 := 0) rfl rfl, pR_in hP hK⟩ rfl rfl hl.1 rfl (lv_room (Nat.le_of_ble_eq_true rfl)) dX9_layTold_47 ⟨(Nat.le_of_ble_eq_true rfl), (Nat.le_of_ble_eq_true rfl)⟩) hS (fun q hq h => absurd hq (Nat.not_lt.mpr h)) (fun q h => hA q (Nat.le_trans hS.1 h)) (fun r_8 u_ t_ H7 locs ht hvm hw hB hz1 hk1 hS => ?_)
                  subst hw
                  have hP := wk hP hk1
                  have f9 := hB
                  have f10 : r_8.toInt = (f_houses (i_bank.toInt).toNat).toInt := (ob_6 f9)
                  refine lv_icmp_ge (tgt := 81) hx hb dX9_layTold_50 (by decide) (fun c_11 => ?_) (fun c_11 => ?_)
                  · skip
                    have f12 : r_8.toInt ≤ y45_1.toInt := qi_le c_11 rfl rfl
                    refine lv_aload_n hx hb dX9_layTold_81 rfl (lv_at hl 0 rfl) ?_
                    refine gM_X9_88_0 hx hb hG hown hK hP dX9_layTold_82 ?_
                    refine lv_bipush (v := 25) hx hb dX9_layTold_85 (by decide) ?_
                    refine lv_aload_n hx hb dX9_layTold_87 rfl (lv_at hl 0 rfl) ?_
                    refine gM_X9_36_0 hx hb hG hown hK hP dX9_layTold_88 ?_
                    refine lv_aload_n hx hb dX9_layTold_91 rfl (lv_at hl 0 rfl) ?_
                    refine gM_X9_249_0 hx hb hG hown hK hP dX9_layTold_92 ?_
                    refine ldM_8 (mm := i_bank.toInt) hx hb hK hP rfl (ob_263 ie4 ie5) (ob_264 ie4 ie5) dX9_layTold_95 (fun x13 => ?_)
                    refine stM_25 (mm := (25 : Int)) hx hb hK hP hD hS zc_25 (ob_779) (ob_780) dX9_layTold_96 (fun z15 H14 locs ez15 hP hD hS => ?_)
                    have g16 : EW z15 := ez15 ▸ EW.updo gi45_all_p (ob_779) (ob_781)
                    rw [hQ]
                    exact W.vret hx hb hr (fun t ht hW => ⟨⟨(), rfl, trivial, ⟨z15, by rw [ht]; exact hP, hD, ⟨ie0, ie1, ie2, ie3, ie4, ie5, ie6, ie7, ie8, ie9, ie10, ie11, ie12, ie13, ie14, ie15, ie16, ie17, ie18, ie19, ie20, ie21, ie22, ie23, ie24, ie25, ie26, g16, ie28, ie29, ie30, ie31, ie32⟩⟩⟩, hS.F ht⟩) hS.2.2 dX9_layTold_97
                  · skip
                    have f17 : y45_1.toInt < r_8.toInt := qi_nle c_11 rfl rfl
                    refine lv_aload_n hx hb dX9_layTold_53 rfl (lv_at hl 0 rfl) ?_
                    refine gM_X9_88_0 hx hb hG hown hK hP dX9_layTold_54 ?_
                    refine lv_bipush (v := 20) hx hb dX9_layTold_57 (by decide) ?_
                    refine lv_iload_n hx hb dX9_layTold_59 rfl (lv_at hl 1 rfl) ?_
                    refine lv_iadd hx hb dX9_layTold_60 ?_
                    refine lv_topi (fun x18 ex18 => ?_)
                    have f19 : x18.toInt = y45_1.toInt + 20 := (ob_784 (qi_add ex18 zc_20 rfl (ob_782 g45_0) (ob_783 g45_1)))
                    refine lv_aload_n hx hb dX9_layTold_61 rfl (lv_at hl 0 rfl) ?_
                    refine gM_X9_54_0 hx hb hG hown hK hP dX9_layTold_62 ?_
                    refine lv_iconst (v := 4) hx hb dX9_layTold_65 (by decide) ?_
                    refine lv_aload_n hx hb dX9_layTold_66 rfl (lv_at hl 0 rfl) ?_
                    refine gM_X9_249_0 hx hb hG hown hK hP dX9_layTold_67 ?_
                    refine lv_imul hx hb dX9_layTold_70 ?_
                    refine lv_topi (fun x20 ex20 => ?_)
                    have f21 : x20.toInt = 4 * i_bank.toInt := (ob_655 (qi_mul ex20 zc_4 rfl (ob_785 ie4 ie5) (ob_786 ie4 ie5)))
                    refine lv_iload_n hx hb dX9_layTold_71 rfl (lv_at hl 1 rfl) ?_
                    refine lv_iadd hx hb dX9_layTold_72 ?_
                    refine lv_topi (fun x22 ex22 => ?_)
                    have f23 : x22.toInt = y45_1.toInt + 4 * i_bank.toInt := (ob_658 (qi_add ex22 rfl rfl (ob_787 ie4 g45_0 f21) (ob_788 ie5 g45_1 f21)) f21)
                    refine ldM_14 (mm := y45_1.toInt + 4 * i_bank.toInt) hx hb hK hP f23 (ob_789 ie4 g45_0) (ob_790 ie5 f2 f17 f10) dX9_layTold_73 (fun x24 => ?_)
                    refine stM_25 (mm := y45_1.toInt + 20) hx hb hK hP hD hS f19 (ob_791 g45_0) (ob_792 g45_1) dX9_layTold_74 (fun z26 H25 locs ez26 hP hD hS => ?_)
                    have g27 : EW z26 := ez26 ▸ EW.updo gi45_all_p (ob_791 g45_0) (ob_793 f2 g45_0 g45_1 hM45 f17 f10)
                    obtain ⟨x28, ex28⟩ : ∃ y : Int32, y = y45_1 + Int32.ofInt 1 := ⟨_, rfl⟩
                    have f29 : x28.toInt = y45_1.toInt + 1 := (ob_142 (qi_add ex28 rfl (by decide) (ob_140 g45_0) (ob_794 g45_1)))
                    refine lv_iinc (v := x28) (lv' := [(1, .int x28), (0, .ref (r 0))]) hx hb dX9_layTold_75 hl (k := 1) rfl ex28.symm (by decide) rfl (fun ls hl => ?_)
                    refine lv_goto (tgt := 45) hx hb dX9_layTold_78 (by decide) ?_
                    exact ih45 x28 z26 H25 _ _ (ob_149 g45_0 f29) (ob_795 f2 f17 f10 f29) g27 hP hD hS (lv_sub hl [1, 0] rfl) (ob_796 hM45 f29)
              exact L45 (-1 * (0 : Int32).toInt + 4 + 1).toNat 0 m23_f_all H23 _ _ (ob_1 zc_0) (ob_797 zc_0) gi23_all_p hP hD hS (lv_sub hl [1, 0] rfl) (mlt (ob_798 zc_0))
            · skip
              have f30 : y23_1.toInt < 5 := qi_nle c_5 zc_5 rfl
              refine lv_aload_n hx hb dX9_layTold_28 rfl (lv_at hl 0 rfl) ?_
              refine gM_X9_88_0 hx hb hG hown hK hP dX9_layTold_29 ?_
              refine lv_iconst (v := 0) hx hb dX9_layTold_32 (by decide) ?_
              refine lv_iload_n hx hb dX9_layTold_33 rfl (lv_at hl 1 rfl) ?_
              refine lv_iadd hx hb dX9_layTold_34 ?_
              refine lv_topi (fun x31 ex31 => ?_)
              have f32 : x31.toInt = y23_1.toInt := (ob_801 (qi_add ex31 zc_0 rfl (ob_799 g23_0) (ob_800 g23_1)))
              refine lv_iconst (v := (-1)) hx hb dX9_layTold_35 (by decide) ?_
              refine stM_25 (mm := y23_1.toInt) hx hb hK hP hD hS f32 (ob_350 g23_0) (ob_802 g23_1) dX9_layTold_36 (fun z34 H33 locs ez34 hP hD hS => ?_)
              have g35 : EW z34 := ez34 ▸ EW.updo gi23_all_p (ob_350 g23_0) (ob_803 g23_0 g23_1 hM23 f30)
              obtain ⟨x36, ex36⟩ : ∃ y : Int32, y = y23_1 + Int32.ofInt 1 := ⟨_, rfl⟩
              have f37 : x36.toInt = y23_1.toInt + 1 := (ob_142 (qi_add ex36 rfl (by decide) (ob_140 g23_0) (ob_804 g23_1)))
              refine lv_iinc (v := x36) (lv' := [(1, .int x36), (0, .ref (r 0))]) hx hb dX9_layTold_37 hl (k := 1) rfl ex36.symm (by decide) rfl (fun ls hl => ?_)
              refine lv_goto (tgt := 23) hx hb dX9_layTold_40 (by decide) ?_
              exact ih23 x36 z34 H33 _ _ (ob_149 g23_0 f37) (ob_805 f30 f37) g35 hP hD hS (lv_sub hl [1, 0] rfl) (ob_806 hM23 f37)
        exact L23 (-1 * (0 : Int32).toInt + 5 + 1).toNat 0 m2_f_all H2 _ _ (ob_1 zc_0) (ob_807 zc_0) gi2_all_p hP hD hS (lv_sub hl [1, 0] rfl) (mlt (ob_808 zc_0))
      · skip
        have f38 : y2_1.toInt < 26 := qi_nle c_3 zc_26 rfl
        refine lv_aload_n hx hb dX9_layTold_8 rfl (lv_at hl 0 rfl) ?_
        refine gM_X9_88_0 hx hb hG hown hK hP dX9_layTold_9 ?_
        refine lv_iload_n hx hb dX9_layTold_12 rfl (lv_at hl 1 rfl) ?_
        refine lv_iconst (v := 0) hx hb dX9_layTold_13 (by decide) ?_
        refine stM_25 (mm := y2_1.toInt) hx hb hK hP hD hS rfl (ob_350 g2_0) (ob_809 f38) dX9_layTold_14 (fun z40 H39 locs ez40 hP hD hS => ?_)
        have g41 : EW z40 := ez40 ▸ EW.updi gi2_all_p (by decide) (by decide)
        obtain ⟨x42, ex42⟩ : ∃ y : Int32, y = y2_1 + Int32.ofInt 1 := ⟨_, rfl⟩
        have f43 : x42.toInt = y2_1.toInt + 1 := (ob_142 (qi_add ex42 rfl (by decide) (ob_140 g2_0) (ob_810 g2_1)))
        refine lv_iinc (v := x42) (lv' := [(1, .int x42), (0, .ref (r 0))]) hx hb dX9_layTold_15 hl (k := 1) rfl ex42.symm (by decide) rfl (fun ls hl => ?_)
        refine lv_goto (tgt := 2) hx hb dX9_layTold_18 (by decide) ?_
        exact ih2 x42 z40 H39 _ _ (ob_149 g2_0 f43) (ob_811 f38 f43) g41 hP hD hS (lv_sub hl [1, 0] rfl) (ob_812 hM2 f43)
  exact L2 (-1 * (0 : Int32).toInt + 26 + 1).toNat 0 f_all s.heap _ _ (ob_1 zc_0) (ob_813 zc_0) ie27 hP hD hS (lv_sub hl [1, 0] rfl) (mlt (ob_814 zc_0))
set_option maxHeartbeats 4000000 in
set_option maxRecDepth 100000 in
theorem kX9_startAnew (l : Launch) (dC : Nat → ClassId) (dI : Nat → Nat → Nat) (r : Nat → Nat) (ct : Nat → ClassId) (i_taped i_size i_faultKind i_at i_end i_token i_number i_bank i_rb i_codes i_within i_piled i_unitsInRule i_askHouse i_askTune i_acts i_undone i_laid i_knowns i_time : Int32) (f_text f_tunes f_houses f_hums f_told f_many f_ruleFrom f_ruleTo f_code f_eWhat f_eSign f_all f_kept f_was f_sTune f_boxAll : Nat → Int32) (J : Nat → Nat → Int32) (L : Nat → Nat → Int64) (sz : Nat) (hI : (IM i_taped i_size i_faultKind i_at i_end i_bank i_rb i_acts i_undone i_laid i_knowns i_time f_tunes f_houses f_hums f_told f_many f_ruleFrom f_ruleTo f_code f_all f_kept f_was f_sTune f_boxAll)) : Met l yX9_startAnew (.code yX9_startAnew cX9_startAnew 2 none :: GW) { frames := 6, cells := 0, slots := 0, locals := 221 } (va_Pc [.ref (r 0)] (pW (dC, dI) (WM r ct i_taped i_size i_faultKind i_at i_end i_token i_number i_bank i_rb i_codes i_within i_piled i_unitsInRule i_askHouse i_askTune i_acts i_undone i_laid i_knowns i_time f_text f_tunes f_houses f_hums f_told f_many f_ruleFrom f_ruleTo f_code f_eWhat f_eSign f_all f_kept f_was f_sTune f_boxAll J L) (TM ct) sz)) (va_Qv (fun _ : Unit => True) (fun (_ : Unit) (t : State) => ∃ (n_i_acts n_i_undone n_i_laid n_i_knowns : Int32) (n_f_all : Nat → Int32) (n_J : Nat → Nat → Int32), va_P (dC, dI) vwCl (WM r ct i_taped i_size i_faultKind i_at i_end i_token i_number i_bank i_rb i_codes i_within i_piled i_unitsInRule i_askHouse i_askTune n_i_acts n_i_undone n_i_laid n_i_knowns i_time f_text f_tunes f_houses f_hums f_told f_many f_ruleFrom f_ruleTo f_code f_eWhat f_eSign n_f_all f_kept f_was f_sTune f_boxAll n_J L) t.heap ∧ va_D (va_A (WM r ct i_taped i_size i_faultKind i_at i_end i_token i_number i_bank i_rb i_codes i_within i_piled i_unitsInRule i_askHouse i_askTune i_acts i_undone i_laid i_knowns i_time f_text f_tunes f_houses f_hums f_told f_many f_ruleFrom f_ruleTo f_code f_eWhat f_eSign f_all f_kept f_was f_sTune f_boxAll J L) sz) (WM r ct i_taped i_size i_faultKind i_at i_end i_token i_number i_bank i_rb i_codes i_within i_piled i_unitsInRule i_askHouse i_askTune n_i_acts n_i_undone n_i_laid n_i_knowns i_time f_text f_tunes f_houses f_hums f_told f_many f_ruleFrom f_ruleTo f_code f_eWhat f_eSign n_f_all f_kept f_was f_sTune f_boxAll n_J L) ∧ (IM i_taped i_size i_faultKind i_at i_end i_bank i_rb n_i_acts n_i_undone n_i_laid n_i_knowns i_time f_tunes f_houses f_hums f_told f_many f_ruleFrom f_ruleTo f_code n_f_all f_kept f_was f_sTune f_boxAll)) (va_A (WM r ct i_taped i_size i_faultKind i_at i_end i_token i_number i_bank i_rb i_codes i_within i_piled i_unitsInRule i_askHouse i_askTune i_acts i_undone i_laid i_knowns i_time f_text f_tunes f_houses f_hums f_told f_many f_ruleFrom f_ruleTo f_code f_eWhat f_eSign f_all f_kept f_was f_sTune f_boxAll J L) sz)) 0 0 (va_A (WM r ct i_taped i_size i_faultKind i_at i_end i_token i_number i_bank i_rb i_codes i_within i_piled i_unitsInRule i_askHouse i_askTune i_acts i_undone i_laid i_knowns i_time f_text f_tunes f_houses f_hums f_told f_many f_ruleFrom f_ruleTo f_code f_eWhat f_eSign f_all f_kept f_was f_sTune f_boxAll J L) sz) := by
  refine Met.ofW (cc := cX9_startAnew) (maxL := 2) (ret := none) (by decide) rfl ?_
  intro p e s m args below meth c0 s₁ B hml hv
  obtain ⟨rfl, hsz, hP, hK, hD0⟩ := hv
  have hx := B.exec
  have hb := B.bytes
  have hr := B.returns
  have hts := atoms_spec (ws := .code yX9_startAnew cX9_startAnew 2 none :: GW) B.pre
  have hG : ∀ w ∈ GW, w.before _ s = true := fun w h => hts w (List.mem_cons_of_mem _ h)
  have hown : s.vm.findClass RX9 = some m.cls := findClass_of_methodNamed B.named
  subst hsz
  have hD := hD0.self (sz := s.heap.size)
  generalize hAe : va_A (WM r ct i_taped i_size i_faultKind i_at i_end i_token i_number i_bank i_rb i_codes i_within i_piled i_unitsInRule i_askHouse i_askTune i_acts i_undone i_laid i_knowns i_time f_text f_tunes f_houses f_hums f_told f_many f_ruleFrom f_ruleTo f_code f_eWhat f_eSign f_all f_kept f_was f_sTune f_boxAll J L) s.heap.size = A at hD ⊢
  have hA : ∀ q : Nat, s.heap.size ≤ q → A q := fun q h => by rw [← hAe]; exact Or.inr h
  have hS : va_S A s.heap s.heap [] := va_S.rf
  have hP : va_P (dC, dI) vwCl (WM r ct i_taped i_size i_faultKind i_at i_end i_token i_number i_bank i_rb i_codes i_within i_piled i_unitsInRule i_askHouse i_askTune i_acts i_undone i_laid i_knowns i_time f_text f_tunes f_houses f_hums f_told f_many f_ruleFrom f_ruleTo f_code f_eWhat f_eSign f_all f_kept f_was f_sTune f_boxAll J L) s.heap := hP
  have hl := lv_entry ([.ref (r 0)]) (n := 2) (Nat.le_of_ble_eq_true rfl)
  rw [lg_entry_eq]
  generalize (lg_sl ([.ref (r 0)]) ++ List.replicate (2 - (lg_sl ([.ref (r 0)])).length) Slot.unset).toArray = ls at hl ⊢
  have hl : lv_has ls 2 [(0, .ref (r 0))] := hl
  refine nameQ (fun Q hQ => ?_)
  obtain ⟨ie0, ie1, ie2, ie3, ie4, ie5, ie6, ie7, ie8, ie9, ie10, ie11, ie12, ie13, ie14, ie15, ie16, ie17, ie18, ie19, ie20, ie21, ie22, ie23, ie24, ie25, ie26, ie27, ie28, ie29, ie30, ie31, ie32⟩ := id hI
  have f1 : 0 ≤ (f_tunes (i_bank.toInt).toNat).toInt ∧ (f_tunes (i_bank.toInt).toNat).toInt ≤ 5 := ie21 (i_bank.toInt)
  have f2 : 0 ≤ (f_houses (i_bank.toInt).toNat).toInt ∧ (f_houses (i_bank.toInt).toNat).toInt ≤ 4 := ie22 (i_bank.toInt)
  refine lv_aload_n hx hb dX9_startAnew_0 rfl (lv_at hl 0 rfl) ?_
  have hFc := frA hD hS hA
  refine va_callv (va_runV (As := []) (rest := []) ⟨hx, hb, hml, hown, hG⟩ (kX9_layTold l dC dI r ct i_taped i_size i_faultKind i_at i_end i_token i_number i_bank i_rb i_codes i_within i_piled i_unitsInRule i_askHouse i_askTune i_acts i_undone i_laid i_knowns i_time f_text f_tunes f_houses f_hums f_told f_many f_ruleFrom f_ruleTo f_code f_eWhat f_eSign f_all f_kept f_was f_sTune f_boxAll J L s.heap.size hI) (cwV 0 hG (goodV gw1163 gw1165 gw57 gw138 gw1166) rfl rfl rfl hd_X9_layTold ⟨(Nat.le_of_ble_eq_true rfl), (Nat.le_of_ble_eq_true rfl)⟩) ⟨fbW, va_recv hK hP (ci := 8) (q0 := 0) rfl rfl, pW_in hP hK hD⟩ rfl rfl hl.1 rfl (lv_room (Nat.le_of_ble_eq_true rfl)) dX9_startAnew_1 ⟨(Nat.le_of_ble_eq_true rfl), (Nat.le_of_ble_eq_true rfl)⟩) hS (fun q _ h => hFc q h) hFc (fun _ t_ H3 locs ht hvm hw hB hz1 hk1 hS => ?_)
  obtain ⟨z5, hP1, hD1, hI6⟩ := hB
  rw [ht] at hP1
  have hP := hP1
  have hD := dW hFc hD1
  obtain ⟨im7, im8, im9, im10, im11, im12, im13, im14, im15, im16, im17, im18, im19, im20, im21, im22, im23, im24, im25, im26, im27, im28, im29, im30, im31, im32, im33, im34, im35, im36, im37, im38, im39⟩ := id hI6
  refine lv_aload_n hx hb dX9_startAnew_4 rfl (lv_at hl 0 rfl) ?_
  refine lv_iconst (v := 0) hx hb dX9_startAnew_5 (by decide) ?_
  refine pM_X9_364_0 hx hb hG hown hK hP hD hS dX9_startAnew_6 (fun H40 locs hP hD hS => ?_)
  refine lv_aload_n hx hb dX9_startAnew_9 rfl (lv_at hl 0 rfl) ?_
  refine lv_iconst (v := 0) hx hb dX9_startAnew_10 (by decide) ?_
  refine pM_X9_367_0 hx hb hG hown hK hP hD hS dX9_startAnew_11 (fun H41 locs hP hD hS => ?_)
  refine lv_aload_n hx hb dX9_startAnew_14 rfl (lv_at hl 0 rfl) ?_
  refine lv_iconst (v := 0) hx hb dX9_startAnew_15 (by decide) ?_
  refine pM_X9_370_0 hx hb hG hown hK hP hD hS dX9_startAnew_16 (fun H42 locs hP hD hS => ?_)
  refine lv_aload_n hx hb dX9_startAnew_19 rfl (lv_at hl 0 rfl) ?_
  refine lv_iconst (v := 0) hx hb dX9_startAnew_20 (by decide) ?_
  refine pM_X9_373_0 hx hb hG hown hK hP hD hS dX9_startAnew_21 (fun H43 locs hP hD hS => ?_)
  refine lv_iconst (v := 0) hx hb dX9_startAnew_24 (by decide) ?_
  refine lv_istore_n (lv' := [(1, .int 0), (0, .ref (r 0))]) hx hb dX9_startAnew_25 rfl hl (by decide) rfl (fun ls hl => ?_)
  have L26 : ∀ (N26 : Nat) (y26_1 : Int32) (m26_J : Nat → Nat → Int32) (H26 : Heap) (locs : List Loc) (ls : Array Slot) (g26_0 : (0 : Int) ≤ y26_1.toInt) (g26_1 : y26_1.toInt ≤ (3 : Int)) (hP : va_P (dC, dI) vwCl (WM r ct i_taped i_size i_faultKind i_at i_end i_token i_number i_bank i_rb i_codes i_within i_piled i_unitsInRule i_askHouse i_askTune 0 0 0 0 i_time f_text f_tunes f_houses f_hums f_told f_many f_ruleFrom f_ruleTo f_code f_eWhat f_eSign z5 f_kept f_was f_sTune f_boxAll m26_J L) H26) (hD : va_D A (WM r ct i_taped i_size i_faultKind i_at i_end i_token i_number i_bank i_rb i_codes i_within i_piled i_unitsInRule i_askHouse i_askTune 0 0 0 0 i_time f_text f_tunes f_houses f_hums f_told f_many f_ruleFrom f_ruleTo f_code f_eWhat f_eSign z5 f_kept f_was f_sTune f_boxAll m26_J L)) (hS : va_S A s.heap H26 locs) (hl : lv_has ls 2 [(0, .ref (r 0)), (1, .int y26_1)]) (hM : -1 * y26_1.toInt + 3 < (N26 : Int)), W p l e { frames := 6, cells := 0, slots := 0, locals := 221 } s m ([.ref (r 0)] : List Value).toArray below meth c0 H26 locs 0 0 Q (F0 m 26 ls []) := by
    intro N26
    induction N26 with
    | zero =>
      intro y26_1 m26_J H26 locs ls g26_0 g26_1 hP hD hS hl hM
      exact ((ob_664 hM g26_0 g26_1)).elim
    | succ N26 ih26 =>
      intro y26_1 m26_J H26 locs ls g26_0 g26_1 hP hD hS hl hM
      have hM26 := msucc hM
      refine lv_iload_n hx hb dX9_startAnew_26 rfl (lv_at hl 1 rfl) ?_
      refine lv_iconst (v := 3) hx hb dX9_startAnew_27 (by decide) ?_
      refine lv_icmp_ge (tgt := 44) hx hb dX9_startAnew_28 (by decide) (fun c_44 => ?_) (fun c_44 => ?_)
      · skip
        have f45 : 3 ≤ y26_1.toInt := qi_le c_44 zc_3 rfl
        rw [hQ]
        exact W.vret hx hb hr (fun t ht hW => ⟨⟨(), rfl, trivial, ⟨0, 0, 0, 0, z5, m26_J, by rw [ht]; exact hP, hD, ⟨ie0, ie1, ie2, ie3, ie4, ie5, ie6, ie7, (ob_1 zc_0), (ob_797 zc_0), (ob_1 zc_0), (ob_815 zc_0), ie12, ie13, ie14, ie15, ie16, ie17, (ob_1 zc_0), (ob_1 zc_0), (ob_816 zc_0), ie21, ie22, ie23, ie24, ie25, ie26, im34, ie28, ie29, ie30, ie31, ie32⟩⟩⟩, hS.F ht⟩) hS.2.2 dX9_startAnew_44
      · skip
        have f46 : y26_1.toInt < 3 := qi_nle c_44 zc_3 rfl
        refine lv_aload_n hx hb dX9_startAnew_31 rfl (lv_at hl 0 rfl) ?_
        refine gM_X9_128_0 hx hb hG hown hK hP dX9_startAnew_32 ?_
        refine lv_iload_n hx hb dX9_startAnew_35 rfl (lv_at hl 1 rfl) ?_
        refine lv_iconst (v := 0) hx hb dX9_startAnew_36 (by decide) ?_
        refine stM_38 (mm := y26_1.toInt) hx hb hK hP hD hS rfl (ob_350 g26_0) (ob_817 f46) dX9_startAnew_37 (fun J48 H47 locs hP hD hS => ?_)
        obtain ⟨x49, ex49⟩ : ∃ y : Int32, y = y26_1 + Int32.ofInt 1 := ⟨_, rfl⟩
        have f50 : x49.toInt = y26_1.toInt + 1 := (ob_142 (qi_add ex49 rfl (by decide) (ob_140 g26_0) (ob_678 g26_1)))
        refine lv_iinc (v := x49) (lv' := [(1, .int x49), (0, .ref (r 0))]) hx hb dX9_startAnew_38 hl (k := 1) rfl ex49.symm (by decide) rfl (fun ls hl => ?_)
        refine lv_goto (tgt := 26) hx hb dX9_startAnew_41 (by decide) ?_
        exact ih26 x49 J48 H47 _ _ (ob_149 g26_0 f50) (ob_679 f46 f50) hP hD hS (lv_sub hl [1, 0] rfl) (ob_680 hM26 f50)
  exact L26 (-1 * (0 : Int32).toInt + 3 + 1).toNat 0 J H43 _ _ (ob_1 zc_0) (ob_681 zc_0) hP hD hS (lv_sub hl [1, 0] rfl) (mlt (ob_683 zc_0))
set_option maxHeartbeats 4000000 in
set_option maxRecDepth 100000 in
theorem kX9_lane (l : Launch) (dC : Nat → ClassId) (dI : Nat → Nat → Nat) (r : Nat → Nat) (ct : Nat → ClassId) (i_taped i_size i_faultKind i_at i_end i_token i_number i_bank i_rb i_codes i_within i_piled i_unitsInRule i_askHouse i_askTune i_acts i_undone i_laid i_knowns i_time : Int32) (f_text f_tunes f_houses f_hums f_told f_many f_ruleFrom f_ruleTo f_code f_eWhat f_eSign f_all f_kept f_was f_sTune f_boxAll : Nat → Int32) (J : Nat → Nat → Int32) (L : Nat → Nat → Int64) (sz : Nat) (hI : (IM i_taped i_size i_faultKind i_at i_end i_bank i_rb i_acts i_undone i_laid i_knowns i_time f_tunes f_houses f_hums f_told f_many f_ruleFrom f_ruleTo f_code f_all f_kept f_was f_sTune f_boxAll)) : Met l yX9_lane (.code yX9_lane cX9_lane 2 (some .int) :: GW) { frames := 16, cells := 0, slots := 0, locals := 529 } (va_Pc [.ref (r 0)] (pW (dC, dI) (WM r ct i_taped i_size i_faultKind i_at i_end i_token i_number i_bank i_rb i_codes i_within i_piled i_unitsInRule i_askHouse i_askTune i_acts i_undone i_laid i_knowns i_time f_text f_tunes f_houses f_hums f_told f_many f_ruleFrom f_ruleTo f_code f_eWhat f_eSign f_all f_kept f_was f_sTune f_boxAll J L) (TM ct) sz)) (va_Qi (fun (r0 : Int32) (u : Int32) => r0 = u) (fun (u : Int32) (t : State) => ∃ (n_i_taped n_i_size n_i_faultKind n_i_at n_i_end n_i_token n_i_number n_i_bank n_i_rb n_i_codes n_i_within n_i_piled n_i_unitsInRule n_i_acts n_i_undone n_i_laid n_i_knowns : Int32) (n_f_text n_f_tunes n_f_houses n_f_hums n_f_told n_f_many n_f_ruleFrom n_f_ruleTo n_f_code n_f_eWhat n_f_eSign n_f_all : Nat → Int32) (n_J : Nat → Nat → Int32) (n_L : Nat → Nat → Int64), va_P (dC, dI) vwCl (WM r ct n_i_taped n_i_size n_i_faultKind n_i_at n_i_end n_i_token n_i_number n_i_bank n_i_rb n_i_codes n_i_within n_i_piled n_i_unitsInRule i_askHouse i_askTune n_i_acts n_i_undone n_i_laid n_i_knowns i_time n_f_text n_f_tunes n_f_houses n_f_hums n_f_told n_f_many n_f_ruleFrom n_f_ruleTo n_f_code n_f_eWhat n_f_eSign n_f_all f_kept f_was f_sTune f_boxAll n_J n_L) t.heap ∧ va_D (va_A (WM r ct i_taped i_size i_faultKind i_at i_end i_token i_number i_bank i_rb i_codes i_within i_piled i_unitsInRule i_askHouse i_askTune i_acts i_undone i_laid i_knowns i_time f_text f_tunes f_houses f_hums f_told f_many f_ruleFrom f_ruleTo f_code f_eWhat f_eSign f_all f_kept f_was f_sTune f_boxAll J L) sz) (WM r ct n_i_taped n_i_size n_i_faultKind n_i_at n_i_end n_i_token n_i_number n_i_bank n_i_rb n_i_codes n_i_within n_i_piled n_i_unitsInRule i_askHouse i_askTune n_i_acts n_i_undone n_i_laid n_i_knowns i_time n_f_text n_f_tunes n_f_houses n_f_hums n_f_told n_f_many n_f_ruleFrom n_f_ruleTo n_f_code n_f_eWhat n_f_eSign n_f_all f_kept f_was f_sTune f_boxAll n_J n_L) ∧ (IM n_i_taped n_i_size n_i_faultKind n_i_at n_i_end n_i_bank n_i_rb n_i_acts n_i_undone n_i_laid n_i_knowns i_time n_f_tunes n_f_houses n_f_hums n_f_told n_f_many n_f_ruleFrom n_f_ruleTo n_f_code n_f_all f_kept f_was f_sTune f_boxAll)) (va_A (WM r ct i_taped i_size i_faultKind i_at i_end i_token i_number i_bank i_rb i_codes i_within i_piled i_unitsInRule i_askHouse i_askTune i_acts i_undone i_laid i_knowns i_time f_text f_tunes f_houses f_hums f_told f_many f_ruleFrom f_ruleTo f_code f_eWhat f_eSign f_all f_kept f_was f_sTune f_boxAll J L) sz)) 0 0 (va_A (WM r ct i_taped i_size i_faultKind i_at i_end i_token i_number i_bank i_rb i_codes i_within i_piled i_unitsInRule i_askHouse i_askTune i_acts i_undone i_laid i_knowns i_time f_text f_tunes f_houses f_hums f_told f_many f_ruleFrom f_ruleTo f_code f_eWhat f_eSign f_all f_kept f_was f_sTune f_boxAll J L) sz) := by
  refine Met.ofW (cc := cX9_lane) (maxL := 2) (ret := (some .int)) (by decide) rfl ?_
  intro p e s m args below meth c0 s₁ B hml hv
  obtain ⟨rfl, hsz, hP, hK, hD0⟩ := hv
  have hx := B.exec
  have hb := B.bytes
  have hr := B.returns
  have hts := atoms_spec (ws := .code yX9_lane cX9_lane 2 (some .int) :: GW) B.pre
  have hG : ∀ w ∈ GW, w.before _ s = true := fun w h => hts w (List.mem_cons_of_mem _ h)
  have hown : s.vm.findClass RX9 = some m.cls := findClass_of_methodNamed B.named
  subst hsz
  have hD := hD0.self (sz := s.heap.size)
  generalize hAe : va_A (WM r ct i_taped i_size i_faultKind i_at i_end i_token i_number i_bank i_rb i_codes i_within i_piled i_unitsInRule i_askHouse i_askTune i_acts i_undone i_laid i_knowns i_time f_text f_tunes f_houses f_hums f_told f_many f_ruleFrom f_ruleTo f_code f_eWhat f_eSign f_all f_kept f_was f_sTune f_boxAll J L) s.heap.size = A at hD ⊢
  have hA : ∀ q : Nat, s.heap.size ≤ q → A q := fun q h => by rw [← hAe]; exact Or.inr h
  have hS : va_S A s.heap s.heap [] := va_S.rf
  have hP : va_P (dC, dI) vwCl (WM r ct i_taped i_size i_faultKind i_at i_end i_token i_number i_bank i_rb i_codes i_within i_piled i_unitsInRule i_askHouse i_askTune i_acts i_undone i_laid i_knowns i_time f_text f_tunes f_houses f_hums f_told f_many f_ruleFrom f_ruleTo f_code f_eWhat f_eSign f_all f_kept f_was f_sTune f_boxAll J L) s.heap := hP
  have hl := lv_entry ([.ref (r 0)]) (n := 2) (Nat.le_of_ble_eq_true rfl)
  rw [lg_entry_eq]
  generalize (lg_sl ([.ref (r 0)]) ++ List.replicate (2 - (lg_sl ([.ref (r 0)])).length) Slot.unset).toArray = ls at hl ⊢
  have hl : lv_has ls 2 [(0, .ref (r 0))] := hl
  refine nameQ (fun Q hQ => ?_)
  obtain ⟨ie0, ie1, ie2, ie3, ie4, ie5, ie6, ie7, ie8, ie9, ie10, ie11, ie12, ie13, ie14, ie15, ie16, ie17, ie18, ie19, ie20, ie21, ie22, ie23, ie24, ie25, ie26, ie27, ie28, ie29, ie30, ie31, ie32⟩ := id hI
  have f1 : 0 ≤ (f_tunes (i_bank.toInt).toNat).toInt ∧ (f_tunes (i_bank.toInt).toNat).toInt ≤ 5 := ie21 (i_bank.toInt)
  have f2 : 0 ≤ (f_houses (i_bank.toInt).toNat).toInt ∧ (f_houses (i_bank.toInt).toNat).toInt ≤ 4 := ie22 (i_bank.toInt)
  refine lv_aload_n hx hb dX9_lane_0 rfl (lv_at hl 0 rfl) ?_
  refine lv_iconst (v := 0) hx hb dX9_lane_1 (by decide) ?_
  refine pM_X9_140_0 hx hb hG hown hK hP hD hS dX9_lane_2 (fun H3 locs hP hD hS => ?_)
  refine lv_aload_n hx hb dX9_lane_5 rfl (lv_at hl 0 rfl) ?_
  refine lv_iconst (v := (-1)) hx hb dX9_lane_6 (by decide) ?_
  refine pM_X9_16_0 hx hb hG hown hK hP hD hS dX9_lane_7 (fun J5 H4 locs hP hD hS => ?_)
  refine lv_aload_n hx hb dX9_lane_10 rfl (lv_at hl 0 rfl) ?_
  refine lv_aload_n hx hb dX9_lane_11 rfl (lv_at hl 0 rfl) ?_
  refine gM_X9_246_0 hx hb hG hown hK hP dX9_lane_12 ?_
  refine pM_X9_137_0 hx hb hG hown hK hP hD hS dX9_lane_15 (fun H6 locs hP hD hS => ?_)
  refine lv_iconst (v := 0) hx hb dX9_lane_18 (by decide) ?_
  refine lv_istore_n (lv' := [(1, .int 0), (0, .ref (r 0))]) hx hb dX9_lane_19 rfl hl (by decide) rfl (fun ls hl => ?_)
  have L20 : ∀ (N20 : Nat) (y20_1 : Int32) (m20_f_text : Nat → Int32) (H20 : Heap) (locs : List Loc) (ls : Array Slot) (g20_0 : (0 : Int) ≤ y20_1.toInt) (g20_1 : y20_1.toInt ≤ (1600 : Int)) (hP : va_P (dC, dI) vwCl (WM r ct i_taped i_taped 0 i_at i_end i_token i_number i_bank i_rb i_codes i_within i_piled i_unitsInRule i_askHouse i_askTune i_acts i_undone i_laid i_knowns i_time m20_f_text f_tunes f_houses f_hums f_told f_many f_ruleFrom f_ruleTo f_code f_eWhat f_eSign f_all f_kept f_was f_sTune f_boxAll J5 L) H20) (hD : va_D A (WM r ct i_taped i_taped 0 i_at i_end i_token i_number i_bank i_rb i_codes i_within i_piled i_unitsInRule i_askHouse i_askTune i_acts i_undone i_laid i_knowns i_time m20_f_text f_tunes f_houses f_hums f_told f_many f_ruleFrom f_ruleTo f_code f_eWhat f_eSign f_all f_kept f_was f_sTune f_boxAll J5 L)) (hS : va_S A s.heap H20 locs) (hl : lv_has ls 2 [(0, .ref (r 0)), (1, .int y20_1)]) (hM : -1 * y20_1.toInt + 1600 < (N20 : Int)), W p l e { frames := 16, cells := 0, slots := 0, locals := 529 } s m ([.ref (r 0)] : List Value).toArray below meth c0 H20 locs 0 0 Q (F0 m 20 ls []) := by
    intro N20
    induction N20 with
    | zero =>
      intro y20_1 m20_f_text H20 locs ls g20_0 g20_1 hP hD hS hl hM
      exact ((ob_178 hM g20_0 g20_1)).elim
    | succ N20 ih20 =>
      intro y20_1 m20_f_text H20 locs ls g20_0 g20_1 hP hD hS hl hM
      have hM20 := msucc hM
      refine lv_iload_n hx hb dX9_lane_20 rfl (lv_at hl 1 rfl) ?_
      refine lv_aload_n hx hb dX9_lane_21 rfl (lv_at hl 0 rfl) ?_
      refine gM_X9_137_0 hx hb hG hown hK hP dX9_lane_22 ?_
      refine lv_icmp_ge (tgt := 46) hx hb dX9_lane_25 (by decide) (fun c_7 => ?_) (fun c_7 => ?_)
      · skip
        have f8 : i_taped.toInt ≤ y20_1.toInt := qi_le c_7 rfl rfl
        refine lv_aload_n hx hb dX9_lane_46 rfl (lv_at hl 0 rfl) ?_
        refine lv_iconst (v := 0) hx hb dX9_lane_47 (by decide) ?_
        refine pM_X9_246_0 hx hb hG hown hK hP hD hS dX9_lane_48 (fun H9 locs hP hD hS => ?_)
        refine lv_aload_n hx hb dX9_lane_51 rfl (lv_at hl 0 rfl) ?_
        refine lv_iconst (v := 0) hx hb dX9_lane_52 (by decide) ?_
        refine pM_X9_181_0 hx hb hG hown hK hP hD hS dX9_lane_53 (fun H10 locs hP hD hS => ?_)
        refine lv_aload_n hx hb dX9_lane_56 rfl (lv_at hl 0 rfl) ?_
        refine lv_iconst (v := 1) hx hb dX9_lane_57 (by decide) ?_
        refine lv_aload_n hx hb dX9_lane_58 rfl (lv_at hl 0 rfl) ?_
        refine gM_X9_249_0 hx hb hG hown hK hP dX9_lane_59 ?_
        refine lv_isub hx hb dX9_lane_62 ?_
        refine lv_topi (fun x11 ex11 => ?_)
        have f12 : x11.toInt = -1 * i_bank.toInt + 1 := (ob_820 (qi_sub ex11 zc_1 rfl (ob_818 ie4 ie5) (ob_819 ie4 ie5)))
        refine pM_X9_240_0 hx hb hG hown hK hP hD hS dX9_lane_63 (fun H13 locs hP hD hS => ?_)
        refine lv_aload_n hx hb dX9_lane_66 rfl (lv_at hl 0 rfl) ?_
        have hFc := frA hD hS hA
        refine va_callv (va_runV (As := []) (rest := []) ⟨hx, hb, hml, hown, hG⟩ (kX9_clearBank l dC dI r ct 0 i_taped 0 i_at 0 i_token i_number i_bank x11 i_codes i_within i_piled i_unitsInRule i_askHouse i_askTune i_acts i_undone i_laid i_knowns i_time m20_f_text f_tunes f_houses f_hums f_told f_many f_ruleFrom f_ruleTo f_code f_eWhat f_eSign f_all f_kept f_was f_sTune f_boxAll J5 L H13.size ⟨(ob_1 zc_0), (ob_822 zc_0), (ob_823 ie0 ie1 f8), (ob_824 ie0 ie1 f8), ie4, ie5, (ob_825 ie4 ie5 f12), (ob_826 ie4 ie5 f12), ie8, ie9, ie10, ie11, ie12, ie13, (ob_1 zc_0), (ob_827 ie0 ie1 f8 zc_0), ie16, (ob_1 zc_0), ie18, ie19, ie20, ie21, ie22, ie23, ie24, ie25, ie26, ie27, ie28, ie29, ie30, ie31, ie32⟩ (ob_821 f12)) (cwV 0 hG (goodV gw1155 gw1157 gw55 gw138 gw1158) rfl rfl rfl hd_X9_clearBank ⟨(Nat.le_of_ble_eq_true rfl), (Nat.le_of_ble_eq_true rfl)⟩) ⟨fbW, va_recv hK hP (ci := 8) (q0 := 0) rfl rfl, pW_in hP hK hD⟩ rfl rfl hl.1 rfl (lv_room (Nat.le_of_ble_eq_true rfl)) dX9_lane_67 ⟨(Nat.le_of_ble_eq_true rfl), (Nat.le_of_ble_eq_true rfl)⟩) hS (fun q _ h => hFc q h) hFc (fun _ t_ H14 locs ht hvm hw hB hz1 hk1 hS => ?_)
        obtain ⟨x16, z17, z18, z19, z20, J21, hP1, hD1, hI26, f22, f23, f24, f25⟩ := hB
        rw [ht] at hP1
        have hP := hP1
        have hD := dW hFc hD1
        obtain ⟨im27, im28, im29, im30, im31, im32, im33, im34, im35, im36, im37, im38, im39, im40, im41, im42, im43, im44, im45, im46, im47, im48, im49, im50, im51, im52, im53, im54, im55, im56, im57, im58, im59⟩ := id hI26
        refine lv_aload_n hx hb dX9_lane_70 rfl (lv_at hl 0 rfl) ?_
        have hFc := frA hD hS hA
        refine va_callv (va_runV (As := []) (rest := []) ⟨hx, hb, hml, hown, hG⟩ (kX9_goOn l dC dI r ct 0 i_taped 0 i_at 0 i_token i_number i_bank x11 x16 i_within i_piled i_unitsInRule i_askHouse i_askTune i_acts i_undone i_laid i_knowns i_time m20_f_text z17 z18 z19 z20 f_many f_ruleFrom f_ruleTo f_code f_eWhat f_eSign f_all f_kept f_was f_sTune f_boxAll J21 L H14.size hI26) (cwV 0 hG (goodV gw1362 gw1364 gw59 gw138 gw1365) rfl rfl rfl hd_X9_goOn ⟨(Nat.le_of_ble_eq_true rfl), (Nat.le_of_ble_eq_true rfl)⟩) ⟨fbW, va_recv hK hP (ci := 8) (q0 := 0) rfl rfl, pW_in hP hK hD⟩ rfl rfl hl.1 rfl (lv_room (Nat.le_of_ble_eq_true rfl)) dX9_lane_71 ⟨(Nat.le_of_ble_eq_true rfl), (Nat.le_of_ble_eq_true rfl)⟩) hS (fun q _ h => hFc q h) hFc (fun _ t_ H60 locs ht hvm hw hB hz1 hk1 hS => ?_)
        obtain ⟨x62, x63, x64, x65, L66, hP1, hD1, hI70, f67, f68, f69⟩ := hB
        rw [ht] at hP1
        have hP := hP1
        have hD := dW hFc hD1
        obtain ⟨im71, im72, im73, im74, im75, im76, im77, im78, im79, im80, im81, im82, im83, im84, im85, im86, im87, im88, im89, im90, im91, im92, im93, im94, im95, im96, im97, im98, im99, im100, im101, im102, im103⟩ := id hI70
        have f104 : ((0 : Int32).toInt = 0 ∧ (tk (0 : Int32).toInt) = 0) ∨ ((0 : Int32).toInt ≠ 0 ∧ (tk (0 : Int32).toInt) = 1) := tk_or _
        have f105 : (x64.toInt = 0 ∧ (tk x64.toInt) = 0) ∨ (x64.toInt ≠ 0 ∧ (tk x64.toInt) = 1) := tk_or _
        have L74 : ∀ (N74 : Nat) (m74_i_faultKind m74_i_at m74_i_end m74_i_token m74_i_number m74_i_codes m74_i_within m74_i_piled m74_i_unitsInRule : Int32) (m74_f_tunes m74_f_houses m74_f_hums m74_f_told m74_f_many m74_f_ruleFrom m74_f_ruleTo m74_f_code m74_f_eWhat m74_f_eSign : Nat → Int32) (m74_J : Nat → Nat → Int32) (m74_L : Nat → Nat → Int64) (H74 : Heap) (locs : List Loc) (ls : Array Slot) (g74_0 : (0 : Int) ≤ m74_i_faultKind.toInt) (g74_1 : (0 : Int) ≤ m74_i_at.toInt) (g74_2 : (0 : Int) ≤ m74_i_end.toInt) (g74_3 : m74_i_end.toInt ≤ (1600 : Int)) (g74_4 : ((m74_i_faultKind.toInt = (0 : Int)) ∧ ((tk m74_i_faultKind.toInt) = (0 : Int))) ∨ ((m74_i_faultKind.toInt ≠ (0 : Int)) ∧ ((tk m74_i_faultKind.toInt) = (1 : Int)))) (g74_5 : ((m74_i_token.toInt = (0 : Int)) ∧ ((tk m74_i_token.toInt) = (0 : Int))) ∨ ((m74_i_token.toInt ≠ (0 : Int)) ∧ ((tk m74_i_token.toInt) = (1 : Int)))) (gi74_end_lo : (0 : Int) ≤ m74_i_end.toInt) (gi74_end_hi : m74_i_end.toInt ≤ i_taped.toInt) (gi74_at_lo : (0 : Int) ≤ m74_i_at.toInt) (gi74_fk_lo : (0 : Int) ≤ m74_i_faultKind.toInt) (gi74_tunes_p : EB 0 5 m74_f_tunes) (gi74_houses_p : EB 0 4 m74_f_houses) (gi74_many_p : EB 0 8 m74_f_many) (gi74_hums_p : EB 0 100 m74_f_hums) (gi74_told_p : EB 0 15 m74_f_told) (gi74_M7 : M7 i_bank m74_f_tunes m74_f_many) (gi74_RU : RU i_bank m74_f_told m74_f_ruleFrom m74_f_ruleTo m74_f_code) (gr74_0 : m74_i_faultKind.toInt = 0 → M7 x11 m74_f_tunes m74_f_many) (gr74_1 : m74_i_faultKind.toInt = 0 → RU x11 m74_f_told m74_f_ruleFrom m74_f_ruleTo m74_f_code) (gr74_2 : (¬ BT (m74_f_told (x11.toInt).toNat) 1 → m74_i_codes.toInt = 560 * x11.toInt)) (hP : va_P (dC, dI) vwCl (WM r ct 0 i_taped m74_i_faultKind m74_i_at m74_i_end m74_i_token m74_i_number i_bank x11 m74_i_codes m74_i_within m74_i_piled m74_i_unitsInRule i_askHouse i_askTune i_acts i_undone i_laid i_knowns i_time m20_f_text m74_f_tunes m74_f_houses m74_f_hums m74_f_told m74_f_many m74_f_ruleFrom m74_f_ruleTo m74_f_code m74_f_eWhat m74_f_eSign f_all f_kept f_was f_sTune f_boxAll m74_J m74_L) H74) (hD : va_D A (WM r ct 0 i_taped m74_i_faultKind m74_i_at m74_i_end m74_i_token m74_i_number i_bank x11 m74_i_codes m74_i_within m74_i_piled m74_i_unitsInRule i_askHouse i_askTune i_acts i_undone i_laid i_knowns i_time m20_f_text m74_f_tunes m74_f_houses m74_f_hums m74_f_told m74_f_many m74_f_ruleFrom m74_f_ruleTo m74_f_code m74_f_eWhat m74_f_eSign f_all f_kept f_was f_sTune f_boxAll m74_J m74_L)) (hS : va_S A s.heap H74 locs) (hl : lv_has ls 2 [(0, .ref (r 0)), (1, .int y20_1)]) (hM : (tk m74_i_token.toInt) + 2 * i_taped.toInt + -2 * m74_i_end.toInt + -1000000 * (tk m74_i_faultKind.toInt) + 1000000 < (N74 : Int)), W p l e { frames := 16, cells := 0, slots := 0, locals := 529 } s m ([.ref (r 0)] : List Value).toArray below meth c0 H74 locs 0 0 Q (F0 m 74 ls []) := by
          intro N74
          induction N74 with
          | zero =>
            intro m74_i_faultKind m74_i_at m74_i_end m74_i_token m74_i_number m74_i_codes m74_i_within m74_i_piled m74_i_unitsInRule m74_f_tunes m74_f_houses m74_f_hums m74_f_told m74_f_many m74_f_ruleFrom m74_f_ruleTo m74_f_code m74_f_eWhat m74_f_eSign m74_J m74_L H74 locs ls g74_0 g74_1 g74_2 g74_3 g74_4 g74_5 gi74_end_lo gi74_end_hi gi74_at_lo gi74_fk_lo gi74_tunes_p gi74_houses_p gi74_many_p gi74_hums_p gi74_told_p gi74_M7 gi74_RU gr74_0 gr74_1 gr74_2 hP hD hS hl hM
            exact ((ob_828 hM g74_4 g74_5 gi74_end_hi)).elim
          | succ N74 ih74 =>
            intro m74_i_faultKind m74_i_at m74_i_end m74_i_token m74_i_number m74_i_codes m74_i_within m74_i_piled m74_i_unitsInRule m74_f_tunes m74_f_houses m74_f_hums m74_f_told m74_f_many m74_f_ruleFrom m74_f_ruleTo m74_f_code m74_f_eWhat m74_f_eSign m74_J m74_L H74 locs ls g74_0 g74_1 g74_2 g74_3 g74_4 g74_5 gi74_end_lo gi74_end_hi gi74_at_lo gi74_fk_lo gi74_tunes_p gi74_houses_p gi74_many_p gi74_hums_p gi74_told_p gi74_M7 gi74_RU gr74_0 gr74_1 gr74_2 hP hD hS hl hM
            have hM74 := msucc hM
            refine lv_aload_n hx hb dX9_lane_74 rfl (lv_at hl 0 rfl) ?_
            refine va_calli (va_runV (As := []) (rest := []) ⟨hx, hb, hml, hown, hG⟩ (kX9_isGood l dC dI r ct 0 i_taped m74_i_faultKind m74_i_at m74_i_end m74_i_token m74_i_number i_bank x11 m74_i_codes m74_i_within m74_i_piled m74_i_unitsInRule i_askHouse i_askTune i_acts i_undone i_laid i_knowns i_time m20_f_text m74_f_tunes m74_f_houses m74_f_hums m74_f_told m74_f_many m74_f_ruleFrom m74_f_ruleTo m74_f_code m74_f_eWhat m74_f_eSign f_all f_kept f_was f_sTune f_boxAll m74_J m74_L H74.size ⟨(ob_1 zc_0), (ob_822 zc_0), (ob_139 ie0), (ob_176 ie1), ie4, ie5, (ob_829 ie4 ie5 f22 f12), (ob_830 ie4 ie5 f22 f12), ie8, ie9, ie10, ie11, ie12, ie13, gi74_end_lo, gi74_end_hi, gi74_at_lo, gi74_fk_lo, ie18, ie19, ie20, gi74_tunes_p, gi74_houses_p, gi74_many_p, gi74_hums_p, gi74_told_p, ie26, ie27, ie28, ie29, ie30, gi74_M7, gi74_RU⟩) (cwV 0 hG (goodV gw1401 gw1403 gw61 gw138 gw1404) rfl rfl rfl hd_X9_isGood ⟨(Nat.le_of_ble_eq_true rfl), (Nat.le_of_ble_eq_true rfl)⟩) ⟨fbR, va_recv hK hP (ci := 8) (q0 := 0) rfl rfl, pR_in hP hK⟩ rfl rfl hl.1 rfl (lv_room (Nat.le_of_ble_eq_true rfl)) dX9_lane_75 ⟨(Nat.le_of_ble_eq_true rfl), (Nat.le_of_ble_eq_true rfl)⟩) hS (fun q hq h => absurd hq (Nat.not_lt.mpr h)) (fun q h => hA q (Nat.le_trans hS.1 h)) (fun r_107 u_ t_ H106 locs ht hvm hw hB hz1 hk1 hS => ?_)
            subst hw
            have hP := wk hP hk1
            obtain ⟨f108, f109, f110⟩ := hB
            refine lv_if_eq (tgt := 95) hx hb dX9_lane_78 (by decide) (fun c_111 => ?_) (fun c_111 => ?_)
            · skip
              have f112 : r_107.toInt = 0 := qi_eq c_111 rfl zc_0
              have f113 : m74_i_faultKind.toInt ≠ (0 : Int) := (ob_224 f108 f112)
              have f114 : (1 : Int) ≤ m74_i_faultKind.toInt := (ob_597 g74_0 f113)
              have f115 : r_107.toInt = (0 : Int) := (ob_226 f109 f110 f112)
              refine lv_aload_n hx hb dX9_lane_95 rfl (lv_at hl 0 rfl) ?_
              refine va_calli (va_runV (As := []) (rest := []) ⟨hx, hb, hml, hown, hG⟩ (kX9_isGood l dC dI r ct 0 i_taped m74_i_faultKind m74_i_at m74_i_end m74_i_token m74_i_number i_bank x11 m74_i_codes m74_i_within m74_i_piled m74_i_unitsInRule i_askHouse i_askTune i_acts i_undone i_laid i_knowns i_time m20_f_text m74_f_tunes m74_f_houses m74_f_hums m74_f_told m74_f_many m74_f_ruleFrom m74_f_ruleTo m74_f_code m74_f_eWhat m74_f_eSign f_all f_kept f_was f_sTune f_boxAll m74_J m74_L H106.size ⟨(ob_1 zc_0), (ob_822 zc_0), (ob_139 ie0), (ob_176 ie1), ie4, ie5, (ob_829 ie4 ie5 f22 f12), (ob_830 ie4 ie5 f22 f12), ie8, ie9, ie10, ie11, ie12, ie13, gi74_end_lo, gi74_end_hi, gi74_at_lo, gi74_fk_lo, ie18, ie19, ie20, gi74_tunes_p, gi74_houses_p, gi74_many_p, gi74_hums_p, gi74_told_p, ie26, ie27, ie28, ie29, ie30, gi74_M7, gi74_RU⟩) (cwV 0 hG (goodV gw1401 gw1403 gw61 gw138 gw1404) rfl rfl rfl hd_X9_isGood ⟨(Nat.le_of_ble_eq_true rfl), (Nat.le_of_ble_eq_true rfl)⟩) ⟨fbR, va_recv hK hP (ci := 8) (q0 := 0) rfl rfl, pR_in hP hK⟩ rfl rfl hl.1 rfl (lv_room (Nat.le_of_ble_eq_true rfl)) dX9_lane_96 ⟨(Nat.le_of_ble_eq_true rfl), (Nat.le_of_ble_eq_true rfl)⟩) hS (fun q hq h => absurd hq (Nat.not_lt.mpr h)) (fun q h => hA q (Nat.le_trans hS.1 h)) (fun r_117 u_ t_ H116 locs ht hvm hw hB hz1 hk1 hS => ?_)
              subst hw
              have hP := wk hP hk1
              obtain ⟨f118, f119, f120⟩ := hB
              refine lv_if_ne (tgt := 104) hx hb dX9_lane_99 (by decide) (fun c_121 => ((ob_831 (qi_ne c_121 rfl zc_0) f113 f118)).elim) (fun c_121 => ?_)
              have f122 : r_117.toInt = 0 := qi_eq c_121 rfl zc_0
              have f123 : m74_i_faultKind.toInt ≠ (0 : Int) := (ob_232 g74_0 f114)
              have f124 : (1 : Int) ≤ m74_i_faultKind.toInt := (ob_217 g74_0 f114)
              have f125 : r_117.toInt = (0 : Int) := (ob_226 f119 f120 f122)
              refine lv_iconst (v := (-1)) hx hb dX9_lane_102 (by decide) ?_
              rw [hQ]
              exact W.iret (v := (-1)) hx hb hr (fun t ht hW => ⟨⟨(-1), (-1), rfl, rfl, ⟨0, i_taped, m74_i_faultKind, m74_i_at, m74_i_end, m74_i_token, m74_i_number, i_bank, x11, m74_i_codes, m74_i_within, m74_i_piled, m74_i_unitsInRule, i_acts, i_undone, i_laid, i_knowns, m20_f_text, m74_f_tunes, m74_f_houses, m74_f_hums, m74_f_told, m74_f_many, m74_f_ruleFrom, m74_f_ruleTo, m74_f_code, m74_f_eWhat, m74_f_eSign, f_all, m74_J, m74_L, by rw [ht]; exact hP, hD, ⟨(ob_1 zc_0), (ob_822 zc_0), (ob_139 ie0), (ob_176 ie1), ie4, ie5, (ob_829 ie4 ie5 f22 f12), (ob_830 ie4 ie5 f22 f12), ie8, ie9, ie10, ie11, ie12, ie13, gi74_end_lo, gi74_end_hi, gi74_at_lo, gi74_fk_lo, ie18, ie19, ie20, gi74_tunes_p, gi74_houses_p, gi74_many_p, gi74_hums_p, gi74_told_p, ie26, ie27, ie28, ie29, ie30, gi74_M7, gi74_RU⟩⟩⟩, hS.F ht⟩) hS.2.2 dX9_lane_103
            · skip
              have f126 : r_107.toInt ≠ 0 := qi_ne c_111 rfl zc_0
              have f127 : m74_i_faultKind.toInt = (0 : Int) := (ob_219 f108 f126)
              have f128 : r_107.toInt = (1 : Int) := (ob_220 f108 f126)
              have f129 : (1 : Int) ≤ r_107.toInt := (ob_162 f109 f110 f128)
              refine lv_aload_n hx hb dX9_lane_81 rfl (lv_at hl 0 rfl) ?_
              refine gM_X9_191_0 hx hb hG hown hK hP dX9_lane_82 ?_
              refine lv_if_eq (tgt := 95) hx hb dX9_lane_85 (by decide) (fun c_130 => ?_) (fun c_130 => ?_)
              · skip
                have f131 : m74_i_token.toInt = 0 := qi_eq c_130 rfl zc_0
                have f132 : m74_i_token.toInt = (0 : Int) := (ob_25 f131)
                have f133 : (tk m74_i_token.toInt) = (0 : Int) := (ob_832 g74_5 f131)
                refine lv_aload_n hx hb dX9_lane_95 rfl (lv_at hl 0 rfl) ?_
                refine va_calli (va_runV (As := []) (rest := []) ⟨hx, hb, hml, hown, hG⟩ (kX9_isGood l dC dI r ct 0 i_taped m74_i_faultKind m74_i_at m74_i_end m74_i_token m74_i_number i_bank x11 m74_i_codes m74_i_within m74_i_piled m74_i_unitsInRule i_askHouse i_askTune i_acts i_undone i_laid i_knowns i_time m20_f_text m74_f_tunes m74_f_houses m74_f_hums m74_f_told m74_f_many m74_f_ruleFrom m74_f_ruleTo m74_f_code m74_f_eWhat m74_f_eSign f_all f_kept f_was f_sTune f_boxAll m74_J m74_L H106.size ⟨(ob_1 zc_0), (ob_822 zc_0), (ob_139 ie0), (ob_176 ie1), ie4, ie5, (ob_829 ie4 ie5 f22 f12), (ob_830 ie4 ie5 f22 f12), ie8, ie9, ie10, ie11, ie12, ie13, gi74_end_lo, gi74_end_hi, gi74_at_lo, gi74_fk_lo, ie18, ie19, ie20, gi74_tunes_p, gi74_houses_p, gi74_many_p, gi74_hums_p, gi74_told_p, ie26, ie27, ie28, ie29, ie30, gi74_M7, gi74_RU⟩) (cwV 0 hG (goodV gw1401 gw1403 gw61 gw138 gw1404) rfl rfl rfl hd_X9_isGood ⟨(Nat.le_of_ble_eq_true rfl), (Nat.le_of_ble_eq_true rfl)⟩) ⟨fbR, va_recv hK hP (ci := 8) (q0 := 0) rfl rfl, pR_in hP hK⟩ rfl rfl hl.1 rfl (lv_room (Nat.le_of_ble_eq_true rfl)) dX9_lane_96 ⟨(Nat.le_of_ble_eq_true rfl), (Nat.le_of_ble_eq_true rfl)⟩) hS (fun q hq h => absurd hq (Nat.not_lt.mpr h)) (fun q h => hA q (Nat.le_trans hS.1 h)) (fun r_135 u_ t_ H134 locs ht hvm hw hB hz1 hk1 hS => ?_)
                subst hw
                have hP := wk hP hk1
                obtain ⟨f136, f137, f138⟩ := hB
                refine lv_if_ne (tgt := 104) hx hb dX9_lane_99 (by decide) (fun c_139 => ?_) (fun c_139 => ((ob_228 (qi_eq c_139 rfl zc_0) f127 f136)).elim)
                have f140 : r_135.toInt ≠ 0 := qi_ne c_139 rfl zc_0
                have f141 : m74_i_faultKind.toInt = (0 : Int) := (ob_229 g74_0 f127)
                have f142 : r_135.toInt = (1 : Int) := (ob_220 f136 f140)
                have f143 : (1 : Int) ≤ r_135.toInt := (ob_162 f137 f138 f142)
                refine lv_aload_n hx hb dX9_lane_104 rfl (lv_at hl 0 rfl) ?_
                refine lv_aload_n hx hb dX9_lane_105 rfl (lv_at hl 0 rfl) ?_
                refine gM_X9_240_0 hx hb hG hown hK hP dX9_lane_106 ?_
                refine pM_X9_249_0 hx hb hG hown hK hP hD hS dX9_lane_109 (fun H144 locs hP hD hS => ?_)
                have hm145 : M7 x11 m74_f_tunes m74_f_many := (fun h => gr74_0 h) (ob_833 f127)
                have hr146 : RU x11 m74_f_told m74_f_ruleFrom m74_f_ruleTo m74_f_code := (fun h => gr74_1 h) (ob_833 f127)
                refine lv_aload_n hx hb dX9_lane_112 rfl (lv_at hl 0 rfl) ?_
                have hFc := frA hD hS hA
                refine va_callv (va_runV (As := []) (rest := []) ⟨hx, hb, hml, hown, hG⟩ (kX9_startAnew l dC dI r ct 0 i_taped m74_i_faultKind m74_i_at m74_i_end m74_i_token m74_i_number x11 x11 m74_i_codes m74_i_within m74_i_piled m74_i_unitsInRule i_askHouse i_askTune i_acts i_undone i_laid i_knowns i_time m20_f_text m74_f_tunes m74_f_houses m74_f_hums m74_f_told m74_f_many m74_f_ruleFrom m74_f_ruleTo m74_f_code m74_f_eWhat m74_f_eSign f_all f_kept f_was f_sTune f_boxAll m74_J m74_L H144.size ⟨(ob_1 zc_0), (ob_822 zc_0), (ob_139 ie0), (ob_176 ie1), (ob_829 ie4 ie5 f22 f12), (ob_830 ie4 ie5 f22 f12), (ob_829 ie4 ie5 f22 f12), (ob_830 ie4 ie5 f22 f12), ie8, ie9, ie10, ie11, ie12, ie13, gi74_end_lo, gi74_end_hi, gi74_at_lo, gi74_fk_lo, ie18, ie19, ie20, gi74_tunes_p, gi74_houses_p, gi74_many_p, gi74_hums_p, gi74_told_p, ie26, ie27, ie28, ie29, ie30, hm145, hr146⟩) (cwV 0 hG (goodV gw1159 gw1161 gw56 gw138 gw1162) rfl rfl rfl hd_X9_startAnew ⟨(Nat.le_of_ble_eq_true rfl), (Nat.le_of_ble_eq_true rfl)⟩) ⟨fbW, va_recv hK hP (ci := 8) (q0 := 0) rfl rfl, pW_in hP hK hD⟩ rfl rfl hl.1 rfl (lv_room (Nat.le_of_ble_eq_true rfl)) dX9_lane_113 ⟨(Nat.le_of_ble_eq_true rfl), (Nat.le_of_ble_eq_true rfl)⟩) hS (fun q _ h => hFc q h) hFc (fun _ t_ H147 locs ht hvm hw hB hz1 hk1 hS => ?_)
                obtain ⟨x149, x150, x151, x152, z153, J154, hP1, hD1, hI155⟩ := hB
                rw [ht] at hP1
                have hP := hP1
                have hD := dW hFc hD1
                obtain ⟨im156, im157, im158, im159, im160, im161, im162, im163, im164, im165, im166, im167, im168, im169, im170, im171, im172, im173, im174, im175, im176, im177, im178, im179, im180, im181, im182, im183, im184, im185, im186, im187, im188⟩ := id hI155
                refine lv_aload_n hx hb dX9_lane_116 rfl (lv_at hl 0 rfl) ?_
                refine gM_X9_27_0 hx hb hG hown hK hP dX9_lane_117 ?_
                refine lv_aload_n hx hb dX9_lane_120 rfl (lv_at hl 0 rfl) ?_
                refine gM_X9_249_0 hx hb hG hown hK hP dX9_lane_121 ?_
                refine ldM_5 (mm := -1 * i_bank.toInt + 1) hx hb hK hP f12 (ob_834 ie4 ie5 f22 f12) (ob_835 ie4 ie5 f22 f12) dX9_lane_124 ?_
                have f189 : 0 ≤ (m74_f_houses (-1 * i_bank.toInt + 1).toNat).toInt ∧ (m74_f_houses (-1 * i_bank.toInt + 1).toNat).toInt ≤ 4 := gi74_houses_p (-1 * i_bank.toInt + 1)
                rw [hQ]
                exact W.iret (v := (m74_f_houses (-1 * i_bank.toInt + 1).toNat)) hx hb hr (fun t ht hW => ⟨⟨(m74_f_houses (-1 * i_bank.toInt + 1).toNat), (m74_f_houses (-1 * i_bank.toInt + 1).toNat), rfl, rfl, ⟨0, i_taped, m74_i_faultKind, m74_i_at, m74_i_end, m74_i_token, m74_i_number, x11, x11, m74_i_codes, m74_i_within, m74_i_piled, m74_i_unitsInRule, x149, x150, x151, x152, m20_f_text, m74_f_tunes, m74_f_houses, m74_f_hums, m74_f_told, m74_f_many, m74_f_ruleFrom, m74_f_ruleTo, m74_f_code, m74_f_eWhat, m74_f_eSign, z153, J154, m74_L, by rw [ht]; exact hP, hD, hI155⟩⟩, hS.F ht⟩) hS.2.2 dX9_lane_125
              · skip
                have f190 : m74_i_token.toInt ≠ 0 := qi_ne c_130 rfl zc_0
                have f191 : m74_i_token.toInt ≠ (0 : Int) := (ob_836 g74_5 f190)
                have f192 : (tk m74_i_token.toInt) = (1 : Int) := (ob_837 g74_5 f190)
                refine lv_aload_n hx hb dX9_lane_88 rfl (lv_at hl 0 rfl) ?_
                have hFc := frA hD hS hA
                refine va_callv (va_runV (As := []) (rest := []) ⟨hx, hb, hml, hown, hG⟩ (kX9_readLine l dC dI r ct 0 i_taped m74_i_faultKind m74_i_at m74_i_end m74_i_token m74_i_number i_bank x11 m74_i_codes m74_i_within m74_i_piled m74_i_unitsInRule i_askHouse i_askTune i_acts i_undone i_laid i_knowns i_time m20_f_text m74_f_tunes m74_f_houses m74_f_hums m74_f_told m74_f_many m74_f_ruleFrom m74_f_ruleTo m74_f_code m74_f_eWhat m74_f_eSign f_all f_kept f_was f_sTune f_boxAll m74_J m74_L H106.size ⟨(ob_1 zc_0), (ob_822 zc_0), (ob_139 ie0), (ob_176 ie1), ie4, ie5, (ob_829 ie4 ie5 f22 f12), (ob_830 ie4 ie5 f22 f12), ie8, ie9, ie10, ie11, ie12, ie13, gi74_end_lo, gi74_end_hi, gi74_at_lo, gi74_fk_lo, ie18, ie19, ie20, gi74_tunes_p, gi74_houses_p, gi74_many_p, gi74_hums_p, gi74_told_p, ie26, ie27, ie28, ie29, ie30, gi74_M7, gi74_RU⟩ (ob_821 f12) (ob_229 g74_0 f127) (ob_838 g74_5 f190 f191) (fun h => gr74_0 h) (fun h => gr74_1 h) gr74_2) (cwV 0 hG (goodV gw1405 gw1407 gw62 gw138 gw1408) rfl rfl rfl hd_X9_readLine ⟨(Nat.le_of_ble_eq_true rfl), (Nat.le_of_ble_eq_true rfl)⟩) ⟨fbW, va_recv hK hP (ci := 8) (q0 := 0) rfl rfl, pW_in hP hK hD⟩ rfl rfl hl.1 rfl (lv_room (Nat.le_of_ble_eq_true rfl)) dX9_lane_89 ⟨(Nat.le_of_ble_eq_true rfl), (Nat.le_of_ble_eq_true rfl)⟩) hS (fun q _ h => hFc q h) hFc (fun _ t_ H193 locs ht hvm hw hB hz1 hk1 hS => ?_)
                obtain ⟨x195, x196, x197, x198, x199, x200, x201, x202, x203, z204, z205, z206, z207, z208, z209, z210, z211, z212, z213, J214, L215, hP1, hD1, hI221, f216, f217, f218, f219, f220⟩ := hB
                rw [ht] at hP1
                have hP := hP1
                have hD := dW hFc hD1
                obtain ⟨im222, im223, im224, im225, im226, im227, im228, im229, im230, im231, im232, im233, im234, im235, im236, im237, im238, im239, im240, im241, im242, im243, im244, im245, im246, im247, im248, im249, im250, im251, im252, im253, im254⟩ := id hI221
                have f255 : (x195.toInt = 0 ∧ (tk x195.toInt) = 0) ∨ (x195.toInt ≠ 0 ∧ (tk x195.toInt) = 1) := tk_or _
                have f256 : (x198.toInt = 0 ∧ (tk x198.toInt) = 0) ∨ (x198.toInt ≠ 0 ∧ (tk x198.toInt) = 1) := tk_or _
                refine lv_goto (tgt := 74) hx hb dX9_lane_92 (by decide) ?_
                exact ih74 x195 x196 x197 x198 x199 x200 x201 x202 x203 z204 z205 z206 z207 z208 z209 z210 z211 z212 z213 J214 L215 H193 _ _ (ob_139 im239) (ob_139 im238) (ob_616 im236 im237 f216) (ob_206 ie1 im237) (ob_839 im239 f217 f255) (ob_840 f217 f256) im236 im237 im238 im239 im243 im244 im245 im246 im247 im253 im254 (fun h => f218 h) (fun h => f219 h) f220 hP hD hS (lv_sub hl [0, 1] rfl) (ob_841 g74_4 g74_5 hM74 f127 f190 f216 f217 f255 f256)
        exact L74 ((tk x64.toInt) + 2 * i_taped.toInt + -2 * x63.toInt + -1000000 * (tk (0 : Int32).toInt) + 1000000 + 1).toNat 0 x62 x63 x64 x65 x16 i_within i_piled i_unitsInRule z17 z18 z19 z20 f_many f_ruleFrom f_ruleTo f_code f_eWhat f_eSign J21 L66 H60 _ _ (ob_1 zc_0) (ob_205 im87 f68) (ob_139 im85) (ob_206 ie1 im86) (ob_842 f104 zc_0) (ob_843 f69 f105 zc_0) im85 im86 im87 (ob_1 zc_0) im48 im49 ie23 im51 im52 im58 im59 (fun _ => f23) (fun _ => f24) f25 hP hD hS (lv_sub hl [0, 1] rfl) (mlt (ob_844 im86 f104 f105 zc_0))
      · skip
        have f257 : y20_1.toInt < i_taped.toInt := qi_nle c_7 rfl rfl
        refine lv_aload_n hx hb dX9_lane_28 rfl (lv_at hl 0 rfl) ?_
        refine gM_X9_13_0 hx hb hG hown hK hP dX9_lane_29 ?_
        refine lv_iload_n hx hb dX9_lane_32 rfl (lv_at hl 1 rfl) ?_
        refine lv_aload_n hx hb dX9_lane_33 rfl (lv_at hl 0 rfl) ?_
        refine gM_X9_7_0 hx hb hG hown hK hP dX9_lane_34 ?_
        refine lv_iload_n hx hb dX9_lane_37 rfl (lv_at hl 1 rfl) ?_
        refine ldM_1 (mm := y20_1.toInt) hx hb hK hP rfl (ob_350 g20_0) (ob_845 g20_1) dX9_lane_38 (fun x258 => ?_)
        refine stM_2 (mm := y20_1.toInt) hx hb hK hP hD hS rfl (ob_350 g20_0) (ob_5 ie1 f257) dX9_lane_39 (fun z260 H259 locs ez260 hP hD hS => ?_)
        obtain ⟨x261, ex261⟩ : ∃ y : Int32, y = y20_1 + Int32.ofInt 1 := ⟨_, rfl⟩
        have f262 : x261.toInt = y20_1.toInt + 1 := (ob_142 (qi_add ex261 rfl (by decide) (ob_140 g20_0) (ob_141 g20_1)))
        refine lv_iinc (v := x261) (lv' := [(1, .int x261), (0, .ref (r 0))]) hx hb dX9_lane_40 hl (k := 1) rfl ex261.symm (by decide) rfl (fun ls hl => ?_)
        refine lv_goto (tgt := 20) hx hb dX9_lane_43 (by decide) ?_
        exact ih20 x261 z260 H259 _ _ (ob_149 g20_0 f262) (ob_150 ie1 f257 f262) hP hD hS (lv_sub hl [1, 0] rfl) (ob_191 hM20 f262)
  exact L20 (-1 * (0 : Int32).toInt + 1600 + 1).toNat 0 f_text H6 _ _ (ob_1 zc_0) (ob_822 zc_0) hP hD hS (lv_sub hl [1, 0] rfl) (mlt (ob_846 zc_0))
