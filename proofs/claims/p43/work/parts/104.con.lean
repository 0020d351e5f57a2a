set_option maxHeartbeats 4000000 in
set_option maxRecDepth 100000 in
theorem kX9_rankHere (l : Launch) (dC : Nat → ClassId) (dI : Nat → Nat → Nat) (r : Nat → Nat) (ct : Nat → ClassId) (i_taped i_size i_faultKind i_at i_end i_token i_number i_bank i_rb i_codes i_within i_piled i_unitsInRule i_askHouse i_askTune i_acts i_undone i_laid i_knowns i_time : Int32) (f_text f_tunes f_houses f_hums f_told f_many f_ruleFrom f_ruleTo f_code f_eWhat f_eSign f_all f_kept f_was f_sTune f_boxAll : Nat → Int32) (J : Nat → Nat → Int32) (L : Nat → Nat → Int64) (sz : Nat) (hI : (IM i_taped i_size i_faultKind i_at i_end i_bank i_rb i_acts i_undone i_laid i_knowns i_time f_tunes f_houses f_hums f_told f_many f_ruleFrom f_ruleTo f_code f_all f_kept f_was f_sTune f_boxAll)) : Met l yX9_rankHere (.code yX9_rankHere cX9_rankHere 1 (some .int) :: GW) { frames := 6, cells := 0, slots := 0, locals := 222 } (va_Pc [.ref (r 0)] (pR (dC, dI) (WM r ct i_taped i_size i_faultKind i_at i_end i_token i_number i_bank i_rb i_codes i_within i_piled i_unitsInRule i_askHouse i_askTune i_acts i_undone i_laid i_knowns i_time f_text f_tunes f_houses f_hums f_told f_many f_ruleFrom f_ruleTo f_code f_eWhat f_eSign f_all f_kept f_was f_sTune f_boxAll J L) (TM ct) sz)) (va_Qi (fun (r0 : Int32) (u : Int32) => r0 = u) (fun (u : Int32) (t : State) => ((0 : Int) ≤ u.toInt) ∧ (u.toInt ≤ (6 : Int)) ∧ (u.toInt ≠ (3 : Int)) ∧ ((u.toInt = (0 : Int)) ∨ ((3 : Int) ≤ i_token.toInt)) ∧ (((4 : Int) ≤ u.toInt) → (((37 : Int) ≤ (sgz f_text i_size.toInt i_at.toInt)) ∧ ((sgz f_text i_size.toInt i_at.toInt) ≤ (62 : Int))))) (fun q => sz ≤ q)) 0 0 (fun q => sz ≤ q) := by
  refine Met.ofW (cc := cX9_rankHere) (maxL := 1) (ret := (some .int)) (by decide) rfl ?_
  intro p e s m args below meth c0 s₁ B hml hv
  obtain ⟨rfl, hsz, hP, hK⟩ := hv
  have hx := B.exec
  have hb := B.bytes
  have hr := B.returns
  have hts := atoms_spec (ws := .code yX9_rankHere cX9_rankHere 1 (some .int) :: GW) B.pre
  have hG : ∀ w ∈ GW, w.before _ s = true := fun w h => hts w (List.mem_cons_of_mem _ h)
  have hown : s.vm.findClass RX9 = some m.cls := findClass_of_methodNamed B.named
  subst hsz
  have hS : va_S (fun q => s.heap.size ≤ q) s.heap s.heap [] := va_S.rf
  have hP : va_P (dC, dI) vwCl (WM r ct i_taped i_size i_faultKind i_at i_end i_token i_number i_bank i_rb i_codes i_within i_piled i_unitsInRule i_askHouse i_askTune i_acts i_undone i_laid i_knowns i_time f_text f_tunes f_houses f_hums f_told f_many f_ruleFrom f_ruleTo f_code f_eWhat f_eSign f_all f_kept f_was f_sTune f_boxAll J L) s.heap := hP
  have hl := lv_entry ([.ref (r 0)]) (n := 1) (Nat.le_of_ble_eq_true rfl)
  rw [lg_entry_eq]
  generalize (lg_sl ([.ref (r 0)]) ++ List.replicate (1 - (lg_sl ([.ref (r 0)])).length) Slot.unset).toArray = ls at hl ⊢
  have hl : lv_has ls 1 [(0, .ref (r 0))] := hl
  refine nameQ (fun Q hQ => ?_)
  obtain ⟨ie0, ie1, ie2, ie3, ie4, ie5, ie6, ie7, ie8, ie9, ie10, ie11, ie12, ie13, ie14, ie15, ie16, ie17, ie18, ie19, ie20, ie21, ie22, ie23, ie24, ie25, ie26, ie27, ie28, ie29, ie30, ie31, ie32⟩ := id hI
  have f1 : 0 ≤ (f_tunes (i_bank.toInt).toNat).toInt ∧ (f_tunes (i_bank.toInt).toNat).toInt ≤ 5 := ie21 (i_bank.toInt)
  have f2 : 0 ≤ (f_houses (i_bank.toInt).toNat).toInt ∧ (f_houses (i_bank.toInt).toNat).toInt ≤ 4 := ie22 (i_bank.toInt)
  refine lv_aload_n hx hb dX9_rankHere_0 rfl (lv_at hl 0 rfl) ?_
  refine lv_ldc2 (v := 6385252) hx hb hown (hG _ gw1393) dX9_rankHere_1 ?_
  refine va_calli (va_runV (As := [.long (6385252 : Int64)]) (rest := []) ⟨hx, hb, hml, hown, hG⟩ (kX9_isWord l dC dI r ct i_taped i_size i_faultKind i_at i_end i_token i_number i_bank i_rb i_codes i_within i_piled i_unitsInRule i_askHouse i_askTune i_acts i_undone i_laid i_knowns i_time f_text f_tunes f_houses f_hums f_told f_many f_ruleFrom f_ruleTo f_code f_eWhat f_eSign f_all f_kept f_was f_sTune f_boxAll J L (6385252 : Int64) s.heap.size hI) (cwV 1 hG (goodV gw1413 gw1415 gw64 gw138 gw1416) rfl rfl rfl hd_X9_isWord ⟨(Nat.le_of_ble_eq_true rfl), (Nat.le_of_ble_eq_true rfl)⟩) ⟨fbR, va_recv hK hP (ci := 8) (q0 := 0) rfl rfl, pR_in hP hK⟩ rfl rfl hl.1 rfl (lv_room (Nat.le_of_ble_eq_true rfl)) dX9_rankHere_4 ⟨(Nat.le_of_ble_eq_true rfl), (Nat.le_of_ble_eq_true rfl)⟩) hS (fun q hq h => absurd hq (Nat.not_lt.mpr h)) (fun q h => Nat.le_trans hS.1 h) (fun r_4 u_ t_ H3 locs ht hvm hw hB hz1 hk1 hS => ?_)
  subst hw
  have hP := wk hP hk1
  obtain ⟨f5, f6, f7⟩ := hB
  refine lv_if_eq (tgt := 12) hx hb dX9_rankHere_7 (by decide) (fun c_8 => ?_) (fun c_8 => ?_)
  · skip
    have f9 : r_4.toInt = 0 := qi_eq c_8 rfl zc_0
    refine lv_aload_n hx hb dX9_rankHere_12 rfl (lv_at hl 0 rfl) ?_
    refine lv_ldc2 (v := 28530) hx hb hown (hG _ gw1392) dX9_rankHere_13 ?_
    refine va_calli (va_runV (As := [.long (28530 : Int64)]) (rest := []) ⟨hx, hb, hml, hown, hG⟩ (kX9_isWord l dC dI r ct i_taped i_size i_faultKind i_at i_end i_token i_number i_bank i_rb i_codes i_within i_piled i_unitsInRule i_askHouse i_askTune i_acts i_undone i_laid i_knowns i_time f_text f_tunes f_houses f_hums f_told f_many f_ruleFrom f_ruleTo f_code f_eWhat f_eSign f_all f_kept f_was f_sTune f_boxAll J L (28530 : Int64) H3.size hI) (cwV 1 hG (goodV gw1413 gw1415 gw64 gw138 gw1416) rfl rfl rfl hd_X9_isWord ⟨(Nat.le_of_ble_eq_true rfl), (Nat.le_of_ble_eq_true rfl)⟩) ⟨fbR, va_recv hK hP (ci := 8) (q0 := 0) rfl rfl, pR_in hP hK⟩ rfl rfl hl.1 rfl (lv_room (Nat.le_of_ble_eq_true rfl)) dX9_rankHere_16 ⟨(Nat.le_of_ble_eq_true rfl), (Nat.le_of_ble_eq_true rfl)⟩) hS (fun q hq h => absurd hq (Nat.not_lt.mpr h)) (fun q h => Nat.le_trans hS.1 h) (fun r_11 u_ t_ H10 locs ht hvm hw hB hz1 hk1 hS => ?_)
    subst hw
    have hP := wk hP hk1
    obtain ⟨f12, f13, f14⟩ := hB
    refine lv_if_eq (tgt := 24) hx hb dX9_rankHere_19 (by decide) (fun c_15 => ?_) (fun c_15 => ?_)
    · skip
      have f16 : r_11.toInt = 0 := qi_eq c_15 rfl zc_0
      refine lv_aload_n hx hb dX9_rankHere_24 rfl (lv_at hl 0 rfl) ?_
      refine lv_bipush (v := 60) hx hb dX9_rankHere_25 (by decide) ?_
      refine va_calli (va_runV (As := [.int 60]) (rest := []) ⟨hx, hb, hml, hown, hG⟩ (kX9_isSignHere l dC dI r ct i_taped i_size i_faultKind i_at i_end i_token i_number i_bank i_rb i_codes i_within i_piled i_unitsInRule i_askHouse i_askTune i_acts i_undone i_laid i_knowns i_time f_text f_tunes f_houses f_hums f_told f_many f_ruleFrom f_ruleTo f_code f_eWhat f_eSign f_all f_kept f_was f_sTune f_boxAll J L 60 H10.size hI) (cwV 1 hG (goodV gw1476 gw1478 gw79 gw138 gw1479) rfl rfl rfl hd_X9_isSignHere ⟨(Nat.le_of_ble_eq_true rfl), (Nat.le_of_ble_eq_true rfl)⟩) ⟨fbR, va_recv hK hP (ci := 8) (q0 := 0) rfl rfl, pR_in hP hK⟩ rfl rfl hl.1 rfl (lv_room (Nat.le_of_ble_eq_true rfl)) dX9_rankHere_27 ⟨(Nat.le_of_ble_eq_true rfl), (Nat.le_of_ble_eq_true rfl)⟩) hS (fun q hq h => absurd hq (Nat.not_lt.mpr h)) (fun q h => Nat.le_trans hS.1 h) (fun r_18 u_ t_ H17 locs ht hvm hw hB hz1 hk1 hS => ?_)
      subst hw
      have hP := wk hP hk1
      obtain ⟨f19, f20, f21⟩ := hB
      refine lv_if_ne (tgt := 51) hx hb dX9_rankHere_30 (by decide) (fun c_22 => ?_) (fun c_22 => ?_)
      · skip
        have f23 : r_18.toInt ≠ 0 := qi_ne c_22 rfl zc_0
        have f24 : i_token.toInt = (5 : Int) := (ob_414 f19 f23 zc_60)
        have f25 : (sgz f_text i_size.toInt i_at.toInt) = (60 : Int) := (ob_415 f19 f23 zc_60)
        have f26 : r_18.toInt = (1 : Int) := (ob_416 f19 f23 zc_60)
        have f27 : (1 : Int) ≤ r_18.toInt := (ob_162 f20 f21 f26)
        refine lv_iconst (v := 4) hx hb dX9_rankHere_51 (by decide) ?_
        rw [hQ]
        exact W.iret (v := 4) hx hb hr (fun t ht hW => ⟨⟨4, 4, rfl, rfl, ⟨(ob_417 zc_4), (ob_418 zc_4), (ob_360 zc_4), (ob_419 f24 zc_4), (ob_420 f25 zc_4)⟩⟩, hS.F ht⟩) hS.2.2 dX9_rankHere_52
      · skip
        have f28 : r_18.toInt = 0 := qi_eq c_22 rfl zc_0
        refine lv_aload_n hx hb dX9_rankHere_33 rfl (lv_at hl 0 rfl) ?_
        refine lv_bipush (v := 62) hx hb dX9_rankHere_34 (by decide) ?_
        refine va_calli (va_runV (As := [.int 62]) (rest := []) ⟨hx, hb, hml, hown, hG⟩ (kX9_isSignHere l dC dI r ct i_taped i_size i_faultKind i_at i_end i_token i_number i_bank i_rb i_codes i_within i_piled i_unitsInRule i_askHouse i_askTune i_acts i_undone i_laid i_knowns i_time f_text f_tunes f_houses f_hums f_told f_many f_ruleFrom f_ruleTo f_code f_eWhat f_eSign f_all f_kept f_was f_sTune f_boxAll J L 62 H17.size hI) (cwV 1 hG (goodV gw1476 gw1478 gw79 gw138 gw1479) rfl rfl rfl hd_X9_isSignHere ⟨(Nat.le_of_ble_eq_true rfl), (Nat.le_of_ble_eq_true rfl)⟩) ⟨fbR, va_recv hK hP (ci := 8) (q0 := 0) rfl rfl, pR_in hP hK⟩ rfl rfl hl.1 rfl (lv_room (Nat.le_of_ble_eq_true rfl)) dX9_rankHere_36 ⟨(Nat.le_of_ble_eq_true rfl), (Nat.le_of_ble_eq_true rfl)⟩) hS (fun q hq h => absurd hq (Nat.not_lt.mpr h)) (fun q h => Nat.le_trans hS.1 h) (fun r_30 u_ t_ H29 locs ht hvm hw hB hz1 hk1 hS => ?_)
        subst hw
        have hP := wk hP hk1
        obtain ⟨f31, f32, f33⟩ := hB
        refine lv_if_ne (tgt := 51) hx hb dX9_rankHere_39 (by decide) (fun c_34 => ?_) (fun c_34 => ?_)
        · skip
          have f35 : r_30.toInt ≠ 0 := qi_ne c_34 rfl zc_0
          have f36 : i_token.toInt = (5 : Int) := (ob_421 f31 f35 zc_62)
          have f37 : (sgz f_text i_size.toInt i_at.toInt) = (62 : Int) := (ob_422 f31 f35 zc_62)
          have f38 : r_30.toInt = (1 : Int) := (ob_423 f31 f35 zc_62)
          have f39 : (1 : Int) ≤ r_30.toInt := (ob_162 f32 f33 f38)
          refine lv_iconst (v := 4) hx hb dX9_rankHere_51 (by decide) ?_
          rw [hQ]
          exact W.iret (v := 4) hx hb hr (fun t ht hW => ⟨⟨4, 4, rfl, rfl, ⟨(ob_417 zc_4), (ob_418 zc_4), (ob_360 zc_4), (ob_419 f36 zc_4), (ob_424 f37 zc_4)⟩⟩, hS.F ht⟩) hS.2.2 dX9_rankHere_52
        · skip
          have f40 : r_30.toInt = 0 := qi_eq c_34 rfl zc_0
          refine lv_aload_n hx hb dX9_rankHere_42 rfl (lv_at hl 0 rfl) ?_
          refine lv_bipush (v := 61) hx hb dX9_rankHere_43 (by decide) ?_
          refine va_calli (va_runV (As := [.int 61]) (rest := []) ⟨hx, hb, hml, hown, hG⟩ (kX9_isSignHere l dC dI r ct i_taped i_size i_faultKind i_at i_end i_token i_number i_bank i_rb i_codes i_within i_piled i_unitsInRule i_askHouse i_askTune i_acts i_undone i_laid i_knowns i_time f_text f_tunes f_houses f_hums f_told f_many f_ruleFrom f_ruleTo f_code f_eWhat f_eSign f_all f_kept f_was f_sTune f_boxAll J L 61 H29.size hI) (cwV 1 hG (goodV gw1476 gw1478 gw79 gw138 gw1479) rfl rfl rfl hd_X9_isSignHere ⟨(Nat.le_of_ble_eq_true rfl), (Nat.le_of_ble_eq_true rfl)⟩) ⟨fbR, va_recv hK hP (ci := 8) (q0 := 0) rfl rfl, pR_in hP hK⟩ rfl rfl hl.1 rfl (lv_room (Nat.le_of_ble_eq_true rfl)) dX9_rankHere_45 ⟨(Nat.le_of_ble_eq_true rfl), (Nat.le_of_ble_eq_true rfl)⟩) hS (fun q hq h => absurd hq (Nat.not_lt.mpr h)) (fun q h => Nat.le_trans hS.1 h) (fun r_42 u_ t_ H41 locs ht hvm hw hB hz1 hk1 hS => ?_)
          subst hw
          have hP := wk hP hk1
          obtain ⟨f43, f44, f45⟩ := hB
          refine lv_if_eq (tgt := 53) hx hb dX9_rankHere_48 (by decide) (fun c_46 => ?_) (fun c_46 => ?_)
          · skip
            have f47 : r_42.toInt = 0 := qi_eq c_46 rfl zc_0
            refine lv_aload_n hx hb dX9_rankHere_53 rfl (lv_at hl 0 rfl) ?_
            refine lv_bipush (v := 43) hx hb dX9_rankHere_54 (by decide) ?_
            refine va_calli (va_runV (As := [.int 43]) (rest := []) ⟨hx, hb, hml, hown, hG⟩ (kX9_isSignHere l dC dI r ct i_taped i_size i_faultKind i_at i_end i_token i_number i_bank i_rb i_codes i_within i_piled i_unitsInRule i_askHouse i_askTune i_acts i_undone i_laid i_knowns i_time f_text f_tunes f_houses f_hums f_told f_many f_ruleFrom f_ruleTo f_code f_eWhat f_eSign f_all f_kept f_was f_sTune f_boxAll J L 43 H41.size hI) (cwV 1 hG (goodV gw1476 gw1478 gw79 gw138 gw1479) rfl rfl rfl hd_X9_isSignHere ⟨(Nat.le_of_ble_eq_true rfl), (Nat.le_of_ble_eq_true rfl)⟩) ⟨fbR, va_recv hK hP (ci := 8) (q0 := 0) rfl rfl, pR_in hP hK⟩ rfl rfl hl.1 rfl (lv_room (Nat.le_of_ble_eq_true rfl)) dX9_rankHere_56 ⟨(Nat.le_of_ble_eq_true rfl), (Nat.le_of_ble_eq_true rfl)⟩) hS (fun q hq h => absurd hq (Nat.not_lt.mpr h)) (fun q h => Nat.le_trans hS.1 h) (fun r_49 u_ t_ H48 locs ht hvm hw hB hz1 hk1 hS => ?_)
            subst hw
            have hP := wk hP hk1
            obtain ⟨f50, f51, f52⟩ := hB
            refine lv_if_ne (tgt := 71) hx hb dX9_rankHere_59 (by decide) (fun c_53 => ?_) (fun c_53 => ?_)
            · skip
              have f54 : r_49.toInt ≠ 0 := qi_ne c_53 rfl zc_0
              have f55 : i_token.toInt = (5 : Int) := (ob_425 f50 f54 zc_43)
              have f56 : (sgz f_text i_size.toInt i_at.toInt) = (43 : Int) := (ob_426 f50 f54 zc_43)
              have f57 : r_49.toInt = (1 : Int) := (ob_427 f50 f54 zc_43)
              have f58 : (1 : Int) ≤ r_49.toInt := (ob_162 f51 f52 f57)
              refine lv_iconst (v := 5) hx hb dX9_rankHere_71 (by decide) ?_
              rw [hQ]
              exact W.iret (v := 5) hx hb hr (fun t ht hW => ⟨⟨5, 5, rfl, rfl, ⟨(ob_428 zc_5), (ob_429 zc_5), (ob_430 zc_5), (ob_431 f55 zc_5), (ob_432 f56 zc_5)⟩⟩, hS.F ht⟩) hS.2.2 dX9_rankHere_72
            · skip
              have f59 : r_49.toInt = 0 := qi_eq c_53 rfl zc_0
              refine lv_aload_n hx hb dX9_rankHere_62 rfl (lv_at hl 0 rfl) ?_
              refine lv_bipush (v := 45) hx hb dX9_rankHere_63 (by decide) ?_
              refine va_calli (va_runV (As := [.int 45]) (rest := []) ⟨hx, hb, hml, hown, hG⟩ (kX9_isSignHere l dC dI r ct i_taped i_size i_faultKind i_at i_end i_token i_number i_bank i_rb i_codes i_within i_piled i_unitsInRule i_askHouse i_askTune i_acts i_undone i_laid i_knowns i_time f_text f_tunes f_houses f_hums f_told f_many f_ruleFrom f_ruleTo f_code f_eWhat f_eSign f_all f_kept f_was f_sTune f_boxAll J L 45 H48.size hI) (cwV 1 hG (goodV gw1476 gw1478 gw79 gw138 gw1479) rfl rfl rfl hd_X9_isSignHere ⟨(Nat.le_of_ble_eq_true rfl), (Nat.le_of_ble_eq_true rfl)⟩) ⟨fbR, va_recv hK hP (ci := 8) (q0 := 0) rfl rfl, pR_in hP hK⟩ rfl rfl hl.1 rfl (lv_room (Nat.le_of_ble_eq_true rfl)) dX9_rankHere_65 ⟨(Nat.le_of_ble_eq_true rfl), (Nat.le_of_ble_eq_true rfl)⟩) hS (fun q hq h => absurd hq (Nat.not_lt.mpr h)) (fun q h => Nat.le_trans hS.1 h) (fun r_61 u_ t_ H60 locs ht hvm hw hB hz1 hk1 hS => ?_)
              subst hw
              have hP := wk hP hk1
              obtain ⟨f62, f63, f64⟩ := hB
              refine lv_if_eq (tgt := 73) hx hb dX9_rankHere_68 (by decide) (fun c_65 => ?_) (fun c_65 => ?_)
              · skip
                have f66 : r_61.toInt = 0 := qi_eq c_65 rfl zc_0
                refine lv_aload_n hx hb dX9_rankHere_73 rfl (lv_at hl 0 rfl) ?_
                refine lv_bipush (v := 42) hx hb dX9_rankHere_74 (by decide) ?_
                refine va_calli (va_runV (As := [.int 42]) (rest := []) ⟨hx, hb, hml, hown, hG⟩ (kX9_isSignHere l dC dI r ct i_taped i_size i_faultKind i_at i_end i_token i_number i_bank i_rb i_codes i_within i_piled i_unitsInRule i_askHouse i_askTune i_acts i_undone i_laid i_knowns i_time f_text f_tunes f_houses f_hums f_told f_many f_ruleFrom f_ruleTo f_code f_eWhat f_eSign f_all f_kept f_was f_sTune f_boxAll J L 42 H60.size hI) (cwV 1 hG (goodV gw1476 gw1478 gw79 gw138 gw1479) rfl rfl rfl hd_X9_isSignHere ⟨(Nat.le_of_ble_eq_true rfl), (Nat.le_of_ble_eq_true rfl)⟩) ⟨fbR, va_recv hK hP (ci := 8) (q0 := 0) rfl rfl, pR_in hP hK⟩ rfl rfl hl.1 rfl (lv_room (Nat.le_of_ble_eq_true rfl)) dX9_rankHere_76 ⟨(Nat.le_of_ble_eq_true rfl), (Nat.le_of_ble_eq_true rfl)⟩) hS (fun q hq h => absurd hq (Nat.not_lt.mpr h)) (fun q h => Nat.le_trans hS.1 h) (fun r_68 u_ t_ H67 locs ht hvm hw hB hz1 hk1 hS => ?_)
                subst hw
                have hP := wk hP hk1
                obtain ⟨f69, f70, f71⟩ := hB
                refine lv_if_ne (tgt := 100) hx hb dX9_rankHere_79 (by decide) (fun c_72 => ?_) (fun c_72 => ?_)
                · skip
                  have f73 : r_68.toInt ≠ 0 := qi_ne c_72 rfl zc_0
                  have f74 : i_token.toInt = (5 : Int) := (ob_433 f69 f73 zc_42)
                  have f75 : (sgz f_text i_size.toInt i_at.toInt) = (42 : Int) := (ob_434 f69 f73 zc_42)
                  have f76 : r_68.toInt = (1 : Int) := (ob_435 f69 f73 zc_42)
                  have f77 : (1 : Int) ≤ r_68.toInt := (ob_162 f70 f71 f76)
                  refine lv_bipush (v := 6) hx hb dX9_rankHere_100 (by decide) ?_
                  refine lv_goto (tgt := 106) hx hb dX9_rankHere_102 (by decide) ?_
                  rw [hQ]
                  exact W.iret (v := 6) hx hb hr (fun t ht hW => ⟨⟨6, 6, rfl, rfl, ⟨(ob_436 zc_6), (ob_437 zc_6), (ob_438 zc_6), (ob_439 f74 zc_6), (ob_440 f75 zc_6)⟩⟩, hS.F ht⟩) hS.2.2 dX9_rankHere_106
                · skip
                  have f78 : r_68.toInt = 0 := qi_eq c_72 rfl zc_0
                  refine lv_aload_n hx hb dX9_rankHere_82 rfl (lv_at hl 0 rfl) ?_
                  refine lv_bipush (v := 47) hx hb dX9_rankHere_83 (by decide) ?_
                  refine va_calli (va_runV (As := [.int 47]) (rest := []) ⟨hx, hb, hml, hown, hG⟩ (kX9_isSignHere l dC dI r ct i_taped i_size i_faultKind i_at i_end i_token i_number i_bank i_rb i_codes i_within i_piled i_unitsInRule i_askHouse i_askTune i_acts i_undone i_laid i_knowns i_time f_text f_tunes f_houses f_hums f_told f_many f_ruleFrom f_ruleTo f_code f_eWhat f_eSign f_all f_kept f_was f_sTune f_boxAll J L 47 H67.size hI) (cwV 1 hG (goodV gw1476 gw1478 gw79 gw138 gw1479) rfl rfl rfl hd_X9_isSignHere ⟨(Nat.le_of_ble_eq_true rfl), (Nat.le_of_ble_eq_true rfl)⟩) ⟨fbR, va_recv hK hP (ci := 8) (q0 := 0) rfl rfl, pR_in hP hK⟩ rfl rfl hl.1 rfl (lv_room (Nat.le_of_ble_eq_true rfl)) dX9_rankHere_85 ⟨(Nat.le_of_ble_eq_true rfl), (Nat.le_of_ble_eq_true rfl)⟩) hS (fun q hq h => absurd hq (Nat.not_lt.mpr h)) (fun q h => Nat.le_trans hS.1 h) (fun r_80 u_ t_ H79 locs ht hvm hw hB hz1 hk1 hS => ?_)
                  subst hw
                  have hP := wk hP hk1
                  obtain ⟨f81, f82, f83⟩ := hB
                  refine lv_if_ne (tgt := 100) hx hb dX9_rankHere_88 (by decide) (fun c_84 => ?_) (fun c_84 => ?_)
                  · skip
                    have f85 : r_80.toInt ≠ 0 := qi_ne c_84 rfl zc_0
                    have f86 : i_token.toInt = (5 : Int) := (ob_441 f81 f85 zc_47)
                    have f87 : (sgz f_text i_size.toInt i_at.toInt) = (47 : Int) := (ob_442 f81 f85 zc_47)
                    have f88 : r_80.toInt = (1 : Int) := (ob_443 f81 f85 zc_47)
                    have f89 : (1 : Int) ≤ r_80.toInt := (ob_162 f82 f83 f88)
                    refine lv_bipush (v := 6) hx hb dX9_rankHere_100 (by decide) ?_
                    refine lv_goto (tgt := 106) hx hb dX9_rankHere_102 (by decide) ?_
                    rw [hQ]
                    exact W.iret (v := 6) hx hb hr (fun t ht hW => ⟨⟨6, 6, rfl, rfl, ⟨(ob_436 zc_6), (ob_437 zc_6), (ob_438 zc_6), (ob_439 f86 zc_6), (ob_444 f87 zc_6)⟩⟩, hS.F ht⟩) hS.2.2 dX9_rankHere_106
                  · skip
                    have f90 : r_80.toInt = 0 := qi_eq c_84 rfl zc_0
                    refine lv_aload_n hx hb dX9_rankHere_91 rfl (lv_at hl 0 rfl) ?_
                    refine lv_bipush (v := 37) hx hb dX9_rankHere_92 (by decide) ?_
                    refine va_calli (va_runV (As := [.int 37]) (rest := []) ⟨hx, hb, hml, hown, hG⟩ (kX9_isSignHere l dC dI r ct i_taped i_size i_faultKind i_at i_end i_token i_number i_bank i_rb i_codes i_within i_piled i_unitsInRule i_askHouse i_askTune i_acts i_undone i_laid i_knowns i_time f_text f_tunes f_houses f_hums f_told f_many f_ruleFrom f_ruleTo f_code f_eWhat f_eSign f_all f_kept f_was f_sTune f_boxAll J L 37 H79.size hI) (cwV 1 hG (goodV gw1476 gw1478 gw79 gw138 gw1479) rfl rfl rfl hd_X9_isSignHere ⟨(Nat.le_of_ble_eq_true rfl), (Nat.le_of_ble_eq_true rfl)⟩) ⟨fbR, va_recv hK hP (ci := 8) (q0 := 0) rfl rfl, pR_in hP hK⟩ rfl rfl hl.1 rfl (lv_room (Nat.le_of_ble_eq_true rfl)) dX9_rankHere_94 ⟨(Nat.le_of_ble_eq_true rfl), (Nat.le_of_ble_eq_true rfl)⟩) hS (fun q hq h => absurd hq (Nat.not_lt.mpr h)) (fun q h => Nat.le_trans hS.1 h) (fun r_92 u_ t_ H91 locs ht hvm hw hB hz1 hk1 hS => ?_)
                    subst hw
                    have hP := wk hP hk1
                    obtain ⟨f93, f94, f95⟩ := hB
                    refine lv_if_eq (tgt := 105) hx hb dX9_rankHere_97 (by decide) (fun c_96 => ?_) (fun c_96 => ?_)
                    · skip
                      have f97 : r_92.toInt = 0 := qi_eq c_96 rfl zc_0
                      refine lv_iconst (v := 0) hx hb dX9_rankHere_105 (by decide) ?_
                      rw [hQ]
                      exact W.iret (v := 0) hx hb hr (fun t ht hW => ⟨⟨0, 0, rfl, rfl, ⟨(ob_1 zc_0), (ob_445 zc_0), (ob_446 zc_0), (ob_447 zc_0), (ob_448 zc_0)⟩⟩, hS.F ht⟩) hS.2.2 dX9_rankHere_106
                    · skip
                      have f98 : r_92.toInt ≠ 0 := qi_ne c_96 rfl zc_0
                      have f99 : i_token.toInt = (5 : Int) := (ob_449 f93 f98 zc_37)
                      have f100 : (sgz f_text i_size.toInt i_at.toInt) = (37 : Int) := (ob_450 f93 f98 zc_37)
                      have f101 : r_92.toInt = (1 : Int) := (ob_451 f93 f98 zc_37)
                      have f102 : (1 : Int) ≤ r_92.toInt := (ob_162 f94 f95 f101)
                      refine lv_bipush (v := 6) hx hb dX9_rankHere_100 (by decide) ?_
                      refine lv_goto (tgt := 106) hx hb dX9_rankHere_102 (by decide) ?_
                      rw [hQ]
                      exact W.iret (v := 6) hx hb hr (fun t ht hW => ⟨⟨6, 6, rfl, rfl, ⟨(ob_436 zc_6), (ob_437 zc_6), (ob_438 zc_6), (ob_439 f99 zc_6), (ob_452 f100 zc_6)⟩⟩, hS.F ht⟩) hS.2.2 dX9_rankHere_106
              · skip
                have f103 : r_61.toInt ≠ 0 := qi_ne c_65 rfl zc_0
                have f104 : i_token.toInt = (5 : Int) := (ob_453 f62 f103 zc_45)
                have f105 : (sgz f_text i_size.toInt i_at.toInt) = (45 : Int) := (ob_454 f62 f103 zc_45)
                have f106 : r_61.toInt = (1 : Int) := (ob_455 f62 f103 zc_45)
                have f107 : (1 : Int) ≤ r_61.toInt := (ob_162 f63 f64 f106)
                refine lv_iconst (v := 5) hx hb dX9_rankHere_71 (by decide) ?_
                rw [hQ]
                exact W.iret (v := 5) hx hb hr (fun t ht hW => ⟨⟨5, 5, rfl, rfl, ⟨(ob_428 zc_5), (ob_429 zc_5), (ob_430 zc_5), (ob_431 f104 zc_5), (ob_456 f105 zc_5)⟩⟩, hS.F ht⟩) hS.2.2 dX9_rankHere_72
          · skip
            have f108 : r_42.toInt ≠ 0 := qi_ne c_46 rfl zc_0
            have f109 : i_token.toInt = (5 : Int) := (ob_457 f43 f108 zc_61)
            have f110 : (sgz f_text i_size.toInt i_at.toInt) = (61 : Int) := (ob_458 f43 f108 zc_61)
            have f111 : r_42.toInt = (1 : Int) := (ob_459 f43 f108 zc_61)
            have f112 : (1 : Int) ≤ r_42.toInt := (ob_162 f44 f45 f111)
            refine lv_iconst (v := 4) hx hb dX9_rankHere_51 (by decide) ?_
            rw [hQ]
            exact W.iret (v := 4) hx hb hr (fun t ht hW => ⟨⟨4, 4, rfl, rfl, ⟨(ob_417 zc_4), (ob_418 zc_4), (ob_360 zc_4), (ob_419 f109 zc_4), (ob_460 f110 zc_4)⟩⟩, hS.F ht⟩) hS.2.2 dX9_rankHere_52
    · skip
      have f113 : r_11.toInt ≠ 0 := qi_ne c_15 rfl zc_0
      have f114 : i_token.toInt = (3 : Int) := (ob_461 f12 f113 zl_28530)
      have f115 : (L 0 0).toInt = (28530 : Int) := (ob_462 f12 f113 zl_28530)
      have f116 : r_11.toInt = (1 : Int) := (ob_463 f12 f113 zl_28530)
      have f117 : (1 : Int) ≤ r_11.toInt := (ob_162 f13 f14 f116)
      refine lv_iconst (v := 1) hx hb dX9_rankHere_22 (by decide) ?_
      rw [hQ]
      exact W.iret (v := 1) hx hb hr (fun t ht hW => ⟨⟨1, 1, rfl, rfl, ⟨(ob_14 zc_1), (ob_464 zc_1), (ob_465 zc_1), (ob_466 f114 zc_1), (ob_467 zc_1)⟩⟩, hS.F ht⟩) hS.2.2 dX9_rankHere_23
  · skip
    have f118 : r_4.toInt ≠ 0 := qi_ne c_8 rfl zc_0
    have f119 : i_token.toInt = (3 : Int) := (ob_468 f5 f118 zl_6385252)
    have f120 : (L 0 0).toInt = (6385252 : Int) := (ob_469 f5 f118 zl_6385252)
    have f121 : r_4.toInt = (1 : Int) := (ob_470 f5 f118 zl_6385252)
    have f122 : (1 : Int) ≤ r_4.toInt := (ob_162 f6 f7 f121)
    refine lv_iconst (v := 2) hx hb dX9_rankHere_10 (by decide) ?_
    rw [hQ]
    exact W.iret (v := 2) hx hb hr (fun t ht hW => ⟨⟨2, 2, rfl, rfl, ⟨(ob_471 zc_2), (ob_472 zc_2), (ob_473 zc_2), (ob_474 f119 zc_2), (ob_475 zc_2)⟩⟩, hS.F ht⟩) hS.2.2 dX9_rankHere_11
set_option maxHeartbeats 4000000 in
set_option maxRecDepth 100000 in
theorem kX9_isCompared (l : Launch) (dC : Nat → ClassId) (dI : Nat → Nat → Nat) (r : Nat → Nat) (ct : Nat → ClassId) (i_taped i_size i_faultKind i_at i_end i_token i_number i_bank i_rb i_codes i_within i_piled i_unitsInRule i_askHouse i_askTune i_acts i_undone i_laid i_knowns i_time : Int32) (f_text f_tunes f_houses f_hums f_told f_many f_ruleFrom f_ruleTo f_code f_eWhat f_eSign f_all f_kept f_was f_sTune f_boxAll : Nat → Int32) (J : Nat → Nat → Int32) (L : Nat → Nat → Int64) (sz : Nat) (hI : (IM i_taped i_size i_faultKind i_at i_end i_bank i_rb i_acts i_undone i_laid i_knowns i_time f_tunes f_houses f_hums f_told f_many f_ruleFrom f_ruleTo f_code f_all f_kept f_was f_sTune f_boxAll)) (hp0 : (1 : Int) ≤ i_piled.toInt) (hp1 : i_piled.toInt ≤ (90 : Int)) (hp2 : (f_eWhat ((0 : Int)).toNat).toInt = (8 : Int)) : Met l yX9_isCompared (.code yX9_isCompared cX9_isCompared 2 (some .boolean) :: GW) { frames := 2, cells := 0, slots := 0, locals := 100 } (va_Pc [.ref (r 0)] (pR (dC, dI) (WM r ct i_taped i_size i_faultKind i_at i_end i_token i_number i_bank i_rb i_codes i_within i_piled i_unitsInRule i_askHouse i_askTune i_acts i_undone i_laid i_knowns i_time f_text f_tunes f_houses f_hums f_told f_many f_ruleFrom f_ruleTo f_code f_eWhat f_eSign f_all f_kept f_was f_sTune f_boxAll J L) (TM ct) sz)) (va_Qi (fun (r0 : Int32) (u : Int32) => r0 = u) (fun (u : Int32) (t : State) => (((u.toInt = (0 : Int))) ∨ ((u.toInt = (1 : Int)))) ∧ ((0 : Int) ≤ u.toInt) ∧ (u.toInt ≤ (1 : Int))) (fun q => sz ≤ q)) 0 0 (fun q => sz ≤ q) := by
  refine Met.ofW (cc := cX9_isCompared) (maxL := 2) (ret := (some .boolean)) (by decide) rfl ?_
  intro p e s m args below meth c0 s₁ B hml hv
  obtain ⟨rfl, hsz, hP, hK⟩ := hv
  have hx := B.exec
  have hb := B.bytes
  have hr := B.returns
  have hts := atoms_spec (ws := .code yX9_isCompared cX9_isCompared 2 (some .boolean) :: GW) B.pre
  have hG : ∀ w ∈ GW, w.before _ s = true := fun w h => hts w (List.mem_cons_of_mem _ h)
  have hown : s.vm.findClass RX9 = some m.cls := findClass_of_methodNamed B.named
  subst hsz
  have hS : va_S (fun q => s.heap.size ≤ q) s.heap s.heap [] := va_S.rf
  have hP : va_P (dC, dI) vwCl (WM r ct i_taped i_size i_faultKind i_at i_end i_token i_number i_bank i_rb i_codes i_within i_piled i_unitsInRule i_askHouse i_askTune i_acts i_undone i_laid i_knowns i_time f_text f_tunes f_houses f_hums f_told f_many f_ruleFrom f_ruleTo f_code f_eWhat f_eSign f_all f_kept f_was f_sTune f_boxAll J L) s.heap := hP
  have hl := lv_entry ([.ref (r 0)]) (n := 2) (Nat.le_of_ble_eq_true rfl)
  rw [lg_entry_eq]
  generalize (lg_sl ([.ref (r 0)]) ++ List.replicate (2 - (lg_sl ([.ref (r 0)])).length) Slot.unset).toArray = ls at hl ⊢
  have hl : lv_has ls 2 [(0, .ref (r 0))] := hl
  refine nameQ (fun Q hQ => ?_)
  obtain ⟨ie0, ie1, ie2, ie3, ie4, ie5, ie6, ie7, ie8, ie9, ie10, ie11, ie12, ie13, ie14, ie15, ie16, ie17, ie18, ie19, ie20, ie21, ie22, ie23, ie24, ie25, ie26, ie27, ie28, ie29, ie30, ie31, ie32⟩ := id hI
  have f1 : 0 ≤ (f_tunes (i_bank.toInt).toNat).toInt ∧ (f_tunes (i_bank.toInt).toNat).toInt ≤ 5 := ie21 (i_bank.toInt)
  have f2 : 0 ≤ (f_houses (i_bank.toInt).toNat).toInt ∧ (f_houses (i_bank.toInt).toNat).toInt ≤ 4 := ie22 (i_bank.toInt)
  refine lv_aload_n hx hb dX9_isCompared_0 rfl (lv_at hl 0 rfl) ?_
  refine gM_X9_296_0 hx hb hG hown hK hP dX9_isCompared_1 ?_
  refine lv_iconst (v := 1) hx hb dX9_isCompared_4 (by decide) ?_
  refine lv_isub hx hb dX9_isCompared_5 ?_
  refine lv_topi (fun x3 ex3 => ?_)
  have f4 : x3.toInt = i_piled.toInt + (-1) := (ob_346 (qi_sub ex3 rfl zc_1 (ob_476 hp0 hp1) (ob_477 hp0 hp1)))
  refine lv_istore_n (lv' := [(1, .int x3), (0, .ref (r 0))]) hx hb dX9_isCompared_6 rfl hl (by decide) rfl (fun ls hl => ?_)
  have L7 : ∀ (N7 : Nat) (y7_1 : Int32) (H7 : Heap) (locs : List Loc) (ls : Array Slot) (g7_0 : (0 : Int) ≤ y7_1.toInt + 1) (g7_1 : y7_1.toInt ≤ (89 : Int)) (g7_2 : (0 : Int) ≤ y7_1.toInt) (g7_3 : y7_1.toInt ≤ (89 : Int)) (hP : va_P (dC, dI) vwCl (WM r ct i_taped i_size i_faultKind i_at i_end i_token i_number i_bank i_rb i_codes i_within i_piled i_unitsInRule i_askHouse i_askTune i_acts i_undone i_laid i_knowns i_time f_text f_tunes f_houses f_hums f_told f_many f_ruleFrom f_ruleTo f_code f_eWhat f_eSign f_all f_kept f_was f_sTune f_boxAll J L) H7) (hS : va_S (fun q => s.heap.size ≤ q) s.heap H7 locs) (hl : lv_has ls 2 [(0, .ref (r 0)), (1, .int y7_1)]) (hM : y7_1.toInt < (N7 : Int)), W p l e { frames := 2, cells := 0, slots := 0, locals := 100 } s m ([.ref (r 0)] : List Value).toArray below meth c0 H7 locs 0 0 Q (F0 m 7 ls []) := by
    intro N7
    induction N7 with
    | zero =>
      intro y7_1 H7 locs ls g7_0 g7_1 g7_2 g7_3 hP hS hl hM
      exact ((ob_478 hM g7_2)).elim
    | succ N7 ih7 =>
      intro y7_1 H7 locs ls g7_0 g7_1 g7_2 g7_3 hP hS hl hM
      have hM7 := msucc hM
      refine lv_aload_n hx hb dX9_isCompared_7 rfl (lv_at hl 0 rfl) ?_
      refine gM_X9_79_0 hx hb hG hown hK hP dX9_isCompared_8 ?_
      refine lv_iload_n hx hb dX9_isCompared_11 rfl (lv_at hl 1 rfl) ?_
      refine ldM_22 (mm := y7_1.toInt) hx hb hK hP rfl (ob_350 g7_2) (ob_479 g7_1) dX9_isCompared_12 ?_
      have f5 : y7_1.toInt = 0 → (f_eWhat (y7_1.toInt).toNat).toInt = (f_eWhat ((0 : Int)).toNat).toInt := (fun h => by rw [h])
      refine lv_iconst (v := 5) hx hb dX9_isCompared_13 (by decide) ?_
      refine lv_icmp_eq (tgt := 28) hx hb dX9_isCompared_14 (by decide) (fun c_6 => ?_) (fun c_6 => ?_)
      · skip
        have f7 : (f_eWhat (y7_1.toInt).toNat).toInt = 5 := qi_eq c_6 rfl zc_5
        have f8 : y7_1.toInt ≠ (0 : Int) := (ob_480 hp2 f5 f7)
        obtain ⟨x9, ex9⟩ : ∃ y : Int32, y = y7_1 + Int32.ofInt (-1) := ⟨_, rfl⟩
        have f10 : x9.toInt = y7_1.toInt + (-1) := (ob_483 (qi_add ex9 rfl (by decide) (ob_481 g7_0) (ob_482 g7_1)))
        refine lv_iinc (v := x9) (lv' := [(1, .int x9), (0, .ref (r 0))]) hx hb dX9_isCompared_28 hl (k := 1) rfl ex9.symm (by decide) rfl (fun ls hl => ?_)
        refine lv_goto (tgt := 7) hx hb dX9_isCompared_31 (by decide) ?_
        exact ih7 x9 H7 _ _ (ob_484 g7_2 f10) (ob_485 g7_1 f10) (ob_486 g7_2 f8 f10) (ob_485 g7_1 f10) hP hS (lv_sub hl [1, 0] rfl) (ob_487 hM7 f10)
      · skip
        have f11 : (f_eWhat (y7_1.toInt).toNat).toInt ≠ 5 := qi_ne c_6 rfl zc_5
        refine lv_aload_n hx hb dX9_isCompared_17 rfl (lv_at hl 0 rfl) ?_
        refine gM_X9_79_0 hx hb hG hown hK hP dX9_isCompared_18 ?_
        refine lv_iload_n hx hb dX9_isCompared_21 rfl (lv_at hl 1 rfl) ?_
        refine ldM_22 (mm := y7_1.toInt) hx hb hK hP rfl (ob_350 g7_2) (ob_479 g7_1) dX9_isCompared_22 ?_
        refine lv_bipush (v := 6) hx hb dX9_isCompared_23 (by decide) ?_
        refine lv_icmp_ne (tgt := 34) hx hb dX9_isCompared_25 (by decide) (fun c_12 => ?_) (fun c_12 => ?_)
        · skip
          have f13 : (f_eWhat (y7_1.toInt).toNat).toInt ≠ 6 := qi_ne c_12 rfl zc_6
          refine lv_aload_n hx hb dX9_isCompared_34 rfl (lv_at hl 0 rfl) ?_
          refine gM_X9_79_0 hx hb hG hown hK hP dX9_isCompared_35 ?_
          refine lv_iload_n hx hb dX9_isCompared_38 rfl (lv_at hl 1 rfl) ?_
          refine ldM_22 (mm := y7_1.toInt) hx hb hK hP rfl (ob_350 g7_2) (ob_479 g7_1) dX9_isCompared_39 ?_
          refine lv_iconst (v := 4) hx hb dX9_isCompared_40 (by decide) ?_
          refine lv_icmp_ne (tgt := 48) hx hb dX9_isCompared_41 (by decide) (fun c_14 => ?_) (fun c_14 => ?_)
          · skip
            have f15 : (f_eWhat (y7_1.toInt).toNat).toInt ≠ 4 := qi_ne c_14 rfl zc_4
            refine lv_iconst (v := 0) hx hb dX9_isCompared_48 (by decide) ?_
            rw [hQ]
            exact W.zret (v := 0) hx hb hr (by decide) (fun t ht hW => ⟨⟨0, 0, rfl, rfl, ⟨(ob_488 zc_0), (ob_1 zc_0), (ob_11 zc_0)⟩⟩, hS.F ht⟩) hS.2.2 dX9_isCompared_49
          · skip
            have f16 : (f_eWhat (y7_1.toInt).toNat).toInt = 4 := qi_eq c_14 rfl zc_4
            have f17 : y7_1.toInt ≠ (0 : Int) := (ob_489 hp2 f5 f16)
            have f18 : (f_eWhat (y7_1.toInt).toNat).toInt ≤ (4 : Int) := (ob_412 f16)
            have f19 : (f_eWhat (y7_1.toInt).toNat).toInt ≤ (5 : Int) := (ob_490 f16 f18)
            refine lv_iconst (v := 1) hx hb dX9_isCompared_44 (by decide) ?_
            refine lv_goto (tgt := 49) hx hb dX9_isCompared_45 (by decide) ?_
            rw [hQ]
            exact W.zret (v := 1) hx hb hr (by decide) (fun t ht hW => ⟨⟨1, 1, rfl, rfl, ⟨(ob_491 zc_1), (ob_14 zc_1), (ob_15 zc_1)⟩⟩, hS.F ht⟩) hS.2.2 dX9_isCompared_49
        · skip
          have f20 : (f_eWhat (y7_1.toInt).toNat).toInt = 6 := qi_eq c_12 rfl zc_6
          have f21 : y7_1.toInt ≠ (0 : Int) := (ob_492 hp2 f5 f20)
          have f22 : (6 : Int) ≤ (f_eWhat (y7_1.toInt).toNat).toInt := (ob_493 f20)
          obtain ⟨x23, ex23⟩ : ∃ y : Int32, y = y7_1 + Int32.ofInt (-1) := ⟨_, rfl⟩
          have f24 : x23.toInt = y7_1.toInt + (-1) := (ob_483 (qi_add ex23 rfl (by decide) (ob_481 g7_0) (ob_482 g7_1)))
          refine lv_iinc (v := x23) (lv' := [(1, .int x23), (0, .ref (r 0))]) hx hb dX9_isCompared_28 hl (k := 1) rfl ex23.symm (by decide) rfl (fun ls hl => ?_)
          refine lv_goto (tgt := 7) hx hb dX9_isCompared_31 (by decide) ?_
          exact ih7 x23 H7 _ _ (ob_484 g7_2 f24) (ob_485 g7_1 f24) (ob_486 g7_2 f21 f24) (ob_485 g7_1 f24) hP hS (lv_sub hl [1, 0] rfl) (ob_487 hM7 f24)
  exact L7 (x3.toInt + 1).toNat x3 s.heap _ _ (ob_494 hp0 hp1 f4) (ob_495 hp0 hp1 f4) (ob_496 hp0 hp1 f4) (ob_495 hp0 hp1 f4) hP hS (lv_sub hl [1, 0] rfl) (mlt (ob_497 hp0 hp1 f4))
set_option maxHeartbeats 4000000 in
set_option maxRecDepth 100000 in
theorem kX9_behindUnit (l : Launch) (dC : Nat → ClassId) (dI : Nat → Nat → Nat) (r : Nat → Nat) (ct : Nat → ClassId) (i_taped i_size i_faultKind i_at i_end i_token i_number i_bank i_rb i_codes i_within i_piled i_unitsInRule i_askHouse i_askTune i_acts i_undone i_laid i_knowns i_time : Int32) (f_text f_tunes f_houses f_hums f_told f_many f_ruleFrom f_ruleTo f_code f_eWhat f_eSign f_all f_kept f_was f_sTune f_boxAll : Nat → Int32) (J : Nat → Nat → Int32) (L : Nat → Nat → Int64) (sz : Nat) (hI : (IM i_taped i_size i_faultKind i_at i_end i_bank i_rb i_acts i_undone i_laid i_knowns i_time f_tunes f_houses f_hums f_told f_many f_ruleFrom f_ruleTo f_code f_all f_kept f_was f_sTune f_boxAll)) (hp0 : i_rb.toInt + i_bank.toInt = (1 : Int)) (hp1 : (0 : Int) ≤ i_unitsInRule.toInt) (hp2 : i_unitsInRule.toInt ≤ (30 : Int)) (hp3 : (0 : Int) ≤ i_within.toInt) (hp4 : i_within.toInt ≤ (7 : Int)) (hp5 : (1 : Int) ≤ i_piled.toInt) (hp6 : 560 * i_rb.toInt ≤ i_codes.toInt) (hp7 : i_piled.toInt ≤ i_unitsInRule.toInt + i_within.toInt) (hp8 : i_codes.toInt + i_piled.toInt ≤ 560 * i_rb.toInt + 9 * i_unitsInRule.toInt) (hp9 : (f_eWhat ((0 : Int)).toNat).toInt = (8 : Int)) (hp10 : i_faultKind.toInt = (0 : Int)) (hp11 : SP f_eWhat f_eSign f_code i_piled.toInt i_within.toInt (560 * i_rb.toInt) i_codes.toInt 0) : Met l yX9_behindUnit (.code yX9_behindUnit cX9_behindUnit 2 (some .boolean) :: GW) { frames := 8, cells := 0, slots := 0, locals := 285 } (va_Pc [.ref (r 0)] (pW (dC, dI) (WM r ct i_taped i_size i_faultKind i_at i_end i_token i_number i_bank i_rb i_codes i_within i_piled i_unitsInRule i_askHouse i_askTune i_acts i_undone i_laid i_knowns i_time f_text f_tunes f_houses f_hums f_told f_many f_ruleFrom f_ruleTo f_code f_eWhat f_eSign f_all f_kept f_was f_sTune f_boxAll J L) (TM ct) sz)) (va_Qi (fun (r0 : Int32) (u : Int32) => r0 = u) (fun (u : Int32) (t : State) => ∃ (n_i_faultKind n_i_at n_i_end n_i_token n_i_number n_i_codes n_i_within n_i_piled : Int32) (n_f_code n_f_eWhat n_f_eSign : Nat → Int32) (n_J : Nat → Nat → Int32) (n_L : Nat → Nat → Int64), va_P (dC, dI) vwCl (WM r ct i_taped i_size n_i_faultKind n_i_at n_i_end n_i_token n_i_number i_bank i_rb n_i_codes n_i_within n_i_piled i_unitsInRule i_askHouse i_askTune i_acts i_undone i_laid i_knowns i_time f_text f_tunes f_houses f_hums f_told f_many f_ruleFrom f_ruleTo n_f_code n_f_eWhat n_f_eSign f_all f_kept f_was f_sTune f_boxAll n_J n_L) t.heap ∧ va_D (va_A (WM r ct i_taped i_size i_faultKind i_at i_end i_token i_number i_bank i_rb i_codes i_within i_piled i_unitsInRule i_askHouse i_askTune i_acts i_undone i_laid i_knowns i_time f_text f_tunes f_houses f_hums f_told f_many f_ruleFrom f_ruleTo f_code f_eWhat f_eSign f_all f_kept f_was f_sTune f_boxAll J L) sz) (WM r ct i_taped i_size n_i_faultKind n_i_at n_i_end n_i_token n_i_number i_bank i_rb n_i_codes n_i_within n_i_piled i_unitsInRule i_askHouse i_askTune i_acts i_undone i_laid i_knowns i_time f_text f_tunes f_houses f_hums f_told f_many f_ruleFrom f_ruleTo n_f_code n_f_eWhat n_f_eSign f_all f_kept f_was f_sTune f_boxAll n_J n_L) ∧ (IM i_taped i_size n_i_faultKind n_i_at n_i_end i_bank i_rb i_acts i_undone i_laid i_knowns i_time f_tunes f_houses f_hums f_told f_many f_ruleFrom f_ruleTo n_f_code f_all f_kept f_was f_sTune f_boxAll) ∧ ((0 : Int) ≤ u.toInt) ∧ (u.toInt ≤ (1 : Int)) ∧ ((n_i_faultKind.toInt = 0 → 1 ≤ n_i_piled.toInt → SP n_f_eWhat n_f_eSign n_f_code n_i_piled.toInt n_i_within.toInt (560 * i_rb.toInt) n_i_codes.toInt u.toInt)) ∧ ((n_i_faultKind.toInt = 0 → ∀ k : Int, 560 * i_rb.toInt ≤ k → k < n_i_codes.toInt → okc n_f_code (560 * i_rb.toInt) k)) ∧ ((0 : Int) ≤ n_i_piled.toInt) ∧ (n_i_piled.toInt ≤ (60 : Int)) ∧ (i_end.toInt ≤ n_i_end.toInt) ∧ (((1 : Int) ≤ n_i_faultKind.toInt) ∨ ((560 * i_rb.toInt ≤ n_i_codes.toInt) ∧ (n_i_codes.toInt + n_i_piled.toInt ≤ 560 * i_rb.toInt + 9 * i_unitsInRule.toInt + 9) ∧ (n_i_faultKind.toInt = (0 : Int)) ∧ ((n_f_eWhat ((0 : Int)).toNat).toInt = (8 : Int)) ∧ (((u.toInt = (1 : Int)) ∧ ((1 : Int) ≤ n_i_piled.toInt) ∧ (n_i_piled.toInt ≤ i_piled.toInt + 1) ∧ (i_token.toInt ≠ (0 : Int)) ∧ ((n_i_token.toInt = (0 : Int)) ∨ (i_end.toInt + 1 ≤ n_i_end.toInt)) ∧ ((0 : Int) ≤ n_i_within.toInt) ∧ (n_i_within.toInt ≤ (7 : Int)) ∧ (n_i_piled.toInt ≤ i_unitsInRule.toInt + n_i_within.toInt + 1) ∧ (n_i_codes.toInt + n_i_piled.toInt ≤ 560 * i_rb.toInt + 9 * i_unitsInRule.toInt + n_i_within.toInt + 1)) ∨ ((u.toInt = (0 : Int)) ∧ (n_i_piled.toInt + 1 ≤ i_piled.toInt) ∧ ((n_i_token.toInt = (0 : Int)) ∨ (i_token.toInt ≠ (0 : Int))) ∧ ((n_i_piled.toInt = (0 : Int)) ∨ (((0 : Int) ≤ n_i_within.toInt) ∧ (n_i_within.toInt ≤ (7 : Int)) ∧ (n_i_piled.toInt ≤ i_unitsInRule.toInt + n_i_within.toInt) ∧ (n_i_codes.toInt + n_i_piled.toInt ≤ 560 * i_rb.toInt + 9 * i_unitsInRule.toInt)))))))) (va_A (WM r ct i_taped i_size i_faultKind i_at i_end i_token i_number i_bank i_rb i_codes i_within i_piled i_unitsInRule i_askHouse i_askTune i_acts i_undone i_laid i_knowns i_time f_text f_tunes f_houses f_hums f_told f_many f_ruleFrom f_ruleTo f_code f_eWhat f_eSign f_all f_kept f_was f_sTune f_boxAll J L) sz)) 0 0 (va_A (WM r ct i_taped i_size i_faultKind i_at i_end i_token i_number i_bank i_rb i_codes i_within i_piled i_unitsInRule i_askHouse i_askTune i_acts i_undone i_laid i_knowns i_time f_text f_tunes f_houses f_hums f_told f_many f_ruleFrom f_ruleTo f_code f_eWhat f_eSign f_all f_kept f_was f_sTune f_boxAll J L) sz) := by
  refine Met.ofW (cc := cX9_behindUnit) (maxL := 2) (ret := (some .boolean)) (by decide) rfl ?_
  intro p e s m args below meth c0 s₁ B hml hv
  obtain ⟨rfl, hsz, hP, hK, hD0⟩ := hv
  have hx := B.exec
  have hb := B.bytes
  have hr := B.returns
  have hts := atoms_spec (ws := .code yX9_behindUnit cX9_behindUnit 2 (some .boolean) :: GW) B.pre
  have hG : ∀ w ∈ GW, w.before _ s = true := fun w h => hts w (List.mem_cons_of_mem _ h)
  have hown : s.vm.findClass RX9 = some m.cls := findClass_of_methodNamed B.named
  subst hsz
  have hD := hD0.self (sz := s.heap.size)
  generalize hAe : va_A (WM r ct i_taped i_size i_faultKind i_at i_end i_token i_number i_bank i_rb i_codes i_within i_piled i_unitsInRule i_askHouse i_askTune i_acts i_undone i_laid i_knowns i_time f_text f_tunes f_houses f_hums f_told f_many f_ruleFrom f_ruleTo f_code f_eWhat f_eSign f_all f_kept f_was f_sTune f_boxAll J L) s.heap.size = A at hD ⊢
  have hA : ∀ q : Nat, s.heap.size ≤ q → A q := fun q h => by rw [← hAe]; exact Or.inr h
  have hS : va_S A s.heap s.heap [] := va_S.rf
  have hP : va_P (dC, dI) vwCl (WM r ct i_taped i_size i_faultKind i_at i_end i_token i_number i_bank i_rb i_codes i_within i_piled i_unitsInRule i_askHouse i_askTune i_acts i_undone i_laid i_knowns i_time f_text f_tunes f_houses f_hums f_told f_many f_ruleFrom f_ruleTo f_code f_eWhat f_eSign f_all f_kept f_was f_sTune f_boxAll J L) s.heap := hP
  have hl := lv_entry ([.ref (r 0)]) (n := 2) (Nat.le_of_ble_eq_true rfl)
  rw [lg_entry_eq]
  generalize (lg_sl ([.ref (r 0)]) ++ List.replicate (2 - (lg_sl ([.ref (r 0)])).length) Slot.unset).toArray = ls at hl ⊢
  have hl : lv_has ls 2 [(0, .ref (r 0))] := hl
  refine nameQ (fun Q hQ => ?_)
  obtain ⟨ie0, ie1, ie2, ie3, ie4, ie5, ie6, ie7, ie8, ie9, ie10, ie11, ie12, ie13, ie14, ie15, ie16, ie17, ie18, ie19, ie20, ie21, ie22, ie23, ie24, ie25, ie26, ie27, ie28, ie29, ie30, ie31, ie32⟩ := id hI
  have f1 : 0 ≤ (f_tunes (i_bank.toInt).toNat).toInt ∧ (f_tunes (i_bank.toInt).toNat).toInt ≤ 5 := ie21 (i_bank.toInt)
  have f2 : 0 ≤ (f_houses (i_bank.toInt).toNat).toInt ∧ (f_houses (i_bank.toInt).toNat).toInt ≤ 4 := ie22 (i_bank.toInt)
  refine lv_aload_n hx hb dX9_behindUnit_0 rfl (lv_at hl 0 rfl) ?_
  refine va_calli (va_runV (As := []) (rest := []) ⟨hx, hb, hml, hown, hG⟩ (kX9_rankHere l dC dI r ct i_taped i_size i_faultKind i_at i_end i_token i_number i_bank i_rb i_codes i_within i_piled i_unitsInRule i_askHouse i_askTune i_acts i_undone i_laid i_knowns i_time f_text f_tunes f_houses f_hums f_told f_many f_ruleFrom f_ruleTo f_code f_eWhat f_eSign f_all f_kept f_was f_sTune f_boxAll J L s.heap.size hI) (cwV 0 hG (goodV gw1492 gw1494 gw83 gw138 gw1495) rfl rfl rfl hd_X9_rankHere ⟨(Nat.le_of_ble_eq_true rfl), (Nat.le_of_ble_eq_true rfl)⟩) ⟨fbR, va_recv hK hP (ci := 8) (q0 := 0) rfl rfl, pR_in hP hK⟩ rfl rfl hl.1 rfl (lv_room (Nat.le_of_ble_eq_true rfl)) dX9_behindUnit_1 ⟨(Nat.le_of_ble_eq_true rfl), (Nat.le_of_ble_eq_true rfl)⟩) hS (fun q hq h => absurd hq (Nat.not_lt.mpr h)) (fun q h => hA q (Nat.le_trans hS.1 h)) (fun r_4 u_ t_ H3 locs ht hvm hw hB hz1 hk1 hS => ?_)
  subst hw
  have hP := wk hP hk1
  obtain ⟨f5, f6, f7, f8, f9⟩ := hB
  refine lv_istore_n (lv' := [(1, .int r_4), (0, .ref (r 0))]) hx hb dX9_behindUnit_4 rfl hl (by decide) rfl (fun ls hl => ?_)
  refine lv_iload_n hx hb dX9_behindUnit_5 rfl (lv_at hl 0 rfl) ?_
  refine lv_iconst (v := 4) hx hb dX9_behindUnit_6 (by decide) ?_
  refine lv_icmp_ne (tgt := 23) hx hb dX9_behindUnit_7 (by decide) (fun c_10 => ?_) (fun c_10 => ?_)
  · skip
    have f11 : r_4.toInt ≠ 4 := qi_ne c_10 rfl zc_4
    have L23 : ∀ (N23 : Nat) (m23_i_codes m23_i_within m23_i_piled : Int32) (m23_f_code : Nat → Int32) (m23_J : Nat → Nat → Int32) (H23 : Heap) (locs : List Loc) (ls : Array Slot) (g23_0 : (0 : Int) ≤ m23_i_codes.toInt) (g23_1 : m23_i_codes.toInt ≤ (830 : Int)) (g23_2 : (0 : Int) ≤ m23_i_within.toInt) (g23_3 : m23_i_within.toInt ≤ (7 : Int)) (g23_4 : (0 : Int) ≤ m23_i_piled.toInt) (g23_5 : m23_i_piled.toInt ≤ (37 : Int)) (g23_6 : (0 : Int) ≤ m23_i_within.toInt) (g23_7 : m23_i_within.toInt ≤ (7 : Int)) (g23_8 : (1 : Int) ≤ m23_i_piled.toInt) (g23_9 : m23_i_piled.toInt ≤ i_piled.toInt) (g23_10 : m23_i_piled.toInt ≤ i_unitsInRule.toInt + m23_i_within.toInt) (g23_11 : m23_i_codes.toInt + m23_i_piled.toInt ≤ 560 * i_rb.toInt + 9 * i_unitsInRule.toInt) (g23_12 : 560 * i_rb.toInt ≤ m23_i_codes.toInt) (gi23_RU : RU i_bank f_told f_ruleFrom f_ruleTo m23_f_code) (gr23_0 : SP f_eWhat f_eSign m23_f_code m23_i_piled.toInt m23_i_within.toInt (560 * i_rb.toInt) m23_i_codes.toInt 0) (hP : va_P (dC, dI) vwCl (WM r ct i_taped i_size i_faultKind i_at i_end i_token i_number i_bank i_rb m23_i_codes m23_i_within m23_i_piled i_unitsInRule i_askHouse i_askTune i_acts i_undone i_laid i_knowns i_time f_text f_tunes f_houses f_hums f_told f_many f_ruleFrom f_ruleTo m23_f_code f_eWhat f_eSign f_all f_kept f_was f_sTune f_boxAll m23_J L) H23) (hD : va_D A (WM r ct i_taped i_size i_faultKind i_at i_end i_token i_number i_bank i_rb m23_i_codes m23_i_within m23_i_piled i_unitsInRule i_askHouse i_askTune i_acts i_undone i_laid i_knowns i_time f_text f_tunes f_houses f_hums f_told f_many f_ruleFrom f_ruleTo m23_f_code f_eWhat f_eSign f_all f_kept f_was f_sTune f_boxAll m23_J L)) (hS : va_S A s.heap H23 locs) (hl : lv_has ls 2 [(0, .ref (r 0)), (1, .int r_4)]) (hM : m23_i_piled.toInt < (N23 : Int)), W p l e { frames := 8, cells := 0, slots := 0, locals := 285 } s m ([.ref (r 0)] : List Value).toArray below meth c0 H23 locs 0 0 Q (F0 m 23 ls []) := by
      intro N23
      induction N23 with
      | zero =>
        intro m23_i_codes m23_i_within m23_i_piled m23_f_code m23_J H23 locs ls g23_0 g23_1 g23_2 g23_3 g23_4 g23_5 g23_6 g23_7 g23_8 g23_9 g23_10 g23_11 g23_12 gi23_RU gr23_0 hP hD hS hl hM
        exact ((ob_478 hM g23_4)).elim
      | succ N23 ih23 =>
        intro m23_i_codes m23_i_within m23_i_piled m23_f_code m23_J H23 locs ls g23_0 g23_1 g23_2 g23_3 g23_4 g23_5 g23_6 g23_7 g23_8 g23_9 g23_10 g23_11 g23_12 gi23_RU gr23_0 hP hD hS hl hM
        have hM23 := msucc hM
        refine lv_aload_n hx hb dX9_behindUnit_23 rfl (lv_at hl 0 rfl) ?_
        have f12 := SP.nn gr23_0 (ob_398 g23_8)
        refine gM_X9_79_0 hx hb hG hown hK hP dX9_behindUnit_24 ?_
        refine lv_aload_n hx hb dX9_behindUnit_27 rfl (lv_at hl 0 rfl) ?_
        refine gM_X9_296_0 hx hb hG hown hK hP dX9_behindUnit_28 ?_
        refine lv_iconst (v := 1) hx hb dX9_behindUnit_31 (by decide) ?_
        refine lv_isub hx hb dX9_behindUnit_32 ?_
        refine lv_topi (fun x13 ex13 => ?_)
        have f14 : x13.toInt = m23_i_piled.toInt + (-1) := (ob_346 (qi_sub ex13 rfl zc_1 (ob_498 g23_4) (ob_499 g23_5)))
        refine ldM_22 (mm := m23_i_piled.toInt + (-1)) hx hb hK hP f14 (ob_500 g23_8) (ob_501 g23_5) dX9_behindUnit_33 ?_
        have f15 : m23_i_piled.toInt + (-1) = 0 → (f_eWhat (m23_i_piled.toInt + (-1)).toNat).toInt = (f_eWhat ((0 : Int)).toNat).toInt := (fun h => by rw [h])
        have f16 : 1 ≤ m23_i_piled.toInt + (-1) → 1 ≤ (f_eWhat (m23_i_piled.toInt + (-1)).toNat).toInt ∧ (f_eWhat (m23_i_piled.toInt + (-1)).toNat).toInt ≤ 7 := SP.rg (k := m23_i_piled.toInt + (-1)) gr23_0 (ob_502)
        have f17 : ((f_eWhat (m23_i_piled.toInt + (-1)).toNat).toInt = 3 ∨ (f_eWhat (m23_i_piled.toInt + (-1)).toNat).toInt = 7) → 1 ≤ m23_i_within.toInt := SP.ge1 (k := m23_i_piled.toInt + (-1)) gr23_0 (ob_503) (ob_500 g23_8)
        refine lv_bipush (v := 6) hx hb dX9_behindUnit_34 (by decide) ?_
        refine lv_icmp_gt (tgt := 104) hx hb dX9_behindUnit_36 (by decide) (fun c_18 => ?_) (fun c_18 => ?_)
        · skip
          have f19 : 6 < (f_eWhat (m23_i_piled.toInt + (-1)).toNat).toInt := qi_lt c_18 zc_6 rfl
          refine lv_iload_n hx hb dX9_behindUnit_104 rfl (lv_at hl 1 rfl) ?_
          refine lv_if_le (tgt := 147) hx hb dX9_behindUnit_105 (by decide) (fun c_20 => ?_) (fun c_20 => ?_)
          · skip
            have f21 : r_4.toInt ≤ 0 := qi_le c_20 rfl zc_0
            have f22 : r_4.toInt ≤ (2 : Int) := (ob_504 f5 f6 f21)
            have f23 : r_4.toInt ≤ (3 : Int) := (ob_505 f21)
            refine lv_aload_n hx hb dX9_behindUnit_147 rfl (lv_at hl 0 rfl) ?_
            refine lv_dup hx hb dX9_behindUnit_148 rfl ?_
            refine gM_X9_296_0 hx hb hG hown hK hP dX9_behindUnit_149 ?_
            refine lv_iconst (v := 1) hx hb dX9_behindUnit_152 (by decide) ?_
            refine lv_isub hx hb dX9_behindUnit_153 ?_
            refine lv_topi (fun x24 ex24 => ?_)
            have f25 : x24.toInt = m23_i_piled.toInt + (-1) := (ob_346 (qi_sub ex24 rfl zc_1 (ob_498 g23_4) (ob_499 g23_5)))
            refine pM_X9_296_0 hx hb hG hown hK hP hD hS dX9_behindUnit_154 (fun H26 locs hP hD hS => ?_)
            refine lv_aload_n hx hb dX9_behindUnit_157 rfl (lv_at hl 0 rfl) ?_
            refine gM_X9_79_0 hx hb hG hown hK hP dX9_behindUnit_158 ?_
            refine lv_aload_n hx hb dX9_behindUnit_161 rfl (lv_at hl 0 rfl) ?_
            refine gM_X9_296_0 hx hb hG hown hK hP dX9_behindUnit_162 ?_
            refine ldM_22 (mm := m23_i_piled.toInt + (-1)) hx hb hK hP f25 (ob_500 g23_8) (ob_501 g23_5) dX9_behindUnit_165 ?_
            refine lv_bipush (v := 7) hx hb dX9_behindUnit_166 (by decide) ?_
            refine lv_icmp_ne (tgt := 191) hx hb dX9_behindUnit_168 (by decide) (fun c_27 => ?_) (fun c_27 => ?_)
            · skip
              have f28 : (f_eWhat (m23_i_piled.toInt + (-1)).toNat).toInt ≠ 7 := qi_ne c_27 rfl zc_7
              have f29 : m23_i_piled.toInt ≤ (1 : Int) := (ob_506 f16 f19 f28)
              have f30 : (8 : Int) ≤ (f_eWhat (m23_i_piled.toInt + (-1)).toNat).toInt := (ob_507 f19 f28)
              have f31 : (f_eWhat (m23_i_piled.toInt + (-1)).toNat).toInt = (f_eWhat ((0 : Int)).toNat).toInt := (ob_508 g23_8 f15 f16 f19 f28)
              refine lv_iconst (v := 0) hx hb dX9_behindUnit_191 (by decide) ?_
              rw [hQ]
              exact W.zret (v := 0) hx hb hr (by decide) (fun t ht hW => ⟨⟨0, 0, rfl, rfl, ⟨i_faultKind, i_at, i_end, i_token, i_number, m23_i_codes, m23_i_within, x24, m23_f_code, f_eWhat, f_eSign, m23_J, L, by rw [ht]; exact hP, hD, ⟨ie0, ie1, ie2, ie3, ie4, ie5, ie6, ie7, ie8, ie9, ie10, ie11, ie12, ie13, ie14, ie15, ie16, ie17, ie18, ie19, ie20, ie21, ie22, ie23, ie24, ie25, ie26, ie27, ie28, ie29, ie30, ie31, gi23_RU⟩, (ob_1 zc_0), (ob_11 zc_0), (fun _ h => ((ob_509 h g23_8 f29 f25)).elim), (fun _ => gr23_0.2.2.2.2), (ob_510 g23_8 f25), (ob_511 g23_5 f25), (ob_146), (ob_512 ie17 hp9 g23_2 g23_3 g23_9 g23_10 g23_11 g23_12 zc_0 f25)⟩⟩, hS.F ht⟩) hS.2.2 dX9_behindUnit_192
            · skip
              have f32 : (f_eWhat (m23_i_piled.toInt + (-1)).toNat).toInt = 7 := qi_eq c_27 rfl zc_7
              have f33 : m23_i_piled.toInt ≠ (1 : Int) := (ob_513 hp9 f15 f32)
              have f34 : (1 : Int) ≤ (f_eWhat (m23_i_piled.toInt + (-1)).toNat).toInt := (ob_514 f19 f32)
              have f35 : (f_eWhat (m23_i_piled.toInt + (-1)).toNat).toInt ≤ (7 : Int) := (ob_515 f19 f32 f34)
              have f36 : (1 : Int) ≤ m23_i_within.toInt := (ob_516 f17 f32)
              refine lv_aload_n hx hb dX9_behindUnit_171 rfl (lv_at hl 0 rfl) ?_
              refine lv_dup hx hb dX9_behindUnit_172 rfl ?_
              refine gM_X9_299_0 hx hb hG hown hK hP dX9_behindUnit_173 ?_
              refine lv_iconst (v := 1) hx hb dX9_behindUnit_176 (by decide) ?_
              refine lv_isub hx hb dX9_behindUnit_177 ?_
              refine lv_topi (fun x37 ex37 => ?_)
              have f38 : x37.toInt = m23_i_within.toInt + (-1) := (ob_346 (qi_sub ex37 rfl zc_1 (ob_498 g23_2) (ob_517 g23_3)))
              refine pM_X9_299_0 hx hb hG hown hK hP hD hS dX9_behindUnit_178 (fun H39 locs hP hD hS => ?_)
              refine lv_aload_n hx hb dX9_behindUnit_181 rfl (lv_at hl 0 rfl) ?_
              refine lv_aload_n hx hb dX9_behindUnit_182 rfl (lv_at hl 0 rfl) ?_
              refine lv_bipush (v := 41) hx hb dX9_behindUnit_183 (by decide) ?_
              refine va_calli (va_runV (As := [.int 41]) (rest := [.ref (r 0)]) ⟨hx, hb, hml, hown, hG⟩ (kX9_isSignHere l dC dI r ct i_taped i_size i_faultKind i_at i_end i_token i_number i_bank i_rb m23_i_codes x37 x24 i_unitsInRule i_askHouse i_askTune i_acts i_undone i_laid i_knowns i_time f_text f_tunes f_houses f_hums f_told f_many f_ruleFrom f_ruleTo m23_f_code f_eWhat f_eSign f_all f_kept f_was f_sTune f_boxAll m23_J L 41 H39.size ⟨ie0, ie1, ie2, ie3, ie4, ie5, ie6, ie7, ie8, ie9, ie10, ie11, ie12, ie13, ie14, ie15, ie16, ie17, ie18, ie19, ie20, ie21, ie22, ie23, ie24, ie25, ie26, ie27, ie28, ie29, ie30, ie31, gi23_RU⟩) (cwV 1 hG (goodV gw1476 gw1478 gw79 gw138 gw1479) rfl rfl rfl hd_X9_isSignHere ⟨(Nat.le_of_ble_eq_true rfl), (Nat.le_of_ble_eq_true rfl)⟩) ⟨fbR, va_recv hK hP (ci := 8) (q0 := 0) rfl rfl, pR_in hP hK⟩ rfl rfl hl.1 rfl (lv_room (Nat.le_of_ble_eq_true rfl)) dX9_behindUnit_185 ⟨(Nat.le_of_ble_eq_true rfl), (Nat.le_of_ble_eq_true rfl)⟩) hS (fun q hq h => absurd hq (Nat.not_lt.mpr h)) (fun q h => hA q (Nat.le_trans hS.1 h)) (fun r_41 u_ t_ H40 locs ht hvm hw hB hz1 hk1 hS => ?_)
              subst hw
              have hP := wk hP hk1
              obtain ⟨f42, f43, f44⟩ := hB
              have hFc := frA hD hS hA
              refine va_callv (va_runV (As := [.int r_41]) (rest := []) ⟨hx, hb, hml, hown, hG⟩ (kX9_must l dC dI r ct i_taped i_size i_faultKind i_at i_end i_token i_number i_bank i_rb m23_i_codes x37 x24 i_unitsInRule i_askHouse i_askTune i_acts i_undone i_laid i_knowns i_time f_text f_tunes f_houses f_hums f_told f_many f_ruleFrom f_ruleTo m23_f_code f_eWhat f_eSign f_all f_kept f_was f_sTune f_boxAll m23_J L r_41 H40.size ⟨ie0, ie1, ie2, ie3, ie4, ie5, ie6, ie7, ie8, ie9, ie10, ie11, ie12, ie13, ie14, ie15, ie16, ie17, ie18, ie19, ie20, ie21, ie22, ie23, ie24, ie25, ie26, ie27, ie28, ie29, ie30, ie31, gi23_RU⟩ (ob_242 f43 f44)) (cwV 1 hG (goodV gw1452 gw1454 gw73 gw138 gw1455) rfl rfl rfl hd_X9_must ⟨(Nat.le_of_ble_eq_true rfl), (Nat.le_of_ble_eq_true rfl)⟩) ⟨fbW, va_recv hK hP (ci := 8) (q0 := 0) rfl rfl, pW_in hP hK hD⟩ rfl rfl hl.1 rfl (lv_room (Nat.le_of_ble_eq_true rfl)) dX9_behindUnit_188 ⟨(Nat.le_of_ble_eq_true rfl), (Nat.le_of_ble_eq_true rfl)⟩) hS (fun q _ h => hFc q h) hFc (fun _ t_ H45 locs ht hvm hw hB hz1 hk1 hS => ?_)
              obtain ⟨x47, x48, x49, x50, x51, J52, L53, hP1, hD1, hI56, f54, f55⟩ := hB
              rw [ht] at hP1
              have hP := hP1
              have hD := dW hFc hD1
              obtain ⟨im57, im58, im59, im60, im61, im62, im63, im64, im65, im66, im67, im68, im69, im70, im71, im72, im73, im74, im75, im76, im77, im78, im79, im80, im81, im82, im83, im84, im85, im86, im87, im88, im89⟩ := id hI56
              refine lv_iconst (v := 0) hx hb dX9_behindUnit_191 (by decide) ?_
              have f90 : (f_eWhat (x24.toInt).toNat).toInt = (f_eWhat (m23_i_piled.toInt + (-1)).toNat).toInt := by rw [f25]
              rw [hQ]
              exact W.zret (v := 0) hx hb hr (by decide) (fun t ht hW => ⟨⟨0, 0, rfl, rfl, ⟨x47, x48, x49, x50, x51, m23_i_codes, x37, x24, m23_f_code, f_eWhat, f_eSign, J52, L53, by rw [ht]; exact hP, hD, hI56, (ob_1 zc_0), (ob_11 zc_0), (fun _ _ => SPbr gr23_0 rfl (ob_380 zc_0) (ob_518 f25) (ob_518 f38) (ob_519 g23_8 f33) (ob_520 f32 f90)), (fun _ => gr23_0.2.2.2.2), (ob_510 g23_8 f25), (ob_511 g23_5 f25), (ob_145 f54), (ob_521 hp9 g23_3 g23_9 g23_10 g23_11 g23_12 f36 f42 f55 zc_41 f38 zc_0 f25)⟩⟩, hS.F ht⟩) hS.2.2 dX9_behindUnit_192
          · skip
            have f91 : 0 < r_4.toInt := qi_nle c_20 rfl zc_0
            have f92 : (3 : Int) ≤ i_token.toInt := (ob_522 f8 f91)
            refine lv_aload_n hx hb dX9_behindUnit_108 rfl (lv_at hl 0 rfl) ?_
            refine lv_iload_n hx hb dX9_behindUnit_109 rfl (lv_at hl 1 rfl) ?_
            refine lv_iload_n hx hb dX9_behindUnit_110 rfl (lv_at hl 1 rfl) ?_
            refine lv_iconst (v := 2) hx hb dX9_behindUnit_111 (by decide) ?_
            refine lv_icmp_ne (tgt := 120) hx hb dX9_behindUnit_112 (by decide) (fun c_93 => ?_) (fun c_93 => ?_)
            · skip
              have f94 : r_4.toInt ≠ 2 := qi_ne c_93 rfl zc_2
              refine lv_iload_n hx hb dX9_behindUnit_120 rfl (lv_at hl 1 rfl) ?_
              refine lv_iconst (v := 1) hx hb dX9_behindUnit_121 (by decide) ?_
              refine lv_icmp_ne (tgt := 130) hx hb dX9_behindUnit_122 (by decide) (fun c_95 => ?_) (fun c_95 => ?_)
              · skip
                have f96 : r_4.toInt ≠ 1 := qi_ne c_95 rfl zc_1
                have f97 : (3 : Int) ≤ r_4.toInt := (ob_523 f91 f94 f96)
                have f98 : (2 : Int) ≤ r_4.toInt := (ob_524 f97)
                have f99 : (4 : Int) ≤ r_4.toInt := (ob_525 f7 f91 f94 f96)
                have f100 : (37 : Int) ≤ (sgz f_text i_size.toInt i_at.toInt) := (ob_526 f7 f9 f91 f94 f96)
                have f101 : (sgz f_text i_size.toInt i_at.toInt) ≤ (62 : Int) := (ob_527 f7 f9 f91 f94 f96)
                have f102 : (5 : Int) ≤ r_4.toInt := (ob_528 f7 f11 f91 f94 f96)
                refine lv_aload_n hx hb dX9_behindUnit_130 rfl (lv_at hl 0 rfl) ?_
                refine lv_aload_n hx hb dX9_behindUnit_131 rfl (lv_at hl 0 rfl) ?_
                refine gM_X9_184_0 hx hb hG hown hK hP dX9_behindUnit_132 ?_
                refine va_calli (va_runV (As := [.int i_at]) (rest := [.int r_4, .ref (r 0)]) ⟨hx, hb, hml, hown, hG⟩ (kX9_sign l dC dI r ct i_taped i_size i_faultKind i_at i_end i_token i_number i_bank i_rb m23_i_codes m23_i_within m23_i_piled i_unitsInRule i_askHouse i_askTune i_acts i_undone i_laid i_knowns i_time f_text f_tunes f_houses f_hums f_told f_many f_ruleFrom f_ruleTo m23_f_code f_eWhat f_eSign f_all f_kept f_was f_sTune f_boxAll m23_J L i_at H23.size ⟨ie0, ie1, ie2, ie3, ie4, ie5, ie6, ie7, ie8, ie9, ie10, ie11, ie12, ie13, ie14, ie15, ie16, ie17, ie18, ie19, ie20, ie21, ie22, ie23, ie24, ie25, ie26, ie27, ie28, ie29, ie30, ie31, gi23_RU⟩ (ob_139 ie16)) (cwV 1 hG (goodV gw1366 gw1368 gw60 gw138 gw1369) rfl rfl rfl hd_X9_sign ⟨(Nat.le_of_ble_eq_true rfl), (Nat.le_of_ble_eq_true rfl)⟩) ⟨fbR, va_recv hK hP (ci := 8) (q0 := 0) rfl rfl, pR_in hP hK⟩ rfl rfl hl.1 rfl (lv_room (Nat.le_of_ble_eq_true rfl)) dX9_behindUnit_135 ⟨(Nat.le_of_ble_eq_true rfl), (Nat.le_of_ble_eq_true rfl)⟩) hS (fun q hq h => absurd hq (Nat.not_lt.mpr h)) (fun q h => hA q (Nat.le_trans hS.1 h)) (fun r_104 u_ t_ H103 locs ht hvm hw hB hz1 hk1 hS => ?_)
                subst hw
                have hP := wk hP hk1
                obtain ⟨f105, f106, f107, f108⟩ := hB
                have f109 : r_104.toInt = (sgz f_text i_size.toInt i_at.toInt) := (ob_6 f105)
                have hFc := frA hD hS hA
                refine va_callv (va_runV (As := [.int r_4, .int r_104]) (rest := []) ⟨hx, hb, hml, hown, hG⟩ (kX9_pushE l dC dI r ct i_taped i_size i_faultKind i_at i_end i_token i_number i_bank i_rb m23_i_codes m23_i_within m23_i_piled i_unitsInRule i_askHouse i_askTune i_acts i_undone i_laid i_knowns i_time f_text f_tunes f_houses f_hums f_told f_many f_ruleFrom f_ruleTo m23_f_code f_eWhat f_eSign f_all f_kept f_was f_sTune f_boxAll m23_J L r_4 r_104 H103.size ⟨ie0, ie1, ie2, ie3, ie4, ie5, ie6, ie7, ie8, ie9, ie10, ie11, ie12, ie13, ie14, ie15, ie16, ie17, ie18, ie19, ie20, ie21, ie22, ie23, ie24, ie25, ie26, ie27, ie28, ie29, ie30, ie31, gi23_RU⟩ (ob_139 g23_4) (ob_529 g23_5)) (cwV 2 hG (goodV gw1468 gw1470 gw77 gw138 gw1471) rfl rfl rfl hd_X9_pushE ⟨(Nat.le_of_ble_eq_true rfl), (Nat.le_of_ble_eq_true rfl)⟩) ⟨fbW, va_recv hK hP (ci := 8) (q0 := 0) rfl rfl, pW_in hP hK hD⟩ rfl rfl hl.1 rfl (lv_room (Nat.le_of_ble_eq_true rfl)) dX9_behindUnit_138 ⟨(Nat.le_of_ble_eq_true rfl), (Nat.le_of_ble_eq_true rfl)⟩) hS (fun q _ h => hFc q h) hFc (fun _ t_ H110 locs ht hvm hw hB hz1 hk1 hS => ?_)
                obtain ⟨x112, z113, z114, hP1, hD1, hI118, f115, f116, f117⟩ := hB
                rw [ht] at hP1
                have hP := hP1
                have hD := dW hFc hD1
                obtain ⟨im119, im120, im121, im122, im123, im124, im125, im126, im127, im128, im129, im130, im131, im132, im133, im134, im135, im136, im137, im138, im139, im140, im141, im142, im143, im144, im145, im146, im147, im148, im149, im150, im151⟩ := id hI118
                have f152 : (z113 ((0 : Int)).toNat).toInt = (f_eWhat ((0 : Int)).toNat).toInt := (by rw [f116, upd_off (ne0 (ob_398 g23_8))])
                refine lv_aload_n hx hb dX9_behindUnit_141 rfl (lv_at hl 0 rfl) ?_
                have hFc := frA hD hS hA
                refine va_callv (va_runV (As := []) (rest := []) ⟨hx, hb, hml, hown, hG⟩ (kX9_goOn l dC dI r ct i_taped i_size i_faultKind i_at i_end i_token i_number i_bank i_rb m23_i_codes m23_i_within x112 i_unitsInRule i_askHouse i_askTune i_acts i_undone i_laid i_knowns i_time f_text f_tunes f_houses f_hums f_told f_many f_ruleFrom f_ruleTo m23_f_code z113 z114 f_all f_kept f_was f_sTune f_boxAll m23_J L H110.size hI118) (cwV 0 hG (goodV gw1362 gw1364 gw59 gw138 gw1365) rfl rfl rfl hd_X9_goOn ⟨(Nat.le_of_ble_eq_true rfl), (Nat.le_of_ble_eq_true rfl)⟩) ⟨fbW, va_recv hK hP (ci := 8) (q0 := 0) rfl rfl, pW_in hP hK hD⟩ rfl rfl hl.1 rfl (lv_room (Nat.le_of_ble_eq_true rfl)) dX9_behindUnit_142 ⟨(Nat.le_of_ble_eq_true rfl), (Nat.le_of_ble_eq_true rfl)⟩) hS (fun q _ h => hFc q h) hFc (fun _ t_ H153 locs ht hvm hw hB hz1 hk1 hS => ?_)
                obtain ⟨x155, x156, x157, x158, L159, hP1, hD1, hI163, f160, f161, f162⟩ := hB
                rw [ht] at hP1
                have hP := hP1
                have hD := dW hFc hD1
                obtain ⟨im164, im165, im166, im167, im168, im169, im170, im171, im172, im173, im174, im175, im176, im177, im178, im179, im180, im181, im182, im183, im184, im185, im186, im187, im188, im189, im190, im191, im192, im193, im194, im195, im196⟩ := id hI163
                refine lv_iconst (v := 1) hx hb dX9_behindUnit_145 (by decide) ?_
                rw [hQ]
                exact W.zret (v := 1) hx hb hr (by decide) (fun t ht hW => ⟨⟨1, 1, rfl, rfl, ⟨i_faultKind, x155, x156, x157, x158, m23_i_codes, m23_i_within, x112, m23_f_code, z113, z114, m23_J, L159, by rw [ht]; exact hP, hD, hI163, (ob_14 zc_1), (ob_15 zc_1), (fun _ _ => SPpush gr23_0 f116 f117 (ob_398 g23_8) (ob_142 f115) (Or.inr ⟨(ob_530 f6 f99), (dl_op (ob_531 f101 f109)), rfl, (ob_532 zc_1)⟩)), (fun _ => gr23_0.2.2.2.2), (ob_149 g23_4 f115), (ob_533 g23_5 f115), (ob_145 f160), (ob_534 ie2 ie3 ie17 hp9 f8 g23_2 g23_3 g23_4 g23_9 g23_10 g23_11 g23_12 f91 f115 f152 f162 zc_1)⟩⟩, hS.F ht⟩) hS.2.2 dX9_behindUnit_146
              · skip
                have f197 : r_4.toInt = 1 := qi_eq c_95 rfl zc_1
                have f198 : r_4.toInt ≤ (2 : Int) := (ob_535 f197)
                have f199 : r_4.toInt ≤ (3 : Int) := (ob_536 f197)
                have f200 : r_4.toInt ≤ (1 : Int) := (ob_15 f197)
                refine lv_bipush (v := 124) hx hb dX9_behindUnit_125 (by decide) ?_
                refine lv_goto (tgt := 138) hx hb dX9_behindUnit_127 (by decide) ?_
                have hFc := frA hD hS hA
                refine va_callv (va_runV (As := [.int r_4, .int 124]) (rest := []) ⟨hx, hb, hml, hown, hG⟩ (kX9_pushE l dC dI r ct i_taped i_size i_faultKind i_at i_end i_token i_number i_bank i_rb m23_i_codes m23_i_within m23_i_piled i_unitsInRule i_askHouse i_askTune i_acts i_undone i_laid i_knowns i_time f_text f_tunes f_houses f_hums f_told f_many f_ruleFrom f_ruleTo m23_f_code f_eWhat f_eSign f_all f_kept f_was f_sTune f_boxAll m23_J L r_4 124 H23.size ⟨ie0, ie1, ie2, ie3, ie4, ie5, ie6, ie7, ie8, ie9, ie10, ie11, ie12, ie13, ie14, ie15, ie16, ie17, ie18, ie19, ie20, ie21, ie22, ie23, ie24, ie25, ie26, ie27, ie28, ie29, ie30, ie31, gi23_RU⟩ (ob_139 g23_4) (ob_529 g23_5)) (cwV 2 hG (goodV gw1468 gw1470 gw77 gw138 gw1471) rfl rfl rfl hd_X9_pushE ⟨(Nat.le_of_ble_eq_true rfl), (Nat.le_of_ble_eq_true rfl)⟩) ⟨fbW, va_recv hK hP (ci := 8) (q0 := 0) rfl rfl, pW_in hP hK hD⟩ rfl rfl hl.1 rfl (lv_room (Nat.le_of_ble_eq_true rfl)) dX9_behindUnit_138 ⟨(Nat.le_of_ble_eq_true rfl), (Nat.le_of_ble_eq_true rfl)⟩) hS (fun q _ h => hFc q h) hFc (fun _ t_ H201 locs ht hvm hw hB hz1 hk1 hS => ?_)
                obtain ⟨x203, z204, z205, hP1, hD1, hI209, f206, f207, f208⟩ := hB
                rw [ht] at hP1
                have hP := hP1
                have hD := dW hFc hD1
                obtain ⟨im210, im211, im212, im213, im214, im215, im216, im217, im218, im219, im220, im221, im222, im223, im224, im225, im226, im227, im228, im229, im230, im231, im232, im233, im234, im235, im236, im237, im238, im239, im240, im241, im242⟩ := id hI209
                have f243 : (z204 ((0 : Int)).toNat).toInt = (f_eWhat ((0 : Int)).toNat).toInt := (by rw [f207, upd_off (ne0 (ob_398 g23_8))])
                refine lv_aload_n hx hb dX9_behindUnit_141 rfl (lv_at hl 0 rfl) ?_
                have hFc := frA hD hS hA
                refine va_callv (va_runV (As := []) (rest := []) ⟨hx, hb, hml, hown, hG⟩ (kX9_goOn l dC dI r ct i_taped i_size i_faultKind i_at i_end i_token i_number i_bank i_rb m23_i_codes m23_i_within x203 i_unitsInRule i_askHouse i_askTune i_acts i_undone i_laid i_knowns i_time f_text f_tunes f_houses f_hums f_told f_many f_ruleFrom f_ruleTo m23_f_code z204 z205 f_all f_kept f_was f_sTune f_boxAll m23_J L H201.size hI209) (cwV 0 hG (goodV gw1362 gw1364 gw59 gw138 gw1365) rfl rfl rfl hd_X9_goOn ⟨(Nat.le_of_ble_eq_true rfl), (Nat.le_of_ble_eq_true rfl)⟩) ⟨fbW, va_recv hK hP (ci := 8) (q0 := 0) rfl rfl, pW_in hP hK hD⟩ rfl rfl hl.1 rfl (lv_room (Nat.le_of_ble_eq_true rfl)) dX9_behindUnit_142 ⟨(Nat.le_of_ble_eq_true rfl), (Nat.le_of_ble_eq_true rfl)⟩) hS (fun q _ h => hFc q h) hFc (fun _ t_ H244 locs ht hvm hw hB hz1 hk1 hS => ?_)
                obtain ⟨x246, x247, x248, x249, L250, hP1, hD1, hI254, f251, f252, f253⟩ := hB
                rw [ht] at hP1
                have hP := hP1
                have hD := dW hFc hD1
                obtain ⟨im255, im256, im257, im258, im259, im260, im261, im262, im263, im264, im265, im266, im267, im268, im269, im270, im271, im272, im273, im274, im275, im276, im277, im278, im279, im280, im281, im282, im283, im284, im285, im286, im287⟩ := id hI254
                refine lv_iconst (v := 1) hx hb dX9_behindUnit_145 (by decide) ?_
                rw [hQ]
                exact W.zret (v := 1) hx hb hr (by decide) (fun t ht hW => ⟨⟨1, 1, rfl, rfl, ⟨i_faultKind, x246, x247, x248, x249, m23_i_codes, m23_i_within, x203, m23_f_code, z204, z205, m23_J, L250, by rw [ht]; exact hP, hD, hI254, (ob_14 zc_1), (ob_15 zc_1), (fun _ _ => SPpush gr23_0 f207 f208 (ob_398 g23_8) (ob_142 f206) (Or.inr ⟨(ob_537 f197), (dl_op (ob_538 zc_124)), rfl, (ob_532 zc_1)⟩)), (fun _ => gr23_0.2.2.2.2), (ob_149 g23_4 f206), (ob_533 g23_5 f206), (ob_145 f251), (ob_539 ie17 hp9 f8 g23_2 g23_3 g23_4 g23_9 g23_10 g23_11 g23_12 f91 f206 f243 f253 zc_1)⟩⟩, hS.F ht⟩) hS.2.2 dX9_behindUnit_146
            · skip
              have f288 : r_4.toInt = 2 := qi_eq c_93 rfl zc_2
              have f289 : r_4.toInt ≤ (2 : Int) := (ob_540 f288)
              have f290 : r_4.toInt ≤ (3 : Int) := (ob_541 f288)
              refine lv_bipush (v := 38) hx hb dX9_behindUnit_115 (by decide) ?_
              refine lv_goto (tgt := 138) hx hb dX9_behindUnit_117 (by decide) ?_
              have hFc := frA hD hS hA
              refine va_callv (va_runV (As := [.int r_4, .int 38]) (rest := []) ⟨hx, hb, hml, hown, hG⟩ (kX9_pushE l dC dI r ct i_taped i_size i_faultKind i_at i_end i_token i_number i_bank i_rb m23_i_codes m23_i_within m23_i_piled i_unitsInRule i_askHouse i_askTune i_acts i_undone i_laid i_knowns i_time f_text f_tunes f_houses f_hums f_told f_many f_ruleFrom f_ruleTo m23_f_code f_eWhat f_eSign f_all f_kept f_was f_sTune f_boxAll m23_J L r_4 38 H23.size ⟨ie0, ie1, ie2, ie3, ie4, ie5, ie6, ie7, ie8, ie9, ie10, ie11, ie12, ie13, ie14, ie15, ie16, ie17, ie18, ie19, ie20, ie21, ie22, ie23, ie24, ie25, ie26, ie27, ie28, ie29, ie30, ie31, gi23_RU⟩ (ob_139 g23_4) (ob_529 g23_5)) (cwV 2 hG (goodV gw1468 gw1470 gw77 gw138 gw1471) rfl rfl rfl hd_X9_pushE ⟨(Nat.le_of_ble_eq_true rfl), (Nat.le_of_ble_eq_true rfl)⟩) ⟨fbW, va_recv hK hP (ci := 8) (q0 := 0) rfl rfl, pW_in hP hK hD⟩ rfl rfl hl.1 rfl (lv_room (Nat.le_of_ble_eq_true rfl)) dX9_behindUnit_138 ⟨(Nat.le_of_ble_eq_true rfl), (Nat.le_of_ble_eq_true rfl)⟩) hS (fun q _ h => hFc q h) hFc (fun _ t_ H291 locs ht hvm hw hB hz1 hk1 hS => ?_)
              obtain ⟨x293, z294, z295, hP1, hD1, hI299, f296, f297, f298⟩ := hB
              rw [ht] at hP1
              have hP := hP1
              have hD := dW hFc hD1
              obtain ⟨im300, im301, im302, im303, im304, im305, im306, im307, im308, im309, im310, im311, im312, im313, im314, im315, im316, im317, im318, im319, im320, im321, im322, im323, im324, im325, im326, im327, im328, im329, im330, im331, im332⟩ := id hI299
              have f333 : (z294 ((0 : Int)).toNat).toInt = (f_eWhat ((0 : Int)).toNat).toInt := (by rw [f297, upd_off (ne0 (ob_398 g23_8))])
              refine lv_aload_n hx hb dX9_behindUnit_141 rfl (lv_at hl 0 rfl) ?_
              have hFc := frA hD hS hA
              refine va_callv (va_runV (As := []) (rest := []) ⟨hx, hb, hml, hown, hG⟩ (kX9_goOn l dC dI r ct i_taped i_size i_faultKind i_at i_end i_token i_number i_bank i_rb m23_i_codes m23_i_within x293 i_unitsInRule i_askHouse i_askTune i_acts i_undone i_laid i_knowns i_time f_text f_tunes f_houses f_hums f_told f_many f_ruleFrom f_ruleTo m23_f_code z294 z295 f_all f_kept f_was f_sTune f_boxAll m23_J L H291.size hI299) (cwV 0 hG (goodV gw1362 gw1364 gw59 gw138 gw1365) rfl rfl rfl hd_X9_goOn ⟨(Nat.le_of_ble_eq_true rfl), (Nat.le_of_ble_eq_true rfl)⟩) ⟨fbW, va_recv hK hP (ci := 8) (q0 := 0) rfl rfl, pW_in hP hK hD⟩ rfl rfl hl.1 rfl (lv_room (Nat.le_of_ble_eq_true rfl)) dX9_behindUnit_142 ⟨(Nat.le_of_ble_eq_true rfl), (Nat.le_of_ble_eq_true rfl)⟩) hS (fun q _ h => hFc q h) hFc (fun _ t_ H334 locs ht hvm hw hB hz1 hk1 hS => ?_)
              obtain ⟨x336, x337, x338, x339, L340, hP1, hD1, hI344, f341, f342, f343⟩ := hB
              rw [ht] at hP1
              have hP := hP1
              have hD := dW hFc hD1
              obtain ⟨im345, im346, im347, im348, im349, im350, im351, im352, im353, im354, im355, im356, im357, im358, im359, im360, im361, im362, im363, im364, im365, im366, im367, im368, im369, im370, im371, im372, im373, im374, im375, im376, im377⟩ := id hI344
              refine lv_iconst (v := 1) hx hb dX9_behindUnit_145 (by decide) ?_
              rw [hQ]
              exact W.zret (v := 1) hx hb hr (by decide) (fun t ht hW => ⟨⟨1, 1, rfl, rfl, ⟨i_faultKind, x336, x337, x338, x339, m23_i_codes, m23_i_within, x293, m23_f_code, z294, z295, m23_J, L340, by rw [ht]; exact hP, hD, hI344, (ob_14 zc_1), (ob_15 zc_1), (fun _ _ => SPpush gr23_0 f297 f298 (ob_398 g23_8) (ob_142 f296) (Or.inr ⟨(ob_542 f288), (dl_op (ob_543 zc_38)), rfl, (ob_532 zc_1)⟩)), (fun _ => gr23_0.2.2.2.2), (ob_149 g23_4 f296), (ob_533 g23_5 f296), (ob_145 f341), (ob_539 ie17 hp9 f8 g23_2 g23_3 g23_4 g23_9 g23_10 g23_11 g23_12 f91 f296 f333 f343 zc_1)⟩⟩, hS.F ht⟩) hS.2.2 dX9_behindUnit_146
        · skip
          have f378 : (f_eWhat (m23_i_piled.toInt + (-1)).toNat).toInt ≤ 6 := qi_nlt c_18 zc_6 rfl
          have f379 : m23_i_piled.toInt ≠ (1 : Int) := (ob_544 hp9 f15 f378)
          have f380 : (1 : Int) ≤ (f_eWhat (m23_i_piled.toInt + (-1)).toNat).toInt := (ob_545 hp9 g23_8 f15 f16)
          have f381 : (f_eWhat (m23_i_piled.toInt + (-1)).toNat).toInt ≤ (7 : Int) := (ob_546 f378 f380)
          refine lv_aload_n hx hb dX9_behindUnit_39 rfl (lv_at hl 0 rfl) ?_
          refine gM_X9_79_0 hx hb hG hown hK hP dX9_behindUnit_40 ?_
          refine lv_aload_n hx hb dX9_behindUnit_43 rfl (lv_at hl 0 rfl) ?_
          refine gM_X9_296_0 hx hb hG hown hK hP dX9_behindUnit_44 ?_
          refine lv_iconst (v := 1) hx hb dX9_behindUnit_47 (by decide) ?_
          refine lv_isub hx hb dX9_behindUnit_48 ?_
          refine lv_topi (fun x382 ex382 => ?_)
          have f383 : x382.toInt = m23_i_piled.toInt + (-1) := (ob_346 (qi_sub ex382 rfl zc_1 (ob_498 g23_4) (ob_499 g23_5)))
          refine ldM_22 (mm := m23_i_piled.toInt + (-1)) hx hb hK hP f383 (ob_500 g23_8) (ob_501 g23_5) dX9_behindUnit_49 ?_
          refine lv_iload_n hx hb dX9_behindUnit_50 rfl (lv_at hl 1 rfl) ?_
          refine lv_icmp_lt (tgt := 104) hx hb dX9_behindUnit_51 (by decide) (fun c_384 => ?_) (fun c_384 => ?_)
          · skip
            have f385 : (f_eWhat (m23_i_piled.toInt + (-1)).toNat).toInt < r_4.toInt := qi_lt c_384 rfl rfl
            refine lv_iload_n hx hb dX9_behindUnit_104 rfl (lv_at hl 1 rfl) ?_
            refine lv_if_le (tgt := 147) hx hb dX9_behindUnit_105 (by decide) (fun c_386 => ((ob_547 (qi_le c_386 rfl zc_0) f380 f385)).elim) (fun c_386 => ?_)
            have f387 : 0 < r_4.toInt := qi_nle c_386 rfl zc_0
            have f388 : (3 : Int) ≤ i_token.toInt := (ob_522 f8 f387)
            refine lv_aload_n hx hb dX9_behindUnit_108 rfl (lv_at hl 0 rfl) ?_
            refine lv_iload_n hx hb dX9_behindUnit_109 rfl (lv_at hl 1 rfl) ?_
            refine lv_iload_n hx hb dX9_behindUnit_110 rfl (lv_at hl 1 rfl) ?_
            refine lv_iconst (v := 2) hx hb dX9_behindUnit_111 (by decide) ?_
            refine lv_icmp_ne (tgt := 120) hx hb dX9_behindUnit_112 (by decide) (fun c_389 => ?_) (fun c_389 => ?_)
            · skip
              have f390 : r_4.toInt ≠ 2 := qi_ne c_389 rfl zc_2
              refine lv_iload_n hx hb dX9_behindUnit_120 rfl (lv_at hl 1 rfl) ?_
              refine lv_iconst (v := 1) hx hb dX9_behindUnit_121 (by decide) ?_
              refine lv_icmp_ne (tgt := 130) hx hb dX9_behindUnit_122 (by decide) (fun c_391 => ?_) (fun c_391 => ((ob_548 (qi_eq c_391 rfl zc_1) f380 f385)).elim)
              have f392 : r_4.toInt ≠ 1 := qi_ne c_391 rfl zc_1
              have f393 : (3 : Int) ≤ r_4.toInt := (ob_523 f387 f390 f392)
              have f394 : (2 : Int) ≤ r_4.toInt := (ob_524 f393)
              have f395 : (4 : Int) ≤ r_4.toInt := (ob_525 f7 f387 f390 f392)
              have f396 : (37 : Int) ≤ (sgz f_text i_size.toInt i_at.toInt) := (ob_526 f7 f9 f387 f390 f392)
              have f397 : (sgz f_text i_size.toInt i_at.toInt) ≤ (62 : Int) := (ob_527 f7 f9 f387 f390 f392)
              have f398 : (5 : Int) ≤ r_4.toInt := (ob_528 f7 f11 f387 f390 f392)
              refine lv_aload_n hx hb dX9_behindUnit_130 rfl (lv_at hl 0 rfl) ?_
              refine lv_aload_n hx hb dX9_behindUnit_131 rfl (lv_at hl 0 rfl) ?_
              refine gM_X9_184_0 hx hb hG hown hK hP dX9_behindUnit_132 ?_
              refine va_calli (va_runV (As := [.int i_at]) (rest := [.int r_4, .ref (r 0)]) ⟨hx, hb, hml, hown, hG⟩ (kX9_sign l dC dI r ct i_taped i_size i_faultKind i_at i_end i_token i_number i_bank i_rb m23_i_codes m23_i_within m23_i_piled i_unitsInRule i_askHouse i_askTune i_acts i_undone i_laid i_knowns i_time f_text f_tunes f_houses f_hums f_told f_many f_ruleFrom f_ruleTo m23_f_code f_eWhat f_eSign f_all f_kept f_was f_sTune f_boxAll m23_J L i_at H23.size ⟨ie0, ie1, ie2, ie3, ie4, ie5, ie6, ie7, ie8, ie9, ie10, ie11, ie12, ie13, ie14, ie15, ie16, ie17, ie18, ie19, ie20, ie21, ie22, ie23, ie24, ie25, ie26, ie27, ie28, ie29, ie30, ie31, gi23_RU⟩ (ob_139 ie16)) (cwV 1 hG (goodV gw1366 gw1368 gw60 gw138 gw1369) rfl rfl rfl hd_X9_sign ⟨(Nat.le_of_ble_eq_true rfl), (Nat.le_of_ble_eq_true rfl)⟩) ⟨fbR, va_recv hK hP (ci := 8) (q0 := 0) rfl rfl, pR_in hP hK⟩ rfl rfl hl.1 rfl (lv_room (Nat.le_of_ble_eq_true rfl)) dX9_behindUnit_135 ⟨(Nat.le_of_ble_eq_true rfl), (Nat.le_of_ble_eq_true rfl)⟩) hS (fun q hq h => absurd hq (Nat.not_lt.mpr h)) (fun q h => hA q (Nat.le_trans hS.1 h)) (fun r_400 u_ t_ H399 locs ht hvm hw hB hz1 hk1 hS => ?_)
              subst hw
              have hP := wk hP hk1
              obtain ⟨f401, f402, f403, f404⟩ := hB
              have f405 : r_400.toInt = (sgz f_text i_size.toInt i_at.toInt) := (ob_6 f401)
              have hFc := frA hD hS hA
              refine va_callv (va_runV (As := [.int r_4, .int r_400]) (rest := []) ⟨hx, hb, hml, hown, hG⟩ (kX9_pushE l dC dI r ct i_taped i_size i_faultKind i_at i_end i_token i_number i_bank i_rb m23_i_codes m23_i_within m23_i_piled i_unitsInRule i_askHouse i_askTune i_acts i_undone i_laid i_knowns i_time f_text f_tunes f_houses f_hums f_told f_many f_ruleFrom f_ruleTo m23_f_code f_eWhat f_eSign f_all f_kept f_was f_sTune f_boxAll m23_J L r_4 r_400 H399.size ⟨ie0, ie1, ie2, ie3, ie4, ie5, ie6, ie7, ie8, ie9, ie10, ie11, ie12, ie13, ie14, ie15, ie16, ie17, ie18, ie19, ie20, ie21, ie22, ie23, ie24, ie25, ie26, ie27, ie28, ie29, ie30, ie31, gi23_RU⟩ (ob_139 g23_4) (ob_529 g23_5)) (cwV 2 hG (goodV gw1468 gw1470 gw77 gw138 gw1471) rfl rfl rfl hd_X9_pushE ⟨(Nat.le_of_ble_eq_true rfl), (Nat.le_of_ble_eq_true rfl)⟩) ⟨fbW, va_recv hK hP (ci := 8) (q0 := 0) rfl rfl, pW_in hP hK hD⟩ rfl rfl hl.1 rfl (lv_room (Nat.le_of_ble_eq_true rfl)) dX9_behindUnit_138 ⟨(Nat.le_of_ble_eq_true rfl), (Nat.le_of_ble_eq_true rfl)⟩) hS (fun q _ h => hFc q h) hFc (fun _ t_ H406 locs ht hvm hw hB hz1 hk1 hS => ?_)
              obtain ⟨x408, z409, z410, hP1, hD1, hI414, f411, f412, f413⟩ := hB
              rw [ht] at hP1
              have hP := hP1
              have hD := dW hFc hD1
              obtain ⟨im415, im416, im417, im418, im419, im420, im421, im422, im423, im424, im425, im426, im427, im428, im429, im430, im431, im432, im433, im434, im435, im436, im437, im438, im439, im440, im441, im442, im443, im444, im445, im446, im447⟩ := id hI414
              have f448 : (z409 ((0 : Int)).toNat).toInt = (f_eWhat ((0 : Int)).toNat).toInt := (by rw [f412, upd_off (ne0 (ob_398 g23_8))])
              refine lv_aload_n hx hb dX9_behindUnit_141 rfl (lv_at hl 0 rfl) ?_
              have hFc := frA hD hS hA
              refine va_callv (va_runV (As := []) (rest := []) ⟨hx, hb, hml, hown, hG⟩ (kX9_goOn l dC dI r ct i_taped i_size i_faultKind i_at i_end i_token i_number i_bank i_rb m23_i_codes m23_i_within x408 i_unitsInRule i_askHouse i_askTune i_acts i_undone i_laid i_knowns i_time f_text f_tunes f_houses f_hums f_told f_many f_ruleFrom f_ruleTo m23_f_code z409 z410 f_all f_kept f_was f_sTune f_boxAll m23_J L H406.size hI414) (cwV 0 hG (goodV gw1362 gw1364 gw59 gw138 gw1365) rfl rfl rfl hd_X9_goOn ⟨(Nat.le_of_ble_eq_true rfl), (Nat.le_of_ble_eq_true rfl)⟩) ⟨fbW, va_recv hK hP (ci := 8) (q0 := 0) rfl rfl, pW_in hP hK hD⟩ rfl rfl hl.1 rfl (lv_room (Nat.le_of_ble_eq_true rfl)) dX9_behindUnit_142 ⟨(Nat.le_of_ble_eq_true rfl), (Nat.le_of_ble_eq_true rfl)⟩) hS (fun q _ h => hFc q h) hFc (fun _ t_ H449 locs ht hvm hw hB hz1 hk1 hS => ?_)
              obtain ⟨x451, x452, x453, x454, L455, hP1, hD1, hI459, f456, f457, f458⟩ := hB
              rw [ht] at hP1
              have hP := hP1
              have hD := dW hFc hD1
              obtain ⟨im460, im461, im462, im463, im464, im465, im466, im467, im468, im469, im470, im471, im472, im473, im474, im475, im476, im477, im478, im479, im480, im481, im482, im483, im484, im485, im486, im487, im488, im489, im490, im491, im492⟩ := id hI459
              refine lv_iconst (v := 1) hx hb dX9_behindUnit_145 (by decide) ?_
              rw [hQ]
              exact W.zret (v := 1) hx hb hr (by decide) (fun t ht hW => ⟨⟨1, 1, rfl, rfl, ⟨i_faultKind, x451, x452, x453, x454, m23_i_codes, m23_i_within, x408, m23_f_code, z409, z410, m23_J, L455, by rw [ht]; exact hP, hD, hI459, (ob_14 zc_1), (ob_15 zc_1), (fun _ _ => SPpush gr23_0 f412 f413 (ob_398 g23_8) (ob_142 f411) (Or.inr ⟨(ob_530 f6 f395), (dl_op (ob_531 f397 f405)), rfl, (ob_532 zc_1)⟩)), (fun _ => gr23_0.2.2.2.2), (ob_149 g23_4 f411), (ob_533 g23_5 f411), (ob_145 f456), (ob_549 ie2 ie3 ie4 ie5 ie6 ie7 ie17 hp9 f8 g23_2 g23_3 g23_8 g23_9 g23_10 g23_11 g23_12 f15 f16 f385 f411 f448 f458 zc_1)⟩⟩, hS.F ht⟩) hS.2.2 dX9_behindUnit_146
            · skip
              have f493 : r_4.toInt = 2 := qi_eq c_389 rfl zc_2
              have f494 : r_4.toInt ≤ (2 : Int) := (ob_540 f493)
              have f495 : r_4.toInt ≤ (3 : Int) := (ob_541 f493)
              refine lv_bipush (v := 38) hx hb dX9_behindUnit_115 (by decide) ?_
              refine lv_goto (tgt := 138) hx hb dX9_behindUnit_117 (by decide) ?_
              have hFc := frA hD hS hA
              refine va_callv (va_runV (As := [.int r_4, .int 38]) (rest := []) ⟨hx, hb, hml, hown, hG⟩ (kX9_pushE l dC dI r ct i_taped i_size i_faultKind i_at i_end i_token i_number i_bank i_rb m23_i_codes m23_i_within m23_i_piled i_unitsInRule i_askHouse i_askTune i_acts i_undone i_laid i_knowns i_time f_text f_tunes f_houses f_hums f_told f_many f_ruleFrom f_ruleTo m23_f_code f_eWhat f_eSign f_all f_kept f_was f_sTune f_boxAll m23_J L r_4 38 H23.size ⟨ie0, ie1, ie2, ie3, ie4, ie5, ie6, ie7, ie8, ie9, ie10, ie11, ie12, ie13, ie14, ie15, ie16, ie17, ie18, ie19, ie20, ie21, ie22, ie23, ie24, ie25, ie26, ie27, ie28, ie29, ie30, ie31, gi23_RU⟩ (ob_139 g23_4) (ob_529 g23_5)) (cwV 2 hG (goodV gw1468 gw1470 gw77 gw138 gw1471) rfl rfl rfl hd_X9_pushE ⟨(Nat.le_of_ble_eq_true rfl), (Nat.le_of_ble_eq_true rfl)⟩) ⟨fbW, va_recv hK hP (ci := 8) (q0 := 0) rfl rfl, pW_in hP hK hD⟩ rfl rfl hl.1 rfl (lv_room (Nat.le_of_ble_eq_true rfl)) dX9_behindUnit_138 ⟨(Nat.le_of_ble_eq_true rfl), (Nat.le_of_ble_eq_true rfl)⟩) hS (fun q _ h => hFc q h) hFc (fun _ t_ H496 locs ht hvm hw hB hz1 hk1 hS => ?_)
              obtain ⟨x498, z499, z500, hP1, hD1, hI504, f501, f502, f503⟩ := hB
              rw [ht] at hP1
              have hP := hP1
              have hD := dW hFc hD1
              obtain ⟨im505, im506, im507, im508, im509, im510, im511, im512, im513, im514, im515, im516, im517, im518, im519, im520, im521, im522, im523, im524, im525, im526, im527, im528, im529, im530, im531, im532, im533, im534, im535, im536, im537⟩ := id hI504
              have f538 : (z499 ((0 : Int)).toNat).toInt = (f_eWhat ((0 : Int)).toNat).toInt := (by rw [f502, upd_off (ne0 (ob_398 g23_8))])
              refine lv_aload_n hx hb dX9_behindUnit_141 rfl (lv_at hl 0 rfl) ?_
              have hFc := frA hD hS hA
              refine va_callv (va_runV (As := []) (rest := []) ⟨hx, hb, hml, hown, hG⟩ (kX9_goOn l dC dI r ct i_taped i_size i_faultKind i_at i_end i_token i_number i_bank i_rb m23_i_codes m23_i_within x498 i_unitsInRule i_askHouse i_askTune i_acts i_undone i_laid i_knowns i_time f_text f_tunes f_houses f_hums f_told f_many f_ruleFrom f_ruleTo m23_f_code z499 z500 f_all f_kept f_was f_sTune f_boxAll m23_J L H496.size hI504) (cwV 0 hG (goodV gw1362 gw1364 gw59 gw138 gw1365) rfl rfl rfl hd_X9_goOn ⟨(Nat.le_of_ble_eq_true rfl), (Nat.le_of_ble_eq_true rfl)⟩) ⟨fbW, va_recv hK hP (ci := 8) (q0 := 0) rfl rfl, pW_in hP hK hD⟩ rfl rfl hl.1 rfl (lv_room (Nat.le_of_ble_eq_true rfl)) dX9_behindUnit_142 ⟨(Nat.le_of_ble_eq_true rfl), (Nat.le_of_ble_eq_true rfl)⟩) hS (fun q _ h => hFc q h) hFc (fun _ t_ H539 locs ht hvm hw hB hz1 hk1 hS => ?_)
              obtain ⟨x541, x542, x543, x544, L545, hP1, hD1, hI549, f546, f547, f548⟩ := hB
              rw [ht] at hP1
              have hP := hP1
              have hD := dW hFc hD1
              obtain ⟨im550, im551, im552, im553, im554, im555, im556, im557, im558, im559, im560, im561, im562, im563, im564, im565, im566, im567, im568, im569, im570, im571, im572, im573, im574, im575, im576, im577, im578, im579, im580, im581, im582⟩ := id hI549
              refine lv_iconst (v := 1) hx hb dX9_behindUnit_145 (by decide) ?_
              rw [hQ]
              exact W.zret (v := 1) hx hb hr (by decide) (fun t ht hW => ⟨⟨1, 1, rfl, rfl, ⟨i_faultKind, x541, x542, x543, x544, m23_i_codes, m23_i_within, x498, m23_f_code, z499, z500, m23_J, L545, by rw [ht]; exact hP, hD, hI549, (ob_14 zc_1), (ob_15 zc_1), (fun _ _ => SPpush gr23_0 f502 f503 (ob_398 g23_8) (ob_142 f501) (Or.inr ⟨(ob_542 f493), (dl_op (ob_543 zc_38)), rfl, (ob_532 zc_1)⟩)), (fun _ => gr23_0.2.2.2.2), (ob_149 g23_4 f501), (ob_533 g23_5 f501), (ob_145 f546), (ob_550 ie2 ie3 ie17 hp9 f8 g23_2 g23_3 g23_8 g23_9 g23_10 g23_11 g23_12 f15 f16 f385 f501 f538 f548 zc_1)⟩⟩, hS.F ht⟩) hS.2.2 dX9_behindUnit_146
          · skip
            have f583 : r_4.toInt ≤ (f_eWhat (m23_i_piled.toInt + (-1)).toNat).toInt := qi_nlt c_384 rfl rfl
            refine lv_aload_n hx hb dX9_behindUnit_54 rfl (lv_at hl 0 rfl) ?_
            refine lv_dup hx hb dX9_behindUnit_55 rfl ?_
            refine gM_X9_296_0 hx hb hG hown hK hP dX9_behindUnit_56 ?_
            refine lv_iconst (v := 1) hx hb dX9_behindUnit_59 (by decide) ?_
            refine lv_isub hx hb dX9_behindUnit_60 ?_
            refine lv_topi (fun x584 ex584 => ?_)
            have f585 : x584.toInt = m23_i_piled.toInt + (-1) := (ob_346 (qi_sub ex584 rfl zc_1 (ob_498 g23_4) (ob_499 g23_5)))
            refine pM_X9_296_0 hx hb hG hown hK hP hD hS dX9_behindUnit_61 (fun H586 locs hP hD hS => ?_)
            refine lv_aload_n hx hb dX9_behindUnit_64 rfl (lv_at hl 0 rfl) ?_
            refine gM_X9_79_0 hx hb hG hown hK hP dX9_behindUnit_65 ?_
            refine lv_aload_n hx hb dX9_behindUnit_68 rfl (lv_at hl 0 rfl) ?_
            refine gM_X9_296_0 hx hb hG hown hK hP dX9_behindUnit_69 ?_
            refine ldM_22 (mm := m23_i_piled.toInt + (-1)) hx hb hK hP f585 (ob_500 g23_8) (ob_501 g23_5) dX9_behindUnit_72 ?_
            refine lv_iconst (v := 3) hx hb dX9_behindUnit_73 (by decide) ?_
            refine lv_icmp_ne (tgt := 87) hx hb dX9_behindUnit_74 (by decide) (fun c_587 => ?_) (fun c_587 => ?_)
            · skip
              have f588 : (f_eWhat (m23_i_piled.toInt + (-1)).toNat).toInt ≠ 3 := qi_ne c_587 rfl zc_3
              refine lv_aload_n hx hb dX9_behindUnit_87 rfl (lv_at hl 0 rfl) ?_
              refine lv_aload_n hx hb dX9_behindUnit_88 rfl (lv_at hl 0 rfl) ?_
              refine gM_X9_82_0 hx hb hG hown hK hP dX9_behindUnit_89 ?_
              refine lv_aload_n hx hb dX9_behindUnit_92 rfl (lv_at hl 0 rfl) ?_
              refine gM_X9_296_0 hx hb hG hown hK hP dX9_behindUnit_93 ?_
              refine ldM_23 (mm := m23_i_piled.toInt + (-1)) hx hb hK hP f585 (ob_500 g23_8) (ob_501 g23_5) dX9_behindUnit_96 ?_
              refine lv_iconst (v := 0) hx hb dX9_behindUnit_97 (by decide) ?_
              have hFc := frA hD hS hA
              refine va_callv (va_runV (As := [.int (f_eSign (m23_i_piled.toInt + (-1)).toNat), .int 0]) (rest := []) ⟨hx, hb, hml, hown, hG⟩ (kX9_emit l dC dI r ct i_taped i_size i_faultKind i_at i_end i_token i_number i_bank i_rb m23_i_codes m23_i_within x584 i_unitsInRule i_askHouse i_askTune i_acts i_undone i_laid i_knowns i_time f_text f_tunes f_houses f_hums f_told f_many f_ruleFrom f_ruleTo m23_f_code f_eWhat f_eSign f_all f_kept f_was f_sTune f_boxAll m23_J L (f_eSign (m23_i_piled.toInt + (-1)).toNat) 0 H586.size ⟨ie0, ie1, ie2, ie3, ie4, ie5, ie6, ie7, ie8, ie9, ie10, ie11, ie12, ie13, ie14, ie15, ie16, ie17, ie18, ie19, ie20, ie21, ie22, ie23, ie24, ie25, ie26, ie27, ie28, ie29, ie30, ie31, gi23_RU⟩ (ob_377 hp0) (ob_378 g23_12) (ob_551 hp2 g23_4 g23_11)) (cwV 2 hG (goodV gw1484 gw1486 gw81 gw138 gw1487) rfl rfl rfl hd_X9_emit ⟨(Nat.le_of_ble_eq_true rfl), (Nat.le_of_ble_eq_true rfl)⟩) ⟨fbW, va_recv hK hP (ci := 8) (q0 := 0) rfl rfl, pW_in hP hK hD⟩ rfl rfl hl.1 rfl (lv_room (Nat.le_of_ble_eq_true rfl)) dX9_behindUnit_98 ⟨(Nat.le_of_ble_eq_true rfl), (Nat.le_of_ble_eq_true rfl)⟩) hS (fun q _ h => hFc q h) hFc (fun _ t_ H589 locs ht hvm hw hB hz1 hk1 hS => ?_)
              obtain ⟨x591, z592, J593, hP1, hD1, hI596, f594, f595⟩ := hB
              rw [ht] at hP1
              have hP := hP1
              have hD := dW hFc hD1
              obtain ⟨im597, im598, im599, im600, im601, im602, im603, im604, im605, im606, im607, im608, im609, im610, im611, im612, im613, im614, im615, im616, im617, im618, im619, im620, im621, im622, im623, im624, im625, im626, im627, im628, im629⟩ := id hI596
              have f630 : (f_eWhat (x584.toInt).toNat).toInt = (f_eWhat (m23_i_piled.toInt + (-1)).toNat).toInt := by rw [f585]
              have sp631 : SP f_eWhat f_eSign z592 x584.toInt m23_i_within.toInt (560 * i_rb.toInt) x591.toInt 0 := SPpop gr23_0 rfl rfl f595 (by rw [f585]) (ob_142 f594) (ob_518 f585) (ob_519 g23_8 f379) (ob_552 g23_5) (ob_384 ie6) (ob_378 g23_12) (ob_553 f378 f630) (ob_554 f588 f630)
              refine lv_goto (tgt := 23) hx hb dX9_behindUnit_101 (by decide) ?_
              exact ih23 x591 m23_i_within x584 z592 J593 H589 _ _ (ob_149 g23_0 f594) (ob_555 ie7 hp2 g23_8 g23_11 f594) (ob_139 g23_2) (ob_556 g23_3) (ob_510 g23_8 f585) (ob_557 g23_5 f585) (ob_139 g23_2) (ob_556 g23_3) (ob_558 g23_8 f379 f585) (ob_559 g23_9 f585) (ob_560 g23_10 f585) (ob_561 g23_11 f594 f585) (ob_562 g23_12 f594) im629 sp631 hP hD hS (lv_sub hl [0, 1] rfl) (ob_487 hM23 f585)
            · skip
              have f632 : (f_eWhat (m23_i_piled.toInt + (-1)).toNat).toInt = 3 := qi_eq c_587 rfl zc_3
              have f633 : (1 : Int) ≤ m23_i_within.toInt := (ob_563 f17 f632)
              refine lv_aload_n hx hb dX9_behindUnit_77 rfl (lv_at hl 0 rfl) ?_
              refine lv_dup hx hb dX9_behindUnit_78 rfl ?_
              refine gM_X9_299_0 hx hb hG hown hK hP dX9_behindUnit_79 ?_
              refine lv_iconst (v := 1) hx hb dX9_behindUnit_82 (by decide) ?_
              refine lv_isub hx hb dX9_behindUnit_83 ?_
              refine lv_topi (fun x634 ex634 => ?_)
              have f635 : x634.toInt = m23_i_within.toInt + (-1) := (ob_346 (qi_sub ex634 rfl zc_1 (ob_498 g23_2) (ob_517 g23_3)))
              refine pM_X9_299_0 hx hb hG hown hK hP hD hS dX9_behindUnit_84 (fun H636 locs hP hD hS => ?_)
              refine lv_aload_n hx hb dX9_behindUnit_87 rfl (lv_at hl 0 rfl) ?_
              refine lv_aload_n hx hb dX9_behindUnit_88 rfl (lv_at hl 0 rfl) ?_
              refine gM_X9_82_0 hx hb hG hown hK hP dX9_behindUnit_89 ?_
              refine lv_aload_n hx hb dX9_behindUnit_92 rfl (lv_at hl 0 rfl) ?_
              refine gM_X9_296_0 hx hb hG hown hK hP dX9_behindUnit_93 ?_
              refine ldM_23 (mm := m23_i_piled.toInt + (-1)) hx hb hK hP f585 (ob_500 g23_8) (ob_501 g23_5) dX9_behindUnit_96 ?_
              refine lv_iconst (v := 0) hx hb dX9_behindUnit_97 (by decide) ?_
              have hFc := frA hD hS hA
              refine va_callv (va_runV (As := [.int (f_eSign (m23_i_piled.toInt + (-1)).toNat), .int 0]) (rest := []) ⟨hx, hb, hml, hown, hG⟩ (kX9_emit l dC dI r ct i_taped i_size i_faultKind i_at i_end i_token i_number i_bank i_rb m23_i_codes x634 x584 i_unitsInRule i_askHouse i_askTune i_acts i_undone i_laid i_knowns i_time f_text f_tunes f_houses f_hums f_told f_many f_ruleFrom f_ruleTo m23_f_code f_eWhat f_eSign f_all f_kept f_was f_sTune f_boxAll m23_J L (f_eSign (m23_i_piled.toInt + (-1)).toNat) 0 H636.size ⟨ie0, ie1, ie2, ie3, ie4, ie5, ie6, ie7, ie8, ie9, ie10, ie11, ie12, ie13, ie14, ie15, ie16, ie17, ie18, ie19, ie20, ie21, ie22, ie23, ie24, ie25, ie26, ie27, ie28, ie29, ie30, ie31, gi23_RU⟩ (ob_377 hp0) (ob_378 g23_12) (ob_551 hp2 g23_4 g23_11)) (cwV 2 hG (goodV gw1484 gw1486 gw81 gw138 gw1487) rfl rfl rfl hd_X9_emit ⟨(Nat.le_of_ble_eq_true rfl), (Nat.le_of_ble_eq_true rfl)⟩) ⟨fbW, va_recv hK hP (ci := 8) (q0 := 0) rfl rfl, pW_in hP hK hD⟩ rfl rfl hl.1 rfl (lv_room (Nat.le_of_ble_eq_true rfl)) dX9_behindUnit_98 ⟨(Nat.le_of_ble_eq_true rfl), (Nat.le_of_ble_eq_true rfl)⟩) hS (fun q _ h => hFc q h) hFc (fun _ t_ H637 locs ht hvm hw hB hz1 hk1 hS => ?_)
              obtain ⟨x639, z640, J641, hP1, hD1, hI644, f642, f643⟩ := hB
              rw [ht] at hP1
              have hP := hP1
              have hD := dW hFc hD1
              obtain ⟨im645, im646, im647, im648, im649, im650, im651, im652, im653, im654, im655, im656, im657, im658, im659, im660, im661, im662, im663, im664, im665, im666, im667, im668, im669, im670, im671, im672, im673, im674, im675, im676, im677⟩ := id hI644
              have f678 : (f_eWhat (x584.toInt).toNat).toInt = (f_eWhat (m23_i_piled.toInt + (-1)).toNat).toInt := by rw [f585]
              have sp679 : SP f_eWhat f_eSign z640 x584.toInt x634.toInt (560 * i_rb.toInt) x639.toInt 0 := SPpop gr23_0 rfl rfl f643 (by rw [f585]) (ob_142 f642) (ob_518 f585) (ob_519 g23_8 f379) (ob_552 g23_5) (ob_384 ie6) (ob_378 g23_12) (ob_553 f378 f678) (ob_564 f632 f678 f635)
              refine lv_goto (tgt := 23) hx hb dX9_behindUnit_101 (by decide) ?_
              exact ih23 x639 x634 x584 z640 J641 H637 _ _ (ob_149 g23_0 f642) (ob_555 ie7 hp2 g23_8 g23_11 f642) (ob_510 f633 f635) (ob_565 g23_3 f635) (ob_510 g23_8 f585) (ob_557 g23_5 f585) (ob_510 f633 f635) (ob_565 g23_3 f635) (ob_558 g23_8 f379 f585) (ob_559 g23_9 f585) (ob_566 g23_10 f635 f585) (ob_561 g23_11 f642 f585) (ob_562 g23_12 f642) im677 sp679 hP hD hS (lv_sub hl [0, 1] rfl) (ob_487 hM23 f585)
    exact L23 (i_piled.toInt + 1).toNat i_codes i_within i_piled f_code J H3 _ _ (ob_567 ie6 hp6) (ob_568 ie7 hp2 hp5 hp8) (ob_569 hp3 hp4 hp7) (ob_570 hp3 hp4 hp7) (ob_571 hp5 hp7 hp8) (ob_572 hp2 hp4 hp7) (ob_569 hp3 hp4 hp7) (ob_570 hp3 hp4 hp7) (ob_573 hp5 hp7 hp8) (ob_146) (ob_574 hp7) (ob_575 hp8) (ob_378 hp6) ie32 hp11 hP hD hS (lv_sub hl [1, 0] rfl) (mlt (ob_576 hp5 hp7 hp8))
  · skip
    have f680 : r_4.toInt = 4 := qi_eq c_10 rfl zc_4
    have f681 : (4 : Int) ≤ r_4.toInt := (ob_577 f5 f6 f680)
    have f682 : (3 : Int) ≤ i_token.toInt := (ob_578 f8 f680)
    have f683 : (37 : Int) ≤ (sgz f_text i_size.toInt i_at.toInt) := (ob_579 f9 f680)
    have f684 : (sgz f_text i_size.toInt i_at.toInt) ≤ (62 : Int) := (ob_580 f9 f680)
    refine lv_aload_n hx hb dX9_behindUnit_10 rfl (lv_at hl 1 rfl) ?_
    refine va_calli (va_runV (As := []) (rest := []) ⟨hx, hb, hml, hown, hG⟩ (kX9_isCompared l dC dI r ct i_taped i_size i_faultKind i_at i_end i_token i_number i_bank i_rb i_codes i_within i_piled i_unitsInRule i_askHouse i_askTune i_acts i_undone i_laid i_knowns i_time f_text f_tunes f_houses f_hums f_told f_many f_ruleFrom f_ruleTo f_code f_eWhat f_eSign f_all f_kept f_was f_sTune f_boxAll J L H3.size hI (ob_573 hp5 hp7 hp8) (ob_581 hp2 hp4 hp7) (ob_582 hp9)) (cwV 0 hG (goodV gw1496 gw1498 gw84 gw138 gw1499) rfl rfl rfl hd_X9_isCompared ⟨(Nat.le_of_ble_eq_true rfl), (Nat.le_of_ble_eq_true rfl)⟩) ⟨fbR, va_recv hK hP (ci := 8) (q0 := 0) rfl rfl, pR_in hP hK⟩ rfl rfl hl.1 rfl (lv_room (Nat.le_of_ble_eq_true rfl)) dX9_behindUnit_11 ⟨(Nat.le_of_ble_eq_true rfl), (Nat.le_of_ble_eq_true rfl)⟩) hS (fun q hq h => absurd hq (Nat.not_lt.mpr h)) (fun q h => hA q (Nat.le_trans hS.1 h)) (fun r_686 u_ t_ H685 locs ht hvm hw hB hz1 hk1 hS => ?_)
    subst hw
    have hP := wk hP hk1
    obtain ⟨f687, f688, f689⟩ := hB
    refine lv_if_eq (tgt := 23) hx hb dX9_behindUnit_14 (by decide) (fun c_690 => ?_) (fun c_690 => ?_)
    · skip
      have f691 : r_686.toInt = 0 := qi_eq c_690 rfl zc_0
      have f692 : r_686.toInt = (0 : Int) := (ob_226 f688 f689 f691)
      have L23 : ∀ (N23 : Nat) (m23_i_codes m23_i_within m23_i_piled : Int32) (m23_f_code : Nat → Int32) (m23_J : Nat → Nat → Int32) (H23 : Heap) (locs : List Loc) (ls : Array Slot) (g23_0 : (0 : Int) ≤ m23_i_codes.toInt) (g23_1 : m23_i_codes.toInt ≤ (830 : Int)) (g23_2 : (0 : Int) ≤ m23_i_within.toInt) (g23_3 : m23_i_within.toInt ≤ (7 : Int)) (g23_4 : (0 : Int) ≤ m23_i_piled.toInt) (g23_5 : m23_i_piled.toInt ≤ (37 : Int)) (g23_6 : (0 : Int) ≤ m23_i_within.toInt) (g23_7 : m23_i_within.toInt ≤ (7 : Int)) (g23_8 : (1 : Int) ≤ m23_i_piled.toInt) (g23_9 : m23_i_piled.toInt ≤ i_piled.toInt) (g23_10 : m23_i_piled.toInt ≤ i_unitsInRule.toInt + m23_i_within.toInt) (g23_11 : m23_i_codes.toInt + m23_i_piled.toInt ≤ 560 * i_rb.toInt + 9 * i_unitsInRule.toInt) (g23_12 : 560 * i_rb.toInt ≤ m23_i_codes.toInt) (gi23_RU : RU i_bank f_told f_ruleFrom f_ruleTo m23_f_code) (gr23_0 : SP f_eWhat f_eSign m23_f_code m23_i_piled.toInt m23_i_within.toInt (560 * i_rb.toInt) m23_i_codes.toInt 0) (hP : va_P (dC, dI) vwCl (WM r ct i_taped i_size i_faultKind i_at i_end i_token i_number i_bank i_rb m23_i_codes m23_i_within m23_i_piled i_unitsInRule i_askHouse i_askTune i_acts i_undone i_laid i_knowns i_time f_text f_tunes f_houses f_hums f_told f_many f_ruleFrom f_ruleTo m23_f_code f_eWhat f_eSign f_all f_kept f_was f_sTune f_boxAll m23_J L) H23) (hD : va_D A (WM r ct i_taped i_size i_faultKind i_at i_end i_token i_number i_bank i_rb m23_i_codes m23_i_within m23_i_piled i_unitsInRule i_askHouse i_askTune i_acts i_undone i_laid i_knowns i_time f_text f_tunes f_houses f_hums f_told f_many f_ruleFrom f_ruleTo m23_f_code f_eWhat f_eSign f_all f_kept f_was f_sTune f_boxAll m23_J L)) (hS : va_S A s.heap H23 locs) (hl : lv_has ls 2 [(0, .ref (r 0)), (1, .int r_4)]) (hM : m23_i_piled.toInt < (N23 : Int)), W p l e { frames := 8, cells := 0, slots := 0, locals := 285 } s m ([.ref (r 0)] : List Value).toArray below meth c0 H23 locs 0 0 Q (F0 m 23 ls []) := by
        intro N23
        induction N23 with
        | zero =>
          intro m23_i_codes m23_i_within m23_i_piled m23_f_code m23_J H23 locs ls g23_0 g23_1 g23_2 g23_3 g23_4 g23_5 g23_6 g23_7 g23_8 g23_9 g23_10 g23_11 g23_12 gi23_RU gr23_0 hP hD hS hl hM
          exact ((ob_478 hM g23_4)).elim
        | succ N23 ih23 =>
          intro m23_i_codes m23_i_within m23_i_piled m23_f_code m23_J H23 locs ls g23_0 g23_1 g23_2 g23_3 g23_4 g23_5 g23_6 g23_7 g23_8 g23_9 g23_10 g23_11 g23_12 gi23_RU gr23_0 hP hD hS hl hM
          have hM23 := msucc hM
          refine lv_aload_n hx hb dX9_behindUnit_23 rfl (lv_at hl 0 rfl) ?_
          have f693 := SP.nn gr23_0 (ob_398 g23_8)
          refine gM_X9_79_0 hx hb hG hown hK hP dX9_behindUnit_24 ?_
          refine lv_aload_n hx hb dX9_behindUnit_27 rfl (lv_at hl 0 rfl) ?_
          refine gM_X9_296_0 hx hb hG hown hK hP dX9_behindUnit_28 ?_
          refine lv_iconst (v := 1) hx hb dX9_behindUnit_31 (by decide) ?_
          refine lv_isub hx hb dX9_behindUnit_32 ?_
          refine lv_topi (fun x694 ex694 => ?_)
          have f695 : x694.toInt = m23_i_piled.toInt + (-1) := (ob_346 (qi_sub ex694 rfl zc_1 (ob_498 g23_4) (ob_499 g23_5)))
          refine ldM_22 (mm := m23_i_piled.toInt + (-1)) hx hb hK hP f695 (ob_500 g23_8) (ob_501 g23_5) dX9_behindUnit_33 ?_
          have f696 : m23_i_piled.toInt + (-1) = 0 → (f_eWhat (m23_i_piled.toInt + (-1)).toNat).toInt = (f_eWhat ((0 : Int)).toNat).toInt := (fun h => by rw [h])
          have f697 : 1 ≤ m23_i_piled.toInt + (-1) → 1 ≤ (f_eWhat (m23_i_piled.toInt + (-1)).toNat).toInt ∧ (f_eWhat (m23_i_piled.toInt + (-1)).toNat).toInt ≤ 7 := SP.rg (k := m23_i_piled.toInt + (-1)) gr23_0 (ob_502)
          have f698 : ((f_eWhat (m23_i_piled.toInt + (-1)).toNat).toInt = 3 ∨ (f_eWhat (m23_i_piled.toInt + (-1)).toNat).toInt = 7) → 1 ≤ m23_i_within.toInt := SP.ge1 (k := m23_i_piled.toInt + (-1)) gr23_0 (ob_503) (ob_500 g23_8)
          refine lv_bipush (v := 6) hx hb dX9_behindUnit_34 (by decide) ?_
          refine lv_icmp_gt (tgt := 104) hx hb dX9_behindUnit_36 (by decide) (fun c_699 => ?_) (fun c_699 => ?_)
          · skip
            have f700 : 6 < (f_eWhat (m23_i_piled.toInt + (-1)).toNat).toInt := qi_lt c_699 zc_6 rfl
            refine lv_iload_n hx hb dX9_behindUnit_104 rfl (lv_at hl 1 rfl) ?_
            refine lv_if_le (tgt := 147) hx hb dX9_behindUnit_105 (by decide) (fun c_701 => ((ob_583 (qi_le c_701 rfl zc_0) f680)).elim) (fun c_701 => ?_)
            have f702 : 0 < r_4.toInt := qi_nle c_701 rfl zc_0
            refine lv_aload_n hx hb dX9_behindUnit_108 rfl (lv_at hl 0 rfl) ?_
            refine lv_iload_n hx hb dX9_behindUnit_109 rfl (lv_at hl 1 rfl) ?_
            refine lv_iload_n hx hb dX9_behindUnit_110 rfl (lv_at hl 1 rfl) ?_
            refine lv_iconst (v := 2) hx hb dX9_behindUnit_111 (by decide) ?_
            refine lv_icmp_ne (tgt := 120) hx hb dX9_behindUnit_112 (by decide) (fun c_703 => ?_) (fun c_703 => ((ob_584 (qi_eq c_703 rfl zc_2) f680)).elim)
            have f704 : r_4.toInt ≠ 2 := qi_ne c_703 rfl zc_2
            have f705 : (3 : Int) ≤ r_4.toInt := (ob_585 f680)
            refine lv_iload_n hx hb dX9_behindUnit_120 rfl (lv_at hl 1 rfl) ?_
            refine lv_iconst (v := 1) hx hb dX9_behindUnit_121 (by decide) ?_
            refine lv_icmp_ne (tgt := 130) hx hb dX9_behindUnit_122 (by decide) (fun c_706 => ?_) (fun c_706 => ((ob_586 (qi_eq c_706 rfl zc_1) f680)).elim)
            have f707 : r_4.toInt ≠ 1 := qi_ne c_706 rfl zc_1
            have f708 : (2 : Int) ≤ r_4.toInt := (ob_587 f680)
            refine lv_aload_n hx hb dX9_behindUnit_130 rfl (lv_at hl 0 rfl) ?_
            refine lv_aload_n hx hb dX9_behindUnit_131 rfl (lv_at hl 0 rfl) ?_
            refine gM_X9_184_0 hx hb hG hown hK hP dX9_behindUnit_132 ?_
            refine va_calli (va_runV (As := [.int i_at]) (rest := [.int r_4, .ref (r 0)]) ⟨hx, hb, hml, hown, hG⟩ (kX9_sign l dC dI r ct i_taped i_size i_faultKind i_at i_end i_token i_number i_bank i_rb m23_i_codes m23_i_within m23_i_piled i_unitsInRule i_askHouse i_askTune i_acts i_undone i_laid i_knowns i_time f_text f_tunes f_houses f_hums f_told f_many f_ruleFrom f_ruleTo m23_f_code f_eWhat f_eSign f_all f_kept f_was f_sTune f_boxAll m23_J L i_at H23.size ⟨ie0, ie1, ie2, ie3, ie4, ie5, ie6, ie7, ie8, ie9, ie10, ie11, ie12, ie13, ie14, ie15, ie16, ie17, ie18, ie19, ie20, ie21, ie22, ie23, ie24, ie25, ie26, ie27, ie28, ie29, ie30, ie31, gi23_RU⟩ (ob_139 ie16)) (cwV 1 hG (goodV gw1366 gw1368 gw60 gw138 gw1369) rfl rfl rfl hd_X9_sign ⟨(Nat.le_of_ble_eq_true rfl), (Nat.le_of_ble_eq_true rfl)⟩) ⟨fbR, va_recv hK hP (ci := 8) (q0 := 0) rfl rfl, pR_in hP hK⟩ rfl rfl hl.1 rfl (lv_room (Nat.le_of_ble_eq_true rfl)) dX9_behindUnit_135 ⟨(Nat.le_of_ble_eq_true rfl), (Nat.le_of_ble_eq_true rfl)⟩) hS (fun q hq h => absurd hq (Nat.not_lt.mpr h)) (fun q h => hA q (Nat.le_trans hS.1 h)) (fun r_710 u_ t_ H709 locs ht hvm hw hB hz1 hk1 hS => ?_)
            subst hw
            have hP := wk hP hk1
            obtain ⟨f711, f712, f713, f714⟩ := hB
            have f715 : r_710.toInt = (sgz f_text i_size.toInt i_at.toInt) := (ob_6 f711)
            have hFc := frA hD hS hA
            refine va_callv (va_runV (As := [.int r_4, .int r_710]) (rest := []) ⟨hx, hb, hml, hown, hG⟩ (kX9_pushE l dC dI r ct i_taped i_size i_faultKind i_at i_end i_token i_number i_bank i_rb m23_i_codes m23_i_within m23_i_piled i_unitsInRule i_askHouse i_askTune i_acts i_undone i_laid i_knowns i_time f_text f_tunes f_houses f_hums f_told f_many f_ruleFrom f_ruleTo m23_f_code f_eWhat f_eSign f_all f_kept f_was f_sTune f_boxAll m23_J L r_4 r_710 H709.size ⟨ie0, ie1, ie2, ie3, ie4, ie5, ie6, ie7, ie8, ie9, ie10, ie11, ie12, ie13, ie14, ie15, ie16, ie17, ie18, ie19, ie20, ie21, ie22, ie23, ie24, ie25, ie26, ie27, ie28, ie29, ie30, ie31, gi23_RU⟩ (ob_139 g23_4) (ob_529 g23_5)) (cwV 2 hG (goodV gw1468 gw1470 gw77 gw138 gw1471) rfl rfl rfl hd_X9_pushE ⟨(Nat.le_of_ble_eq_true rfl), (Nat.le_of_ble_eq_true rfl)⟩) ⟨fbW, va_recv hK hP (ci := 8) (q0 := 0) rfl rfl, pW_in hP hK hD⟩ rfl rfl hl.1 rfl (lv_room (Nat.le_of_ble_eq_true rfl)) dX9_behindUnit_138 ⟨(Nat.le_of_ble_eq_true rfl), (Nat.le_of_ble_eq_true rfl)⟩) hS (fun q _ h => hFc q h) hFc (fun _ t_ H716 locs ht hvm hw hB hz1 hk1 hS => ?_)
            obtain ⟨x718, z719, z720, hP1, hD1, hI724, f721, f722, f723⟩ := hB
            rw [ht] at hP1
            have hP := hP1
            have hD := dW hFc hD1
            obtain ⟨im725, im726, im727, im728, im729, im730, im731, im732, im733, im734, im735, im736, im737, im738, im739, im740, im741, im742, im743, im744, im745, im746, im747, im748, im749, im750, im751, im752, im753, im754, im755, im756, im757⟩ := id hI724
            have f758 : (z719 ((0 : Int)).toNat).toInt = (f_eWhat ((0 : Int)).toNat).toInt := (by rw [f722, upd_off (ne0 (ob_398 g23_8))])
            refine lv_aload_n hx hb dX9_behindUnit_141 rfl (lv_at hl 0 rfl) ?_
            have hFc := frA hD hS hA
            refine va_callv (va_runV (As := []) (rest := []) ⟨hx, hb, hml, hown, hG⟩ (kX9_goOn l dC dI r ct i_taped i_size i_faultKind i_at i_end i_token i_number i_bank i_rb m23_i_codes m23_i_within x718 i_unitsInRule i_askHouse i_askTune i_acts i_undone i_laid i_knowns i_time f_text f_tunes f_houses f_hums f_told f_many f_ruleFrom f_ruleTo m23_f_code z719 z720 f_all f_kept f_was f_sTune f_boxAll m23_J L H716.size hI724) (cwV 0 hG (goodV gw1362 gw1364 gw59 gw138 gw1365) rfl rfl rfl hd_X9_goOn ⟨(Nat.le_of_ble_eq_true rfl), (Nat.le_of_ble_eq_true rfl)⟩) ⟨fbW, va_recv hK hP (ci := 8) (q0 := 0) rfl rfl, pW_in hP hK hD⟩ rfl rfl hl.1 rfl (lv_room (Nat.le_of_ble_eq_true rfl)) dX9_behindUnit_142 ⟨(Nat.le_of_ble_eq_true rfl), (Nat.le_of_ble_eq_true rfl)⟩) hS (fun q _ h => hFc q h) hFc (fun _ t_ H759 locs ht hvm hw hB hz1 hk1 hS => ?_)
            obtain ⟨x761, x762, x763, x764, L765, hP1, hD1, hI769, f766, f767, f768⟩ := hB
            rw [ht] at hP1
            have hP := hP1
            have hD := dW hFc hD1
            obtain ⟨im770, im771, im772, im773, im774, im775, im776, im777, im778, im779, im780, im781, im782, im783, im784, im785, im786, im787, im788, im789, im790, im791, im792, im793, im794, im795, im796, im797, im798, im799, im800, im801, im802⟩ := id hI769
            refine lv_iconst (v := 1) hx hb dX9_behindUnit_145 (by decide) ?_
            rw [hQ]
            exact W.zret (v := 1) hx hb hr (by decide) (fun t ht hW => ⟨⟨1, 1, rfl, rfl, ⟨i_faultKind, x761, x762, x763, x764, m23_i_codes, m23_i_within, x718, m23_f_code, z719, z720, m23_J, L765, by rw [ht]; exact hP, hD, hI769, (ob_14 zc_1), (ob_15 zc_1), (fun _ _ => SPpush gr23_0 f722 f723 (ob_398 g23_8) (ob_142 f721) (Or.inr ⟨(ob_588 f680), (dl_op (ob_531 f684 f715)), rfl, (ob_532 zc_1)⟩)), (fun _ => gr23_0.2.2.2.2), (ob_149 g23_4 f721), (ob_533 g23_5 f721), (ob_145 f766), (ob_589 ie2 ie17 hp9 f8 f680 g23_2 g23_3 g23_4 g23_9 g23_10 g23_11 g23_12 f721 f758 f768 zc_1)⟩⟩, hS.F ht⟩) hS.2.2 dX9_behindUnit_146
          · skip
            have f803 : (f_eWhat (m23_i_piled.toInt + (-1)).toNat).toInt ≤ 6 := qi_nlt c_699 zc_6 rfl
            have f804 : m23_i_piled.toInt ≠ (1 : Int) := (ob_544 hp9 f696 f803)
            have f805 : (1 : Int) ≤ (f_eWhat (m23_i_piled.toInt + (-1)).toNat).toInt := (ob_545 hp9 g23_8 f696 f697)
            have f806 : (f_eWhat (m23_i_piled.toInt + (-1)).toNat).toInt ≤ (7 : Int) := (ob_546 f803 f805)
            refine lv_aload_n hx hb dX9_behindUnit_39 rfl (lv_at hl 0 rfl) ?_
            refine gM_X9_79_0 hx hb hG hown hK hP dX9_behindUnit_40 ?_
            refine lv_aload_n hx hb dX9_behindUnit_43 rfl (lv_at hl 0 rfl) ?_
            refine gM_X9_296_0 hx hb hG hown hK hP dX9_behindUnit_44 ?_
            refine lv_iconst (v := 1) hx hb dX9_behindUnit_47 (by decide) ?_
            refine lv_isub hx hb dX9_behindUnit_48 ?_
            refine lv_topi (fun x807 ex807 => ?_)
            have f808 : x807.toInt = m23_i_piled.toInt + (-1) := (ob_346 (qi_sub ex807 rfl zc_1 (ob_498 g23_4) (ob_499 g23_5)))
            refine ldM_22 (mm := m23_i_piled.toInt + (-1)) hx hb hK hP f808 (ob_500 g23_8) (ob_501 g23_5) dX9_behindUnit_49 ?_
            refine lv_iload_n hx hb dX9_behindUnit_50 rfl (lv_at hl 1 rfl) ?_
            refine lv_icmp_lt (tgt := 104) hx hb dX9_behindUnit_51 (by decide) (fun c_809 => ?_) (fun c_809 => ?_)
            · skip
              have f810 : (f_eWhat (m23_i_piled.toInt + (-1)).toNat).toInt < r_4.toInt := qi_lt c_809 rfl rfl
              refine lv_iload_n hx hb dX9_behindUnit_104 rfl (lv_at hl 1 rfl) ?_
              refine lv_if_le (tgt := 147) hx hb dX9_behindUnit_105 (by decide) (fun c_811 => ((ob_583 (qi_le c_811 rfl zc_0) f680)).elim) (fun c_811 => ?_)
              have f812 : 0 < r_4.toInt := qi_nle c_811 rfl zc_0
              refine lv_aload_n hx hb dX9_behindUnit_108 rfl (lv_at hl 0 rfl) ?_
              refine lv_iload_n hx hb dX9_behindUnit_109 rfl (lv_at hl 1 rfl) ?_
              refine lv_iload_n hx hb dX9_behindUnit_110 rfl (lv_at hl 1 rfl) ?_
              refine lv_iconst (v := 2) hx hb dX9_behindUnit_111 (by decide) ?_
              refine lv_icmp_ne (tgt := 120) hx hb dX9_behindUnit_112 (by decide) (fun c_813 => ?_) (fun c_813 => ((ob_584 (qi_eq c_813 rfl zc_2) f680)).elim)
              have f814 : r_4.toInt ≠ 2 := qi_ne c_813 rfl zc_2
              have f815 : (3 : Int) ≤ r_4.toInt := (ob_585 f680)
              refine lv_iload_n hx hb dX9_behindUnit_120 rfl (lv_at hl 1 rfl) ?_
              refine lv_iconst (v := 1) hx hb dX9_behindUnit_121 (by decide) ?_
              refine lv_icmp_ne (tgt := 130) hx hb dX9_behindUnit_122 (by decide) (fun c_816 => ?_) (fun c_816 => ((ob_586 (qi_eq c_816 rfl zc_1) f680)).elim)
              have f817 : r_4.toInt ≠ 1 := qi_ne c_816 rfl zc_1
              have f818 : (2 : Int) ≤ r_4.toInt := (ob_587 f680)
              refine lv_aload_n hx hb dX9_behindUnit_130 rfl (lv_at hl 0 rfl) ?_
              refine lv_aload_n hx hb dX9_behindUnit_131 rfl (lv_at hl 0 rfl) ?_
              refine gM_X9_184_0 hx hb hG hown hK hP dX9_behindUnit_132 ?_
              refine va_calli (va_runV (As := [.int i_at]) (rest := [.int r_4, .ref (r 0)]) ⟨hx, hb, hml, hown, hG⟩ (kX9_sign l dC dI r ct i_taped i_size i_faultKind i_at i_end i_token i_number i_bank i_rb m23_i_codes m23_i_within m23_i_piled i_unitsInRule i_askHouse i_askTune i_acts i_undone i_laid i_knowns i_time f_text f_tunes f_houses f_hums f_told f_many f_ruleFrom f_ruleTo m23_f_code f_eWhat f_eSign f_all f_kept f_was f_sTune f_boxAll m23_J L i_at H23.size ⟨ie0, ie1, ie2, ie3, ie4, ie5, ie6, ie7, ie8, ie9, ie10, ie11, ie12, ie13, ie14, ie15, ie16, ie17, ie18, ie19, ie20, ie21, ie22, ie23, ie24, ie25, ie26, ie27, ie28, ie29, ie30, ie31, gi23_RU⟩ (ob_139 ie16)) (cwV 1 hG (goodV gw1366 gw1368 gw60 gw138 gw1369) rfl rfl rfl hd_X9_sign ⟨(Nat.le_of_ble_eq_true rfl), (Nat.le_of_ble_eq_true rfl)⟩) ⟨fbR, va_recv hK hP (ci := 8) (q0 := 0) rfl rfl, pR_in hP hK⟩ rfl rfl hl.1 rfl (lv_room (Nat.le_of_ble_eq_true rfl)) dX9_behindUnit_135 ⟨(Nat.le_of_ble_eq_true rfl), (Nat.le_of_ble_eq_true rfl)⟩) hS (fun q hq h => absurd hq (Nat.not_lt.mpr h)) (fun q h => hA q (Nat.le_trans hS.1 h)) (fun r_820 u_ t_ H819 locs ht hvm hw hB hz1 hk1 hS => ?_)
              subst hw
              have hP := wk hP hk1
              obtain ⟨f821, f822, f823, f824⟩ := hB
              have f825 : r_820.toInt = (sgz f_text i_size.toInt i_at.toInt) := (ob_6 f821)
              have hFc := frA hD hS hA
              refine va_callv (va_runV (As := [.int r_4, .int r_820]) (rest := []) ⟨hx, hb, hml, hown, hG⟩ (kX9_pushE l dC dI r ct i_taped i_size i_faultKind i_at i_end i_token i_number i_bank i_rb m23_i_codes m23_i_within m23_i_piled i_unitsInRule i_askHouse i_askTune i_acts i_undone i_laid i_knowns i_time f_text f_tunes f_houses f_hums f_told f_many f_ruleFrom f_ruleTo m23_f_code f_eWhat f_eSign f_all f_kept f_was f_sTune f_boxAll m23_J L r_4 r_820 H819.size ⟨ie0, ie1, ie2, ie3, ie4, ie5, ie6, ie7, ie8, ie9, ie10, ie11, ie12, ie13, ie14, ie15, ie16, ie17, ie18, ie19, ie20, ie21, ie22, ie23, ie24, ie25, ie26, ie27, ie28, ie29, ie30, ie31, gi23_RU⟩ (ob_139 g23_4) (ob_529 g23_5)) (cwV 2 hG (goodV gw1468 gw1470 gw77 gw138 gw1471) rfl rfl rfl hd_X9_pushE ⟨(Nat.le_of_ble_eq_true rfl), (Nat.le_of_ble_eq_true rfl)⟩) ⟨fbW, va_recv hK hP (ci := 8) (q0 := 0) rfl rfl, pW_in hP hK hD⟩ rfl rfl hl.1 rfl (lv_room (Nat.le_of_ble_eq_true rfl)) dX9_behindUnit_138 ⟨(Nat.le_of_ble_eq_true rfl), (Nat.le_of_ble_eq_true rfl)⟩) hS (fun q _ h => hFc q h) hFc (fun _ t_ H826 locs ht hvm hw hB hz1 hk1 hS => ?_)
              obtain ⟨x828, z829, z830, hP1, hD1, hI834, f831, f832, f833⟩ := hB
              rw [ht] at hP1
              have hP := hP1
              have hD := dW hFc hD1
              obtain ⟨im835, im836, im837, im838, im839, im840, im841, im842, im843, im844, im845, im846, im847, im848, im849, im850, im851, im852, im853, im854, im855, im856, im857, im858, im859, im860, im861, im862, im863, im864, im865, im866, im867⟩ := id hI834
              have f868 : (z829 ((0 : Int)).toNat).toInt = (f_eWhat ((0 : Int)).toNat).toInt := (by rw [f832, upd_off (ne0 (ob_398 g23_8))])
              refine lv_aload_n hx hb dX9_behindUnit_141 rfl (lv_at hl 0 rfl) ?_
              have hFc := frA hD hS hA
              refine va_callv (va_runV (As := []) (rest := []) ⟨hx, hb, hml, hown, hG⟩ (kX9_goOn l dC dI r ct i_taped i_size i_faultKind i_at i_end i_token i_number i_bank i_rb m23_i_codes m23_i_within x828 i_unitsInRule i_askHouse i_askTune i_acts i_undone i_laid i_knowns i_time f_text f_tunes f_houses f_hums f_told f_many f_ruleFrom f_ruleTo m23_f_code z829 z830 f_all f_kept f_was f_sTune f_boxAll m23_J L H826.size hI834) (cwV 0 hG (goodV gw1362 gw1364 gw59 gw138 gw1365) rfl rfl rfl hd_X9_goOn ⟨(Nat.le_of_ble_eq_true rfl), (Nat.le_of_ble_eq_true rfl)⟩) ⟨fbW, va_recv hK hP (ci := 8) (q0 := 0) rfl rfl, pW_in hP hK hD⟩ rfl rfl hl.1 rfl (lv_room (Nat.le_of_ble_eq_true rfl)) dX9_behindUnit_142 ⟨(Nat.le_of_ble_eq_true rfl), (Nat.le_of_ble_eq_true rfl)⟩) hS (fun q _ h => hFc q h) hFc (fun _ t_ H869 locs ht hvm hw hB hz1 hk1 hS => ?_)
              obtain ⟨x871, x872, x873, x874, L875, hP1, hD1, hI879, f876, f877, f878⟩ := hB
              rw [ht] at hP1
              have hP := hP1
              have hD := dW hFc hD1
              obtain ⟨im880, im881, im882, im883, im884, im885, im886, im887, im888, im889, im890, im891, im892, im893, im894, im895, im896, im897, im898, im899, im900, im901, im902, im903, im904, im905, im906, im907, im908, im909, im910, im911, im912⟩ := id hI879
              refine lv_iconst (v := 1) hx hb dX9_behindUnit_145 (by decide) ?_
              rw [hQ]
              exact W.zret (v := 1) hx hb hr (by decide) (fun t ht hW => ⟨⟨1, 1, rfl, rfl, ⟨i_faultKind, x871, x872, x873, x874, m23_i_codes, m23_i_within, x828, m23_f_code, z829, z830, m23_J, L875, by rw [ht]; exact hP, hD, hI879, (ob_14 zc_1), (ob_15 zc_1), (fun _ _ => SPpush gr23_0 f832 f833 (ob_398 g23_8) (ob_142 f831) (Or.inr ⟨(ob_588 f680), (dl_op (ob_531 f684 f825)), rfl, (ob_532 zc_1)⟩)), (fun _ => gr23_0.2.2.2.2), (ob_149 g23_4 f831), (ob_533 g23_5 f831), (ob_145 f876), (ob_590 ie2 ie3 ie4 ie5 ie6 ie17 hp9 f8 f680 g23_2 g23_3 g23_4 g23_9 g23_10 g23_11 g23_12 f831 f868 f878 zc_1)⟩⟩, hS.F ht⟩) hS.2.2 dX9_behindUnit_146
            · skip
              have f913 : r_4.toInt ≤ (f_eWhat (m23_i_piled.toInt + (-1)).toNat).toInt := qi_nlt c_809 rfl rfl
              refine lv_aload_n hx hb dX9_behindUnit_54 rfl (lv_at hl 0 rfl) ?_
              refine lv_dup hx hb dX9_behindUnit_55 rfl ?_
              refine gM_X9_296_0 hx hb hG hown hK hP dX9_behindUnit_56 ?_
              refine lv_iconst (v := 1) hx hb dX9_behindUnit_59 (by decide) ?_
              refine lv_isub hx hb dX9_behindUnit_60 ?_
              refine lv_topi (fun x914 ex914 => ?_)
              have f915 : x914.toInt = m23_i_piled.toInt + (-1) := (ob_346 (qi_sub ex914 rfl zc_1 (ob_498 g23_4) (ob_499 g23_5)))
              refine pM_X9_296_0 hx hb hG hown hK hP hD hS dX9_behindUnit_61 (fun H916 locs hP hD hS => ?_)
              refine lv_aload_n hx hb dX9_behindUnit_64 rfl (lv_at hl 0 rfl) ?_
              refine gM_X9_79_0 hx hb hG hown hK hP dX9_behindUnit_65 ?_
              refine lv_aload_n hx hb dX9_behindUnit_68 rfl (lv_at hl 0 rfl) ?_
              refine gM_X9_296_0 hx hb hG hown hK hP dX9_behindUnit_69 ?_
              refine ldM_22 (mm := m23_i_piled.toInt + (-1)) hx hb hK hP f915 (ob_500 g23_8) (ob_501 g23_5) dX9_behindUnit_72 ?_
              refine lv_iconst (v := 3) hx hb dX9_behindUnit_73 (by decide) ?_
              refine lv_icmp_ne (tgt := 87) hx hb dX9_behindUnit_74 (by decide) (fun c_917 => ?_) (fun c_917 => ((ob_591 (qi_eq c_917 rfl zc_3) f680 f913)).elim)
              have f918 : (f_eWhat (m23_i_piled.toInt + (-1)).toNat).toInt ≠ 3 := qi_ne c_917 rfl zc_3
              refine lv_aload_n hx hb dX9_behindUnit_87 rfl (lv_at hl 0 rfl) ?_
              refine lv_aload_n hx hb dX9_behindUnit_88 rfl (lv_at hl 0 rfl) ?_
              refine gM_X9_82_0 hx hb hG hown hK hP dX9_behindUnit_89 ?_
              refine lv_aload_n hx hb dX9_behindUnit_92 rfl (lv_at hl 0 rfl) ?_
              refine gM_X9_296_0 hx hb hG hown hK hP dX9_behindUnit_93 ?_
              refine ldM_23 (mm := m23_i_piled.toInt + (-1)) hx hb hK hP f915 (ob_500 g23_8) (ob_501 g23_5) dX9_behindUnit_96 ?_
              refine lv_iconst (v := 0) hx hb dX9_behindUnit_97 (by decide) ?_
              have hFc := frA hD hS hA
              refine va_callv (va_runV (As := [.int (f_eSign (m23_i_piled.toInt + (-1)).toNat), .int 0]) (rest := []) ⟨hx, hb, hml, hown, hG⟩ (kX9_emit l dC dI r ct i_taped i_size i_faultKind i_at i_end i_token i_number i_bank i_rb m23_i_codes m23_i_within x914 i_unitsInRule i_askHouse i_askTune i_acts i_undone i_laid i_knowns i_time f_text f_tunes f_houses f_hums f_told f_many f_ruleFrom f_ruleTo m23_f_code f_eWhat f_eSign f_all f_kept f_was f_sTune f_boxAll m23_J L (f_eSign (m23_i_piled.toInt + (-1)).toNat) 0 H916.size ⟨ie0, ie1, ie2, ie3, ie4, ie5, ie6, ie7, ie8, ie9, ie10, ie11, ie12, ie13, ie14, ie15, ie16, ie17, ie18, ie19, ie20, ie21, ie22, ie23, ie24, ie25, ie26, ie27, ie28, ie29, ie30, ie31, gi23_RU⟩ (ob_377 hp0) (ob_378 g23_12) (ob_551 hp2 g23_4 g23_11)) (cwV 2 hG (goodV gw1484 gw1486 gw81 gw138 gw1487) rfl rfl rfl hd_X9_emit ⟨(Nat.le_of_ble_eq_true rfl), (Nat.le_of_ble_eq_true rfl)⟩) ⟨fbW, va_recv hK hP (ci := 8) (q0 := 0) rfl rfl, pW_in hP hK hD⟩ rfl rfl hl.1 rfl (lv_room (Nat.le_of_ble_eq_true rfl)) dX9_behindUnit_98 ⟨(Nat.le_of_ble_eq_true rfl), (Nat.le_of_ble_eq_true rfl)⟩) hS (fun q _ h => hFc q h) hFc (fun _ t_ H919 locs ht hvm hw hB hz1 hk1 hS => ?_)
              obtain ⟨x921, z922, J923, hP1, hD1, hI926, f924, f925⟩ := hB
              rw [ht] at hP1
              have hP := hP1
              have hD := dW hFc hD1
              obtain ⟨im927, im928, im929, im930, im931, im932, im933, im934, im935, im936, im937, im938, im939, im940, im941, im942, im943, im944, im945, im946, im947, im948, im949, im950, im951, im952, im953, im954, im955, im956, im957, im958, im959⟩ := id hI926
              have f960 : (f_eWhat (x914.toInt).toNat).toInt = (f_eWhat (m23_i_piled.toInt + (-1)).toNat).toInt := by rw [f915]
              have sp961 : SP f_eWhat f_eSign z922 x914.toInt m23_i_within.toInt (560 * i_rb.toInt) x921.toInt 0 := SPpop gr23_0 rfl rfl f925 (by rw [f915]) (ob_142 f924) (ob_518 f915) (ob_519 g23_8 f804) (ob_552 g23_5) (ob_384 ie6) (ob_378 g23_12) (ob_553 f803 f960) (ob_554 f918 f960)
              refine lv_goto (tgt := 23) hx hb dX9_behindUnit_101 (by decide) ?_
              exact ih23 x921 m23_i_within x914 z922 J923 H919 _ _ (ob_149 g23_0 f924) (ob_555 ie7 hp2 g23_8 g23_11 f924) (ob_139 g23_2) (ob_556 g23_3) (ob_510 g23_8 f915) (ob_557 g23_5 f915) (ob_139 g23_2) (ob_556 g23_3) (ob_558 g23_8 f804 f915) (ob_559 g23_9 f915) (ob_560 g23_10 f915) (ob_561 g23_11 f924 f915) (ob_562 g23_12 f924) im959 sp961 hP hD hS (lv_sub hl [0, 1] rfl) (ob_487 hM23 f915)
      exact L23 (i_piled.toInt + 1).toNat i_codes i_within i_piled f_code J H685 _ _ (ob_567 ie6 hp6) (ob_568 ie7 hp2 hp5 hp8) (ob_569 hp3 hp4 hp7) (ob_570 hp3 hp4 hp7) (ob_571 hp5 hp7 hp8) (ob_572 hp2 hp4 hp7) (ob_569 hp3 hp4 hp7) (ob_570 hp3 hp4 hp7) (ob_573 hp5 hp7 hp8) (ob_146) (ob_574 hp7) (ob_575 hp8) (ob_378 hp6) ie32 hp11 hP hD hS (lv_sub hl [1, 0] rfl) (mlt (ob_576 hp5 hp7 hp8))
    · skip
      have f962 : r_686.toInt ≠ 0 := qi_ne c_690 rfl zc_0
      have f963 : r_686.toInt = (1 : Int) := (ob_592 f687 f962)
      have f964 : (1 : Int) ≤ r_686.toInt := (ob_162 f688 f689 f963)
      refine lv_aload_n hx hb dX9_behindUnit_17 rfl (lv_at hl 1 rfl) ?_
      have hFc := frA hD hS hA
      refine va_callv (va_runV (As := []) (rest := []) ⟨hx, hb, hml, hown, hG⟩ (kX9_misplaced l dC dI r ct i_taped i_size i_faultKind i_at i_end i_token i_number i_bank i_rb i_codes i_within i_piled i_unitsInRule i_askHouse i_askTune i_acts i_undone i_laid i_knowns i_time f_text f_tunes f_houses f_hums f_told f_many f_ruleFrom f_ruleTo f_code f_eWhat f_eSign f_all f_kept f_was f_sTune f_boxAll J L H685.size hI) (cwV 0 hG (goodV gw1420 gw1422 gw65 gw138 gw1423) rfl rfl rfl hd_X9_misplaced ⟨(Nat.le_of_ble_eq_true rfl), (Nat.le_of_ble_eq_true rfl)⟩) ⟨fbW, va_recv hK hP (ci := 8) (q0 := 0) rfl rfl, pW_in hP hK hD⟩ rfl rfl hl.1 rfl (lv_room (Nat.le_of_ble_eq_true rfl)) dX9_behindUnit_18 ⟨(Nat.le_of_ble_eq_true rfl), (Nat.le_of_ble_eq_true rfl)⟩) hS (fun q _ h => hFc q h) hFc (fun _ t_ H965 locs ht hvm hw hB hz1 hk1 hS => ?_)
      obtain ⟨x967, J968, hP1, hD1, hI970, f969⟩ := hB
      rw [ht] at hP1
      have hP := hP1
      have hD := dW hFc hD1
      obtain ⟨im971, im972, im973, im974, im975, im976, im977, im978, im979, im980, im981, im982, im983, im984, im985, im986, im987, im988, im989, im990, im991, im992, im993, im994, im995, im996, im997, im998, im999, im1000, im1001, im1002, im1003⟩ := id hI970
      refine lv_iconst (v := 1) hx hb dX9_behindUnit_21 (by decide) ?_
      rw [hQ]
      exact W.zret (v := 1) hx hb hr (by decide) (fun t ht hW => ⟨⟨1, 1, rfl, rfl, ⟨x967, i_at, i_end, i_token, i_number, i_codes, i_within, i_piled, f_code, f_eWhat, f_eSign, J968, L, by rw [ht]; exact hP, hD, hI970, (ob_14 zc_1), (ob_15 zc_1), (fun h _ => ((ob_356 h im988 f969)).elim), (fun h => ((ob_356 h im988 f969)).elim), (ob_571 hp5 hp7 hp8), (ob_593 hp2 hp4 hp7), (ob_146), (ob_594 f969 zc_1)⟩⟩, hS.F ht⟩) hS.2.2 dX9_behindUnit_22
set_option maxHeartbeats 4000000 in
set_option maxRecDepth 100000 in
theorem kX9_e (l : Launch) (dC : Nat → ClassId) (dI : Nat → Nat → Nat) (r : Nat → Nat) (ct : Nat → ClassId) (i_taped i_size i_faultKind i_at i_end i_token i_number i_bank i_rb i_codes i_within i_piled i_unitsInRule i_askHouse i_askTune i_acts i_undone i_laid i_knowns i_time : Int32) (f_text f_tunes f_houses f_hums f_told f_many f_ruleFrom f_ruleTo f_code f_eWhat f_eSign f_all f_kept f_was f_sTune f_boxAll : Nat → Int32) (J : Nat → Nat → Int32) (L : Nat → Nat → Int64) (sz : Nat) (hI : (IM i_taped i_size i_faultKind i_at i_end i_bank i_rb i_acts i_undone i_laid i_knowns i_time f_tunes f_houses f_hums f_told f_many f_ruleFrom f_ruleTo f_code f_all f_kept f_was f_sTune f_boxAll)) (hp0 : i_rb.toInt + i_bank.toInt = (1 : Int)) (hp1 : i_codes.toInt = 560 * i_rb.toInt) (hp2 : i_unitsInRule.toInt = (0 : Int)) (hp3 : i_faultKind.toInt = (0 : Int)) : Met l yX9_e (.code yX9_e cX9_e 2 none :: GW) { frames := 10, cells := 0, slots := 0, locals := 346 } (va_Pc [.ref (r 0)] (pW (dC, dI) (WM r ct i_taped i_size i_faultKind i_at i_end i_token i_number i_bank i_rb i_codes i_within i_piled i_unitsInRule i_askHouse i_askTune i_acts i_undone i_laid i_knowns i_time f_text f_tunes f_houses f_hums f_told f_many f_ruleFrom f_ruleTo f_code f_eWhat f_eSign f_all f_kept f_was f_sTune f_boxAll J L) (TM ct) sz)) (va_Qv (fun _ : Unit => True) (fun (_ : Unit) (t : State) => ∃ (n_i_faultKind n_i_at n_i_end n_i_token n_i_number n_i_codes n_i_within n_i_piled n_i_unitsInRule : Int32) (n_f_code n_f_eWhat n_f_eSign : Nat → Int32) (n_J : Nat → Nat → Int32) (n_L : Nat → Nat → Int64), va_P (dC, dI) vwCl (WM r ct i_taped i_size n_i_faultKind n_i_at n_i_end n_i_token n_i_number i_bank i_rb n_i_codes n_i_within n_i_piled n_i_unitsInRule i_askHouse i_askTune i_acts i_undone i_laid i_knowns i_time f_text f_tunes f_houses f_hums f_told f_many f_ruleFrom f_ruleTo n_f_code n_f_eWhat n_f_eSign f_all f_kept f_was f_sTune f_boxAll n_J n_L) t.heap ∧ va_D (va_A (WM r ct i_taped i_size i_faultKind i_at i_end i_token i_number i_bank i_rb i_codes i_within i_piled i_unitsInRule i_askHouse i_askTune i_acts i_undone i_laid i_knowns i_time f_text f_tunes f_houses f_hums f_told f_many f_ruleFrom f_ruleTo f_code f_eWhat f_eSign f_all f_kept f_was f_sTune f_boxAll J L) sz) (WM r ct i_taped i_size n_i_faultKind n_i_at n_i_end n_i_token n_i_number i_bank i_rb n_i_codes n_i_within n_i_piled n_i_unitsInRule i_askHouse i_askTune i_acts i_undone i_laid i_knowns i_time f_text f_tunes f_houses f_hums f_told f_many f_ruleFrom f_ruleTo n_f_code n_f_eWhat n_f_eSign f_all f_kept f_was f_sTune f_boxAll n_J n_L) ∧ (IM i_taped i_size n_i_faultKind n_i_at n_i_end i_bank i_rb i_acts i_undone i_laid i_knowns i_time f_tunes f_houses f_hums f_told f_many f_ruleFrom f_ruleTo n_f_code f_all f_kept f_was f_sTune f_boxAll) ∧ (i_end.toInt ≤ n_i_end.toInt) ∧ ((n_i_faultKind.toInt = 0 → (n_i_codes.toInt ≤ 560 * i_rb.toInt + 560 ∧ RUW (560 * i_rb.toInt) n_i_codes.toInt n_f_code)))) (va_A (WM r ct i_taped i_size i_faultKind i_at i_end i_token i_number i_bank i_rb i_codes i_within i_piled i_unitsInRule i_askHouse i_askTune i_acts i_undone i_laid i_knowns i_time f_text f_tunes f_houses f_hums f_told f_many f_ruleFrom f_ruleTo f_code f_eWhat f_eSign f_all f_kept f_was f_sTune f_boxAll J L) sz)) 0 0 (va_A (WM r ct i_taped i_size i_faultKind i_at i_end i_token i_number i_bank i_rb i_codes i_within i_piled i_unitsInRule i_askHouse i_askTune i_acts i_undone i_laid i_knowns i_time f_text f_tunes f_houses f_hums f_told f_many f_ruleFrom f_ruleTo f_code f_eWhat f_eSign f_all f_kept f_was f_sTune f_boxAll J L) sz) := by
  refine Met.ofW (cc := cX9_e) (maxL := 2) (ret := none) (by decide) rfl ?_
  intro p e s m args below meth c0 s₁ B hml hv
  obtain ⟨rfl, hsz, hP, hK, hD0⟩ := hv
  have hx := B.exec
  have hb := B.bytes
  have hr := B.returns
  have hts := atoms_spec (ws := .code yX9_e cX9_e 2 none :: GW) B.pre
  have hG : ∀ w ∈ GW, w.before _ s = true := fun w h => hts w (List.mem_cons_of_mem _ h)
  have hown : s.vm.findClass RX9 = some m.cls := findClass_of_methodNamed B.named
  subst hsz
  have hD := hD0.self (sz := s.heap.size)
  generalize hAe : va_A (WM r ct i_taped i_size i_faultKind i_at i_end i_token i_number i_bank i_rb i_codes i_within i_piled i_unitsInRule i_askHouse i_askTune i_acts i_undone i_laid i_knowns i_time f_text f_tunes f_houses f_hums f_told f_many f_ruleFrom f_ruleTo f_code f_eWhat f_eSign f_all f_kept f_was f_sTune f_boxAll J L) s.heap.size = A at hD ⊢
  have hA : ∀ q : Nat, s.heap.size ≤ q → A q := fun q h => by rw [← hAe]; exact Or.inr h
  have hS : va_S A s.heap s.heap [] := va_S.rf
  have hP : va_P (dC, dI) vwCl (WM r ct i_taped i_size i_faultKind i_at i_end i_token i_number i_bank i_rb i_codes i_within i_piled i_unitsInRule i_askHouse i_askTune i_acts i_undone i_laid i_knowns i_time f_text f_tunes f_houses f_hums f_told f_many f_ruleFrom f_ruleTo f_code f_eWhat f_eSign f_all f_kept f_was f_sTune f_boxAll J L) s.heap := hP
  have hl := lv_entry ([.ref (r 0)]) (n := 2) (Nat.le_of_ble_eq_true rfl)
  rw [lg_entry_eq]
  generalize (lg_sl ([.ref (r 0)]) ++ List.replicate (2 - (lg_sl ([.ref (r 0)])).length) Slot.unset).toArray = ls at hl ⊢
  have hl : lv_has ls 2 [(0, .ref (r 0))] := hl
  refine nameQ (fun Q hQ => ?_)
  obtain ⟨ie0, ie1, ie2, ie3, ie4, ie5, ie6, ie7, ie8, ie9, ie10, ie11, ie12, ie13, ie14, ie15, ie16, ie17, ie18, ie19, ie20, ie21, ie22, ie23, ie24, ie25, ie26, ie27, ie28, ie29, ie30, ie31, ie32⟩ := id hI
  have f1 : 0 ≤ (f_tunes (i_bank.toInt).toNat).toInt ∧ (f_tunes (i_bank.toInt).toNat).toInt ≤ 5 := ie21 (i_bank.toInt)
  have f2 : 0 ≤ (f_houses (i_bank.toInt).toNat).toInt ∧ (f_houses (i_bank.toInt).toNat).toInt ≤ 4 := ie22 (i_bank.toInt)
  refine lv_aload_n hx hb dX9_e_0 rfl (lv_at hl 0 rfl) ?_
  refine lv_iconst (v := 0) hx hb dX9_e_1 (by decide) ?_
  refine pM_X9_296_0 hx hb hG hown hK hP hD hS dX9_e_2 (fun H3 locs hP hD hS => ?_)
  refine lv_aload_n hx hb dX9_e_5 rfl (lv_at hl 0 rfl) ?_
  refine lv_iconst (v := 0) hx hb dX9_e_6 (by decide) ?_
  refine pM_X9_299_0 hx hb hG hown hK hP hD hS dX9_e_7 (fun H4 locs hP hD hS => ?_)
  refine lv_aload_n hx hb dX9_e_10 rfl (lv_at hl 0 rfl) ?_
  refine lv_bipush (v := 8) hx hb dX9_e_11 (by decide) ?_
  refine lv_iconst (v := 0) hx hb dX9_e_13 (by decide) ?_
  have hFc := frA hD hS hA
  refine va_callv (va_runV (As := [.int 8, .int 0]) (rest := []) ⟨hx, hb, hml, hown, hG⟩ (kX9_pushE l dC dI r ct i_taped i_size i_faultKind i_at i_end i_token i_number i_bank i_rb i_codes 0 0 i_unitsInRule i_askHouse i_askTune i_acts i_undone i_laid i_knowns i_time f_text f_tunes f_houses f_hums f_told f_many f_ruleFrom f_ruleTo f_code f_eWhat f_eSign f_all f_kept f_was f_sTune f_boxAll J L 8 0 H4.size hI (ob_1 zc_0) (ob_595 zc_0)) (cwV 2 hG (goodV gw1468 gw1470 gw77 gw138 gw1471) rfl rfl rfl hd_X9_pushE ⟨(Nat.le_of_ble_eq_true rfl), (Nat.le_of_ble_eq_true rfl)⟩) ⟨fbW, va_recv hK hP (ci := 8) (q0 := 0) rfl rfl, pW_in hP hK hD⟩ rfl rfl hl.1 rfl (lv_room (Nat.le_of_ble_eq_true rfl)) dX9_e_14 ⟨(Nat.le_of_ble_eq_true rfl), (Nat.le_of_ble_eq_true rfl)⟩) hS (fun q _ h => hFc q h) hFc (fun _ t_ H5 locs ht hvm hw hB hz1 hk1 hS => ?_)
  obtain ⟨x7, z8, z9, hP1, hD1, hI13, f10, f11, f12⟩ := hB
  rw [ht] at hP1
  have hP := hP1
  have hD := dW hFc hD1
  obtain ⟨im14, im15, im16, im17, im18, im19, im20, im21, im22, im23, im24, im25, im26, im27, im28, im29, im30, im31, im32, im33, im34, im35, im36, im37, im38, im39, im40, im41, im42, im43, im44, im45, im46⟩ := id hI13
  have f47 : (z8 ((0 : Int)).toNat).toInt = 8 := ew8 f11 zc_0 zc_8
  have f48 : (i_faultKind.toInt = 0 ∧ (tk i_faultKind.toInt) = 0) ∨ (i_faultKind.toInt ≠ 0 ∧ (tk i_faultKind.toInt) = 1) := tk_or _
  have f49 : (i_token.toInt = 0 ∧ (tk i_token.toInt) = 0) ∨ (i_token.toInt ≠ 0 ∧ (tk i_token.toInt) = 1) := tk_or _
  refine lv_iconst (v := 1) hx hb dX9_e_17 (by decide) ?_
  refine lv_istore_n (lv' := [(1, .int 1), (0, .ref (r 0))]) hx hb dX9_e_18 rfl hl (by decide) rfl (fun ls hl => ?_)
  have L19 : ∀ (N19 : Nat) (y19_1 : Int32) (m19_i_faultKind m19_i_at m19_i_end m19_i_token m19_i_number m19_i_codes m19_i_within m19_i_piled m19_i_unitsInRule : Int32) (m19_f_code m19_f_eWhat m19_f_eSign : Nat → Int32) (m19_J : Nat → Nat → Int32) (m19_L : Nat → Nat → Int64) (H19 : Heap) (locs : List Loc) (ls : Array Slot) (g19_0 : (0 : Int) ≤ y19_1.toInt) (g19_1 : y19_1.toInt ≤ (1 : Int)) (g19_2 : (0 : Int) ≤ m19_i_faultKind.toInt) (g19_3 : (0 : Int) ≤ m19_i_at.toInt) (g19_4 : (0 : Int) ≤ m19_i_end.toInt) (g19_5 : m19_i_end.toInt ≤ (1600 : Int)) (g19_6 : (0 : Int) ≤ m19_i_piled.toInt) (g19_7 : m19_i_piled.toInt ≤ (60 : Int)) (g19_8 : (0 : Int) ≤ m19_i_piled.toInt) (g19_9 : m19_i_piled.toInt ≤ (60 : Int)) (g19_10 : ((1 : Int) ≤ m19_i_faultKind.toInt) ∨ ((m19_i_piled.toInt = (0 : Int)) ∧ (560 * i_rb.toInt ≤ m19_i_codes.toInt) ∧ (m19_i_codes.toInt ≤ 560 * i_rb.toInt + 300)) ∨ (((1 : Int) ≤ m19_i_piled.toInt) ∧ ((m19_f_eWhat ((0 : Int)).toNat).toInt = (8 : Int)) ∧ ((0 : Int) ≤ m19_i_unitsInRule.toInt) ∧ (m19_i_unitsInRule.toInt ≤ (30 : Int)) ∧ ((0 : Int) ≤ m19_i_within.toInt) ∧ (m19_i_within.toInt ≤ (7 : Int)) ∧ (560 * i_rb.toInt ≤ m19_i_codes.toInt) ∧ (((y19_1.toInt = (1 : Int)) ∧ (m19_i_piled.toInt ≤ m19_i_unitsInRule.toInt + m19_i_within.toInt + 1) ∧ (m19_i_codes.toInt + m19_i_piled.toInt ≤ 560 * i_rb.toInt + 9 * m19_i_unitsInRule.toInt + m19_i_within.toInt + 1)) ∨ ((y19_1.toInt = (0 : Int)) ∧ (m19_i_piled.toInt ≤ m19_i_unitsInRule.toInt + m19_i_within.toInt) ∧ (m19_i_codes.toInt + m19_i_piled.toInt ≤ 560 * i_rb.toInt + 9 * m19_i_unitsInRule.toInt))))) (g19_11 : ((m19_i_faultKind.toInt = (0 : Int)) ∧ ((tk m19_i_faultKind.toInt) = (0 : Int))) ∨ ((m19_i_faultKind.toInt ≠ (0 : Int)) ∧ ((tk m19_i_faultKind.toInt) = (1 : Int)))) (g19_12 : ((m19_i_token.toInt = (0 : Int)) ∧ ((tk m19_i_token.toInt) = (0 : Int))) ∨ ((m19_i_token.toInt ≠ (0 : Int)) ∧ ((tk m19_i_token.toInt) = (1 : Int)))) (g19_13 : i_end.toInt ≤ m19_i_end.toInt) (gi19_end_lo : (0 : Int) ≤ m19_i_end.toInt) (gi19_end_hi : m19_i_end.toInt ≤ i_size.toInt) (gi19_at_lo : (0 : Int) ≤ m19_i_at.toInt) (gi19_fk_lo : (0 : Int) ≤ m19_i_faultKind.toInt) (gi19_RU : RU i_bank f_told f_ruleFrom f_ruleTo m19_f_code) (gr19_0 : m19_i_faultKind.toInt = 0 → 1 ≤ m19_i_piled.toInt → SP m19_f_eWhat m19_f_eSign m19_f_code m19_i_piled.toInt m19_i_within.toInt (560 * i_rb.toInt) m19_i_codes.toInt y19_1.toInt) (gr19_1 : m19_i_faultKind.toInt = 0 → (∀ k : Int, 560 * i_rb.toInt ≤ k → k < m19_i_codes.toInt → okc m19_f_code (560 * i_rb.toInt) k)) (hP : va_P (dC, dI) vwCl (WM r ct i_taped i_size m19_i_faultKind m19_i_at m19_i_end m19_i_token m19_i_number i_bank i_rb m19_i_codes m19_i_within m19_i_piled m19_i_unitsInRule i_askHouse i_askTune i_acts i_undone i_laid i_knowns i_time f_text f_tunes f_houses f_hums f_told f_many f_ruleFrom f_ruleTo m19_f_code m19_f_eWhat m19_f_eSign f_all f_kept f_was f_sTune f_boxAll m19_J m19_L) H19) (hD : va_D A (WM r ct i_taped i_size m19_i_faultKind m19_i_at m19_i_end m19_i_token m19_i_number i_bank i_rb m19_i_codes m19_i_within m19_i_piled m19_i_unitsInRule i_askHouse i_askTune i_acts i_undone i_laid i_knowns i_time f_text f_tunes f_houses f_hums f_told f_many f_ruleFrom f_ruleTo m19_f_code m19_f_eWhat m19_f_eSign f_all f_kept f_was f_sTune f_boxAll m19_J m19_L)) (hS : va_S A s.heap H19 locs) (hl : lv_has ls 2 [(0, .ref (r 0)), (1, .int y19_1)]) (hM : m19_i_piled.toInt + 100 * (tk m19_i_token.toInt) + 200 * i_size.toInt + -200 * m19_i_end.toInt + -1000000 * (tk m19_i_faultKind.toInt) + 1000000 < (N19 : Int)), W p l e { frames := 10, cells := 0, slots := 0, locals := 346 } s m ([.ref (r 0)] : List Value).toArray below meth c0 H19 locs 0 0 Q (F0 m 19 ls []) := by
    intro N19
    induction N19 with
    | zero =>
      intro y19_1 m19_i_faultKind m19_i_at m19_i_end m19_i_token m19_i_number m19_i_codes m19_i_within m19_i_piled m19_i_unitsInRule m19_f_code m19_f_eWhat m19_f_eSign m19_J m19_L H19 locs ls g19_0 g19_1 g19_2 g19_3 g19_4 g19_5 g19_6 g19_7 g19_8 g19_9 g19_10 g19_11 g19_12 g19_13 gi19_end_lo gi19_end_hi gi19_at_lo gi19_fk_lo gi19_RU gr19_0 gr19_1 hP hD hS hl hM
      exact ((ob_596 hM g19_6 g19_11 g19_12 gi19_end_hi)).elim
    | succ N19 ih19 =>
      intro y19_1 m19_i_faultKind m19_i_at m19_i_end m19_i_token m19_i_number m19_i_codes m19_i_within m19_i_piled m19_i_unitsInRule m19_f_code m19_f_eWhat m19_f_eSign m19_J m19_L H19 locs ls g19_0 g19_1 g19_2 g19_3 g19_4 g19_5 g19_6 g19_7 g19_8 g19_9 g19_10 g19_11 g19_12 g19_13 gi19_end_lo gi19_end_hi gi19_at_lo gi19_fk_lo gi19_RU gr19_0 gr19_1 hP hD hS hl hM
      have hM19 := msucc hM
      refine lv_aload_n hx hb dX9_e_19 rfl (lv_at hl 0 rfl) ?_
      refine va_calli (va_runV (As := []) (rest := []) ⟨hx, hb, hml, hown, hG⟩ (kX9_isGood l dC dI r ct i_taped i_size m19_i_faultKind m19_i_at m19_i_end m19_i_token m19_i_number i_bank i_rb m19_i_codes m19_i_within m19_i_piled m19_i_unitsInRule i_askHouse i_askTune i_acts i_undone i_laid i_knowns i_time f_text f_tunes f_houses f_hums f_told f_many f_ruleFrom f_ruleTo m19_f_code m19_f_eWhat m19_f_eSign f_all f_kept f_was f_sTune f_boxAll m19_J m19_L H19.size ⟨ie0, ie1, ie2, ie3, ie4, ie5, ie6, ie7, ie8, ie9, ie10, ie11, ie12, ie13, gi19_end_lo, gi19_end_hi, gi19_at_lo, gi19_fk_lo, ie18, ie19, ie20, ie21, ie22, ie23, ie24, ie25, ie26, ie27, ie28, ie29, ie30, ie31, gi19_RU⟩) (cwV 0 hG (goodV gw1401 gw1403 gw61 gw138 gw1404) rfl rfl rfl hd_X9_isGood ⟨(Nat.le_of_ble_eq_true rfl), (Nat.le_of_ble_eq_true rfl)⟩) ⟨fbR, va_recv hK hP (ci := 8) (q0 := 0) rfl rfl, pR_in hP hK⟩ rfl rfl hl.1 rfl (lv_room (Nat.le_of_ble_eq_true rfl)) dX9_e_20 ⟨(Nat.le_of_ble_eq_true rfl), (Nat.le_of_ble_eq_true rfl)⟩) hS (fun q hq h => absurd hq (Nat.not_lt.mpr h)) (fun q h => hA q (Nat.le_trans hS.1 h)) (fun r_51 u_ t_ H50 locs ht hvm hw hB hz1 hk1 hS => ?_)
      subst hw
      have hP := wk hP hk1
      obtain ⟨f52, f53, f54⟩ := hB
      refine lv_if_eq (tgt := 52) hx hb dX9_e_23 (by decide) (fun c_55 => ?_) (fun c_55 => ?_)
      · skip
        have f56 : r_51.toInt = 0 := qi_eq c_55 rfl zc_0
        have f57 : m19_i_faultKind.toInt ≠ (0 : Int) := (ob_224 f52 f56)
        have f58 : (1 : Int) ≤ m19_i_faultKind.toInt := (ob_597 g19_2 f57)
        have f59 : r_51.toInt = (0 : Int) := (ob_226 f53 f54 f56)
        rw [hQ]
        exact W.vret hx hb hr (fun t ht hW => ⟨⟨(), rfl, trivial, ⟨m19_i_faultKind, m19_i_at, m19_i_end, m19_i_token, m19_i_number, m19_i_codes, m19_i_within, m19_i_piled, m19_i_unitsInRule, m19_f_code, m19_f_eWhat, m19_f_eSign, m19_J, m19_L, by rw [ht]; exact hP, hD, ⟨ie0, ie1, ie2, ie3, ie4, ie5, ie6, ie7, ie8, ie9, ie10, ie11, ie12, ie13, gi19_end_lo, gi19_end_hi, gi19_at_lo, gi19_fk_lo, ie18, ie19, ie20, ie21, ie22, ie23, ie24, ie25, ie26, ie27, ie28, ie29, ie30, ie31, gi19_RU⟩, (ob_145 g19_13), (fun h => ((ob_356 h g19_2 f58)).elim)⟩⟩, hS.F ht⟩) hS.2.2 dX9_e_52
      · skip
        have f60 : r_51.toInt ≠ 0 := qi_ne c_55 rfl zc_0
        have f61 : m19_i_faultKind.toInt = (0 : Int) := (ob_219 f52 f60)
        have f62 : r_51.toInt = (1 : Int) := (ob_220 f52 f60)
        have f63 : (1 : Int) ≤ r_51.toInt := (ob_162 f53 f54 f62)
        refine lv_aload_n hx hb dX9_e_26 rfl (lv_at hl 0 rfl) ?_
        refine gM_X9_296_0 hx hb hG hown hK hP dX9_e_27 ?_
        refine lv_if_le (tgt := 52) hx hb dX9_e_30 (by decide) (fun c_64 => ?_) (fun c_64 => ?_)
        · skip
          have f65 : m19_i_piled.toInt ≤ 0 := qi_le c_64 rfl zc_0
          have f66 : m19_i_piled.toInt = (0 : Int) := (ob_598 g19_6 f65)
          have f67 : 560 * i_rb.toInt ≤ m19_i_codes.toInt := (ob_599 g19_10 f61)
          have f68 : m19_i_codes.toInt ≤ 560 * i_rb.toInt + 300 := (ob_600 g19_10 f61)
          rw [hQ]
          exact W.vret hx hb hr (fun t ht hW => ⟨⟨(), rfl, trivial, ⟨m19_i_faultKind, m19_i_at, m19_i_end, m19_i_token, m19_i_number, m19_i_codes, m19_i_within, m19_i_piled, m19_i_unitsInRule, m19_f_code, m19_f_eWhat, m19_f_eSign, m19_J, m19_L, by rw [ht]; exact hP, hD, ⟨ie0, ie1, ie2, ie3, ie4, ie5, ie6, ie7, ie8, ie9, ie10, ie11, ie12, ie13, gi19_end_lo, gi19_end_hi, gi19_at_lo, gi19_fk_lo, ie18, ie19, ie20, ie21, ie22, ie23, ie24, ie25, ie26, ie27, ie28, ie29, ie30, ie31, gi19_RU⟩, (ob_145 g19_13), (fun h => ⟨(ob_601 f68), (ob_384 ie6), (ob_602 ie7), (ob_603 ie7 f68), gr19_1 h⟩)⟩⟩, hS.F ht⟩) hS.2.2 dX9_e_52
        · skip
          have f69 : 0 < m19_i_piled.toInt := qi_nle c_64 rfl zc_0
          have f70 : (1 : Int) ≤ m19_i_piled.toInt := (ob_604 f69)
          have f71 : (m19_f_eWhat ((0 : Int)).toNat).toInt = (8 : Int) := (ob_605 g19_10 f61 f69)
          have f72 : (0 : Int) ≤ m19_i_unitsInRule.toInt := (ob_606 g19_10 f61 f69)
          have f73 : m19_i_unitsInRule.toInt ≤ (30 : Int) := (ob_607 g19_10 f61 f69)
          have f74 : (0 : Int) ≤ m19_i_within.toInt := (ob_608 g19_10 f61 f69)
          have f75 : m19_i_within.toInt ≤ (7 : Int) := (ob_609 g19_10 f61 f69)
          have f76 : 560 * i_rb.toInt ≤ m19_i_codes.toInt := (ob_599 g19_10 f61)
          have f77 : ((y19_1.toInt = (1 : Int)) ∧ (m19_i_piled.toInt ≤ m19_i_unitsInRule.toInt + m19_i_within.toInt + 1) ∧ (m19_i_codes.toInt + m19_i_piled.toInt ≤ 560 * i_rb.toInt + 9 * m19_i_unitsInRule.toInt + m19_i_within.toInt + 1)) ∨ ((y19_1.toInt = (0 : Int)) ∧ (m19_i_piled.toInt ≤ m19_i_unitsInRule.toInt + m19_i_within.toInt) ∧ (m19_i_codes.toInt + m19_i_piled.toInt ≤ 560 * i_rb.toInt + 9 * m19_i_unitsInRule.toInt)) := (ob_610 g19_10 f61 f69)
          refine lv_iload_n hx hb dX9_e_33 rfl (lv_at hl 1 rfl) ?_
          refine lv_if_eq (tgt := 44) hx hb dX9_e_34 (by decide) (fun c_78 => ?_) (fun c_78 => ?_)
          · skip
            have f79 : y19_1.toInt = 0 := qi_eq c_78 rfl zc_0
            have f80 : y19_1.toInt = (0 : Int) := (ob_226 g19_0 g19_1 f79)
            have f81 : m19_i_piled.toInt ≤ m19_i_unitsInRule.toInt + m19_i_within.toInt := (ob_611 g19_10 f61 f69 f79)
            have f82 : m19_i_codes.toInt + m19_i_piled.toInt ≤ 560 * i_rb.toInt + 9 * m19_i_unitsInRule.toInt := (ob_612 g19_10 f61 f69 f79)
            have sp83 : SP m19_f_eWhat m19_f_eSign m19_f_code m19_i_piled.toInt m19_i_within.toInt (560 * i_rb.toInt) m19_i_codes.toInt 0 := SPw (gr19_0 (ob_613 g19_2 f61) (ob_614 f69)) (ob_380 f79)
            refine lv_aload_n hx hb dX9_e_44 rfl (lv_at hl 0 rfl) ?_
            have hFc := frA hD hS hA
            refine va_calli (va_runV (As := []) (rest := []) ⟨hx, hb, hml, hown, hG⟩ (kX9_behindUnit l dC dI r ct i_taped i_size m19_i_faultKind m19_i_at m19_i_end m19_i_token m19_i_number i_bank i_rb m19_i_codes m19_i_within m19_i_piled m19_i_unitsInRule i_askHouse i_askTune i_acts i_undone i_laid i_knowns i_time f_text f_tunes f_houses f_hums f_told f_many f_ruleFrom f_ruleTo m19_f_code m19_f_eWhat m19_f_eSign f_all f_kept f_was f_sTune f_boxAll m19_J m19_L H50.size ⟨ie0, ie1, ie2, ie3, ie4, ie5, ie6, ie7, ie8, ie9, ie10, ie11, ie12, ie13, gi19_end_lo, gi19_end_hi, gi19_at_lo, gi19_fk_lo, ie18, ie19, ie20, ie21, ie22, ie23, ie24, ie25, ie26, ie27, ie28, ie29, ie30, ie31, gi19_RU⟩ (ob_377 hp0) (ob_139 f72) (ob_615 f73) (ob_569 f74 f75 f81) (ob_570 f74 f75 f81) (ob_604 f69) (ob_378 f76) (ob_574 f81) (ob_575 f82) (ob_582 f71) (ob_229 g19_2 f61) sp83) (cwV 0 hG (goodV gw1488 gw1490 gw82 gw138 gw1491) rfl rfl rfl hd_X9_behindUnit ⟨(Nat.le_of_ble_eq_true rfl), (Nat.le_of_ble_eq_true rfl)⟩) ⟨fbW, va_recv hK hP (ci := 8) (q0 := 0) rfl rfl, pW_in hP hK hD⟩ rfl rfl hl.1 rfl (lv_room (Nat.le_of_ble_eq_true rfl)) dX9_e_45 ⟨(Nat.le_of_ble_eq_true rfl), (Nat.le_of_ble_eq_true rfl)⟩) hS (fun q _ h => hFc q h) hFc (fun r_85 u_ t_ H84 locs ht hvm hw hB hz1 hk1 hS => ?_)
            subst hw
            obtain ⟨x86, x87, x88, x89, x90, x91, x92, x93, z94, z95, z96, J97, L98, hP1, hD1, hI107, f99, f100, f101, f102, f103, f104, f105, f106⟩ := hB
            rw [ht] at hP1
            have hP := hP1
            have hD := dW hFc hD1
            obtain ⟨im108, im109, im110, im111, im112, im113, im114, im115, im116, im117, im118, im119, im120, im121, im122, im123, im124, im125, im126, im127, im128, im129, im130, im131, im132, im133, im134, im135, im136, im137, im138, im139, im140⟩ := id hI107
            refine lv_istore_n (lv' := [(1, .int r_85), (0, .ref (r 0))]) hx hb dX9_e_48 rfl hl (by decide) rfl (fun ls hl => ?_)
            have f141 : (x86.toInt = 0 ∧ (tk x86.toInt) = 0) ∨ (x86.toInt ≠ 0 ∧ (tk x86.toInt) = 1) := tk_or _
            have f142 : (x89.toInt = 0 ∧ (tk x89.toInt) = 0) ∨ (x89.toInt ≠ 0 ∧ (tk x89.toInt) = 1) := tk_or _
            refine lv_goto (tgt := 19) hx hb dX9_e_49 (by decide) ?_
            exact ih19 r_85 x86 x87 x88 x89 x90 x91 x92 x93 m19_i_unitsInRule z94 z95 z96 J97 L98 H84 _ _ (ob_272 f99 f100) (ob_273 f99 f100) (ob_139 im125) (ob_139 im124) (ob_616 im122 im123 f105) (ob_206 ie3 im123) (ob_617 f103 f104) (ob_618 f103 f104) (ob_617 f103 f104) (ob_618 f103 f104) (ob_619 f73 f103 f106) (ob_620 im125 f106 f141) (ob_621 f106 f142) (ob_166 g19_13 f105) im122 im123 im124 im125 im140 (fun a b => f101 a b) f102 hP hD hS (lv_sub hl [1, 0] rfl) (ob_622 g19_11 g19_12 hM19 f61 f69 f104 f105 f106 f141 f142)
          · skip
            have f143 : y19_1.toInt ≠ 0 := qi_ne c_78 rfl zc_0
            have f144 : y19_1.toInt = (1 : Int) := (ob_623 g19_0 g19_1 f143)
            have f145 : m19_i_piled.toInt ≤ m19_i_unitsInRule.toInt + m19_i_within.toInt + 1 := (ob_624 f77)
            have f146 : m19_i_codes.toInt + m19_i_piled.toInt ≤ 560 * i_rb.toInt + 9 * m19_i_unitsInRule.toInt + m19_i_within.toInt + 1 := (ob_625 f74 f77)
            have f147 : (1 : Int) ≤ y19_1.toInt := (ob_162 g19_0 g19_1 f144)
            have sp148 : SP m19_f_eWhat m19_f_eSign m19_f_code m19_i_piled.toInt m19_i_within.toInt (560 * i_rb.toInt) m19_i_codes.toInt 1 := SPw (gr19_0 (ob_613 g19_2 f61) (ob_614 f69)) (ob_626 f144)
            refine lv_aload_n hx hb dX9_e_37 rfl (lv_at hl 0 rfl) ?_
            have hFc := frA hD hS hA
            refine va_calli (va_runV (As := []) (rest := []) ⟨hx, hb, hml, hown, hG⟩ (kX9_unit l dC dI r ct i_taped i_size m19_i_faultKind m19_i_at m19_i_end m19_i_token m19_i_number i_bank i_rb m19_i_codes m19_i_within m19_i_piled m19_i_unitsInRule i_askHouse i_askTune i_acts i_undone i_laid i_knowns i_time f_text f_tunes f_houses f_hums f_told f_many f_ruleFrom f_ruleTo m19_f_code m19_f_eWhat m19_f_eSign f_all f_kept f_was f_sTune f_boxAll m19_J m19_L H50.size ⟨ie0, ie1, ie2, ie3, ie4, ie5, ie6, ie7, ie8, ie9, ie10, ie11, ie12, ie13, gi19_end_lo, gi19_end_hi, gi19_at_lo, gi19_fk_lo, ie18, ie19, ie20, ie21, ie22, ie23, ie24, ie25, ie26, ie27, ie28, ie29, ie30, ie31, gi19_RU⟩ (ob_377 hp0) (ob_139 f72) (ob_615 f73) (ob_139 f74) (ob_556 f75) (ob_604 f69) (ob_378 f76) (ob_627 f145) (ob_628 f146) (ob_582 f71) (ob_229 g19_2 f61) sp148) (cwV 0 hG (goodV gw1472 gw1474 gw78 gw138 gw1475) rfl rfl rfl hd_X9_unit ⟨(Nat.le_of_ble_eq_true rfl), (Nat.le_of_ble_eq_true rfl)⟩) ⟨fbW, va_recv hK hP (ci := 8) (q0 := 0) rfl rfl, pW_in hP hK hD⟩ rfl rfl hl.1 rfl (lv_room (Nat.le_of_ble_eq_true rfl)) dX9_e_38 ⟨(Nat.le_of_ble_eq_true rfl), (Nat.le_of_ble_eq_true rfl)⟩) hS (fun q _ h => hFc q h) hFc (fun r_150 u_ t_ H149 locs ht hvm hw hB hz1 hk1 hS => ?_)
            subst hw
            obtain ⟨x151, x152, x153, x154, x155, x156, x157, x158, x159, z160, z161, z162, J163, L164, hP1, hD1, hI172, f165, f166, f167, f168, f169, f170, f171⟩ := hB
            rw [ht] at hP1
            have hP := hP1
            have hD := dW hFc hD1
            obtain ⟨im173, im174, im175, im176, im177, im178, im179, im180, im181, im182, im183, im184, im185, im186, im187, im188, im189, im190, im191, im192, im193, im194, im195, im196, im197, im198, im199, im200, im201, im202, im203, im204, im205⟩ := id hI172
            refine lv_goto (tgt := 48) hx hb dX9_e_41 (by decide) ?_
            refine lv_istore_n (lv' := [(1, .int r_150), (0, .ref (r 0))]) hx hb dX9_e_48 rfl hl (by decide) rfl (fun ls hl => ?_)
            have f206 : (x151.toInt = 0 ∧ (tk x151.toInt) = 0) ∨ (x151.toInt ≠ 0 ∧ (tk x151.toInt) = 1) := tk_or _
            have f207 : (x154.toInt = 0 ∧ (tk x154.toInt) = 0) ∨ (x154.toInt ≠ 0 ∧ (tk x154.toInt) = 1) := tk_or _
            refine lv_goto (tgt := 19) hx hb dX9_e_49 (by decide) ?_
            exact ih19 r_150 x151 x152 x153 x154 x155 x156 x157 x158 x159 z160 z161 z162 J163 L164 H149 _ _ (ob_272 f165 f166) (ob_273 f165 f166) (ob_139 im190) (ob_139 im189) (ob_616 im187 im188 f170) (ob_206 ie3 im188) (ob_617 f168 f169) (ob_618 f168 f169) (ob_617 f168 f169) (ob_618 f168 f169) (ob_629 f171) (ob_630 im190 f171 f206) (ob_631 f171 f207) (ob_166 g19_13 f170) im187 im188 im189 im190 im205 (fun a _ => f167 a) (fun a => (f167 a).2.2.2.2) hP hD hS (lv_sub hl [1, 0] rfl) (ob_632 g19_6 g19_11 g19_12 hM19 f61 f169 f170 f171 f206 f207)
  exact L19 (x7.toInt + 100 * (tk i_token.toInt) + 200 * i_size.toInt + -200 * i_end.toInt + -1000000 * (tk i_faultKind.toInt) + 1000000 + 1).toNat 1 i_faultKind i_at i_end i_token i_number i_codes 0 x7 i_unitsInRule f_code z8 z9 J L H5 _ _ (ob_14 zc_1) (ob_15 zc_1) (ob_633 ie17 hp3) (ob_139 ie16) (ob_205 ie14 ie15) (ob_206 ie3 ie15) (ob_634 f10 zc_0) (ob_635 f10 zc_0) (ob_634 f10 zc_0) (ob_635 f10 zc_0) (ob_636 hp1 hp2 f10 f47 zc_0 zc_1) (ob_637 ie17 hp3 f48) (ob_638 f49) (ob_146) ie14 ie15 ie16 ie17 ie32 (fun _ _ => SPstart f11 zc_0 zc_8 (ob_639 f10 zc_0) zc_0 (ob_248 hp1) zc_1) (fun _ k a b => by have := (ob_248 hp1); omega) hP hD hS (lv_sub hl [1, 0] rfl) (mlt (ob_640 ie15 f10 f48 f49 zc_0))
