set_option maxHeartbeats 4000000 in
set_option maxRecDepth 100000 in
theorem kX9_rankHere (l : Launch) (dC : Nat → ClassId) (dI : Nat → Nat → Nat) (r : Nat → Nat) (ct : Nat → ClassId) (i_taped i_size i_faultKind i_at i_end i_token i_number i_bank i_rb i_codes i_within i_piled i_unitsInRule i_askHouse i_askTune i_acts i_undone i_laid i_knowns i_time : Int32) (f_text f_tunes f_houses f_hums f_told f_many f_ruleFrom f_ruleTo f_code f_eWhat f_eSign f_all f_kept f_was f_sTune f_boxAll : Nat → Int32) (J : Nat → Nat → Int32) (L : Nat → Nat → Int64) (sz : Nat) (hI : (IM i_taped i_size i_faultKind i_at i_end i_bank i_rb i_acts i_undone i_laid i_knowns i_time f_tunes f_houses f_hums f_told f_many f_ruleFrom f_ruleTo f_code f_all f_kept f_was f_sTune f_boxAll)) : Met l yX9_rankHere (.code yX9_rankHere cX9_rankHere 1 (some .int) :: GW) { frames := 6, cells := 0, slots := 0, locals := 222 } (va_Pc [.ref (r 0)] (pR (dC, dI) (WM r ct i_taped i_size i_faultKind i_at i_end i_token i_number i_bank i_rb i_codes i_within i_piled i_unitsInRule i_askHouse i_askTune i_acts i_undone i_laid i_knowns i_time f_text f_tunes f_houses f_hums f_told f_many f_ruleFrom f_ruleTo f_code f_eWhat f_eSign f_all f_kept f_was f_sTune f_boxAll J L) (TM ct) sz)) (va_Qi (fun (r0 : Int32) (u : Int32) => r0 = u) (fun (u : Int32) (t : State) => ((0 : Int) ≤ u.toInt) ∧ (u.toInt ≤ (6 : Int)) ∧ (u.toInt ≠ (3 : Int)) ∧ ((u.toInt = (0 : Int)) ∨ ((3 : Int) ≤ i_token.toInt)) ∧ (((4 : Int) ≤ u.toInt) → (((37 : Int) ≤ (sgz f_text i_size.toInt i_at.toInt)) ∧ ((sgz f_text i_size.toInt i_at.toInt) ≤ (62 : Int))))) (fun q => sz ≤ q)) 0 0 (fun q => sz ≤ q) := by
  refine Met.ofW (cc := cX9_rankHere) (maxL := 1) (ret := (some .int)) (by decide) rfl ?_
  intro p e s m args below meth c0 s₁ B hml hv
  obtain ⟨rfl, hsz, hP, hK⟩ := hv
  have hx := B.exec
  have hb := B.bytes
  have hr := B.returns
  have hts := atoms_spec (ws := .code yX9_rankHere cX9_rankHere 1 (some .int) :: GW) B.pre
  have hG : ∀ w ∈ GW, w.before _ s = true := fun w h => hts w (List.mem_cons_of_mem _ h)
  have hown : s.vm.findClass RX9 = some m.cls := findClass_of_methodNamed B.named
  subst hsz
  have hS : va_S (fun q => s.heap.size ≤ q) s.heap s.heap [] := va_S.rf
  have hP : va_P (dC, dI) vwCl (WM r ct i_taped i_size i_faultKind i_at i_end i_token i_number i_bank i_rb i_codes i_within i_piled i_unitsInRule i_askHouse i_askTune i_acts i_undone i_laid i_knowns i_time f_text f_tunes f_houses f_hums f_told f_many f_ruleFrom f_ruleTo f_code f_eWhat f_eSign f_all f_kept f_was f_sTune f_boxAll J L) s.heap := hP
  have hl := lv_entry ([.ref (r 0)]) (n := 1) (Nat.le_of_ble_eq_true rfl)
  rw [lg_entry_eq]
  generalize (lg_sl ([.ref (r 0)]) ++ List.replicate (1 - (lg_sl ([.ref (r 0)])).length) Slot.unset).toArray = ls at hl ⊢
  have hl : lv_has ls 1 [(0, .ref (r 0))] := hl
  refine nameQ (fun Q hQ => ?_)
  obtain ⟨im0, im1, im2, im3, im4, im5, im6, im7, im8, im9, im10, im11, im12, im13, im14, im15, im16, im17, im18, im19, im20, im21, im22, im23, im24, im25, im26, im27, im28, im29, im30, im31, im32⟩ := id hI
  have f1 : 0 ≤ (f_tunes (i_bank.toInt).toNat).toInt ∧ (f_tunes (i_bank.toInt).toNat).toInt ≤ 5 := im21 (i_bank.toInt)
  have f2 : 0 ≤ (f_houses (i_bank.toInt).toNat).toInt ∧ (f_houses (i_bank.toInt).toNat).toInt ≤ 4 := im22 (i_bank.toInt)
  refine lv_aload_n hx hb dX9_rankHere_0 rfl (lv_at hl 0 rfl) ?_
  refine lv_ldc2 (v := 6385252) hx hb hown (hG _ gw1393) dX9_rankHere_1 ?_
  refine va_calli (va_runV (As := [.long (6385252 : Int64)]) (rest := []) ⟨hx, hb, hml, hown, hG⟩ (kX9_isWord l dC dI r ct i_taped i_size i_faultKind i_at i_end i_token i_number i_bank i_rb i_codes i_within i_piled i_unitsInRule i_askHouse i_askTune i_acts i_undone i_laid i_knowns i_time f_text f_tunes f_houses f_hums f_told f_many f_ruleFrom f_ruleTo f_code f_eWhat f_eSign f_all f_kept f_was f_sTune f_boxAll J L (6385252 : Int64) s.heap.size hI) (cwV 1 hG (goodV gw1413 gw1415 gw64 gw138 gw1416) rfl rfl rfl hd_X9_isWord ⟨(Nat.le_of_ble_eq_true rfl), (Nat.le_of_ble_eq_true rfl)⟩) ⟨fbR, va_recv hK hP (ci := 8) (q0 := 0) rfl rfl, pR_in hP hK⟩ rfl rfl hl.1 rfl (lv_room (Nat.le_of_ble_eq_true rfl)) dX9_rankHere_4 ⟨(Nat.le_of_ble_eq_true rfl), (Nat.le_of_ble_eq_true rfl)⟩) hS (fun q hq h => absurd hq (Nat.not_lt.mpr h)) (fun q h => Nat.le_trans hS.1 h) (fun r_4 u_ t_ H3 locs ht hvm hw hB hz1 hk1 hS => ?_)
  subst hw
  have hP := wk hP hk1
  obtain ⟨f5, f6, f7⟩ := hB
  refine lv_if_eq (tgt := 12) hx hb dX9_rankHere_7 (by decide) (fun c_8 => ?_) (fun c_8 => ?_)
  · skip
    have f9 : r_4.toInt = 0 := qi_eq c_8 rfl zc_0
    refine lv_aload_n hx hb dX9_rankHere_12 rfl (lv_at hl 0 rfl) ?_
    refine lv_ldc2 (v := 28530) hx hb hown (hG _ gw1392) dX9_rankHere_13 ?_
    refine va_calli (va_runV (As := [.long (28530 : Int64)]) (rest := []) ⟨hx, hb, hml, hown, hG⟩ (kX9_isWord l dC dI r ct i_taped i_size i_faultKind i_at i_end i_token i_number i_bank i_rb i_codes i_within i_piled i_unitsInRule i_askHouse i_askTune i_acts i_undone i_laid i_knowns i_time f_text f_tunes f_houses f_hums f_told f_many f_ruleFrom f_ruleTo f_code f_eWhat f_eSign f_all f_kept f_was f_sTune f_boxAll J L (28530 : Int64) H3.size hI) (cwV 1 hG (goodV gw1413 gw1415 gw64 gw138 gw1416) rfl rfl rfl hd_X9_isWord ⟨(Nat.le_of_ble_eq_true rfl), (Nat.le_of_ble_eq_true rfl)⟩) ⟨fbR, va_recv hK hP (ci := 8) (q0 := 0) rfl rfl, pR_in hP hK⟩ rfl rfl hl.1 rfl (lv_room (Nat.le_of_ble_eq_true rfl)) dX9_rankHere_16 ⟨(Nat.le_of_ble_eq_true rfl), (Nat.le_of_ble_eq_true rfl)⟩) hS (fun q hq h => absurd hq (Nat.not_lt.mpr h)) (fun q h => Nat.le_trans hS.1 h) (fun r_11 u_ t_ H10 locs ht hvm hw hB hz1 hk1 hS => ?_)
    subst hw
    have hP := wk hP hk1
    obtain ⟨f12, f13, f14⟩ := hB
    refine lv_if_eq (tgt := 24) hx hb dX9_rankHere_19 (by decide) (fun c_15 => ?_) (fun c_15 => ?_)
    · skip
      have f16 : r_11.toInt = 0 := qi_eq c_15 rfl zc_0
      refine lv_aload_n hx hb dX9_rankHere_24 rfl (lv_at hl 0 rfl) ?_
      refine lv_bipush (v := 60) hx hb dX9_rankHere_25 (by decide) ?_
      refine va_calli (va_runV (As := [.int 60]) (rest := []) ⟨hx, hb, hml, hown, hG⟩ (kX9_isSignHere l dC dI r ct i_taped i_size i_faultKind i_at i_end i_token i_number i_bank i_rb i_codes i_within i_piled i_unitsInRule i_askHouse i_askTune i_acts i_undone i_laid i_knowns i_time f_text f_tunes f_houses f_hums f_told f_many f_ruleFrom f_ruleTo f_code f_eWhat f_eSign f_all f_kept f_was f_sTune f_boxAll J L 60 H10.size hI) (cwV 1 hG (goodV gw1476 gw1478 gw79 gw138 gw1479) rfl rfl rfl hd_X9_isSignHere ⟨(Nat.le_of_ble_eq_true rfl), (Nat.le_of_ble_eq_true rfl)⟩) ⟨fbR, va_recv hK hP (ci := 8) (q0 := 0) rfl rfl, pR_in hP hK⟩ rfl rfl hl.1 rfl (lv_room (Nat.le_of_ble_eq_true rfl)) dX9_rankHere_27 ⟨(Nat.le_of_ble_eq_true rfl), (Nat.le_of_ble_eq_true rfl)⟩) hS (fun q hq h => absurd hq (Nat.not_lt.mpr h)) (fun q h => Nat.le_trans hS.1 h) (fun r_18 u_ t_ H17 locs ht hvm hw hB hz1 hk1 hS => ?_)
      subst hw
      have hP := wk hP hk1
      obtain ⟨f19, f20, f21⟩ := hB
      refine lv_if_ne (tgt := 51) hx hb dX9_rankHere_30 (by decide) (fun c_22 => ?_) (fun c_22 => ?_)
      · skip
        have f23 : r_18.toInt ≠ 0 := qi_ne c_22 rfl zc_0
        have f24 : (1 : Int) ≤ r_18.toInt := (ob_267 f19 f23 zc_60)
        have f25 : i_token.toInt = (5 : Int) := (ob_268 f19 f23 zc_60)
        have f26 : (sgz f_text i_size.toInt i_at.toInt) = (60 : Int) := (ob_269 f19 f23 zc_60)
        have f27 : r_18.toInt = (1 : Int) := (ob_104 f20 f21 f24)
        refine lv_iconst (v := 4) hx hb dX9_rankHere_51 (by decide) ?_
        rw [hQ]
        exact W.iret (v := 4) hx hb hr (fun t ht hW => ⟨⟨4, 4, rfl, rfl, ⟨(ob_270 zc_4), (ob_271 zc_4), (ob_219 zc_4), (ob_272 f25 zc_4), (ob_273 f26 zc_4)⟩⟩, hS.F ht⟩) hS.2.2 dX9_rankHere_52
      · skip
        have f28 : r_18.toInt = 0 := qi_eq c_22 rfl zc_0
        refine lv_aload_n hx hb dX9_rankHere_33 rfl (lv_at hl 0 rfl) ?_
        refine lv_bipush (v := 62) hx hb dX9_rankHere_34 (by decide) ?_
        refine va_calli (va_runV (As := [.int 62]) (rest := []) ⟨hx, hb, hml, hown, hG⟩ (kX9_isSignHere l dC dI r ct i_taped i_size i_faultKind i_at i_end i_token i_number i_bank i_rb i_codes i_within i_piled i_unitsInRule i_askHouse i_askTune i_acts i_undone i_laid i_knowns i_time f_text f_tunes f_houses f_hums f_told f_many f_ruleFrom f_ruleTo f_code f_eWhat f_eSign f_all f_kept f_was f_sTune f_boxAll J L 62 H17.size hI) (cwV 1 hG (goodV gw1476 gw1478 gw79 gw138 gw1479) rfl rfl rfl hd_X9_isSignHere ⟨(Nat.le_of_ble_eq_true rfl), (Nat.le_of_ble_eq_true rfl)⟩) ⟨fbR, va_recv hK hP (ci := 8) (q0 := 0) rfl rfl, pR_in hP hK⟩ rfl rfl hl.1 rfl (lv_room (Nat.le_of_ble_eq_true rfl)) dX9_rankHere_36 ⟨(Nat.le_of_ble_eq_true rfl), (Nat.le_of_ble_eq_true rfl)⟩) hS (fun q hq h => absurd hq (Nat.not_lt.mpr h)) (fun q h => Nat.le_trans hS.1 h) (fun r_30 u_ t_ H29 locs ht hvm hw hB hz1 hk1 hS => ?_)
        subst hw
        have hP := wk hP hk1
        obtain ⟨f31, f32, f33⟩ := hB
        refine lv_if_ne (tgt := 51) hx hb dX9_rankHere_39 (by decide) (fun c_34 => ?_) (fun c_34 => ?_)
        · skip
          have f35 : r_30.toInt ≠ 0 := qi_ne c_34 rfl zc_0
          have f36 : (1 : Int) ≤ r_30.toInt := (ob_274 f31 f35 zc_62)
          have f37 : i_token.toInt = (5 : Int) := (ob_275 f31 f35 zc_62)
          have f38 : (sgz f_text i_size.toInt i_at.toInt) = (62 : Int) := (ob_276 f31 f35 zc_62)
          have f39 : r_30.toInt = (1 : Int) := (ob_104 f32 f33 f36)
          refine lv_iconst (v := 4) hx hb dX9_rankHere_51 (by decide) ?_
          rw [hQ]
          exact W.iret (v := 4) hx hb hr (fun t ht hW => ⟨⟨4, 4, rfl, rfl, ⟨(ob_270 zc_4), (ob_271 zc_4), (ob_219 zc_4), (ob_272 f37 zc_4), (ob_277 f38 zc_4)⟩⟩, hS.F ht⟩) hS.2.2 dX9_rankHere_52
        · skip
          have f40 : r_30.toInt = 0 := qi_eq c_34 rfl zc_0
          refine lv_aload_n hx hb dX9_rankHere_42 rfl (lv_at hl 0 rfl) ?_
          refine lv_bipush (v := 61) hx hb dX9_rankHere_43 (by decide) ?_
          refine va_calli (va_runV (As := [.int 61]) (rest := []) ⟨hx, hb, hml, hown, hG⟩ (kX9_isSignHere l dC dI r ct i_taped i_size i_faultKind i_at i_end i_token i_number i_bank i_rb i_codes i_within i_piled i_unitsInRule i_askHouse i_askTune i_acts i_undone i_laid i_knowns i_time f_text f_tunes f_houses f_hums f_told f_many f_ruleFrom f_ruleTo f_code f_eWhat f_eSign f_all f_kept f_was f_sTune f_boxAll J L 61 H29.size hI) (cwV 1 hG (goodV gw1476 gw1478 gw79 gw138 gw1479) rfl rfl rfl hd_X9_isSignHere ⟨(Nat.le_of_ble_eq_true rfl), (Nat.le_of_ble_eq_true rfl)⟩) ⟨fbR, va_recv hK hP (ci := 8) (q0 := 0) rfl rfl, pR_in hP hK⟩ rfl rfl hl.1 rfl (lv_room (Nat.le_of_ble_eq_true rfl)) dX9_rankHere_45 ⟨(Nat.le_of_ble_eq_true rfl), (Nat.le_of_ble_eq_true rfl)⟩) hS (fun q hq h => absurd hq (Nat.not_lt.mpr h)) (fun q h => Nat.le_trans hS.1 h) (fun r_42 u_ t_ H41 locs ht hvm hw hB hz1 hk1 hS => ?_)
          subst hw
          have hP := wk hP hk1
          obtain ⟨f43, f44, f45⟩ := hB
          refine lv_if_eq (tgt := 53) hx hb dX9_rankHere_48 (by decide) (fun c_46 => ?_) (fun c_46 => ?_)
          · skip
            have f47 : r_42.toInt = 0 := qi_eq c_46 rfl zc_0
            refine lv_aload_n hx hb dX9_rankHere_53 rfl (lv_at hl 0 rfl) ?_
            refine lv_bipush (v := 43) hx hb dX9_rankHere_54 (by decide) ?_
            refine va_calli (va_runV (As := [.int 43]) (rest := []) ⟨hx, hb, hml, hown, hG⟩ (kX9_isSignHere l dC dI r ct i_taped i_size i_faultKind i_at i_end i_token i_number i_bank i_rb i_codes i_within i_piled i_unitsInRule i_askHouse i_askTune i_acts i_undone i_laid i_knowns i_time f_text f_tunes f_houses f_hums f_told f_many f_ruleFrom f_ruleTo f_code f_eWhat f_eSign f_all f_kept f_was f_sTune f_boxAll J L 43 H41.size hI) (cwV 1 hG (goodV gw1476 gw1478 gw79 gw138 gw1479) rfl rfl rfl hd_X9_isSignHere ⟨(Nat.le_of_ble_eq_true rfl), (Nat.le_of_ble_eq_true rfl)⟩) ⟨fbR, va_recv hK hP (ci := 8) (q0 := 0) rfl rfl, pR_in hP hK⟩ rfl rfl hl.1 rfl (lv_room (Nat.le_of_ble_eq_true rfl)) dX9_rankHere_56 ⟨(Nat.le_of_ble_eq_true rfl), (Nat.le_of_ble_eq_true rfl)⟩) hS (fun q hq h => absurd hq (Nat.not_lt.mpr h)) (fun q h => Nat.le_trans hS.1 h) (fun r_49 u_ t_ H48 locs ht hvm hw hB hz1 hk1 hS => ?_)
            subst hw
            have hP := wk hP hk1
            obtain ⟨f50, f51, f52⟩ := hB
            refine lv_if_ne (tgt := 71) hx hb dX9_rankHere_59 (by decide) (fun c_53 => ?_) (fun c_53 => ?_)
            · skip
              have f54 : r_49.toInt ≠ 0 := qi_ne c_53 rfl zc_0
              have f55 : (1 : Int) ≤ r_49.toInt := (ob_278 f50 f54 zc_43)
              have f56 : i_token.toInt = (5 : Int) := (ob_279 f50 f54 zc_43)
              have f57 : (sgz f_text i_size.toInt i_at.toInt) = (43 : Int) := (ob_280 f50 f54 zc_43)
              have f58 : r_49.toInt = (1 : Int) := (ob_104 f51 f52 f55)
              refine lv_iconst (v := 5) hx hb dX9_rankHere_71 (by decide) ?_
              rw [hQ]
              exact W.iret (v := 5) hx hb hr (fun t ht hW => ⟨⟨5, 5, rfl, rfl, ⟨(ob_281 zc_5), (ob_282 zc_5), (ob_283 zc_5), (ob_284 f56 zc_5), (ob_285 f57 zc_5)⟩⟩, hS.F ht⟩) hS.2.2 dX9_rankHere_72
            · skip
              have f59 : r_49.toInt = 0 := qi_eq c_53 rfl zc_0
              refine lv_aload_n hx hb dX9_rankHere_62 rfl (lv_at hl 0 rfl) ?_
              refine lv_bipush (v := 45) hx hb dX9_rankHere_63 (by decide) ?_
              refine va_calli (va_runV (As := [.int 45]) (rest := []) ⟨hx, hb, hml, hown, hG⟩ (kX9_isSignHere l dC dI r ct i_taped i_size i_faultKind i_at i_end i_token i_number i_bank i_rb i_codes i_within i_piled i_unitsInRule i_askHouse i_askTune i_acts i_undone i_laid i_knowns i_time f_text f_tunes f_houses f_hums f_told f_many f_ruleFrom f_ruleTo f_code f_eWhat f_eSign f_all f_kept f_was f_sTune f_boxAll J L 45 H48.size hI) (cwV 1 hG (goodV gw1476 gw1478 gw79 gw138 gw1479) rfl rfl rfl hd_X9_isSignHere ⟨(Nat.le_of_ble_eq_true rfl), (Nat.le_of_ble_eq_true rfl)⟩) ⟨fbR, va_recv hK hP (ci := 8) (q0 := 0) rfl rfl, pR_in hP hK⟩ rfl rfl hl.1 rfl (lv_room (Nat.le_of_ble_eq_true rfl)) dX9_rankHere_65 ⟨(Nat.le_of_ble_eq_true rfl), (Nat.le_of_ble_eq_true rfl)⟩) hS (fun q hq h => absurd hq (Nat.not_lt.mpr h)) (fun q h => Nat.le_trans hS.1 h) (fun r_61 u_ t_ H60 locs ht hvm hw hB hz1 hk1 hS => ?_)
              subst hw
              have hP := wk hP hk1
              obtain ⟨f62, f63, f64⟩ := hB
              refine lv_if_eq (tgt := 73) hx hb dX9_rankHere_68 (by decide) (fun c_65 => ?_) (fun c_65 => ?_)
              · skip
                have f66 : r_61.toInt = 0 := qi_eq c_65 rfl zc_0
                refine lv_aload_n hx hb dX9_rankHere_73 rfl (lv_at hl 0 rfl) ?_
                refine lv_bipush (v := 42) hx hb dX9_rankHere_74 (by decide) ?_
                refine va_calli (va_runV (As := [.int 42]) (rest := []) ⟨hx, hb, hml, hown, hG⟩ (kX9_isSignHere l dC dI r ct i_taped i_size i_faultKind i_at i_end i_token i_number i_bank i_rb i_codes i_within i_piled i_unitsInRule i_askHouse i_askTune i_acts i_undone i_laid i_knowns i_time f_text f_tunes f_houses f_hums f_told f_many f_ruleFrom f_ruleTo f_code f_eWhat f_eSign f_all f_kept f_was f_sTune f_boxAll J L 42 H60.size hI) (cwV 1 hG (goodV gw1476 gw1478 gw79 gw138 gw1479) rfl rfl rfl hd_X9_isSignHere ⟨(Nat.le_of_ble_eq_true rfl), (Nat.le_of_ble_eq_true rfl)⟩) ⟨fbR, va_recv hK hP (ci := 8) (q0 := 0) rfl rfl, pR_in hP hK⟩ rfl rfl hl.1 rfl (lv_room (Nat.le_of_ble_eq_true rfl)) dX9_rankHere_76 ⟨(Nat.le_of_ble_eq_true rfl), (Nat.le_of_ble_eq_true rfl)⟩) hS (fun q hq h => absurd hq (Nat.not_lt.mpr h)) (fun q h => Nat.le_trans hS.1 h) (fun r_68 u_ t_ H67 locs ht hvm hw hB hz1 hk1 hS => ?_)
                subst hw
                have hP := wk hP hk1
                obtain ⟨f69, f70, f71⟩ := hB
                refine lv_if_ne (tgt := 100) hx hb dX9_rankHere_79 (by decide) (fun c_72 => ?_) (fun c_72 => ?_)
                · skip
                  have f73 : r_68.toInt ≠ 0 := qi_ne c_72 rfl zc_0
                  have f74 : (1 : Int) ≤ r_68.toInt := (ob_286 f69 f73 zc_42)
                  have f75 : i_token.toInt = (5 : Int) := (ob_287 f69 f73 zc_42)
                  have f76 : (sgz f_text i_size.toInt i_at.toInt) = (42 : Int) := (ob_288 f69 f73 zc_42)
                  have f77 : r_68.toInt = (1 : Int) := (ob_104 f70 f71 f74)
                  refine lv_bipush (v := 6) hx hb dX9_rankHere_100 (by decide) ?_
                  refine lv_goto (tgt := 106) hx hb dX9_rankHere_102 (by decide) ?_
                  rw [hQ]
                  exact W.iret (v := 6) hx hb hr (fun t ht hW => ⟨⟨6, 6, rfl, rfl, ⟨(ob_289 zc_6), (ob_290 zc_6), (ob_291 zc_6), (ob_292 f75 zc_6), (ob_293 f76 zc_6)⟩⟩, hS.F ht⟩) hS.2.2 dX9_rankHere_106
                · skip
                  have f78 : r_68.toInt = 0 := qi_eq c_72 rfl zc_0
                  refine lv_aload_n hx hb dX9_rankHere_82 rfl (lv_at hl 0 rfl) ?_
                  refine lv_bipush (v := 47) hx hb dX9_rankHere_83 (by decide) ?_
                  refine va_calli (va_runV (As := [.int 47]) (rest := []) ⟨hx, hb, hml, hown, hG⟩ (kX9_isSignHere l dC dI r ct i_taped i_size i_faultKind i_at i_end i_token i_number i_bank i_rb i_codes i_within i_piled i_unitsInRule i_askHouse i_askTune i_acts i_undone i_laid i_knowns i_time f_text f_tunes f_houses f_hums f_told f_many f_ruleFrom f_ruleTo f_code f_eWhat f_eSign f_all f_kept f_was f_sTune f_boxAll J L 47 H67.size hI) (cwV 1 hG (goodV gw1476 gw1478 gw79 gw138 gw1479) rfl rfl rfl hd_X9_isSignHere ⟨(Nat.le_of_ble_eq_true rfl), (Nat.le_of_ble_eq_true rfl)⟩) ⟨fbR, va_recv hK hP (ci := 8) (q0 := 0) rfl rfl, pR_in hP hK⟩ rfl rfl hl.1 rfl (lv_room (Nat.le_of_ble_eq_true rfl)) dX9_rankHere_85 ⟨(Nat.le_of_ble_eq_true rfl), (Nat.le_of_ble_eq_true rfl)⟩) hS (fun q hq h => absurd hq (Nat.not_lt.mpr h)) (fun q h => Nat.le_trans hS.1 h) (fun r_80 u_ t_ H79 locs ht hvm hw hB hz1 hk1 hS => ?_)
                  subst hw
                  have hP := wk hP hk1
                  obtain ⟨f81, f82, f83⟩ := hB
                  refine lv_if_ne (tgt := 100) hx hb dX9_rankHere_88 (by decide) (fun c_84 => ?_) (fun c_84 => ?_)
                  · skip
                    have f85 : r_80.toInt ≠ 0 := qi_ne c_84 rfl zc_0
                    have f86 : (1 : Int) ≤ r_80.toInt := (ob_294 f81 f85 zc_47)
                    have f87 : i_token.toInt = (5 : Int) := (ob_295 f81 f85 zc_47)
                    have f88 : (sgz f_text i_size.toInt i_at.toInt) = (47 : Int) := (ob_296 f81 f85 zc_47)
                    have f89 : r_80.toInt = (1 : Int) := (ob_104 f82 f83 f86)
                    refine lv_bipush (v := 6) hx hb dX9_rankHere_100 (by decide) ?_
                    refine lv_goto (tgt := 106) hx hb dX9_rankHere_102 (by decide) ?_
                    rw [hQ]
                    exact W.iret (v := 6) hx hb hr (fun t ht hW => ⟨⟨6, 6, rfl, rfl, ⟨(ob_289 zc_6), (ob_290 zc_6), (ob_291 zc_6), (ob_292 f87 zc_6), (ob_297 f88 zc_6)⟩⟩, hS.F ht⟩) hS.2.2 dX9_rankHere_106
                  · skip
                    have f90 : r_80.toInt = 0 := qi_eq c_84 rfl zc_0
                    refine lv_aload_n hx hb dX9_rankHere_91 rfl (lv_at hl 0 rfl) ?_
                    refine lv_bipush (v := 37) hx hb dX9_rankHere_92 (by decide) ?_
                    refine va_calli (va_runV (As := [.int 37]) (rest := []) ⟨hx, hb, hml, hown, hG⟩ (kX9_isSignHere l dC dI r ct i_taped i_size i_faultKind i_at i_end i_token i_number i_bank i_rb i_codes i_within i_piled i_unitsInRule i_askHouse i_askTune i_acts i_undone i_laid i_knowns i_time f_text f_tunes f_houses f_hums f_told f_many f_ruleFrom f_ruleTo f_code f_eWhat f_eSign f_all f_kept f_was f_sTune f_boxAll J L 37 H79.size hI) (cwV 1 hG (goodV gw1476 gw1478 gw79 gw138 gw1479) rfl rfl rfl hd_X9_isSignHere ⟨(Nat.le_of_ble_eq_true rfl), (Nat.le_of_ble_eq_true rfl)⟩) ⟨fbR, va_recv hK hP (ci := 8) (q0 := 0) rfl rfl, pR_in hP hK⟩ rfl rfl hl.1 rfl (lv_room (Nat.le_of_ble_eq_true rfl)) dX9_rankHere_94 ⟨(Nat.le_of_ble_eq_true rfl), (Nat.le_of_ble_eq_true rfl)⟩) hS (fun q hq h => absurd hq (Nat.not_lt.mpr h)) (fun q h => Nat.le_trans hS.1 h) (fun r_92 u_ t_ H91 locs ht hvm hw hB hz1 hk1 hS => ?_)
                    subst hw
                    have hP := wk hP hk1
                    obtain ⟨f93, f94, f95⟩ := hB
                    refine lv_if_eq (tgt := 105) hx hb dX9_rankHere_97 (by decide) (fun c_96 => ?_) (fun c_96 => ?_)
                    · skip
                      have f97 : r_92.toInt = 0 := qi_eq c_96 rfl zc_0
                      refine lv_iconst (v := 0) hx hb dX9_rankHere_105 (by decide) ?_
                      rw [hQ]
                      exact W.iret (v := 0) hx hb hr (fun t ht hW => ⟨⟨0, 0, rfl, rfl, ⟨(ob_1 zc_0), (ob_298 zc_0), (ob_299 zc_0), (ob_300 zc_0), (ob_301 zc_0)⟩⟩, hS.F ht⟩) hS.2.2 dX9_rankHere_106
                    · skip
                      have f98 : r_92.toInt ≠ 0 := qi_ne c_96 rfl zc_0
                      have f99 : (1 : Int) ≤ r_92.toInt := (ob_302 f93 f98 zc_37)
                      have f100 : i_token.toInt = (5 : Int) := (ob_303 f93 f98 zc_37)
                      have f101 : (sgz f_text i_size.toInt i_at.toInt) = (37 : Int) := (ob_304 f93 f98 zc_37)
                      have f102 : r_92.toInt = (1 : Int) := (ob_104 f94 f95 f99)
                      refine lv_bipush (v := 6) hx hb dX9_rankHere_100 (by decide) ?_
                      refine lv_goto (tgt := 106) hx hb dX9_rankHere_102 (by decide) ?_
                      rw [hQ]
                      exact W.iret (v := 6) hx hb hr (fun t ht hW => ⟨⟨6, 6, rfl, rfl, ⟨(ob_289 zc_6), (ob_290 zc_6), (ob_291 zc_6), (ob_292 f100 zc_6), (ob_305 f101 zc_6)⟩⟩, hS.F ht⟩) hS.2.2 dX9_rankHere_106
              · skip
                have f103 : r_61.toInt ≠ 0 := qi_ne c_65 rfl zc_0
                have f104 : (1 : Int) ≤ r_61.toInt := (ob_306 f62 f103 zc_45)
                have f105 : i_token.toInt = (5 : Int) := (ob_307 f62 f103 zc_45)
                have f106 : (sgz f_text i_size.toInt i_at.toInt) = (45 : Int) := (ob_308 f62 f103 zc_45)
                have f107 : r_61.toInt = (1 : Int) := (ob_104 f63 f64 f104)
                refine lv_iconst (v := 5) hx hb dX9_rankHere_71 (by decide) ?_
                rw [hQ]
                exact W.iret (v := 5) hx hb hr (fun t ht hW => ⟨⟨5, 5, rfl, rfl, ⟨(ob_281 zc_5), (ob_282 zc_5), (ob_283 zc_5), (ob_284 f105 zc_5), (ob_309 f106 zc_5)⟩⟩, hS.F ht⟩) hS.2.2 dX9_rankHere_72
          · skip
            have f108 : r_42.toInt ≠ 0 := qi_ne c_46 rfl zc_0
            have f109 : (1 : Int) ≤ r_42.toInt := (ob_310 f43 f108 zc_61)
            have f110 : i_token.toInt = (5 : Int) := (ob_311 f43 f108 zc_61)
            have f111 : (sgz f_text i_size.toInt i_at.toInt) = (61 : Int) := (ob_312 f43 f108 zc_61)
            have f112 : r_42.toInt = (1 : Int) := (ob_104 f44 f45 f109)
            refine lv_iconst (v := 4) hx hb dX9_rankHere_51 (by decide) ?_
            rw [hQ]
            exact W.iret (v := 4) hx hb hr (fun t ht hW => ⟨⟨4, 4, rfl, rfl, ⟨(ob_270 zc_4), (ob_271 zc_4), (ob_219 zc_4), (ob_272 f110 zc_4), (ob_313 f111 zc_4)⟩⟩, hS.F ht⟩) hS.2.2 dX9_rankHere_52
    · skip
      have f113 : r_11.toInt ≠ 0 := qi_ne c_15 rfl zc_0
      have f114 : (1 : Int) ≤ r_11.toInt := (ob_197 f12 f113)
      have f115 : i_token.toInt = (3 : Int) := (ob_198 f12 f113)
      have f116 : r_11.toInt = (1 : Int) := (ob_104 f13 f14 f114)
      refine lv_iconst (v := 1) hx hb dX9_rankHere_22 (by decide) ?_
      rw [hQ]
      exact W.iret (v := 1) hx hb hr (fun t ht hW => ⟨⟨1, 1, rfl, rfl, ⟨(ob_14 zc_1), (ob_314 zc_1), (ob_315 zc_1), (ob_316 f115 zc_1), (ob_317 zc_1)⟩⟩, hS.F ht⟩) hS.2.2 dX9_rankHere_23
  · skip
    have f117 : r_4.toInt ≠ 0 := qi_ne c_8 rfl zc_0
    have f118 : (1 : Int) ≤ r_4.toInt := (ob_197 f5 f117)
    have f119 : i_token.toInt = (3 : Int) := (ob_198 f5 f117)
    have f120 : r_4.toInt = (1 : Int) := (ob_104 f6 f7 f118)
    refine lv_iconst (v := 2) hx hb dX9_rankHere_10 (by decide) ?_
    rw [hQ]
    exact W.iret (v := 2) hx hb hr (fun t ht hW => ⟨⟨2, 2, rfl, rfl, ⟨(ob_318 zc_2), (ob_319 zc_2), (ob_320 zc_2), (ob_321 f119 zc_2), (ob_322 zc_2)⟩⟩, hS.F ht⟩) hS.2.2 dX9_rankHere_11
set_option maxHeartbeats 4000000 in
set_option maxRecDepth 100000 in
theorem kX9_isCompared (l : Launch) (dC : Nat → ClassId) (dI : Nat → Nat → Nat) (r : Nat → Nat) (ct : Nat → ClassId) (i_taped i_size i_faultKind i_at i_end i_token i_number i_bank i_rb i_codes i_within i_piled i_unitsInRule i_askHouse i_askTune i_acts i_undone i_laid i_knowns i_time : Int32) (f_text f_tunes f_houses f_hums f_told f_many f_ruleFrom f_ruleTo f_code f_eWhat f_eSign f_all f_kept f_was f_sTune f_boxAll : Nat → Int32) (J : Nat → Nat → Int32) (L : Nat → Nat → Int64) (sz : Nat) (hI : (IM i_taped i_size i_faultKind i_at i_end i_bank i_rb i_acts i_undone i_laid i_knowns i_time f_tunes f_houses f_hums f_told f_many f_ruleFrom f_ruleTo f_code f_all f_kept f_was f_sTune f_boxAll)) (hp0 : (1 : Int) ≤ i_piled.toInt) (hp1 : i_piled.toInt ≤ (90 : Int)) (hp2 : (f_eWhat ((0 : Int)).toNat).toInt = (8 : Int)) : Met l yX9_isCompared (.code yX9_isCompared cX9_isCompared 2 (some .boolean) :: GW) { frames := 2, cells := 0, slots := 0, locals := 100 } (va_Pc [.ref (r 0)] (pR (dC, dI) (WM r ct i_taped i_size i_faultKind i_at i_end i_token i_number i_bank i_rb i_codes i_within i_piled i_unitsInRule i_askHouse i_askTune i_acts i_undone i_laid i_knowns i_time f_text f_tunes f_houses f_hums f_told f_many f_ruleFrom f_ruleTo f_code f_eWhat f_eSign f_all f_kept f_was f_sTune f_boxAll J L) (TM ct) sz)) (va_Qi (fun (r0 : Int32) (u : Int32) => r0 = u) (fun (u : Int32) (t : State) => (((u.toInt = (0 : Int))) ∨ ((u.toInt = (1 : Int)))) ∧ ((0 : Int) ≤ u.toInt) ∧ (u.toInt ≤ (1 : Int))) (fun q => sz ≤ q)) 0 0 (fun q => sz ≤ q) := by
  refine Met.ofW (cc := cX9_isCompared) (maxL := 2) (ret := (some .boolean)) (by decide) rfl ?_
  intro p e s m args below meth c0 s₁ B hml hv
  obtain ⟨rfl, hsz, hP, hK⟩ := hv
  have hx := B.exec
  have hb := B.bytes
  have hr := B.returns
  have hts := atoms_spec (ws := .code yX9_isCompared cX9_isCompared 2 (some .boolean) :: GW) B.pre
  have hG : ∀ w ∈ GW, w.before _ s = true := fun w h => hts w (List.mem_cons_of_mem _ h)
  have hown : s.vm.findClass RX9 = some m.cls := findClass_of_methodNamed B.named
  subst hsz
  have hS : va_S (fun q => s.heap.size ≤ q) s.heap s.heap [] := va_S.rf
  have hP : va_P (dC, dI) vwCl (WM r ct i_taped i_size i_faultKind i_at i_end i_token i_number i_bank i_rb i_codes i_within i_piled i_unitsInRule i_askHouse i_askTune i_acts i_undone i_laid i_knowns i_time f_text f_tunes f_houses f_hums f_told f_many f_ruleFrom f_ruleTo f_code f_eWhat f_eSign f_all f_kept f_was f_sTune f_boxAll J L) s.heap := hP
  have hl := lv_entry ([.ref (r 0)]) (n := 2) (Nat.le_of_ble_eq_true rfl)
  rw [lg_entry_eq]
  generalize (lg_sl ([.ref (r 0)]) ++ List.replicate (2 - (lg_sl ([.ref (r 0)])).length) Slot.unset).toArray = ls at hl ⊢
  have hl : lv_has ls 2 [(0, .ref (r 0))] := hl
  refine nameQ (fun Q hQ => ?_)
  obtain ⟨im0, im1, im2, im3, im4, im5, im6, im7, im8, im9, im10, im11, im12, im13, im14, im15, im16, im17, im18, im19, im20, im21, im22, im23, im24, im25, im26, im27, im28, im29, im30, im31, im32⟩ := id hI
  have f1 : 0 ≤ (f_tunes (i_bank.toInt).toNat).toInt ∧ (f_tunes (i_bank.toInt).toNat).toInt ≤ 5 := im21 (i_bank.toInt)
  have f2 : 0 ≤ (f_houses (i_bank.toInt).toNat).toInt ∧ (f_houses (i_bank.toInt).toNat).toInt ≤ 4 := im22 (i_bank.toInt)
  refine lv_aload_n hx hb dX9_isCompared_0 rfl (lv_at hl 0 rfl) ?_
  refine gM_X9_296_0 hx hb hG hown hK hP dX9_isCompared_1 ?_
  refine lv_iconst (v := 1) hx hb dX9_isCompared_4 (by decide) ?_
  refine lv_isub hx hb dX9_isCompared_5 ?_
  refine lv_topi (fun x3 ex3 => ?_)
  have f4 : x3.toInt = i_piled.toInt + (-1) := (ob_208 (qi_sub ex3 rfl zc_1 (ob_323 hp0 hp1) (ob_324 hp0 hp1)))
  refine lv_istore_n (lv' := [(1, .int x3), (0, .ref (r 0))]) hx hb dX9_isCompared_6 rfl hl (by decide) rfl (fun ls hl => ?_)
  have L7 : ∀ (N7 : Nat) (y7_1 : Int32) (H7 : Heap) (locs : List Loc) (ls : Array Slot) (g7_0 : (0 : Int) ≤ y7_1.toInt + 1) (g7_1 : y7_1.toInt ≤ (89 : Int)) (g7_2 : (0 : Int) ≤ y7_1.toInt) (g7_3 : y7_1.toInt ≤ (89 : Int)) (hP : va_P (dC, dI) vwCl (WM r ct i_taped i_size i_faultKind i_at i_end i_token i_number i_bank i_rb i_codes i_within i_piled i_unitsInRule i_askHouse i_askTune i_acts i_undone i_laid i_knowns i_time f_text f_tunes f_houses f_hums f_told f_many f_ruleFrom f_ruleTo f_code f_eWhat f_eSign f_all f_kept f_was f_sTune f_boxAll J L) H7) (hS : va_S (fun q => s.heap.size ≤ q) s.heap H7 locs) (hl : lv_has ls 2 [(0, .ref (r 0)), (1, .int y7_1)]) (hM : y7_1.toInt < (N7 : Int)), W p l e { frames := 2, cells := 0, slots := 0, locals := 100 } s m ([.ref (r 0)] : List Value).toArray below meth c0 H7 locs 0 0 Q (F0 m 7 ls []) := by
    intro N7
    induction N7 with
    | zero =>
      intro y7_1 H7 locs ls g7_0 g7_1 g7_2 g7_3 hP hS hl hM
      exact ((ob_325 hM g7_2)).elim
    | succ N7 ih7 =>
      intro y7_1 H7 locs ls g7_0 g7_1 g7_2 g7_3 hP hS hl hM
      have hM7 := msucc hM
      refine lv_aload_n hx hb dX9_isCompared_7 rfl (lv_at hl 0 rfl) ?_
      refine gM_X9_79_0 hx hb hG hown hK hP dX9_isCompared_8 ?_
      refine lv_iload_n hx hb dX9_isCompared_11 rfl (lv_at hl 1 rfl) ?_
      refine ldM_22 (mm := y7_1.toInt) hx hb hK hP rfl (ob_212 g7_2) (ob_326 g7_1) dX9_isCompared_12 ?_
      have f5 : y7_1.toInt = 0 → (f_eWhat (y7_1.toInt).toNat).toInt = (f_eWhat ((0 : Int)).toNat).toInt := (fun h => by rw [h])
      refine lv_iconst (v := 5) hx hb dX9_isCompared_13 (by decide) ?_
      refine lv_icmp_eq (tgt := 28) hx hb dX9_isCompared_14 (by decide) (fun c_6 => ?_) (fun c_6 => ?_)
      · skip
        have f7 : (f_eWhat (y7_1.toInt).toNat).toInt = 5 := qi_eq c_6 rfl zc_5
        have f8 : y7_1.toInt ≠ (0 : Int) := (ob_327 hp2 f5 f7)
        obtain ⟨x9, ex9⟩ : ∃ y : Int32, y = y7_1 + Int32.ofInt (-1) := ⟨_, rfl⟩
        have f10 : x9.toInt = y7_1.toInt + (-1) := (ob_330 (qi_add ex9 rfl (by decide) (ob_328 g7_0) (ob_329 g7_1)))
        refine lv_iinc (v := x9) (lv' := [(1, .int x9), (0, .ref (r 0))]) hx hb dX9_isCompared_28 hl (k := 1) rfl ex9.symm (by decide) rfl (fun ls hl => ?_)
        refine lv_goto (tgt := 7) hx hb dX9_isCompared_31 (by decide) ?_
        exact ih7 x9 H7 _ _ (ob_331 g7_2 f10) (ob_332 g7_1 f10) (ob_333 g7_2 f8 f10) (ob_332 g7_1 f10) hP hS (lv_sub hl [1, 0] rfl) (ob_334 hM7 f10)
      · skip
        have f11 : (f_eWhat (y7_1.toInt).toNat).toInt ≠ 5 := qi_ne c_6 rfl zc_5
        refine lv_aload_n hx hb dX9_isCompared_17 rfl (lv_at hl 0 rfl) ?_
        refine gM_X9_79_0 hx hb hG hown hK hP dX9_isCompared_18 ?_
        refine lv_iload_n hx hb dX9_isCompared_21 rfl (lv_at hl 1 rfl) ?_
        refine ldM_22 (mm := y7_1.toInt) hx hb hK hP rfl (ob_212 g7_2) (ob_326 g7_1) dX9_isCompared_22 ?_
        refine lv_bipush (v := 6) hx hb dX9_isCompared_23 (by decide) ?_
        refine lv_icmp_ne (tgt := 34) hx hb dX9_isCompared_25 (by decide) (fun c_12 => ?_) (fun c_12 => ?_)
        · skip
          have f13 : (f_eWhat (y7_1.toInt).toNat).toInt ≠ 6 := qi_ne c_12 rfl zc_6
          refine lv_aload_n hx hb dX9_isCompared_34 rfl (lv_at hl 0 rfl) ?_
          refine gM_X9_79_0 hx hb hG hown hK hP dX9_isCompared_35 ?_
          refine lv_iload_n hx hb dX9_isCompared_38 rfl (lv_at hl 1 rfl) ?_
          refine ldM_22 (mm := y7_1.toInt) hx hb hK hP rfl (ob_212 g7_2) (ob_326 g7_1) dX9_isCompared_39 ?_
          refine lv_iconst (v := 4) hx hb dX9_isCompared_40 (by decide) ?_
          refine lv_icmp_ne (tgt := 48) hx hb dX9_isCompared_41 (by decide) (fun c_14 => ?_) (fun c_14 => ?_)
          · skip
            have f15 : (f_eWhat (y7_1.toInt).toNat).toInt ≠ 4 := qi_ne c_14 rfl zc_4
            refine lv_iconst (v := 0) hx hb dX9_isCompared_48 (by decide) ?_
            rw [hQ]
            exact W.zret (v := 0) hx hb hr (by decide) (fun t ht hW => ⟨⟨0, 0, rfl, rfl, ⟨(ob_335 zc_0), (ob_1 zc_0), (ob_11 zc_0)⟩⟩, hS.F ht⟩) hS.2.2 dX9_isCompared_49
          · skip
            have f16 : (f_eWhat (y7_1.toInt).toNat).toInt = 4 := qi_eq c_14 rfl zc_4
            have f17 : y7_1.toInt ≠ (0 : Int) := (ob_336 hp2 f5 f16)
            have f18 : (f_eWhat (y7_1.toInt).toNat).toInt ≤ (4 : Int) := (ob_263 f16)
            have f19 : (f_eWhat (y7_1.toInt).toNat).toInt ≤ (5 : Int) := (ob_337 f16 f18)
            refine lv_iconst (v := 1) hx hb dX9_isCompared_44 (by decide) ?_
            refine lv_goto (tgt := 49) hx hb dX9_isCompared_45 (by decide) ?_
            rw [hQ]
            exact W.zret (v := 1) hx hb hr (by decide) (fun t ht hW => ⟨⟨1, 1, rfl, rfl, ⟨(ob_338 zc_1), (ob_14 zc_1), (ob_15 zc_1)⟩⟩, hS.F ht⟩) hS.2.2 dX9_isCompared_49
        · skip
          have f20 : (f_eWhat (y7_1.toInt).toNat).toInt = 6 := qi_eq c_12 rfl zc_6
          have f21 : y7_1.toInt ≠ (0 : Int) := (ob_339 hp2 f5 f20)
          have f22 : (6 : Int) ≤ (f_eWhat (y7_1.toInt).toNat).toInt := (ob_340 f20)
          obtain ⟨x23, ex23⟩ : ∃ y : Int32, y = y7_1 + Int32.ofInt (-1) := ⟨_, rfl⟩
          have f24 : x23.toInt = y7_1.toInt + (-1) := (ob_330 (qi_add ex23 rfl (by decide) (ob_328 g7_0) (ob_329 g7_1)))
          refine lv_iinc (v := x23) (lv' := [(1, .int x23), (0, .ref (r 0))]) hx hb dX9_isCompared_28 hl (k := 1) rfl ex23.symm (by decide) rfl (fun ls hl => ?_)
          refine lv_goto (tgt := 7) hx hb dX9_isCompared_31 (by decide) ?_
          exact ih7 x23 H7 _ _ (ob_331 g7_2 f24) (ob_332 g7_1 f24) (ob_333 g7_2 f21 f24) (ob_332 g7_1 f24) hP hS (lv_sub hl [1, 0] rfl) (ob_334 hM7 f24)
  exact L7 (x3.toInt + 1).toNat x3 s.heap _ _ (ob_341 hp0 hp1 f4) (ob_342 hp0 hp1 f4) (ob_343 hp0 hp1 f4) (ob_342 hp0 hp1 f4) hP hS (lv_sub hl [1, 0] rfl) (mlt (ob_344 hp0 hp1 f4))
set_option maxHeartbeats 4000000 in
set_option maxRecDepth 100000 in
theorem kX9_behindUnit (l : Launch) (dC : Nat → ClassId) (dI : Nat → Nat → Nat) (r : Nat → Nat) (ct : Nat → ClassId) (i_taped i_size i_faultKind i_at i_end i_token i_number i_bank i_rb i_codes i_within i_piled i_unitsInRule i_askHouse i_askTune i_acts i_undone i_laid i_knowns i_time : Int32) (f_text f_tunes f_houses f_hums f_told f_many f_ruleFrom f_ruleTo f_code f_eWhat f_eSign f_all f_kept f_was f_sTune f_boxAll : Nat → Int32) (J : Nat → Nat → Int32) (L : Nat → Nat → Int64) (sz : Nat) (hI : (IM i_taped i_size i_faultKind i_at i_end i_bank i_rb i_acts i_undone i_laid i_knowns i_time f_tunes f_houses f_hums f_told f_many f_ruleFrom f_ruleTo f_code f_all f_kept f_was f_sTune f_boxAll)) (hp0 : i_rb.toInt + i_bank.toInt = (1 : Int)) (hp1 : (0 : Int) ≤ i_unitsInRule.toInt) (hp2 : i_unitsInRule.toInt ≤ (30 : Int)) (hp3 : (0 : Int) ≤ i_within.toInt) (hp4 : i_within.toInt ≤ (7 : Int)) (hp5 : (1 : Int) ≤ i_piled.toInt) (hp6 : 560 * i_rb.toInt ≤ i_codes.toInt) (hp7 : i_piled.toInt ≤ i_unitsInRule.toInt + i_within.toInt) (hp8 : i_codes.toInt + i_piled.toInt ≤ 560 * i_rb.toInt + 9 * i_unitsInRule.toInt) (hp9 : (f_eWhat ((0 : Int)).toNat).toInt = (8 : Int)) (hp10 : i_faultKind.toInt = (0 : Int)) (hp11 : SP f_eWhat f_eSign f_code i_piled.toInt i_within.toInt (560 * i_rb.toInt) i_codes.toInt 0) : Met l yX9_behindUnit (.code yX9_behindUnit cX9_behindUnit 2 (some .boolean) :: GW) { frames := 8, cells := 0, slots := 0, locals := 285 } (va_Pc [.ref (r 0)] (pW (dC, dI) (WM r ct i_taped i_size i_faultKind i_at i_end i_token i_number i_bank i_rb i_codes i_within i_piled i_unitsInRule i_askHouse i_askTune i_acts i_undone i_laid i_knowns i_time f_text f_tunes f_houses f_hums f_told f_many f_ruleFrom f_ruleTo f_code f_eWhat f_eSign f_all f_kept f_was f_sTune f_boxAll J L) (TM ct) sz)) (va_Qi (fun (r0 : Int32) (u : Int32) => r0 = u) (fun (u : Int32) (t : State) => ∃ (n_i_faultKind n_i_at n_i_end n_i_token n_i_number n_i_codes n_i_within n_i_piled : Int32) (n_f_code n_f_eWhat n_f_eSign : Nat → Int32) (n_J : Nat → Nat → Int32) (n_L : Nat → Nat → Int64), va_P (dC, dI) vwCl (WM r ct i_taped i_size n_i_faultKind n_i_at n_i_end n_i_token n_i_number i_bank i_rb n_i_codes n_i_within n_i_piled i_unitsInRule i_askHouse i_askTune i_acts i_undone i_laid i_knowns i_time f_text f_tunes f_houses f_hums f_told f_many f_ruleFrom f_ruleTo n_f_code n_f_eWhat n_f_eSign f_all f_kept f_was f_sTune f_boxAll n_J n_L) t.heap ∧ va_D (va_A (WM r ct i_taped i_size i_faultKind i_at i_end i_token i_number i_bank i_rb i_codes i_within i_piled i_unitsInRule i_askHouse i_askTune i_acts i_undone i_laid i_knowns i_time f_text f_tunes f_houses f_hums f_told f_many f_ruleFrom f_ruleTo f_code f_eWhat f_eSign f_all f_kept f_was f_sTune f_boxAll J L) sz) (WM r ct i_taped i_size n_i_faultKind n_i_at n_i_end n_i_token n_i_number i_bank i_rb n_i_codes n_i_within n_i_piled i_unitsInRule i_askHouse i_askTune i_acts i_undone i_laid i_knowns i_time f_text f_tunes f_houses f_hums f_told f_many f_ruleFrom f_ruleTo n_f_code n_f_eWhat n_f_eSign f_all f_kept f_was f_sTune f_boxAll n_J n_L) ∧ (IM i_taped i_size n_i_faultKind n_i_at n_i_end i_bank i_rb i_acts i_undone i_laid i_knowns i_time f_tunes f_houses f_hums f_told f_many f_ruleFrom f_ruleTo n_f_code f_all f_kept f_was f_sTune f_boxAll) ∧ ((0 : Int) ≤ u.toInt) ∧ (u.toInt ≤ (1 : Int)) ∧ ((n_i_faultKind.toInt = 0 → 1 ≤ n_i_piled.toInt → SP n_f_eWhat n_f_eSign n_f_code n_i_piled.toInt n_i_within.toInt (560 * i_rb.toInt) n_i_codes.toInt u.toInt)) ∧ ((n_i_faultKind.toInt = 0 → ∀ k : Int, 560 * i_rb.toInt ≤ k → k < n_i_codes.toInt → okc n_f_code (560 * i_rb.toInt) k)) ∧ ((0 : Int) ≤ n_i_piled.toInt) ∧ (n_i_piled.toInt ≤ (60 : Int)) ∧ (i_end.toInt ≤ n_i_end.toInt) ∧ (((1 : Int) ≤ n_i_faultKind.toInt) ∨ ((560 * i_rb.toInt ≤ n_i_codes.toInt) ∧ (n_i_codes.toInt + n_i_piled.toInt ≤ 560 * i_rb.toInt + 9 * i_unitsInRule.toInt + 9) ∧ (n_i_faultKind.toInt = (0 : Int)) ∧ ((n_f_eWhat ((0 : Int)).toNat).toInt = (8 : Int)) ∧ (((u.toInt = (1 : Int)) ∧ ((1 : Int) ≤ n_i_piled.toInt) ∧ (n_i_piled.toInt ≤ i_piled.toInt + 1) ∧ (i_token.toInt ≠ (0 : Int)) ∧ ((n_i_token.toInt = (0 : Int)) ∨ (i_end.toInt + 1 ≤ n_i_end.toInt)) ∧ ((0 : Int) ≤ n_i_within.toInt) ∧ (n_i_within.toInt ≤ (7 : Int)) ∧ (n_i_piled.toInt ≤ i_unitsInRule.toInt + n_i_within.toInt + 1) ∧ (n_i_codes.toInt + n_i_piled.toInt ≤ 560 * i_rb.toInt + 9 * i_unitsInRule.toInt + n_i_within.toInt + 1)) ∨ ((u.toInt = (0 : Int)) ∧ (n_i_piled.toInt + 1 ≤ i_piled.toInt) ∧ ((n_i_token.toInt = (0 : Int)) ∨ (i_token.toInt ≠ (0 : Int))) ∧ ((n_i_piled.toInt = (0 : Int)) ∨ (((0 : Int) ≤ n_i_within.toInt) ∧ (n_i_within.toInt ≤ (7 : Int)) ∧ (n_i_piled.toInt ≤ i_unitsInRule.toInt + n_i_within.toInt) ∧ (n_i_codes.toInt + n_i_piled.toInt ≤ 560 * i_rb.toInt + 9 * i_unitsInRule.toInt)))))))) (va_A (WM r ct i_taped i_size i_faultKind i_at i_end i_token i_number i_bank i_rb i_codes i_within i_piled i_unitsInRule i_askHouse i_askTune i_acts i_undone i_laid i_knowns i_time f_text f_tunes f_houses f_hums f_told f_many f_ruleFrom f_ruleTo f_code f_eWhat f_eSign f_all f_kept f_was f_sTune f_boxAll J L) sz)) 0 0 (va_A (WM r ct i_taped i_size i_faultKind i_at i_end i_token i_number i_bank i_rb i_codes i_within i_piled i_unitsInRule i_askHouse i_askTune i_acts i_undone i_laid i_knowns i_time f_text f_tunes f_houses f_hums f_told f_many f_ruleFrom f_ruleTo f_code f_eWhat f_eSign f_all f_kept f_was f_sTune f_boxAll J L) sz) := by
  refine Met.ofW (cc := cX9_behindUnit) (maxL := 2) (ret := (some .boolean)) (by decide) rfl ?_
  intro p e s m args below meth c0 s₁ B hml hv
  obtain ⟨rfl, hsz, hP, hK, hD0⟩ := hv
  have hx := B.exec
  have hb := B.bytes
  have hr := B.returns
  have hts := atoms_spec (ws := .code yX9_behindUnit cX9_behindUnit 2 (some .boolean) :: GW) B.pre
  have hG : ∀ w ∈ GW, w.before _ s = true := fun w h => hts w (List.mem_cons_of_mem _ h)
  have hown : s.vm.findClass RX9 = some m.cls := findClass_of_methodNamed B.named
  subst hsz
  have hD := hD0.self (sz := s.heap.size)
  generalize hAe : va_A (WM r ct i_taped i_size i_faultKind i_at i_end i_token i_number i_bank i_rb i_codes i_within i_piled i_unitsInRule i_askHouse i_askTune i_acts i_undone i_laid i_knowns i_time f_text f_tunes f_houses f_hums f_told f_many f_ruleFrom f_ruleTo f_code f_eWhat f_eSign f_all f_kept f_was f_sTune f_boxAll J L) s.heap.size = A at hD ⊢
  have hA : ∀ q : Nat, s.heap.size ≤ q → A q := fun q h => by rw [← hAe]; exact Or.inr h
  have hS : va_S A s.heap s.heap [] := va_S.rf
  have hP : va_P (dC, dI) vwCl (WM r ct i_taped i_size i_faultKind i_at i_end i_token i_number i_bank i_rb i_codes i_within i_piled i_unitsInRule i_askHouse i_askTune i_acts i_undone i_laid i_knowns i_time f_text f_tunes f_houses f_hums f_told f_many f_ruleFrom f_ruleTo f_code f_eWhat f_eSign f_all f_kept f_was f_sTune f_boxAll J L) s.heap := hP
  have hl := lv_entry ([.ref (r 0)]) (n := 2) (Nat.le_of_ble_eq_true rfl)
  rw [lg_entry_eq]
  generalize (lg_sl ([.ref (r 0)]) ++ List.replicate (2 - (lg_sl ([.ref (r 0)])).length) Slot.unset).toArray = ls at hl ⊢
  have hl : lv_has ls 2 [(0, .ref (r 0))] := hl
  refine nameQ (fun Q hQ => ?_)
  obtain ⟨im0, im1, im2, im3, im4, im5, im6, im7, im8, im9, im10, im11, im12, im13, im14, im15, im16, im17, im18, im19, im20, im21, im22, im23, im24, im25, im26, im27, im28, im29, im30, im31, im32⟩ := id hI
  have f1 : 0 ≤ (f_tunes (i_bank.toInt).toNat).toInt ∧ (f_tunes (i_bank.toInt).toNat).toInt ≤ 5 := im21 (i_bank.toInt)
  have f2 : 0 ≤ (f_houses (i_bank.toInt).toNat).toInt ∧ (f_houses (i_bank.toInt).toNat).toInt ≤ 4 := im22 (i_bank.toInt)
  refine lv_aload_n hx hb dX9_behindUnit_0 rfl (lv_at hl 0 rfl) ?_
  refine va_calli (va_runV (As := []) (rest := []) ⟨hx, hb, hml, hown, hG⟩ (kX9_rankHere l dC dI r ct i_taped i_size i_faultKind i_at i_end i_token i_number i_bank i_rb i_codes i_within i_piled i_unitsInRule i_askHouse i_askTune i_acts i_undone i_laid i_knowns i_time f_text f_tunes f_houses f_hums f_told f_many f_ruleFrom f_ruleTo f_code f_eWhat f_eSign f_all f_kept f_was f_sTune f_boxAll J L s.heap.size hI) (cwV 0 hG (goodV gw1492 gw1494 gw83 gw138 gw1495) rfl rfl rfl hd_X9_rankHere ⟨(Nat.le_of_ble_eq_true rfl), (Nat.le_of_ble_eq_true rfl)⟩) ⟨fbR, va_recv hK hP (ci := 8) (q0 := 0) rfl rfl, pR_in hP hK⟩ rfl rfl hl.1 rfl (lv_room (Nat.le_of_ble_eq_true rfl)) dX9_behindUnit_1 ⟨(Nat.le_of_ble_eq_true rfl), (Nat.le_of_ble_eq_true rfl)⟩) hS (fun q hq h => absurd hq (Nat.not_lt.mpr h)) (fun q h => hA q (Nat.le_trans hS.1 h)) (fun r_4 u_ t_ H3 locs ht hvm hw hB hz1 hk1 hS => ?_)
  subst hw
  have hP := wk hP hk1
  obtain ⟨f5, f6, f7, f8, f9⟩ := hB
  refine lv_istore_n (lv' := [(1, .int r_4), (0, .ref (r 0))]) hx hb dX9_behindUnit_4 rfl hl (by decide) rfl (fun ls hl => ?_)
  refine lv_iload_n hx hb dX9_behindUnit_5 rfl (lv_at hl 0 rfl) ?_
  refine lv_iconst (v := 4) hx hb dX9_behindUnit_6 (by decide) ?_
  refine lv_icmp_ne (tgt := 23) hx hb dX9_behindUnit_7 (by decide) (fun c_10 => ?_) (fun c_10 => ?_)
  · skip
    have f11 : r_4.toInt ≠ 4 := qi_ne c_10 rfl zc_4
    have L23 : ∀ (N23 : Nat) (m23_i_codes m23_i_within m23_i_piled : Int32) (m23_f_code : Nat → Int32) (m23_J : Nat → Nat → Int32) (H23 : Heap) (locs : List Loc) (ls : Array Slot) (g23_0 : (0 : Int) ≤ m23_i_codes.toInt) (g23_1 : m23_i_codes.toInt ≤ (830 : Int)) (g23_2 : (0 : Int) ≤ m23_i_within.toInt + 1) (g23_3 : m23_i_within.toInt ≤ (7 : Int)) (g23_4 : (0 : Int) ≤ m23_i_piled.toInt) (g23_5 : m23_i_piled.toInt ≤ (37 : Int)) (g23_6 : (0 : Int) ≤ m23_i_within.toInt) (g23_7 : m23_i_within.toInt ≤ (7 : Int)) (g23_8 : (1 : Int) ≤ m23_i_piled.toInt) (g23_9 : m23_i_piled.toInt ≤ i_piled.toInt) (g23_10 : m23_i_piled.toInt ≤ i_unitsInRule.toInt + m23_i_within.toInt) (g23_11 : m23_i_codes.toInt + m23_i_piled.toInt ≤ 560 * i_rb.toInt + 9 * i_unitsInRule.toInt) (g23_12 : 560 * i_rb.toInt ≤ m23_i_codes.toInt) (gi23_RU : RU i_bank f_told f_ruleFrom f_ruleTo m23_f_code) (gr23_0 : SP f_eWhat f_eSign m23_f_code m23_i_piled.toInt m23_i_within.toInt (560 * i_rb.toInt) m23_i_codes.toInt 0) (hP : va_P (dC, dI) vwCl (WM r ct i_taped i_size i_faultKind i_at i_end i_token i_number i_bank i_rb m23_i_codes m23_i_within m23_i_piled i_unitsInRule i_askHouse i_askTune i_acts i_undone i_laid i_knowns i_time f_text f_tunes f_houses f_hums f_told f_many f_ruleFrom f_ruleTo m23_f_code f_eWhat f_eSign f_all f_kept f_was f_sTune f_boxAll m23_J L) H23) (hD : va_D A (WM r ct i_taped i_size i_faultKind i_at i_end i_token i_number i_bank i_rb m23_i_codes m23_i_within m23_i_piled i_unitsInRule i_askHouse i_askTune i_acts i_undone i_laid i_knowns i_time f_text f_tunes f_houses f_hums f_told f_many f_ruleFrom f_ruleTo m23_f_code f_eWhat f_eSign f_all f_kept f_was f_sTune f_boxAll m23_J L)) (hS : va_S A s.heap H23 locs) (hl : lv_has ls 2 [(0, .ref (r 0)), (1, .int r_4)]) (hM : m23_i_piled.toInt < (N23 : Int)), W p l e { frames := 8, cells := 0, slots := 0, locals := 285 } s m ([.ref (r 0)] : List Value).toArray below meth c0 H23 locs 0 0 Q (F0 m 23 ls []) := by
      intro N23
      induction N23 with
      | zero =>
        intro m23_i_codes m23_i_within m23_i_piled m23_f_code m23_J H23 locs ls g23_0 g23_1 g23_2 g23_3 g23_4 g23_5 g23_6 g23_7 g23_8 g23_9 g23_10 g23_11 g23_12 gi23_RU gr23_0 hP hD hS hl hM
        exact ((ob_325 hM g23_4)).elim
      | succ N23 ih23 =>
        intro m23_i_codes m23_i_within m23_i_piled m23_f_code m23_J H23 locs ls g23_0 g23_1 g23_2 g23_3 g23_4 g23_5 g23_6 g23_7 g23_8 g23_9 g23_10 g23_11 g23_12 gi23_RU gr23_0 hP hD hS hl hM
        have hM23 := msucc hM
        refine lv_aload_n hx hb dX9_behindUnit_23 rfl (lv_at hl 0 rfl) ?_
        have f12 := SP.nn gr23_0 (ob_252 g23_8)
        refine gM_X9_79_0 hx hb hG hown hK hP dX9_behindUnit_24 ?_
        refine lv_aload_n hx hb dX9_behindUnit_27 rfl (lv_at hl 0 rfl) ?_
        refine gM_X9_296_0 hx hb hG hown hK hP dX9_behindUnit_28 ?_
        refine lv_iconst (v := 1) hx hb dX9_behindUnit_31 (by decide) ?_
        refine lv_isub hx hb dX9_behindUnit_32 ?_
        refine lv_topi (fun x13 ex13 => ?_)
        have f14 : x13.toInt = m23_i_piled.toInt + (-1) := (ob_208 (qi_sub ex13 rfl zc_1 (ob_345 g23_4) (ob_346 g23_5)))
        refine ldM_22 (mm := m23_i_piled.toInt + (-1)) hx hb hK hP f14 (ob_347 g23_8) (ob_348 g23_5) dX9_behindUnit_33 ?_
        have f15 : m23_i_piled.toInt + (-1) = 0 → (f_eWhat (m23_i_piled.toInt + (-1)).toNat).toInt = (f_eWhat ((0 : Int)).toNat).toInt := (fun h => by rw [h])
        have f16 : 1 ≤ m23_i_piled.toInt + (-1) → 1 ≤ (f_eWhat (m23_i_piled.toInt + (-1)).toNat).toInt ∧ (f_eWhat (m23_i_piled.toInt + (-1)).toNat).toInt ≤ 7 := SP.rg (k := m23_i_piled.toInt + (-1)) gr23_0 (ob_349)
        have f17 : ((f_eWhat (m23_i_piled.toInt + (-1)).toNat).toInt = 3 ∨ (f_eWhat (m23_i_piled.toInt + (-1)).toNat).toInt = 7) → 1 ≤ m23_i_within.toInt := SP.ge1 (k := m23_i_piled.toInt + (-1)) gr23_0 (ob_350) (ob_347 g23_8)
        refine lv_bipush (v := 6) hx hb dX9_behindUnit_34 (by decide) ?_
        refine lv_icmp_gt (tgt := 104) hx hb dX9_behindUnit_36 (by decide) (fun c_18 => ?_) (fun c_18 => ?_)
        · skip
          have f19 : 6 < (f_eWhat (m23_i_piled.toInt + (-1)).toNat).toInt := qi_lt c_18 zc_6 rfl
          refine lv_iload_n hx hb dX9_behindUnit_104 rfl (lv_at hl 1 rfl) ?_
          refine lv_if_le (tgt := 147) hx hb dX9_behindUnit_105 (by decide) (fun c_20 => ?_) (fun c_20 => ?_)
          · skip
            have f21 : r_4.toInt ≤ 0 := qi_le c_20 rfl zc_0
            have f22 : r_4.toInt ≤ (2 : Int) := (ob_351 f5 f6 f21)
            have f23 : r_4.toInt ≤ (3 : Int) := (ob_352 f21)
            refine lv_aload_n hx hb dX9_behindUnit_147 rfl (lv_at hl 0 rfl) ?_
            refine lv_dup hx hb dX9_behindUnit_148 rfl ?_
            refine gM_X9_296_0 hx hb hG hown hK hP dX9_behindUnit_149 ?_
            refine lv_iconst (v := 1) hx hb dX9_behindUnit_152 (by decide) ?_
            refine lv_isub hx hb dX9_behindUnit_153 ?_
            refine lv_topi (fun x24 ex24 => ?_)
            have f25 : x24.toInt = m23_i_piled.toInt + (-1) := (ob_208 (qi_sub ex24 rfl zc_1 (ob_345 g23_4) (ob_346 g23_5)))
            refine pM_X9_296_0 hx hb hG hown hK hP hD hS dX9_behindUnit_154 (fun H26 locs hP hD hS => ?_)
            refine lv_aload_n hx hb dX9_behindUnit_157 rfl (lv_at hl 0 rfl) ?_
            refine gM_X9_79_0 hx hb hG hown hK hP dX9_behindUnit_158 ?_
            refine lv_aload_n hx hb dX9_behindUnit_161 rfl (lv_at hl 0 rfl) ?_
            refine gM_X9_296_0 hx hb hG hown hK hP dX9_behindUnit_162 ?_
            refine ldM_22 (mm := m23_i_piled.toInt + (-1)) hx hb hK hP f25 (ob_347 g23_8) (ob_348 g23_5) dX9_behindUnit_165 ?_
            refine lv_bipush (v := 7) hx hb dX9_behindUnit_166 (by decide) ?_
            refine lv_icmp_ne (tgt := 191) hx hb dX9_behindUnit_168 (by decide) (fun c_27 => ?_) (fun c_27 => ?_)
            · skip
              have f28 : (f_eWhat (m23_i_piled.toInt + (-1)).toNat).toInt ≠ 7 := qi_ne c_27 rfl zc_7
              have f29 : (8 : Int) ≤ (f_eWhat (m23_i_piled.toInt + (-1)).toNat).toInt := (ob_353 f19 f28)
              have f30 : m23_i_piled.toInt ≤ (1 : Int) := (ob_354 f16 f19 f28)
              refine lv_iconst (v := 0) hx hb dX9_behindUnit_191 (by decide) ?_
              rw [hQ]
              exact W.zret (v := 0) hx hb hr (by decide) (fun t ht hW => ⟨⟨0, 0, rfl, rfl, ⟨i_faultKind, i_at, i_end, i_token, i_number, m23_i_codes, m23_i_within, x24, m23_f_code, f_eWhat, f_eSign, m23_J, L, by rw [ht]; exact hP, hD, ⟨im0, im1, im2, im3, im4, im5, im6, im7, im8, im9, im10, im11, im12, im13, im14, im15, im16, im17, im18, im19, im20, im21, im22, im23, im24, im25, im26, im27, im28, im29, im30, im31, gi23_RU⟩, (ob_1 zc_0), (ob_11 zc_0), (fun _ h => ((ob_355 h g23_8 f30 f25)).elim), (fun _ => gr23_0.2.2.2.2), (ob_356 g23_8 f25), (ob_357 g23_5 f25), (ob_88), (ob_358 im17 hp9 g23_3 g23_6 g23_9 g23_10 g23_11 g23_12 zc_0 f25)⟩⟩, hS.F ht⟩) hS.2.2 dX9_behindUnit_192
            · skip
              have f31 : (f_eWhat (m23_i_piled.toInt + (-1)).toNat).toInt = 7 := qi_eq c_27 rfl zc_7
              have f32 : m23_i_piled.toInt ≠ (1 : Int) := (ob_359 hp9 f15 f31)
              refine lv_aload_n hx hb dX9_behindUnit_171 rfl (lv_at hl 0 rfl) ?_
              refine lv_dup hx hb dX9_behindUnit_172 rfl ?_
              refine gM_X9_299_0 hx hb hG hown hK hP dX9_behindUnit_173 ?_
              refine lv_iconst (v := 1) hx hb dX9_behindUnit_176 (by decide) ?_
              refine lv_isub hx hb dX9_behindUnit_177 ?_
              refine lv_topi (fun x33 ex33 => ?_)
              have f34 : x33.toInt = m23_i_within.toInt + (-1) := (ob_208 (qi_sub ex33 rfl zc_1 (ob_360 g23_2) (ob_361 g23_3)))
              refine pM_X9_299_0 hx hb hG hown hK hP hD hS dX9_behindUnit_178 (fun H35 locs hP hD hS => ?_)
              refine lv_aload_n hx hb dX9_behindUnit_181 rfl (lv_at hl 0 rfl) ?_
              refine lv_aload_n hx hb dX9_behindUnit_182 rfl (lv_at hl 0 rfl) ?_
              refine lv_bipush (v := 41) hx hb dX9_behindUnit_183 (by decide) ?_
              refine va_calli (va_runV (As := [.int 41]) (rest := [.ref (r 0)]) ⟨hx, hb, hml, hown, hG⟩ (kX9_isSignHere l dC dI r ct i_taped i_size i_faultKind i_at i_end i_token i_number i_bank i_rb m23_i_codes x33 x24 i_unitsInRule i_askHouse i_askTune i_acts i_undone i_laid i_knowns i_time f_text f_tunes f_houses f_hums f_told f_many f_ruleFrom f_ruleTo m23_f_code f_eWhat f_eSign f_all f_kept f_was f_sTune f_boxAll m23_J L 41 H35.size ⟨im0, im1, im2, im3, im4, im5, im6, im7, im8, im9, im10, im11, im12, im13, im14, im15, im16, im17, im18, im19, im20, im21, im22, im23, im24, im25, im26, im27, im28, im29, im30, im31, gi23_RU⟩) (cwV 1 hG (goodV gw1476 gw1478 gw79 gw138 gw1479) rfl rfl rfl hd_X9_isSignHere ⟨(Nat.le_of_ble_eq_true rfl), (Nat.le_of_ble_eq_true rfl)⟩) ⟨fbR, va_recv hK hP (ci := 8) (q0 := 0) rfl rfl, pR_in hP hK⟩ rfl rfl hl.1 rfl (lv_room (Nat.le_of_ble_eq_true rfl)) dX9_behindUnit_185 ⟨(Nat.le_of_ble_eq_true rfl), (Nat.le_of_ble_eq_true rfl)⟩) hS (fun q hq h => absurd hq (Nat.not_lt.mpr h)) (fun q h => hA q (Nat.le_trans hS.1 h)) (fun r_37 u_ t_ H36 locs ht hvm hw hB hz1 hk1 hS => ?_)
              subst hw
              have hP := wk hP hk1
              obtain ⟨f38, f39, f40⟩ := hB
              have hFc := frA hD hS hA
              refine va_callv (va_runV (As := [.int r_37]) (rest := []) ⟨hx, hb, hml, hown, hG⟩ (kX9_must l dC dI r ct i_taped i_size i_faultKind i_at i_end i_token i_number i_bank i_rb m23_i_codes x33 x24 i_unitsInRule i_askHouse i_askTune i_acts i_undone i_laid i_knowns i_time f_text f_tunes f_houses f_hums f_told f_many f_ruleFrom f_ruleTo m23_f_code f_eWhat f_eSign f_all f_kept f_was f_sTune f_boxAll m23_J L r_37 H36.size ⟨im0, im1, im2, im3, im4, im5, im6, im7, im8, im9, im10, im11, im12, im13, im14, im15, im16, im17, im18, im19, im20, im21, im22, im23, im24, im25, im26, im27, im28, im29, im30, im31, gi23_RU⟩ (ob_183 f39 f40)) (cwV 1 hG (goodV gw1452 gw1454 gw73 gw138 gw1455) rfl rfl rfl hd_X9_must ⟨(Nat.le_of_ble_eq_true rfl), (Nat.le_of_ble_eq_true rfl)⟩) ⟨fbW, va_recv hK hP (ci := 8) (q0 := 0) rfl rfl, pW_in hP hK hD⟩ rfl rfl hl.1 rfl (lv_room (Nat.le_of_ble_eq_true rfl)) dX9_behindUnit_188 ⟨(Nat.le_of_ble_eq_true rfl), (Nat.le_of_ble_eq_true rfl)⟩) hS (fun q _ h => hFc q h) hFc (fun _ t_ H41 locs ht hvm hw hB hz1 hk1 hS => ?_)
              obtain ⟨x43, x44, x45, x46, x47, J48, L49, hP1, hD1, hI52, f50, f51⟩ := hB
              rw [ht] at hP1
              have hP := hP1
              have hD := dW hFc hD1
              obtain ⟨im53, im54, im55, im56, im57, im58, im59, im60, im61, im62, im63, im64, im65, im66, im67, im68, im69, im70, im71, im72, im73, im74, im75, im76, im77, im78, im79, im80, im81, im82, im83, im84, im85⟩ := id hI52
              refine lv_iconst (v := 0) hx hb dX9_behindUnit_191 (by decide) ?_
              have f86 : (f_eWhat (x24.toInt).toNat).toInt = (f_eWhat (m23_i_piled.toInt + (-1)).toNat).toInt := by rw [f25]
              rw [hQ]
              exact W.zret (v := 0) hx hb hr (by decide) (fun t ht hW => ⟨⟨0, 0, rfl, rfl, ⟨x43, x44, x45, x46, x47, m23_i_codes, x33, x24, m23_f_code, f_eWhat, f_eSign, J48, L49, by rw [ht]; exact hP, hD, hI52, (ob_1 zc_0), (ob_11 zc_0), (fun _ _ => SPbr gr23_0 rfl (ob_235 zc_0) (ob_362 f25) (ob_362 f34) (ob_363 g23_8 f32) (ob_364 f19 f31 f86)), (fun _ => gr23_0.2.2.2.2), (ob_356 g23_8 f25), (ob_357 g23_5 f25), (ob_87 f50), (ob_365 hp9 g23_3 g23_9 g23_10 g23_11 g23_12 f17 f21 f31 f38 f51 zc_41 f34 zc_0 f25)⟩⟩, hS.F ht⟩) hS.2.2 dX9_behindUnit_192
          · skip
            have f87 : 0 < r_4.toInt := qi_nle c_20 rfl zc_0
            have f88 : (3 : Int) ≤ i_token.toInt := (ob_366 f8 f87)
            refine lv_aload_n hx hb dX9_behindUnit_108 rfl (lv_at hl 0 rfl) ?_
            refine lv_iload_n hx hb dX9_behindUnit_109 rfl (lv_at hl 1 rfl) ?_
            refine lv_iload_n hx hb dX9_behindUnit_110 rfl (lv_at hl 1 rfl) ?_
            refine lv_iconst (v := 2) hx hb dX9_behindUnit_111 (by decide) ?_
            refine lv_icmp_ne (tgt := 120) hx hb dX9_behindUnit_112 (by decide) (fun c_89 => ?_) (fun c_89 => ?_)
            · skip
              have f90 : r_4.toInt ≠ 2 := qi_ne c_89 rfl zc_2
              refine lv_iload_n hx hb dX9_behindUnit_120 rfl (lv_at hl 1 rfl) ?_
              refine lv_iconst (v := 1) hx hb dX9_behindUnit_121 (by decide) ?_
              refine lv_icmp_ne (tgt := 130) hx hb dX9_behindUnit_122 (by decide) (fun c_91 => ?_) (fun c_91 => ?_)
              · skip
                have f92 : r_4.toInt ≠ 1 := qi_ne c_91 rfl zc_1
                have f93 : (2 : Int) ≤ r_4.toInt := (ob_367 f87 f92)
                have f94 : (3 : Int) ≤ r_4.toInt := (ob_368 f87 f90 f92)
                have f95 : (4 : Int) ≤ r_4.toInt := (ob_369 f7 f87 f90 f92)
                have f96 : (37 : Int) ≤ (sgz f_text i_size.toInt i_at.toInt) := (ob_370 f7 f9 f87 f90 f92)
                have f97 : (sgz f_text i_size.toInt i_at.toInt) ≤ (62 : Int) := (ob_371 f7 f9 f87 f90 f92)
                have f98 : (5 : Int) ≤ r_4.toInt := (ob_372 f7 f11 f87 f90 f92)
                refine lv_aload_n hx hb dX9_behindUnit_130 rfl (lv_at hl 0 rfl) ?_
                refine lv_aload_n hx hb dX9_behindUnit_131 rfl (lv_at hl 0 rfl) ?_
                refine gM_X9_184_0 hx hb hG hown hK hP dX9_behindUnit_132 ?_
                refine va_calli (va_runV (As := [.int i_at]) (rest := [.int r_4, .ref (r 0)]) ⟨hx, hb, hml, hown, hG⟩ (kX9_sign l dC dI r ct i_taped i_size i_faultKind i_at i_end i_token i_number i_bank i_rb m23_i_codes m23_i_within m23_i_piled i_unitsInRule i_askHouse i_askTune i_acts i_undone i_laid i_knowns i_time f_text f_tunes f_houses f_hums f_told f_many f_ruleFrom f_ruleTo m23_f_code f_eWhat f_eSign f_all f_kept f_was f_sTune f_boxAll m23_J L i_at H23.size ⟨im0, im1, im2, im3, im4, im5, im6, im7, im8, im9, im10, im11, im12, im13, im14, im15, im16, im17, im18, im19, im20, im21, im22, im23, im24, im25, im26, im27, im28, im29, im30, im31, gi23_RU⟩ (ob_81 im16)) (cwV 1 hG (goodV gw1366 gw1368 gw60 gw138 gw1369) rfl rfl rfl hd_X9_sign ⟨(Nat.le_of_ble_eq_true rfl), (Nat.le_of_ble_eq_true rfl)⟩) ⟨fbR, va_recv hK hP (ci := 8) (q0 := 0) rfl rfl, pR_in hP hK⟩ rfl rfl hl.1 rfl (lv_room (Nat.le_of_ble_eq_true rfl)) dX9_behindUnit_135 ⟨(Nat.le_of_ble_eq_true rfl), (Nat.le_of_ble_eq_true rfl)⟩) hS (fun q hq h => absurd hq (Nat.not_lt.mpr h)) (fun q h => hA q (Nat.le_trans hS.1 h)) (fun r_100 u_ t_ H99 locs ht hvm hw hB hz1 hk1 hS => ?_)
                subst hw
                have hP := wk hP hk1
                obtain ⟨f101, f102, f103, f104⟩ := hB
                have f105 : r_100.toInt = (sgz f_text i_size.toInt i_at.toInt) := (ob_6 f101)
                have hFc := frA hD hS hA
                refine va_callv (va_runV (As := [.int r_4, .int r_100]) (rest := []) ⟨hx, hb, hml, hown, hG⟩ (kX9_pushE l dC dI r ct i_taped i_size i_faultKind i_at i_end i_token i_number i_bank i_rb m23_i_codes m23_i_within m23_i_piled i_unitsInRule i_askHouse i_askTune i_acts i_undone i_laid i_knowns i_time f_text f_tunes f_houses f_hums f_told f_many f_ruleFrom f_ruleTo m23_f_code f_eWhat f_eSign f_all f_kept f_was f_sTune f_boxAll m23_J L r_4 r_100 H99.size ⟨im0, im1, im2, im3, im4, im5, im6, im7, im8, im9, im10, im11, im12, im13, im14, im15, im16, im17, im18, im19, im20, im21, im22, im23, im24, im25, im26, im27, im28, im29, im30, im31, gi23_RU⟩ (ob_81 g23_4) (ob_373 g23_5)) (cwV 2 hG (goodV gw1468 gw1470 gw77 gw138 gw1471) rfl rfl rfl hd_X9_pushE ⟨(Nat.le_of_ble_eq_true rfl), (Nat.le_of_ble_eq_true rfl)⟩) ⟨fbW, va_recv hK hP (ci := 8) (q0 := 0) rfl rfl, pW_in hP hK hD⟩ rfl rfl hl.1 rfl (lv_room (Nat.le_of_ble_eq_true rfl)) dX9_behindUnit_138 ⟨(Nat.le_of_ble_eq_true rfl), (Nat.le_of_ble_eq_true rfl)⟩) hS (fun q _ h => hFc q h) hFc (fun _ t_ H106 locs ht hvm hw hB hz1 hk1 hS => ?_)
                obtain ⟨x108, z109, z110, hP1, hD1, hI114, f111, f112, f113⟩ := hB
                rw [ht] at hP1
                have hP := hP1
                have hD := dW hFc hD1
                obtain ⟨im115, im116, im117, im118, im119, im120, im121, im122, im123, im124, im125, im126, im127, im128, im129, im130, im131, im132, im133, im134, im135, im136, im137, im138, im139, im140, im141, im142, im143, im144, im145, im146, im147⟩ := id hI114
                have f148 : (z109 ((0 : Int)).toNat).toInt = (f_eWhat ((0 : Int)).toNat).toInt := (by rw [f112, upd_off (ne0 (ob_252 g23_8))])
                refine lv_aload_n hx hb dX9_behindUnit_141 rfl (lv_at hl 0 rfl) ?_
                have hFc := frA hD hS hA
                refine va_callv (va_runV (As := []) (rest := []) ⟨hx, hb, hml, hown, hG⟩ (kX9_goOn l dC dI r ct i_taped i_size i_faultKind i_at i_end i_token i_number i_bank i_rb m23_i_codes m23_i_within x108 i_unitsInRule i_askHouse i_askTune i_acts i_undone i_laid i_knowns i_time f_text f_tunes f_houses f_hums f_told f_many f_ruleFrom f_ruleTo m23_f_code z109 z110 f_all f_kept f_was f_sTune f_boxAll m23_J L H106.size hI114) (cwV 0 hG (goodV gw1362 gw1364 gw59 gw138 gw1365) rfl rfl rfl hd_X9_goOn ⟨(Nat.le_of_ble_eq_true rfl), (Nat.le_of_ble_eq_true rfl)⟩) ⟨fbW, va_recv hK hP (ci := 8) (q0 := 0) rfl rfl, pW_in hP hK hD⟩ rfl rfl hl.1 rfl (lv_room (Nat.le_of_ble_eq_true rfl)) dX9_behindUnit_142 ⟨(Nat.le_of_ble_eq_true rfl), (Nat.le_of_ble_eq_true rfl)⟩) hS (fun q _ h => hFc q h) hFc (fun _ t_ H149 locs ht hvm hw hB hz1 hk1 hS => ?_)
                obtain ⟨x151, x152, x153, x154, L155, hP1, hD1, hI159, f156, f157, f158⟩ := hB
                rw [ht] at hP1
                have hP := hP1
                have hD := dW hFc hD1
                obtain ⟨im160, im161, im162, im163, im164, im165, im166, im167, im168, im169, im170, im171, im172, im173, im174, im175, im176, im177, im178, im179, im180, im181, im182, im183, im184, im185, im186, im187, im188, im189, im190, im191, im192⟩ := id hI159
                refine lv_iconst (v := 1) hx hb dX9_behindUnit_145 (by decide) ?_
                rw [hQ]
                exact W.zret (v := 1) hx hb hr (by decide) (fun t ht hW => ⟨⟨1, 1, rfl, rfl, ⟨i_faultKind, x151, x152, x153, x154, m23_i_codes, m23_i_within, x108, m23_f_code, z109, z110, m23_J, L155, by rw [ht]; exact hP, hD, hI159, (ob_14 zc_1), (ob_15 zc_1), (fun _ _ => SPpush gr23_0 f112 f113 (ob_252 g23_8) (ob_84 f111) (Or.inr ⟨(ob_374 f6 f95), (dl_op (ob_375 f97 f105)), rfl, (ob_376 zc_1)⟩)), (fun _ => gr23_0.2.2.2.2), (ob_91 g23_4 f111), (ob_377 g23_5 f111), (ob_87 f156), (ob_378 im2 im3 im17 hp9 f8 g23_3 g23_4 g23_6 g23_9 g23_10 g23_11 g23_12 f19 f87 f90 f92 f111 f148 f158 zc_1)⟩⟩, hS.F ht⟩) hS.2.2 dX9_behindUnit_146
              · skip
                have f193 : r_4.toInt = 1 := qi_eq c_91 rfl zc_1
                have f194 : r_4.toInt ≤ (2 : Int) := (ob_379 f193)
                have f195 : r_4.toInt ≤ (3 : Int) := (ob_380 f193)
                have f196 : r_4.toInt ≤ (1 : Int) := (ob_15 f193)
                refine lv_bipush (v := 124) hx hb dX9_behindUnit_125 (by decide) ?_
                refine lv_goto (tgt := 138) hx hb dX9_behindUnit_127 (by decide) ?_
                have hFc := frA hD hS hA
                refine va_callv (va_runV (As := [.int r_4, .int 124]) (rest := []) ⟨hx, hb, hml, hown, hG⟩ (kX9_pushE l dC dI r ct i_taped i_size i_faultKind i_at i_end i_token i_number i_bank i_rb m23_i_codes m23_i_within m23_i_piled i_unitsInRule i_askHouse i_askTune i_acts i_undone i_laid i_knowns i_time f_text f_tunes f_houses f_hums f_told f_many f_ruleFrom f_ruleTo m23_f_code f_eWhat f_eSign f_all f_kept f_was f_sTune f_boxAll m23_J L r_4 124 H23.size ⟨im0, im1, im2, im3, im4, im5, im6, im7, im8, im9, im10, im11, im12, im13, im14, im15, im16, im17, im18, im19, im20, im21, im22, im23, im24, im25, im26, im27, im28, im29, im30, im31, gi23_RU⟩ (ob_81 g23_4) (ob_373 g23_5)) (cwV 2 hG (goodV gw1468 gw1470 gw77 gw138 gw1471) rfl rfl rfl hd_X9_pushE ⟨(Nat.le_of_ble_eq_true rfl), (Nat.le_of_ble_eq_true rfl)⟩) ⟨fbW, va_recv hK hP (ci := 8) (q0 := 0) rfl rfl, pW_in hP hK hD⟩ rfl rfl hl.1 rfl (lv_room (Nat.le_of_ble_eq_true rfl)) dX9_behindUnit_138 ⟨(Nat.le_of_ble_eq_true rfl), (Nat.le_of_ble_eq_true rfl)⟩) hS (fun q _ h => hFc q h) hFc (fun _ t_ H197 locs ht hvm hw hB hz1 hk1 hS => ?_)
                obtain ⟨x199, z200, z201, hP1, hD1, hI205, f202, f203, f204⟩ := hB
                rw [ht] at hP1
                have hP := hP1
                have hD := dW hFc hD1
                obtain ⟨im206, im207, im208, im209, im210, im211, im212, im213, im214, im215, im216, im217, im218, im219, im220, im221, im222, im223, im224, im225, im226, im227, im228, im229, im230, im231, im232, im233, im234, im235, im236, im237, im238⟩ := id hI205
                have f239 : (z200 ((0 : Int)).toNat).toInt = (f_eWhat ((0 : Int)).toNat).toInt := (by rw [f203, upd_off (ne0 (ob_252 g23_8))])
                refine lv_aload_n hx hb dX9_behindUnit_141 rfl (lv_at hl 0 rfl) ?_
                have hFc := frA hD hS hA
                refine va_callv (va_runV (As := []) (rest := []) ⟨hx, hb, hml, hown, hG⟩ (kX9_goOn l dC dI r ct i_taped i_size i_faultKind i_at i_end i_token i_number i_bank i_rb m23_i_codes m23_i_within x199 i_unitsInRule i_askHouse i_askTune i_acts i_undone i_laid i_knowns i_time f_text f_tunes f_houses f_hums f_told f_many f_ruleFrom f_ruleTo m23_f_code z200 z201 f_all f_kept f_was f_sTune f_boxAll m23_J L H197.size hI205) (cwV 0 hG (goodV gw1362 gw1364 gw59 gw138 gw1365) rfl rfl rfl hd_X9_goOn ⟨(Nat.le_of_ble_eq_true rfl), (Nat.le_of_ble_eq_true rfl)⟩) ⟨fbW, va_recv hK hP (ci := 8) (q0 := 0) rfl rfl, pW_in hP hK hD⟩ rfl rfl hl.1 rfl (lv_room (Nat.le_of_ble_eq_true rfl)) dX9_behindUnit_142 ⟨(Nat.le_of_ble_eq_true rfl), (Nat.le_of_ble_eq_true rfl)⟩) hS (fun q _ h => hFc q h) hFc (fun _ t_ H240 locs ht hvm hw hB hz1 hk1 hS => ?_)
                obtain ⟨x242, x243, x244, x245, L246, hP1, hD1, hI250, f247, f248, f249⟩ := hB
                rw [ht] at hP1
                have hP := hP1
                have hD := dW hFc hD1
                obtain ⟨im251, im252, im253, im254, im255, im256, im257, im258, im259, im260, im261, im262, im263, im264, im265, im266, im267, im268, im269, im270, im271, im272, im273, im274, im275, im276, im277, im278, im279, im280, im281, im282, im283⟩ := id hI250
                refine lv_iconst (v := 1) hx hb dX9_behindUnit_145 (by decide) ?_
                rw [hQ]
                exact W.zret (v := 1) hx hb hr (by decide) (fun t ht hW => ⟨⟨1, 1, rfl, rfl, ⟨i_faultKind, x242, x243, x244, x245, m23_i_codes, m23_i_within, x199, m23_f_code, z200, z201, m23_J, L246, by rw [ht]; exact hP, hD, hI250, (ob_14 zc_1), (ob_15 zc_1), (fun _ _ => SPpush gr23_0 f203 f204 (ob_252 g23_8) (ob_84 f202) (Or.inr ⟨(ob_381 f193), (dl_op (ob_382 zc_124)), rfl, (ob_376 zc_1)⟩)), (fun _ => gr23_0.2.2.2.2), (ob_91 g23_4 f202), (ob_377 g23_5 f202), (ob_87 f247), (ob_383 im17 hp9 f11 g23_0 g23_1 g23_2 g23_3 g23_4 g23_5 g23_6 g23_8 g23_9 g23_10 g23_11 g23_12 hM23 f12.2 f15 f16 f17 f19 f87 f88 f90 f193 f194 f195 f196 f202 f239 im265 im266 im267 f247 f248 f249 zc_1)⟩⟩, hS.F ht⟩) hS.2.2 dX9_behindUnit_146
            · skip
              have f284 : r_4.toInt = 2 := qi_eq c_89 rfl zc_2
              have f285 : r_4.toInt ≤ (2 : Int) := (ob_384 f284)
              have f286 : r_4.toInt ≤ (3 : Int) := (ob_385 f284)
              refine lv_bipush (v := 38) hx hb dX9_behindUnit_115 (by decide) ?_
              refine lv_goto (tgt := 138) hx hb dX9_behindUnit_117 (by decide) ?_
              have hFc := frA hD hS hA
              refine va_callv (va_runV (As := [.int r_4, .int 38]) (rest := []) ⟨hx, hb, hml, hown, hG⟩ (kX9_pushE l dC dI r ct i_taped i_size i_faultKind i_at i_end i_token i_number i_bank i_rb m23_i_codes m23_i_within m23_i_piled i_unitsInRule i_askHouse i_askTune i_acts i_undone i_laid i_knowns i_time f_text f_tunes f_houses f_hums f_told f_many f_ruleFrom f_ruleTo m23_f_code f_eWhat f_eSign f_all f_kept f_was f_sTune f_boxAll m23_J L r_4 38 H23.size ⟨im0, im1, im2, im3, im4, im5, im6, im7, im8, im9, im10, im11, im12, im13, im14, im15, im16, im17, im18, im19, im20, im21, im22, im23, im24, im25, im26, im27, im28, im29, im30, im31, gi23_RU⟩ (ob_81 g23_4) (ob_373 g23_5)) (cwV 2 hG (goodV gw1468 gw1470 gw77 gw138 gw1471) rfl rfl rfl hd_X9_pushE ⟨(Nat.le_of_ble_eq_true rfl), (Nat.le_of_ble_eq_true rfl)⟩) ⟨fbW, va_recv hK hP (ci := 8) (q0 := 0) rfl rfl, pW_in hP hK hD⟩ rfl rfl hl.1 rfl (lv_room (Nat.le_of_ble_eq_true rfl)) dX9_behindUnit_138 ⟨(Nat.le_of_ble_eq_true rfl), (Nat.le_of_ble_eq_true rfl)⟩) hS (fun q _ h => hFc q h) hFc (fun _ t_ H287 locs ht hvm hw hB hz1 hk1 hS => ?_)
              obtain ⟨x289, z290, z291, hP1, hD1, hI295, f292, f293, f294⟩ := hB
              rw [ht] at hP1
              have hP := hP1
              have hD := dW hFc hD1
              obtain ⟨im296, im297, im298, im299, im300, im301, im302, im303, im304, im305, im306, im307, im308, im309, im310, im311, im312, im313, im314, im315, im316, im317, im318, im319, im320, im321, im322, im323, im324, im325, im326, im327, im328⟩ := id hI295
              have f329 : (z290 ((0 : Int)).toNat).toInt = (f_eWhat ((0 : Int)).toNat).toInt := (by rw [f293, upd_off (ne0 (ob_252 g23_8))])
              refine lv_aload_n hx hb dX9_behindUnit_141 rfl (lv_at hl 0 rfl) ?_
              have hFc := frA hD hS hA
              refine va_callv (va_runV (As := []) (rest := []) ⟨hx, hb, hml, hown, hG⟩ (kX9_goOn l dC dI r ct i_taped i_size i_faultKind i_at i_end i_token i_number i_bank i_rb m23_i_codes m23_i_within x289 i_unitsInRule i_askHouse i_askTune i_acts i_undone i_laid i_knowns i_time f_text f_tunes f_houses f_hums f_told f_many f_ruleFrom f_ruleTo m23_f_code z290 z291 f_all f_kept f_was f_sTune f_boxAll m23_J L H287.size hI295) (cwV 0 hG (goodV gw1362 gw1364 gw59 gw138 gw1365) rfl rfl rfl hd_X9_goOn ⟨(Nat.le_of_ble_eq_true rfl), (Nat.le_of_ble_eq_true rfl)⟩) ⟨fbW, va_recv hK hP (ci := 8) (q0 := 0) rfl rfl, pW_in hP hK hD⟩ rfl rfl hl.1 rfl (lv_room (Nat.le_of_ble_eq_true rfl)) dX9_behindUnit_142 ⟨(Nat.le_of_ble_eq_true rfl), (Nat.le_of_ble_eq_true rfl)⟩) hS (fun q _ h => hFc q h) hFc (fun _ t_ H330 locs ht hvm hw hB hz1 hk1 hS => ?_)
              obtain ⟨x332, x333, x334, x335, L336, hP1, hD1, hI340, f337, f338, f339⟩ := hB
              rw [ht] at hP1
              have hP := hP1
              have hD := dW hFc hD1
              obtain ⟨im341, im342, im343, im344, im345, im346, im347, im348, im349, im350, im351, im352, im353, im354, im355, im356, im357, im358, im359, im360, im361, im362, im363, im364, im365, im366, im367, im368, im369, im370, im371, im372, im373⟩ := id hI340
              refine lv_iconst (v := 1) hx hb dX9_behindUnit_145 (by decide) ?_
              rw [hQ]
              exact W.zret (v := 1) hx hb hr (by decide) (fun t ht hW => ⟨⟨1, 1, rfl, rfl, ⟨i_faultKind, x332, x333, x334, x335, m23_i_codes, m23_i_within, x289, m23_f_code, z290, z291, m23_J, L336, by rw [ht]; exact hP, hD, hI340, (ob_14 zc_1), (ob_15 zc_1), (fun _ _ => SPpush gr23_0 f293 f294 (ob_252 g23_8) (ob_84 f292) (Or.inr ⟨(ob_386 f284), (dl_op (ob_387 zc_38)), rfl, (ob_376 zc_1)⟩)), (fun _ => gr23_0.2.2.2.2), (ob_91 g23_4 f292), (ob_377 g23_5 f292), (ob_87 f337), (ob_388 im17 hp9 f11 g23_0 g23_1 g23_2 g23_3 g23_4 g23_5 g23_6 g23_8 g23_9 g23_10 g23_11 g23_12 hM23 f12.2 f15 f16 f17 f19 f87 f88 f284 f285 f286 f292 f329 im355 im356 im357 f337 f338 f339 zc_1)⟩⟩, hS.F ht⟩) hS.2.2 dX9_behindUnit_146
        · skip
          have f374 : (f_eWhat (m23_i_piled.toInt + (-1)).toNat).toInt ≤ 6 := qi_nlt c_18 zc_6 rfl
          have f375 : m23_i_piled.toInt ≠ (1 : Int) := (ob_389 hp9 f15 f374)
          refine lv_aload_n hx hb dX9_behindUnit_39 rfl (lv_at hl 0 rfl) ?_
          refine gM_X9_79_0 hx hb hG hown hK hP dX9_behindUnit_40 ?_
          refine lv_aload_n hx hb dX9_behindUnit_43 rfl (lv_at hl 0 rfl) ?_
          refine gM_X9_296_0 hx hb hG hown hK hP dX9_behindUnit_44 ?_
          refine lv_iconst (v := 1) hx hb dX9_behindUnit_47 (by decide) ?_
          refine lv_isub hx hb dX9_behindUnit_48 ?_
          refine lv_topi (fun x376 ex376 => ?_)
          have f377 : x376.toInt = m23_i_piled.toInt + (-1) := (ob_208 (qi_sub ex376 rfl zc_1 (ob_345 g23_4) (ob_346 g23_5)))
          refine ldM_22 (mm := m23_i_piled.toInt + (-1)) hx hb hK hP f377 (ob_347 g23_8) (ob_348 g23_5) dX9_behindUnit_49 ?_
          refine lv_iload_n hx hb dX9_behindUnit_50 rfl (lv_at hl 1 rfl) ?_
          refine lv_icmp_lt (tgt := 104) hx hb dX9_behindUnit_51 (by decide) (fun c_378 => ?_) (fun c_378 => ?_)
          · skip
            have f379 : (f_eWhat (m23_i_piled.toInt + (-1)).toNat).toInt < r_4.toInt := qi_lt c_378 rfl rfl
            refine lv_iload_n hx hb dX9_behindUnit_104 rfl (lv_at hl 1 rfl) ?_
            refine lv_if_le (tgt := 147) hx hb dX9_behindUnit_105 (by decide) (fun c_380 => ((ob_390 (qi_le c_380 rfl zc_0) hp9 g23_8 f15 f16 f379)).elim) (fun c_380 => ?_)
            have f381 : 0 < r_4.toInt := qi_nle c_380 rfl zc_0
            have f382 : (3 : Int) ≤ i_token.toInt := (ob_366 f8 f381)
            refine lv_aload_n hx hb dX9_behindUnit_108 rfl (lv_at hl 0 rfl) ?_
            refine lv_iload_n hx hb dX9_behindUnit_109 rfl (lv_at hl 1 rfl) ?_
            refine lv_iload_n hx hb dX9_behindUnit_110 rfl (lv_at hl 1 rfl) ?_
            refine lv_iconst (v := 2) hx hb dX9_behindUnit_111 (by decide) ?_
            refine lv_icmp_ne (tgt := 120) hx hb dX9_behindUnit_112 (by decide) (fun c_383 => ?_) (fun c_383 => ?_)
            · skip
              have f384 : r_4.toInt ≠ 2 := qi_ne c_383 rfl zc_2
              refine lv_iload_n hx hb dX9_behindUnit_120 rfl (lv_at hl 1 rfl) ?_
              refine lv_iconst (v := 1) hx hb dX9_behindUnit_121 (by decide) ?_
              refine lv_icmp_ne (tgt := 130) hx hb dX9_behindUnit_122 (by decide) (fun c_385 => ?_) (fun c_385 => ((ob_391 (qi_eq c_385 rfl zc_1) hp9 g23_8 f15 f16 f379)).elim)
              have f386 : r_4.toInt ≠ 1 := qi_ne c_385 rfl zc_1
              have f387 : (2 : Int) ≤ r_4.toInt := (ob_367 f381 f386)
              have f388 : (3 : Int) ≤ r_4.toInt := (ob_368 f381 f384 f386)
              have f389 : (4 : Int) ≤ r_4.toInt := (ob_369 f7 f381 f384 f386)
              have f390 : (37 : Int) ≤ (sgz f_text i_size.toInt i_at.toInt) := (ob_370 f7 f9 f381 f384 f386)
              have f391 : (sgz f_text i_size.toInt i_at.toInt) ≤ (62 : Int) := (ob_371 f7 f9 f381 f384 f386)
              have f392 : (5 : Int) ≤ r_4.toInt := (ob_372 f7 f11 f381 f384 f386)
              refine lv_aload_n hx hb dX9_behindUnit_130 rfl (lv_at hl 0 rfl) ?_
              refine lv_aload_n hx hb dX9_behindUnit_131 rfl (lv_at hl 0 rfl) ?_
              refine gM_X9_184_0 hx hb hG hown hK hP dX9_behindUnit_132 ?_
              refine va_calli (va_runV (As := [.int i_at]) (rest := [.int r_4, .ref (r 0)]) ⟨hx, hb, hml, hown, hG⟩ (kX9_sign l dC dI r ct i_taped i_size i_faultKind i_at i_end i_token i_number i_bank i_rb m23_i_codes m23_i_within m23_i_piled i_unitsInRule i_askHouse i_askTune i_acts i_undone i_laid i_knowns i_time f_text f_tunes f_houses f_hums f_told f_many f_ruleFrom f_ruleTo m23_f_code f_eWhat f_eSign f_all f_kept f_was f_sTune f_boxAll m23_J L i_at H23.size ⟨im0, im1, im2, im3, im4, im5, im6, im7, im8, im9, im10, im11, im12, im13, im14, im15, im16, im17, im18, im19, im20, im21, im22, im23, im24, im25, im26, im27, im28, im29, im30, im31, gi23_RU⟩ (ob_81 im16)) (cwV 1 hG (goodV gw1366 gw1368 gw60 gw138 gw1369) rfl rfl rfl hd_X9_sign ⟨(Nat.le_of_ble_eq_true rfl), (Nat.le_of_ble_eq_true rfl)⟩) ⟨fbR, va_recv hK hP (ci := 8) (q0 := 0) rfl rfl, pR_in hP hK⟩ rfl rfl hl.1 rfl (lv_room (Nat.le_of_ble_eq_true rfl)) dX9_behindUnit_135 ⟨(Nat.le_of_ble_eq_true rfl), (Nat.le_of_ble_eq_true rfl)⟩) hS (fun q hq h => absurd hq (Nat.not_lt.mpr h)) (fun q h => hA q (Nat.le_trans hS.1 h)) (fun r_394 u_ t_ H393 locs ht hvm hw hB hz1 hk1 hS => ?_)
              subst hw
              have hP := wk hP hk1
              obtain ⟨f395, f396, f397, f398⟩ := hB
              have f399 : r_394.toInt = (sgz f_text i_size.toInt i_at.toInt) := (ob_6 f395)
              have hFc := frA hD hS hA
              refine va_callv (va_runV (As := [.int r_4, .int r_394]) (rest := []) ⟨hx, hb, hml, hown, hG⟩ (kX9_pushE l dC dI r ct i_taped i_size i_faultKind i_at i_end i_token i_number i_bank i_rb m23_i_codes m23_i_within m23_i_piled i_unitsInRule i_askHouse i_askTune i_acts i_undone i_laid i_knowns i_time f_text f_tunes f_houses f_hums f_told f_many f_ruleFrom f_ruleTo m23_f_code f_eWhat f_eSign f_all f_kept f_was f_sTune f_boxAll m23_J L r_4 r_394 H393.size ⟨im0, im1, im2, im3, im4, im5, im6, im7, im8, im9, im10, im11, im12, im13, im14, im15, im16, im17, im18, im19, im20, im21, im22, im23, im24, im25, im26, im27, im28, im29, im30, im31, gi23_RU⟩ (ob_81 g23_4) (ob_373 g23_5)) (cwV 2 hG (goodV gw1468 gw1470 gw77 gw138 gw1471) rfl rfl rfl hd_X9_pushE ⟨(Nat.le_of_ble_eq_true rfl), (Nat.le_of_ble_eq_true rfl)⟩) ⟨fbW, va_recv hK hP (ci := 8) (q0 := 0) rfl rfl, pW_in hP hK hD⟩ rfl rfl hl.1 rfl (lv_room (Nat.le_of_ble_eq_true rfl)) dX9_behindUnit_138 ⟨(Nat.le_of_ble_eq_true rfl), (Nat.le_of_ble_eq_true rfl)⟩) hS (fun q _ h => hFc q h) hFc (fun _ t_ H400 locs ht hvm hw hB hz1 hk1 hS => ?_)
              obtain ⟨x402, z403, z404, hP1, hD1, hI408, f405, f406, f407⟩ := hB
              rw [ht] at hP1
              have hP := hP1
              have hD := dW hFc hD1
              obtain ⟨im409, im410, im411, im412, im413, im414, im415, im416, im417, im418, im419, im420, im421, im422, im423, im424, im425, im426, im427, im428, im429, im430, im431, im432, im433, im434, im435, im436, im437, im438, im439, im440, im441⟩ := id hI408
              have f442 : (z403 ((0 : Int)).toNat).toInt = (f_eWhat ((0 : Int)).toNat).toInt := (by rw [f406, upd_off (ne0 (ob_252 g23_8))])
              refine lv_aload_n hx hb dX9_behindUnit_141 rfl (lv_at hl 0 rfl) ?_
              have hFc := frA hD hS hA
              refine va_callv (va_runV (As := []) (rest := []) ⟨hx, hb, hml, hown, hG⟩ (kX9_goOn l dC dI r ct i_taped i_size i_faultKind i_at i_end i_token i_number i_bank i_rb m23_i_codes m23_i_within x402 i_unitsInRule i_askHouse i_askTune i_acts i_undone i_laid i_knowns i_time f_text f_tunes f_houses f_hums f_told f_many f_ruleFrom f_ruleTo m23_f_code z403 z404 f_all f_kept f_was f_sTune f_boxAll m23_J L H400.size hI408) (cwV 0 hG (goodV gw1362 gw1364 gw59 gw138 gw1365) rfl rfl rfl hd_X9_goOn ⟨(Nat.le_of_ble_eq_true rfl), (Nat.le_of_ble_eq_true rfl)⟩) ⟨fbW, va_recv hK hP (ci := 8) (q0 := 0) rfl rfl, pW_in hP hK hD⟩ rfl rfl hl.1 rfl (lv_room (Nat.le_of_ble_eq_true rfl)) dX9_behindUnit_142 ⟨(Nat.le_of_ble_eq_true rfl), (Nat.le_of_ble_eq_true rfl)⟩) hS (fun q _ h => hFc q h) hFc (fun _ t_ H443 locs ht hvm hw hB hz1 hk1 hS => ?_)
              obtain ⟨x445, x446, x447, x448, L449, hP1, hD1, hI453, f450, f451, f452⟩ := hB
              rw [ht] at hP1
              have hP := hP1
              have hD := dW hFc hD1
              obtain ⟨im454, im455, im456, im457, im458, im459, im460, im461, im462, im463, im464, im465, im466, im467, im468, im469, im470, im471, im472, im473, im474, im475, im476, im477, im478, im479, im480, im481, im482, im483, im484, im485, im486⟩ := id hI453
              refine lv_iconst (v := 1) hx hb dX9_behindUnit_145 (by decide) ?_
              rw [hQ]
              exact W.zret (v := 1) hx hb hr (by decide) (fun t ht hW => ⟨⟨1, 1, rfl, rfl, ⟨i_faultKind, x445, x446, x447, x448, m23_i_codes, m23_i_within, x402, m23_f_code, z403, z404, m23_J, L449, by rw [ht]; exact hP, hD, hI453, (ob_14 zc_1), (ob_15 zc_1), (fun _ _ => SPpush gr23_0 f406 f407 (ob_252 g23_8) (ob_84 f405) (Or.inr ⟨(ob_374 f6 f389), (dl_op (ob_375 f391 f399)), rfl, (ob_376 zc_1)⟩)), (fun _ => gr23_0.2.2.2.2), (ob_91 g23_4 f405), (ob_377 g23_5 f405), (ob_87 f450), (ob_392 im2 im3 im4 im5 im17 hp9 f8 g23_3 g23_6 g23_8 g23_9 g23_10 g23_11 g23_12 f15 f16 f379 f384 f405 f442 f452 zc_1)⟩⟩, hS.F ht⟩) hS.2.2 dX9_behindUnit_146
            · skip
              have f487 : r_4.toInt = 2 := qi_eq c_383 rfl zc_2
              have f488 : r_4.toInt ≤ (2 : Int) := (ob_384 f487)
              have f489 : r_4.toInt ≤ (3 : Int) := (ob_385 f487)
              refine lv_bipush (v := 38) hx hb dX9_behindUnit_115 (by decide) ?_
              refine lv_goto (tgt := 138) hx hb dX9_behindUnit_117 (by decide) ?_
              have hFc := frA hD hS hA
              refine va_callv (va_runV (As := [.int r_4, .int 38]) (rest := []) ⟨hx, hb, hml, hown, hG⟩ (kX9_pushE l dC dI r ct i_taped i_size i_faultKind i_at i_end i_token i_number i_bank i_rb m23_i_codes m23_i_within m23_i_piled i_unitsInRule i_askHouse i_askTune i_acts i_undone i_laid i_knowns i_time f_text f_tunes f_houses f_hums f_told f_many f_ruleFrom f_ruleTo m23_f_code f_eWhat f_eSign f_all f_kept f_was f_sTune f_boxAll m23_J L r_4 38 H23.size ⟨im0, im1, im2, im3, im4, im5, im6, im7, im8, im9, im10, im11, im12, im13, im14, im15, im16, im17, im18, im19, im20, im21, im22, im23, im24, im25, im26, im27, im28, im29, im30, im31, gi23_RU⟩ (ob_81 g23_4) (ob_373 g23_5)) (cwV 2 hG (goodV gw1468 gw1470 gw77 gw138 gw1471) rfl rfl rfl hd_X9_pushE ⟨(Nat.le_of_ble_eq_true rfl), (Nat.le_of_ble_eq_true rfl)⟩) ⟨fbW, va_recv hK hP (ci := 8) (q0 := 0) rfl rfl, pW_in hP hK hD⟩ rfl rfl hl.1 rfl (lv_room (Nat.le_of_ble_eq_true rfl)) dX9_behindUnit_138 ⟨(Nat.le_of_ble_eq_true rfl), (Nat.le_of_ble_eq_true rfl)⟩) hS (fun q _ h => hFc q h) hFc (fun _ t_ H490 locs ht hvm hw hB hz1 hk1 hS => ?_)
              obtain ⟨x492, z493, z494, hP1, hD1, hI498, f495, f496, f497⟩ := hB
              rw [ht] at hP1
              have hP := hP1
              have hD := dW hFc hD1
              obtain ⟨im499, im500, im501, im502, im503, im504, im505, im506, im507, im508, im509, im510, im511, im512, im513, im514, im515, im516, im517, im518, im519, im520, im521, im522, im523, im524, im525, im526, im527, im528, im529, im530, im531⟩ := id hI498
              have f532 : (z493 ((0 : Int)).toNat).toInt = (f_eWhat ((0 : Int)).toNat).toInt := (by rw [f496, upd_off (ne0 (ob_252 g23_8))])
              refine lv_aload_n hx hb dX9_behindUnit_141 rfl (lv_at hl 0 rfl) ?_
              have hFc := frA hD hS hA
              refine va_callv (va_runV (As := []) (rest := []) ⟨hx, hb, hml, hown, hG⟩ (kX9_goOn l dC dI r ct i_taped i_size i_faultKind i_at i_end i_token i_number i_bank i_rb m23_i_codes m23_i_within x492 i_unitsInRule i_askHouse i_askTune i_acts i_undone i_laid i_knowns i_time f_text f_tunes f_houses f_hums f_told f_many f_ruleFrom f_ruleTo m23_f_code z493 z494 f_all f_kept f_was f_sTune f_boxAll m23_J L H490.size hI498) (cwV 0 hG (goodV gw1362 gw1364 gw59 gw138 gw1365) rfl rfl rfl hd_X9_goOn ⟨(Nat.le_of_ble_eq_true rfl), (Nat.le_of_ble_eq_true rfl)⟩) ⟨fbW, va_recv hK hP (ci := 8) (q0 := 0) rfl rfl, pW_in hP hK hD⟩ rfl rfl hl.1 rfl (lv_room (Nat.le_of_ble_eq_true rfl)) dX9_behindUnit_142 ⟨(Nat.le_of_ble_eq_true rfl), (Nat.le_of_ble_eq_true rfl)⟩) hS (fun q _ h => hFc q h) hFc (fun _ t_ H533 locs ht hvm hw hB hz1 hk1 hS => ?_)
              obtain ⟨x535, x536, x537, x538, L539, hP1, hD1, hI543, f540, f541, f542⟩ := hB
              rw [ht] at hP1
              have hP := hP1
              have hD := dW hFc hD1
              obtain ⟨im544, im545, im546, im547, im548, im549, im550, im551, im552, im553, im554, im555, im556, im557, im558, im559, im560, im561, im562, im563, im564, im565, im566, im567, im568, im569, im570, im571, im572, im573, im574, im575, im576⟩ := id hI543
              refine lv_iconst (v := 1) hx hb dX9_behindUnit_145 (by decide) ?_
              rw [hQ]
              exact W.zret (v := 1) hx hb hr (by decide) (fun t ht hW => ⟨⟨1, 1, rfl, rfl, ⟨i_faultKind, x535, x536, x537, x538, m23_i_codes, m23_i_within, x492, m23_f_code, z493, z494, m23_J, L539, by rw [ht]; exact hP, hD, hI543, (ob_14 zc_1), (ob_15 zc_1), (fun _ _ => SPpush gr23_0 f496 f497 (ob_252 g23_8) (ob_84 f495) (Or.inr ⟨(ob_386 f487), (dl_op (ob_387 zc_38)), rfl, (ob_376 zc_1)⟩)), (fun _ => gr23_0.2.2.2.2), (ob_91 g23_4 f495), (ob_377 g23_5 f495), (ob_87 f540), (ob_393 im17 hp9 f8 g23_3 g23_4 g23_6 g23_9 g23_10 g23_11 g23_12 f379 f487 f495 f532 f542 zc_1)⟩⟩, hS.F ht⟩) hS.2.2 dX9_behindUnit_146
          · skip
            have f577 : r_4.toInt ≤ (f_eWhat (m23_i_piled.toInt + (-1)).toNat).toInt := qi_nlt c_378 rfl rfl
            refine lv_aload_n hx hb dX9_behindUnit_54 rfl (lv_at hl 0 rfl) ?_
            refine lv_dup hx hb dX9_behindUnit_55 rfl ?_
            refine gM_X9_296_0 hx hb hG hown hK hP dX9_behindUnit_56 ?_
            refine lv_iconst (v := 1) hx hb dX9_behindUnit_59 (by decide) ?_
            refine lv_isub hx hb dX9_behindUnit_60 ?_
            refine lv_topi (fun x578 ex578 => ?_)
            have f579 : x578.toInt = m23_i_piled.toInt + (-1) := (ob_208 (qi_sub ex578 rfl zc_1 (ob_345 g23_4) (ob_346 g23_5)))
            refine pM_X9_296_0 hx hb hG hown hK hP hD hS dX9_behindUnit_61 (fun H580 locs hP hD hS => ?_)
            refine lv_aload_n hx hb dX9_behindUnit_64 rfl (lv_at hl 0 rfl) ?_
            refine gM_X9_79_0 hx hb hG hown hK hP dX9_behindUnit_65 ?_
            refine lv_aload_n hx hb dX9_behindUnit_68 rfl (lv_at hl 0 rfl) ?_
            refine gM_X9_296_0 hx hb hG hown hK hP dX9_behindUnit_69 ?_
            refine ldM_22 (mm := m23_i_piled.toInt + (-1)) hx hb hK hP f579 (ob_347 g23_8) (ob_348 g23_5) dX9_behindUnit_72 ?_
            refine lv_iconst (v := 3) hx hb dX9_behindUnit_73 (by decide) ?_
            refine lv_icmp_ne (tgt := 87) hx hb dX9_behindUnit_74 (by decide) (fun c_581 => ?_) (fun c_581 => ?_)
            · skip
              have f582 : (f_eWhat (m23_i_piled.toInt + (-1)).toNat).toInt ≠ 3 := qi_ne c_581 rfl zc_3
              refine lv_aload_n hx hb dX9_behindUnit_87 rfl (lv_at hl 0 rfl) ?_
              refine lv_aload_n hx hb dX9_behindUnit_88 rfl (lv_at hl 0 rfl) ?_
              refine gM_X9_82_0 hx hb hG hown hK hP dX9_behindUnit_89 ?_
              refine lv_aload_n hx hb dX9_behindUnit_92 rfl (lv_at hl 0 rfl) ?_
              refine gM_X9_296_0 hx hb hG hown hK hP dX9_behindUnit_93 ?_
              refine ldM_23 (mm := m23_i_piled.toInt + (-1)) hx hb hK hP f579 (ob_347 g23_8) (ob_348 g23_5) dX9_behindUnit_96 ?_
              refine lv_iconst (v := 0) hx hb dX9_behindUnit_97 (by decide) ?_
              have hFc := frA hD hS hA
              refine va_callv (va_runV (As := [.int (f_eSign (m23_i_piled.toInt + (-1)).toNat), .int 0]) (rest := []) ⟨hx, hb, hml, hown, hG⟩ (kX9_emit l dC dI r ct i_taped i_size i_faultKind i_at i_end i_token i_number i_bank i_rb m23_i_codes m23_i_within x578 i_unitsInRule i_askHouse i_askTune i_acts i_undone i_laid i_knowns i_time f_text f_tunes f_houses f_hums f_told f_many f_ruleFrom f_ruleTo m23_f_code f_eWhat f_eSign f_all f_kept f_was f_sTune f_boxAll m23_J L (f_eSign (m23_i_piled.toInt + (-1)).toNat) 0 H580.size ⟨im0, im1, im2, im3, im4, im5, im6, im7, im8, im9, im10, im11, im12, im13, im14, im15, im16, im17, im18, im19, im20, im21, im22, im23, im24, im25, im26, im27, im28, im29, im30, im31, gi23_RU⟩ (ob_232 hp0) (ob_233 g23_12) (ob_394 hp2 g23_4 g23_11)) (cwV 2 hG (goodV gw1484 gw1486 gw81 gw138 gw1487) rfl rfl rfl hd_X9_emit ⟨(Nat.le_of_ble_eq_true rfl), (Nat.le_of_ble_eq_true rfl)⟩) ⟨fbW, va_recv hK hP (ci := 8) (q0 := 0) rfl rfl, pW_in hP hK hD⟩ rfl rfl hl.1 rfl (lv_room (Nat.le_of_ble_eq_true rfl)) dX9_behindUnit_98 ⟨(Nat.le_of_ble_eq_true rfl), (Nat.le_of_ble_eq_true rfl)⟩) hS (fun q _ h => hFc q h) hFc (fun _ t_ H583 locs ht hvm hw hB hz1 hk1 hS => ?_)
              obtain ⟨x585, z586, J587, hP1, hD1, hI590, f588, f589⟩ := hB
              rw [ht] at hP1
              have hP := hP1
              have hD := dW hFc hD1
              obtain ⟨im591, im592, im593, im594, im595, im596, im597, im598, im599, im600, im601, im602, im603, im604, im605, im606, im607, im608, im609, im610, im611, im612, im613, im614, im615, im616, im617, im618, im619, im620, im621, im622, im623⟩ := id hI590
              have f624 : (f_eWhat (x578.toInt).toNat).toInt = (f_eWhat (m23_i_piled.toInt + (-1)).toNat).toInt := by rw [f579]
              have sp625 : SP f_eWhat f_eSign z586 x578.toInt m23_i_within.toInt (560 * i_rb.toInt) x585.toInt 0 := SPpop gr23_0 rfl rfl f589 (by rw [f579]) (ob_84 f588) (ob_362 f579) (ob_363 g23_8 f375) (ob_395 g23_5) (ob_239 im6) (ob_233 g23_12) (ob_396 f374 f577 f624) (ob_397 f582 f624)
              refine lv_goto (tgt := 23) hx hb dX9_behindUnit_101 (by decide) ?_
              exact ih23 x585 m23_i_within x578 z586 J587 H583 _ _ (ob_91 g23_0 f588) (ob_398 im7 hp2 g23_8 g23_11 f588) (ob_399 g23_2) (ob_400 g23_3) (ob_356 g23_8 f579) (ob_401 g23_5 f579) (ob_81 g23_6) (ob_400 g23_3) (ob_402 g23_8 f375 f579) (ob_403 g23_9 f579) (ob_404 g23_10 f579) (ob_405 g23_11 f588 f579) (ob_406 g23_12 f588) im623 sp625 hP hD hS (lv_sub hl [0, 1] rfl) (ob_334 hM23 f579)
            · skip
              have f626 : (f_eWhat (m23_i_piled.toInt + (-1)).toNat).toInt = 3 := qi_eq c_581 rfl zc_3
              refine lv_aload_n hx hb dX9_behindUnit_77 rfl (lv_at hl 0 rfl) ?_
              refine lv_dup hx hb dX9_behindUnit_78 rfl ?_
              refine gM_X9_299_0 hx hb hG hown hK hP dX9_behindUnit_79 ?_
              refine lv_iconst (v := 1) hx hb dX9_behindUnit_82 (by decide) ?_
              refine lv_isub hx hb dX9_behindUnit_83 ?_
              refine lv_topi (fun x627 ex627 => ?_)
              have f628 : x627.toInt = m23_i_within.toInt + (-1) := (ob_208 (qi_sub ex627 rfl zc_1 (ob_360 g23_2) (ob_361 g23_3)))
              refine pM_X9_299_0 hx hb hG hown hK hP hD hS dX9_behindUnit_84 (fun H629 locs hP hD hS => ?_)
              refine lv_aload_n hx hb dX9_behindUnit_87 rfl (lv_at hl 0 rfl) ?_
              refine lv_aload_n hx hb dX9_behindUnit_88 rfl (lv_at hl 0 rfl) ?_
              refine gM_X9_82_0 hx hb hG hown hK hP dX9_behindUnit_89 ?_
              refine lv_aload_n hx hb dX9_behindUnit_92 rfl (lv_at hl 0 rfl) ?_
              refine gM_X9_296_0 hx hb hG hown hK hP dX9_behindUnit_93 ?_
              refine ldM_23 (mm := m23_i_piled.toInt + (-1)) hx hb hK hP f579 (ob_347 g23_8) (ob_348 g23_5) dX9_behindUnit_96 ?_
              refine lv_iconst (v := 0) hx hb dX9_behindUnit_97 (by decide) ?_
              have hFc := frA hD hS hA
              refine va_callv (va_runV (As := [.int (f_eSign (m23_i_piled.toInt + (-1)).toNat), .int 0]) (rest := []) ⟨hx, hb, hml, hown, hG⟩ (kX9_emit l dC dI r ct i_taped i_size i_faultKind i_at i_end i_token i_number i_bank i_rb m23_i_codes x627 x578 i_unitsInRule i_askHouse i_askTune i_acts i_undone i_laid i_knowns i_time f_text f_tunes f_houses f_hums f_told f_many f_ruleFrom f_ruleTo m23_f_code f_eWhat f_eSign f_all f_kept f_was f_sTune f_boxAll m23_J L (f_eSign (m23_i_piled.toInt + (-1)).toNat) 0 H629.size ⟨im0, im1, im2, im3, im4, im5, im6, im7, im8, im9, im10, im11, im12, im13, im14, im15, im16, im17, im18, im19, im20, im21, im22, im23, im24, im25, im26, im27, im28, im29, im30, im31, gi23_RU⟩ (ob_232 hp0) (ob_233 g23_12) (ob_394 hp2 g23_4 g23_11)) (cwV 2 hG (goodV gw1484 gw1486 gw81 gw138 gw1487) rfl rfl rfl hd_X9_emit ⟨(Nat.le_of_ble_eq_true rfl), (Nat.le_of_ble_eq_true rfl)⟩) ⟨fbW, va_recv hK hP (ci := 8) (q0 := 0) rfl rfl, pW_in hP hK hD⟩ rfl rfl hl.1 rfl (lv_room (Nat.le_of_ble_eq_true rfl)) dX9_behindUnit_98 ⟨(Nat.le_of_ble_eq_true rfl), (Nat.le_of_ble_eq_true rfl)⟩) hS (fun q _ h => hFc q h) hFc (fun _ t_ H630 locs ht hvm hw hB hz1 hk1 hS => ?_)
              obtain ⟨x632, z633, J634, hP1, hD1, hI637, f635, f636⟩ := hB
              rw [ht] at hP1
              have hP := hP1
              have hD := dW hFc hD1
              obtain ⟨im638, im639, im640, im641, im642, im643, im644, im645, im646, im647, im648, im649, im650, im651, im652, im653, im654, im655, im656, im657, im658, im659, im660, im661, im662, im663, im664, im665, im666, im667, im668, im669, im670⟩ := id hI637
              have f671 : (f_eWhat (x578.toInt).toNat).toInt = (f_eWhat (m23_i_piled.toInt + (-1)).toNat).toInt := by rw [f579]
              have sp672 : SP f_eWhat f_eSign z633 x578.toInt x627.toInt (560 * i_rb.toInt) x632.toInt 0 := SPpop gr23_0 rfl rfl f636 (by rw [f579]) (ob_84 f635) (ob_362 f579) (ob_363 g23_8 f375) (ob_395 g23_5) (ob_239 im6) (ob_233 g23_12) (ob_407 f374 f671) (ob_408 f626 f671 f628)
              refine lv_goto (tgt := 23) hx hb dX9_behindUnit_101 (by decide) ?_
              exact ih23 x632 x627 x578 z633 J634 H630 _ _ (ob_91 g23_0 f635) (ob_398 im7 hp2 g23_8 g23_11 f635) (ob_331 g23_6 f628) (ob_409 g23_3 f628) (ob_356 g23_8 f579) (ob_401 g23_5 f579) (ob_410 f17 f626 f628) (ob_409 g23_3 f628) (ob_402 g23_8 f375 f579) (ob_403 g23_9 f579) (ob_411 g23_10 f628 f579) (ob_405 g23_11 f635 f579) (ob_406 g23_12 f635) im670 sp672 hP hD hS (lv_sub hl [0, 1] rfl) (ob_334 hM23 f579)
    exact L23 (i_piled.toInt + 1).toNat i_codes i_within i_piled f_code J H3 _ _ (ob_412 im6 hp6) (ob_413 im7 hp2 hp5 hp8) (ob_414 hp3 hp4 hp7) (ob_415 hp3 hp4 hp7) (ob_416 hp5 hp7 hp8) (ob_417 hp2 hp4 hp7) (ob_418 hp3 hp4 hp7) (ob_415 hp3 hp4 hp7) (ob_419 hp5 hp7 hp8) (ob_88) (ob_420 hp7) (ob_421 hp8) (ob_233 hp6) im32 hp11 hP hD hS (lv_sub hl [1, 0] rfl) (mlt (ob_422 hp5 hp7 hp8))
  · skip
    have f673 : r_4.toInt = 4 := qi_eq c_10 rfl zc_4
    have f674 : (4 : Int) ≤ r_4.toInt := (ob_423 f5 f6 f673)
    have f675 : (3 : Int) ≤ i_token.toInt := (ob_424 f8 f673)
    have f676 : (37 : Int) ≤ (sgz f_text i_size.toInt i_at.toInt) := (ob_425 f9 f673)
    have f677 : (sgz f_text i_size.toInt i_at.toInt) ≤ (62 : Int) := (ob_426 f9 f673)
    refine lv_aload_n hx hb dX9_behindUnit_10 rfl (lv_at hl 1 rfl) ?_
    refine va_calli (va_runV (As := []) (rest := []) ⟨hx, hb, hml, hown, hG⟩ (kX9_isCompared l dC dI r ct i_taped i_size i_faultKind i_at i_end i_token i_number i_bank i_rb i_codes i_within i_piled i_unitsInRule i_askHouse i_askTune i_acts i_undone i_laid i_knowns i_time f_text f_tunes f_houses f_hums f_told f_many f_ruleFrom f_ruleTo f_code f_eWhat f_eSign f_all f_kept f_was f_sTune f_boxAll J L H3.size hI (ob_419 hp5 hp7 hp8) (ob_427 hp2 hp4 hp7) (ob_428 hp9)) (cwV 0 hG (goodV gw1496 gw1498 gw84 gw138 gw1499) rfl rfl rfl hd_X9_isCompared ⟨(Nat.le_of_ble_eq_true rfl), (Nat.le_of_ble_eq_true rfl)⟩) ⟨fbR, va_recv hK hP (ci := 8) (q0 := 0) rfl rfl, pR_in hP hK⟩ rfl rfl hl.1 rfl (lv_room (Nat.le_of_ble_eq_true rfl)) dX9_behindUnit_11 ⟨(Nat.le_of_ble_eq_true rfl), (Nat.le_of_ble_eq_true rfl)⟩) hS (fun q hq h => absurd hq (Nat.not_lt.mpr h)) (fun q h => hA q (Nat.le_trans hS.1 h)) (fun r_679 u_ t_ H678 locs ht hvm hw hB hz1 hk1 hS => ?_)
    subst hw
    have hP := wk hP hk1
    obtain ⟨f680, f681, f682⟩ := hB
    refine lv_if_eq (tgt := 23) hx hb dX9_behindUnit_14 (by decide) (fun c_683 => ?_) (fun c_683 => ?_)
    · skip
      have f684 : r_679.toInt = 0 := qi_eq c_683 rfl zc_0
      have f685 : r_679.toInt = (0 : Int) := (ob_165 f681 f682 f684)
      have L23 : ∀ (N23 : Nat) (m23_i_codes m23_i_within m23_i_piled : Int32) (m23_f_code : Nat → Int32) (m23_J : Nat → Nat → Int32) (H23 : Heap) (locs : List Loc) (ls : Array Slot) (g23_0 : (0 : Int) ≤ m23_i_codes.toInt) (g23_1 : m23_i_codes.toInt ≤ (830 : Int)) (g23_2 : (0 : Int) ≤ m23_i_within.toInt + 1) (g23_3 : m23_i_within.toInt ≤ (7 : Int)) (g23_4 : (0 : Int) ≤ m23_i_piled.toInt) (g23_5 : m23_i_piled.toInt ≤ (37 : Int)) (g23_6 : (0 : Int) ≤ m23_i_within.toInt) (g23_7 : m23_i_within.toInt ≤ (7 : Int)) (g23_8 : (1 : Int) ≤ m23_i_piled.toInt) (g23_9 : m23_i_piled.toInt ≤ i_piled.toInt) (g23_10 : m23_i_piled.toInt ≤ i_unitsInRule.toInt + m23_i_within.toInt) (g23_11 : m23_i_codes.toInt + m23_i_piled.toInt ≤ 560 * i_rb.toInt + 9 * i_unitsInRule.toInt) (g23_12 : 560 * i_rb.toInt ≤ m23_i_codes.toInt) (gi23_RU : RU i_bank f_told f_ruleFrom f_ruleTo m23_f_code) (gr23_0 : SP f_eWhat f_eSign m23_f_code m23_i_piled.toInt m23_i_within.toInt (560 * i_rb.toInt) m23_i_codes.toInt 0) (hP : va_P (dC, dI) vwCl (WM r ct i_taped i_size i_faultKind i_at i_end i_token i_number i_bank i_rb m23_i_codes m23_i_within m23_i_piled i_unitsInRule i_askHouse i_askTune i_acts i_undone i_laid i_knowns i_time f_text f_tunes f_houses f_hums f_told f_many f_ruleFrom f_ruleTo m23_f_code f_eWhat f_eSign f_all f_kept f_was f_sTune f_boxAll m23_J L) H23) (hD : va_D A (WM r ct i_taped i_size i_faultKind i_at i_end i_token i_number i_bank i_rb m23_i_codes m23_i_within m23_i_piled i_unitsInRule i_askHouse i_askTune i_acts i_undone i_laid i_knowns i_time f_text f_tunes f_houses f_hums f_told f_many f_ruleFrom f_ruleTo m23_f_code f_eWhat f_eSign f_all f_kept f_was f_sTune f_boxAll m23_J L)) (hS : va_S A s.heap H23 locs) (hl : lv_has ls 2 [(0, .ref (r 0)), (1, .int r_4)]) (hM : m23_i_piled.toInt < (N23 : Int)), W p l e { frames := 8, cells := 0, slots := 0, locals := 285 } s m ([.ref (r 0)] : List Value).toArray below meth c0 H23 locs 0 0 Q (F0 m 23 ls []) := by
        intro N23
        induction N23 with
        | zero =>
          intro m23_i_codes m23_i_within m23_i_piled m23_f_code m23_J H23 locs ls g23_0 g23_1 g23_2 g23_3 g23_4 g23_5 g23_6 g23_7 g23_8 g23_9 g23_10 g23_11 g23_12 gi23_RU gr23_0 hP hD hS hl hM
          exact ((ob_325 hM g23_4)).elim
        | succ N23 ih23 =>
          intro m23_i_codes m23_i_within m23_i_piled m23_f_code m23_J H23 locs ls g23_0 g23_1 g23_2 g23_3 g23_4 g23_5 g23_6 g23_7 g23_8 g23_9 g23_10 g23_11 g23_12 gi23_RU gr23_0 hP hD hS hl hM
          have hM23 := msucc hM
          refine lv_aload_n hx hb dX9_behindUnit_23 rfl (lv_at hl 0 rfl) ?_
          have f686 := SP.nn gr23_0 (ob_252 g23_8)
          refine gM_X9_79_0 hx hb hG hown hK hP dX9_behindUnit_24 ?_
          refine lv_aload_n hx hb dX9_behindUnit_27 rfl (lv_at hl 0 rfl) ?_
          refine gM_X9_296_0 hx hb hG hown hK hP dX9_behindUnit_28 ?_
          refine lv_iconst (v := 1) hx hb dX9_behindUnit_31 (by decide) ?_
          refine lv_isub hx hb dX9_behindUnit_32 ?_
          refine lv_topi (fun x687 ex687 => ?_)
          have f688 : x687.toInt = m23_i_piled.toInt + (-1) := (ob_208 (qi_sub ex687 rfl zc_1 (ob_345 g23_4) (ob_346 g23_5)))
          refine ldM_22 (mm := m23_i_piled.toInt + (-1)) hx hb hK hP f688 (ob_347 g23_8) (ob_348 g23_5) dX9_behindUnit_33 ?_
          have f689 : m23_i_piled.toInt + (-1) = 0 → (f_eWhat (m23_i_piled.toInt + (-1)).toNat).toInt = (f_eWhat ((0 : Int)).toNat).toInt := (fun h => by rw [h])
          have f690 : 1 ≤ m23_i_piled.toInt + (-1) → 1 ≤ (f_eWhat (m23_i_piled.toInt + (-1)).toNat).toInt ∧ (f_eWhat (m23_i_piled.toInt + (-1)).toNat).toInt ≤ 7 := SP.rg (k := m23_i_piled.toInt + (-1)) gr23_0 (ob_349)
          have f691 : ((f_eWhat (m23_i_piled.toInt + (-1)).toNat).toInt = 3 ∨ (f_eWhat (m23_i_piled.toInt + (-1)).toNat).toInt = 7) → 1 ≤ m23_i_within.toInt := SP.ge1 (k := m23_i_piled.toInt + (-1)) gr23_0 (ob_350) (ob_347 g23_8)
          refine lv_bipush (v := 6) hx hb dX9_behindUnit_34 (by decide) ?_
          refine lv_icmp_gt (tgt := 104) hx hb dX9_behindUnit_36 (by decide) (fun c_692 => ?_) (fun c_692 => ?_)
          · skip
            have f693 : 6 < (f_eWhat (m23_i_piled.toInt + (-1)).toNat).toInt := qi_lt c_692 zc_6 rfl
            refine lv_iload_n hx hb dX9_behindUnit_104 rfl (lv_at hl 1 rfl) ?_
            refine lv_if_le (tgt := 147) hx hb dX9_behindUnit_105 (by decide) (fun c_694 => ((ob_429 (qi_le c_694 rfl zc_0) f673)).elim) (fun c_694 => ?_)
            have f695 : 0 < r_4.toInt := qi_nle c_694 rfl zc_0
            refine lv_aload_n hx hb dX9_behindUnit_108 rfl (lv_at hl 0 rfl) ?_
            refine lv_iload_n hx hb dX9_behindUnit_109 rfl (lv_at hl 1 rfl) ?_
            refine lv_iload_n hx hb dX9_behindUnit_110 rfl (lv_at hl 1 rfl) ?_
            refine lv_iconst (v := 2) hx hb dX9_behindUnit_111 (by decide) ?_
            refine lv_icmp_ne (tgt := 120) hx hb dX9_behindUnit_112 (by decide) (fun c_696 => ?_) (fun c_696 => ((ob_430 (qi_eq c_696 rfl zc_2) f673)).elim)
            have f697 : r_4.toInt ≠ 2 := qi_ne c_696 rfl zc_2
            have f698 : (3 : Int) ≤ r_4.toInt := (ob_431 f673)
            refine lv_iload_n hx hb dX9_behindUnit_120 rfl (lv_at hl 1 rfl) ?_
            refine lv_iconst (v := 1) hx hb dX9_behindUnit_121 (by decide) ?_
            refine lv_icmp_ne (tgt := 130) hx hb dX9_behindUnit_122 (by decide) (fun c_699 => ?_) (fun c_699 => ((ob_432 (qi_eq c_699 rfl zc_1) f673)).elim)
            have f700 : r_4.toInt ≠ 1 := qi_ne c_699 rfl zc_1
            have f701 : (2 : Int) ≤ r_4.toInt := (ob_433 f673)
            refine lv_aload_n hx hb dX9_behindUnit_130 rfl (lv_at hl 0 rfl) ?_
            refine lv_aload_n hx hb dX9_behindUnit_131 rfl (lv_at hl 0 rfl) ?_
            refine gM_X9_184_0 hx hb hG hown hK hP dX9_behindUnit_132 ?_
            refine va_calli (va_runV (As := [.int i_at]) (rest := [.int r_4, .ref (r 0)]) ⟨hx, hb, hml, hown, hG⟩ (kX9_sign l dC dI r ct i_taped i_size i_faultKind i_at i_end i_token i_number i_bank i_rb m23_i_codes m23_i_within m23_i_piled i_unitsInRule i_askHouse i_askTune i_acts i_undone i_laid i_knowns i_time f_text f_tunes f_houses f_hums f_told f_many f_ruleFrom f_ruleTo m23_f_code f_eWhat f_eSign f_all f_kept f_was f_sTune f_boxAll m23_J L i_at H23.size ⟨im0, im1, im2, im3, im4, im5, im6, im7, im8, im9, im10, im11, im12, im13, im14, im15, im16, im17, im18, im19, im20, im21, im22, im23, im24, im25, im26, im27, im28, im29, im30, im31, gi23_RU⟩ (ob_81 im16)) (cwV 1 hG (goodV gw1366 gw1368 gw60 gw138 gw1369) rfl rfl rfl hd_X9_sign ⟨(Nat.le_of_ble_eq_true rfl), (Nat.le_of_ble_eq_true rfl)⟩) ⟨fbR, va_recv hK hP (ci := 8) (q0 := 0) rfl rfl, pR_in hP hK⟩ rfl rfl hl.1 rfl (lv_room (Nat.le_of_ble_eq_true rfl)) dX9_behindUnit_135 ⟨(Nat.le_of_ble_eq_true rfl), (Nat.le_of_ble_eq_true rfl)⟩) hS (fun q hq h => absurd hq (Nat.not_lt.mpr h)) (fun q h => hA q (Nat.le_trans hS.1 h)) (fun r_703 u_ t_ H702 locs ht hvm hw hB hz1 hk1 hS => ?_)
            subst hw
            have hP := wk hP hk1
            obtain ⟨f704, f705, f706, f707⟩ := hB
            have f708 : r_703.toInt = (sgz f_text i_size.toInt i_at.toInt) := (ob_6 f704)
            have hFc := frA hD hS hA
            refine va_callv (va_runV (As := [.int r_4, .int r_703]) (rest := []) ⟨hx, hb, hml, hown, hG⟩ (kX9_pushE l dC dI r ct i_taped i_size i_faultKind i_at i_end i_token i_number i_bank i_rb m23_i_codes m23_i_within m23_i_piled i_unitsInRule i_askHouse i_askTune i_acts i_undone i_laid i_knowns i_time f_text f_tunes f_houses f_hums f_told f_many f_ruleFrom f_ruleTo m23_f_code f_eWhat f_eSign f_all f_kept f_was f_sTune f_boxAll m23_J L r_4 r_703 H702.size ⟨im0, im1, im2, im3, im4, im5, im6, im7, im8, im9, im10, im11, im12, im13, im14, im15, im16, im17, im18, im19, im20, im21, im22, im23, im24, im25, im26, im27, im28, im29, im30, im31, gi23_RU⟩ (ob_81 g23_4) (ob_373 g23_5)) (cwV 2 hG (goodV gw1468 gw1470 gw77 gw138 gw1471) rfl rfl rfl hd_X9_pushE ⟨(Nat.le_of_ble_eq_true rfl), (Nat.le_of_ble_eq_true rfl)⟩) ⟨fbW, va_recv hK hP (ci := 8) (q0 := 0) rfl rfl, pW_in hP hK hD⟩ rfl rfl hl.1 rfl (lv_room (Nat.le_of_ble_eq_true rfl)) dX9_behindUnit_138 ⟨(Nat.le_of_ble_eq_true rfl), (Nat.le_of_ble_eq_true rfl)⟩) hS (fun q _ h => hFc q h) hFc (fun _ t_ H709 locs ht hvm hw hB hz1 hk1 hS => ?_)
            obtain ⟨x711, z712, z713, hP1, hD1, hI717, f714, f715, f716⟩ := hB
            rw [ht] at hP1
            have hP := hP1
            have hD := dW hFc hD1
            obtain ⟨im718, im719, im720, im721, im722, im723, im724, im725, im726, im727, im728, im729, im730, im731, im732, im733, im734, im735, im736, im737, im738, im739, im740, im741, im742, im743, im744, im745, im746, im747, im748, im749, im750⟩ := id hI717
            have f751 : (z712 ((0 : Int)).toNat).toInt = (f_eWhat ((0 : Int)).toNat).toInt := (by rw [f715, upd_off (ne0 (ob_252 g23_8))])
            refine lv_aload_n hx hb dX9_behindUnit_141 rfl (lv_at hl 0 rfl) ?_
            have hFc := frA hD hS hA
            refine va_callv (va_runV (As := []) (rest := []) ⟨hx, hb, hml, hown, hG⟩ (kX9_goOn l dC dI r ct i_taped i_size i_faultKind i_at i_end i_token i_number i_bank i_rb m23_i_codes m23_i_within x711 i_unitsInRule i_askHouse i_askTune i_acts i_undone i_laid i_knowns i_time f_text f_tunes f_houses f_hums f_told f_many f_ruleFrom f_ruleTo m23_f_code z712 z713 f_all f_kept f_was f_sTune f_boxAll m23_J L H709.size hI717) (cwV 0 hG (goodV gw1362 gw1364 gw59 gw138 gw1365) rfl rfl rfl hd_X9_goOn ⟨(Nat.le_of_ble_eq_true rfl), (Nat.le_of_ble_eq_true rfl)⟩) ⟨fbW, va_recv hK hP (ci := 8) (q0 := 0) rfl rfl, pW_in hP hK hD⟩ rfl rfl hl.1 rfl (lv_room (Nat.le_of_ble_eq_true rfl)) dX9_behindUnit_142 ⟨(Nat.le_of_ble_eq_true rfl), (Nat.le_of_ble_eq_true rfl)⟩) hS (fun q _ h => hFc q h) hFc (fun _ t_ H752 locs ht hvm hw hB hz1 hk1 hS => ?_)
            obtain ⟨x754, x755, x756, x757, L758, hP1, hD1, hI762, f759, f760, f761⟩ := hB
            rw [ht] at hP1
            have hP := hP1
            have hD := dW hFc hD1
            obtain ⟨im763, im764, im765, im766, im767, im768, im769, im770, im771, im772, im773, im774, im775, im776, im777, im778, im779, im780, im781, im782, im783, im784, im785, im786, im787, im788, im789, im790, im791, im792, im793, im794, im795⟩ := id hI762
            refine lv_iconst (v := 1) hx hb dX9_behindUnit_145 (by decide) ?_
            rw [hQ]
            exact W.zret (v := 1) hx hb hr (by decide) (fun t ht hW => ⟨⟨1, 1, rfl, rfl, ⟨i_faultKind, x754, x755, x756, x757, m23_i_codes, m23_i_within, x711, m23_f_code, z712, z713, m23_J, L758, by rw [ht]; exact hP, hD, hI762, (ob_14 zc_1), (ob_15 zc_1), (fun _ _ => SPpush gr23_0 f715 f716 (ob_252 g23_8) (ob_84 f714) (Or.inr ⟨(ob_434 f673), (dl_op (ob_375 f677 f708)), rfl, (ob_376 zc_1)⟩)), (fun _ => gr23_0.2.2.2.2), (ob_91 g23_4 f714), (ob_377 g23_5 f714), (ob_87 f759), (ob_435 im2 im17 hp9 f8 f673 g23_3 g23_4 g23_6 g23_9 g23_10 g23_11 g23_12 f693 f714 f751 f761 zc_1)⟩⟩, hS.F ht⟩) hS.2.2 dX9_behindUnit_146
          · skip
            have f796 : (f_eWhat (m23_i_piled.toInt + (-1)).toNat).toInt ≤ 6 := qi_nlt c_692 zc_6 rfl
            have f797 : m23_i_piled.toInt ≠ (1 : Int) := (ob_389 hp9 f689 f796)
            refine lv_aload_n hx hb dX9_behindUnit_39 rfl (lv_at hl 0 rfl) ?_
            refine gM_X9_79_0 hx hb hG hown hK hP dX9_behindUnit_40 ?_
            refine lv_aload_n hx hb dX9_behindUnit_43 rfl (lv_at hl 0 rfl) ?_
            refine gM_X9_296_0 hx hb hG hown hK hP dX9_behindUnit_44 ?_
            refine lv_iconst (v := 1) hx hb dX9_behindUnit_47 (by decide) ?_
            refine lv_isub hx hb dX9_behindUnit_48 ?_
            refine lv_topi (fun x798 ex798 => ?_)
            have f799 : x798.toInt = m23_i_piled.toInt + (-1) := (ob_208 (qi_sub ex798 rfl zc_1 (ob_345 g23_4) (ob_346 g23_5)))
            refine ldM_22 (mm := m23_i_piled.toInt + (-1)) hx hb hK hP f799 (ob_347 g23_8) (ob_348 g23_5) dX9_behindUnit_49 ?_
            refine lv_iload_n hx hb dX9_behindUnit_50 rfl (lv_at hl 1 rfl) ?_
            refine lv_icmp_lt (tgt := 104) hx hb dX9_behindUnit_51 (by decide) (fun c_800 => ?_) (fun c_800 => ?_)
            · skip
              have f801 : (f_eWhat (m23_i_piled.toInt + (-1)).toNat).toInt < r_4.toInt := qi_lt c_800 rfl rfl
              refine lv_iload_n hx hb dX9_behindUnit_104 rfl (lv_at hl 1 rfl) ?_
              refine lv_if_le (tgt := 147) hx hb dX9_behindUnit_105 (by decide) (fun c_802 => ((ob_429 (qi_le c_802 rfl zc_0) f673)).elim) (fun c_802 => ?_)
              have f803 : 0 < r_4.toInt := qi_nle c_802 rfl zc_0
              refine lv_aload_n hx hb dX9_behindUnit_108 rfl (lv_at hl 0 rfl) ?_
              refine lv_iload_n hx hb dX9_behindUnit_109 rfl (lv_at hl 1 rfl) ?_
              refine lv_iload_n hx hb dX9_behindUnit_110 rfl (lv_at hl 1 rfl) ?_
              refine lv_iconst (v := 2) hx hb dX9_behindUnit_111 (by decide) ?_
              refine lv_icmp_ne (tgt := 120) hx hb dX9_behindUnit_112 (by decide) (fun c_804 => ?_) (fun c_804 => ((ob_430 (qi_eq c_804 rfl zc_2) f673)).elim)
              have f805 : r_4.toInt ≠ 2 := qi_ne c_804 rfl zc_2
              have f806 : (3 : Int) ≤ r_4.toInt := (ob_431 f673)
              refine lv_iload_n hx hb dX9_behindUnit_120 rfl (lv_at hl 1 rfl) ?_
              refine lv_iconst (v := 1) hx hb dX9_behindUnit_121 (by decide) ?_
              refine lv_icmp_ne (tgt := 130) hx hb dX9_behindUnit_122 (by decide) (fun c_807 => ?_) (fun c_807 => ((ob_432 (qi_eq c_807 rfl zc_1) f673)).elim)
              have f808 : r_4.toInt ≠ 1 := qi_ne c_807 rfl zc_1
              have f809 : (2 : Int) ≤ r_4.toInt := (ob_433 f673)
              refine lv_aload_n hx hb dX9_behindUnit_130 rfl (lv_at hl 0 rfl) ?_
              refine lv_aload_n hx hb dX9_behindUnit_131 rfl (lv_at hl 0 rfl) ?_
              refine gM_X9_184_0 hx hb hG hown hK hP dX9_behindUnit_132 ?_
              refine va_calli (va_runV (As := [.int i_at]) (rest := [.int r_4, .ref (r 0)]) ⟨hx, hb, hml, hown, hG⟩ (kX9_sign l dC dI r ct i_taped i_size i_faultKind i_at i_end i_token i_number i_bank i_rb m23_i_codes m23_i_within m23_i_piled i_unitsInRule i_askHouse i_askTune i_acts i_undone i_laid i_knowns i_time f_text f_tunes f_houses f_hums f_told f_many f_ruleFrom f_ruleTo m23_f_code f_eWhat f_eSign f_all f_kept f_was f_sTune f_boxAll m23_J L i_at H23.size ⟨im0, im1, im2, im3, im4, im5, im6, im7, im8, im9, im10, im11, im12, im13, im14, im15, im16, im17, im18, im19, im20, im21, im22, im23, im24, im25, im26, im27, im28, im29, im30, im31, gi23_RU⟩ (ob_81 im16)) (cwV 1 hG (goodV gw1366 gw1368 gw60 gw138 gw1369) rfl rfl rfl hd_X9_sign ⟨(Nat.le_of_ble_eq_true rfl), (Nat.le_of_ble_eq_true rfl)⟩) ⟨fbR, va_recv hK hP (ci := 8) (q0 := 0) rfl rfl, pR_in hP hK⟩ rfl rfl hl.1 rfl (lv_room (Nat.le_of_ble_eq_true rfl)) dX9_behindUnit_135 ⟨(Nat.le_of_ble_eq_true rfl), (Nat.le_of_ble_eq_true rfl)⟩) hS (fun q hq h => absurd hq (Nat.not_lt.mpr h)) (fun q h => hA q (Nat.le_trans hS.1 h)) (fun r_811 u_ t_ H810 locs ht hvm hw hB hz1 hk1 hS => ?_)
              subst hw
              have hP := wk hP hk1
              obtain ⟨f812, f813, f814, f815⟩ := hB
              have f816 : r_811.toInt = (sgz f_text i_size.toInt i_at.toInt) := (ob_6 f812)
              have hFc := frA hD hS hA
              refine va_callv (va_runV (As := [.int r_4, .int r_811]) (rest := []) ⟨hx, hb, hml, hown, hG⟩ (kX9_pushE l dC dI r ct i_taped i_size i_faultKind i_at i_end i_token i_number i_bank i_rb m23_i_codes m23_i_within m23_i_piled i_unitsInRule i_askHouse i_askTune i_acts i_undone i_laid i_knowns i_time f_text f_tunes f_houses f_hums f_told f_many f_ruleFrom f_ruleTo m23_f_code f_eWhat f_eSign f_all f_kept f_was f_sTune f_boxAll m23_J L r_4 r_811 H810.size ⟨im0, im1, im2, im3, im4, im5, im6, im7, im8, im9, im10, im11, im12, im13, im14, im15, im16, im17, im18, im19, im20, im21, im22, im23, im24, im25, im26, im27, im28, im29, im30, im31, gi23_RU⟩ (ob_81 g23_4) (ob_373 g23_5)) (cwV 2 hG (goodV gw1468 gw1470 gw77 gw138 gw1471) rfl rfl rfl hd_X9_pushE ⟨(Nat.le_of_ble_eq_true rfl), (Nat.le_of_ble_eq_true rfl)⟩) ⟨fbW, va_recv hK hP (ci := 8) (q0 := 0) rfl rfl, pW_in hP hK hD⟩ rfl rfl hl.1 rfl (lv_room (Nat.le_of_ble_eq_true rfl)) dX9_behindUnit_138 ⟨(Nat.le_of_ble_eq_true rfl), (Nat.le_of_ble_eq_true rfl)⟩) hS (fun q _ h => hFc q h) hFc (fun _ t_ H817 locs ht hvm hw hB hz1 hk1 hS => ?_)
              obtain ⟨x819, z820, z821, hP1, hD1, hI825, f822, f823, f824⟩ := hB
              rw [ht] at hP1
              have hP := hP1
              have hD := dW hFc hD1
              obtain ⟨im826, im827, im828, im829, im830, im831, im832, im833, im834, im835, im836, im837, im838, im839, im840, im841, im842, im843, im844, im845, im846, im847, im848, im849, im850, im851, im852, im853, im854, im855, im856, im857, im858⟩ := id hI825
              have f859 : (z820 ((0 : Int)).toNat).toInt = (f_eWhat ((0 : Int)).toNat).toInt := (by rw [f823, upd_off (ne0 (ob_252 g23_8))])
              refine lv_aload_n hx hb dX9_behindUnit_141 rfl (lv_at hl 0 rfl) ?_
              have hFc := frA hD hS hA
              refine va_callv (va_runV (As := []) (rest := []) ⟨hx, hb, hml, hown, hG⟩ (kX9_goOn l dC dI r ct i_taped i_size i_faultKind i_at i_end i_token i_number i_bank i_rb m23_i_codes m23_i_within x819 i_unitsInRule i_askHouse i_askTune i_acts i_undone i_laid i_knowns i_time f_text f_tunes f_houses f_hums f_told f_many f_ruleFrom f_ruleTo m23_f_code z820 z821 f_all f_kept f_was f_sTune f_boxAll m23_J L H817.size hI825) (cwV 0 hG (goodV gw1362 gw1364 gw59 gw138 gw1365) rfl rfl rfl hd_X9_goOn ⟨(Nat.le_of_ble_eq_true rfl), (Nat.le_of_ble_eq_true rfl)⟩) ⟨fbW, va_recv hK hP (ci := 8) (q0 := 0) rfl rfl, pW_in hP hK hD⟩ rfl rfl hl.1 rfl (lv_room (Nat.le_of_ble_eq_true rfl)) dX9_behindUnit_142 ⟨(Nat.le_of_ble_eq_true rfl), (Nat.le_of_ble_eq_true rfl)⟩) hS (fun q _ h => hFc q h) hFc (fun _ t_ H860 locs ht hvm hw hB hz1 hk1 hS => ?_)
              obtain ⟨x862, x863, x864, x865, L866, hP1, hD1, hI870, f867, f868, f869⟩ := hB
              rw [ht] at hP1
              have hP := hP1
              have hD := dW hFc hD1
              obtain ⟨im871, im872, im873, im874, im875, im876, im877, im878, im879, im880, im881, im882, im883, im884, im885, im886, im887, im888, im889, im890, im891, im892, im893, im894, im895, im896, im897, im898, im899, im900, im901, im902, im903⟩ := id hI870
              refine lv_iconst (v := 1) hx hb dX9_behindUnit_145 (by decide) ?_
              rw [hQ]
              exact W.zret (v := 1) hx hb hr (by decide) (fun t ht hW => ⟨⟨1, 1, rfl, rfl, ⟨i_faultKind, x862, x863, x864, x865, m23_i_codes, m23_i_within, x819, m23_f_code, z820, z821, m23_J, L866, by rw [ht]; exact hP, hD, hI870, (ob_14 zc_1), (ob_15 zc_1), (fun _ _ => SPpush gr23_0 f823 f824 (ob_252 g23_8) (ob_84 f822) (Or.inr ⟨(ob_434 f673), (dl_op (ob_375 f677 f816)), rfl, (ob_376 zc_1)⟩)), (fun _ => gr23_0.2.2.2.2), (ob_91 g23_4 f822), (ob_377 g23_5 f822), (ob_87 f867), (ob_436 im2 im3 im4 im17 hp9 f8 f673 g23_3 g23_4 g23_6 g23_9 g23_10 g23_11 g23_12 f796 f822 f859 f869 zc_1)⟩⟩, hS.F ht⟩) hS.2.2 dX9_behindUnit_146
            · skip
              have f904 : r_4.toInt ≤ (f_eWhat (m23_i_piled.toInt + (-1)).toNat).toInt := qi_nlt c_800 rfl rfl
              refine lv_aload_n hx hb dX9_behindUnit_54 rfl (lv_at hl 0 rfl) ?_
              refine lv_dup hx hb dX9_behindUnit_55 rfl ?_
              refine gM_X9_296_0 hx hb hG hown hK hP dX9_behindUnit_56 ?_
              refine lv_iconst (v := 1) hx hb dX9_behindUnit_59 (by decide) ?_
              refine lv_isub hx hb dX9_behindUnit_60 ?_
              refine lv_topi (fun x905 ex905 => ?_)
              have f906 : x905.toInt = m23_i_piled.toInt + (-1) := (ob_208 (qi_sub ex905 rfl zc_1 (ob_345 g23_4) (ob_346 g23_5)))
              refine pM_X9_296_0 hx hb hG hown hK hP hD hS dX9_behindUnit_61 (fun H907 locs hP hD hS => ?_)
              refine lv_aload_n hx hb dX9_behindUnit_64 rfl (lv_at hl 0 rfl) ?_
              refine gM_X9_79_0 hx hb hG hown hK hP dX9_behindUnit_65 ?_
              refine lv_aload_n hx hb dX9_behindUnit_68 rfl (lv_at hl 0 rfl) ?_
              refine gM_X9_296_0 hx hb hG hown hK hP dX9_behindUnit_69 ?_
              refine ldM_22 (mm := m23_i_piled.toInt + (-1)) hx hb hK hP f906 (ob_347 g23_8) (ob_348 g23_5) dX9_behindUnit_72 ?_
              refine lv_iconst (v := 3) hx hb dX9_behindUnit_73 (by decide) ?_
              refine lv_icmp_ne (tgt := 87) hx hb dX9_behindUnit_74 (by decide) (fun c_908 => ?_) (fun c_908 => ((ob_437 (qi_eq c_908 rfl zc_3) f673 f904)).elim)
              have f909 : (f_eWhat (m23_i_piled.toInt + (-1)).toNat).toInt ≠ 3 := qi_ne c_908 rfl zc_3
              refine lv_aload_n hx hb dX9_behindUnit_87 rfl (lv_at hl 0 rfl) ?_
              refine lv_aload_n hx hb dX9_behindUnit_88 rfl (lv_at hl 0 rfl) ?_
              refine gM_X9_82_0 hx hb hG hown hK hP dX9_behindUnit_89 ?_
              refine lv_aload_n hx hb dX9_behindUnit_92 rfl (lv_at hl 0 rfl) ?_
              refine gM_X9_296_0 hx hb hG hown hK hP dX9_behindUnit_93 ?_
              refine ldM_23 (mm := m23_i_piled.toInt + (-1)) hx hb hK hP f906 (ob_347 g23_8) (ob_348 g23_5) dX9_behindUnit_96 ?_
              refine lv_iconst (v := 0) hx hb dX9_behindUnit_97 (by decide) ?_
              have hFc := frA hD hS hA
              refine va_callv (va_runV (As := [.int (f_eSign (m23_i_piled.toInt + (-1)).toNat), .int 0]) (rest := []) ⟨hx, hb, hml, hown, hG⟩ (kX9_emit l dC dI r ct i_taped i_size i_faultKind i_at i_end i_token i_number i_bank i_rb m23_i_codes m23_i_within x905 i_unitsInRule i_askHouse i_askTune i_acts i_undone i_laid i_knowns i_time f_text f_tunes f_houses f_hums f_told f_many f_ruleFrom f_ruleTo m23_f_code f_eWhat f_eSign f_all f_kept f_was f_sTune f_boxAll m23_J L (f_eSign (m23_i_piled.toInt + (-1)).toNat) 0 H907.size ⟨im0, im1, im2, im3, im4, im5, im6, im7, im8, im9, im10, im11, im12, im13, im14, im15, im16, im17, im18, im19, im20, im21, im22, im23, im24, im25, im26, im27, im28, im29, im30, im31, gi23_RU⟩ (ob_232 hp0) (ob_233 g23_12) (ob_394 hp2 g23_4 g23_11)) (cwV 2 hG (goodV gw1484 gw1486 gw81 gw138 gw1487) rfl rfl rfl hd_X9_emit ⟨(Nat.le_of_ble_eq_true rfl), (Nat.le_of_ble_eq_true rfl)⟩) ⟨fbW, va_recv hK hP (ci := 8) (q0 := 0) rfl rfl, pW_in hP hK hD⟩ rfl rfl hl.1 rfl (lv_room (Nat.le_of_ble_eq_true rfl)) dX9_behindUnit_98 ⟨(Nat.le_of_ble_eq_true rfl), (Nat.le_of_ble_eq_true rfl)⟩) hS (fun q _ h => hFc q h) hFc (fun _ t_ H910 locs ht hvm hw hB hz1 hk1 hS => ?_)
              obtain ⟨x912, z913, J914, hP1, hD1, hI917, f915, f916⟩ := hB
              rw [ht] at hP1
              have hP := hP1
              have hD := dW hFc hD1
              obtain ⟨im918, im919, im920, im921, im922, im923, im924, im925, im926, im927, im928, im929, im930, im931, im932, im933, im934, im935, im936, im937, im938, im939, im940, im941, im942, im943, im944, im945, im946, im947, im948, im949, im950⟩ := id hI917
              have f951 : (f_eWhat (x905.toInt).toNat).toInt = (f_eWhat (m23_i_piled.toInt + (-1)).toNat).toInt := by rw [f906]
              have sp952 : SP f_eWhat f_eSign z913 x905.toInt m23_i_within.toInt (560 * i_rb.toInt) x912.toInt 0 := SPpop gr23_0 rfl rfl f916 (by rw [f906]) (ob_84 f915) (ob_362 f906) (ob_363 g23_8 f797) (ob_395 g23_5) (ob_239 im6) (ob_233 g23_12) (ob_396 f796 f904 f951) (ob_397 f909 f951)
              refine lv_goto (tgt := 23) hx hb dX9_behindUnit_101 (by decide) ?_
              exact ih23 x912 m23_i_within x905 z913 J914 H910 _ _ (ob_91 g23_0 f915) (ob_398 im7 hp2 g23_8 g23_11 f915) (ob_399 g23_2) (ob_400 g23_3) (ob_356 g23_8 f906) (ob_401 g23_5 f906) (ob_81 g23_6) (ob_400 g23_3) (ob_402 g23_8 f797 f906) (ob_403 g23_9 f906) (ob_404 g23_10 f906) (ob_405 g23_11 f915 f906) (ob_406 g23_12 f915) im950 sp952 hP hD hS (lv_sub hl [0, 1] rfl) (ob_334 hM23 f906)
      exact L23 (i_piled.toInt + 1).toNat i_codes i_within i_piled f_code J H678 _ _ (ob_412 im6 hp6) (ob_413 im7 hp2 hp5 hp8) (ob_414 hp3 hp4 hp7) (ob_415 hp3 hp4 hp7) (ob_416 hp5 hp7 hp8) (ob_417 hp2 hp4 hp7) (ob_418 hp3 hp4 hp7) (ob_415 hp3 hp4 hp7) (ob_419 hp5 hp7 hp8) (ob_88) (ob_420 hp7) (ob_421 hp8) (ob_233 hp6) im32 hp11 hP hD hS (lv_sub hl [1, 0] rfl) (mlt (ob_422 hp5 hp7 hp8))
    · skip
      have f953 : r_679.toInt ≠ 0 := qi_ne c_683 rfl zc_0
      have f954 : (1 : Int) ≤ r_679.toInt := (ob_438 f680 f953)
      have f955 : r_679.toInt = (1 : Int) := (ob_104 f681 f682 f954)
      refine lv_aload_n hx hb dX9_behindUnit_17 rfl (lv_at hl 1 rfl) ?_
      have hFc := frA hD hS hA
      refine va_callv (va_runV (As := []) (rest := []) ⟨hx, hb, hml, hown, hG⟩ (kX9_misplaced l dC dI r ct i_taped i_size i_faultKind i_at i_end i_token i_number i_bank i_rb i_codes i_within i_piled i_unitsInRule i_askHouse i_askTune i_acts i_undone i_laid i_knowns i_time f_text f_tunes f_houses f_hums f_told f_many f_ruleFrom f_ruleTo f_code f_eWhat f_eSign f_all f_kept f_was f_sTune f_boxAll J L H678.size hI) (cwV 0 hG (goodV gw1420 gw1422 gw65 gw138 gw1423) rfl rfl rfl hd_X9_misplaced ⟨(Nat.le_of_ble_eq_true rfl), (Nat.le_of_ble_eq_true rfl)⟩) ⟨fbW, va_recv hK hP (ci := 8) (q0 := 0) rfl rfl, pW_in hP hK hD⟩ rfl rfl hl.1 rfl (lv_room (Nat.le_of_ble_eq_true rfl)) dX9_behindUnit_18 ⟨(Nat.le_of_ble_eq_true rfl), (Nat.le_of_ble_eq_true rfl)⟩) hS (fun q _ h => hFc q h) hFc (fun _ t_ H956 locs ht hvm hw hB hz1 hk1 hS => ?_)
      obtain ⟨x958, J959, hP1, hD1, hI961, f960⟩ := hB
      rw [ht] at hP1
      have hP := hP1
      have hD := dW hFc hD1
      obtain ⟨im962, im963, im964, im965, im966, im967, im968, im969, im970, im971, im972, im973, im974, im975, im976, im977, im978, im979, im980, im981, im982, im983, im984, im985, im986, im987, im988, im989, im990, im991, im992, im993, im994⟩ := id hI961
      refine lv_iconst (v := 1) hx hb dX9_behindUnit_21 (by decide) ?_
      rw [hQ]
      exact W.zret (v := 1) hx hb hr (by decide) (fun t ht hW => ⟨⟨1, 1, rfl, rfl, ⟨x958, i_at, i_end, i_token, i_number, i_codes, i_within, i_piled, f_code, f_eWhat, f_eSign, J959, L, by rw [ht]; exact hP, hD, hI961, (ob_14 zc_1), (ob_15 zc_1), (fun h _ => ((ob_214 h im979 f960)).elim), (fun h => ((ob_214 h im979 f960)).elim), (ob_416 hp5 hp7 hp8), (ob_439 hp2 hp4 hp7), (ob_88), (ob_440 f960 zc_1)⟩⟩, hS.F ht⟩) hS.2.2 dX9_behindUnit_22
set_option maxHeartbeats 4000000 in
set_option maxRecDepth 100000 in
theorem kX9_e (l : Launch) (dC : Nat → ClassId) (dI : Nat → Nat → Nat) (r : Nat → Nat) (ct : Nat → ClassId) (i_taped i_size i_faultKind i_at i_end i_token i_number i_bank i_rb i_codes i_within i_piled i_unitsInRule i_askHouse i_askTune i_acts i_undone i_laid i_knowns i_time : Int32) (f_text f_tunes f_houses f_hums f_told f_many f_ruleFrom f_ruleTo f_code f_eWhat f_eSign f_all f_kept f_was f_sTune f_boxAll : Nat → Int32) (J : Nat → Nat → Int32) (L : Nat → Nat → Int64) (sz : Nat) (hI : (IM i_taped i_size i_faultKind i_at i_end i_bank i_rb i_acts i_undone i_laid i_knowns i_time f_tunes f_houses f_hums f_told f_many f_ruleFrom f_ruleTo f_code f_all f_kept f_was f_sTune f_boxAll)) (hp0 : i_rb.toInt + i_bank.toInt = (1 : Int)) (hp1 : i_codes.toInt = 560 * i_rb.toInt) (hp2 : i_unitsInRule.toInt = (0 : Int)) (hp3 : i_faultKind.toInt = (0 : Int)) : Met l yX9_e (.code yX9_e cX9_e 2 none :: GW) { frames := 10, cells := 0, slots := 0, locals := 346 } (va_Pc [.ref (r 0)] (pW (dC, dI) (WM r ct i_taped i_size i_faultKind i_at i_end i_token i_number i_bank i_rb i_codes i_within i_piled i_unitsInRule i_askHouse i_askTune i_acts i_undone i_laid i_knowns i_time f_text f_tunes f_houses f_hums f_told f_many f_ruleFrom f_ruleTo f_code f_eWhat f_eSign f_all f_kept f_was f_sTune f_boxAll J L) (TM ct) sz)) (va_Qv (fun _ : Unit => True) (fun (_ : Unit) (t : State) => ∃ (n_i_faultKind n_i_at n_i_end n_i_token n_i_number n_i_codes n_i_within n_i_piled n_i_unitsInRule : Int32) (n_f_code n_f_eWhat n_f_eSign : Nat → Int32) (n_J : Nat → Nat → Int32) (n_L : Nat → Nat → Int64), va_P (dC, dI) vwCl (WM r ct i_taped i_size n_i_faultKind n_i_at n_i_end n_i_token n_i_number i_bank i_rb n_i_codes n_i_within n_i_piled n_i_unitsInRule i_askHouse i_askTune i_acts i_undone i_laid i_knowns i_time f_text f_tunes f_houses f_hums f_told f_many f_ruleFrom f_ruleTo n_f_code n_f_eWhat n_f_eSign f_all f_kept f_was f_sTune f_boxAll n_J n_L) t.heap ∧ va_D (va_A (WM r ct i_taped i_size i_faultKind i_at i_end i_token i_number i_bank i_rb i_codes i_within i_piled i_unitsInRule i_askHouse i_askTune i_acts i_undone i_laid i_knowns i_time f_text f_tunes f_houses f_hums f_told f_many f_ruleFrom f_ruleTo f_code f_eWhat f_eSign f_all f_kept f_was f_sTune f_boxAll J L) sz) (WM r ct i_taped i_size n_i_faultKind n_i_at n_i_end n_i_token n_i_number i_bank i_rb n_i_codes n_i_within n_i_piled n_i_unitsInRule i_askHouse i_askTune i_acts i_undone i_laid i_knowns i_time f_text f_tunes f_houses f_hums f_told f_many f_ruleFrom f_ruleTo n_f_code n_f_eWhat n_f_eSign f_all f_kept f_was f_sTune f_boxAll n_J n_L) ∧ (IM i_taped i_size n_i_faultKind n_i_at n_i_end i_bank i_rb i_acts i_undone i_laid i_knowns i_time f_tunes f_houses f_hums f_told f_many f_ruleFrom f_ruleTo n_f_code f_all f_kept f_was f_sTune f_boxAll) ∧ (i_end.toInt ≤ n_i_end.toInt) ∧ ((n_i_faultKind.toInt = 0 → (n_i_codes.toInt ≤ 560 * i_rb.toInt + 560 ∧ RUW (560 * i_rb.toInt) n_i_codes.toInt n_f_code)))) (va_A (WM r ct i_taped i_size i_faultKind i_at i_end i_token i_number i_bank i_rb i_codes i_within i_piled i_unitsInRule i_askHouse i_askTune i_acts i_undone i_laid i_knowns i_time f_text f_tunes f_houses f_hums f_told f_many f_ruleFrom f_ruleTo f_code f_eWhat f_eSign f_all f_kept f_was f_sTune f_boxAll J L) sz)) 0 0 (va_A (WM r ct i_taped i_size i_faultKind i_at i_end i_token i_number i_bank i_rb i_codes i_within i_piled i_unitsInRule i_askHouse i_askTune i_acts i_undone i_laid i_knowns i_time f_text f_tunes f_houses f_hums f_told f_many f_ruleFrom f_ruleTo f_code f_eWhat f_eSign f_all f_kept f_was f_sTune f_boxAll J L) sz) := by
  refine Met.ofW (cc := cX9_e) (maxL := 2) (ret := none) (by decide) rfl ?_
  intro p e s m args below meth c0 s₁ B hml hv
  obtain ⟨rfl, hsz, hP, hK, hD0⟩ := hv
  have hx := B.exec
  have hb := B.bytes
  have hr := B.returns
  have hts := atoms_spec (ws := .code yX9_e cX9_e 2 none :: GW) B.pre
  have hG : ∀ w ∈ GW, w.before _ s = true := fun w h => hts w (List.mem_cons_of_mem _ h)
  have hown : s.vm.findClass RX9 = some m.cls := findClass_of_methodNamed B.named
  subst hsz
  have hD := hD0.self (sz := s.heap.size)
  generalize hAe : va_A (WM r ct i_taped i_size i_faultKind i_at i_end i_token i_number i_bank i_rb i_codes i_within i_piled i_unitsInRule i_askHouse i_askTune i_acts i_undone i_laid i_knowns i_time f_text f_tunes f_houses f_hums f_told f_many f_ruleFrom f_ruleTo f_code f_eWhat f_eSign f_all f_kept f_was f_sTune f_boxAll J L) s.heap.size = A at hD ⊢
  have hA : ∀ q : Nat, s.heap.size ≤ q → A q := fun q h => by rw [← hAe]; exact Or.inr h
  have hS : va_S A s.heap s.heap [] := va_S.rf
  have hP : va_P (dC, dI) vwCl (WM r ct i_taped i_size i_faultKind i_at i_end i_token i_number i_bank i_rb i_codes i_within i_piled i_unitsInRule i_askHouse i_askTune i_acts i_undone i_laid i_knowns i_time f_text f_tunes f_houses f_hums f_told f_many f_ruleFrom f_ruleTo f_code f_eWhat f_eSign f_all f_kept f_was f_sTune f_boxAll J L) s.heap := hP
  have hl := lv_entry ([.ref (r 0)]) (n := 2) (Nat.le_of_ble_eq_true rfl)
  rw [lg_entry_eq]
  generalize (lg_sl ([.ref (r 0)]) ++ List.replicate (2 - (lg_sl ([.ref (r 0)])).length) Slot.unset).toArray = ls at hl ⊢
  have hl : lv_has ls 2 [(0, .ref (r 0))] := hl
  refine nameQ (fun Q hQ => ?_)
  obtain ⟨im0, im1, im2, im3, im4, im5, im6, im7, im8, im9, im10, im11, im12, im13, im14, im15, im16, im17, im18, im19, im20, im21, im22, im23, im24, im25, im26, im27, im28, im29, im30, im31, im32⟩ := id hI
  have f1 : 0 ≤ (f_tunes (i_bank.toInt).toNat).toInt ∧ (f_tunes (i_bank.toInt).toNat).toInt ≤ 5 := im21 (i_bank.toInt)
  have f2 : 0 ≤ (f_houses (i_bank.toInt).toNat).toInt ∧ (f_houses (i_bank.toInt).toNat).toInt ≤ 4 := im22 (i_bank.toInt)
  refine lv_aload_n hx hb dX9_e_0 rfl (lv_at hl 0 rfl) ?_
  refine lv_iconst (v := 0) hx hb dX9_e_1 (by decide) ?_
  refine pM_X9_296_0 hx hb hG hown hK hP hD hS dX9_e_2 (fun H3 locs hP hD hS => ?_)
  refine lv_aload_n hx hb dX9_e_5 rfl (lv_at hl 0 rfl) ?_
  refine lv_iconst (v := 0) hx hb dX9_e_6 (by decide) ?_
  refine pM_X9_299_0 hx hb hG hown hK hP hD hS dX9_e_7 (fun H4 locs hP hD hS => ?_)
  refine lv_aload_n hx hb dX9_e_10 rfl (lv_at hl 0 rfl) ?_
  refine lv_bipush (v := 8) hx hb dX9_e_11 (by decide) ?_
  refine lv_iconst (v := 0) hx hb dX9_e_13 (by decide) ?_
  have hFc := frA hD hS hA
  refine va_callv (va_runV (As := [.int 8, .int 0]) (rest := []) ⟨hx, hb, hml, hown, hG⟩ (kX9_pushE l dC dI r ct i_taped i_size i_faultKind i_at i_end i_token i_number i_bank i_rb i_codes 0 0 i_unitsInRule i_askHouse i_askTune i_acts i_undone i_laid i_knowns i_time f_text f_tunes f_houses f_hums f_told f_many f_ruleFrom f_ruleTo f_code f_eWhat f_eSign f_all f_kept f_was f_sTune f_boxAll J L 8 0 H4.size hI (ob_1 zc_0) (ob_441 zc_0)) (cwV 2 hG (goodV gw1468 gw1470 gw77 gw138 gw1471) rfl rfl rfl hd_X9_pushE ⟨(Nat.le_of_ble_eq_true rfl), (Nat.le_of_ble_eq_true rfl)⟩) ⟨fbW, va_recv hK hP (ci := 8) (q0 := 0) rfl rfl, pW_in hP hK hD⟩ rfl rfl hl.1 rfl (lv_room (Nat.le_of_ble_eq_true rfl)) dX9_e_14 ⟨(Nat.le_of_ble_eq_true rfl), (Nat.le_of_ble_eq_true rfl)⟩) hS (fun q _ h => hFc q h) hFc (fun _ t_ H5 locs ht hvm hw hB hz1 hk1 hS => ?_)
  obtain ⟨x7, z8, z9, hP1, hD1, hI13, f10, f11, f12⟩ := hB
  rw [ht] at hP1
  have hP := hP1
  have hD := dW hFc hD1
  obtain ⟨im14, im15, im16, im17, im18, im19, im20, im21, im22, im23, im24, im25, im26, im27, im28, im29, im30, im31, im32, im33, im34, im35, im36, im37, im38, im39, im40, im41, im42, im43, im44, im45, im46⟩ := id hI13
  have f47 : (z8 ((0 : Int)).toNat).toInt = 8 := ew8 f11 zc_0 zc_8
  have f48 : (i_faultKind.toInt = 0 ∧ (tk i_faultKind.toInt) = 0) ∨ (i_faultKind.toInt ≠ 0 ∧ (tk i_faultKind.toInt) = 1) := tk_or _
  have f49 : (i_token.toInt = 0 ∧ (tk i_token.toInt) = 0) ∨ (i_token.toInt ≠ 0 ∧ (tk i_token.toInt) = 1) := tk_or _
  refine lv_iconst (v := 1) hx hb dX9_e_17 (by decide) ?_
  refine lv_istore_n (lv' := [(1, .int 1), (0, .ref (r 0))]) hx hb dX9_e_18 rfl hl (by decide) rfl (fun ls hl => ?_)
  have L19 : ∀ (N19 : Nat) (y19_1 : Int32) (m19_i_faultKind m19_i_at m19_i_end m19_i_token m19_i_number m19_i_codes m19_i_within m19_i_piled m19_i_unitsInRule : Int32) (m19_f_code m19_f_eWhat m19_f_eSign : Nat → Int32) (m19_J : Nat → Nat → Int32) (m19_L : Nat → Nat → Int64) (H19 : Heap) (locs : List Loc) (ls : Array Slot) (g19_0 : (0 : Int) ≤ y19_1.toInt) (g19_1 : y19_1.toInt ≤ (1 : Int)) (g19_2 : (0 : Int) ≤ m19_i_faultKind.toInt) (g19_3 : (0 : Int) ≤ m19_i_at.toInt) (g19_4 : (0 : Int) ≤ m19_i_end.toInt) (g19_5 : m19_i_end.toInt ≤ (1600 : Int)) (g19_6 : (0 : Int) ≤ m19_i_piled.toInt) (g19_7 : m19_i_piled.toInt ≤ (60 : Int)) (g19_8 : (0 : Int) ≤ m19_i_piled.toInt) (g19_9 : m19_i_piled.toInt ≤ (60 : Int)) (g19_10 : ((1 : Int) ≤ m19_i_faultKind.toInt) ∨ ((m19_i_piled.toInt = (0 : Int)) ∧ (560 * i_rb.toInt ≤ m19_i_codes.toInt) ∧ (m19_i_codes.toInt ≤ 560 * i_rb.toInt + 300)) ∨ (((1 : Int) ≤ m19_i_piled.toInt) ∧ ((m19_f_eWhat ((0 : Int)).toNat).toInt = (8 : Int)) ∧ ((0 : Int) ≤ m19_i_unitsInRule.toInt) ∧ (m19_i_unitsInRule.toInt ≤ (30 : Int)) ∧ ((0 : Int) ≤ m19_i_within.toInt) ∧ (m19_i_within.toInt ≤ (7 : Int)) ∧ (560 * i_rb.toInt ≤ m19_i_codes.toInt) ∧ (((y19_1.toInt = (1 : Int)) ∧ (m19_i_piled.toInt ≤ m19_i_unitsInRule.toInt + m19_i_within.toInt + 1) ∧ (m19_i_codes.toInt + m19_i_piled.toInt ≤ 560 * i_rb.toInt + 9 * m19_i_unitsInRule.toInt + m19_i_within.toInt + 1)) ∨ ((y19_1.toInt = (0 : Int)) ∧ (m19_i_piled.toInt ≤ m19_i_unitsInRule.toInt + m19_i_within.toInt) ∧ (m19_i_codes.toInt + m19_i_piled.toInt ≤ 560 * i_rb.toInt + 9 * m19_i_unitsInRule.toInt))))) (g19_11 : ((m19_i_faultKind.toInt = (0 : Int)) ∧ ((tk m19_i_faultKind.toInt) = (0 : Int))) ∨ ((m19_i_faultKind.toInt ≠ (0 : Int)) ∧ ((tk m19_i_faultKind.toInt) = (1 : Int)))) (g19_12 : ((m19_i_token.toInt = (0 : Int)) ∧ ((tk m19_i_token.toInt) = (0 : Int))) ∨ ((m19_i_token.toInt ≠ (0 : Int)) ∧ ((tk m19_i_token.toInt) = (1 : Int)))) (g19_13 : i_end.toInt ≤ m19_i_end.toInt) (gi19_end_lo : (0 : Int) ≤ m19_i_end.toInt) (gi19_end_hi : m19_i_end.toInt ≤ i_size.toInt) (gi19_at_lo : (0 : Int) ≤ m19_i_at.toInt) (gi19_fk_lo : (0 : Int) ≤ m19_i_faultKind.toInt) (gi19_RU : RU i_bank f_told f_ruleFrom f_ruleTo m19_f_code) (gr19_0 : m19_i_faultKind.toInt = 0 → 1 ≤ m19_i_piled.toInt → SP m19_f_eWhat m19_f_eSign m19_f_code m19_i_piled.toInt m19_i_within.toInt (560 * i_rb.toInt) m19_i_codes.toInt y19_1.toInt) (gr19_1 : m19_i_faultKind.toInt = 0 → (∀ k : Int, 560 * i_rb.toInt ≤ k → k < m19_i_codes.toInt → okc m19_f_code (560 * i_rb.toInt) k)) (hP : va_P (dC, dI) vwCl (WM r ct i_taped i_size m19_i_faultKind m19_i_at m19_i_end m19_i_token m19_i_number i_bank i_rb m19_i_codes m19_i_within m19_i_piled m19_i_unitsInRule i_askHouse i_askTune i_acts i_undone i_laid i_knowns i_time f_text f_tunes f_houses f_hums f_told f_many f_ruleFrom f_ruleTo m19_f_code m19_f_eWhat m19_f_eSign f_all f_kept f_was f_sTune f_boxAll m19_J m19_L) H19) (hD : va_D A (WM r ct i_taped i_size m19_i_faultKind m19_i_at m19_i_end m19_i_token m19_i_number i_bank i_rb m19_i_codes m19_i_within m19_i_piled m19_i_unitsInRule i_askHouse i_askTune i_acts i_undone i_laid i_knowns i_time f_text f_tunes f_houses f_hums f_told f_many f_ruleFrom f_ruleTo m19_f_code m19_f_eWhat m19_f_eSign f_all f_kept f_was f_sTune f_boxAll m19_J m19_L)) (hS : va_S A s.heap H19 locs) (hl : lv_has ls 2 [(0, .ref (r 0)), (1, .int y19_1)]) (hM : m19_i_piled.toInt + 100 * (tk m19_i_token.toInt) + 200 * i_size.toInt + -200 * m19_i_end.toInt + -1000000 * (tk m19_i_faultKind.toInt) + 1000000 < (N19 : Int)), W p l e { frames := 10, cells := 0, slots := 0, locals := 346 } s m ([.ref (r 0)] : List Value).toArray below meth c0 H19 locs 0 0 Q (F0 m 19 ls []) := by
    intro N19
    induction N19 with
    | zero =>
      intro y19_1 m19_i_faultKind m19_i_at m19_i_end m19_i_token m19_i_number m19_i_codes m19_i_within m19_i_piled m19_i_unitsInRule m19_f_code m19_f_eWhat m19_f_eSign m19_J m19_L H19 locs ls g19_0 g19_1 g19_2 g19_3 g19_4 g19_5 g19_6 g19_7 g19_8 g19_9 g19_10 g19_11 g19_12 g19_13 gi19_end_lo gi19_end_hi gi19_at_lo gi19_fk_lo gi19_RU gr19_0 gr19_1 hP hD hS hl hM
      exact ((ob_442 hM g19_6 g19_11 g19_12 gi19_end_hi)).elim
    | succ N19 ih19 =>
      intro y19_1 m19_i_faultKind m19_i_at m19_i_end m19_i_token m19_i_number m19_i_codes m19_i_within m19_i_piled m19_i_unitsInRule m19_f_code m19_f_eWhat m19_f_eSign m19_J m19_L H19 locs ls g19_0 g19_1 g19_2 g19_3 g19_4 g19_5 g19_6 g19_7 g19_8 g19_9 g19_10 g19_11 g19_12 g19_13 gi19_end_lo gi19_end_hi gi19_at_lo gi19_fk_lo gi19_RU gr19_0 gr19_1 hP hD hS hl hM
      have hM19 := msucc hM
      refine lv_aload_n hx hb dX9_e_19 rfl (lv_at hl 0 rfl) ?_
      refine va_calli (va_runV (As := []) (rest := []) ⟨hx, hb, hml, hown, hG⟩ (kX9_isGood l dC dI r ct i_taped i_size m19_i_faultKind m19_i_at m19_i_end m19_i_token m19_i_number i_bank i_rb m19_i_codes m19_i_within m19_i_piled m19_i_unitsInRule i_askHouse i_askTune i_acts i_undone i_laid i_knowns i_time f_text f_tunes f_houses f_hums f_told f_many f_ruleFrom f_ruleTo m19_f_code m19_f_eWhat m19_f_eSign f_all f_kept f_was f_sTune f_boxAll m19_J m19_L H19.size ⟨im0, im1, im2, im3, im4, im5, im6, im7, im8, im9, im10, im11, im12, im13, gi19_end_lo, gi19_end_hi, gi19_at_lo, gi19_fk_lo, im18, im19, im20, im21, im22, im23, im24, im25, im26, im27, im28, im29, im30, im31, gi19_RU⟩) (cwV 0 hG (goodV gw1401 gw1403 gw61 gw138 gw1404) rfl rfl rfl hd_X9_isGood ⟨(Nat.le_of_ble_eq_true rfl), (Nat.le_of_ble_eq_true rfl)⟩) ⟨fbR, va_recv hK hP (ci := 8) (q0 := 0) rfl rfl, pR_in hP hK⟩ rfl rfl hl.1 rfl (lv_room (Nat.le_of_ble_eq_true rfl)) dX9_e_20 ⟨(Nat.le_of_ble_eq_true rfl), (Nat.le_of_ble_eq_true rfl)⟩) hS (fun q hq h => absurd hq (Nat.not_lt.mpr h)) (fun q h => hA q (Nat.le_trans hS.1 h)) (fun r_51 u_ t_ H50 locs ht hvm hw hB hz1 hk1 hS => ?_)
      subst hw
      have hP := wk hP hk1
      obtain ⟨f52, f53, f54⟩ := hB
      refine lv_if_eq (tgt := 52) hx hb dX9_e_23 (by decide) (fun c_55 => ?_) (fun c_55 => ?_)
      · skip
        have f56 : r_51.toInt = 0 := qi_eq c_55 rfl zc_0
        have f57 : m19_i_faultKind.toInt ≠ (0 : Int) := (ob_163 f52 f56)
        have f58 : (1 : Int) ≤ m19_i_faultKind.toInt := (ob_443 g19_2 f57)
        have f59 : r_51.toInt = (0 : Int) := (ob_165 f53 f54 f56)
        rw [hQ]
        exact W.vret hx hb hr (fun t ht hW => ⟨⟨(), rfl, trivial, ⟨m19_i_faultKind, m19_i_at, m19_i_end, m19_i_token, m19_i_number, m19_i_codes, m19_i_within, m19_i_piled, m19_i_unitsInRule, m19_f_code, m19_f_eWhat, m19_f_eSign, m19_J, m19_L, by rw [ht]; exact hP, hD, ⟨im0, im1, im2, im3, im4, im5, im6, im7, im8, im9, im10, im11, im12, im13, gi19_end_lo, gi19_end_hi, gi19_at_lo, gi19_fk_lo, im18, im19, im20, im21, im22, im23, im24, im25, im26, im27, im28, im29, im30, im31, gi19_RU⟩, (ob_87 g19_13), (fun h => ((ob_214 h g19_2 f58)).elim)⟩⟩, hS.F ht⟩) hS.2.2 dX9_e_52
      · skip
        have f60 : r_51.toInt ≠ 0 := qi_ne c_55 rfl zc_0
        have f61 : (1 : Int) ≤ r_51.toInt := (ob_158 f52 f60)
        have f62 : m19_i_faultKind.toInt = (0 : Int) := (ob_159 f52 f60)
        have f63 : r_51.toInt = (1 : Int) := (ob_104 f53 f54 f61)
        refine lv_aload_n hx hb dX9_e_26 rfl (lv_at hl 0 rfl) ?_
        refine gM_X9_296_0 hx hb hG hown hK hP dX9_e_27 ?_
        refine lv_if_le (tgt := 52) hx hb dX9_e_30 (by decide) (fun c_64 => ?_) (fun c_64 => ?_)
        · skip
          have f65 : m19_i_piled.toInt ≤ 0 := qi_le c_64 rfl zc_0
          have f66 : m19_i_piled.toInt = (0 : Int) := (ob_444 g19_6 f65)
          have f67 : 560 * i_rb.toInt ≤ m19_i_codes.toInt := (ob_445 g19_10 f62)
          have f68 : m19_i_codes.toInt ≤ 560 * i_rb.toInt + 300 := (ob_446 g19_10 f62)
          rw [hQ]
          exact W.vret hx hb hr (fun t ht hW => ⟨⟨(), rfl, trivial, ⟨m19_i_faultKind, m19_i_at, m19_i_end, m19_i_token, m19_i_number, m19_i_codes, m19_i_within, m19_i_piled, m19_i_unitsInRule, m19_f_code, m19_f_eWhat, m19_f_eSign, m19_J, m19_L, by rw [ht]; exact hP, hD, ⟨im0, im1, im2, im3, im4, im5, im6, im7, im8, im9, im10, im11, im12, im13, gi19_end_lo, gi19_end_hi, gi19_at_lo, gi19_fk_lo, im18, im19, im20, im21, im22, im23, im24, im25, im26, im27, im28, im29, im30, im31, gi19_RU⟩, (ob_87 g19_13), (fun h => ⟨(ob_447 f68), (ob_239 im6), (ob_448 im7), (ob_449 im7 f68), gr19_1 h⟩)⟩⟩, hS.F ht⟩) hS.2.2 dX9_e_52
        · skip
          have f69 : 0 < m19_i_piled.toInt := qi_nle c_64 rfl zc_0
          have f70 : (1 : Int) ≤ m19_i_piled.toInt := (ob_450 f69)
          have f71 : (m19_f_eWhat ((0 : Int)).toNat).toInt = (8 : Int) := (ob_451 g19_10 f62 f69)
          have f72 : (0 : Int) ≤ m19_i_unitsInRule.toInt := (ob_452 g19_10 f62 f69)
          have f73 : m19_i_unitsInRule.toInt ≤ (30 : Int) := (ob_453 g19_10 f62 f69)
          have f74 : (0 : Int) ≤ m19_i_within.toInt := (ob_454 g19_10 f62 f69)
          have f75 : m19_i_within.toInt ≤ (7 : Int) := (ob_455 g19_10 f62 f69)
          have f76 : 560 * i_rb.toInt ≤ m19_i_codes.toInt := (ob_445 g19_10 f62)
          have f77 : ((y19_1.toInt = (1 : Int)) ∧ (m19_i_piled.toInt ≤ m19_i_unitsInRule.toInt + m19_i_within.toInt + 1) ∧ (m19_i_codes.toInt + m19_i_piled.toInt ≤ 560 * i_rb.toInt + 9 * m19_i_unitsInRule.toInt + m19_i_within.toInt + 1)) ∨ ((y19_1.toInt = (0 : Int)) ∧ (m19_i_piled.toInt ≤ m19_i_unitsInRule.toInt + m19_i_within.toInt) ∧ (m19_i_codes.toInt + m19_i_piled.toInt ≤ 560 * i_rb.toInt + 9 * m19_i_unitsInRule.toInt)) := (ob_456 g19_10 f62 f69)
          refine lv_iload_n hx hb dX9_e_33 rfl (lv_at hl 1 rfl) ?_
          refine lv_if_eq (tgt := 44) hx hb dX9_e_34 (by decide) (fun c_78 => ?_) (fun c_78 => ?_)
          · skip
            have f79 : y19_1.toInt = 0 := qi_eq c_78 rfl zc_0
            have f80 : y19_1.toInt = (0 : Int) := (ob_165 g19_0 g19_1 f79)
            have f81 : m19_i_piled.toInt ≤ m19_i_unitsInRule.toInt + m19_i_within.toInt := (ob_457 g19_10 f62 f69 f79)
            have f82 : m19_i_codes.toInt + m19_i_piled.toInt ≤ 560 * i_rb.toInt + 9 * m19_i_unitsInRule.toInt := (ob_458 g19_10 f62 f69 f79)
            have sp83 : SP m19_f_eWhat m19_f_eSign m19_f_code m19_i_piled.toInt m19_i_within.toInt (560 * i_rb.toInt) m19_i_codes.toInt 0 := SPw (gr19_0 (ob_459 g19_2 f62) (ob_460 f69)) (ob_235 f79)
            refine lv_aload_n hx hb dX9_e_44 rfl (lv_at hl 0 rfl) ?_
            have hFc := frA hD hS hA
            refine va_calli (va_runV (As := []) (rest := []) ⟨hx, hb, hml, hown, hG⟩ (kX9_behindUnit l dC dI r ct i_taped i_size m19_i_faultKind m19_i_at m19_i_end m19_i_token m19_i_number i_bank i_rb m19_i_codes m19_i_within m19_i_piled m19_i_unitsInRule i_askHouse i_askTune i_acts i_undone i_laid i_knowns i_time f_text f_tunes f_houses f_hums f_told f_many f_ruleFrom f_ruleTo m19_f_code m19_f_eWhat m19_f_eSign f_all f_kept f_was f_sTune f_boxAll m19_J m19_L H50.size ⟨im0, im1, im2, im3, im4, im5, im6, im7, im8, im9, im10, im11, im12, im13, gi19_end_lo, gi19_end_hi, gi19_at_lo, gi19_fk_lo, im18, im19, im20, im21, im22, im23, im24, im25, im26, im27, im28, im29, im30, im31, gi19_RU⟩ (ob_232 hp0) (ob_81 f72) (ob_461 f73) (ob_418 f74 f75 f81) (ob_415 f74 f75 f81) (ob_450 f69) (ob_233 f76) (ob_420 f81) (ob_421 f82) (ob_428 f71) (ob_168 g19_2 f62) sp83) (cwV 0 hG (goodV gw1488 gw1490 gw82 gw138 gw1491) rfl rfl rfl hd_X9_behindUnit ⟨(Nat.le_of_ble_eq_true rfl), (Nat.le_of_ble_eq_true rfl)⟩) ⟨fbW, va_recv hK hP (ci := 8) (q0 := 0) rfl rfl, pW_in hP hK hD⟩ rfl rfl hl.1 rfl (lv_room (Nat.le_of_ble_eq_true rfl)) dX9_e_45 ⟨(Nat.le_of_ble_eq_true rfl), (Nat.le_of_ble_eq_true rfl)⟩) hS (fun q _ h => hFc q h) hFc (fun r_85 u_ t_ H84 locs ht hvm hw hB hz1 hk1 hS => ?_)
            subst hw
            obtain ⟨x86, x87, x88, x89, x90, x91, x92, x93, z94, z95, z96, J97, L98, hP1, hD1, hI107, f99, f100, f101, f102, f103, f104, f105, f106⟩ := hB
            rw [ht] at hP1
            have hP := hP1
            have hD := dW hFc hD1
            obtain ⟨im108, im109, im110, im111, im112, im113, im114, im115, im116, im117, im118, im119, im120, im121, im122, im123, im124, im125, im126, im127, im128, im129, im130, im131, im132, im133, im134, im135, im136, im137, im138, im139, im140⟩ := id hI107
            refine lv_istore_n (lv' := [(1, .int r_85), (0, .ref (r 0))]) hx hb dX9_e_48 rfl hl (by decide) rfl (fun ls hl => ?_)
            have f141 : (x86.toInt = 0 ∧ (tk x86.toInt) = 0) ∨ (x86.toInt ≠ 0 ∧ (tk x86.toInt) = 1) := tk_or _
            have f142 : (x89.toInt = 0 ∧ (tk x89.toInt) = 0) ∨ (x89.toInt ≠ 0 ∧ (tk x89.toInt) = 1) := tk_or _
            refine lv_goto (tgt := 19) hx hb dX9_e_49 (by decide) ?_
            exact ih19 r_85 x86 x87 x88 x89 x90 x91 x92 x93 m19_i_unitsInRule z94 z95 z96 J97 L98 H84 _ _ (ob_462 f99 f100) (ob_463 f99 f100) (ob_81 im125) (ob_81 im124) (ob_464 im122 im123 f105) (ob_148 im3 im123) (ob_465 f103 f104) (ob_466 f103 f104) (ob_465 f103 f104) (ob_466 f103 f104) (ob_467 f73 f77 f103 f106) (ob_468 im125 f106 f141) (ob_469 f106 f142) (ob_108 g19_13 f105) im122 im123 im124 im125 im140 (fun a b => f101 a b) f102 hP hD hS (lv_sub hl [1, 0] rfl) (ob_470 g19_11 g19_12 hM19 f62 f69 f104 f105 f106 f141 f142)
          · skip
            have f143 : y19_1.toInt ≠ 0 := qi_ne c_78 rfl zc_0
            have f144 : (1 : Int) ≤ y19_1.toInt := (ob_22 g19_0 f143)
            have f145 : y19_1.toInt = (1 : Int) := (ob_104 g19_0 g19_1 f144)
            have f146 : m19_i_piled.toInt ≤ m19_i_unitsInRule.toInt + m19_i_within.toInt + 1 := (ob_471 f77)
            have f147 : m19_i_codes.toInt + m19_i_piled.toInt ≤ 560 * i_rb.toInt + 9 * m19_i_unitsInRule.toInt + m19_i_within.toInt + 1 := (ob_472 f74 f77)
            have sp148 : SP m19_f_eWhat m19_f_eSign m19_f_code m19_i_piled.toInt m19_i_within.toInt (560 * i_rb.toInt) m19_i_codes.toInt 1 := SPw (gr19_0 (ob_459 g19_2 f62) (ob_460 f69)) (ob_473 g19_1 f144)
            refine lv_aload_n hx hb dX9_e_37 rfl (lv_at hl 0 rfl) ?_
            have hFc := frA hD hS hA
            refine va_calli (va_runV (As := []) (rest := []) ⟨hx, hb, hml, hown, hG⟩ (kX9_unit l dC dI r ct i_taped i_size m19_i_faultKind m19_i_at m19_i_end m19_i_token m19_i_number i_bank i_rb m19_i_codes m19_i_within m19_i_piled m19_i_unitsInRule i_askHouse i_askTune i_acts i_undone i_laid i_knowns i_time f_text f_tunes f_houses f_hums f_told f_many f_ruleFrom f_ruleTo m19_f_code m19_f_eWhat m19_f_eSign f_all f_kept f_was f_sTune f_boxAll m19_J m19_L H50.size ⟨im0, im1, im2, im3, im4, im5, im6, im7, im8, im9, im10, im11, im12, im13, gi19_end_lo, gi19_end_hi, gi19_at_lo, gi19_fk_lo, im18, im19, im20, im21, im22, im23, im24, im25, im26, im27, im28, im29, im30, im31, gi19_RU⟩ (ob_232 hp0) (ob_81 f72) (ob_461 f73) (ob_81 f74) (ob_400 f75) (ob_450 f69) (ob_233 f76) (ob_474 f146) (ob_475 f147) (ob_428 f71) (ob_168 g19_2 f62) sp148) (cwV 0 hG (goodV gw1472 gw1474 gw78 gw138 gw1475) rfl rfl rfl hd_X9_unit ⟨(Nat.le_of_ble_eq_true rfl), (Nat.le_of_ble_eq_true rfl)⟩) ⟨fbW, va_recv hK hP (ci := 8) (q0 := 0) rfl rfl, pW_in hP hK hD⟩ rfl rfl hl.1 rfl (lv_room (Nat.le_of_ble_eq_true rfl)) dX9_e_38 ⟨(Nat.le_of_ble_eq_true rfl), (Nat.le_of_ble_eq_true rfl)⟩) hS (fun q _ h => hFc q h) hFc (fun r_150 u_ t_ H149 locs ht hvm hw hB hz1 hk1 hS => ?_)
            subst hw
            obtain ⟨x151, x152, x153, x154, x155, x156, x157, x158, x159, z160, z161, z162, J163, L164, hP1, hD1, hI172, f165, f166, f167, f168, f169, f170, f171⟩ := hB
            rw [ht] at hP1
            have hP := hP1
            have hD := dW hFc hD1
            obtain ⟨im173, im174, im175, im176, im177, im178, im179, im180, im181, im182, im183, im184, im185, im186, im187, im188, im189, im190, im191, im192, im193, im194, im195, im196, im197, im198, im199, im200, im201, im202, im203, im204, im205⟩ := id hI172
            refine lv_goto (tgt := 48) hx hb dX9_e_41 (by decide) ?_
            refine lv_istore_n (lv' := [(1, .int r_150), (0, .ref (r 0))]) hx hb dX9_e_48 rfl hl (by decide) rfl (fun ls hl => ?_)
            have f206 : (x151.toInt = 0 ∧ (tk x151.toInt) = 0) ∨ (x151.toInt ≠ 0 ∧ (tk x151.toInt) = 1) := tk_or _
            have f207 : (x154.toInt = 0 ∧ (tk x154.toInt) = 0) ∨ (x154.toInt ≠ 0 ∧ (tk x154.toInt) = 1) := tk_or _
            refine lv_goto (tgt := 19) hx hb dX9_e_49 (by decide) ?_
            exact ih19 r_150 x151 x152 x153 x154 x155 x156 x157 x158 x159 z160 z161 z162 J163 L164 H149 _ _ (ob_462 f165 f166) (ob_463 f165 f166) (ob_81 im190) (ob_81 im189) (ob_464 im187 im188 f170) (ob_148 im3 im188) (ob_465 f168 f169) (ob_466 f168 f169) (ob_465 f168 f169) (ob_466 f168 f169) (ob_476 f147 im190 f165 f166 f168 f169 f171 f206) (ob_477 im190 f171 f206) (ob_478 f171 f207) (ob_108 g19_13 f170) im187 im188 im189 im190 im205 (fun a _ => f167 a) (fun a => (f167 a).2.2.2.2) hP hD hS (lv_sub hl [1, 0] rfl) (ob_479 g19_11 g19_12 hM19 f62 f69 f169 f170 f171 f206 f207)
  exact L19 (x7.toInt + 100 * (tk i_token.toInt) + 200 * i_size.toInt + -200 * i_end.toInt + -1000000 * (tk i_faultKind.toInt) + 1000000 + 1).toNat 1 i_faultKind i_at i_end i_token i_number i_codes 0 x7 i_unitsInRule f_code z8 z9 J L H5 _ _ (ob_14 zc_1) (ob_15 zc_1) (ob_480 im17 hp3) (ob_81 im16) (ob_147 im14 im15) (ob_148 im3 im15) (ob_481 f10 zc_0) (ob_482 f10 zc_0) (ob_481 f10 zc_0) (ob_482 f10 zc_0) (ob_483 hp1 hp2 f10 f47 zc_0 zc_1) (ob_484 im17 hp3 f48) (ob_485 f49) (ob_88) im14 im15 im16 im17 im32 (fun _ _ => SPstart f11 zc_0 zc_8 (ob_486 f10 zc_0) zc_0 (ob_487 hp1) zc_1) (fun _ k a b => by have := (ob_487 hp1); omega) hP hD hS (lv_sub hl [1, 0] rfl) (mlt (ob_488 im15 f10 f48 f49 zc_0))
