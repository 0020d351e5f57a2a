set_option maxHeartbeats 4000000 in
set_option maxRecDepth 100000 in
theorem kX9_alike (l : Launch) (dC : Nat → ClassId) (dI : Nat → Nat → Nat) (r : Nat → Nat) (ct : Nat → ClassId) (i_taped i_size i_faultKind i_at i_end i_token i_number i_bank i_rb i_codes i_within i_piled i_unitsInRule i_askHouse i_askTune i_acts i_undone i_laid i_knowns i_time : Int32) (f_text f_tunes f_houses f_hums f_told f_many f_ruleFrom f_ruleTo f_code f_eWhat f_eSign f_all f_kept f_was f_sTune f_boxAll : Nat → Int32) (J : Nat → Nat → Int32) (L : Nat → Nat → Int64) (p0 p1 : Int32) (sz : Nat) (hI : (IM i_taped i_size i_at i_end i_bank i_rb i_acts i_undone i_laid i_knowns i_time f_tunes f_houses f_hums f_told f_many f_ruleFrom f_ruleTo f_code f_all f_kept f_was f_sTune f_boxAll)) : Met l yX9_alike (.code yX9_alike cX9_alike 4 (some .int) :: GW) { frames := 8, cells := 0, slots := 0, locals := 286 } (va_Pc [.ref (r 0), .int p0, .int p1] (pR (dC, dI) (WM r ct i_taped i_size i_faultKind i_at i_end i_token i_number i_bank i_rb i_codes i_within i_piled i_unitsInRule i_askHouse i_askTune i_acts i_undone i_laid i_knowns i_time f_text f_tunes f_houses f_hums f_told f_many f_ruleFrom f_ruleTo f_code f_eWhat f_eSign f_all f_kept f_was f_sTune f_boxAll J L) (TM ct) sz)) (va_Qi (fun (r0 : Int32) (u : Int32) => r0 = u) (fun (u : Int32) (t : State) => True) (fun q => sz ≤ q)) 0 0 (fun q => sz ≤ q) := by
  refine Met.ofW (cc := cX9_alike) (maxL := 4) (ret := (some .int)) (by decide) rfl ?_
  intro p e s m args below meth c0 s₁ B hml hv
  obtain ⟨rfl, hsz, hP, hK⟩ := hv
  have hx := B.exec
  have hb := B.bytes
  have hr := B.returns
  have hts := atoms_spec (ws := .code yX9_alike cX9_alike 4 (some .int) :: GW) B.pre
  have hG : ∀ w ∈ GW, w.before _ s = true := fun w h => hts w (List.mem_cons_of_mem _ h)
  have hown : s.vm.findClass RX9 = some m.cls := findClass_of_methodNamed B.named
  subst hsz
  have hS : va_S (fun q => s.heap.size ≤ q) s.heap s.heap [] := va_S.rf
  have hP : va_P (dC, dI) vwCl (WM r ct i_taped i_size i_faultKind i_at i_end i_token i_number i_bank i_rb i_codes i_within i_piled i_unitsInRule i_askHouse i_askTune i_acts i_undone i_laid i_knowns i_time f_text f_tunes f_houses f_hums f_told f_many f_ruleFrom f_ruleTo f_code f_eWhat f_eSign f_all f_kept f_was f_sTune f_boxAll J L) s.heap := hP
  have hl := lv_entry ([.ref (r 0), .int p0, .int p1]) (n := 4) (Nat.le_of_ble_eq_true rfl)
  rw [lg_entry_eq]
  generalize (lg_sl ([.ref (r 0), .int p0, .int p1]) ++ List.replicate (4 - (lg_sl ([.ref (r 0), .int p0, .int p1])).length) Slot.unset).toArray = ls at hl ⊢
  have hl : lv_has ls 4 [(0, .ref (r 0)), (1, .int p0), (2, .int p1)] := hl
  refine nameQ (fun Q hQ => ?_)
  obtain ⟨im0, im1, im2, im3, im4, im5, im6, im7, im8, im9, im10, im11, im12, im13, im14, im15, im16, im17, im18, im19, im20, im21, im22, im23, im24, im25, im26, im27, im28, im29, im30⟩ := id hI
  have f1 : 0 ≤ (f_tunes (i_bank.toInt).toNat).toInt ∧ (f_tunes (i_bank.toInt).toNat).toInt ≤ 5 := im20 (i_bank.toInt)
  have f2 : 0 ≤ (f_houses (i_bank.toInt).toNat).toInt ∧ (f_houses (i_bank.toInt).toNat).toInt ≤ 4 := im21 (i_bank.toInt)
  refine lv_aload_n hx hb dX9_alike_0 rfl (lv_at hl 0 rfl) ?_
  refine lv_iload_n hx hb dX9_alike_1 rfl (lv_at hl 1 rfl) ?_
  refine va_calli (va_runV (As := [.int p0]) (rest := []) ⟨hx, hb, hml, hown, hG⟩ (kX9_isTune l dC dI r ct i_taped i_size i_faultKind i_at i_end i_token i_number i_bank i_rb i_codes i_within i_piled i_unitsInRule i_askHouse i_askTune i_acts i_undone i_laid i_knowns i_time f_text f_tunes f_houses f_hums f_told f_many f_ruleFrom f_ruleTo f_code f_eWhat f_eSign f_all f_kept f_was f_sTune f_boxAll J L p0 s.heap.size hI) (cwV 1 hG (goodV gw1508 gw1510 gw85 gw138 gw1511) rfl rfl rfl hd_X9_isTune ⟨(Nat.le_of_ble_eq_true rfl), (Nat.le_of_ble_eq_true rfl)⟩) ⟨fbR, va_recv hK hP (ci := 8) (q0 := 0) rfl rfl, pR_in hP hK⟩ rfl rfl hl.1 rfl (lv_room (Nat.le_of_ble_eq_true rfl)) dX9_alike_2 ⟨(Nat.le_of_ble_eq_true rfl), (Nat.le_of_ble_eq_true rfl)⟩) hS (fun q hq h => absurd hq (Nat.not_lt.mpr h)) (fun q h => Nat.le_trans hS.1 h) (fun r_4 u_ t_ H3 locs ht hvm hw hB hz1 hk1 hS => ?_)
  subst hw
  have hP := wk hP hk1
  obtain ⟨f5, f6, f7, f8, f9⟩ := hB
  refine lv_if_eq (tgt := 16) hx hb dX9_alike_5 (by decide) (fun c_10 => ?_) (fun c_10 => ?_)
  · skip
    have f11 : r_4.toInt = 0 := qi_eq c_10 rfl zc_0
    refine lv_iconst (v := (-1)) hx hb dX9_alike_16 (by decide) ?_
    rw [hQ]
    exact W.iret (v := (-1)) hx hb hr (fun t ht hW => ⟨⟨(-1), (-1), rfl, rfl, trivial⟩, hS.F ht⟩) hS.2.2 dX9_alike_17
  · skip
    have f12 : r_4.toInt ≠ 0 := qi_ne c_10 rfl zc_0
    have f13 : 1 ≤ r_4.toInt := (ob_399 f5 f12)
    have f14 : 0 ≤ p0.toInt := (ob_400 f5 f12)
    have f15 : p0.toInt + 1 ≤ (f_tunes (i_bank.toInt).toNat).toInt := (ob_401 f5 f12)
    have f16 : r_4.toInt = 1 := (ob_402 f7 f13)
    refine lv_aload_n hx hb dX9_alike_8 rfl (lv_at hl 0 rfl) ?_
    refine lv_iload_n hx hb dX9_alike_9 rfl (lv_at hl 2 rfl) ?_
    refine va_calli (va_runV (As := [.int p1]) (rest := []) ⟨hx, hb, hml, hown, hG⟩ (kX9_isTune l dC dI r ct i_taped i_size i_faultKind i_at i_end i_token i_number i_bank i_rb i_codes i_within i_piled i_unitsInRule i_askHouse i_askTune i_acts i_undone i_laid i_knowns i_time f_text f_tunes f_houses f_hums f_told f_many f_ruleFrom f_ruleTo f_code f_eWhat f_eSign f_all f_kept f_was f_sTune f_boxAll J L p1 H3.size hI) (cwV 1 hG (goodV gw1508 gw1510 gw85 gw138 gw1511) rfl rfl rfl hd_X9_isTune ⟨(Nat.le_of_ble_eq_true rfl), (Nat.le_of_ble_eq_true rfl)⟩) ⟨fbR, va_recv hK hP (ci := 8) (q0 := 0) rfl rfl, pR_in hP hK⟩ rfl rfl hl.1 rfl (lv_room (Nat.le_of_ble_eq_true rfl)) dX9_alike_10 ⟨(Nat.le_of_ble_eq_true rfl), (Nat.le_of_ble_eq_true rfl)⟩) hS (fun q hq h => absurd hq (Nat.not_lt.mpr h)) (fun q h => Nat.le_trans hS.1 h) (fun r_18 u_ t_ H17 locs ht hvm hw hB hz1 hk1 hS => ?_)
    subst hw
    have hP := wk hP hk1
    obtain ⟨f19, f20, f21, f22, f23⟩ := hB
    refine lv_if_ne (tgt := 18) hx hb dX9_alike_13 (by decide) (fun c_24 => ?_) (fun c_24 => ?_)
    · skip
      have f25 : r_18.toInt ≠ 0 := qi_ne c_24 rfl zc_0
      have f26 : 1 ≤ r_18.toInt := (ob_399 f19 f25)
      have f27 : 0 ≤ p1.toInt := (ob_400 f19 f25)
      have f28 : p1.toInt + 1 ≤ (f_tunes (i_bank.toInt).toNat).toInt := (ob_401 f19 f25)
      have f29 : r_18.toInt = 1 := (ob_402 f21 f26)
      refine lv_iconst (v := 0) hx hb dX9_alike_18 (by decide) ?_
      refine lv_istore_n (lv' := [(3, .int 0), (0, .ref (r 0)), (1, .int p0), (2, .int p1)]) hx hb dX9_alike_19 rfl hl (by decide) rfl (fun ls hl => ?_)
      have L20 : ∀ (N20 : Nat) (y20_3 : Int32) (H20 : Heap) (locs : List Loc) (ls : Array Slot) (g20_0 : 0 ≤ y20_3.toInt) (g20_1 : y20_3.toInt ≤ 8) (hP : va_P (dC, dI) vwCl (WM r ct i_taped i_size i_faultKind i_at i_end i_token i_number i_bank i_rb i_codes i_within i_piled i_unitsInRule i_askHouse i_askTune i_acts i_undone i_laid i_knowns i_time f_text f_tunes f_houses f_hums f_told f_many f_ruleFrom f_ruleTo f_code f_eWhat f_eSign f_all f_kept f_was f_sTune f_boxAll J L) H20) (hS : va_S (fun q => s.heap.size ≤ q) s.heap H20 locs) (hl : lv_has ls 4 [(0, .ref (r 0)), (1, .int p0), (2, .int p1), (3, .int y20_3)]) (hM : -1 * y20_3.toInt + 8 < (N20 : Int)), W p l e { frames := 8, cells := 0, slots := 0, locals := 286 } s m ([.ref (r 0), .int p0, .int p1] : List Value).toArray below meth c0 H20 locs 0 0 Q (F0 m 20 ls []) := by
        intro N20
        induction N20 with
        | zero =>
          intro y20_3 H20 locs ls g20_0 g20_1 hP hS hl hM
          exact ((ob_132 hM g20_0 g20_1)).elim
        | succ N20 ih20 =>
          intro y20_3 H20 locs ls g20_0 g20_1 hP hS hl hM
          have hM20 := msucc hM
          refine lv_iload_n hx hb dX9_alike_20 rfl (lv_at hl 3 rfl) ?_
          refine lv_aload_n hx hb dX9_alike_21 rfl (lv_at hl 0 rfl) ?_
          refine lv_iload_n hx hb dX9_alike_22 rfl (lv_at hl 1 rfl) ?_
          refine va_calli (va_runV (As := [.int p0]) (rest := [.int y20_3]) ⟨hx, hb, hml, hown, hG⟩ (kX9_leftOf l dC dI r ct i_taped i_size i_faultKind i_at i_end i_token i_number i_bank i_rb i_codes i_within i_piled i_unitsInRule i_askHouse i_askTune i_acts i_undone i_laid i_knowns i_time f_text f_tunes f_houses f_hums f_told f_many f_ruleFrom f_ruleTo f_code f_eWhat f_eSign f_all f_kept f_was f_sTune f_boxAll J L p0 H20.size hI (ob_108 f14 f15) (ob_368 f15)) (cwV 1 hG (goodV gw1523 gw1525 gw88 gw138 gw1526) rfl rfl rfl hd_X9_leftOf ⟨(Nat.le_of_ble_eq_true rfl), (Nat.le_of_ble_eq_true rfl)⟩) ⟨fbR, va_recv hK hP (ci := 8) (q0 := 0) rfl rfl, pR_in hP hK⟩ rfl rfl hl.1 rfl (lv_room (Nat.le_of_ble_eq_true rfl)) dX9_alike_23 ⟨(Nat.le_of_ble_eq_true rfl), (Nat.le_of_ble_eq_true rfl)⟩) hS (fun q hq h => absurd hq (Nat.not_lt.mpr h)) (fun q h => Nat.le_trans hS.1 h) (fun r_31 u_ t_ H30 locs ht hvm hw hB hz1 hk1 hS => ?_)
          subst hw
          have hP := wk hP hk1
          obtain ⟨f32, f33, f34, f35, f36, f37, f38⟩ := hB
          refine lv_icmp_ge (tgt := 75) hx hb dX9_alike_26 (by decide) (fun c_39 => ?_) (fun c_39 => ?_)
          · skip
            have f40 : r_31.toInt ≤ y20_3.toInt := qi_le c_39 rfl rfl
            refine lv_iload_n hx hb dX9_alike_75 rfl (lv_at hl 3 rfl) ?_
            rw [hQ]
            exact W.iret (v := y20_3) hx hb hr (fun t ht hW => ⟨⟨y20_3, y20_3, rfl, rfl, trivial⟩, hS.F ht⟩) hS.2.2 dX9_alike_76
          · skip
            have f41 : y20_3.toInt < r_31.toInt := qi_nle c_39 rfl rfl
            refine lv_iload_n hx hb dX9_alike_29 rfl (lv_at hl 3 rfl) ?_
            refine lv_aload_n hx hb dX9_alike_30 rfl (lv_at hl 0 rfl) ?_
            refine lv_iload_n hx hb dX9_alike_31 rfl (lv_at hl 2 rfl) ?_
            refine va_calli (va_runV (As := [.int p1]) (rest := [.int y20_3]) ⟨hx, hb, hml, hown, hG⟩ (kX9_leftOf l dC dI r ct i_taped i_size i_faultKind i_at i_end i_token i_number i_bank i_rb i_codes i_within i_piled i_unitsInRule i_askHouse i_askTune i_acts i_undone i_laid i_knowns i_time f_text f_tunes f_houses f_hums f_told f_many f_ruleFrom f_ruleTo f_code f_eWhat f_eSign f_all f_kept f_was f_sTune f_boxAll J L p1 H30.size hI (ob_108 f27 f28) (ob_368 f28)) (cwV 1 hG (goodV gw1523 gw1525 gw88 gw138 gw1526) rfl rfl rfl hd_X9_leftOf ⟨(Nat.le_of_ble_eq_true rfl), (Nat.le_of_ble_eq_true rfl)⟩) ⟨fbR, va_recv hK hP (ci := 8) (q0 := 0) rfl rfl, pR_in hP hK⟩ rfl rfl hl.1 rfl (lv_room (Nat.le_of_ble_eq_true rfl)) dX9_alike_32 ⟨(Nat.le_of_ble_eq_true rfl), (Nat.le_of_ble_eq_true rfl)⟩) hS (fun q hq h => absurd hq (Nat.not_lt.mpr h)) (fun q h => Nat.le_trans hS.1 h) (fun r_43 u_ t_ H42 locs ht hvm hw hB hz1 hk1 hS => ?_)
            subst hw
            have hP := wk hP hk1
            obtain ⟨f44, f45, f46, f47, f48, f49, f50⟩ := hB
            refine lv_icmp_ge (tgt := 75) hx hb dX9_alike_35 (by decide) (fun c_51 => ?_) (fun c_51 => ?_)
            · skip
              have f52 : r_43.toInt ≤ y20_3.toInt := qi_le c_51 rfl rfl
              refine lv_iload_n hx hb dX9_alike_75 rfl (lv_at hl 3 rfl) ?_
              rw [hQ]
              exact W.iret (v := y20_3) hx hb hr (fun t ht hW => ⟨⟨y20_3, y20_3, rfl, rfl, trivial⟩, hS.F ht⟩) hS.2.2 dX9_alike_76
            · skip
              have f53 : y20_3.toInt < r_43.toInt := qi_nle c_51 rfl rfl
              refine lv_aload_n hx hb dX9_alike_38 rfl (lv_at hl 0 rfl) ?_
              refine lv_iload_n hx hb dX9_alike_39 rfl (lv_at hl 1 rfl) ?_
              refine lv_aload_n hx hb dX9_alike_40 rfl (lv_at hl 0 rfl) ?_
              refine lv_iload_n hx hb dX9_alike_41 rfl (lv_at hl 1 rfl) ?_
              refine va_calli (va_runV (As := [.int p0]) (rest := [.int p0, .ref (r 0)]) ⟨hx, hb, hml, hown, hG⟩ (kX9_leftOf l dC dI r ct i_taped i_size i_faultKind i_at i_end i_token i_number i_bank i_rb i_codes i_within i_piled i_unitsInRule i_askHouse i_askTune i_acts i_undone i_laid i_knowns i_time f_text f_tunes f_houses f_hums f_told f_many f_ruleFrom f_ruleTo f_code f_eWhat f_eSign f_all f_kept f_was f_sTune f_boxAll J L p0 H42.size hI (ob_108 f14 f15) (ob_368 f15)) (cwV 1 hG (goodV gw1523 gw1525 gw88 gw138 gw1526) rfl rfl rfl hd_X9_leftOf ⟨(Nat.le_of_ble_eq_true rfl), (Nat.le_of_ble_eq_true rfl)⟩) ⟨fbR, va_recv hK hP (ci := 8) (q0 := 0) rfl rfl, pR_in hP hK⟩ rfl rfl hl.1 rfl (lv_room (Nat.le_of_ble_eq_true rfl)) dX9_alike_42 ⟨(Nat.le_of_ble_eq_true rfl), (Nat.le_of_ble_eq_true rfl)⟩) hS (fun q hq h => absurd hq (Nat.not_lt.mpr h)) (fun q h => Nat.le_trans hS.1 h) (fun r_55 u_ t_ H54 locs ht hvm hw hB hz1 hk1 hS => ?_)
              subst hw
              have hP := wk hP hk1
              obtain ⟨f56, f57, f58, f59, f60, f61, f62⟩ := hB
              refine lv_iconst (v := 1) hx hb dX9_alike_45 (by decide) ?_
              refine lv_isub hx hb dX9_alike_46 ?_
              refine lv_topi (fun x63 ex63 => ?_)
              have f64 : x63.toInt = r_55.toInt + (-1) := (ob_217 (qi_sub ex63 rfl zc_1 (ob_409 f60 f61) (ob_410 f60 f61)))
              refine lv_iload_n hx hb dX9_alike_47 rfl (lv_at hl 3 rfl) ?_
              refine lv_isub hx hb dX9_alike_48 ?_
              refine lv_topi (fun x65 ex65 => ?_)
              have f66 : x65.toInt = r_55.toInt + -1 * y20_3.toInt + (-1) := (ob_431 (qi_sub ex65 rfl rfl (ob_429 g20_1 f60 f64) (ob_430 g20_0 f61 f64)) f64)
              refine va_calli (va_runV (As := [.int p0, .int x65]) (rest := []) ⟨hx, hb, hml, hown, hG⟩ (kX9_noteOf l dC dI r ct i_taped i_size i_faultKind i_at i_end i_token i_number i_bank i_rb i_codes i_within i_piled i_unitsInRule i_askHouse i_askTune i_acts i_undone i_laid i_knowns i_time f_text f_tunes f_houses f_hums f_told f_many f_ruleFrom f_ruleTo f_code f_eWhat f_eSign f_all f_kept f_was f_sTune f_boxAll J L p0 x65 H54.size hI (ob_108 f14 f15) (ob_368 f15) (ob_432 f38 f41 f60 f62 f66) (ob_433 g20_0 f62 f66)) (cwV 2 hG (goodV gw1534 gw1536 gw89 gw138 gw1537) rfl rfl rfl hd_X9_noteOf ⟨(Nat.le_of_ble_eq_true rfl), (Nat.le_of_ble_eq_true rfl)⟩) ⟨fbR, va_recv hK hP (ci := 8) (q0 := 0) rfl rfl, pR_in hP hK⟩ rfl rfl hl.1 rfl (lv_room (Nat.le_of_ble_eq_true rfl)) dX9_alike_49 ⟨(Nat.le_of_ble_eq_true rfl), (Nat.le_of_ble_eq_true rfl)⟩) hS (fun q hq h => absurd hq (Nat.not_lt.mpr h)) (fun q h => Nat.le_trans hS.1 h) (fun r_68 u_ t_ H67 locs ht hvm hw hB hz1 hk1 hS => ?_)
              subst hw
              have hP := wk hP hk1
              refine lv_aload_n hx hb dX9_alike_52 rfl (lv_at hl 0 rfl) ?_
              refine lv_iload_n hx hb dX9_alike_53 rfl (lv_at hl 2 rfl) ?_
              refine lv_aload_n hx hb dX9_alike_54 rfl (lv_at hl 0 rfl) ?_
              refine lv_iload_n hx hb dX9_alike_55 rfl (lv_at hl 2 rfl) ?_
              refine va_calli (va_runV (As := [.int p1]) (rest := [.int p1, .ref (r 0), .int r_68]) ⟨hx, hb, hml, hown, hG⟩ (kX9_leftOf l dC dI r ct i_taped i_size i_faultKind i_at i_end i_token i_number i_bank i_rb i_codes i_within i_piled i_unitsInRule i_askHouse i_askTune i_acts i_undone i_laid i_knowns i_time f_text f_tunes f_houses f_hums f_told f_many f_ruleFrom f_ruleTo f_code f_eWhat f_eSign f_all f_kept f_was f_sTune f_boxAll J L p1 H67.size hI (ob_108 f27 f28) (ob_368 f28)) (cwV 1 hG (goodV gw1523 gw1525 gw88 gw138 gw1526) rfl rfl rfl hd_X9_leftOf ⟨(Nat.le_of_ble_eq_true rfl), (Nat.le_of_ble_eq_true rfl)⟩) ⟨fbR, va_recv hK hP (ci := 8) (q0 := 0) rfl rfl, pR_in hP hK⟩ rfl rfl hl.1 rfl (lv_room (Nat.le_of_ble_eq_true rfl)) dX9_alike_56 ⟨(Nat.le_of_ble_eq_true rfl), (Nat.le_of_ble_eq_true rfl)⟩) hS (fun q hq h => absurd hq (Nat.not_lt.mpr h)) (fun q h => Nat.le_trans hS.1 h) (fun r_70 u_ t_ H69 locs ht hvm hw hB hz1 hk1 hS => ?_)
              subst hw
              have hP := wk hP hk1
              obtain ⟨f71, f72, f73, f74, f75, f76, f77⟩ := hB
              refine lv_iconst (v := 1) hx hb dX9_alike_59 (by decide) ?_
              refine lv_isub hx hb dX9_alike_60 ?_
              refine lv_topi (fun x78 ex78 => ?_)
              have f79 : x78.toInt = r_70.toInt + (-1) := (ob_217 (qi_sub ex78 rfl zc_1 (ob_409 f75 f76) (ob_410 f75 f76)))
              refine lv_iload_n hx hb dX9_alike_61 rfl (lv_at hl 3 rfl) ?_
              refine lv_isub hx hb dX9_alike_62 ?_
              refine lv_topi (fun x80 ex80 => ?_)
              have f81 : x80.toInt = r_70.toInt + -1 * y20_3.toInt + (-1) := (ob_431 (qi_sub ex80 rfl rfl (ob_429 g20_1 f75 f79) (ob_430 g20_0 f76 f79)) f79)
              refine va_calli (va_runV (As := [.int p1, .int x80]) (rest := [.int r_68]) ⟨hx, hb, hml, hown, hG⟩ (kX9_noteOf l dC dI r ct i_taped i_size i_faultKind i_at i_end i_token i_number i_bank i_rb i_codes i_within i_piled i_unitsInRule i_askHouse i_askTune i_acts i_undone i_laid i_knowns i_time f_text f_tunes f_houses f_hums f_told f_many f_ruleFrom f_ruleTo f_code f_eWhat f_eSign f_all f_kept f_was f_sTune f_boxAll J L p1 x80 H69.size hI (ob_108 f27 f28) (ob_368 f28) (ob_432 f50 f53 f75 f77 f81) (ob_433 g20_0 f77 f81)) (cwV 2 hG (goodV gw1534 gw1536 gw89 gw138 gw1537) rfl rfl rfl hd_X9_noteOf ⟨(Nat.le_of_ble_eq_true rfl), (Nat.le_of_ble_eq_true rfl)⟩) ⟨fbR, va_recv hK hP (ci := 8) (q0 := 0) rfl rfl, pR_in hP hK⟩ rfl rfl hl.1 rfl (lv_room (Nat.le_of_ble_eq_true rfl)) dX9_alike_63 ⟨(Nat.le_of_ble_eq_true rfl), (Nat.le_of_ble_eq_true rfl)⟩) hS (fun q hq h => absurd hq (Nat.not_lt.mpr h)) (fun q h => Nat.le_trans hS.1 h) (fun r_83 u_ t_ H82 locs ht hvm hw hB hz1 hk1 hS => ?_)
              subst hw
              have hP := wk hP hk1
              refine lv_icmp_ne (tgt := 75) hx hb dX9_alike_66 (by decide) (fun c_84 => ?_) (fun c_84 => ?_)
              · skip
                have f85 : r_68.toInt ≠ r_83.toInt := qi_ne c_84 rfl rfl
                refine lv_iload_n hx hb dX9_alike_75 rfl (lv_at hl 3 rfl) ?_
                rw [hQ]
                exact W.iret (v := y20_3) hx hb hr (fun t ht hW => ⟨⟨y20_3, y20_3, rfl, rfl, trivial⟩, hS.F ht⟩) hS.2.2 dX9_alike_76
              · skip
                have f86 : r_68.toInt = r_83.toInt := qi_eq c_84 rfl rfl
                obtain ⟨x87, ex87⟩ : ∃ y : Int32, y = y20_3 + Int32.ofInt 1 := ⟨_, rfl⟩
                have f88 : x87.toInt = y20_3.toInt + 1 := (ob_139 (qi_add ex87 rfl (by decide) (ob_137 g20_0) (ob_138 g20_1)))
                refine lv_iinc (v := x87) (lv' := [(3, .int x87), (0, .ref (r 0)), (1, .int p0), (2, .int p1)]) hx hb dX9_alike_69 hl (k := 3) rfl ex87.symm (by decide) rfl (fun ls hl => ?_)
                refine lv_goto (tgt := 20) hx hb dX9_alike_72 (by decide) ?_
                exact ih20 x87 H82 _ _ (ob_140 g20_0 f88) (ob_141 f37 f41 f88) hP hS (lv_sub hl [1, 2, 3, 0] rfl) (ob_142 hM20 f88)
      exact L20 (-1 * (0 : Int32).toInt + 8 + 1).toNat 0 H17 _ _ (ob_5 zc_0) (ob_146 zc_0) hP hS (lv_sub hl [1, 2, 3, 0] rfl) (mlt (ob_147 zc_0))
    · skip
      have f89 : r_18.toInt = 0 := qi_eq c_24 rfl zc_0
      refine lv_iconst (v := (-1)) hx hb dX9_alike_16 (by decide) ?_
      rw [hQ]
      exact W.iret (v := (-1)) hx hb hr (fun t ht hW => ⟨⟨(-1), (-1), rfl, rfl, trivial⟩, hS.F ht⟩) hS.2.2 dX9_alike_17
set_option maxHeartbeats 4000000 in
set_option maxRecDepth 100000 in
theorem kX9_spinsters (l : Launch) (dC : Nat → ClassId) (dI : Nat → Nat → Nat) (r : Nat → Nat) (ct : Nat → ClassId) (i_taped i_size i_faultKind i_at i_end i_token i_number i_bank i_rb i_codes i_within i_piled i_unitsInRule i_askHouse i_askTune i_acts i_undone i_laid i_knowns i_time : Int32) (f_text f_tunes f_houses f_hums f_told f_many f_ruleFrom f_ruleTo f_code f_eWhat f_eSign f_all f_kept f_was f_sTune f_boxAll : Nat → Int32) (J : Nat → Nat → Int32) (L : Nat → Nat → Int64) (sz : Nat) (hI : (IM i_taped i_size i_at i_end i_bank i_rb i_acts i_undone i_laid i_knowns i_time f_tunes f_houses f_hums f_told f_many f_ruleFrom f_ruleTo f_code f_all f_kept f_was f_sTune f_boxAll)) : Met l yX9_spinsters (.code yX9_spinsters cX9_spinsters 3 (some .int) :: GW) { frames := 24, cells := 0, slots := 0, locals := 792 } (va_Pc [.ref (r 0)] (pW (dC, dI) (WM r ct i_taped i_size i_faultKind i_at i_end i_token i_number i_bank i_rb i_codes i_within i_piled i_unitsInRule i_askHouse i_askTune i_acts i_undone i_laid i_knowns i_time f_text f_tunes f_houses f_hums f_told f_many f_ruleFrom f_ruleTo f_code f_eWhat f_eSign f_all f_kept f_was f_sTune f_boxAll J L) (TM ct) sz)) (va_Qi (fun (r0 : Int32) (u : Int32) => r0 = u) (fun (u : Int32) (t : State) => ∃ (n_i_askHouse n_i_askTune : Int32) (n_J : Nat → Nat → Int32), va_P (dC, dI) vwCl (WM r ct i_taped i_size i_faultKind i_at i_end i_token i_number i_bank i_rb i_codes i_within i_piled i_unitsInRule n_i_askHouse n_i_askTune i_acts i_undone i_laid i_knowns i_time f_text f_tunes f_houses f_hums f_told f_many f_ruleFrom f_ruleTo f_code f_eWhat f_eSign f_all f_kept f_was f_sTune f_boxAll n_J L) t.heap ∧ va_D (va_A (WM r ct i_taped i_size i_faultKind i_at i_end i_token i_number i_bank i_rb i_codes i_within i_piled i_unitsInRule i_askHouse i_askTune i_acts i_undone i_laid i_knowns i_time f_text f_tunes f_houses f_hums f_told f_many f_ruleFrom f_ruleTo f_code f_eWhat f_eSign f_all f_kept f_was f_sTune f_boxAll J L) sz) (WM r ct i_taped i_size i_faultKind i_at i_end i_token i_number i_bank i_rb i_codes i_within i_piled i_unitsInRule n_i_askHouse n_i_askTune i_acts i_undone i_laid i_knowns i_time f_text f_tunes f_houses f_hums f_told f_many f_ruleFrom f_ruleTo f_code f_eWhat f_eSign f_all f_kept f_was f_sTune f_boxAll n_J L) ∧ (IM i_taped i_size i_at i_end i_bank i_rb i_acts i_undone i_laid i_knowns i_time f_tunes f_houses f_hums f_told f_many f_ruleFrom f_ruleTo f_code f_all f_kept f_was f_sTune f_boxAll)) (va_A (WM r ct i_taped i_size i_faultKind i_at i_end i_token i_number i_bank i_rb i_codes i_within i_piled i_unitsInRule i_askHouse i_askTune i_acts i_undone i_laid i_knowns i_time f_text f_tunes f_houses f_hums f_told f_many f_ruleFrom f_ruleTo f_code f_eWhat f_eSign f_all f_kept f_was f_sTune f_boxAll J L) sz)) 0 0 (va_A (WM r ct i_taped i_size i_faultKind i_at i_end i_token i_number i_bank i_rb i_codes i_within i_piled i_unitsInRule i_askHouse i_askTune i_acts i_undone i_laid i_knowns i_time f_text f_tunes f_houses f_hums f_told f_many f_ruleFrom f_ruleTo f_code f_eWhat f_eSign f_all f_kept f_was f_sTune f_boxAll J L) sz) := by
  refine Met.ofW (cc := cX9_spinsters) (maxL := 3) (ret := (some .int)) (by decide) rfl ?_
  intro p e s m args below meth c0 s₁ B hml hv
  obtain ⟨rfl, hsz, hP, hK, hD0⟩ := hv
  have hx := B.exec
  have hb := B.bytes
  have hr := B.returns
  have hts := atoms_spec (ws := .code yX9_spinsters cX9_spinsters 3 (some .int) :: GW) B.pre
  have hG : ∀ w ∈ GW, w.before _ s = true := fun w h => hts w (List.mem_cons_of_mem _ h)
  have hown : s.vm.findClass RX9 = some m.cls := findClass_of_methodNamed B.named
  subst hsz
  have hD := hD0.self (sz := s.heap.size)
  generalize hAe : va_A (WM r ct i_taped i_size i_faultKind i_at i_end i_token i_number i_bank i_rb i_codes i_within i_piled i_unitsInRule i_askHouse i_askTune i_acts i_undone i_laid i_knowns i_time f_text f_tunes f_houses f_hums f_told f_many f_ruleFrom f_ruleTo f_code f_eWhat f_eSign f_all f_kept f_was f_sTune f_boxAll J L) s.heap.size = A at hD ⊢
  have hA : ∀ q : Nat, s.heap.size ≤ q → A q := fun q h => by rw [← hAe]; exact Or.inr h
  have hS : va_S A s.heap s.heap [] := va_S.rf
  have hP : va_P (dC, dI) vwCl (WM r ct i_taped i_size i_faultKind i_at i_end i_token i_number i_bank i_rb i_codes i_within i_piled i_unitsInRule i_askHouse i_askTune i_acts i_undone i_laid i_knowns i_time f_text f_tunes f_houses f_hums f_told f_many f_ruleFrom f_ruleTo f_code f_eWhat f_eSign f_all f_kept f_was f_sTune f_boxAll J L) s.heap := hP
  have hl := lv_entry ([.ref (r 0)]) (n := 3) (Nat.le_of_ble_eq_true rfl)
  rw [lg_entry_eq]
  generalize (lg_sl ([.ref (r 0)]) ++ List.replicate (3 - (lg_sl ([.ref (r 0)])).length) Slot.unset).toArray = ls at hl ⊢
  have hl : lv_has ls 3 [(0, .ref (r 0))] := hl
  refine nameQ (fun Q hQ => ?_)
  obtain ⟨im0, im1, im2, im3, im4, im5, im6, im7, im8, im9, im10, im11, im12, im13, im14, im15, im16, im17, im18, im19, im20, im21, im22, im23, im24, im25, im26, im27, im28, im29, im30⟩ := id hI
  have f1 : 0 ≤ (f_tunes (i_bank.toInt).toNat).toInt ∧ (f_tunes (i_bank.toInt).toNat).toInt ≤ 5 := im20 (i_bank.toInt)
  have f2 : 0 ≤ (f_houses (i_bank.toInt).toNat).toInt ∧ (f_houses (i_bank.toInt).toNat).toInt ≤ 4 := im21 (i_bank.toInt)
  refine lv_iconst (v := 0) hx hb dX9_spinsters_0 (by decide) ?_
  refine lv_istore_n (lv' := [(1, .int 0), (0, .ref (r 0))]) hx hb dX9_spinsters_1 rfl hl (by decide) rfl (fun ls hl => ?_)
  refine lv_iconst (v := 0) hx hb dX9_spinsters_2 (by decide) ?_
  refine lv_istore_n (lv' := [(2, .int 0), (1, .int 0), (0, .ref (r 0))]) hx hb dX9_spinsters_3 rfl hl (by decide) rfl (fun ls hl => ?_)
  have L4 : ∀ (N4 : Nat) (y4_1 y4_2 : Int32) (m4_i_askHouse m4_i_askTune : Int32) (m4_J : Nat → Nat → Int32) (H4 : Heap) (locs : List Loc) (ls : Array Slot) (g4_0 : 0 ≤ y4_2.toInt) (g4_1 : y4_2.toInt ≤ 5) (hP : va_P (dC, dI) vwCl (WM r ct i_taped i_size i_faultKind i_at i_end i_token i_number i_bank i_rb i_codes i_within i_piled i_unitsInRule m4_i_askHouse m4_i_askTune i_acts i_undone i_laid i_knowns i_time f_text f_tunes f_houses f_hums f_told f_many f_ruleFrom f_ruleTo f_code f_eWhat f_eSign f_all f_kept f_was f_sTune f_boxAll m4_J L) H4) (hD : va_D A (WM r ct i_taped i_size i_faultKind i_at i_end i_token i_number i_bank i_rb i_codes i_within i_piled i_unitsInRule m4_i_askHouse m4_i_askTune i_acts i_undone i_laid i_knowns i_time f_text f_tunes f_houses f_hums f_told f_many f_ruleFrom f_ruleTo f_code f_eWhat f_eSign f_all f_kept f_was f_sTune f_boxAll m4_J L)) (hS : va_S A s.heap H4 locs) (hl : lv_has ls 3 [(0, .ref (r 0)), (1, .int y4_1), (2, .int y4_2)]) (hM : -1 * y4_2.toInt + 5 < (N4 : Int)), W p l e { frames := 24, cells := 0, slots := 0, locals := 792 } s m ([.ref (r 0)] : List Value).toArray below meth c0 H4 locs 0 0 Q (F0 m 4 ls []) := by
    intro N4
    induction N4 with
    | zero =>
      intro y4_1 y4_2 m4_i_askHouse m4_i_askTune m4_J H4 locs ls g4_0 g4_1 hP hD hS hl hM
      exact ((ob_292 hM g4_0 g4_1)).elim
    | succ N4 ih4 =>
      intro y4_1 y4_2 m4_i_askHouse m4_i_askTune m4_J H4 locs ls g4_0 g4_1 hP hD hS hl hM
      have hM4 := msucc hM
      refine lv_iload_n hx hb dX9_spinsters_4 rfl (lv_at hl 2 rfl) ?_
      refine lv_aload_n hx hb dX9_spinsters_5 rfl (lv_at hl 0 rfl) ?_
      refine va_calli (va_runV (As := []) (rest := [.int y4_2]) ⟨hx, hb, hml, hown, hG⟩ (kX9_songs l dC dI r ct i_taped i_size i_faultKind i_at i_end i_token i_number i_bank i_rb i_codes i_within i_piled i_unitsInRule m4_i_askHouse m4_i_askTune i_acts i_undone i_laid i_knowns i_time f_text f_tunes f_houses f_hums f_told f_many f_ruleFrom f_ruleTo f_code f_eWhat f_eSign f_all f_kept f_was f_sTune f_boxAll m4_J L H4.size hI) (cwV 0 hG (goodV gw1512 gw1514 gw86 gw138 gw1515) rfl rfl rfl hd_X9_songs ⟨(Nat.le_of_ble_eq_true rfl), (Nat.le_of_ble_eq_true rfl)⟩) ⟨fbR, va_recv hK hP (ci := 8) (q0 := 0) rfl rfl, pR_in hP hK⟩ rfl rfl hl.1 rfl (lv_room (Nat.le_of_ble_eq_true rfl)) dX9_spinsters_6 ⟨(Nat.le_of_ble_eq_true rfl), (Nat.le_of_ble_eq_true rfl)⟩) hS (fun q hq h => absurd hq (Nat.not_lt.mpr h)) (fun q h => hA q (Nat.le_trans hS.1 h)) (fun r_4 u_ t_ H3 locs ht hvm hw hB hz1 hk1 hS => ?_)
      subst hw
      have hP := wk hP hk1
      have f5 := hB
      have f6 : r_4.toInt = (f_tunes (i_bank.toInt).toNat).toInt := (ob_278 f5)
      refine lv_icmp_ge (tgt := 32) hx hb dX9_spinsters_9 (by decide) (fun c_7 => ?_) (fun c_7 => ?_)
      · skip
        have f8 : r_4.toInt ≤ y4_2.toInt := qi_le c_7 rfl rfl
        refine lv_iload_n hx hb dX9_spinsters_32 rfl (lv_at hl 1 rfl) ?_
        rw [hQ]
        exact W.iret (v := y4_1) hx hb hr (fun t ht hW => ⟨⟨y4_1, y4_1, rfl, rfl, ⟨m4_i_askHouse, m4_i_askTune, m4_J, by rw [ht]; exact hP, hD, hI⟩⟩, hS.F ht⟩) hS.2.2 dX9_spinsters_33
      · skip
        have f9 : y4_2.toInt < r_4.toInt := qi_nle c_7 rfl rfl
        refine lv_aload_n hx hb dX9_spinsters_12 rfl (lv_at hl 0 rfl) ?_
        refine lv_iload_n hx hb dX9_spinsters_13 rfl (lv_at hl 2 rfl) ?_
        have hFc := frA hD hS hA
        refine va_calli (va_runV (As := [.int y4_2]) (rest := []) ⟨hx, hb, hml, hown, hG⟩ (kX9_takers l dC dI r ct i_taped i_size i_faultKind i_at i_end i_token i_number i_bank i_rb i_codes i_within i_piled i_unitsInRule m4_i_askHouse m4_i_askTune i_acts i_undone i_laid i_knowns i_time f_text f_tunes f_houses f_hums f_told f_many f_ruleFrom f_ruleTo f_code f_eWhat f_eSign f_all f_kept f_was f_sTune f_boxAll m4_J L y4_2 H3.size hI (ob_133 g4_0) (ob_361 f9 f6)) (cwV 1 hG (goodV gw1644 gw1646 gw105 gw138 gw1647) rfl rfl rfl hd_X9_takers ⟨(Nat.le_of_ble_eq_true rfl), (Nat.le_of_ble_eq_true rfl)⟩) ⟨fbW, va_recv hK hP (ci := 8) (q0 := 0) rfl rfl, pW_in hP hK hD⟩ rfl rfl hl.1 rfl (lv_room (Nat.le_of_ble_eq_true rfl)) dX9_spinsters_14 ⟨(Nat.le_of_ble_eq_true rfl), (Nat.le_of_ble_eq_true rfl)⟩) hS (fun q _ h => hFc q h) hFc (fun r_11 u_ t_ H10 locs ht hvm hw hB hz1 hk1 hS => ?_)
        subst hw
        obtain ⟨x12, x13, J14, hP1, hD1, hI15⟩ := hB
        rw [ht] at hP1
        have hP := hP1
        have hD := dW hFc hD1
        obtain ⟨im16, im17, im18, im19, im20, im21, im22, im23, im24, im25, im26, im27, im28, im29, im30, im31, im32, im33, im34, im35, im36, im37, im38, im39, im40, im41, im42, im43, im44, im45, im46⟩ := id hI15
        refine lv_if_ne (tgt := 26) hx hb dX9_spinsters_17 (by decide) (fun c_47 => ?_) (fun c_47 => ?_)
        · skip
          have f48 : r_11.toInt ≠ 0 := qi_ne c_47 rfl zc_0
          obtain ⟨x49, ex49⟩ : ∃ y : Int32, y = y4_2 + Int32.ofInt 1 := ⟨_, rfl⟩
          have f50 : x49.toInt = y4_2.toInt + 1 := (ob_139 (qi_add ex49 rfl (by decide) (ob_137 g4_0) (ob_314 g4_1)))
          refine lv_iinc (v := x49) (lv' := [(2, .int x49), (0, .ref (r 0)), (1, .int y4_1)]) hx hb dX9_spinsters_26 hl (k := 2) rfl ex49.symm (by decide) rfl (fun ls hl => ?_)
          refine lv_goto (tgt := 4) hx hb dX9_spinsters_29 (by decide) ?_
          exact ih4 y4_1 x49 x12 x13 J14 H10 _ _ (ob_140 g4_0 f50) (ob_354 f1 f9 f6 f50) hP hD hS (lv_sub hl [1, 2, 0] rfl) (ob_316 hM4 f50)
        · skip
          have f51 : r_11.toInt = 0 := qi_eq c_47 rfl zc_0
          refine lv_iload_n hx hb dX9_spinsters_20 rfl (lv_at hl 1 rfl) ?_
          refine lv_iconst (v := 1) hx hb dX9_spinsters_21 (by decide) ?_
          refine lv_iload_n hx hb dX9_spinsters_22 rfl (lv_at hl 2 rfl) ?_
          refine lv_ishl hx hb dX9_spinsters_23 ?_
          refine lv_topi (fun x52 ex52 => ?_)
          refine lv_ior hx hb dX9_spinsters_24 ?_
          refine lv_topi (fun x53 ex53 => ?_)
          refine lv_istore_n (lv' := [(1, .int x53), (0, .ref (r 0)), (2, .int y4_2)]) hx hb dX9_spinsters_25 rfl hl (by decide) rfl (fun ls hl => ?_)
          obtain ⟨x54, ex54⟩ : ∃ y : Int32, y = y4_2 + Int32.ofInt 1 := ⟨_, rfl⟩
          have f55 : x54.toInt = y4_2.toInt + 1 := (ob_139 (qi_add ex54 rfl (by decide) (ob_137 g4_0) (ob_314 g4_1)))
          refine lv_iinc (v := x54) (lv' := [(2, .int x54), (1, .int x53), (0, .ref (r 0))]) hx hb dX9_spinsters_26 hl (k := 2) rfl ex54.symm (by decide) rfl (fun ls hl => ?_)
          refine lv_goto (tgt := 4) hx hb dX9_spinsters_29 (by decide) ?_
          exact ih4 x53 x54 x12 x13 J14 H10 _ _ (ob_140 g4_0 f55) (ob_354 f1 f9 f6 f55) hP hD hS (lv_sub hl [2, 1, 0] rfl) (ob_316 hM4 f55)
  exact L4 (-1 * (0 : Int32).toInt + 5 + 1).toNat 0 0 i_askHouse i_askTune J s.heap _ _ (ob_5 zc_0) (ob_317 zc_0) hP hD hS (lv_sub hl [2, 1, 0] rfl) (mlt (ob_318 zc_0))
set_option maxHeartbeats 4000000 in
set_option maxRecDepth 100000 in
theorem kX9_favourite (l : Launch) (dC : Nat → ClassId) (dI : Nat → Nat → Nat) (r : Nat → Nat) (ct : Nat → ClassId) (i_taped i_size i_faultKind i_at i_end i_token i_number i_bank i_rb i_codes i_within i_piled i_unitsInRule i_askHouse i_askTune i_acts i_undone i_laid i_knowns i_time : Int32) (f_text f_tunes f_houses f_hums f_told f_many f_ruleFrom f_ruleTo f_code f_eWhat f_eSign f_all f_kept f_was f_sTune f_boxAll : Nat → Int32) (J : Nat → Nat → Int32) (L : Nat → Nat → Int64) (sz : Nat) (hI : (IM i_taped i_size i_at i_end i_bank i_rb i_acts i_undone i_laid i_knowns i_time f_tunes f_houses f_hums f_told f_many f_ruleFrom f_ruleTo f_code f_all f_kept f_was f_sTune f_boxAll)) : Met l yX9_favourite (.code yX9_favourite cX9_favourite 3 (some .int) :: GW) { frames := 24, cells := 0, slots := 0, locals := 792 } (va_Pc [.ref (r 0)] (pW (dC, dI) (WM r ct i_taped i_size i_faultKind i_at i_end i_token i_number i_bank i_rb i_codes i_within i_piled i_unitsInRule i_askHouse i_askTune i_acts i_undone i_laid i_knowns i_time f_text f_tunes f_houses f_hums f_told f_many f_ruleFrom f_ruleTo f_code f_eWhat f_eSign f_all f_kept f_was f_sTune f_boxAll J L) (TM ct) sz)) (va_Qi (fun (r0 : Int32) (u : Int32) => r0 = u) (fun (u : Int32) (t : State) => ∃ (n_i_askHouse n_i_askTune : Int32) (n_J : Nat → Nat → Int32), va_P (dC, dI) vwCl (WM r ct i_taped i_size i_faultKind i_at i_end i_token i_number i_bank i_rb i_codes i_within i_piled i_unitsInRule n_i_askHouse n_i_askTune i_acts i_undone i_laid i_knowns i_time f_text f_tunes f_houses f_hums f_told f_many f_ruleFrom f_ruleTo f_code f_eWhat f_eSign f_all f_kept f_was f_sTune f_boxAll n_J L) t.heap ∧ va_D (va_A (WM r ct i_taped i_size i_faultKind i_at i_end i_token i_number i_bank i_rb i_codes i_within i_piled i_unitsInRule i_askHouse i_askTune i_acts i_undone i_laid i_knowns i_time f_text f_tunes f_houses f_hums f_told f_many f_ruleFrom f_ruleTo f_code f_eWhat f_eSign f_all f_kept f_was f_sTune f_boxAll J L) sz) (WM r ct i_taped i_size i_faultKind i_at i_end i_token i_number i_bank i_rb i_codes i_within i_piled i_unitsInRule n_i_askHouse n_i_askTune i_acts i_undone i_laid i_knowns i_time f_text f_tunes f_houses f_hums f_told f_many f_ruleFrom f_ruleTo f_code f_eWhat f_eSign f_all f_kept f_was f_sTune f_boxAll n_J L) ∧ (IM i_taped i_size i_at i_end i_bank i_rb i_acts i_undone i_laid i_knowns i_time f_tunes f_houses f_hums f_told f_many f_ruleFrom f_ruleTo f_code f_all f_kept f_was f_sTune f_boxAll)) (va_A (WM r ct i_taped i_size i_faultKind i_at i_end i_token i_number i_bank i_rb i_codes i_within i_piled i_unitsInRule i_askHouse i_askTune i_acts i_undone i_laid i_knowns i_time f_text f_tunes f_houses f_hums f_told f_many f_ruleFrom f_ruleTo f_code f_eWhat f_eSign f_all f_kept f_was f_sTune f_boxAll J L) sz)) 0 0 (va_A (WM r ct i_taped i_size i_faultKind i_at i_end i_token i_number i_bank i_rb i_codes i_within i_piled i_unitsInRule i_askHouse i_askTune i_acts i_undone i_laid i_knowns i_time f_text f_tunes f_houses f_hums f_told f_many f_ruleFrom f_ruleTo f_code f_eWhat f_eSign f_all f_kept f_was f_sTune f_boxAll J L) sz) := by
  refine Met.ofW (cc := cX9_favourite) (maxL := 3) (ret := (some .int)) (by decide) rfl ?_
  intro p e s m args below meth c0 s₁ B hml hv
  obtain ⟨rfl, hsz, hP, hK, hD0⟩ := hv
  have hx := B.exec
  have hb := B.bytes
  have hr := B.returns
  have hts := atoms_spec (ws := .code yX9_favourite cX9_favourite 3 (some .int) :: GW) B.pre
  have hG : ∀ w ∈ GW, w.before _ s = true := fun w h => hts w (List.mem_cons_of_mem _ h)
  have hown : s.vm.findClass RX9 = some m.cls := findClass_of_methodNamed B.named
  subst hsz
  have hD := hD0.self (sz := s.heap.size)
  generalize hAe : va_A (WM r ct i_taped i_size i_faultKind i_at i_end i_token i_number i_bank i_rb i_codes i_within i_piled i_unitsInRule i_askHouse i_askTune i_acts i_undone i_laid i_knowns i_time f_text f_tunes f_houses f_hums f_told f_many f_ruleFrom f_ruleTo f_code f_eWhat f_eSign f_all f_kept f_was f_sTune f_boxAll J L) s.heap.size = A at hD ⊢
  have hA : ∀ q : Nat, s.heap.size ≤ q → A q := fun q h => by rw [← hAe]; exact Or.inr h
  have hS : va_S A s.heap s.heap [] := va_S.rf
  have hP : va_P (dC, dI) vwCl (WM r ct i_taped i_size i_faultKind i_at i_end i_token i_number i_bank i_rb i_codes i_within i_piled i_unitsInRule i_askHouse i_askTune i_acts i_undone i_laid i_knowns i_time f_text f_tunes f_houses f_hums f_told f_many f_ruleFrom f_ruleTo f_code f_eWhat f_eSign f_all f_kept f_was f_sTune f_boxAll J L) s.heap := hP
  have hl := lv_entry ([.ref (r 0)]) (n := 3) (Nat.le_of_ble_eq_true rfl)
  rw [lg_entry_eq]
  generalize (lg_sl ([.ref (r 0)]) ++ List.replicate (3 - (lg_sl ([.ref (r 0)])).length) Slot.unset).toArray = ls at hl ⊢
  have hl : lv_has ls 3 [(0, .ref (r 0))] := hl
  refine nameQ (fun Q hQ => ?_)
  obtain ⟨im0, im1, im2, im3, im4, im5, im6, im7, im8, im9, im10, im11, im12, im13, im14, im15, im16, im17, im18, im19, im20, im21, im22, im23, im24, im25, im26, im27, im28, im29, im30⟩ := id hI
  have f1 : 0 ≤ (f_tunes (i_bank.toInt).toNat).toInt ∧ (f_tunes (i_bank.toInt).toNat).toInt ≤ 5 := im20 (i_bank.toInt)
  have f2 : 0 ≤ (f_houses (i_bank.toInt).toNat).toInt ∧ (f_houses (i_bank.toInt).toNat).toInt ≤ 4 := im21 (i_bank.toInt)
  refine lv_iconst (v := (-1)) hx hb dX9_favourite_0 (by decide) ?_
  refine lv_istore_n (lv' := [(1, .int (-1)), (0, .ref (r 0))]) hx hb dX9_favourite_1 rfl hl (by decide) rfl (fun ls hl => ?_)
  refine lv_iconst (v := 0) hx hb dX9_favourite_2 (by decide) ?_
  refine lv_istore_n (lv' := [(2, .int 0), (1, .int (-1)), (0, .ref (r 0))]) hx hb dX9_favourite_3 rfl hl (by decide) rfl (fun ls hl => ?_)
  have L4 : ∀ (N4 : Nat) (y4_1 y4_2 : Int32) (m4_i_askHouse m4_i_askTune : Int32) (m4_J : Nat → Nat → Int32) (H4 : Heap) (locs : List Loc) (ls : Array Slot) (g4_0 : 0 ≤ y4_1.toInt + 1) (g4_1 : y4_1.toInt ≤ 4) (g4_2 : 0 ≤ y4_2.toInt) (g4_3 : y4_2.toInt ≤ 5) (g4_4 : y4_1.toInt + 1 ≤ (f_tunes (i_bank.toInt).toNat).toInt) (hP : va_P (dC, dI) vwCl (WM r ct i_taped i_size i_faultKind i_at i_end i_token i_number i_bank i_rb i_codes i_within i_piled i_unitsInRule m4_i_askHouse m4_i_askTune i_acts i_undone i_laid i_knowns i_time f_text f_tunes f_houses f_hums f_told f_many f_ruleFrom f_ruleTo f_code f_eWhat f_eSign f_all f_kept f_was f_sTune f_boxAll m4_J L) H4) (hD : va_D A (WM r ct i_taped i_size i_faultKind i_at i_end i_token i_number i_bank i_rb i_codes i_within i_piled i_unitsInRule m4_i_askHouse m4_i_askTune i_acts i_undone i_laid i_knowns i_time f_text f_tunes f_houses f_hums f_told f_many f_ruleFrom f_ruleTo f_code f_eWhat f_eSign f_all f_kept f_was f_sTune f_boxAll m4_J L)) (hS : va_S A s.heap H4 locs) (hl : lv_has ls 3 [(0, .ref (r 0)), (1, .int y4_1), (2, .int y4_2)]) (hM : -1 * y4_2.toInt + 5 < (N4 : Int)), W p l e { frames := 24, cells := 0, slots := 0, locals := 792 } s m ([.ref (r 0)] : List Value).toArray below meth c0 H4 locs 0 0 Q (F0 m 4 ls []) := by
    intro N4
    induction N4 with
    | zero =>
      intro y4_1 y4_2 m4_i_askHouse m4_i_askTune m4_J H4 locs ls g4_0 g4_1 g4_2 g4_3 g4_4 hP hD hS hl hM
      exact ((ob_292 hM g4_2 g4_3)).elim
    | succ N4 ih4 =>
      intro y4_1 y4_2 m4_i_askHouse m4_i_askTune m4_J H4 locs ls g4_0 g4_1 g4_2 g4_3 g4_4 hP hD hS hl hM
      have hM4 := msucc hM
      refine lv_iload_n hx hb dX9_favourite_4 rfl (lv_at hl 2 rfl) ?_
      refine lv_aload_n hx hb dX9_favourite_5 rfl (lv_at hl 0 rfl) ?_
      refine va_calli (va_runV (As := []) (rest := [.int y4_2]) ⟨hx, hb, hml, hown, hG⟩ (kX9_songs l dC dI r ct i_taped i_size i_faultKind i_at i_end i_token i_number i_bank i_rb i_codes i_within i_piled i_unitsInRule m4_i_askHouse m4_i_askTune i_acts i_undone i_laid i_knowns i_time f_text f_tunes f_houses f_hums f_told f_many f_ruleFrom f_ruleTo f_code f_eWhat f_eSign f_all f_kept f_was f_sTune f_boxAll m4_J L H4.size hI) (cwV 0 hG (goodV gw1512 gw1514 gw86 gw138 gw1515) rfl rfl rfl hd_X9_songs ⟨(Nat.le_of_ble_eq_true rfl), (Nat.le_of_ble_eq_true rfl)⟩) ⟨fbR, va_recv hK hP (ci := 8) (q0 := 0) rfl rfl, pR_in hP hK⟩ rfl rfl hl.1 rfl (lv_room (Nat.le_of_ble_eq_true rfl)) dX9_favourite_6 ⟨(Nat.le_of_ble_eq_true rfl), (Nat.le_of_ble_eq_true rfl)⟩) hS (fun q hq h => absurd hq (Nat.not_lt.mpr h)) (fun q h => hA q (Nat.le_trans hS.1 h)) (fun r_4 u_ t_ H3 locs ht hvm hw hB hz1 hk1 hS => ?_)
      subst hw
      have hP := wk hP hk1
      have f5 := hB
      have f6 : r_4.toInt = (f_tunes (i_bank.toInt).toNat).toInt := (ob_278 f5)
      refine lv_icmp_ge (tgt := 43) hx hb dX9_favourite_9 (by decide) (fun c_7 => ?_) (fun c_7 => ?_)
      · skip
        have f8 : r_4.toInt ≤ y4_2.toInt := qi_le c_7 rfl rfl
        refine lv_iload_n hx hb dX9_favourite_43 rfl (lv_at hl 1 rfl) ?_
        rw [hQ]
        exact W.iret (v := y4_1) hx hb hr (fun t ht hW => ⟨⟨y4_1, y4_1, rfl, rfl, ⟨m4_i_askHouse, m4_i_askTune, m4_J, by rw [ht]; exact hP, hD, hI⟩⟩, hS.F ht⟩) hS.2.2 dX9_favourite_44
      · skip
        have f9 : y4_2.toInt < r_4.toInt := qi_nle c_7 rfl rfl
        refine lv_iload_n hx hb dX9_favourite_12 rfl (lv_at hl 1 rfl) ?_
        refine lv_if_lt (tgt := 35) hx hb dX9_favourite_13 (by decide) (fun c_10 => ?_) (fun c_10 => ?_)
        · skip
          have f11 : y4_1.toInt < 0 := qi_lt c_10 rfl zc_0
          refine lv_iload_n hx hb dX9_favourite_35 rfl (lv_at hl 2 rfl) ?_
          refine lv_istore_n (lv' := [(1, .int y4_2), (0, .ref (r 0)), (2, .int y4_2)]) hx hb dX9_favourite_36 rfl hl (by decide) rfl (fun ls hl => ?_)
          obtain ⟨x12, ex12⟩ : ∃ y : Int32, y = y4_2 + Int32.ofInt 1 := ⟨_, rfl⟩
          have f13 : x12.toInt = y4_2.toInt + 1 := (ob_139 (qi_add ex12 rfl (by decide) (ob_137 g4_2) (ob_314 g4_3)))
          refine lv_iinc (v := x12) (lv' := [(2, .int x12), (1, .int y4_2), (0, .ref (r 0))]) hx hb dX9_favourite_37 hl (k := 2) rfl ex12.symm (by decide) rfl (fun ls hl => ?_)
          refine lv_goto (tgt := 4) hx hb dX9_favourite_40 (by decide) ?_
          exact ih4 y4_2 x12 m4_i_askHouse m4_i_askTune m4_J H3 _ _ (ob_360 g4_2) (ob_434 f1 f9 f6) (ob_140 g4_2 f13) (ob_354 f1 f9 f6 f13) (ob_361 f9 f6) hP hD hS (lv_sub hl [2, 1, 0] rfl) (ob_316 hM4 f13)
        · skip
          have f14 : 0 ≤ y4_1.toInt := qi_nlt c_10 rfl zc_0
          refine lv_aload_n hx hb dX9_favourite_16 rfl (lv_at hl 0 rfl) ?_
          refine lv_iload_n hx hb dX9_favourite_17 rfl (lv_at hl 2 rfl) ?_
          have hFc := frA hD hS hA
          refine va_calli (va_runV (As := [.int y4_2]) (rest := []) ⟨hx, hb, hml, hown, hG⟩ (kX9_takers l dC dI r ct i_taped i_size i_faultKind i_at i_end i_token i_number i_bank i_rb i_codes i_within i_piled i_unitsInRule m4_i_askHouse m4_i_askTune i_acts i_undone i_laid i_knowns i_time f_text f_tunes f_houses f_hums f_told f_many f_ruleFrom f_ruleTo f_code f_eWhat f_eSign f_all f_kept f_was f_sTune f_boxAll m4_J L y4_2 H3.size hI (ob_133 g4_2) (ob_361 f9 f6)) (cwV 1 hG (goodV gw1644 gw1646 gw105 gw138 gw1647) rfl rfl rfl hd_X9_takers ⟨(Nat.le_of_ble_eq_true rfl), (Nat.le_of_ble_eq_true rfl)⟩) ⟨fbW, va_recv hK hP (ci := 8) (q0 := 0) rfl rfl, pW_in hP hK hD⟩ rfl rfl hl.1 rfl (lv_room (Nat.le_of_ble_eq_true rfl)) dX9_favourite_18 ⟨(Nat.le_of_ble_eq_true rfl), (Nat.le_of_ble_eq_true rfl)⟩) hS (fun q _ h => hFc q h) hFc (fun r_16 u_ t_ H15 locs ht hvm hw hB hz1 hk1 hS => ?_)
          subst hw
          obtain ⟨x17, x18, J19, hP1, hD1, hI20⟩ := hB
          rw [ht] at hP1
          have hP := hP1
          have hD := dW hFc hD1
          obtain ⟨im21, im22, im23, im24, im25, im26, im27, im28, im29, im30, im31, im32, im33, im34, im35, im36, im37, im38, im39, im40, im41, im42, im43, im44, im45, im46, im47, im48, im49, im50, im51⟩ := id hI20
          refine va_calli (va_runS (As := [.int r_16]) (rest := []) ⟨hx, hb, hml, hown, hG⟩ (kX9_bitsOf l dC dI r_16 H15.size) (va_cwS 1 hG (goodS gw1618 gw1619 gw138 gw1620) rfl rfl rfl hd_X9_bitsOf ⟨(Nat.le_of_ble_eq_true rfl), (Nat.le_of_ble_eq_true rfl)⟩) ⟨fbR, pR_in emptyP (emptyK hK)⟩ rfl rfl hl.1 rfl (lv_room (Nat.le_of_ble_eq_true rfl)) dX9_favourite_21 ⟨(Nat.le_of_ble_eq_true rfl), (Nat.le_of_ble_eq_true rfl)⟩) hS (fun q hq h => absurd hq (Nat.not_lt.mpr h)) (fun q h => hA q (Nat.le_trans hS.1 h)) (fun r_53 u_ t_ H52 locs ht hvm hw hB hz1 hk1 hS => ?_)
          subst hw
          have hP := wk hP hk1
          refine lv_aload_n hx hb dX9_favourite_24 rfl (lv_at hl 0 rfl) ?_
          refine lv_iload_n hx hb dX9_favourite_25 rfl (lv_at hl 1 rfl) ?_
          have hFc := frA hD hS hA
          refine va_calli (va_runV (As := [.int y4_1]) (rest := [.int r_53]) ⟨hx, hb, hml, hown, hG⟩ (kX9_takers l dC dI r ct i_taped i_size i_faultKind i_at i_end i_token i_number i_bank i_rb i_codes i_within i_piled i_unitsInRule x17 x18 i_acts i_undone i_laid i_knowns i_time f_text f_tunes f_houses f_hums f_told f_many f_ruleFrom f_ruleTo f_code f_eWhat f_eSign f_all f_kept f_was f_sTune f_boxAll J19 L y4_1 H52.size hI20 (ob_133 f14) (ob_368 g4_4)) (cwV 1 hG (goodV gw1644 gw1646 gw105 gw138 gw1647) rfl rfl rfl hd_X9_takers ⟨(Nat.le_of_ble_eq_true rfl), (Nat.le_of_ble_eq_true rfl)⟩) ⟨fbW, va_recv hK hP (ci := 8) (q0 := 0) rfl rfl, pW_in hP hK hD⟩ rfl rfl hl.1 rfl (lv_room (Nat.le_of_ble_eq_true rfl)) dX9_favourite_26 ⟨(Nat.le_of_ble_eq_true rfl), (Nat.le_of_ble_eq_true rfl)⟩) hS (fun q _ h => hFc q h) hFc (fun r_55 u_ t_ H54 locs ht hvm hw hB hz1 hk1 hS => ?_)
          subst hw
          obtain ⟨x56, x57, J58, hP1, hD1, hI59⟩ := hB
          rw [ht] at hP1
          have hP := hP1
          have hD := dW hFc hD1
          obtain ⟨im60, im61, im62, im63, im64, im65, im66, im67, im68, im69, im70, im71, im72, im73, im74, im75, im76, im77, im78, im79, im80, im81, im82, im83, im84, im85, im86, im87, im88, im89, im90⟩ := id hI59
          refine va_calli (va_runS (As := [.int r_55]) (rest := [.int r_53]) ⟨hx, hb, hml, hown, hG⟩ (kX9_bitsOf l dC dI r_55 H54.size) (va_cwS 1 hG (goodS gw1618 gw1619 gw138 gw1620) rfl rfl rfl hd_X9_bitsOf ⟨(Nat.le_of_ble_eq_true rfl), (Nat.le_of_ble_eq_true rfl)⟩) ⟨fbR, pR_in emptyP (emptyK hK)⟩ rfl rfl hl.1 rfl (lv_room (Nat.le_of_ble_eq_true rfl)) dX9_favourite_29 ⟨(Nat.le_of_ble_eq_true rfl), (Nat.le_of_ble_eq_true rfl)⟩) hS (fun q hq h => absurd hq (Nat.not_lt.mpr h)) (fun q h => hA q (Nat.le_trans hS.1 h)) (fun r_92 u_ t_ H91 locs ht hvm hw hB hz1 hk1 hS => ?_)
          subst hw
          have hP := wk hP hk1
          refine lv_icmp_le (tgt := 37) hx hb dX9_favourite_32 (by decide) (fun c_93 => ?_) (fun c_93 => ?_)
          · skip
            have f94 : r_53.toInt ≤ r_92.toInt := qi_le c_93 rfl rfl
            obtain ⟨x95, ex95⟩ : ∃ y : Int32, y = y4_2 + Int32.ofInt 1 := ⟨_, rfl⟩
            have f96 : x95.toInt = y4_2.toInt + 1 := (ob_139 (qi_add ex95 rfl (by decide) (ob_137 g4_2) (ob_314 g4_3)))
            refine lv_iinc (v := x95) (lv' := [(2, .int x95), (0, .ref (r 0)), (1, .int y4_1)]) hx hb dX9_favourite_37 hl (k := 2) rfl ex95.symm (by decide) rfl (fun ls hl => ?_)
            refine lv_goto (tgt := 4) hx hb dX9_favourite_40 (by decide) ?_
            exact ih4 y4_1 x95 x56 x57 J58 H91 _ _ (ob_435 g4_0) (ob_436 g4_1) (ob_140 g4_2 f96) (ob_354 f1 f9 f6 f96) (ob_368 g4_4) hP hD hS (lv_sub hl [1, 2, 0] rfl) (ob_316 hM4 f96)
          · skip
            have f97 : r_92.toInt < r_53.toInt := qi_nle c_93 rfl rfl
            refine lv_iload_n hx hb dX9_favourite_35 rfl (lv_at hl 2 rfl) ?_
            refine lv_istore_n (lv' := [(1, .int y4_2), (0, .ref (r 0)), (2, .int y4_2)]) hx hb dX9_favourite_36 rfl hl (by decide) rfl (fun ls hl => ?_)
            obtain ⟨x98, ex98⟩ : ∃ y : Int32, y = y4_2 + Int32.ofInt 1 := ⟨_, rfl⟩
            have f99 : x98.toInt = y4_2.toInt + 1 := (ob_139 (qi_add ex98 rfl (by decide) (ob_137 g4_2) (ob_314 g4_3)))
            refine lv_iinc (v := x98) (lv' := [(2, .int x98), (1, .int y4_2), (0, .ref (r 0))]) hx hb dX9_favourite_37 hl (k := 2) rfl ex98.symm (by decide) rfl (fun ls hl => ?_)
            refine lv_goto (tgt := 4) hx hb dX9_favourite_40 (by decide) ?_
            exact ih4 y4_2 x98 x56 x57 J58 H91 _ _ (ob_360 g4_2) (ob_434 f1 f9 f6) (ob_140 g4_2 f99) (ob_354 f1 f9 f6 f99) (ob_361 f9 f6) hP hD hS (lv_sub hl [2, 1, 0] rfl) (ob_316 hM4 f99)
  exact L4 (-1 * (0 : Int32).toInt + 5 + 1).toNat (-1) 0 i_askHouse i_askTune J s.heap _ _ (ob_349 zc_m1) (ob_437 zc_m1) (ob_5 zc_0) (ob_317 zc_0) (ob_438 f1 zc_m1) hP hD hS (lv_sub hl [2, 1, 0] rfl) (mlt (ob_318 zc_0))
set_option maxHeartbeats 4000000 in
set_option maxRecDepth 100000 in
theorem kX9_pair (l : Launch) (dC : Nat → ClassId) (dI : Nat → Nat → Nat) (r : Nat → Nat) (ct : Nat → ClassId) (i_taped i_size i_faultKind i_at i_end i_token i_number i_bank i_rb i_codes i_within i_piled i_unitsInRule i_askHouse i_askTune i_acts i_undone i_laid i_knowns i_time : Int32) (f_text f_tunes f_houses f_hums f_told f_many f_ruleFrom f_ruleTo f_code f_eWhat f_eSign f_all f_kept f_was f_sTune f_boxAll : Nat → Int32) (J : Nat → Nat → Int32) (L : Nat → Nat → Int64) (p0 p1 : Int32) (sz : Nat) (hI : (IM i_taped i_size i_at i_end i_bank i_rb i_acts i_undone i_laid i_knowns i_time f_tunes f_houses f_hums f_told f_many f_ruleFrom f_ruleTo f_code f_all f_kept f_was f_sTune f_boxAll)) : Met l yX9_pair (.code yX9_pair cX9_pair 5 (some .int) :: GW) { frames := 22, cells := 0, slots := 0, locals := 729 } (va_Pc [.ref (r 0), .int p0, .int p1] (pW (dC, dI) (WM r ct i_taped i_size i_faultKind i_at i_end i_token i_number i_bank i_rb i_codes i_within i_piled i_unitsInRule i_askHouse i_askTune i_acts i_undone i_laid i_knowns i_time f_text f_tunes f_houses f_hums f_told f_many f_ruleFrom f_ruleTo f_code f_eWhat f_eSign f_all f_kept f_was f_sTune f_boxAll J L) (TM ct) sz)) (va_Qi (fun (r0 : Int32) (u : Int32) => r0 = u) (fun (u : Int32) (t : State) => ∃ (n_i_askHouse n_i_askTune : Int32) (n_J : Nat → Nat → Int32), va_P (dC, dI) vwCl (WM r ct i_taped i_size i_faultKind i_at i_end i_token i_number i_bank i_rb i_codes i_within i_piled i_unitsInRule n_i_askHouse n_i_askTune i_acts i_undone i_laid i_knowns i_time f_text f_tunes f_houses f_hums f_told f_many f_ruleFrom f_ruleTo f_code f_eWhat f_eSign f_all f_kept f_was f_sTune f_boxAll n_J L) t.heap ∧ va_D (va_A (WM r ct i_taped i_size i_faultKind i_at i_end i_token i_number i_bank i_rb i_codes i_within i_piled i_unitsInRule i_askHouse i_askTune i_acts i_undone i_laid i_knowns i_time f_text f_tunes f_houses f_hums f_told f_many f_ruleFrom f_ruleTo f_code f_eWhat f_eSign f_all f_kept f_was f_sTune f_boxAll J L) sz) (WM r ct i_taped i_size i_faultKind i_at i_end i_token i_number i_bank i_rb i_codes i_within i_piled i_unitsInRule n_i_askHouse n_i_askTune i_acts i_undone i_laid i_knowns i_time f_text f_tunes f_houses f_hums f_told f_many f_ruleFrom f_ruleTo f_code f_eWhat f_eSign f_all f_kept f_was f_sTune f_boxAll n_J L) ∧ (IM i_taped i_size i_at i_end i_bank i_rb i_acts i_undone i_laid i_knowns i_time f_tunes f_houses f_hums f_told f_many f_ruleFrom f_ruleTo f_code f_all f_kept f_was f_sTune f_boxAll)) (va_A (WM r ct i_taped i_size i_faultKind i_at i_end i_token i_number i_bank i_rb i_codes i_within i_piled i_unitsInRule i_askHouse i_askTune i_acts i_undone i_laid i_knowns i_time f_text f_tunes f_houses f_hums f_told f_many f_ruleFrom f_ruleTo f_code f_eWhat f_eSign f_all f_kept f_was f_sTune f_boxAll J L) sz)) 0 0 (va_A (WM r ct i_taped i_size i_faultKind i_at i_end i_token i_number i_bank i_rb i_codes i_within i_piled i_unitsInRule i_askHouse i_askTune i_acts i_undone i_laid i_knowns i_time f_text f_tunes f_houses f_hums f_told f_many f_ruleFrom f_ruleTo f_code f_eWhat f_eSign f_all f_kept f_was f_sTune f_boxAll J L) sz) := by
  refine Met.ofW (cc := cX9_pair) (maxL := 5) (ret := (some .int)) (by decide) rfl ?_
  intro p e s m args below meth c0 s₁ B hml hv
  obtain ⟨rfl, hsz, hP, hK, hD0⟩ := hv
  have hx := B.exec
  have hb := B.bytes
  have hr := B.returns
  have hts := atoms_spec (ws := .code yX9_pair cX9_pair 5 (some .int) :: GW) B.pre
  have hG : ∀ w ∈ GW, w.before _ s = true := fun w h => hts w (List.mem_cons_of_mem _ h)
  have hown : s.vm.findClass RX9 = some m.cls := findClass_of_methodNamed B.named
  subst hsz
  have hD := hD0.self (sz := s.heap.size)
  generalize hAe : va_A (WM r ct i_taped i_size i_faultKind i_at i_end i_token i_number i_bank i_rb i_codes i_within i_piled i_unitsInRule i_askHouse i_askTune i_acts i_undone i_laid i_knowns i_time f_text f_tunes f_houses f_hums f_told f_many f_ruleFrom f_ruleTo f_code f_eWhat f_eSign f_all f_kept f_was f_sTune f_boxAll J L) s.heap.size = A at hD ⊢
  have hA : ∀ q : Nat, s.heap.size ≤ q → A q := fun q h => by rw [← hAe]; exact Or.inr h
  have hS : va_S A s.heap s.heap [] := va_S.rf
  have hP : va_P (dC, dI) vwCl (WM r ct i_taped i_size i_faultKind i_at i_end i_token i_number i_bank i_rb i_codes i_within i_piled i_unitsInRule i_askHouse i_askTune i_acts i_undone i_laid i_knowns i_time f_text f_tunes f_houses f_hums f_told f_many f_ruleFrom f_ruleTo f_code f_eWhat f_eSign f_all f_kept f_was f_sTune f_boxAll J L) s.heap := hP
  have hl := lv_entry ([.ref (r 0), .int p0, .int p1]) (n := 5) (Nat.le_of_ble_eq_true rfl)
  rw [lg_entry_eq]
  generalize (lg_sl ([.ref (r 0), .int p0, .int p1]) ++ List.replicate (5 - (lg_sl ([.ref (r 0), .int p0, .int p1])).length) Slot.unset).toArray = ls at hl ⊢
  have hl : lv_has ls 5 [(0, .ref (r 0)), (1, .int p0), (2, .int p1)] := hl
  refine nameQ (fun Q hQ => ?_)
  obtain ⟨im0, im1, im2, im3, im4, im5, im6, im7, im8, im9, im10, im11, im12, im13, im14, im15, im16, im17, im18, im19, im20, im21, im22, im23, im24, im25, im26, im27, im28, im29, im30⟩ := id hI
  have f1 : 0 ≤ (f_tunes (i_bank.toInt).toNat).toInt ∧ (f_tunes (i_bank.toInt).toNat).toInt ≤ 5 := im20 (i_bank.toInt)
  have f2 : 0 ≤ (f_houses (i_bank.toInt).toNat).toInt ∧ (f_houses (i_bank.toInt).toNat).toInt ≤ 4 := im21 (i_bank.toInt)
  refine lv_aload_n hx hb dX9_pair_0 rfl (lv_at hl 0 rfl) ?_
  refine lv_iload_n hx hb dX9_pair_1 rfl (lv_at hl 1 rfl) ?_
  refine va_calli (va_runV (As := [.int p0]) (rest := []) ⟨hx, hb, hml, hown, hG⟩ (kX9_isTune l dC dI r ct i_taped i_size i_faultKind i_at i_end i_token i_number i_bank i_rb i_codes i_within i_piled i_unitsInRule i_askHouse i_askTune i_acts i_undone i_laid i_knowns i_time f_text f_tunes f_houses f_hums f_told f_many f_ruleFrom f_ruleTo f_code f_eWhat f_eSign f_all f_kept f_was f_sTune f_boxAll J L p0 s.heap.size hI) (cwV 1 hG (goodV gw1508 gw1510 gw85 gw138 gw1511) rfl rfl rfl hd_X9_isTune ⟨(Nat.le_of_ble_eq_true rfl), (Nat.le_of_ble_eq_true rfl)⟩) ⟨fbR, va_recv hK hP (ci := 8) (q0 := 0) rfl rfl, pR_in hP hK⟩ rfl rfl hl.1 rfl (lv_room (Nat.le_of_ble_eq_true rfl)) dX9_pair_2 ⟨(Nat.le_of_ble_eq_true rfl), (Nat.le_of_ble_eq_true rfl)⟩) hS (fun q hq h => absurd hq (Nat.not_lt.mpr h)) (fun q h => hA q (Nat.le_trans hS.1 h)) (fun r_4 u_ t_ H3 locs ht hvm hw hB hz1 hk1 hS => ?_)
  subst hw
  have hP := wk hP hk1
  obtain ⟨f5, f6, f7, f8, f9⟩ := hB
  refine lv_if_eq (tgt := 24) hx hb dX9_pair_5 (by decide) (fun c_10 => ?_) (fun c_10 => ?_)
  · skip
    have f11 : r_4.toInt = 0 := qi_eq c_10 rfl zc_0
    refine lv_ldcw (v := (-1000000000)) hx hb hown (hG _ gw1601) dX9_pair_24 ?_
    rw [hQ]
    exact W.iret (v := (-1000000000)) hx hb hr (fun t ht hW => ⟨⟨(-1000000000), (-1000000000), rfl, rfl, ⟨i_askHouse, i_askTune, J, by rw [ht]; exact hP, hD, hI⟩⟩, hS.F ht⟩) hS.2.2 dX9_pair_27
  · skip
    have f12 : r_4.toInt ≠ 0 := qi_ne c_10 rfl zc_0
    have f13 : 1 ≤ r_4.toInt := (ob_399 f5 f12)
    have f14 : 0 ≤ p0.toInt := (ob_400 f5 f12)
    have f15 : p0.toInt + 1 ≤ (f_tunes (i_bank.toInt).toNat).toInt := (ob_401 f5 f12)
    have f16 : r_4.toInt = 1 := (ob_402 f7 f13)
    refine lv_iload_n hx hb dX9_pair_8 rfl (lv_at hl 2 rfl) ?_
    refine lv_iconst (v := 0) hx hb dX9_pair_9 (by decide) ?_
    refine lv_iconst (v := 1) hx hb dX9_pair_10 (by decide) ?_
    refine va_calli (va_runS (As := [.int p1, .int 0, .int 1]) (rest := []) ⟨hx, hb, hml, hown, hG⟩ (kX9_isIn l dC dI p1 0 1 H3.size) (va_cwS 3 hG (goodS gw1516 gw1517 gw138 gw1518) rfl rfl rfl hd_X9_isIn ⟨(Nat.le_of_ble_eq_true rfl), (Nat.le_of_ble_eq_true rfl)⟩) ⟨fbR, pR_in emptyP (emptyK hK)⟩ rfl rfl hl.1 rfl (lv_room (Nat.le_of_ble_eq_true rfl)) dX9_pair_11 ⟨(Nat.le_of_ble_eq_true rfl), (Nat.le_of_ble_eq_true rfl)⟩) hS (fun q hq h => absurd hq (Nat.not_lt.mpr h)) (fun q h => hA q (Nat.le_trans hS.1 h)) (fun r_18 u_ t_ H17 locs ht hvm hw hB hz1 hk1 hS => ?_)
    subst hw
    have hP := wk hP hk1
    obtain ⟨f19, f20, f21⟩ := hB
    refine lv_if_eq (tgt := 24) hx hb dX9_pair_14 (by decide) (fun c_22 => ?_) (fun c_22 => ?_)
    · skip
      have f23 : r_18.toInt = 0 := qi_eq c_22 rfl zc_0
      refine lv_ldcw (v := (-1000000000)) hx hb hown (hG _ gw1601) dX9_pair_24 ?_
      rw [hQ]
      exact W.iret (v := (-1000000000)) hx hb hr (fun t ht hW => ⟨⟨(-1000000000), (-1000000000), rfl, rfl, ⟨i_askHouse, i_askTune, J, by rw [ht]; exact hP, hD, hI⟩⟩, hS.F ht⟩) hS.2.2 dX9_pair_27
    · skip
      have f24 : r_18.toInt ≠ 0 := qi_ne c_22 rfl zc_0
      have f25 : 1 ≤ r_18.toInt := (ob_439 f19 f24 zc_1 zc_0)
      have f26 : 0 ≤ p1.toInt := (ob_440 f19 f24 zc_1 zc_0)
      have f27 : p1.toInt ≤ 1 := (ob_441 f19 f24 zc_1 zc_0)
      have f28 : r_18.toInt = 1 := (ob_167 f20 f21 f25)
      refine lv_aload_n hx hb dX9_pair_17 rfl (lv_at hl 0 rfl) ?_
      refine va_calli (va_runV (As := []) (rest := []) ⟨hx, hb, hml, hown, hG⟩ (kX9_homes l dC dI r ct i_taped i_size i_faultKind i_at i_end i_token i_number i_bank i_rb i_codes i_within i_piled i_unitsInRule i_askHouse i_askTune i_acts i_undone i_laid i_knowns i_time f_text f_tunes f_houses f_hums f_told f_many f_ruleFrom f_ruleTo f_code f_eWhat f_eSign f_all f_kept f_was f_sTune f_boxAll J L H17.size hI) (cwV 0 hG (goodV gw1167 gw1169 gw58 gw138 gw1170) rfl rfl rfl hd_X9_homes ⟨(Nat.le_of_ble_eq_true rfl), (Nat.le_of_ble_eq_true rfl)⟩) ⟨fbR, va_recv hK hP (ci := 8) (q0 := 0) rfl rfl, pR_in hP hK⟩ rfl rfl hl.1 rfl (lv_room (Nat.le_of_ble_eq_true rfl)) dX9_pair_18 ⟨(Nat.le_of_ble_eq_true rfl), (Nat.le_of_ble_eq_true rfl)⟩) hS (fun q hq h => absurd hq (Nat.not_lt.mpr h)) (fun q h => hA q (Nat.le_trans hS.1 h)) (fun r_30 u_ t_ H29 locs ht hvm hw hB hz1 hk1 hS => ?_)
      subst hw
      have hP := wk hP hk1
      have f31 := hB
      have f32 : r_30.toInt = (f_houses (i_bank.toInt).toNat).toInt := (ob_278 f31)
      refine lv_if_ne (tgt := 28) hx hb dX9_pair_21 (by decide) (fun c_33 => ?_) (fun c_33 => ?_)
      · skip
        have f34 : r_30.toInt ≠ 0 := qi_ne c_33 rfl zc_0
        have f35 : 1 ≤ (f_houses (i_bank.toInt).toNat).toInt := (ob_442 f2 f34 f32)
        refine lv_iconst (v := 0) hx hb dX9_pair_28 (by decide) ?_
        refine lv_istore_n (lv' := [(3, .int 0), (0, .ref (r 0)), (1, .int p0), (2, .int p1)]) hx hb dX9_pair_29 rfl hl (by decide) rfl (fun ls hl => ?_)
        refine lv_iconst (v := 1) hx hb dX9_pair_30 (by decide) ?_
        refine lv_istore (lv' := [(4, .int 1), (3, .int 0), (0, .ref (r 0)), (1, .int p0), (2, .int p1)]) hx hb dX9_pair_31 hl (by decide) rfl (fun ls hl => ?_)
        have L33 : ∀ (N33 : Nat) (y33_3 y33_4 : Int32) (m33_i_askHouse m33_i_askTune : Int32) (m33_J : Nat → Nat → Int32) (H33 : Heap) (locs : List Loc) (ls : Array Slot) (g33_0 : 0 ≤ y33_3.toInt) (g33_1 : y33_3.toInt ≤ 3) (g33_2 : 1 ≤ y33_4.toInt) (g33_3 : y33_4.toInt ≤ 4) (g33_4 : y33_3.toInt + 1 ≤ (f_houses (i_bank.toInt).toNat).toInt) (hP : va_P (dC, dI) vwCl (WM r ct i_taped i_size i_faultKind i_at i_end i_token i_number i_bank i_rb i_codes i_within i_piled i_unitsInRule m33_i_askHouse m33_i_askTune i_acts i_undone i_laid i_knowns i_time f_text f_tunes f_houses f_hums f_told f_many f_ruleFrom f_ruleTo f_code f_eWhat f_eSign f_all f_kept f_was f_sTune f_boxAll m33_J L) H33) (hD : va_D A (WM r ct i_taped i_size i_faultKind i_at i_end i_token i_number i_bank i_rb i_codes i_within i_piled i_unitsInRule m33_i_askHouse m33_i_askTune i_acts i_undone i_laid i_knowns i_time f_text f_tunes f_houses f_hums f_told f_many f_ruleFrom f_ruleTo f_code f_eWhat f_eSign f_all f_kept f_was f_sTune f_boxAll m33_J L)) (hS : va_S A s.heap H33 locs) (hl : lv_has ls 5 [(0, .ref (r 0)), (1, .int p0), (2, .int p1), (3, .int y33_3), (4, .int y33_4)]) (hM : -1 * y33_4.toInt + 4 < (N33 : Int)), W p l e { frames := 22, cells := 0, slots := 0, locals := 729 } s m ([.ref (r 0), .int p0, .int p1] : List Value).toArray below meth c0 H33 locs 0 0 Q (F0 m 33 ls []) := by
          intro N33
          induction N33 with
          | zero =>
            intro y33_3 y33_4 m33_i_askHouse m33_i_askTune m33_J H33 locs ls g33_0 g33_1 g33_2 g33_3 g33_4 hP hD hS hl hM
            exact ((ob_443 hM g33_2 g33_3)).elim
          | succ N33 ih33 =>
            intro y33_3 y33_4 m33_i_askHouse m33_i_askTune m33_J H33 locs ls g33_0 g33_1 g33_2 g33_3 g33_4 hP hD hS hl hM
            have hM33 := msucc hM
            refine lv_iload hx hb dX9_pair_33 (lv_at hl 4 rfl) ?_
            refine lv_aload_n hx hb dX9_pair_35 rfl (lv_at hl 0 rfl) ?_
            refine va_calli (va_runV (As := []) (rest := [.int y33_4]) ⟨hx, hb, hml, hown, hG⟩ (kX9_homes l dC dI r ct i_taped i_size i_faultKind i_at i_end i_token i_number i_bank i_rb i_codes i_within i_piled i_unitsInRule m33_i_askHouse m33_i_askTune i_acts i_undone i_laid i_knowns i_time f_text f_tunes f_houses f_hums f_told f_many f_ruleFrom f_ruleTo f_code f_eWhat f_eSign f_all f_kept f_was f_sTune f_boxAll m33_J L H33.size hI) (cwV 0 hG (goodV gw1167 gw1169 gw58 gw138 gw1170) rfl rfl rfl hd_X9_homes ⟨(Nat.le_of_ble_eq_true rfl), (Nat.le_of_ble_eq_true rfl)⟩) ⟨fbR, va_recv hK hP (ci := 8) (q0 := 0) rfl rfl, pR_in hP hK⟩ rfl rfl hl.1 rfl (lv_room (Nat.le_of_ble_eq_true rfl)) dX9_pair_36 ⟨(Nat.le_of_ble_eq_true rfl), (Nat.le_of_ble_eq_true rfl)⟩) hS (fun q hq h => absurd hq (Nat.not_lt.mpr h)) (fun q h => hA q (Nat.le_trans hS.1 h)) (fun r_37 u_ t_ H36 locs ht hvm hw hB hz1 hk1 hS => ?_)
            subst hw
            have hP := wk hP hk1
            have f38 := hB
            have f39 : r_37.toInt = (f_houses (i_bank.toInt).toNat).toInt := (ob_278 f38)
            refine lv_icmp_ge (tgt := 67) hx hb dX9_pair_39 (by decide) (fun c_40 => ?_) (fun c_40 => ?_)
            · skip
              have f41 : r_37.toInt ≤ y33_4.toInt := qi_le c_40 rfl rfl
              refine lv_iload_n hx hb dX9_pair_67 rfl (lv_at hl 2 rfl) ?_
              refine lv_if_ne (tgt := 75) hx hb dX9_pair_68 (by decide) (fun c_42 => ?_) (fun c_42 => ?_)
              · skip
                have f43 : p1.toInt ≠ 0 := qi_ne c_42 rfl zc_0
                have f44 : 1 ≤ p1.toInt := (ob_444 f26 f43)
                refine lv_aload_n hx hb dX9_pair_75 rfl (lv_at hl 0 rfl) ?_
                refine lv_iload_n hx hb dX9_pair_76 rfl (lv_at hl 3 rfl) ?_
                refine lv_iload_n hx hb dX9_pair_77 rfl (lv_at hl 1 rfl) ?_
                have hFc := frA hD hS hA
                refine va_calli (va_runV (As := [.int y33_3, .int p0]) (rest := []) ⟨hx, hb, hml, hown, hG⟩ (kX9_gladNow l dC dI r ct i_taped i_size i_faultKind i_at i_end i_token i_number i_bank i_rb i_codes i_within i_piled i_unitsInRule m33_i_askHouse m33_i_askTune i_acts i_undone i_laid i_knowns i_time f_text f_tunes f_houses f_hums f_told f_many f_ruleFrom f_ruleTo f_code f_eWhat f_eSign f_all f_kept f_was f_sTune f_boxAll m33_J L y33_3 p0 H36.size hI (ob_445 g33_0 g33_1 g33_4) (ob_368 g33_4) (ob_108 f14 f15) (ob_109 f1 f14 f15)) (cwV 2 hG (goodV gw1562 gw1564 gw94 gw138 gw1565) rfl rfl rfl hd_X9_gladNow ⟨(Nat.le_of_ble_eq_true rfl), (Nat.le_of_ble_eq_true rfl)⟩) ⟨fbW, va_recv hK hP (ci := 8) (q0 := 0) rfl rfl, pW_in hP hK hD⟩ rfl rfl hl.1 rfl (lv_room (Nat.le_of_ble_eq_true rfl)) dX9_pair_78 ⟨(Nat.le_of_ble_eq_true rfl), (Nat.le_of_ble_eq_true rfl)⟩) hS (fun q _ h => hFc q h) hFc (fun r_46 u_ t_ H45 locs ht hvm hw hB hz1 hk1 hS => ?_)
                subst hw
                obtain ⟨x47, x48, J49, hP1, hD1, hI51, f50⟩ := hB
                rw [ht] at hP1
                have hP := hP1
                have hD := dW hFc hD1
                obtain ⟨im52, im53, im54, im55, im56, im57, im58, im59, im60, im61, im62, im63, im64, im65, im66, im67, im68, im69, im70, im71, im72, im73, im74, im75, im76, im77, im78, im79, im80, im81, im82⟩ := id hI51
                rw [hQ]
                exact W.iret (v := r_46) hx hb hr (fun t ht hW => ⟨⟨r_46, r_46, rfl, rfl, ⟨x47, x48, J49, by rw [ht]; exact hP, hD, hI51⟩⟩, hS.F ht⟩) hS.2.2 dX9_pair_81
              · skip
                have f83 : p1.toInt = 0 := qi_eq c_42 rfl zc_0
                refine lv_iload_n hx hb dX9_pair_71 rfl (lv_at hl 3 rfl) ?_
                refine lv_goto (tgt := 81) hx hb dX9_pair_72 (by decide) ?_
                rw [hQ]
                exact W.iret (v := y33_3) hx hb hr (fun t ht hW => ⟨⟨y33_3, y33_3, rfl, rfl, ⟨m33_i_askHouse, m33_i_askTune, m33_J, by rw [ht]; exact hP, hD, hI⟩⟩, hS.F ht⟩) hS.2.2 dX9_pair_81
            · skip
              have f84 : y33_4.toInt < r_37.toInt := qi_nle c_40 rfl rfl
              refine lv_aload_n hx hb dX9_pair_42 rfl (lv_at hl 0 rfl) ?_
              refine lv_iload hx hb dX9_pair_43 (lv_at hl 4 rfl) ?_
              refine lv_iload_n hx hb dX9_pair_45 rfl (lv_at hl 1 rfl) ?_
              have hFc := frA hD hS hA
              refine va_calli (va_runV (As := [.int y33_4, .int p0]) (rest := []) ⟨hx, hb, hml, hown, hG⟩ (kX9_gladNow l dC dI r ct i_taped i_size i_faultKind i_at i_end i_token i_number i_bank i_rb i_codes i_within i_piled i_unitsInRule m33_i_askHouse m33_i_askTune i_acts i_undone i_laid i_knowns i_time f_text f_tunes f_houses f_hums f_told f_many f_ruleFrom f_ruleTo f_code f_eWhat f_eSign f_all f_kept f_was f_sTune f_boxAll m33_J L y33_4 p0 H36.size hI (ob_240 g33_2) (ob_361 f84 f39) (ob_108 f14 f15) (ob_109 f1 f14 f15)) (cwV 2 hG (goodV gw1562 gw1564 gw94 gw138 gw1565) rfl rfl rfl hd_X9_gladNow ⟨(Nat.le_of_ble_eq_true rfl), (Nat.le_of_ble_eq_true rfl)⟩) ⟨fbW, va_recv hK hP (ci := 8) (q0 := 0) rfl rfl, pW_in hP hK hD⟩ rfl rfl hl.1 rfl (lv_room (Nat.le_of_ble_eq_true rfl)) dX9_pair_46 ⟨(Nat.le_of_ble_eq_true rfl), (Nat.le_of_ble_eq_true rfl)⟩) hS (fun q _ h => hFc q h) hFc (fun r_86 u_ t_ H85 locs ht hvm hw hB hz1 hk1 hS => ?_)
              subst hw
              obtain ⟨x87, x88, J89, hP1, hD1, hI91, f90⟩ := hB
              rw [ht] at hP1
              have hP := hP1
              have hD := dW hFc hD1
              obtain ⟨im92, im93, im94, im95, im96, im97, im98, im99, im100, im101, im102, im103, im104, im105, im106, im107, im108, im109, im110, im111, im112, im113, im114, im115, im116, im117, im118, im119, im120, im121, im122⟩ := id hI91
              refine lv_aload_n hx hb dX9_pair_49 rfl (lv_at hl 0 rfl) ?_
              refine lv_iload_n hx hb dX9_pair_50 rfl (lv_at hl 3 rfl) ?_
              refine lv_iload_n hx hb dX9_pair_51 rfl (lv_at hl 1 rfl) ?_
              have hFc := frA hD hS hA
              refine va_calli (va_runV (As := [.int y33_3, .int p0]) (rest := [.int r_86]) ⟨hx, hb, hml, hown, hG⟩ (kX9_gladNow l dC dI r ct i_taped i_size i_faultKind i_at i_end i_token i_number i_bank i_rb i_codes i_within i_piled i_unitsInRule x87 x88 i_acts i_undone i_laid i_knowns i_time f_text f_tunes f_houses f_hums f_told f_many f_ruleFrom f_ruleTo f_code f_eWhat f_eSign f_all f_kept f_was f_sTune f_boxAll J89 L y33_3 p0 H85.size hI91 (ob_445 g33_0 g33_1 g33_4) (ob_368 g33_4) (ob_108 f14 f15) (ob_109 f1 f14 f15)) (cwV 2 hG (goodV gw1562 gw1564 gw94 gw138 gw1565) rfl rfl rfl hd_X9_gladNow ⟨(Nat.le_of_ble_eq_true rfl), (Nat.le_of_ble_eq_true rfl)⟩) ⟨fbW, va_recv hK hP (ci := 8) (q0 := 0) rfl rfl, pW_in hP hK hD⟩ rfl rfl hl.1 rfl (lv_room (Nat.le_of_ble_eq_true rfl)) dX9_pair_52 ⟨(Nat.le_of_ble_eq_true rfl), (Nat.le_of_ble_eq_true rfl)⟩) hS (fun q _ h => hFc q h) hFc (fun r_124 u_ t_ H123 locs ht hvm hw hB hz1 hk1 hS => ?_)
              subst hw
              obtain ⟨x125, x126, J127, hP1, hD1, hI129, f128⟩ := hB
              rw [ht] at hP1
              have hP := hP1
              have hD := dW hFc hD1
              obtain ⟨im130, im131, im132, im133, im134, im135, im136, im137, im138, im139, im140, im141, im142, im143, im144, im145, im146, im147, im148, im149, im150, im151, im152, im153, im154, im155, im156, im157, im158, im159, im160⟩ := id hI129
              refine lv_icmp_le (tgt := 61) hx hb dX9_pair_55 (by decide) (fun c_161 => ?_) (fun c_161 => ?_)
              · skip
                have f162 : r_86.toInt ≤ r_124.toInt := qi_le c_161 rfl rfl
                obtain ⟨x163, ex163⟩ : ∃ y : Int32, y = y33_4 + Int32.ofInt 1 := ⟨_, rfl⟩
                have f164 : x163.toInt = y33_4.toInt + 1 := (ob_139 (qi_add ex163 rfl (by decide) (ob_446 g33_2) (ob_304 g33_3)))
                refine lv_iinc (v := x163) (lv' := [(4, .int x163), (0, .ref (r 0)), (1, .int p0), (2, .int p1), (3, .int y33_3)]) hx hb dX9_pair_61 hl (k := 4) rfl ex163.symm (by decide) rfl (fun ls hl => ?_)
                refine lv_goto (tgt := 33) hx hb dX9_pair_64 (by decide) ?_
                exact ih33 y33_3 x163 x125 x126 J127 H123 _ _ (ob_445 g33_0 g33_1 g33_4) (ob_447 g33_0 g33_1 g33_4) (ob_448 g33_2 f164) (ob_305 f2 f84 f39 f164) (ob_368 g33_4) hP hD hS (lv_sub hl [1, 2, 3, 4, 0] rfl) (ob_306 hM33 f164)
              · skip
                have f165 : r_124.toInt < r_86.toInt := qi_nle c_161 rfl rfl
                refine lv_iload hx hb dX9_pair_58 (lv_at hl 4 rfl) ?_
                refine lv_istore_n (lv' := [(3, .int y33_4), (0, .ref (r 0)), (1, .int p0), (2, .int p1), (4, .int y33_4)]) hx hb dX9_pair_60 rfl hl (by decide) rfl (fun ls hl => ?_)
                obtain ⟨x166, ex166⟩ : ∃ y : Int32, y = y33_4 + Int32.ofInt 1 := ⟨_, rfl⟩
                have f167 : x166.toInt = y33_4.toInt + 1 := (ob_139 (qi_add ex166 rfl (by decide) (ob_446 g33_2) (ob_304 g33_3)))
                refine lv_iinc (v := x166) (lv' := [(4, .int x166), (3, .int y33_4), (0, .ref (r 0)), (1, .int p0), (2, .int p1)]) hx hb dX9_pair_61 hl (k := 4) rfl ex166.symm (by decide) rfl (fun ls hl => ?_)
                refine lv_goto (tgt := 33) hx hb dX9_pair_64 (by decide) ?_
                exact ih33 y33_4 x166 x125 x126 J127 H123 _ _ (ob_240 g33_2) (ob_449 f2 f84 f39) (ob_448 g33_2 f167) (ob_305 f2 f84 f39 f167) (ob_361 f84 f39) hP hD hS (lv_sub hl [2, 3, 4, 1, 0] rfl) (ob_306 hM33 f167)
        exact L33 (-1 * (1 : Int32).toInt + 4 + 1).toNat 0 1 i_askHouse i_askTune J H29 _ _ (ob_5 zc_0) (ob_332 zc_0) (ob_229 zc_1) (ob_450 zc_1) (ob_451 f2 f35 zc_0) hP hD hS (lv_sub hl [2, 3, 4, 1, 0] rfl) (mlt (ob_452 zc_1))
      · skip
        have f168 : r_30.toInt = 0 := qi_eq c_33 rfl zc_0
        refine lv_ldcw (v := (-1000000000)) hx hb hown (hG _ gw1601) dX9_pair_24 ?_
        rw [hQ]
        exact W.iret (v := (-1000000000)) hx hb hr (fun t ht hW => ⟨⟨(-1000000000), (-1000000000), rfl, rfl, ⟨i_askHouse, i_askTune, J, by rw [ht]; exact hP, hD, hI⟩⟩, hS.F ht⟩) hS.2.2 dX9_pair_27
set_option maxHeartbeats 4000000 in
set_option maxRecDepth 100000 in
theorem kX9_idle (l : Launch) (dC : Nat → ClassId) (dI : Nat → Nat → Nat) (r : Nat → Nat) (ct : Nat → ClassId) (i_taped i_size i_faultKind i_at i_end i_token i_number i_bank i_rb i_codes i_within i_piled i_unitsInRule i_askHouse i_askTune i_acts i_undone i_laid i_knowns i_time : Int32) (f_text f_tunes f_houses f_hums f_told f_many f_ruleFrom f_ruleTo f_code f_eWhat f_eSign f_all f_kept f_was f_sTune f_boxAll : Nat → Int32) (J : Nat → Nat → Int32) (L : Nat → Nat → Int64) (sz : Nat) (hI : (IM i_taped i_size i_at i_end i_bank i_rb i_acts i_undone i_laid i_knowns i_time f_tunes f_houses f_hums f_told f_many f_ruleFrom f_ruleTo f_code f_all f_kept f_was f_sTune f_boxAll)) : Met l yX9_idle (.code yX9_idle cX9_idle 3 (some .int) :: GW) { frames := 6, cells := 0, slots := 0, locals := 222 } (va_Pc [.ref (r 0)] (pR (dC, dI) (WM r ct i_taped i_size i_faultKind i_at i_end i_token i_number i_bank i_rb i_codes i_within i_piled i_unitsInRule i_askHouse i_askTune i_acts i_undone i_laid i_knowns i_time f_text f_tunes f_houses f_hums f_told f_many f_ruleFrom f_ruleTo f_code f_eWhat f_eSign f_all f_kept f_was f_sTune f_boxAll J L) (TM ct) sz)) (va_Qi (fun (r0 : Int32) (u : Int32) => r0 = u) (fun (u : Int32) (t : State) => True) (fun q => sz ≤ q)) 0 0 (fun q => sz ≤ q) := by
  refine Met.ofW (cc := cX9_idle) (maxL := 3) (ret := (some .int)) (by decide) rfl ?_
  intro p e s m args below meth c0 s₁ B hml hv
  obtain ⟨rfl, hsz, hP, hK⟩ := hv
  have hx := B.exec
  have hb := B.bytes
  have hr := B.returns
  have hts := atoms_spec (ws := .code yX9_idle cX9_idle 3 (some .int) :: GW) B.pre
  have hG : ∀ w ∈ GW, w.before _ s = true := fun w h => hts w (List.mem_cons_of_mem _ h)
  have hown : s.vm.findClass RX9 = some m.cls := findClass_of_methodNamed B.named
  subst hsz
  have hS : va_S (fun q => s.heap.size ≤ q) s.heap s.heap [] := va_S.rf
  have hP : va_P (dC, dI) vwCl (WM r ct i_taped i_size i_faultKind i_at i_end i_token i_number i_bank i_rb i_codes i_within i_piled i_unitsInRule i_askHouse i_askTune i_acts i_undone i_laid i_knowns i_time f_text f_tunes f_houses f_hums f_told f_many f_ruleFrom f_ruleTo f_code f_eWhat f_eSign f_all f_kept f_was f_sTune f_boxAll J L) s.heap := hP
  have hl := lv_entry ([.ref (r 0)]) (n := 3) (Nat.le_of_ble_eq_true rfl)
  rw [lg_entry_eq]
  generalize (lg_sl ([.ref (r 0)]) ++ List.replicate (3 - (lg_sl ([.ref (r 0)])).length) Slot.unset).toArray = ls at hl ⊢
  have hl : lv_has ls 3 [(0, .ref (r 0))] := hl
  refine nameQ (fun Q hQ => ?_)
  obtain ⟨im0, im1, im2, im3, im4, im5, im6, im7, im8, im9, im10, im11, im12, im13, im14, im15, im16, im17, im18, im19, im20, im21, im22, im23, im24, im25, im26, im27, im28, im29, im30⟩ := id hI
  have f1 : 0 ≤ (f_tunes (i_bank.toInt).toNat).toInt ∧ (f_tunes (i_bank.toInt).toNat).toInt ≤ 5 := im20 (i_bank.toInt)
  have f2 : 0 ≤ (f_houses (i_bank.toInt).toNat).toInt ∧ (f_houses (i_bank.toInt).toNat).toInt ≤ 4 := im21 (i_bank.toInt)
  refine lv_iconst (v := 0) hx hb dX9_idle_0 (by decide) ?_
  refine lv_istore_n (lv' := [(1, .int 0), (0, .ref (r 0))]) hx hb dX9_idle_1 rfl hl (by decide) rfl (fun ls hl => ?_)
  refine lv_iconst (v := 0) hx hb dX9_idle_2 (by decide) ?_
  refine lv_istore_n (lv' := [(2, .int 0), (1, .int 0), (0, .ref (r 0))]) hx hb dX9_idle_3 rfl hl (by decide) rfl (fun ls hl => ?_)
  have L4 : ∀ (N4 : Nat) (y4_1 y4_2 : Int32) (H4 : Heap) (locs : List Loc) (ls : Array Slot) (g4_0 : 0 ≤ y4_2.toInt) (g4_1 : y4_2.toInt ≤ 4) (hP : va_P (dC, dI) vwCl (WM r ct i_taped i_size i_faultKind i_at i_end i_token i_number i_bank i_rb i_codes i_within i_piled i_unitsInRule i_askHouse i_askTune i_acts i_undone i_laid i_knowns i_time f_text f_tunes f_houses f_hums f_told f_many f_ruleFrom f_ruleTo f_code f_eWhat f_eSign f_all f_kept f_was f_sTune f_boxAll J L) H4) (hS : va_S (fun q => s.heap.size ≤ q) s.heap H4 locs) (hl : lv_has ls 3 [(0, .ref (r 0)), (1, .int y4_1), (2, .int y4_2)]) (hM : -1 * y4_2.toInt + 4 < (N4 : Int)), W p l e { frames := 6, cells := 0, slots := 0, locals := 222 } s m ([.ref (r 0)] : List Value).toArray below meth c0 H4 locs 0 0 Q (F0 m 4 ls []) := by
    intro N4
    induction N4 with
    | zero =>
      intro y4_1 y4_2 H4 locs ls g4_0 g4_1 hP hS hl hM
      exact ((ob_293 hM g4_0 g4_1)).elim
    | succ N4 ih4 =>
      intro y4_1 y4_2 H4 locs ls g4_0 g4_1 hP hS hl hM
      have hM4 := msucc hM
      refine lv_iload_n hx hb dX9_idle_4 rfl (lv_at hl 2 rfl) ?_
      refine lv_aload_n hx hb dX9_idle_5 rfl (lv_at hl 0 rfl) ?_
      refine va_calli (va_runV (As := []) (rest := [.int y4_2]) ⟨hx, hb, hml, hown, hG⟩ (kX9_homes l dC dI r ct i_taped i_size i_faultKind i_at i_end i_token i_number i_bank i_rb i_codes i_within i_piled i_unitsInRule i_askHouse i_askTune i_acts i_undone i_laid i_knowns i_time f_text f_tunes f_houses f_hums f_told f_many f_ruleFrom f_ruleTo f_code f_eWhat f_eSign f_all f_kept f_was f_sTune f_boxAll J L H4.size hI) (cwV 0 hG (goodV gw1167 gw1169 gw58 gw138 gw1170) rfl rfl rfl hd_X9_homes ⟨(Nat.le_of_ble_eq_true rfl), (Nat.le_of_ble_eq_true rfl)⟩) ⟨fbR, va_recv hK hP (ci := 8) (q0 := 0) rfl rfl, pR_in hP hK⟩ rfl rfl hl.1 rfl (lv_room (Nat.le_of_ble_eq_true rfl)) dX9_idle_6 ⟨(Nat.le_of_ble_eq_true rfl), (Nat.le_of_ble_eq_true rfl)⟩) hS (fun q hq h => absurd hq (Nat.not_lt.mpr h)) (fun q h => Nat.le_trans hS.1 h) (fun r_4 u_ t_ H3 locs ht hvm hw hB hz1 hk1 hS => ?_)
      subst hw
      have hP := wk hP hk1
      have f5 := hB
      have f6 : r_4.toInt = (f_houses (i_bank.toInt).toNat).toInt := (ob_278 f5)
      refine lv_icmp_ge (tgt := 32) hx hb dX9_idle_9 (by decide) (fun c_7 => ?_) (fun c_7 => ?_)
      · skip
        have f8 : r_4.toInt ≤ y4_2.toInt := qi_le c_7 rfl rfl
        refine lv_iload_n hx hb dX9_idle_32 rfl (lv_at hl 1 rfl) ?_
        rw [hQ]
        exact W.iret (v := y4_1) hx hb hr (fun t ht hW => ⟨⟨y4_1, y4_1, rfl, rfl, trivial⟩, hS.F ht⟩) hS.2.2 dX9_idle_33
      · skip
        have f9 : y4_2.toInt < r_4.toInt := qi_nle c_7 rfl rfl
        refine lv_aload_n hx hb dX9_idle_12 rfl (lv_at hl 0 rfl) ?_
        refine lv_iload_n hx hb dX9_idle_13 rfl (lv_at hl 2 rfl) ?_
        refine va_calli (va_runV (As := [.int y4_2]) (rest := []) ⟨hx, hb, hml, hown, hG⟩ (kX9_triedBy l dC dI r ct i_taped i_size i_faultKind i_at i_end i_token i_number i_bank i_rb i_codes i_within i_piled i_unitsInRule i_askHouse i_askTune i_acts i_undone i_laid i_knowns i_time f_text f_tunes f_houses f_hums f_told f_many f_ruleFrom f_ruleTo f_code f_eWhat f_eSign f_all f_kept f_was f_sTune f_boxAll J L y4_2 H3.size hI) (cwV 1 hG (goodV gw1550 gw1552 gw92 gw138 gw1553) rfl rfl rfl hd_X9_triedBy ⟨(Nat.le_of_ble_eq_true rfl), (Nat.le_of_ble_eq_true rfl)⟩) ⟨fbR, va_recv hK hP (ci := 8) (q0 := 0) rfl rfl, pR_in hP hK⟩ rfl rfl hl.1 rfl (lv_room (Nat.le_of_ble_eq_true rfl)) dX9_idle_14 ⟨(Nat.le_of_ble_eq_true rfl), (Nat.le_of_ble_eq_true rfl)⟩) hS (fun q hq h => absurd hq (Nat.not_lt.mpr h)) (fun q h => Nat.le_trans hS.1 h) (fun r_11 u_ t_ H10 locs ht hvm hw hB hz1 hk1 hS => ?_)
        subst hw
        have hP := wk hP hk1
        obtain ⟨f12, f13, f14⟩ := hB
        have f15 : r_11.toInt = (trb f_all y4_2.toInt (f_tunes (i_bank.toInt).toNat).toInt (6 - (0 : Int32).toInt).toNat (0 : Int32).toInt) := (ob_278 f14)
        refine lv_if_ge (tgt := 26) hx hb dX9_idle_17 (by decide) (fun c_16 => ?_) (fun c_16 => ?_)
        · skip
          have f17 : 0 ≤ r_11.toInt := qi_le c_16 zc_0 rfl
          obtain ⟨x18, ex18⟩ : ∃ y : Int32, y = y4_2 + Int32.ofInt 1 := ⟨_, rfl⟩
          have f19 : x18.toInt = y4_2.toInt + 1 := (ob_139 (qi_add ex18 rfl (by decide) (ob_137 g4_0) (ob_304 g4_1)))
          refine lv_iinc (v := x18) (lv' := [(2, .int x18), (0, .ref (r 0)), (1, .int y4_1)]) hx hb dX9_idle_26 hl (k := 2) rfl ex18.symm (by decide) rfl (fun ls hl => ?_)
          refine lv_goto (tgt := 4) hx hb dX9_idle_29 (by decide) ?_
          exact ih4 y4_1 x18 H10 _ _ (ob_140 g4_0 f19) (ob_305 f2 f9 f6 f19) hP hS (lv_sub hl [1, 2, 0] rfl) (ob_306 hM4 f19)
        · skip
          have f20 : r_11.toInt < 0 := qi_nle c_16 zc_0 rfl
          refine lv_iload_n hx hb dX9_idle_20 rfl (lv_at hl 1 rfl) ?_
          refine lv_iconst (v := 1) hx hb dX9_idle_21 (by decide) ?_
          refine lv_iload_n hx hb dX9_idle_22 rfl (lv_at hl 2 rfl) ?_
          refine lv_ishl hx hb dX9_idle_23 ?_
          refine lv_topi (fun x21 ex21 => ?_)
          refine lv_ior hx hb dX9_idle_24 ?_
          refine lv_topi (fun x22 ex22 => ?_)
          refine lv_istore_n (lv' := [(1, .int x22), (0, .ref (r 0)), (2, .int y4_2)]) hx hb dX9_idle_25 rfl hl (by decide) rfl (fun ls hl => ?_)
          obtain ⟨x23, ex23⟩ : ∃ y : Int32, y = y4_2 + Int32.ofInt 1 := ⟨_, rfl⟩
          have f24 : x23.toInt = y4_2.toInt + 1 := (ob_139 (qi_add ex23 rfl (by decide) (ob_137 g4_0) (ob_304 g4_1)))
          refine lv_iinc (v := x23) (lv' := [(2, .int x23), (1, .int x22), (0, .ref (r 0))]) hx hb dX9_idle_26 hl (k := 2) rfl ex23.symm (by decide) rfl (fun ls hl => ?_)
          refine lv_goto (tgt := 4) hx hb dX9_idle_29 (by decide) ?_
          exact ih4 x22 x23 H10 _ _ (ob_140 g4_0 f24) (ob_305 f2 f9 f6 f24) hP hS (lv_sub hl [2, 1, 0] rfl) (ob_306 hM4 f24)
  exact L4 (-1 * (0 : Int32).toInt + 4 + 1).toNat 0 0 s.heap _ _ (ob_5 zc_0) (ob_307 zc_0) hP hS (lv_sub hl [2, 1, 0] rfl) (mlt (ob_308 zc_0))
set_option maxHeartbeats 4000000 in
set_option maxRecDepth 100000 in
theorem kX9_fashion (l : Launch) (dC : Nat → ClassId) (dI : Nat → Nat → Nat) (r : Nat → Nat) (ct : Nat → ClassId) (i_taped i_size i_faultKind i_at i_end i_token i_number i_bank i_rb i_codes i_within i_piled i_unitsInRule i_askHouse i_askTune i_acts i_undone i_laid i_knowns i_time : Int32) (f_text f_tunes f_houses f_hums f_told f_many f_ruleFrom f_ruleTo f_code f_eWhat f_eSign f_all f_kept f_was f_sTune f_boxAll : Nat → Int32) (J : Nat → Nat → Int32) (L : Nat → Nat → Int64) (sz : Nat) (hI : (IM i_taped i_size i_at i_end i_bank i_rb i_acts i_undone i_laid i_knowns i_time f_tunes f_houses f_hums f_told f_many f_ruleFrom f_ruleTo f_code f_all f_kept f_was f_sTune f_boxAll)) : Met l yX9_fashion (.code yX9_fashion cX9_fashion 6 (some .int) :: GW) { frames := 4, cells := 0, slots := 0, locals := 162 } (va_Pc [.ref (r 0)] (pR (dC, dI) (WM r ct i_taped i_size i_faultKind i_at i_end i_token i_number i_bank i_rb i_codes i_within i_piled i_unitsInRule i_askHouse i_askTune i_acts i_undone i_laid i_knowns i_time f_text f_tunes f_houses f_hums f_told f_many f_ruleFrom f_ruleTo f_code f_eWhat f_eSign f_all f_kept f_was f_sTune f_boxAll J L) (TM ct) sz)) (va_Qi (fun (r0 : Int32) (u : Int32) => r0 = u) (fun (u : Int32) (t : State) => True) (fun q => sz ≤ q)) 0 0 (fun q => sz ≤ q) := by
  refine Met.ofW (cc := cX9_fashion) (maxL := 6) (ret := (some .int)) (by decide) rfl ?_
  intro p e s m args below meth c0 s₁ B hml hv
  obtain ⟨rfl, hsz, hP, hK⟩ := hv
  have hx := B.exec
  have hb := B.bytes
  have hr := B.returns
  have hts := atoms_spec (ws := .code yX9_fashion cX9_fashion 6 (some .int) :: GW) B.pre
  have hG : ∀ w ∈ GW, w.before _ s = true := fun w h => hts w (List.mem_cons_of_mem _ h)
  have hown : s.vm.findClass RX9 = some m.cls := findClass_of_methodNamed B.named
  subst hsz
  have hS : va_S (fun q => s.heap.size ≤ q) s.heap s.heap [] := va_S.rf
  have hP : va_P (dC, dI) vwCl (WM r ct i_taped i_size i_faultKind i_at i_end i_token i_number i_bank i_rb i_codes i_within i_piled i_unitsInRule i_askHouse i_askTune i_acts i_undone i_laid i_knowns i_time f_text f_tunes f_houses f_hums f_told f_many f_ruleFrom f_ruleTo f_code f_eWhat f_eSign f_all f_kept f_was f_sTune f_boxAll J L) s.heap := hP
  have hl := lv_entry ([.ref (r 0)]) (n := 6) (Nat.le_of_ble_eq_true rfl)
  rw [lg_entry_eq]
  generalize (lg_sl ([.ref (r 0)]) ++ List.replicate (6 - (lg_sl ([.ref (r 0)])).length) Slot.unset).toArray = ls at hl ⊢
  have hl : lv_has ls 6 [(0, .ref (r 0))] := hl
  refine nameQ (fun Q hQ => ?_)
  obtain ⟨im0, im1, im2, im3, im4, im5, im6, im7, im8, im9, im10, im11, im12, im13, im14, im15, im16, im17, im18, im19, im20, im21, im22, im23, im24, im25, im26, im27, im28, im29, im30⟩ := id hI
  have f1 : 0 ≤ (f_tunes (i_bank.toInt).toNat).toInt ∧ (f_tunes (i_bank.toInt).toNat).toInt ≤ 5 := im20 (i_bank.toInt)
  have f2 : 0 ≤ (f_houses (i_bank.toInt).toNat).toInt ∧ (f_houses (i_bank.toInt).toNat).toInt ≤ 4 := im21 (i_bank.toInt)
  refine lv_iconst (v := (-1)) hx hb dX9_fashion_0 (by decide) ?_
  refine lv_istore_n (lv' := [(1, .int (-1)), (0, .ref (r 0))]) hx hb dX9_fashion_1 rfl hl (by decide) rfl (fun ls hl => ?_)
  refine lv_iconst (v := 0) hx hb dX9_fashion_2 (by decide) ?_
  refine lv_istore_n (lv' := [(2, .int 0), (1, .int (-1)), (0, .ref (r 0))]) hx hb dX9_fashion_3 rfl hl (by decide) rfl (fun ls hl => ?_)
  refine lv_iconst (v := 0) hx hb dX9_fashion_4 (by decide) ?_
  refine lv_istore_n (lv' := [(3, .int 0), (2, .int 0), (1, .int (-1)), (0, .ref (r 0))]) hx hb dX9_fashion_5 rfl hl (by decide) rfl (fun ls hl => ?_)
  have L6 : ∀ (N6 : Nat) (y6_1 y6_2 y6_3 : Int32) (H6 : Heap) (locs : List Loc) (ls : Array Slot) (g6_0 : 0 ≤ y6_1.toInt + 1) (g6_1 : y6_1.toInt ≤ 1048576) (g6_2 : 0 ≤ y6_2.toInt) (g6_3 : 0 ≤ y6_3.toInt) (g6_4 : y6_3.toInt ≤ 7) (hP : va_P (dC, dI) vwCl (WM r ct i_taped i_size i_faultKind i_at i_end i_token i_number i_bank i_rb i_codes i_within i_piled i_unitsInRule i_askHouse i_askTune i_acts i_undone i_laid i_knowns i_time f_text f_tunes f_houses f_hums f_told f_many f_ruleFrom f_ruleTo f_code f_eWhat f_eSign f_all f_kept f_was f_sTune f_boxAll J L) H6) (hS : va_S (fun q => s.heap.size ≤ q) s.heap H6 locs) (hl : lv_has ls 6 [(0, .ref (r 0)), (1, .int y6_1), (2, .int y6_2), (3, .int y6_3)]) (hM : -1 * y6_3.toInt + 7 < (N6 : Int)), W p l e { frames := 4, cells := 0, slots := 0, locals := 162 } s m ([.ref (r 0)] : List Value).toArray below meth c0 H6 locs 0 0 Q (F0 m 6 ls []) := by
    intro N6
    induction N6 with
    | zero =>
      intro y6_1 y6_2 y6_3 H6 locs ls g6_0 g6_1 g6_2 g6_3 g6_4 hP hS hl hM
      exact ((ob_453 hM g6_3 g6_4)).elim
    | succ N6 ih6 =>
      intro y6_1 y6_2 y6_3 H6 locs ls g6_0 g6_1 g6_2 g6_3 g6_4 hP hS hl hM
      have hM6 := msucc hM
      refine lv_iload_n hx hb dX9_fashion_6 rfl (lv_at hl 3 rfl) ?_
      refine lv_bipush (v := 7) hx hb dX9_fashion_7 (by decide) ?_
      refine lv_icmp_ge (tgt := 96) hx hb dX9_fashion_9 (by decide) (fun c_3 => ?_) (fun c_3 => ?_)
      · skip
        have f4 : 7 ≤ y6_3.toInt := qi_le c_3 zc_7 rfl
        refine lv_iload_n hx hb dX9_fashion_96 rfl (lv_at hl 1 rfl) ?_
        rw [hQ]
        exact W.iret (v := y6_1) hx hb hr (fun t ht hW => ⟨⟨y6_1, y6_1, rfl, rfl, trivial⟩, hS.F ht⟩) hS.2.2 dX9_fashion_97
      · skip
        have f5 : y6_3.toInt < 7 := qi_nle c_3 zc_7 rfl
        refine lv_iconst (v := 0) hx hb dX9_fashion_12 (by decide) ?_
        refine lv_istore (lv' := [(4, .int 0), (0, .ref (r 0)), (1, .int y6_1), (2, .int y6_2), (3, .int y6_3)]) hx hb dX9_fashion_13 hl (by decide) rfl (fun ls hl => ?_)
        refine lv_iconst (v := 0) hx hb dX9_fashion_15 (by decide) ?_
        refine lv_istore (lv' := [(5, .int 0), (4, .int 0), (0, .ref (r 0)), (1, .int y6_1), (2, .int y6_2), (3, .int y6_3)]) hx hb dX9_fashion_16 hl (by decide) rfl (fun ls hl => ?_)
        have L18 : ∀ (N18 : Nat) (y18_4 y18_5 : Int32) (H18 : Heap) (locs : List Loc) (ls : Array Slot) (g18_0 : 0 ≤ y18_5.toInt) (g18_1 : y18_5.toInt ≤ 4) (hP : va_P (dC, dI) vwCl (WM r ct i_taped i_size i_faultKind i_at i_end i_token i_number i_bank i_rb i_codes i_within i_piled i_unitsInRule i_askHouse i_askTune i_acts i_undone i_laid i_knowns i_time f_text f_tunes f_houses f_hums f_told f_many f_ruleFrom f_ruleTo f_code f_eWhat f_eSign f_all f_kept f_was f_sTune f_boxAll J L) H18) (hS : va_S (fun q => s.heap.size ≤ q) s.heap H18 locs) (hl : lv_has ls 6 [(0, .ref (r 0)), (1, .int y6_1), (2, .int y6_2), (3, .int y6_3), (4, .int y18_4), (5, .int y18_5)]) (hM : -1 * y18_5.toInt + 4 < (N18 : Int)), W p l e { frames := 4, cells := 0, slots := 0, locals := 162 } s m ([.ref (r 0)] : List Value).toArray below meth c0 H18 locs 0 0 Q (F0 m 18 ls []) := by
          intro N18
          induction N18 with
          | zero =>
            intro y18_4 y18_5 H18 locs ls g18_0 g18_1 hP hS hl hM
            exact ((ob_293 hM g18_0 g18_1)).elim
          | succ N18 ih18 =>
            intro y18_4 y18_5 H18 locs ls g18_0 g18_1 hP hS hl hM
            have hM18 := msucc hM
            refine lv_iload hx hb dX9_fashion_18 (lv_at hl 5 rfl) ?_
            refine lv_aload_n hx hb dX9_fashion_20 rfl (lv_at hl 0 rfl) ?_
            refine va_calli (va_runV (As := []) (rest := [.int y18_5]) ⟨hx, hb, hml, hown, hG⟩ (kX9_homes l dC dI r ct i_taped i_size i_faultKind i_at i_end i_token i_number i_bank i_rb i_codes i_within i_piled i_unitsInRule i_askHouse i_askTune i_acts i_undone i_laid i_knowns i_time f_text f_tunes f_houses f_hums f_told f_many f_ruleFrom f_ruleTo f_code f_eWhat f_eSign f_all f_kept f_was f_sTune f_boxAll J L H18.size hI) (cwV 0 hG (goodV gw1167 gw1169 gw58 gw138 gw1170) rfl rfl rfl hd_X9_homes ⟨(Nat.le_of_ble_eq_true rfl), (Nat.le_of_ble_eq_true rfl)⟩) ⟨fbR, va_recv hK hP (ci := 8) (q0 := 0) rfl rfl, pR_in hP hK⟩ rfl rfl hl.1 rfl (lv_room (Nat.le_of_ble_eq_true rfl)) dX9_fashion_21 ⟨(Nat.le_of_ble_eq_true rfl), (Nat.le_of_ble_eq_true rfl)⟩) hS (fun q hq h => absurd hq (Nat.not_lt.mpr h)) (fun q h => Nat.le_trans hS.1 h) (fun r_7 u_ t_ H6 locs ht hvm hw hB hz1 hk1 hS => ?_)
            subst hw
            have hP := wk hP hk1
            have f8 := hB
            have f9 : r_7.toInt = (f_houses (i_bank.toInt).toNat).toInt := (ob_278 f8)
            refine lv_icmp_ge (tgt := 76) hx hb dX9_fashion_24 (by decide) (fun c_10 => ?_) (fun c_10 => ?_)
            · skip
              have f11 : r_7.toInt ≤ y18_5.toInt := qi_le c_10 rfl rfl
              refine lv_iload hx hb dX9_fashion_76 (lv_at hl 4 rfl) ?_
              refine lv_iload_n hx hb dX9_fashion_78 rfl (lv_at hl 2 rfl) ?_
              refine lv_icmp_gt (tgt := 85) hx hb dX9_fashion_79 (by decide) (fun c_12 => ?_) (fun c_12 => ?_)
              · skip
                have f13 : y6_2.toInt < y18_4.toInt := qi_lt c_12 rfl rfl
                refine lv_iload_n hx hb dX9_fashion_85 rfl (lv_at hl 3 rfl) ?_
                refine lv_istore_n (lv' := [(1, .int y6_3), (0, .ref (r 0)), (2, .int y6_2), (3, .int y6_3), (4, .int y18_4), (5, .int y18_5)]) hx hb dX9_fashion_86 rfl hl (by decide) rfl (fun ls hl => ?_)
                refine lv_iload hx hb dX9_fashion_87 (lv_at hl 4 rfl) ?_
                refine lv_istore_n (lv' := [(2, .int y18_4), (1, .int y6_3), (0, .ref (r 0)), (3, .int y6_3), (4, .int y18_4), (5, .int y18_5)]) hx hb dX9_fashion_89 rfl hl (by decide) rfl (fun ls hl => ?_)
                obtain ⟨x14, ex14⟩ : ∃ y : Int32, y = y6_3 + Int32.ofInt 1 := ⟨_, rfl⟩
                have f15 : x14.toInt = y6_3.toInt + 1 := (ob_139 (qi_add ex14 rfl (by decide) (ob_137 g6_3) (ob_454 g6_4)))
                refine lv_iinc (v := x14) (lv' := [(3, .int x14), (2, .int y18_4), (1, .int y6_3), (0, .ref (r 0)), (4, .int y18_4), (5, .int y18_5)]) hx hb dX9_fashion_90 hl (k := 3) rfl ex14.symm (by decide) rfl (fun ls hl => ?_)
                refine lv_goto (tgt := 6) hx hb dX9_fashion_93 (by decide) ?_
                exact ih6 y6_3 y18_4 x14 H6 _ _ (ob_360 g6_3) (ob_455 g6_4) (ob_456 g6_2 f13) (ob_140 g6_3 f15) (ob_457 f5 f15) hP hS (lv_sub hl [3, 2, 1, 0] rfl) (ob_458 hM6 f15)
              · skip
                have f16 : y18_4.toInt ≤ y6_2.toInt := qi_nlt c_12 rfl rfl
                refine lv_goto (tgt := 90) hx hb dX9_fashion_82 (by decide) ?_
                obtain ⟨x17, ex17⟩ : ∃ y : Int32, y = y6_3 + Int32.ofInt 1 := ⟨_, rfl⟩
                have f18 : x17.toInt = y6_3.toInt + 1 := (ob_139 (qi_add ex17 rfl (by decide) (ob_137 g6_3) (ob_454 g6_4)))
                refine lv_iinc (v := x17) (lv' := [(3, .int x17), (0, .ref (r 0)), (1, .int y6_1), (2, .int y6_2), (4, .int y18_4), (5, .int y18_5)]) hx hb dX9_fashion_90 hl (k := 3) rfl ex17.symm (by decide) rfl (fun ls hl => ?_)
                refine lv_goto (tgt := 6) hx hb dX9_fashion_93 (by decide) ?_
                exact ih6 y6_1 y6_2 x17 H6 _ _ (ob_459 g6_0 g6_1) (ob_460 g6_0 g6_1) (ob_461 g6_2 f16) (ob_140 g6_3 f18) (ob_457 f5 f18) hP hS (lv_sub hl [1, 2, 3, 0] rfl) (ob_458 hM6 f18)
            · skip
              have f19 : y18_5.toInt < r_7.toInt := qi_nle c_10 rfl rfl
              refine lv_iload hx hb dX9_fashion_27 (lv_at hl 4 rfl) ?_
              refine lv_aload_n hx hb dX9_fashion_29 rfl (lv_at hl 0 rfl) ?_
              refine lv_iload hx hb dX9_fashion_30 (lv_at hl 5 rfl) ?_
              refine lv_iconst (v := 0) hx hb dX9_fashion_32 (by decide) ?_
              refine va_calli (va_runV (As := [.int y18_5, .int 0]) (rest := [.int y18_4]) ⟨hx, hb, hml, hown, hG⟩ (kX9_likesOf l dC dI r ct i_taped i_size i_faultKind i_at i_end i_token i_number i_bank i_rb i_codes i_within i_piled i_unitsInRule i_askHouse i_askTune i_acts i_undone i_laid i_knowns i_time f_text f_tunes f_houses f_hums f_told f_many f_ruleFrom f_ruleTo f_code f_eWhat f_eSign f_all f_kept f_was f_sTune f_boxAll J L y18_5 0 H6.size hI (ob_133 g18_0) (ob_361 f19 f9) (ob_5 zc_0) (ob_136 zc_0)) (cwV 2 hG (goodV gw1582 gw1584 gw99 gw138 gw1585) rfl rfl rfl hd_X9_likesOf ⟨(Nat.le_of_ble_eq_true rfl), (Nat.le_of_ble_eq_true rfl)⟩) ⟨fbR, va_recv hK hP (ci := 8) (q0 := 0) rfl rfl, pR_in hP hK⟩ rfl rfl hl.1 rfl (lv_room (Nat.le_of_ble_eq_true rfl)) dX9_fashion_33 ⟨(Nat.le_of_ble_eq_true rfl), (Nat.le_of_ble_eq_true rfl)⟩) hS (fun q hq h => absurd hq (Nat.not_lt.mpr h)) (fun q h => Nat.le_trans hS.1 h) (fun r_21 u_ t_ H20 locs ht hvm hw hB hz1 hk1 hS => ?_)
              subst hw
              have hP := wk hP hk1
              refine lv_iload_n hx hb dX9_fashion_36 rfl (lv_at hl 3 rfl) ?_
              refine lv_icmp_eq (tgt := 62) hx hb dX9_fashion_37 (by decide) (fun c_22 => ?_) (fun c_22 => ?_)
              · skip
                have f23 : r_21.toInt = y6_3.toInt := qi_eq c_22 rfl rfl
                refine lv_iconst (v := 1) hx hb dX9_fashion_62 (by decide) ?_
                refine lv_goto (tgt := 67) hx hb dX9_fashion_63 (by decide) ?_
                refine lv_iadd hx hb dX9_fashion_67 ?_
                refine lv_topi (fun x24 ex24 => ?_)
                refine lv_istore (lv' := [(4, .int x24), (0, .ref (r 0)), (1, .int y6_1), (2, .int y6_2), (3, .int y6_3), (5, .int y18_5)]) hx hb dX9_fashion_68 hl (by decide) rfl (fun ls hl => ?_)
                obtain ⟨x25, ex25⟩ : ∃ y : Int32, y = y18_5 + Int32.ofInt 1 := ⟨_, rfl⟩
                have f26 : x25.toInt = y18_5.toInt + 1 := (ob_139 (qi_add ex25 rfl (by decide) (ob_137 g18_0) (ob_304 g18_1)))
                refine lv_iinc (v := x25) (lv' := [(5, .int x25), (4, .int x24), (0, .ref (r 0)), (1, .int y6_1), (2, .int y6_2), (3, .int y6_3)]) hx hb dX9_fashion_70 hl (k := 5) rfl ex25.symm (by decide) rfl (fun ls hl => ?_)
                refine lv_goto (tgt := 18) hx hb dX9_fashion_73 (by decide) ?_
                exact ih18 x24 x25 H20 _ _ (ob_140 g18_0 f26) (ob_305 f2 f19 f9 f26) hP hS (lv_sub hl [2, 3, 4, 5, 1, 0] rfl) (ob_306 hM18 f26)
              · skip
                have f27 : r_21.toInt ≠ y6_3.toInt := qi_ne c_22 rfl rfl
                refine lv_aload_n hx hb dX9_fashion_40 rfl (lv_at hl 0 rfl) ?_
                refine lv_iload hx hb dX9_fashion_41 (lv_at hl 5 rfl) ?_
                refine lv_iconst (v := 1) hx hb dX9_fashion_43 (by decide) ?_
                refine va_calli (va_runV (As := [.int y18_5, .int 1]) (rest := [.int y18_4]) ⟨hx, hb, hml, hown, hG⟩ (kX9_likesOf l dC dI r ct i_taped i_size i_faultKind i_at i_end i_token i_number i_bank i_rb i_codes i_within i_piled i_unitsInRule i_askHouse i_askTune i_acts i_undone i_laid i_knowns i_time f_text f_tunes f_houses f_hums f_told f_many f_ruleFrom f_ruleTo f_code f_eWhat f_eSign f_all f_kept f_was f_sTune f_boxAll J L y18_5 1 H20.size hI (ob_133 g18_0) (ob_361 f19 f9) (ob_9 zc_1) (ob_143 zc_1)) (cwV 2 hG (goodV gw1582 gw1584 gw99 gw138 gw1585) rfl rfl rfl hd_X9_likesOf ⟨(Nat.le_of_ble_eq_true rfl), (Nat.le_of_ble_eq_true rfl)⟩) ⟨fbR, va_recv hK hP (ci := 8) (q0 := 0) rfl rfl, pR_in hP hK⟩ rfl rfl hl.1 rfl (lv_room (Nat.le_of_ble_eq_true rfl)) dX9_fashion_44 ⟨(Nat.le_of_ble_eq_true rfl), (Nat.le_of_ble_eq_true rfl)⟩) hS (fun q hq h => absurd hq (Nat.not_lt.mpr h)) (fun q h => Nat.le_trans hS.1 h) (fun r_29 u_ t_ H28 locs ht hvm hw hB hz1 hk1 hS => ?_)
                subst hw
                have hP := wk hP hk1
                refine lv_iload_n hx hb dX9_fashion_47 rfl (lv_at hl 3 rfl) ?_
                refine lv_icmp_eq (tgt := 62) hx hb dX9_fashion_48 (by decide) (fun c_30 => ?_) (fun c_30 => ?_)
                · skip
                  have f31 : r_29.toInt = y6_3.toInt := qi_eq c_30 rfl rfl
                  refine lv_iconst (v := 1) hx hb dX9_fashion_62 (by decide) ?_
                  refine lv_goto (tgt := 67) hx hb dX9_fashion_63 (by decide) ?_
                  refine lv_iadd hx hb dX9_fashion_67 ?_
                  refine lv_topi (fun x32 ex32 => ?_)
                  refine lv_istore (lv' := [(4, .int x32), (0, .ref (r 0)), (1, .int y6_1), (2, .int y6_2), (3, .int y6_3), (5, .int y18_5)]) hx hb dX9_fashion_68 hl (by decide) rfl (fun ls hl => ?_)
                  obtain ⟨x33, ex33⟩ : ∃ y : Int32, y = y18_5 + Int32.ofInt 1 := ⟨_, rfl⟩
                  have f34 : x33.toInt = y18_5.toInt + 1 := (ob_139 (qi_add ex33 rfl (by decide) (ob_137 g18_0) (ob_304 g18_1)))
                  refine lv_iinc (v := x33) (lv' := [(5, .int x33), (4, .int x32), (0, .ref (r 0)), (1, .int y6_1), (2, .int y6_2), (3, .int y6_3)]) hx hb dX9_fashion_70 hl (k := 5) rfl ex33.symm (by decide) rfl (fun ls hl => ?_)
                  refine lv_goto (tgt := 18) hx hb dX9_fashion_73 (by decide) ?_
                  exact ih18 x32 x33 H28 _ _ (ob_140 g18_0 f34) (ob_305 f2 f19 f9 f34) hP hS (lv_sub hl [2, 3, 4, 5, 1, 0] rfl) (ob_306 hM18 f34)
                · skip
                  have f35 : r_29.toInt ≠ y6_3.toInt := qi_ne c_30 rfl rfl
                  refine lv_aload_n hx hb dX9_fashion_51 rfl (lv_at hl 0 rfl) ?_
                  refine lv_iload hx hb dX9_fashion_52 (lv_at hl 5 rfl) ?_
                  refine lv_iconst (v := 2) hx hb dX9_fashion_54 (by decide) ?_
                  refine va_calli (va_runV (As := [.int y18_5, .int 2]) (rest := [.int y18_4]) ⟨hx, hb, hml, hown, hG⟩ (kX9_likesOf l dC dI r ct i_taped i_size i_faultKind i_at i_end i_token i_number i_bank i_rb i_codes i_within i_piled i_unitsInRule i_askHouse i_askTune i_acts i_undone i_laid i_knowns i_time f_text f_tunes f_houses f_hums f_told f_many f_ruleFrom f_ruleTo f_code f_eWhat f_eSign f_all f_kept f_was f_sTune f_boxAll J L y18_5 2 H28.size hI (ob_133 g18_0) (ob_361 f19 f9) (ob_144 zc_2) (ob_145 zc_2)) (cwV 2 hG (goodV gw1582 gw1584 gw99 gw138 gw1585) rfl rfl rfl hd_X9_likesOf ⟨(Nat.le_of_ble_eq_true rfl), (Nat.le_of_ble_eq_true rfl)⟩) ⟨fbR, va_recv hK hP (ci := 8) (q0 := 0) rfl rfl, pR_in hP hK⟩ rfl rfl hl.1 rfl (lv_room (Nat.le_of_ble_eq_true rfl)) dX9_fashion_55 ⟨(Nat.le_of_ble_eq_true rfl), (Nat.le_of_ble_eq_true rfl)⟩) hS (fun q hq h => absurd hq (Nat.not_lt.mpr h)) (fun q h => Nat.le_trans hS.1 h) (fun r_37 u_ t_ H36 locs ht hvm hw hB hz1 hk1 hS => ?_)
                  subst hw
                  have hP := wk hP hk1
                  refine lv_iload_n hx hb dX9_fashion_58 rfl (lv_at hl 3 rfl) ?_
                  refine lv_icmp_ne (tgt := 66) hx hb dX9_fashion_59 (by decide) (fun c_38 => ?_) (fun c_38 => ?_)
                  · skip
                    have f39 : r_37.toInt ≠ y6_3.toInt := qi_ne c_38 rfl rfl
                    refine lv_iconst (v := 0) hx hb dX9_fashion_66 (by decide) ?_
                    refine lv_iadd hx hb dX9_fashion_67 ?_
                    refine lv_topi (fun x40 ex40 => ?_)
                    refine lv_istore (lv' := [(4, .int x40), (0, .ref (r 0)), (1, .int y6_1), (2, .int y6_2), (3, .int y6_3), (5, .int y18_5)]) hx hb dX9_fashion_68 hl (by decide) rfl (fun ls hl => ?_)
                    obtain ⟨x41, ex41⟩ : ∃ y : Int32, y = y18_5 + Int32.ofInt 1 := ⟨_, rfl⟩
                    have f42 : x41.toInt = y18_5.toInt + 1 := (ob_139 (qi_add ex41 rfl (by decide) (ob_137 g18_0) (ob_304 g18_1)))
                    refine lv_iinc (v := x41) (lv' := [(5, .int x41), (4, .int x40), (0, .ref (r 0)), (1, .int y6_1), (2, .int y6_2), (3, .int y6_3)]) hx hb dX9_fashion_70 hl (k := 5) rfl ex41.symm (by decide) rfl (fun ls hl => ?_)
                    refine lv_goto (tgt := 18) hx hb dX9_fashion_73 (by decide) ?_
                    exact ih18 x40 x41 H36 _ _ (ob_140 g18_0 f42) (ob_305 f2 f19 f9 f42) hP hS (lv_sub hl [2, 3, 4, 5, 1, 0] rfl) (ob_306 hM18 f42)
                  · skip
                    have f43 : r_37.toInt = y6_3.toInt := qi_eq c_38 rfl rfl
                    refine lv_iconst (v := 1) hx hb dX9_fashion_62 (by decide) ?_
                    refine lv_goto (tgt := 67) hx hb dX9_fashion_63 (by decide) ?_
                    refine lv_iadd hx hb dX9_fashion_67 ?_
                    refine lv_topi (fun x44 ex44 => ?_)
                    refine lv_istore (lv' := [(4, .int x44), (0, .ref (r 0)), (1, .int y6_1), (2, .int y6_2), (3, .int y6_3), (5, .int y18_5)]) hx hb dX9_fashion_68 hl (by decide) rfl (fun ls hl => ?_)
                    obtain ⟨x45, ex45⟩ : ∃ y : Int32, y = y18_5 + Int32.ofInt 1 := ⟨_, rfl⟩
                    have f46 : x45.toInt = y18_5.toInt + 1 := (ob_139 (qi_add ex45 rfl (by decide) (ob_137 g18_0) (ob_304 g18_1)))
                    refine lv_iinc (v := x45) (lv' := [(5, .int x45), (4, .int x44), (0, .ref (r 0)), (1, .int y6_1), (2, .int y6_2), (3, .int y6_3)]) hx hb dX9_fashion_70 hl (k := 5) rfl ex45.symm (by decide) rfl (fun ls hl => ?_)
                    refine lv_goto (tgt := 18) hx hb dX9_fashion_73 (by decide) ?_
                    exact ih18 x44 x45 H36 _ _ (ob_140 g18_0 f46) (ob_305 f2 f19 f9 f46) hP hS (lv_sub hl [2, 3, 4, 5, 1, 0] rfl) (ob_306 hM18 f46)
        exact L18 (-1 * (0 : Int32).toInt + 4 + 1).toNat 0 0 H6 _ _ (ob_5 zc_0) (ob_307 zc_0) hP hS (lv_sub hl [2, 3, 4, 5, 1, 0] rfl) (mlt (ob_308 zc_0))
  exact L6 (-1 * (0 : Int32).toInt + 7 + 1).toNat (-1) 0 0 s.heap _ _ (ob_349 zc_m1) (ob_462 zc_m1) (ob_5 zc_0) (ob_5 zc_0) (ob_463 zc_0) hP hS (lv_sub hl [3, 2, 1, 0] rfl) (mlt (ob_464 zc_0))
set_option maxHeartbeats 4000000 in
set_option maxRecDepth 100000 in
theorem kX9_due (l : Launch) (dC : Nat → ClassId) (dI : Nat → Nat → Nat) (r : Nat → Nat) (ct : Nat → ClassId) (i_taped i_size i_faultKind i_at i_end i_token i_number i_bank i_rb i_codes i_within i_piled i_unitsInRule i_askHouse i_askTune i_acts i_undone i_laid i_knowns i_time : Int32) (f_text f_tunes f_houses f_hums f_told f_many f_ruleFrom f_ruleTo f_code f_eWhat f_eSign f_all f_kept f_was f_sTune f_boxAll : Nat → Int32) (J : Nat → Nat → Int32) (L : Nat → Nat → Int64) (p0 : Int32) (sz : Nat) (hI : (IM i_taped i_size i_at i_end i_bank i_rb i_acts i_undone i_laid i_knowns i_time f_tunes f_houses f_hums f_told f_many f_ruleFrom f_ruleTo f_code f_all f_kept f_was f_sTune f_boxAll)) : Met l yX9_due (.code yX9_due cX9_due 2 (some .int) :: GW) { frames := 6, cells := 0, slots := 0, locals := 223 } (va_Pc [.ref (r 0), .int p0] (pR (dC, dI) (WM r ct i_taped i_size i_faultKind i_at i_end i_token i_number i_bank i_rb i_codes i_within i_piled i_unitsInRule i_askHouse i_askTune i_acts i_undone i_laid i_knowns i_time f_text f_tunes f_houses f_hums f_told f_many f_ruleFrom f_ruleTo f_code f_eWhat f_eSign f_all f_kept f_was f_sTune f_boxAll J L) (TM ct) sz)) (va_Qi (fun (r0 : Int32) (u : Int32) => r0 = u) (fun (u : Int32) (t : State) => True) (fun q => sz ≤ q)) 0 0 (fun q => sz ≤ q) := by
  refine Met.ofW (cc := cX9_due) (maxL := 2) (ret := (some .int)) (by decide) rfl ?_
  intro p e s m args below meth c0 s₁ B hml hv
  obtain ⟨rfl, hsz, hP, hK⟩ := hv
  have hx := B.exec
  have hb := B.bytes
  have hr := B.returns
  have hts := atoms_spec (ws := .code yX9_due cX9_due 2 (some .int) :: GW) B.pre
  have hG : ∀ w ∈ GW, w.before _ s = true := fun w h => hts w (List.mem_cons_of_mem _ h)
  have hown : s.vm.findClass RX9 = some m.cls := findClass_of_methodNamed B.named
  subst hsz
  have hS : va_S (fun q => s.heap.size ≤ q) s.heap s.heap [] := va_S.rf
  have hP : va_P (dC, dI) vwCl (WM r ct i_taped i_size i_faultKind i_at i_end i_token i_number i_bank i_rb i_codes i_within i_piled i_unitsInRule i_askHouse i_askTune i_acts i_undone i_laid i_knowns i_time f_text f_tunes f_houses f_hums f_told f_many f_ruleFrom f_ruleTo f_code f_eWhat f_eSign f_all f_kept f_was f_sTune f_boxAll J L) s.heap := hP
  have hl := lv_entry ([.ref (r 0), .int p0]) (n := 2) (Nat.le_of_ble_eq_true rfl)
  rw [lg_entry_eq]
  generalize (lg_sl ([.ref (r 0), .int p0]) ++ List.replicate (2 - (lg_sl ([.ref (r 0), .int p0])).length) Slot.unset).toArray = ls at hl ⊢
  have hl : lv_has ls 2 [(0, .ref (r 0)), (1, .int p0)] := hl
  refine nameQ (fun Q hQ => ?_)
  obtain ⟨im0, im1, im2, im3, im4, im5, im6, im7, im8, im9, im10, im11, im12, im13, im14, im15, im16, im17, im18, im19, im20, im21, im22, im23, im24, im25, im26, im27, im28, im29, im30⟩ := id hI
  have f1 : 0 ≤ (f_tunes (i_bank.toInt).toNat).toInt ∧ (f_tunes (i_bank.toInt).toNat).toInt ≤ 5 := im20 (i_bank.toInt)
  have f2 : 0 ≤ (f_houses (i_bank.toInt).toNat).toInt ∧ (f_houses (i_bank.toInt).toNat).toInt ≤ 4 := im21 (i_bank.toInt)
  refine lv_aload_n hx hb dX9_due_0 rfl (lv_at hl 0 rfl) ?_
  refine lv_iload_n hx hb dX9_due_1 rfl (lv_at hl 1 rfl) ?_
  refine va_calli (va_runV (As := [.int p0]) (rest := []) ⟨hx, hb, hml, hown, hG⟩ (kX9_isTune l dC dI r ct i_taped i_size i_faultKind i_at i_end i_token i_number i_bank i_rb i_codes i_within i_piled i_unitsInRule i_askHouse i_askTune i_acts i_undone i_laid i_knowns i_time f_text f_tunes f_houses f_hums f_told f_many f_ruleFrom f_ruleTo f_code f_eWhat f_eSign f_all f_kept f_was f_sTune f_boxAll J L p0 s.heap.size hI) (cwV 1 hG (goodV gw1508 gw1510 gw85 gw138 gw1511) rfl rfl rfl hd_X9_isTune ⟨(Nat.le_of_ble_eq_true rfl), (Nat.le_of_ble_eq_true rfl)⟩) ⟨fbR, va_recv hK hP (ci := 8) (q0 := 0) rfl rfl, pR_in hP hK⟩ rfl rfl hl.1 rfl (lv_room (Nat.le_of_ble_eq_true rfl)) dX9_due_2 ⟨(Nat.le_of_ble_eq_true rfl), (Nat.le_of_ble_eq_true rfl)⟩) hS (fun q hq h => absurd hq (Nat.not_lt.mpr h)) (fun q h => Nat.le_trans hS.1 h) (fun r_4 u_ t_ H3 locs ht hvm hw hB hz1 hk1 hS => ?_)
  subst hw
  have hP := wk hP hk1
  obtain ⟨f5, f6, f7, f8, f9⟩ := hB
  refine lv_if_eq (tgt := 44) hx hb dX9_due_5 (by decide) (fun c_10 => ?_) (fun c_10 => ?_)
  · skip
    have f11 : r_4.toInt = 0 := qi_eq c_10 rfl zc_0
    refine lv_iconst (v := (-1)) hx hb dX9_due_44 (by decide) ?_
    rw [hQ]
    exact W.iret (v := (-1)) hx hb hr (fun t ht hW => ⟨⟨(-1), (-1), rfl, rfl, trivial⟩, hS.F ht⟩) hS.2.2 dX9_due_45
  · skip
    have f12 : r_4.toInt ≠ 0 := qi_ne c_10 rfl zc_0
    have f13 : 1 ≤ r_4.toInt := (ob_399 f5 f12)
    have f14 : 0 ≤ p0.toInt := (ob_400 f5 f12)
    have f15 : p0.toInt + 1 ≤ (f_tunes (i_bank.toInt).toNat).toInt := (ob_401 f5 f12)
    have f16 : r_4.toInt = 1 := (ob_402 f7 f13)
    refine lv_aload_n hx hb dX9_due_8 rfl (lv_at hl 0 rfl) ?_
    refine lv_iload_n hx hb dX9_due_9 rfl (lv_at hl 1 rfl) ?_
    refine va_calli (va_runV (As := [.int p0]) (rest := []) ⟨hx, hb, hml, hown, hG⟩ (kX9_isTried l dC dI r ct i_taped i_size i_faultKind i_at i_end i_token i_number i_bank i_rb i_codes i_within i_piled i_unitsInRule i_askHouse i_askTune i_acts i_undone i_laid i_knowns i_time f_text f_tunes f_houses f_hums f_told f_many f_ruleFrom f_ruleTo f_code f_eWhat f_eSign f_all f_kept f_was f_sTune f_boxAll J L p0 H3.size hI (ob_108 f14 f15) (ob_109 f1 f14 f15)) (cwV 1 hG (goodV gw1668 gw1670 gw106 gw138 gw1671) rfl rfl rfl hd_X9_isTried ⟨(Nat.le_of_ble_eq_true rfl), (Nat.le_of_ble_eq_true rfl)⟩) ⟨fbR, va_recv hK hP (ci := 8) (q0 := 0) rfl rfl, pR_in hP hK⟩ rfl rfl hl.1 rfl (lv_room (Nat.le_of_ble_eq_true rfl)) dX9_due_10 ⟨(Nat.le_of_ble_eq_true rfl), (Nat.le_of_ble_eq_true rfl)⟩) hS (fun q hq h => absurd hq (Nat.not_lt.mpr h)) (fun q h => Nat.le_trans hS.1 h) (fun r_18 u_ t_ H17 locs ht hvm hw hB hz1 hk1 hS => ?_)
    subst hw
    have hP := wk hP hk1
    obtain ⟨f19, f20, f21⟩ := hB
    refine lv_if_eq (tgt := 44) hx hb dX9_due_13 (by decide) (fun c_22 => ?_) (fun c_22 => ?_)
    · skip
      have f23 : r_18.toInt = 0 := qi_eq c_22 rfl zc_0
      refine lv_iconst (v := (-1)) hx hb dX9_due_44 (by decide) ?_
      rw [hQ]
      exact W.iret (v := (-1)) hx hb hr (fun t ht hW => ⟨⟨(-1), (-1), rfl, rfl, trivial⟩, hS.F ht⟩) hS.2.2 dX9_due_45
    · skip
      have f24 : r_18.toInt ≠ 0 := qi_ne c_22 rfl zc_0
      have f25 : 1 ≤ r_18.toInt := (ob_465 f19 f24)
      have f26 : 0 ≤ (f_all (p0.toInt).toNat).toInt := (ob_466 f19 f24)
      have f27 : (f_all (p0.toInt + 5).toNat).toInt = 0 := (ob_467 f19 f24)
      have f28 : r_18.toInt = 1 := (ob_167 f20 f21 f25)
      refine lv_aload_n hx hb dX9_due_16 rfl (lv_at hl 0 rfl) ?_
      refine gM_X9_20_0 hx hb hG hown hK hP dX9_due_17 ?_
      refine lv_aload_n hx hb dX9_due_20 rfl (lv_at hl 0 rfl) ?_
      refine gM_X9_249_0 hx hb hG hown hK hP dX9_due_21 ?_
      refine ldM_3 (mm := i_bank.toInt) hx hb hK hP rfl (ob_179 im4 im5) (ob_180 im4 im5) dX9_due_24 (fun x29 => ?_)
      refine lv_aload_n hx hb dX9_due_25 rfl (lv_at hl 0 rfl) ?_
      refine gM_X9_88_0 hx hb hG hown hK hP dX9_due_26 ?_
      refine lv_bipush (v := 15) hx hb dX9_due_29 (by decide) ?_
      refine lv_iload_n hx hb dX9_due_31 rfl (lv_at hl 1 rfl) ?_
      refine lv_iadd hx hb dX9_due_32 ?_
      refine lv_topi (fun x30 ex30 => ?_)
      have f31 : x30.toInt = p0.toInt + 15 := (ob_371 (qi_add ex30 zc_15 rfl (ob_377 f14 f15) (ob_370 f1 f15)))
      refine ldM_25 (mm := p0.toInt + 15) hx hb hK hP f31 (ob_379 f14 f15) (ob_373 f1 f15) dX9_due_33 ?_
      refine lv_isub hx hb dX9_due_34 ?_
      refine lv_topi (fun x32 ex32 => ?_)
      refine lv_iconst (v := 1) hx hb dX9_due_35 (by decide) ?_
      refine lv_bipush (v := 60) hx hb dX9_due_36 (by decide) ?_
      refine va_calli (va_runS (As := [.int x32, .int 1, .int 60]) (rest := []) ⟨hx, hb, hml, hown, hG⟩ (kX9_held l dC dI x32 1 60 H17.size) (va_cwS 3 hG (goodS gw1527 gw1528 gw138 gw1529) rfl rfl rfl hd_X9_held ⟨(Nat.le_of_ble_eq_true rfl), (Nat.le_of_ble_eq_true rfl)⟩) ⟨fbR, pR_in emptyP (emptyK hK)⟩ rfl rfl hl.1 rfl (lv_room (Nat.le_of_ble_eq_true rfl)) dX9_due_38 ⟨(Nat.le_of_ble_eq_true rfl), (Nat.le_of_ble_eq_true rfl)⟩) hS (fun q hq h => absurd hq (Nat.not_lt.mpr h)) (fun q h => Nat.le_trans hS.1 h) (fun r_34 u_ t_ H33 locs ht hvm hw hB hz1 hk1 hS => ?_)
      subst hw
      have hP := wk hP hk1
      have f35 := hB
      refine lv_goto (tgt := 45) hx hb dX9_due_41 (by decide) ?_
      rw [hQ]
      exact W.iret (v := r_34) hx hb hr (fun t ht hW => ⟨⟨r_34, r_34, rfl, rfl, trivial⟩, hS.F ht⟩) hS.2.2 dX9_due_45
set_option maxHeartbeats 4000000 in
set_option maxRecDepth 100000 in
theorem kX9_along (l : Launch) (dC : Nat → ClassId) (dI : Nat → Nat → Nat) (r : Nat → Nat) (ct : Nat → ClassId) (i_taped i_size i_faultKind i_at i_end i_token i_number i_bank i_rb i_codes i_within i_piled i_unitsInRule i_askHouse i_askTune i_acts i_undone i_laid i_knowns i_time : Int32) (f_text f_tunes f_houses f_hums f_told f_many f_ruleFrom f_ruleTo f_code f_eWhat f_eSign f_all f_kept f_was f_sTune f_boxAll : Nat → Int32) (J : Nat → Nat → Int32) (L : Nat → Nat → Int64) (p0 p1 : Int32) (sz : Nat) (hI : (IM i_taped i_size i_at i_end i_bank i_rb i_acts i_undone i_laid i_knowns i_time f_tunes f_houses f_hums f_told f_many f_ruleFrom f_ruleTo f_code f_all f_kept f_was f_sTune f_boxAll)) : Met l yX9_along (.code yX9_along cX9_along 5 (some .int) :: GW) { frames := 4, cells := 0, slots := 0, locals := 162 } (va_Pc [.ref (r 0), .int p0, .int p1] (pR (dC, dI) (WM r ct i_taped i_size i_faultKind i_at i_end i_token i_number i_bank i_rb i_codes i_within i_piled i_unitsInRule i_askHouse i_askTune i_acts i_undone i_laid i_knowns i_time f_text f_tunes f_houses f_hums f_told f_many f_ruleFrom f_ruleTo f_code f_eWhat f_eSign f_all f_kept f_was f_sTune f_boxAll J L) (TM ct) sz)) (va_Qi (fun (r0 : Int32) (u : Int32) => r0 = u) (fun (u : Int32) (t : State) => True) (fun q => sz ≤ q)) 0 0 (fun q => sz ≤ q) := by
  refine Met.ofW (cc := cX9_along) (maxL := 5) (ret := (some .int)) (by decide) rfl ?_
  intro p e s m args below meth c0 s₁ B hml hv
  obtain ⟨rfl, hsz, hP, hK⟩ := hv
  have hx := B.exec
  have hb := B.bytes
  have hr := B.returns
  have hts := atoms_spec (ws := .code yX9_along cX9_along 5 (some .int) :: GW) B.pre
  have hG : ∀ w ∈ GW, w.before _ s = true := fun w h => hts w (List.mem_cons_of_mem _ h)
  have hown : s.vm.findClass RX9 = some m.cls := findClass_of_methodNamed B.named
  subst hsz
  have hS : va_S (fun q => s.heap.size ≤ q) s.heap s.heap [] := va_S.rf
  have hP : va_P (dC, dI) vwCl (WM r ct i_taped i_size i_faultKind i_at i_end i_token i_number i_bank i_rb i_codes i_within i_piled i_unitsInRule i_askHouse i_askTune i_acts i_undone i_laid i_knowns i_time f_text f_tunes f_houses f_hums f_told f_many f_ruleFrom f_ruleTo f_code f_eWhat f_eSign f_all f_kept f_was f_sTune f_boxAll J L) s.heap := hP
  have hl := lv_entry ([.ref (r 0), .int p0, .int p1]) (n := 5) (Nat.le_of_ble_eq_true rfl)
  rw [lg_entry_eq]
  generalize (lg_sl ([.ref (r 0), .int p0, .int p1]) ++ List.replicate (5 - (lg_sl ([.ref (r 0), .int p0, .int p1])).length) Slot.unset).toArray = ls at hl ⊢
  have hl : lv_has ls 5 [(0, .ref (r 0)), (1, .int p0), (2, .int p1)] := hl
  refine nameQ (fun Q hQ => ?_)
  obtain ⟨im0, im1, im2, im3, im4, im5, im6, im7, im8, im9, im10, im11, im12, im13, im14, im15, im16, im17, im18, im19, im20, im21, im22, im23, im24, im25, im26, im27, im28, im29, im30⟩ := id hI
  have f1 : 0 ≤ (f_tunes (i_bank.toInt).toNat).toInt ∧ (f_tunes (i_bank.toInt).toNat).toInt ≤ 5 := im20 (i_bank.toInt)
  have f2 : 0 ≤ (f_houses (i_bank.toInt).toNat).toInt ∧ (f_houses (i_bank.toInt).toNat).toInt ≤ 4 := im21 (i_bank.toInt)
  refine lv_iload_n hx hb dX9_along_0 rfl (lv_at hl 1 rfl) ?_
  refine lv_iconst (v := 0) hx hb dX9_along_1 (by decide) ?_
  refine lv_bipush (v := 99) hx hb dX9_along_2 (by decide) ?_
  refine va_calli (va_runS (As := [.int p0, .int 0, .int 99]) (rest := []) ⟨hx, hb, hml, hown, hG⟩ (kX9_isIn l dC dI p0 0 99 s.heap.size) (va_cwS 3 hG (goodS gw1516 gw1517 gw138 gw1518) rfl rfl rfl hd_X9_isIn ⟨(Nat.le_of_ble_eq_true rfl), (Nat.le_of_ble_eq_true rfl)⟩) ⟨fbR, pR_in emptyP (emptyK hK)⟩ rfl rfl hl.1 rfl (lv_room (Nat.le_of_ble_eq_true rfl)) dX9_along_4 ⟨(Nat.le_of_ble_eq_true rfl), (Nat.le_of_ble_eq_true rfl)⟩) hS (fun q hq h => absurd hq (Nat.not_lt.mpr h)) (fun q h => Nat.le_trans hS.1 h) (fun r_4 u_ t_ H3 locs ht hvm hw hB hz1 hk1 hS => ?_)
  subst hw
  have hP := wk hP hk1
  obtain ⟨f5, f6, f7⟩ := hB
  refine lv_if_eq (tgt := 20) hx hb dX9_along_7 (by decide) (fun c_8 => ?_) (fun c_8 => ?_)
  · skip
    have f9 : r_4.toInt = 0 := qi_eq c_8 rfl zc_0
    refine lv_iconst (v := (-1)) hx hb dX9_along_20 (by decide) ?_
    rw [hQ]
    exact W.iret (v := (-1)) hx hb hr (fun t ht hW => ⟨⟨(-1), (-1), rfl, rfl, trivial⟩, hS.F ht⟩) hS.2.2 dX9_along_21
  · skip
    have f10 : r_4.toInt ≠ 0 := qi_ne c_8 rfl zc_0
    have f11 : 1 ≤ r_4.toInt := (ob_468 f5 f10 zc_99 zc_0)
    have f12 : 0 ≤ p0.toInt := (ob_469 f5 f10 zc_99 zc_0)
    have f13 : p0.toInt ≤ 99 := (ob_470 f5 f10 zc_99 zc_0)
    have f14 : r_4.toInt = 1 := (ob_167 f6 f7 f11)
    refine lv_iload_n hx hb dX9_along_10 rfl (lv_at hl 2 rfl) ?_
    refine lv_iconst (v := 0) hx hb dX9_along_11 (by decide) ?_
    refine lv_bipush (v := 99) hx hb dX9_along_12 (by decide) ?_
    refine va_calli (va_runS (As := [.int p1, .int 0, .int 99]) (rest := []) ⟨hx, hb, hml, hown, hG⟩ (kX9_isIn l dC dI p1 0 99 H3.size) (va_cwS 3 hG (goodS gw1516 gw1517 gw138 gw1518) rfl rfl rfl hd_X9_isIn ⟨(Nat.le_of_ble_eq_true rfl), (Nat.le_of_ble_eq_true rfl)⟩) ⟨fbR, pR_in emptyP (emptyK hK)⟩ rfl rfl hl.1 rfl (lv_room (Nat.le_of_ble_eq_true rfl)) dX9_along_14 ⟨(Nat.le_of_ble_eq_true rfl), (Nat.le_of_ble_eq_true rfl)⟩) hS (fun q hq h => absurd hq (Nat.not_lt.mpr h)) (fun q h => Nat.le_trans hS.1 h) (fun r_16 u_ t_ H15 locs ht hvm hw hB hz1 hk1 hS => ?_)
    subst hw
    have hP := wk hP hk1
    obtain ⟨f17, f18, f19⟩ := hB
    refine lv_if_ne (tgt := 22) hx hb dX9_along_17 (by decide) (fun c_20 => ?_) (fun c_20 => ?_)
    · skip
      have f21 : r_16.toInt ≠ 0 := qi_ne c_20 rfl zc_0
      have f22 : 1 ≤ r_16.toInt := (ob_468 f17 f21 zc_99 zc_0)
      have f23 : 0 ≤ p1.toInt := (ob_469 f17 f21 zc_99 zc_0)
      have f24 : p1.toInt ≤ 99 := (ob_470 f17 f21 zc_99 zc_0)
      have f25 : r_16.toInt = 1 := (ob_167 f18 f19 f22)
      refine lv_iconst (v := 0) hx hb dX9_along_22 (by decide) ?_
      refine lv_istore_n (lv' := [(3, .int 0), (0, .ref (r 0)), (1, .int p0), (2, .int p1)]) hx hb dX9_along_23 rfl hl (by decide) rfl (fun ls hl => ?_)
      refine lv_iconst (v := 0) hx hb dX9_along_24 (by decide) ?_
      refine lv_istore (lv' := [(4, .int 0), (3, .int 0), (0, .ref (r 0)), (1, .int p0), (2, .int p1)]) hx hb dX9_along_25 hl (by decide) rfl (fun ls hl => ?_)
      have L27 : ∀ (N27 : Nat) (y27_3 y27_4 : Int32) (H27 : Heap) (locs : List Loc) (ls : Array Slot) (g27_0 : 0 ≤ y27_4.toInt) (g27_1 : y27_4.toInt ≤ 4) (hP : va_P (dC, dI) vwCl (WM r ct i_taped i_size i_faultKind i_at i_end i_token i_number i_bank i_rb i_codes i_within i_piled i_unitsInRule i_askHouse i_askTune i_acts i_undone i_laid i_knowns i_time f_text f_tunes f_houses f_hums f_told f_many f_ruleFrom f_ruleTo f_code f_eWhat f_eSign f_all f_kept f_was f_sTune f_boxAll J L) H27) (hS : va_S (fun q => s.heap.size ≤ q) s.heap H27 locs) (hl : lv_has ls 5 [(0, .ref (r 0)), (1, .int p0), (2, .int p1), (3, .int y27_3), (4, .int y27_4)]) (hM : -1 * y27_4.toInt + 4 < (N27 : Int)), W p l e { frames := 4, cells := 0, slots := 0, locals := 162 } s m ([.ref (r 0), .int p0, .int p1] : List Value).toArray below meth c0 H27 locs 0 0 Q (F0 m 27 ls []) := by
        intro N27
        induction N27 with
        | zero =>
          intro y27_3 y27_4 H27 locs ls g27_0 g27_1 hP hS hl hM
          exact ((ob_293 hM g27_0 g27_1)).elim
        | succ N27 ih27 =>
          intro y27_3 y27_4 H27 locs ls g27_0 g27_1 hP hS hl hM
          have hM27 := msucc hM
          refine lv_iload hx hb dX9_along_27 (lv_at hl 4 rfl) ?_
          refine lv_aload_n hx hb dX9_along_29 rfl (lv_at hl 0 rfl) ?_
          refine va_calli (va_runV (As := []) (rest := [.int y27_4]) ⟨hx, hb, hml, hown, hG⟩ (kX9_homes l dC dI r ct i_taped i_size i_faultKind i_at i_end i_token i_number i_bank i_rb i_codes i_within i_piled i_unitsInRule i_askHouse i_askTune i_acts i_undone i_laid i_knowns i_time f_text f_tunes f_houses f_hums f_told f_many f_ruleFrom f_ruleTo f_code f_eWhat f_eSign f_all f_kept f_was f_sTune f_boxAll J L H27.size hI) (cwV 0 hG (goodV gw1167 gw1169 gw58 gw138 gw1170) rfl rfl rfl hd_X9_homes ⟨(Nat.le_of_ble_eq_true rfl), (Nat.le_of_ble_eq_true rfl)⟩) ⟨fbR, va_recv hK hP (ci := 8) (q0 := 0) rfl rfl, pR_in hP hK⟩ rfl rfl hl.1 rfl (lv_room (Nat.le_of_ble_eq_true rfl)) dX9_along_30 ⟨(Nat.le_of_ble_eq_true rfl), (Nat.le_of_ble_eq_true rfl)⟩) hS (fun q hq h => absurd hq (Nat.not_lt.mpr h)) (fun q h => Nat.le_trans hS.1 h) (fun r_27 u_ t_ H26 locs ht hvm hw hB hz1 hk1 hS => ?_)
          subst hw
          have hP := wk hP hk1
          have f28 := hB
          have f29 : r_27.toInt = (f_houses (i_bank.toInt).toNat).toInt := (ob_278 f28)
          refine lv_icmp_ge (tgt := 77) hx hb dX9_along_33 (by decide) (fun c_30 => ?_) (fun c_30 => ?_)
          · skip
            have f31 : r_27.toInt ≤ y27_4.toInt := qi_le c_30 rfl rfl
            refine lv_iload_n hx hb dX9_along_77 rfl (lv_at hl 3 rfl) ?_
            rw [hQ]
            exact W.iret (v := y27_3) hx hb hr (fun t ht hW => ⟨⟨y27_3, y27_3, rfl, rfl, trivial⟩, hS.F ht⟩) hS.2.2 dX9_along_78
          · skip
            have f32 : y27_4.toInt < r_27.toInt := qi_nle c_30 rfl rfl
            refine lv_aload_n hx hb dX9_along_36 rfl (lv_at hl 0 rfl) ?_
            refine lv_iload hx hb dX9_along_37 (lv_at hl 4 rfl) ?_
            refine va_calli (va_runV (As := [.int y27_4]) (rest := []) ⟨hx, hb, hml, hown, hG⟩ (kX9_placeOf l dC dI r ct i_taped i_size i_faultKind i_at i_end i_token i_number i_bank i_rb i_codes i_within i_piled i_unitsInRule i_askHouse i_askTune i_acts i_undone i_laid i_knowns i_time f_text f_tunes f_houses f_hums f_told f_many f_ruleFrom f_ruleTo f_code f_eWhat f_eSign f_all f_kept f_was f_sTune f_boxAll J L y27_4 H26.size hI (ob_133 g27_0) (ob_361 f32 f29)) (cwV 1 hG (goodV gw1546 gw1548 gw91 gw138 gw1549) rfl rfl rfl hd_X9_placeOf ⟨(Nat.le_of_ble_eq_true rfl), (Nat.le_of_ble_eq_true rfl)⟩) ⟨fbR, va_recv hK hP (ci := 8) (q0 := 0) rfl rfl, pR_in hP hK⟩ rfl rfl hl.1 rfl (lv_room (Nat.le_of_ble_eq_true rfl)) dX9_along_39 ⟨(Nat.le_of_ble_eq_true rfl), (Nat.le_of_ble_eq_true rfl)⟩) hS (fun q hq h => absurd hq (Nat.not_lt.mpr h)) (fun q h => Nat.le_trans hS.1 h) (fun r_34 u_ t_ H33 locs ht hvm hw hB hz1 hk1 hS => ?_)
            subst hw
            have hP := wk hP hk1
            refine lv_iload_n hx hb dX9_along_42 rfl (lv_at hl 1 rfl) ?_
            refine lv_iload_n hx hb dX9_along_43 rfl (lv_at hl 2 rfl) ?_
            refine va_calli (va_runS (As := [.int r_34, .int p0, .int p1]) (rest := []) ⟨hx, hb, hml, hown, hG⟩ (kX9_isIn l dC dI r_34 p0 p1 H33.size) (va_cwS 3 hG (goodS gw1516 gw1517 gw138 gw1518) rfl rfl rfl hd_X9_isIn ⟨(Nat.le_of_ble_eq_true rfl), (Nat.le_of_ble_eq_true rfl)⟩) ⟨fbR, pR_in emptyP (emptyK hK)⟩ rfl rfl hl.1 rfl (lv_room (Nat.le_of_ble_eq_true rfl)) dX9_along_44 ⟨(Nat.le_of_ble_eq_true rfl), (Nat.le_of_ble_eq_true rfl)⟩) hS (fun q hq h => absurd hq (Nat.not_lt.mpr h)) (fun q h => Nat.le_trans hS.1 h) (fun r_36 u_ t_ H35 locs ht hvm hw hB hz1 hk1 hS => ?_)
            subst hw
            have hP := wk hP hk1
            obtain ⟨f37, f38, f39⟩ := hB
            refine lv_if_ne (tgt := 64) hx hb dX9_along_47 (by decide) (fun c_40 => ?_) (fun c_40 => ?_)
            · skip
              have f41 : r_36.toInt ≠ 0 := qi_ne c_40 rfl zc_0
              have f42 : 1 ≤ r_36.toInt := (ob_471 f37 f41)
              have f43 : p0.toInt ≤ r_34.toInt := (ob_472 f37 f41)
              have f44 : r_34.toInt ≤ p1.toInt := (ob_473 f37 f41)
              have f45 : r_36.toInt = 1 := (ob_167 f38 f39 f42)
              refine lv_iload_n hx hb dX9_along_64 rfl (lv_at hl 3 rfl) ?_
              refine lv_iconst (v := 1) hx hb dX9_along_65 (by decide) ?_
              refine lv_iload hx hb dX9_along_66 (lv_at hl 4 rfl) ?_
              refine lv_ishl hx hb dX9_along_68 ?_
              refine lv_topi (fun x46 ex46 => ?_)
              refine lv_ior hx hb dX9_along_69 ?_
              refine lv_topi (fun x47 ex47 => ?_)
              refine lv_istore_n (lv' := [(3, .int x47), (0, .ref (r 0)), (1, .int p0), (2, .int p1), (4, .int y27_4)]) hx hb dX9_along_70 rfl hl (by decide) rfl (fun ls hl => ?_)
              obtain ⟨x48, ex48⟩ : ∃ y : Int32, y = y27_4 + Int32.ofInt 1 := ⟨_, rfl⟩
              have f49 : x48.toInt = y27_4.toInt + 1 := (ob_139 (qi_add ex48 rfl (by decide) (ob_137 g27_0) (ob_304 g27_1)))
              refine lv_iinc (v := x48) (lv' := [(4, .int x48), (3, .int x47), (0, .ref (r 0)), (1, .int p0), (2, .int p1)]) hx hb dX9_along_71 hl (k := 4) rfl ex48.symm (by decide) rfl (fun ls hl => ?_)
              refine lv_goto (tgt := 27) hx hb dX9_along_74 (by decide) ?_
              exact ih27 x47 x48 H35 _ _ (ob_140 g27_0 f49) (ob_305 f2 f32 f29 f49) hP hS (lv_sub hl [2, 3, 4, 1, 0] rfl) (ob_306 hM27 f49)
            · skip
              have f50 : r_36.toInt = 0 := qi_eq c_40 rfl zc_0
              refine lv_aload_n hx hb dX9_along_50 rfl (lv_at hl 0 rfl) ?_
              refine lv_iload hx hb dX9_along_51 (lv_at hl 4 rfl) ?_
              refine va_calli (va_runV (As := [.int y27_4]) (rest := []) ⟨hx, hb, hml, hown, hG⟩ (kX9_placeOf l dC dI r ct i_taped i_size i_faultKind i_at i_end i_token i_number i_bank i_rb i_codes i_within i_piled i_unitsInRule i_askHouse i_askTune i_acts i_undone i_laid i_knowns i_time f_text f_tunes f_houses f_hums f_told f_many f_ruleFrom f_ruleTo f_code f_eWhat f_eSign f_all f_kept f_was f_sTune f_boxAll J L y27_4 H35.size hI (ob_133 g27_0) (ob_361 f32 f29)) (cwV 1 hG (goodV gw1546 gw1548 gw91 gw138 gw1549) rfl rfl rfl hd_X9_placeOf ⟨(Nat.le_of_ble_eq_true rfl), (Nat.le_of_ble_eq_true rfl)⟩) ⟨fbR, va_recv hK hP (ci := 8) (q0 := 0) rfl rfl, pR_in hP hK⟩ rfl rfl hl.1 rfl (lv_room (Nat.le_of_ble_eq_true rfl)) dX9_along_53 ⟨(Nat.le_of_ble_eq_true rfl), (Nat.le_of_ble_eq_true rfl)⟩) hS (fun q hq h => absurd hq (Nat.not_lt.mpr h)) (fun q h => Nat.le_trans hS.1 h) (fun r_52 u_ t_ H51 locs ht hvm hw hB hz1 hk1 hS => ?_)
              subst hw
              have hP := wk hP hk1
              refine lv_iload_n hx hb dX9_along_56 rfl (lv_at hl 2 rfl) ?_
              refine lv_iload_n hx hb dX9_along_57 rfl (lv_at hl 1 rfl) ?_
              refine va_calli (va_runS (As := [.int r_52, .int p1, .int p0]) (rest := []) ⟨hx, hb, hml, hown, hG⟩ (kX9_isIn l dC dI r_52 p1 p0 H51.size) (va_cwS 3 hG (goodS gw1516 gw1517 gw138 gw1518) rfl rfl rfl hd_X9_isIn ⟨(Nat.le_of_ble_eq_true rfl), (Nat.le_of_ble_eq_true rfl)⟩) ⟨fbR, pR_in emptyP (emptyK hK)⟩ rfl rfl hl.1 rfl (lv_room (Nat.le_of_ble_eq_true rfl)) dX9_along_58 ⟨(Nat.le_of_ble_eq_true rfl), (Nat.le_of_ble_eq_true rfl)⟩) hS (fun q hq h => absurd hq (Nat.not_lt.mpr h)) (fun q h => Nat.le_trans hS.1 h) (fun r_54 u_ t_ H53 locs ht hvm hw hB hz1 hk1 hS => ?_)
              subst hw
              have hP := wk hP hk1
              obtain ⟨f55, f56, f57⟩ := hB
              refine lv_if_eq (tgt := 71) hx hb dX9_along_61 (by decide) (fun c_58 => ?_) (fun c_58 => ?_)
              · skip
                have f59 : r_54.toInt = 0 := qi_eq c_58 rfl zc_0
                obtain ⟨x60, ex60⟩ : ∃ y : Int32, y = y27_4 + Int32.ofInt 1 := ⟨_, rfl⟩
                have f61 : x60.toInt = y27_4.toInt + 1 := (ob_139 (qi_add ex60 rfl (by decide) (ob_137 g27_0) (ob_304 g27_1)))
                refine lv_iinc (v := x60) (lv' := [(4, .int x60), (0, .ref (r 0)), (1, .int p0), (2, .int p1), (3, .int y27_3)]) hx hb dX9_along_71 hl (k := 4) rfl ex60.symm (by decide) rfl (fun ls hl => ?_)
                refine lv_goto (tgt := 27) hx hb dX9_along_74 (by decide) ?_
                exact ih27 y27_3 x60 H53 _ _ (ob_140 g27_0 f61) (ob_305 f2 f32 f29 f61) hP hS (lv_sub hl [1, 2, 3, 4, 0] rfl) (ob_306 hM27 f61)
              · skip
                have f62 : r_54.toInt ≠ 0 := qi_ne c_58 rfl zc_0
                have f63 : 1 ≤ r_54.toInt := (ob_471 f55 f62)
                have f64 : p1.toInt ≤ r_52.toInt := (ob_472 f55 f62)
                have f65 : r_52.toInt ≤ p0.toInt := (ob_473 f55 f62)
                have f66 : r_54.toInt = 1 := (ob_167 f56 f57 f63)
                refine lv_iload_n hx hb dX9_along_64 rfl (lv_at hl 3 rfl) ?_
                refine lv_iconst (v := 1) hx hb dX9_along_65 (by decide) ?_
                refine lv_iload hx hb dX9_along_66 (lv_at hl 4 rfl) ?_
                refine lv_ishl hx hb dX9_along_68 ?_
                refine lv_topi (fun x67 ex67 => ?_)
                refine lv_ior hx hb dX9_along_69 ?_
                refine lv_topi (fun x68 ex68 => ?_)
                refine lv_istore_n (lv' := [(3, .int x68), (0, .ref (r 0)), (1, .int p0), (2, .int p1), (4, .int y27_4)]) hx hb dX9_along_70 rfl hl (by decide) rfl (fun ls hl => ?_)
                obtain ⟨x69, ex69⟩ : ∃ y : Int32, y = y27_4 + Int32.ofInt 1 := ⟨_, rfl⟩
                have f70 : x69.toInt = y27_4.toInt + 1 := (ob_139 (qi_add ex69 rfl (by decide) (ob_137 g27_0) (ob_304 g27_1)))
                refine lv_iinc (v := x69) (lv' := [(4, .int x69), (3, .int x68), (0, .ref (r 0)), (1, .int p0), (2, .int p1)]) hx hb dX9_along_71 hl (k := 4) rfl ex69.symm (by decide) rfl (fun ls hl => ?_)
                refine lv_goto (tgt := 27) hx hb dX9_along_74 (by decide) ?_
                exact ih27 x68 x69 H53 _ _ (ob_140 g27_0 f70) (ob_305 f2 f32 f29 f70) hP hS (lv_sub hl [2, 3, 4, 1, 0] rfl) (ob_306 hM27 f70)
      exact L27 (-1 * (0 : Int32).toInt + 4 + 1).toNat 0 0 H15 _ _ (ob_5 zc_0) (ob_307 zc_0) hP hS (lv_sub hl [2, 3, 4, 1, 0] rfl) (mlt (ob_308 zc_0))
    · skip
      have f71 : r_16.toInt = 0 := qi_eq c_20 rfl zc_0
      refine lv_iconst (v := (-1)) hx hb dX9_along_20 (by decide) ?_
      rw [hQ]
      exact W.iret (v := (-1)) hx hb hr (fun t ht hW => ⟨⟨(-1), (-1), rfl, rfl, trivial⟩, hS.F ht⟩) hS.2.2 dX9_along_21
set_option maxHeartbeats 4000000 in
set_option maxRecDepth 100000 in
theorem kX9_earned (l : Launch) (dC : Nat → ClassId) (dI : Nat → Nat → Nat) (r : Nat → Nat) (ct : Nat → ClassId) (i_taped i_size i_faultKind i_at i_end i_token i_number i_bank i_rb i_codes i_within i_piled i_unitsInRule i_askHouse i_askTune i_acts i_undone i_laid i_knowns i_time : Int32) (f_text f_tunes f_houses f_hums f_told f_many f_ruleFrom f_ruleTo f_code f_eWhat f_eSign f_all f_kept f_was f_sTune f_boxAll : Nat → Int32) (J : Nat → Nat → Int32) (L : Nat → Nat → Int64) (sz : Nat) (hI : (IM i_taped i_size i_at i_end i_bank i_rb i_acts i_undone i_laid i_knowns i_time f_tunes f_houses f_hums f_told f_many f_ruleFrom f_ruleTo f_code f_all f_kept f_was f_sTune f_boxAll)) : Met l yX9_earned (.code yX9_earned cX9_earned 3 (some .int) :: GW) { frames := 4, cells := 0, slots := 0, locals := 161 } (va_Pc [.ref (r 0)] (pR (dC, dI) (WM r ct i_taped i_size i_faultKind i_at i_end i_token i_number i_bank i_rb i_codes i_within i_piled i_unitsInRule i_askHouse i_askTune i_acts i_undone i_laid i_knowns i_time f_text f_tunes f_houses f_hums f_told f_many f_ruleFrom f_ruleTo f_code f_eWhat f_eSign f_all f_kept f_was f_sTune f_boxAll J L) (TM ct) sz)) (va_Qi (fun (r0 : Int32) (u : Int32) => r0 = u) (fun (u : Int32) (t : State) => True) (fun q => sz ≤ q)) 0 0 (fun q => sz ≤ q) := by
  refine Met.ofW (cc := cX9_earned) (maxL := 3) (ret := (some .int)) (by decide) rfl ?_
  intro p e s m args below meth c0 s₁ B hml hv
  obtain ⟨rfl, hsz, hP, hK⟩ := hv
  have hx := B.exec
  have hb := B.bytes
  have hr := B.returns
  have hts := atoms_spec (ws := .code yX9_earned cX9_earned 3 (some .int) :: GW) B.pre
  have hG : ∀ w ∈ GW, w.before _ s = true := fun w h => hts w (List.mem_cons_of_mem _ h)
  have hown : s.vm.findClass RX9 = some m.cls := findClass_of_methodNamed B.named
  subst hsz
  have hS : va_S (fun q => s.heap.size ≤ q) s.heap s.heap [] := va_S.rf
  have hP : va_P (dC, dI) vwCl (WM r ct i_taped i_size i_faultKind i_at i_end i_token i_number i_bank i_rb i_codes i_within i_piled i_unitsInRule i_askHouse i_askTune i_acts i_undone i_laid i_knowns i_time f_text f_tunes f_houses f_hums f_told f_many f_ruleFrom f_ruleTo f_code f_eWhat f_eSign f_all f_kept f_was f_sTune f_boxAll J L) s.heap := hP
  have hl := lv_entry ([.ref (r 0)]) (n := 3) (Nat.le_of_ble_eq_true rfl)
  rw [lg_entry_eq]
  generalize (lg_sl ([.ref (r 0)]) ++ List.replicate (3 - (lg_sl ([.ref (r 0)])).length) Slot.unset).toArray = ls at hl ⊢
  have hl : lv_has ls 3 [(0, .ref (r 0))] := hl
  refine nameQ (fun Q hQ => ?_)
  obtain ⟨im0, im1, im2, im3, im4, im5, im6, im7, im8, im9, im10, im11, im12, im13, im14, im15, im16, im17, im18, im19, im20, im21, im22, im23, im24, im25, im26, im27, im28, im29, im30⟩ := id hI
  have f1 : 0 ≤ (f_tunes (i_bank.toInt).toNat).toInt ∧ (f_tunes (i_bank.toInt).toNat).toInt ≤ 5 := im20 (i_bank.toInt)
  have f2 : 0 ≤ (f_houses (i_bank.toInt).toNat).toInt ∧ (f_houses (i_bank.toInt).toNat).toInt ≤ 4 := im21 (i_bank.toInt)
  refine lv_iconst (v := 0) hx hb dX9_earned_0 (by decide) ?_
  refine lv_istore_n (lv' := [(1, .int 0), (0, .ref (r 0))]) hx hb dX9_earned_1 rfl hl (by decide) rfl (fun ls hl => ?_)
  refine lv_iconst (v := 0) hx hb dX9_earned_2 (by decide) ?_
  refine lv_istore_n (lv' := [(2, .int 0), (1, .int 0), (0, .ref (r 0))]) hx hb dX9_earned_3 rfl hl (by decide) rfl (fun ls hl => ?_)
  have L4 : ∀ (N4 : Nat) (y4_1 y4_2 : Int32) (H4 : Heap) (locs : List Loc) (ls : Array Slot) (g4_0 : 0 ≤ y4_2.toInt) (g4_1 : y4_2.toInt ≤ 5) (hP : va_P (dC, dI) vwCl (WM r ct i_taped i_size i_faultKind i_at i_end i_token i_number i_bank i_rb i_codes i_within i_piled i_unitsInRule i_askHouse i_askTune i_acts i_undone i_laid i_knowns i_time f_text f_tunes f_houses f_hums f_told f_many f_ruleFrom f_ruleTo f_code f_eWhat f_eSign f_all f_kept f_was f_sTune f_boxAll J L) H4) (hS : va_S (fun q => s.heap.size ≤ q) s.heap H4 locs) (hl : lv_has ls 3 [(0, .ref (r 0)), (1, .int y4_1), (2, .int y4_2)]) (hM : -1 * y4_2.toInt + 5 < (N4 : Int)), W p l e { frames := 4, cells := 0, slots := 0, locals := 161 } s m ([.ref (r 0)] : List Value).toArray below meth c0 H4 locs 0 0 Q (F0 m 4 ls []) := by
    intro N4
    induction N4 with
    | zero =>
      intro y4_1 y4_2 H4 locs ls g4_0 g4_1 hP hS hl hM
      exact ((ob_292 hM g4_0 g4_1)).elim
    | succ N4 ih4 =>
      intro y4_1 y4_2 H4 locs ls g4_0 g4_1 hP hS hl hM
      have hM4 := msucc hM
      refine lv_iload_n hx hb dX9_earned_4 rfl (lv_at hl 2 rfl) ?_
      refine lv_aload_n hx hb dX9_earned_5 rfl (lv_at hl 0 rfl) ?_
      refine va_calli (va_runV (As := []) (rest := [.int y4_2]) ⟨hx, hb, hml, hown, hG⟩ (kX9_songs l dC dI r ct i_taped i_size i_faultKind i_at i_end i_token i_number i_bank i_rb i_codes i_within i_piled i_unitsInRule i_askHouse i_askTune i_acts i_undone i_laid i_knowns i_time f_text f_tunes f_houses f_hums f_told f_many f_ruleFrom f_ruleTo f_code f_eWhat f_eSign f_all f_kept f_was f_sTune f_boxAll J L H4.size hI) (cwV 0 hG (goodV gw1512 gw1514 gw86 gw138 gw1515) rfl rfl rfl hd_X9_songs ⟨(Nat.le_of_ble_eq_true rfl), (Nat.le_of_ble_eq_true rfl)⟩) ⟨fbR, va_recv hK hP (ci := 8) (q0 := 0) rfl rfl, pR_in hP hK⟩ rfl rfl hl.1 rfl (lv_room (Nat.le_of_ble_eq_true rfl)) dX9_earned_6 ⟨(Nat.le_of_ble_eq_true rfl), (Nat.le_of_ble_eq_true rfl)⟩) hS (fun q hq h => absurd hq (Nat.not_lt.mpr h)) (fun q h => Nat.le_trans hS.1 h) (fun r_4 u_ t_ H3 locs ht hvm hw hB hz1 hk1 hS => ?_)
      subst hw
      have hP := wk hP hk1
      have f5 := hB
      have f6 : r_4.toInt = (f_tunes (i_bank.toInt).toNat).toInt := (ob_278 f5)
      refine lv_icmp_ge (tgt := 35) hx hb dX9_earned_9 (by decide) (fun c_7 => ?_) (fun c_7 => ?_)
      · skip
        have f8 : r_4.toInt ≤ y4_2.toInt := qi_le c_7 rfl rfl
        refine lv_iload_n hx hb dX9_earned_35 rfl (lv_at hl 1 rfl) ?_
        rw [hQ]
        exact W.iret (v := y4_1) hx hb hr (fun t ht hW => ⟨⟨y4_1, y4_1, rfl, rfl, trivial⟩, hS.F ht⟩) hS.2.2 dX9_earned_36
      · skip
        have f9 : y4_2.toInt < r_4.toInt := qi_nle c_7 rfl rfl
        refine lv_iload_n hx hb dX9_earned_12 rfl (lv_at hl 1 rfl) ?_
        refine lv_aload_n hx hb dX9_earned_13 rfl (lv_at hl 0 rfl) ?_
        refine gM_X9_88_0 hx hb hG hown hK hP dX9_earned_14 ?_
        refine lv_iconst (v := 5) hx hb dX9_earned_17 (by decide) ?_
        refine lv_iload_n hx hb dX9_earned_18 rfl (lv_at hl 2 rfl) ?_
        refine lv_iadd hx hb dX9_earned_19 ?_
        refine lv_topi (fun x10 ex10 => ?_)
        have f11 : x10.toInt = y4_2.toInt + 5 := (ob_343 (qi_add ex10 zc_5 rfl (ob_356 g4_0) (ob_357 g4_1)))
        refine ldM_25 (mm := y4_2.toInt + 5) hx hb hK hP f11 (ob_358 g4_0) (ob_359 g4_1) dX9_earned_20 ?_
        refine lv_aload_n hx hb dX9_earned_21 rfl (lv_at hl 0 rfl) ?_
        refine lv_iload_n hx hb dX9_earned_22 rfl (lv_at hl 2 rfl) ?_
        refine va_calli (va_runV (As := [.int y4_2]) (rest := [.int (f_all (y4_2.toInt + 5).toNat), .int y4_1]) ⟨hx, hb, hml, hown, hG⟩ (kX9_priceOf l dC dI r ct i_taped i_size i_faultKind i_at i_end i_token i_number i_bank i_rb i_codes i_within i_piled i_unitsInRule i_askHouse i_askTune i_acts i_undone i_laid i_knowns i_time f_text f_tunes f_houses f_hums f_told f_many f_ruleFrom f_ruleTo f_code f_eWhat f_eSign f_all f_kept f_was f_sTune f_boxAll J L y4_2 H3.size hI (ob_133 g4_0) (ob_361 f9 f6)) (cwV 1 hG (goodV gw1519 gw1521 gw87 gw138 gw1522) rfl rfl rfl hd_X9_priceOf ⟨(Nat.le_of_ble_eq_true rfl), (Nat.le_of_ble_eq_true rfl)⟩) ⟨fbR, va_recv hK hP (ci := 8) (q0 := 0) rfl rfl, pR_in hP hK⟩ rfl rfl hl.1 rfl (lv_room (Nat.le_of_ble_eq_true rfl)) dX9_earned_23 ⟨(Nat.le_of_ble_eq_true rfl), (Nat.le_of_ble_eq_true rfl)⟩) hS (fun q hq h => absurd hq (Nat.not_lt.mpr h)) (fun q h => Nat.le_trans hS.1 h) (fun r_13 u_ t_ H12 locs ht hvm hw hB hz1 hk1 hS => ?_)
        subst hw
        have hP := wk hP hk1
        refine lv_imul hx hb dX9_earned_26 ?_
        refine lv_topi (fun x14 ex14 => ?_)
        refine lv_iadd hx hb dX9_earned_27 ?_
        refine lv_topi (fun x15 ex15 => ?_)
        refine lv_istore_n (lv' := [(1, .int x15), (0, .ref (r 0)), (2, .int y4_2)]) hx hb dX9_earned_28 rfl hl (by decide) rfl (fun ls hl => ?_)
        obtain ⟨x16, ex16⟩ : ∃ y : Int32, y = y4_2 + Int32.ofInt 1 := ⟨_, rfl⟩
        have f17 : x16.toInt = y4_2.toInt + 1 := (ob_139 (qi_add ex16 rfl (by decide) (ob_137 g4_0) (ob_314 g4_1)))
        refine lv_iinc (v := x16) (lv' := [(2, .int x16), (1, .int x15), (0, .ref (r 0))]) hx hb dX9_earned_29 hl (k := 2) rfl ex16.symm (by decide) rfl (fun ls hl => ?_)
        refine lv_goto (tgt := 4) hx hb dX9_earned_32 (by decide) ?_
        exact ih4 x15 x16 H12 _ _ (ob_140 g4_0 f17) (ob_354 f1 f9 f6 f17) hP hS (lv_sub hl [2, 1, 0] rfl) (ob_316 hM4 f17)
  exact L4 (-1 * (0 : Int32).toInt + 5 + 1).toNat 0 0 s.heap _ _ (ob_5 zc_0) (ob_317 zc_0) hP hS (lv_sub hl [2, 1, 0] rfl) (mlt (ob_318 zc_0))
