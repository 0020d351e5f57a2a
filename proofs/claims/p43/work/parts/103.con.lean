set_option maxHeartbeats 4000000 in
set_option maxRecDepth 100000 in
theorem kX9_unit (l : Launch) (dC : Nat → ClassId) (dI : Nat → Nat → Nat) (r : Nat → Nat) (ct : Nat → ClassId) (i_taped i_size i_faultKind i_at i_end i_token i_number i_bank i_rb i_codes i_within i_piled i_unitsInRule i_askHouse i_askTune i_acts i_undone i_laid i_knowns i_time : Int32) (f_text f_tunes f_houses f_hums f_told f_many f_ruleFrom f_ruleTo f_code f_eWhat f_eSign f_all f_kept f_was f_sTune f_boxAll : Nat → Int32) (J : Nat → Nat → Int32) (L : Nat → Nat → Int64) (sz : Nat) (hI : (IM i_taped i_size i_faultKind i_at i_end i_bank i_rb i_acts i_undone i_laid i_knowns i_time f_tunes f_houses f_hums f_told f_many f_ruleFrom f_ruleTo f_code f_all f_kept f_was f_sTune f_boxAll)) (hp0 : i_rb.toInt + i_bank.toInt = (1 : Int)) (hp1 : (0 : Int) ≤ i_unitsInRule.toInt) (hp2 : i_unitsInRule.toInt ≤ (30 : Int)) (hp3 : (0 : Int) ≤ i_within.toInt) (hp4 : i_within.toInt ≤ (7 : Int)) (hp5 : (1 : Int) ≤ i_piled.toInt) (hp6 : 560 * i_rb.toInt ≤ i_codes.toInt) (hp7 : i_piled.toInt ≤ i_unitsInRule.toInt + i_within.toInt + 1) (hp8 : i_codes.toInt + i_piled.toInt ≤ 560 * i_rb.toInt + 9 * i_unitsInRule.toInt + i_within.toInt + 1) (hp9 : (f_eWhat ((0 : Int)).toNat).toInt = (8 : Int)) (hp10 : i_faultKind.toInt = (0 : Int)) (hp11 : SP f_eWhat f_eSign f_code i_piled.toInt i_within.toInt (560 * i_rb.toInt) i_codes.toInt 1) : Met l yX9_unit (.code yX9_unit cX9_unit 7 (some .boolean) :: GW) { frames := 6, cells := 0, slots := 0, locals := 224 } (va_Pc [.ref (r 0)] (pW (dC, dI) (WM r ct i_taped i_size i_faultKind i_at i_end i_token i_number i_bank i_rb i_codes i_within i_piled i_unitsInRule i_askHouse i_askTune i_acts i_undone i_laid i_knowns i_time f_text f_tunes f_houses f_hums f_told f_many f_ruleFrom f_ruleTo f_code f_eWhat f_eSign f_all f_kept f_was f_sTune f_boxAll J L) (TM ct) sz)) (va_Qi (fun (r0 : Int32) (u : Int32) => r0 = u) (fun (u : Int32) (t : State) => ∃ (n_i_faultKind n_i_at n_i_end n_i_token n_i_number n_i_codes n_i_within n_i_piled n_i_unitsInRule : Int32) (n_f_code n_f_eWhat n_f_eSign : Nat → Int32) (n_J : Nat → Nat → Int32) (n_L : Nat → Nat → Int64), va_P (dC, dI) vwCl (WM r ct i_taped i_size n_i_faultKind n_i_at n_i_end n_i_token n_i_number i_bank i_rb n_i_codes n_i_within n_i_piled n_i_unitsInRule i_askHouse i_askTune i_acts i_undone i_laid i_knowns i_time f_text f_tunes f_houses f_hums f_told f_many f_ruleFrom f_ruleTo n_f_code n_f_eWhat n_f_eSign f_all f_kept f_was f_sTune f_boxAll n_J n_L) t.heap ∧ va_D (va_A (WM r ct i_taped i_size i_faultKind i_at i_end i_token i_number i_bank i_rb i_codes i_within i_piled i_unitsInRule i_askHouse i_askTune i_acts i_undone i_laid i_knowns i_time f_text f_tunes f_houses f_hums f_told f_many f_ruleFrom f_ruleTo f_code f_eWhat f_eSign f_all f_kept f_was f_sTune f_boxAll J L) sz) (WM r ct i_taped i_size n_i_faultKind n_i_at n_i_end n_i_token n_i_number i_bank i_rb n_i_codes n_i_within n_i_piled n_i_unitsInRule i_askHouse i_askTune i_acts i_undone i_laid i_knowns i_time f_text f_tunes f_houses f_hums f_told f_many f_ruleFrom f_ruleTo n_f_code n_f_eWhat n_f_eSign f_all f_kept f_was f_sTune f_boxAll n_J n_L) ∧ (IM i_taped i_size n_i_faultKind n_i_at n_i_end i_bank i_rb i_acts i_undone i_laid i_knowns i_time f_tunes f_houses f_hums f_told f_many f_ruleFrom f_ruleTo n_f_code f_all f_kept f_was f_sTune f_boxAll) ∧ ((0 : Int) ≤ u.toInt) ∧ (u.toInt ≤ (1 : Int)) ∧ ((n_i_faultKind.toInt = 0 → SP n_f_eWhat n_f_eSign n_f_code n_i_piled.toInt n_i_within.toInt (560 * i_rb.toInt) n_i_codes.toInt u.toInt)) ∧ ((0 : Int) ≤ n_i_piled.toInt) ∧ (n_i_piled.toInt ≤ (60 : Int)) ∧ (i_end.toInt ≤ n_i_end.toInt) ∧ (((1 : Int) ≤ n_i_faultKind.toInt) ∨ (((0 : Int) ≤ n_i_unitsInRule.toInt) ∧ (n_i_unitsInRule.toInt ≤ (30 : Int)) ∧ ((0 : Int) ≤ n_i_within.toInt) ∧ (n_i_within.toInt ≤ (7 : Int)) ∧ (560 * i_rb.toInt ≤ n_i_codes.toInt) ∧ ((1 : Int) ≤ n_i_piled.toInt) ∧ (n_i_faultKind.toInt = (0 : Int)) ∧ ((n_f_eWhat ((0 : Int)).toNat).toInt = (8 : Int)) ∧ (i_token.toInt ≠ (0 : Int)) ∧ ((n_i_token.toInt = (0 : Int)) ∨ (i_end.toInt + 1 ≤ n_i_end.toInt)) ∧ (n_i_piled.toInt ≤ i_piled.toInt + 1) ∧ (((u.toInt = (1 : Int)) ∧ (n_i_piled.toInt ≤ n_i_unitsInRule.toInt + n_i_within.toInt + 1) ∧ (n_i_codes.toInt + n_i_piled.toInt ≤ 560 * i_rb.toInt + 9 * n_i_unitsInRule.toInt + n_i_within.toInt + 1)) ∨ ((u.toInt = (0 : Int)) ∧ (n_i_piled.toInt ≤ n_i_unitsInRule.toInt + n_i_within.toInt) ∧ (n_i_codes.toInt + n_i_piled.toInt ≤ 560 * i_rb.toInt + 9 * n_i_unitsInRule.toInt)))))) (va_A (WM r ct i_taped i_size i_faultKind i_at i_end i_token i_number i_bank i_rb i_codes i_within i_piled i_unitsInRule i_askHouse i_askTune i_acts i_undone i_laid i_knowns i_time f_text f_tunes f_houses f_hums f_told f_many f_ruleFrom f_ruleTo f_code f_eWhat f_eSign f_all f_kept f_was f_sTune f_boxAll J L) sz)) 0 0 (va_A (WM r ct i_taped i_size i_faultKind i_at i_end i_token i_number i_bank i_rb i_codes i_within i_piled i_unitsInRule i_askHouse i_askTune i_acts i_undone i_laid i_knowns i_time f_text f_tunes f_houses f_hums f_told f_many f_ruleFrom f_ruleTo f_code f_eWhat f_eSign f_all f_kept f_was f_sTune f_boxAll J L) sz) := by
  refine Met.ofW (cc := cX9_unit) (maxL := 7) (ret := (some .boolean)) (by decide) rfl ?_
  intro p e s m args below meth c0 s₁ B hml hv
  obtain ⟨rfl, hsz, hP, hK, hD0⟩ := hv
  have hx := B.exec
  have hb := B.bytes
  have hr := B.returns
  have hts := atoms_spec (ws := .code yX9_unit cX9_unit 7 (some .boolean) :: GW) B.pre
  have hG : ∀ w ∈ GW, w.before _ s = true := fun w h => hts w (List.mem_cons_of_mem _ h)
  have hown : s.vm.findClass RX9 = some m.cls := findClass_of_methodNamed B.named
  subst hsz
  have hD := hD0.self (sz := s.heap.size)
  generalize hAe : va_A (WM r ct i_taped i_size i_faultKind i_at i_end i_token i_number i_bank i_rb i_codes i_within i_piled i_unitsInRule i_askHouse i_askTune i_acts i_undone i_laid i_knowns i_time f_text f_tunes f_houses f_hums f_told f_many f_ruleFrom f_ruleTo f_code f_eWhat f_eSign f_all f_kept f_was f_sTune f_boxAll J L) s.heap.size = A at hD ⊢
  have hA : ∀ q : Nat, s.heap.size ≤ q → A q := fun q h => by rw [← hAe]; exact Or.inr h
  have hS : va_S A s.heap s.heap [] := va_S.rf
  have hP : va_P (dC, dI) vwCl (WM r ct i_taped i_size i_faultKind i_at i_end i_token i_number i_bank i_rb i_codes i_within i_piled i_unitsInRule i_askHouse i_askTune i_acts i_undone i_laid i_knowns i_time f_text f_tunes f_houses f_hums f_told f_many f_ruleFrom f_ruleTo f_code f_eWhat f_eSign f_all f_kept f_was f_sTune f_boxAll J L) s.heap := hP
  have hl := lv_entry ([.ref (r 0)]) (n := 7) (Nat.le_of_ble_eq_true rfl)
  rw [lg_entry_eq]
  generalize (lg_sl ([.ref (r 0)]) ++ List.replicate (7 - (lg_sl ([.ref (r 0)])).length) Slot.unset).toArray = ls at hl ⊢
  have hl : lv_has ls 7 [(0, .ref (r 0))] := hl
  refine nameQ (fun Q hQ => ?_)
  obtain ⟨ie0, ie1, ie2, ie3, ie4, ie5, ie6, ie7, ie8, ie9, ie10, ie11, ie12, ie13, ie14, ie15, ie16, ie17, ie18, ie19, ie20, ie21, ie22, ie23, ie24, ie25, ie26, ie27, ie28, ie29, ie30, ie31, ie32⟩ := id hI
  have f1 : 0 ≤ (f_tunes (i_bank.toInt).toNat).toInt ∧ (f_tunes (i_bank.toInt).toNat).toInt ≤ 5 := ie21 (i_bank.toInt)
  have f2 : 0 ≤ (f_houses (i_bank.toInt).toNat).toInt ∧ (f_houses (i_bank.toInt).toNat).toInt ≤ 4 := ie22 (i_bank.toInt)
  refine lv_aload_n hx hb dX9_unit_0 rfl (lv_at hl 0 rfl) ?_
  refine gM_X9_79_0 hx hb hG hown hK hP dX9_unit_1 ?_
  refine lv_aload_n hx hb dX9_unit_4 rfl (lv_at hl 0 rfl) ?_
  refine gM_X9_296_0 hx hb hG hown hK hP dX9_unit_5 ?_
  refine lv_iconst (v := 1) hx hb dX9_unit_8 (by decide) ?_
  refine lv_isub hx hb dX9_unit_9 ?_
  refine lv_topi (fun x3 ex3 => ?_)
  have f4 : x3.toInt = i_piled.toInt + (-1) := (ob_346 (qi_sub ex3 rfl zc_1 (ob_344 hp5 hp7 hp8) (ob_345 hp2 hp4 hp7)))
  refine ldM_22 (mm := i_piled.toInt + (-1)) hx hb hK hP f4 (ob_347 hp5 hp7 hp8) (ob_348 hp2 hp4 hp7) dX9_unit_10 ?_
  have f5 : i_piled.toInt + (-1) = 0 → (f_eWhat (i_piled.toInt + (-1)).toNat).toInt = (f_eWhat ((0 : Int)).toNat).toInt := (fun h => by rw [h])
  refine lv_iconst (v := 3) hx hb dX9_unit_11 (by decide) ?_
  refine lv_icmp_le (tgt := 31) hx hb dX9_unit_12 (by decide) (fun c_6 => ?_) (fun c_6 => ?_)
  · skip
    have f7 : (f_eWhat (i_piled.toInt + (-1)).toNat).toInt ≤ 3 := qi_le c_6 rfl zc_3
    have f8 : i_piled.toInt ≠ (1 : Int) := (ob_349 hp9 f5 f7)
    refine lv_iconst (v := 1) hx hb dX9_unit_31 (by decide) ?_
    refine lv_goto (tgt := 36) hx hb dX9_unit_32 (by decide) ?_
    refine lv_istore_n (lv' := [(1, .int 1), (0, .ref (r 0))]) hx hb dX9_unit_36 rfl hl (by decide) rfl (fun ls hl => ?_)
    refine lv_iload_n hx hb dX9_unit_37 rfl (lv_at hl 0 rfl) ?_
    refine lv_if_eq (tgt := 55) hx hb dX9_unit_38 (by decide) (fun c_9 => absurd c_9 (by decide)) (fun c_9 => ?_)
    refine lv_aload_n hx hb dX9_unit_41 rfl (lv_at hl 1 rfl) ?_
    refine lv_ldc2 (v := 7237492) hx hb hown (hG _ gw1394) dX9_unit_42 ?_
    refine va_calli (va_runV (As := [.long (7237492 : Int64)]) (rest := []) ⟨hx, hb, hml, hown, hG⟩ (kX9_isWord l dC dI r ct i_taped i_size i_faultKind i_at i_end i_token i_number i_bank i_rb i_codes i_within i_piled i_unitsInRule i_askHouse i_askTune i_acts i_undone i_laid i_knowns i_time f_text f_tunes f_houses f_hums f_told f_many f_ruleFrom f_ruleTo f_code f_eWhat f_eSign f_all f_kept f_was f_sTune f_boxAll J L (7237492 : Int64) s.heap.size hI) (cwV 1 hG (goodV gw1413 gw1415 gw64 gw138 gw1416) rfl rfl rfl hd_X9_isWord ⟨(Nat.le_of_ble_eq_true rfl), (Nat.le_of_ble_eq_true rfl)⟩) ⟨fbR, va_recv hK hP (ci := 8) (q0 := 0) rfl rfl, pR_in hP hK⟩ rfl rfl hl.1 rfl (lv_room (Nat.le_of_ble_eq_true rfl)) dX9_unit_45 ⟨(Nat.le_of_ble_eq_true rfl), (Nat.le_of_ble_eq_true rfl)⟩) hS (fun q hq h => absurd hq (Nat.not_lt.mpr h)) (fun q h => hA q (Nat.le_trans hS.1 h)) (fun r_11 u_ t_ H10 locs ht hvm hw hB hz1 hk1 hS => ?_)
    subst hw
    have hP := wk hP hk1
    obtain ⟨f12, f13, f14⟩ := hB
    refine lv_if_eq (tgt := 55) hx hb dX9_unit_48 (by decide) (fun c_15 => ?_) (fun c_15 => ?_)
    · skip
      have f16 : r_11.toInt = 0 := qi_eq c_15 rfl zc_0
      refine lv_iconst (v := 0) hx hb dX9_unit_55 (by decide) ?_
      refine lv_istore_n (lv' := [(2, .int 0), (1, .int 1), (0, .ref (r 0))]) hx hb dX9_unit_56 rfl hl (by decide) rfl (fun ls hl => ?_)
      refine lv_aload_n hx hb dX9_unit_57 rfl (lv_at hl 2 rfl) ?_
      refine lv_bipush (v := 40) hx hb dX9_unit_58 (by decide) ?_
      refine va_calli (va_runV (As := [.int 40]) (rest := []) ⟨hx, hb, hml, hown, hG⟩ (kX9_isSignHere l dC dI r ct i_taped i_size i_faultKind i_at i_end i_token i_number i_bank i_rb i_codes i_within i_piled i_unitsInRule i_askHouse i_askTune i_acts i_undone i_laid i_knowns i_time f_text f_tunes f_houses f_hums f_told f_many f_ruleFrom f_ruleTo f_code f_eWhat f_eSign f_all f_kept f_was f_sTune f_boxAll J L 40 H10.size hI) (cwV 1 hG (goodV gw1476 gw1478 gw79 gw138 gw1479) rfl rfl rfl hd_X9_isSignHere ⟨(Nat.le_of_ble_eq_true rfl), (Nat.le_of_ble_eq_true rfl)⟩) ⟨fbR, va_recv hK hP (ci := 8) (q0 := 0) rfl rfl, pR_in hP hK⟩ rfl rfl hl.1 rfl (lv_room (Nat.le_of_ble_eq_true rfl)) dX9_unit_60 ⟨(Nat.le_of_ble_eq_true rfl), (Nat.le_of_ble_eq_true rfl)⟩) hS (fun q hq h => absurd hq (Nat.not_lt.mpr h)) (fun q h => hA q (Nat.le_trans hS.1 h)) (fun r_18 u_ t_ H17 locs ht hvm hw hB hz1 hk1 hS => ?_)
      subst hw
      have hP := wk hP hk1
      obtain ⟨f19, f20, f21⟩ := hB
      refine lv_istore_n (lv' := [(3, .int r_18), (2, .int 0), (1, .int 1), (0, .ref (r 0))]) hx hb dX9_unit_63 rfl hl (by decide) rfl (fun ls hl => ?_)
      refine lv_aload_n hx hb dX9_unit_64 rfl (lv_at hl 3 rfl) ?_
      refine va_calli (va_runV (As := []) (rest := []) ⟨hx, hb, hml, hown, hG⟩ (kX9_wordHere l dC dI r ct i_taped i_size i_faultKind i_at i_end i_token i_number i_bank i_rb i_codes i_within i_piled i_unitsInRule i_askHouse i_askTune i_acts i_undone i_laid i_knowns i_time f_text f_tunes f_houses f_hums f_told f_many f_ruleFrom f_ruleTo f_code f_eWhat f_eSign f_all f_kept f_was f_sTune f_boxAll J L H17.size hI) (cwV 0 hG (goodV gw1480 gw1482 gw80 gw138 gw1483) rfl rfl rfl hd_X9_wordHere ⟨(Nat.le_of_ble_eq_true rfl), (Nat.le_of_ble_eq_true rfl)⟩) ⟨fbR, va_recv hK hP (ci := 8) (q0 := 0) rfl rfl, pR_in hP hK⟩ rfl rfl hl.1 rfl (lv_room (Nat.le_of_ble_eq_true rfl)) dX9_unit_65 ⟨(Nat.le_of_ble_eq_true rfl), (Nat.le_of_ble_eq_true rfl)⟩) hS (fun q hq h => absurd hq (Nat.not_lt.mpr h)) (fun q h => hA q (Nat.le_trans hS.1 h)) (fun r_23 u_ t_ H22 locs ht hvm hw hB hz1 hk1 hS => ?_)
      subst hw
      have hP := wk hP hk1
      have f24 := hB
      refine lv_istore (lv' := [(4, .int r_23), (3, .int r_18), (2, .int 0), (1, .int 1), (0, .ref (r 0))]) hx hb dX9_unit_68 hl (by decide) rfl (fun ls hl => ?_)
      refine lv_aload_n hx hb dX9_unit_70 rfl (lv_at hl 4 rfl) ?_
      refine gM_X9_30_0 hx hb hG hown hK hP dX9_unit_71 ?_
      refine lv_aload_n hx hb dX9_unit_74 rfl (lv_at hl 4 rfl) ?_
      refine gM_X9_240_0 hx hb hG hown hK hP dX9_unit_75 ?_
      refine ldM_6 (mm := i_rb.toInt) hx hb hK hP rfl (ob_350 ie6) (ob_351 ie7) dX9_unit_78 (fun x25 => ?_)
      refine lv_bipush (v := 60) hx hb dX9_unit_79 (by decide) ?_
      refine lv_icmp_eq (tgt := 93) hx hb dX9_unit_81 (by decide) (fun c_26 => ?_) (fun c_26 => ?_)
      · skip
        have f27 : x25.toInt = 60 := qi_eq c_26 rfl zc_60
        refine lv_iconst (v := 1) hx hb dX9_unit_93 (by decide) ?_
        refine lv_goto (tgt := 98) hx hb dX9_unit_94 (by decide) ?_
        refine lv_istore (lv' := [(5, .int 1), (4, .int r_23), (3, .int r_18), (2, .int 0), (1, .int 1), (0, .ref (r 0))]) hx hb dX9_unit_98 hl (by decide) rfl (fun ls hl => ?_)
        refine lv_iload_n hx hb dX9_unit_100 rfl (lv_at hl 3 rfl) ?_
        refine lv_if_ne (tgt := 126) hx hb dX9_unit_101 (by decide) (fun c_28 => absurd (by decide) c_28) (fun c_28 => ?_)
        refine lv_iload hx hb dX9_unit_104 (lv_at hl 1 rfl) ?_
        refine lv_if_ne (tgt := 121) hx hb dX9_unit_106 (by decide) (fun c_29 => ?_) (fun c_29 => ?_)
        · skip
          have f30 : r_23.toInt ≠ 0 := qi_ne c_29 rfl zc_0
          have f31 : (97 : Int) ≤ r_23.toInt := (ob_352 f24 f30)
          have f32 : r_23.toInt ≤ (122 : Int) := (ob_353 f24 f30 f31)
          have f33 : i_token.toInt = (3 : Int) := (ob_354 f24 f30)
          have f34 : (1 : Int) ≤ r_23.toInt := (ob_355 f31 f32)
          refine lv_iload hx hb dX9_unit_121 (lv_at hl 0 rfl) ?_
          refine lv_if_ne (tgt := 143) hx hb dX9_unit_123 (by decide) (fun c_35 => ?_) (fun c_35 => absurd c_35 (by decide))
          refine lv_aload_n hx hb dX9_unit_143 rfl (lv_at hl 5 rfl) ?_
          have hFc := frA hD hS hA
          refine va_callv (va_runV (As := []) (rest := []) ⟨hx, hb, hml, hown, hG⟩ (kX9_misplaced l dC dI r ct i_taped i_size i_faultKind i_at i_end i_token i_number i_bank i_rb i_codes i_within i_piled i_unitsInRule i_askHouse i_askTune i_acts i_undone i_laid i_knowns i_time f_text f_tunes f_houses f_hums f_told f_many f_ruleFrom f_ruleTo f_code f_eWhat f_eSign f_all f_kept f_was f_sTune f_boxAll J L H22.size hI) (cwV 0 hG (goodV gw1420 gw1422 gw65 gw138 gw1423) rfl rfl rfl hd_X9_misplaced ⟨(Nat.le_of_ble_eq_true rfl), (Nat.le_of_ble_eq_true rfl)⟩) ⟨fbW, va_recv hK hP (ci := 8) (q0 := 0) rfl rfl, pW_in hP hK hD⟩ rfl rfl hl.1 rfl (lv_room (Nat.le_of_ble_eq_true rfl)) dX9_unit_144 ⟨(Nat.le_of_ble_eq_true rfl), (Nat.le_of_ble_eq_true rfl)⟩) hS (fun q _ h => hFc q h) hFc (fun _ t_ H36 locs ht hvm hw hB hz1 hk1 hS => ?_)
          obtain ⟨x38, J39, hP1, hD1, hI41, f40⟩ := hB
          rw [ht] at hP1
          have hP := hP1
          have hD := dW hFc hD1
          obtain ⟨im42, im43, im44, im45, im46, im47, im48, im49, im50, im51, im52, im53, im54, im55, im56, im57, im58, im59, im60, im61, im62, im63, im64, im65, im66, im67, im68, im69, im70, im71, im72, im73, im74⟩ := id hI41
          refine lv_aload_n hx hb dX9_unit_147 rfl (lv_at hl 5 rfl) ?_
          refine va_calli (va_runV (As := []) (rest := []) ⟨hx, hb, hml, hown, hG⟩ (kX9_isGood l dC dI r ct i_taped i_size x38 i_at i_end i_token i_number i_bank i_rb i_codes i_within i_piled i_unitsInRule i_askHouse i_askTune i_acts i_undone i_laid i_knowns i_time f_text f_tunes f_houses f_hums f_told f_many f_ruleFrom f_ruleTo f_code f_eWhat f_eSign f_all f_kept f_was f_sTune f_boxAll J39 L H36.size hI41) (cwV 0 hG (goodV gw1401 gw1403 gw61 gw138 gw1404) rfl rfl rfl hd_X9_isGood ⟨(Nat.le_of_ble_eq_true rfl), (Nat.le_of_ble_eq_true rfl)⟩) ⟨fbR, va_recv hK hP (ci := 8) (q0 := 0) rfl rfl, pR_in hP hK⟩ rfl rfl hl.1 rfl (lv_room (Nat.le_of_ble_eq_true rfl)) dX9_unit_148 ⟨(Nat.le_of_ble_eq_true rfl), (Nat.le_of_ble_eq_true rfl)⟩) hS (fun q hq h => absurd hq (Nat.not_lt.mpr h)) (fun q h => hA q (Nat.le_trans hS.1 h)) (fun r_76 u_ t_ H75 locs ht hvm hw hB hz1 hk1 hS => ?_)
          subst hw
          have hP := wk hP hk1
          obtain ⟨f77, f78, f79⟩ := hB
          refine lv_if_ne (tgt := 156) hx hb dX9_unit_151 (by decide) (fun c_80 => ((ob_231 (qi_ne c_80 rfl zc_0) f40 f77)).elim) (fun c_80 => ?_)
          have f81 : r_76.toInt = 0 := qi_eq c_80 rfl zc_0
          have f82 : x38.toInt ≠ (0 : Int) := (ob_232 im59 f40)
          have f83 : (1 : Int) ≤ x38.toInt := (ob_217 im59 f40)
          have f84 : r_76.toInt = (0 : Int) := (ob_226 f78 f79 f81)
          refine lv_iconst (v := 1) hx hb dX9_unit_154 (by decide) ?_
          rw [hQ]
          exact W.zret (v := 1) hx hb hr (by decide) (fun t ht hW => ⟨⟨1, 1, rfl, rfl, ⟨x38, i_at, i_end, i_token, i_number, i_codes, i_within, i_piled, i_unitsInRule, f_code, f_eWhat, f_eSign, J39, L, by rw [ht]; exact hP, hD, hI41, (ob_14 zc_1), (ob_15 zc_1), (fun h => ((ob_356 h im59 f40)).elim), (ob_357 hp5 hp7 hp8), (ob_358 hp2 hp4 hp7), (ob_146), (ob_359 f40 zc_1)⟩⟩, hS.F ht⟩) hS.2.2 dX9_unit_155
        · skip
          have f85 : r_23.toInt = 0 := qi_eq c_29 rfl zc_0
          have f86 : r_23.toInt = (0 : Int) := (ob_25 f85)
          refine lv_aload_n hx hb dX9_unit_109 rfl (lv_at hl 5 rfl) ?_
          refine gM_X9_191_0 hx hb hG hown hK hP dX9_unit_110 ?_
          refine lv_iconst (v := 4) hx hb dX9_unit_113 (by decide) ?_
          refine lv_icmp_eq (tgt := 121) hx hb dX9_unit_114 (by decide) (fun c_87 => ?_) (fun c_87 => ?_)
          · skip
            have f88 : i_token.toInt = 4 := qi_eq c_87 rfl zc_4
            have f89 : i_token.toInt ≠ (3 : Int) := (ob_360 f88)
            have f90 : r_11.toInt = (0 : Int) := (ob_226 f13 f14 f16)
            have f91 : i_token.toInt ≠ (5 : Int) := (ob_361 f88)
            have f92 : r_18.toInt = (0 : Int) := (ob_362 f19 f88 zc_40)
            have f93 : (4 : Int) ≤ i_token.toInt := (ob_363 f88)
            have f94 : i_token.toInt ≤ (4 : Int) := (ob_364 f88 f93)
            refine lv_iload hx hb dX9_unit_121 (lv_at hl 0 rfl) ?_
            refine lv_if_ne (tgt := 143) hx hb dX9_unit_123 (by decide) (fun c_95 => ?_) (fun c_95 => absurd c_95 (by decide))
            refine lv_aload_n hx hb dX9_unit_143 rfl (lv_at hl 5 rfl) ?_
            have hFc := frA hD hS hA
            refine va_callv (va_runV (As := []) (rest := []) ⟨hx, hb, hml, hown, hG⟩ (kX9_misplaced l dC dI r ct i_taped i_size i_faultKind i_at i_end i_token i_number i_bank i_rb i_codes i_within i_piled i_unitsInRule i_askHouse i_askTune i_acts i_undone i_laid i_knowns i_time f_text f_tunes f_houses f_hums f_told f_many f_ruleFrom f_ruleTo f_code f_eWhat f_eSign f_all f_kept f_was f_sTune f_boxAll J L H22.size hI) (cwV 0 hG (goodV gw1420 gw1422 gw65 gw138 gw1423) rfl rfl rfl hd_X9_misplaced ⟨(Nat.le_of_ble_eq_true rfl), (Nat.le_of_ble_eq_true rfl)⟩) ⟨fbW, va_recv hK hP (ci := 8) (q0 := 0) rfl rfl, pW_in hP hK hD⟩ rfl rfl hl.1 rfl (lv_room (Nat.le_of_ble_eq_true rfl)) dX9_unit_144 ⟨(Nat.le_of_ble_eq_true rfl), (Nat.le_of_ble_eq_true rfl)⟩) hS (fun q _ h => hFc q h) hFc (fun _ t_ H96 locs ht hvm hw hB hz1 hk1 hS => ?_)
            obtain ⟨x98, J99, hP1, hD1, hI101, f100⟩ := hB
            rw [ht] at hP1
            have hP := hP1
            have hD := dW hFc hD1
            obtain ⟨im102, im103, im104, im105, im106, im107, im108, im109, im110, im111, im112, im113, im114, im115, im116, im117, im118, im119, im120, im121, im122, im123, im124, im125, im126, im127, im128, im129, im130, im131, im132, im133, im134⟩ := id hI101
            refine lv_aload_n hx hb dX9_unit_147 rfl (lv_at hl 5 rfl) ?_
            refine va_calli (va_runV (As := []) (rest := []) ⟨hx, hb, hml, hown, hG⟩ (kX9_isGood l dC dI r ct i_taped i_size x98 i_at i_end i_token i_number i_bank i_rb i_codes i_within i_piled i_unitsInRule i_askHouse i_askTune i_acts i_undone i_laid i_knowns i_time f_text f_tunes f_houses f_hums f_told f_many f_ruleFrom f_ruleTo f_code f_eWhat f_eSign f_all f_kept f_was f_sTune f_boxAll J99 L H96.size hI101) (cwV 0 hG (goodV gw1401 gw1403 gw61 gw138 gw1404) rfl rfl rfl hd_X9_isGood ⟨(Nat.le_of_ble_eq_true rfl), (Nat.le_of_ble_eq_true rfl)⟩) ⟨fbR, va_recv hK hP (ci := 8) (q0 := 0) rfl rfl, pR_in hP hK⟩ rfl rfl hl.1 rfl (lv_room (Nat.le_of_ble_eq_true rfl)) dX9_unit_148 ⟨(Nat.le_of_ble_eq_true rfl), (Nat.le_of_ble_eq_true rfl)⟩) hS (fun q hq h => absurd hq (Nat.not_lt.mpr h)) (fun q h => hA q (Nat.le_trans hS.1 h)) (fun r_136 u_ t_ H135 locs ht hvm hw hB hz1 hk1 hS => ?_)
            subst hw
            have hP := wk hP hk1
            obtain ⟨f137, f138, f139⟩ := hB
            refine lv_if_ne (tgt := 156) hx hb dX9_unit_151 (by decide) (fun c_140 => ((ob_231 (qi_ne c_140 rfl zc_0) f100 f137)).elim) (fun c_140 => ?_)
            have f141 : r_136.toInt = 0 := qi_eq c_140 rfl zc_0
            have f142 : x98.toInt ≠ (0 : Int) := (ob_232 im119 f100)
            have f143 : (1 : Int) ≤ x98.toInt := (ob_217 im119 f100)
            have f144 : r_136.toInt = (0 : Int) := (ob_226 f138 f139 f141)
            refine lv_iconst (v := 1) hx hb dX9_unit_154 (by decide) ?_
            rw [hQ]
            exact W.zret (v := 1) hx hb hr (by decide) (fun t ht hW => ⟨⟨1, 1, rfl, rfl, ⟨x98, i_at, i_end, i_token, i_number, i_codes, i_within, i_piled, i_unitsInRule, f_code, f_eWhat, f_eSign, J99, L, by rw [ht]; exact hP, hD, hI101, (ob_14 zc_1), (ob_15 zc_1), (fun h => ((ob_356 h im119 f100)).elim), (ob_357 hp5 hp7 hp8), (ob_358 hp2 hp4 hp7), (ob_146), (ob_359 f100 zc_1)⟩⟩, hS.F ht⟩) hS.2.2 dX9_unit_155
          · skip
            have f145 : i_token.toInt ≠ 4 := qi_ne c_87 rfl zc_4
            refine lv_iload_n hx hb dX9_unit_117 rfl (lv_at hl 2 rfl) ?_
            refine lv_if_eq (tgt := 143) hx hb dX9_unit_118 (by decide) (fun c_146 => ?_) (fun c_146 => ?_)
            · skip
              have f147 : r_18.toInt = 0 := qi_eq c_146 rfl zc_0
              refine lv_aload_n hx hb dX9_unit_143 rfl (lv_at hl 5 rfl) ?_
              have hFc := frA hD hS hA
              refine va_callv (va_runV (As := []) (rest := []) ⟨hx, hb, hml, hown, hG⟩ (kX9_misplaced l dC dI r ct i_taped i_size i_faultKind i_at i_end i_token i_number i_bank i_rb i_codes i_within i_piled i_unitsInRule i_askHouse i_askTune i_acts i_undone i_laid i_knowns i_time f_text f_tunes f_houses f_hums f_told f_many f_ruleFrom f_ruleTo f_code f_eWhat f_eSign f_all f_kept f_was f_sTune f_boxAll J L H22.size hI) (cwV 0 hG (goodV gw1420 gw1422 gw65 gw138 gw1423) rfl rfl rfl hd_X9_misplaced ⟨(Nat.le_of_ble_eq_true rfl), (Nat.le_of_ble_eq_true rfl)⟩) ⟨fbW, va_recv hK hP (ci := 8) (q0 := 0) rfl rfl, pW_in hP hK hD⟩ rfl rfl hl.1 rfl (lv_room (Nat.le_of_ble_eq_true rfl)) dX9_unit_144 ⟨(Nat.le_of_ble_eq_true rfl), (Nat.le_of_ble_eq_true rfl)⟩) hS (fun q _ h => hFc q h) hFc (fun _ t_ H148 locs ht hvm hw hB hz1 hk1 hS => ?_)
              obtain ⟨x150, J151, hP1, hD1, hI153, f152⟩ := hB
              rw [ht] at hP1
              have hP := hP1
              have hD := dW hFc hD1
              obtain ⟨im154, im155, im156, im157, im158, im159, im160, im161, im162, im163, im164, im165, im166, im167, im168, im169, im170, im171, im172, im173, im174, im175, im176, im177, im178, im179, im180, im181, im182, im183, im184, im185, im186⟩ := id hI153
              refine lv_aload_n hx hb dX9_unit_147 rfl (lv_at hl 5 rfl) ?_
              refine va_calli (va_runV (As := []) (rest := []) ⟨hx, hb, hml, hown, hG⟩ (kX9_isGood l dC dI r ct i_taped i_size x150 i_at i_end i_token i_number i_bank i_rb i_codes i_within i_piled i_unitsInRule i_askHouse i_askTune i_acts i_undone i_laid i_knowns i_time f_text f_tunes f_houses f_hums f_told f_many f_ruleFrom f_ruleTo f_code f_eWhat f_eSign f_all f_kept f_was f_sTune f_boxAll J151 L H148.size hI153) (cwV 0 hG (goodV gw1401 gw1403 gw61 gw138 gw1404) rfl rfl rfl hd_X9_isGood ⟨(Nat.le_of_ble_eq_true rfl), (Nat.le_of_ble_eq_true rfl)⟩) ⟨fbR, va_recv hK hP (ci := 8) (q0 := 0) rfl rfl, pR_in hP hK⟩ rfl rfl hl.1 rfl (lv_room (Nat.le_of_ble_eq_true rfl)) dX9_unit_148 ⟨(Nat.le_of_ble_eq_true rfl), (Nat.le_of_ble_eq_true rfl)⟩) hS (fun q hq h => absurd hq (Nat.not_lt.mpr h)) (fun q h => hA q (Nat.le_trans hS.1 h)) (fun r_188 u_ t_ H187 locs ht hvm hw hB hz1 hk1 hS => ?_)
              subst hw
              have hP := wk hP hk1
              obtain ⟨f189, f190, f191⟩ := hB
              refine lv_if_ne (tgt := 156) hx hb dX9_unit_151 (by decide) (fun c_192 => ((ob_231 (qi_ne c_192 rfl zc_0) f152 f189)).elim) (fun c_192 => ?_)
              have f193 : r_188.toInt = 0 := qi_eq c_192 rfl zc_0
              have f194 : x150.toInt ≠ (0 : Int) := (ob_232 im171 f152)
              have f195 : (1 : Int) ≤ x150.toInt := (ob_217 im171 f152)
              have f196 : r_188.toInt = (0 : Int) := (ob_226 f190 f191 f193)
              refine lv_iconst (v := 1) hx hb dX9_unit_154 (by decide) ?_
              rw [hQ]
              exact W.zret (v := 1) hx hb hr (by decide) (fun t ht hW => ⟨⟨1, 1, rfl, rfl, ⟨x150, i_at, i_end, i_token, i_number, i_codes, i_within, i_piled, i_unitsInRule, f_code, f_eWhat, f_eSign, J151, L, by rw [ht]; exact hP, hD, hI153, (ob_14 zc_1), (ob_15 zc_1), (fun h => ((ob_356 h im171 f152)).elim), (ob_357 hp5 hp7 hp8), (ob_358 hp2 hp4 hp7), (ob_146), (ob_359 f152 zc_1)⟩⟩, hS.F ht⟩) hS.2.2 dX9_unit_155
            · skip
              have f197 : r_18.toInt ≠ 0 := qi_ne c_146 rfl zc_0
              have f198 : i_token.toInt = (5 : Int) := (ob_365 f19 f197 zc_40)
              have f199 : (sgz f_text i_size.toInt i_at.toInt) = (40 : Int) := (ob_366 f19 f197 zc_40)
              have f200 : r_18.toInt = (1 : Int) := (ob_367 f19 f197 zc_40)
              have f201 : (1 : Int) ≤ r_18.toInt := (ob_162 f20 f21 f200)
              refine lv_iload hx hb dX9_unit_121 (lv_at hl 0 rfl) ?_
              refine lv_if_ne (tgt := 143) hx hb dX9_unit_123 (by decide) (fun c_202 => ?_) (fun c_202 => absurd c_202 (by decide))
              refine lv_aload_n hx hb dX9_unit_143 rfl (lv_at hl 5 rfl) ?_
              have hFc := frA hD hS hA
              refine va_callv (va_runV (As := []) (rest := []) ⟨hx, hb, hml, hown, hG⟩ (kX9_misplaced l dC dI r ct i_taped i_size i_faultKind i_at i_end i_token i_number i_bank i_rb i_codes i_within i_piled i_unitsInRule i_askHouse i_askTune i_acts i_undone i_laid i_knowns i_time f_text f_tunes f_houses f_hums f_told f_many f_ruleFrom f_ruleTo f_code f_eWhat f_eSign f_all f_kept f_was f_sTune f_boxAll J L H22.size hI) (cwV 0 hG (goodV gw1420 gw1422 gw65 gw138 gw1423) rfl rfl rfl hd_X9_misplaced ⟨(Nat.le_of_ble_eq_true rfl), (Nat.le_of_ble_eq_true rfl)⟩) ⟨fbW, va_recv hK hP (ci := 8) (q0 := 0) rfl rfl, pW_in hP hK hD⟩ rfl rfl hl.1 rfl (lv_room (Nat.le_of_ble_eq_true rfl)) dX9_unit_144 ⟨(Nat.le_of_ble_eq_true rfl), (Nat.le_of_ble_eq_true rfl)⟩) hS (fun q _ h => hFc q h) hFc (fun _ t_ H203 locs ht hvm hw hB hz1 hk1 hS => ?_)
              obtain ⟨x205, J206, hP1, hD1, hI208, f207⟩ := hB
              rw [ht] at hP1
              have hP := hP1
              have hD := dW hFc hD1
              obtain ⟨im209, im210, im211, im212, im213, im214, im215, im216, im217, im218, im219, im220, im221, im222, im223, im224, im225, im226, im227, im228, im229, im230, im231, im232, im233, im234, im235, im236, im237, im238, im239, im240, im241⟩ := id hI208
              refine lv_aload_n hx hb dX9_unit_147 rfl (lv_at hl 5 rfl) ?_
              refine va_calli (va_runV (As := []) (rest := []) ⟨hx, hb, hml, hown, hG⟩ (kX9_isGood l dC dI r ct i_taped i_size x205 i_at i_end i_token i_number i_bank i_rb i_codes i_within i_piled i_unitsInRule i_askHouse i_askTune i_acts i_undone i_laid i_knowns i_time f_text f_tunes f_houses f_hums f_told f_many f_ruleFrom f_ruleTo f_code f_eWhat f_eSign f_all f_kept f_was f_sTune f_boxAll J206 L H203.size hI208) (cwV 0 hG (goodV gw1401 gw1403 gw61 gw138 gw1404) rfl rfl rfl hd_X9_isGood ⟨(Nat.le_of_ble_eq_true rfl), (Nat.le_of_ble_eq_true rfl)⟩) ⟨fbR, va_recv hK hP (ci := 8) (q0 := 0) rfl rfl, pR_in hP hK⟩ rfl rfl hl.1 rfl (lv_room (Nat.le_of_ble_eq_true rfl)) dX9_unit_148 ⟨(Nat.le_of_ble_eq_true rfl), (Nat.le_of_ble_eq_true rfl)⟩) hS (fun q hq h => absurd hq (Nat.not_lt.mpr h)) (fun q h => hA q (Nat.le_trans hS.1 h)) (fun r_243 u_ t_ H242 locs ht hvm hw hB hz1 hk1 hS => ?_)
              subst hw
              have hP := wk hP hk1
              obtain ⟨f244, f245, f246⟩ := hB
              refine lv_if_ne (tgt := 156) hx hb dX9_unit_151 (by decide) (fun c_247 => ((ob_231 (qi_ne c_247 rfl zc_0) f207 f244)).elim) (fun c_247 => ?_)
              have f248 : r_243.toInt = 0 := qi_eq c_247 rfl zc_0
              have f249 : x205.toInt ≠ (0 : Int) := (ob_232 im226 f207)
              have f250 : (1 : Int) ≤ x205.toInt := (ob_217 im226 f207)
              have f251 : r_243.toInt = (0 : Int) := (ob_226 f245 f246 f248)
              refine lv_iconst (v := 1) hx hb dX9_unit_154 (by decide) ?_
              rw [hQ]
              exact W.zret (v := 1) hx hb hr (by decide) (fun t ht hW => ⟨⟨1, 1, rfl, rfl, ⟨x205, i_at, i_end, i_token, i_number, i_codes, i_within, i_piled, i_unitsInRule, f_code, f_eWhat, f_eSign, J206, L, by rw [ht]; exact hP, hD, hI208, (ob_14 zc_1), (ob_15 zc_1), (fun h => ((ob_356 h im226 f207)).elim), (ob_357 hp5 hp7 hp8), (ob_358 hp2 hp4 hp7), (ob_146), (ob_359 f207 zc_1)⟩⟩, hS.F ht⟩) hS.2.2 dX9_unit_155
      · skip
        have f252 : x25.toInt ≠ 60 := qi_ne c_26 rfl zc_60
        refine lv_aload_n hx hb dX9_unit_84 rfl (lv_at hl 4 rfl) ?_
        refine gM_X9_290_0 hx hb hG hown hK hP dX9_unit_85 ?_
        refine lv_bipush (v := 30) hx hb dX9_unit_88 (by decide) ?_
        refine lv_icmp_ne (tgt := 97) hx hb dX9_unit_90 (by decide) (fun c_253 => ?_) (fun c_253 => ?_)
        · skip
          have f254 : i_unitsInRule.toInt ≠ 30 := qi_ne c_253 rfl zc_30
          have f255 : i_unitsInRule.toInt ≤ (29 : Int) := (ob_368 hp2 f254)
          refine lv_iconst (v := 0) hx hb dX9_unit_97 (by decide) ?_
          refine lv_istore (lv' := [(5, .int 0), (4, .int r_23), (3, .int r_18), (2, .int 0), (1, .int 1), (0, .ref (r 0))]) hx hb dX9_unit_98 hl (by decide) rfl (fun ls hl => ?_)
          refine lv_iload_n hx hb dX9_unit_100 rfl (lv_at hl 3 rfl) ?_
          refine lv_if_ne (tgt := 126) hx hb dX9_unit_101 (by decide) (fun c_256 => absurd (by decide) c_256) (fun c_256 => ?_)
          refine lv_iload hx hb dX9_unit_104 (lv_at hl 1 rfl) ?_
          refine lv_if_ne (tgt := 121) hx hb dX9_unit_106 (by decide) (fun c_257 => ?_) (fun c_257 => ?_)
          · skip
            have f258 : r_23.toInt ≠ 0 := qi_ne c_257 rfl zc_0
            have f259 : (97 : Int) ≤ r_23.toInt := (ob_352 f24 f258)
            have f260 : r_23.toInt ≤ (122 : Int) := (ob_353 f24 f258 f259)
            have f261 : i_token.toInt = (3 : Int) := (ob_354 f24 f258)
            have f262 : (1 : Int) ≤ r_23.toInt := (ob_355 f259 f260)
            refine lv_iload hx hb dX9_unit_121 (lv_at hl 0 rfl) ?_
            refine lv_if_ne (tgt := 143) hx hb dX9_unit_123 (by decide) (fun c_263 => absurd (by decide) c_263) (fun c_263 => ?_)
            refine lv_iload_n hx hb dX9_unit_126 rfl (lv_at hl 3 rfl) ?_
            refine lv_if_ne (tgt := 134) hx hb dX9_unit_127 (by decide) (fun c_264 => absurd (by decide) c_264) (fun c_264 => ?_)
            refine lv_iload_n hx hb dX9_unit_130 rfl (lv_at hl 2 rfl) ?_
            refine lv_if_eq (tgt := 147) hx hb dX9_unit_131 (by decide) (fun c_265 => ?_) (fun c_265 => ((ob_369 (qi_ne c_265 rfl zc_0) f19 f261 zc_40)).elim)
            have f266 : r_18.toInt = 0 := qi_eq c_265 rfl zc_0
            have f267 : i_token.toInt ≠ (5 : Int) := (ob_370 f261)
            have f268 : r_18.toInt = (0 : Int) := (ob_226 f20 f21 f266)
            refine lv_aload_n hx hb dX9_unit_147 rfl (lv_at hl 5 rfl) ?_
            refine va_calli (va_runV (As := []) (rest := []) ⟨hx, hb, hml, hown, hG⟩ (kX9_isGood l dC dI r ct i_taped i_size i_faultKind i_at i_end i_token i_number i_bank i_rb i_codes i_within i_piled i_unitsInRule i_askHouse i_askTune i_acts i_undone i_laid i_knowns i_time f_text f_tunes f_houses f_hums f_told f_many f_ruleFrom f_ruleTo f_code f_eWhat f_eSign f_all f_kept f_was f_sTune f_boxAll J L H22.size hI) (cwV 0 hG (goodV gw1401 gw1403 gw61 gw138 gw1404) rfl rfl rfl hd_X9_isGood ⟨(Nat.le_of_ble_eq_true rfl), (Nat.le_of_ble_eq_true rfl)⟩) ⟨fbR, va_recv hK hP (ci := 8) (q0 := 0) rfl rfl, pR_in hP hK⟩ rfl rfl hl.1 rfl (lv_room (Nat.le_of_ble_eq_true rfl)) dX9_unit_148 ⟨(Nat.le_of_ble_eq_true rfl), (Nat.le_of_ble_eq_true rfl)⟩) hS (fun q hq h => absurd hq (Nat.not_lt.mpr h)) (fun q h => hA q (Nat.le_trans hS.1 h)) (fun r_270 u_ t_ H269 locs ht hvm hw hB hz1 hk1 hS => ?_)
            subst hw
            have hP := wk hP hk1
            obtain ⟨f271, f272, f273⟩ := hB
            refine lv_if_ne (tgt := 156) hx hb dX9_unit_151 (by decide) (fun c_274 => ?_) (fun c_274 => ((ob_228 (qi_eq c_274 rfl zc_0) hp10 f271)).elim)
            have f275 : r_270.toInt ≠ 0 := qi_ne c_274 rfl zc_0
            have f276 : i_faultKind.toInt = (0 : Int) := (ob_229 ie17 hp10)
            have f277 : r_270.toInt = (1 : Int) := (ob_220 f271 f275)
            have f278 : (1 : Int) ≤ r_270.toInt := (ob_162 f272 f273 f277)
            refine lv_aload_n hx hb dX9_unit_156 rfl (lv_at hl 5 rfl) ?_
            refine gM_X9_30_0 hx hb hG hown hK hP dX9_unit_157 ?_
            refine lv_aload_n hx hb dX9_unit_160 rfl (lv_at hl 5 rfl) ?_
            refine gM_X9_240_0 hx hb hG hown hK hP dX9_unit_161 ?_
            refine lv_dup2_11 hx hb dX9_unit_164 rfl rfl ?_
            refine ldM_6 (mm := i_rb.toInt) hx hb hK hP rfl (ob_350 ie6) (ob_351 ie7) dX9_unit_165 (fun x279 => ?_)
            refine lv_iload_n hx hb dX9_unit_166 rfl (lv_at hl 3 rfl) ?_
            refine lv_if_eq (tgt := 174) hx hb dX9_unit_167 (by decide) (fun c_280 => ?_) (fun c_280 => absurd (by decide) c_280)
            refine lv_iconst (v := 1) hx hb dX9_unit_174 (by decide) ?_
            refine lv_iadd hx hb dX9_unit_175 ?_
            refine lv_topi (fun x281 ex281 => ?_)
            refine stM_6 (mm := i_rb.toInt) hx hb hK hP hD hS rfl (ob_350 ie6) (ob_351 ie7) dX9_unit_176 (fun J283 H282 locs hP hD hS => ?_)
            refine lv_aload_n hx hb dX9_unit_177 rfl (lv_at hl 5 rfl) ?_
            refine lv_dup hx hb dX9_unit_178 rfl ?_
            refine gM_X9_290_0 hx hb hG hown hK hP dX9_unit_179 ?_
            refine lv_iload_n hx hb dX9_unit_182 rfl (lv_at hl 3 rfl) ?_
            refine lv_if_eq (tgt := 190) hx hb dX9_unit_183 (by decide) (fun c_284 => ?_) (fun c_284 => absurd (by decide) c_284)
            refine lv_iconst (v := 1) hx hb dX9_unit_190 (by decide) ?_
            refine lv_iadd hx hb dX9_unit_191 ?_
            refine lv_topi (fun x285 ex285 => ?_)
            have f286 : x285.toInt = i_unitsInRule.toInt + 1 := (ob_142 (qi_add ex285 rfl zc_1 (ob_140 hp1) (ob_371 hp2)))
            refine pM_X9_290_0 hx hb hG hown hK hP hD hS dX9_unit_192 (fun H287 locs hP hD hS => ?_)
            refine lv_iload hx hb dX9_unit_195 (lv_at hl 1 rfl) ?_
            refine lv_if_ne (tgt := 207) hx hb dX9_unit_197 (by decide) (fun c_288 => ?_) (fun c_288 => ((ob_372 (qi_eq c_288 rfl zc_0) f259 f260 f262)).elim)
            have f289 : r_23.toInt ≠ 0 := qi_ne c_288 rfl zc_0
            have f290 : (1 : Int) ≤ r_23.toInt := (ob_373 f259 f260 f262)
            refine lv_iconst (v := 0) hx hb dX9_unit_207 (by decide) ?_
            refine lv_istore (lv' := [(6, .int 0), (5, .int 0), (4, .int r_23), (3, .int r_18), (2, .int 0), (1, .int 1), (0, .ref (r 0))]) hx hb dX9_unit_208 hl (by decide) rfl (fun ls hl => ?_)
            refine lv_aload_n hx hb dX9_unit_210 rfl (lv_at hl 6 rfl) ?_
            have hFc := frA hD hS hA
            refine va_callv (va_runV (As := []) (rest := []) ⟨hx, hb, hml, hown, hG⟩ (kX9_goOn l dC dI r ct i_taped i_size i_faultKind i_at i_end i_token i_number i_bank i_rb i_codes i_within i_piled x285 i_askHouse i_askTune i_acts i_undone i_laid i_knowns i_time f_text f_tunes f_houses f_hums f_told f_many f_ruleFrom f_ruleTo f_code f_eWhat f_eSign f_all f_kept f_was f_sTune f_boxAll J283 L H287.size hI) (cwV 0 hG (goodV gw1362 gw1364 gw59 gw138 gw1365) rfl rfl rfl hd_X9_goOn ⟨(Nat.le_of_ble_eq_true rfl), (Nat.le_of_ble_eq_true rfl)⟩) ⟨fbW, va_recv hK hP (ci := 8) (q0 := 0) rfl rfl, pW_in hP hK hD⟩ rfl rfl hl.1 rfl (lv_room (Nat.le_of_ble_eq_true rfl)) dX9_unit_211 ⟨(Nat.le_of_ble_eq_true rfl), (Nat.le_of_ble_eq_true rfl)⟩) hS (fun q _ h => hFc q h) hFc (fun _ t_ H291 locs ht hvm hw hB hz1 hk1 hS => ?_)
            obtain ⟨x293, x294, x295, x296, L297, hP1, hD1, hI301, f298, f299, f300⟩ := hB
            rw [ht] at hP1
            have hP := hP1
            have hD := dW hFc hD1
            obtain ⟨im302, im303, im304, im305, im306, im307, im308, im309, im310, im311, im312, im313, im314, im315, im316, im317, im318, im319, im320, im321, im322, im323, im324, im325, im326, im327, im328, im329, im330, im331, im332, im333, im334⟩ := id hI301
            refine lv_iload_n hx hb dX9_unit_214 rfl (lv_at hl 4 rfl) ?_
            refine lv_if_ne (tgt := 222) hx hb dX9_unit_215 (by decide) (fun c_335 => absurd (by decide) c_335) (fun c_335 => ?_)
            refine lv_iload_n hx hb dX9_unit_218 rfl (lv_at hl 3 rfl) ?_
            refine lv_if_eq (tgt := 250) hx hb dX9_unit_219 (by decide) (fun c_336 => ?_) (fun c_336 => ((ob_374 (qi_ne c_336 rfl zc_0) f266)).elim)
            have f337 : r_18.toInt = 0 := qi_eq c_336 rfl zc_0
            refine lv_aload_n hx hb dX9_unit_250 rfl (lv_at hl 6 rfl) ?_
            refine lv_iload hx hb dX9_unit_251 (lv_at hl 2 rfl) ?_
            refine lv_if_ne (tgt := 261) hx hb dX9_unit_253 (by decide) (fun c_338 => ?_) (fun c_338 => ((ob_375 (qi_eq c_338 rfl zc_0) f259)).elim)
            have f339 : r_23.toInt ≠ 0 := qi_ne c_338 rfl zc_0
            have f340 : (1 : Int) ≤ r_23.toInt := (ob_376 f259)
            refine lv_iload hx hb dX9_unit_261 (lv_at hl 2 rfl) ?_
            refine lv_iload hx hb dX9_unit_263 (lv_at hl 0 rfl) ?_
            have hFc := frA hD hS hA
            refine va_callv (va_runV (As := [.int r_23, .int 0]) (rest := []) ⟨hx, hb, hml, hown, hG⟩ (kX9_emit l dC dI r ct i_taped i_size i_faultKind x293 x294 x295 x296 i_bank i_rb i_codes i_within i_piled x285 i_askHouse i_askTune i_acts i_undone i_laid i_knowns i_time f_text f_tunes f_houses f_hums f_told f_many f_ruleFrom f_ruleTo f_code f_eWhat f_eSign f_all f_kept f_was f_sTune f_boxAll J283 L297 r_23 0 H291.size hI301 (ob_377 hp0) (ob_378 hp6) (ob_379 hp2 hp4 hp5 hp8)) (cwV 2 hG (goodV gw1484 gw1486 gw81 gw138 gw1487) rfl rfl rfl hd_X9_emit ⟨(Nat.le_of_ble_eq_true rfl), (Nat.le_of_ble_eq_true rfl)⟩) ⟨fbW, va_recv hK hP (ci := 8) (q0 := 0) rfl rfl, pW_in hP hK hD⟩ rfl rfl hl.1 rfl (lv_room (Nat.le_of_ble_eq_true rfl)) dX9_unit_265 ⟨(Nat.le_of_ble_eq_true rfl), (Nat.le_of_ble_eq_true rfl)⟩) hS (fun q _ h => hFc q h) hFc (fun _ t_ H341 locs ht hvm hw hB hz1 hk1 hS => ?_)
            obtain ⟨x343, z344, J345, hP1, hD1, hI348, f346, f347⟩ := hB
            rw [ht] at hP1
            have hP := hP1
            have hD := dW hFc hD1
            obtain ⟨im349, im350, im351, im352, im353, im354, im355, im356, im357, im358, im359, im360, im361, im362, im363, im364, im365, im366, im367, im368, im369, im370, im371, im372, im373, im374, im375, im376, im377, im378, im379, im380, im381⟩ := id hI348
            refine lv_iconst (v := 0) hx hb dX9_unit_268 (by decide) ?_
            rw [hQ]
            exact W.zret (v := 0) hx hb hr (by decide) (fun t ht hW => ⟨⟨0, 0, rfl, rfl, ⟨i_faultKind, x293, x294, x295, x296, x343, i_within, i_piled, x285, z344, f_eWhat, f_eSign, J345, L297, by rw [ht]; exact hP, hD, hI348, (ob_1 zc_0), (ob_11 zc_0), (fun _ => SPleaf hp11 rfl (ob_380 zc_0) f347 (ob_381 hp6 hp8 f346) (ob_382 hp5 hp7 hp8) (ob_383 hp2 hp4 hp7) (ob_384 ie6) (ob_378 hp6) (ob_385 f259) (ob_386 f260)), (ob_357 hp5 hp7 hp8), (ob_358 hp2 hp4 hp7), (ob_145 f298), (ob_387 ie17 hp2 hp3 hp4 hp5 hp6 hp7 hp8 hp9 f254 f261 f300 f346 zc_0 f286)⟩⟩, hS.F ht⟩) hS.2.2 dX9_unit_269
          · skip
            have f382 : r_23.toInt = 0 := qi_eq c_257 rfl zc_0
            have f383 : r_23.toInt = (0 : Int) := (ob_25 f382)
            refine lv_aload_n hx hb dX9_unit_109 rfl (lv_at hl 5 rfl) ?_
            refine gM_X9_191_0 hx hb hG hown hK hP dX9_unit_110 ?_
            refine lv_iconst (v := 4) hx hb dX9_unit_113 (by decide) ?_
            refine lv_icmp_eq (tgt := 121) hx hb dX9_unit_114 (by decide) (fun c_384 => ?_) (fun c_384 => ?_)
            · skip
              have f385 : i_token.toInt = 4 := qi_eq c_384 rfl zc_4
              have f386 : i_token.toInt ≠ (3 : Int) := (ob_360 f385)
              have f387 : r_11.toInt = (0 : Int) := (ob_226 f13 f14 f16)
              have f388 : i_token.toInt ≠ (5 : Int) := (ob_361 f385)
              have f389 : r_18.toInt = (0 : Int) := (ob_362 f19 f385 zc_40)
              have f390 : (4 : Int) ≤ i_token.toInt := (ob_363 f385)
              have f391 : i_token.toInt ≤ (4 : Int) := (ob_364 f385 f390)
              refine lv_iload hx hb dX9_unit_121 (lv_at hl 0 rfl) ?_
              refine lv_if_ne (tgt := 143) hx hb dX9_unit_123 (by decide) (fun c_392 => absurd (by decide) c_392) (fun c_392 => ?_)
              refine lv_iload_n hx hb dX9_unit_126 rfl (lv_at hl 3 rfl) ?_
              refine lv_if_ne (tgt := 134) hx hb dX9_unit_127 (by decide) (fun c_393 => absurd (by decide) c_393) (fun c_393 => ?_)
              refine lv_iload_n hx hb dX9_unit_130 rfl (lv_at hl 2 rfl) ?_
              refine lv_if_eq (tgt := 147) hx hb dX9_unit_131 (by decide) (fun c_394 => ?_) (fun c_394 => ((ob_388 (qi_ne c_394 rfl zc_0) f20 f21 f389)).elim)
              have f395 : r_18.toInt = 0 := qi_eq c_394 rfl zc_0
              refine lv_aload_n hx hb dX9_unit_147 rfl (lv_at hl 5 rfl) ?_
              refine va_calli (va_runV (As := []) (rest := []) ⟨hx, hb, hml, hown, hG⟩ (kX9_isGood l dC dI r ct i_taped i_size i_faultKind i_at i_end i_token i_number i_bank i_rb i_codes i_within i_piled i_unitsInRule i_askHouse i_askTune i_acts i_undone i_laid i_knowns i_time f_text f_tunes f_houses f_hums f_told f_many f_ruleFrom f_ruleTo f_code f_eWhat f_eSign f_all f_kept f_was f_sTune f_boxAll J L H22.size hI) (cwV 0 hG (goodV gw1401 gw1403 gw61 gw138 gw1404) rfl rfl rfl hd_X9_isGood ⟨(Nat.le_of_ble_eq_true rfl), (Nat.le_of_ble_eq_true rfl)⟩) ⟨fbR, va_recv hK hP (ci := 8) (q0 := 0) rfl rfl, pR_in hP hK⟩ rfl rfl hl.1 rfl (lv_room (Nat.le_of_ble_eq_true rfl)) dX9_unit_148 ⟨(Nat.le_of_ble_eq_true rfl), (Nat.le_of_ble_eq_true rfl)⟩) hS (fun q hq h => absurd hq (Nat.not_lt.mpr h)) (fun q h => hA q (Nat.le_trans hS.1 h)) (fun r_397 u_ t_ H396 locs ht hvm hw hB hz1 hk1 hS => ?_)
              subst hw
              have hP := wk hP hk1
              obtain ⟨f398, f399, f400⟩ := hB
              refine lv_if_ne (tgt := 156) hx hb dX9_unit_151 (by decide) (fun c_401 => ?_) (fun c_401 => ((ob_228 (qi_eq c_401 rfl zc_0) hp10 f398)).elim)
              have f402 : r_397.toInt ≠ 0 := qi_ne c_401 rfl zc_0
              have f403 : i_faultKind.toInt = (0 : Int) := (ob_229 ie17 hp10)
              have f404 : r_397.toInt = (1 : Int) := (ob_220 f398 f402)
              have f405 : (1 : Int) ≤ r_397.toInt := (ob_162 f399 f400 f404)
              refine lv_aload_n hx hb dX9_unit_156 rfl (lv_at hl 5 rfl) ?_
              refine gM_X9_30_0 hx hb hG hown hK hP dX9_unit_157 ?_
              refine lv_aload_n hx hb dX9_unit_160 rfl (lv_at hl 5 rfl) ?_
              refine gM_X9_240_0 hx hb hG hown hK hP dX9_unit_161 ?_
              refine lv_dup2_11 hx hb dX9_unit_164 rfl rfl ?_
              refine ldM_6 (mm := i_rb.toInt) hx hb hK hP rfl (ob_350 ie6) (ob_351 ie7) dX9_unit_165 (fun x406 => ?_)
              refine lv_iload_n hx hb dX9_unit_166 rfl (lv_at hl 3 rfl) ?_
              refine lv_if_eq (tgt := 174) hx hb dX9_unit_167 (by decide) (fun c_407 => ?_) (fun c_407 => absurd (by decide) c_407)
              refine lv_iconst (v := 1) hx hb dX9_unit_174 (by decide) ?_
              refine lv_iadd hx hb dX9_unit_175 ?_
              refine lv_topi (fun x408 ex408 => ?_)
              refine stM_6 (mm := i_rb.toInt) hx hb hK hP hD hS rfl (ob_350 ie6) (ob_351 ie7) dX9_unit_176 (fun J410 H409 locs hP hD hS => ?_)
              refine lv_aload_n hx hb dX9_unit_177 rfl (lv_at hl 5 rfl) ?_
              refine lv_dup hx hb dX9_unit_178 rfl ?_
              refine gM_X9_290_0 hx hb hG hown hK hP dX9_unit_179 ?_
              refine lv_iload_n hx hb dX9_unit_182 rfl (lv_at hl 3 rfl) ?_
              refine lv_if_eq (tgt := 190) hx hb dX9_unit_183 (by decide) (fun c_411 => ?_) (fun c_411 => absurd (by decide) c_411)
              refine lv_iconst (v := 1) hx hb dX9_unit_190 (by decide) ?_
              refine lv_iadd hx hb dX9_unit_191 ?_
              refine lv_topi (fun x412 ex412 => ?_)
              have f413 : x412.toInt = i_unitsInRule.toInt + 1 := (ob_142 (qi_add ex412 rfl zc_1 (ob_140 hp1) (ob_371 hp2)))
              refine pM_X9_290_0 hx hb hG hown hK hP hD hS dX9_unit_192 (fun H414 locs hP hD hS => ?_)
              refine lv_iload hx hb dX9_unit_195 (lv_at hl 1 rfl) ?_
              refine lv_if_ne (tgt := 207) hx hb dX9_unit_197 (by decide) (fun c_415 => ((ob_389 (qi_ne c_415 rfl zc_0) f382 f383)).elim) (fun c_415 => ?_)
              have f416 : r_23.toInt = 0 := qi_eq c_415 rfl zc_0
              refine lv_aload_n hx hb dX9_unit_200 rfl (lv_at hl 5 rfl) ?_
              refine gM_X9_209_0 hx hb hG hown hK hP dX9_unit_201 ?_
              refine lv_goto (tgt := 208) hx hb dX9_unit_204 (by decide) ?_
              refine lv_istore (lv' := [(6, .int i_number), (5, .int 0), (4, .int r_23), (3, .int r_18), (2, .int 0), (1, .int 1), (0, .ref (r 0))]) hx hb dX9_unit_208 hl (by decide) rfl (fun ls hl => ?_)
              refine lv_aload_n hx hb dX9_unit_210 rfl (lv_at hl 6 rfl) ?_
              have hFc := frA hD hS hA
              refine va_callv (va_runV (As := []) (rest := []) ⟨hx, hb, hml, hown, hG⟩ (kX9_goOn l dC dI r ct i_taped i_size i_faultKind i_at i_end i_token i_number i_bank i_rb i_codes i_within i_piled x412 i_askHouse i_askTune i_acts i_undone i_laid i_knowns i_time f_text f_tunes f_houses f_hums f_told f_many f_ruleFrom f_ruleTo f_code f_eWhat f_eSign f_all f_kept f_was f_sTune f_boxAll J410 L H414.size hI) (cwV 0 hG (goodV gw1362 gw1364 gw59 gw138 gw1365) rfl rfl rfl hd_X9_goOn ⟨(Nat.le_of_ble_eq_true rfl), (Nat.le_of_ble_eq_true rfl)⟩) ⟨fbW, va_recv hK hP (ci := 8) (q0 := 0) rfl rfl, pW_in hP hK hD⟩ rfl rfl hl.1 rfl (lv_room (Nat.le_of_ble_eq_true rfl)) dX9_unit_211 ⟨(Nat.le_of_ble_eq_true rfl), (Nat.le_of_ble_eq_true rfl)⟩) hS (fun q _ h => hFc q h) hFc (fun _ t_ H417 locs ht hvm hw hB hz1 hk1 hS => ?_)
              obtain ⟨x419, x420, x421, x422, L423, hP1, hD1, hI427, f424, f425, f426⟩ := hB
              rw [ht] at hP1
              have hP := hP1
              have hD := dW hFc hD1
              obtain ⟨im428, im429, im430, im431, im432, im433, im434, im435, im436, im437, im438, im439, im440, im441, im442, im443, im444, im445, im446, im447, im448, im449, im450, im451, im452, im453, im454, im455, im456, im457, im458, im459, im460⟩ := id hI427
              refine lv_iload_n hx hb dX9_unit_214 rfl (lv_at hl 4 rfl) ?_
              refine lv_if_ne (tgt := 222) hx hb dX9_unit_215 (by decide) (fun c_461 => absurd (by decide) c_461) (fun c_461 => ?_)
              refine lv_iload_n hx hb dX9_unit_218 rfl (lv_at hl 3 rfl) ?_
              refine lv_if_eq (tgt := 250) hx hb dX9_unit_219 (by decide) (fun c_462 => ?_) (fun c_462 => ((ob_390 (qi_ne c_462 rfl zc_0) f389)).elim)
              have f463 : r_18.toInt = 0 := qi_eq c_462 rfl zc_0
              refine lv_aload_n hx hb dX9_unit_250 rfl (lv_at hl 6 rfl) ?_
              refine lv_iload hx hb dX9_unit_251 (lv_at hl 2 rfl) ?_
              refine lv_if_ne (tgt := 261) hx hb dX9_unit_253 (by decide) (fun c_464 => ((ob_389 (qi_ne c_464 rfl zc_0) f382 f383)).elim) (fun c_464 => ?_)
              have f465 : r_23.toInt = 0 := qi_eq c_464 rfl zc_0
              refine lv_bipush (v := 110) hx hb dX9_unit_256 (by decide) ?_
              refine lv_goto (tgt := 263) hx hb dX9_unit_258 (by decide) ?_
              refine lv_iload hx hb dX9_unit_263 (lv_at hl 0 rfl) ?_
              have hFc := frA hD hS hA
              refine va_callv (va_runV (As := [.int 110, .int i_number]) (rest := []) ⟨hx, hb, hml, hown, hG⟩ (kX9_emit l dC dI r ct i_taped i_size i_faultKind x419 x420 x421 x422 i_bank i_rb i_codes i_within i_piled x412 i_askHouse i_askTune i_acts i_undone i_laid i_knowns i_time f_text f_tunes f_houses f_hums f_told f_many f_ruleFrom f_ruleTo f_code f_eWhat f_eSign f_all f_kept f_was f_sTune f_boxAll J410 L423 110 i_number H417.size hI427 (ob_377 hp0) (ob_378 hp6) (ob_379 hp2 hp4 hp5 hp8)) (cwV 2 hG (goodV gw1484 gw1486 gw81 gw138 gw1487) rfl rfl rfl hd_X9_emit ⟨(Nat.le_of_ble_eq_true rfl), (Nat.le_of_ble_eq_true rfl)⟩) ⟨fbW, va_recv hK hP (ci := 8) (q0 := 0) rfl rfl, pW_in hP hK hD⟩ rfl rfl hl.1 rfl (lv_room (Nat.le_of_ble_eq_true rfl)) dX9_unit_265 ⟨(Nat.le_of_ble_eq_true rfl), (Nat.le_of_ble_eq_true rfl)⟩) hS (fun q _ h => hFc q h) hFc (fun _ t_ H466 locs ht hvm hw hB hz1 hk1 hS => ?_)
              obtain ⟨x468, z469, J470, hP1, hD1, hI473, f471, f472⟩ := hB
              rw [ht] at hP1
              have hP := hP1
              have hD := dW hFc hD1
              obtain ⟨im474, im475, im476, im477, im478, im479, im480, im481, im482, im483, im484, im485, im486, im487, im488, im489, im490, im491, im492, im493, im494, im495, im496, im497, im498, im499, im500, im501, im502, im503, im504, im505, im506⟩ := id hI473
              refine lv_iconst (v := 0) hx hb dX9_unit_268 (by decide) ?_
              rw [hQ]
              exact W.zret (v := 0) hx hb hr (by decide) (fun t ht hW => ⟨⟨0, 0, rfl, rfl, ⟨i_faultKind, x419, x420, x421, x422, x468, i_within, i_piled, x412, z469, f_eWhat, f_eSign, J470, L423, by rw [ht]; exact hP, hD, hI473, (ob_1 zc_0), (ob_11 zc_0), (fun _ => SPleaf hp11 rfl (ob_380 zc_0) f472 (ob_381 hp6 hp8 f471) (ob_382 hp5 hp7 hp8) (ob_383 hp2 hp4 hp7) (ob_384 ie6) (ob_378 hp6) (ob_391 zc_110) (ob_392 zc_110)), (ob_357 hp5 hp7 hp8), (ob_358 hp2 hp4 hp7), (ob_145 f424), (ob_393 ie17 hp2 hp3 hp4 hp5 hp6 hp7 hp8 hp9 f254 f385 f426 f471 zc_0 f413)⟩⟩, hS.F ht⟩) hS.2.2 dX9_unit_269
            · skip
              have f507 : i_token.toInt ≠ 4 := qi_ne c_384 rfl zc_4
              refine lv_iload_n hx hb dX9_unit_117 rfl (lv_at hl 2 rfl) ?_
              refine lv_if_eq (tgt := 143) hx hb dX9_unit_118 (by decide) (fun c_508 => ?_) (fun c_508 => ?_)
              · skip
                have f509 : r_18.toInt = 0 := qi_eq c_508 rfl zc_0
                refine lv_aload_n hx hb dX9_unit_143 rfl (lv_at hl 5 rfl) ?_
                have hFc := frA hD hS hA
                refine va_callv (va_runV (As := []) (rest := []) ⟨hx, hb, hml, hown, hG⟩ (kX9_misplaced l dC dI r ct i_taped i_size i_faultKind i_at i_end i_token i_number i_bank i_rb i_codes i_within i_piled i_unitsInRule i_askHouse i_askTune i_acts i_undone i_laid i_knowns i_time f_text f_tunes f_houses f_hums f_told f_many f_ruleFrom f_ruleTo f_code f_eWhat f_eSign f_all f_kept f_was f_sTune f_boxAll J L H22.size hI) (cwV 0 hG (goodV gw1420 gw1422 gw65 gw138 gw1423) rfl rfl rfl hd_X9_misplaced ⟨(Nat.le_of_ble_eq_true rfl), (Nat.le_of_ble_eq_true rfl)⟩) ⟨fbW, va_recv hK hP (ci := 8) (q0 := 0) rfl rfl, pW_in hP hK hD⟩ rfl rfl hl.1 rfl (lv_room (Nat.le_of_ble_eq_true rfl)) dX9_unit_144 ⟨(Nat.le_of_ble_eq_true rfl), (Nat.le_of_ble_eq_true rfl)⟩) hS (fun q _ h => hFc q h) hFc (fun _ t_ H510 locs ht hvm hw hB hz1 hk1 hS => ?_)
                obtain ⟨x512, J513, hP1, hD1, hI515, f514⟩ := hB
                rw [ht] at hP1
                have hP := hP1
                have hD := dW hFc hD1
                obtain ⟨im516, im517, im518, im519, im520, im521, im522, im523, im524, im525, im526, im527, im528, im529, im530, im531, im532, im533, im534, im535, im536, im537, im538, im539, im540, im541, im542, im543, im544, im545, im546, im547, im548⟩ := id hI515
                refine lv_aload_n hx hb dX9_unit_147 rfl (lv_at hl 5 rfl) ?_
                refine va_calli (va_runV (As := []) (rest := []) ⟨hx, hb, hml, hown, hG⟩ (kX9_isGood l dC dI r ct i_taped i_size x512 i_at i_end i_token i_number i_bank i_rb i_codes i_within i_piled i_unitsInRule i_askHouse i_askTune i_acts i_undone i_laid i_knowns i_time f_text f_tunes f_houses f_hums f_told f_many f_ruleFrom f_ruleTo f_code f_eWhat f_eSign f_all f_kept f_was f_sTune f_boxAll J513 L H510.size hI515) (cwV 0 hG (goodV gw1401 gw1403 gw61 gw138 gw1404) rfl rfl rfl hd_X9_isGood ⟨(Nat.le_of_ble_eq_true rfl), (Nat.le_of_ble_eq_true rfl)⟩) ⟨fbR, va_recv hK hP (ci := 8) (q0 := 0) rfl rfl, pR_in hP hK⟩ rfl rfl hl.1 rfl (lv_room (Nat.le_of_ble_eq_true rfl)) dX9_unit_148 ⟨(Nat.le_of_ble_eq_true rfl), (Nat.le_of_ble_eq_true rfl)⟩) hS (fun q hq h => absurd hq (Nat.not_lt.mpr h)) (fun q h => hA q (Nat.le_trans hS.1 h)) (fun r_550 u_ t_ H549 locs ht hvm hw hB hz1 hk1 hS => ?_)
                subst hw
                have hP := wk hP hk1
                obtain ⟨f551, f552, f553⟩ := hB
                refine lv_if_ne (tgt := 156) hx hb dX9_unit_151 (by decide) (fun c_554 => ((ob_231 (qi_ne c_554 rfl zc_0) f514 f551)).elim) (fun c_554 => ?_)
                have f555 : r_550.toInt = 0 := qi_eq c_554 rfl zc_0
                have f556 : x512.toInt ≠ (0 : Int) := (ob_232 im533 f514)
                have f557 : (1 : Int) ≤ x512.toInt := (ob_217 im533 f514)
                have f558 : r_550.toInt = (0 : Int) := (ob_226 f552 f553 f555)
                refine lv_iconst (v := 1) hx hb dX9_unit_154 (by decide) ?_
                rw [hQ]
                exact W.zret (v := 1) hx hb hr (by decide) (fun t ht hW => ⟨⟨1, 1, rfl, rfl, ⟨x512, i_at, i_end, i_token, i_number, i_codes, i_within, i_piled, i_unitsInRule, f_code, f_eWhat, f_eSign, J513, L, by rw [ht]; exact hP, hD, hI515, (ob_14 zc_1), (ob_15 zc_1), (fun h => ((ob_356 h im533 f514)).elim), (ob_357 hp5 hp7 hp8), (ob_358 hp2 hp4 hp7), (ob_146), (ob_359 f514 zc_1)⟩⟩, hS.F ht⟩) hS.2.2 dX9_unit_155
              · skip
                have f559 : r_18.toInt ≠ 0 := qi_ne c_508 rfl zc_0
                have f560 : i_token.toInt = (5 : Int) := (ob_365 f19 f559 zc_40)
                have f561 : (sgz f_text i_size.toInt i_at.toInt) = (40 : Int) := (ob_366 f19 f559 zc_40)
                have f562 : r_18.toInt = (1 : Int) := (ob_367 f19 f559 zc_40)
                have f563 : (1 : Int) ≤ r_18.toInt := (ob_162 f20 f21 f562)
                refine lv_iload hx hb dX9_unit_121 (lv_at hl 0 rfl) ?_
                refine lv_if_ne (tgt := 143) hx hb dX9_unit_123 (by decide) (fun c_564 => absurd (by decide) c_564) (fun c_564 => ?_)
                refine lv_iload_n hx hb dX9_unit_126 rfl (lv_at hl 3 rfl) ?_
                refine lv_if_ne (tgt := 134) hx hb dX9_unit_127 (by decide) (fun c_565 => absurd (by decide) c_565) (fun c_565 => ?_)
                refine lv_iload_n hx hb dX9_unit_130 rfl (lv_at hl 2 rfl) ?_
                refine lv_if_eq (tgt := 147) hx hb dX9_unit_131 (by decide) (fun c_566 => ((ob_394 (qi_eq c_566 rfl zc_0) f562)).elim) (fun c_566 => ?_)
                have f567 : r_18.toInt ≠ 0 := qi_ne c_566 rfl zc_0
                have f568 : (1 : Int) ≤ r_18.toInt := (ob_395 f562)
                refine lv_aload_n hx hb dX9_unit_134 rfl (lv_at hl 5 rfl) ?_
                refine gM_X9_299_0 hx hb hG hown hK hP dX9_unit_135 ?_
                refine lv_bipush (v := 7) hx hb dX9_unit_138 (by decide) ?_
                refine lv_icmp_ne (tgt := 147) hx hb dX9_unit_140 (by decide) (fun c_569 => ?_) (fun c_569 => ?_)
                · skip
                  have f570 : i_within.toInt ≠ 7 := qi_ne c_569 rfl zc_7
                  have f571 : i_within.toInt ≤ (6 : Int) := (ob_396 hp4 f570)
                  refine lv_aload_n hx hb dX9_unit_147 rfl (lv_at hl 5 rfl) ?_
                  refine va_calli (va_runV (As := []) (rest := []) ⟨hx, hb, hml, hown, hG⟩ (kX9_isGood l dC dI r ct i_taped i_size i_faultKind i_at i_end i_token i_number i_bank i_rb i_codes i_within i_piled i_unitsInRule i_askHouse i_askTune i_acts i_undone i_laid i_knowns i_time f_text f_tunes f_houses f_hums f_told f_many f_ruleFrom f_ruleTo f_code f_eWhat f_eSign f_all f_kept f_was f_sTune f_boxAll J L H22.size hI) (cwV 0 hG (goodV gw1401 gw1403 gw61 gw138 gw1404) rfl rfl rfl hd_X9_isGood ⟨(Nat.le_of_ble_eq_true rfl), (Nat.le_of_ble_eq_true rfl)⟩) ⟨fbR, va_recv hK hP (ci := 8) (q0 := 0) rfl rfl, pR_in hP hK⟩ rfl rfl hl.1 rfl (lv_room (Nat.le_of_ble_eq_true rfl)) dX9_unit_148 ⟨(Nat.le_of_ble_eq_true rfl), (Nat.le_of_ble_eq_true rfl)⟩) hS (fun q hq h => absurd hq (Nat.not_lt.mpr h)) (fun q h => hA q (Nat.le_trans hS.1 h)) (fun r_573 u_ t_ H572 locs ht hvm hw hB hz1 hk1 hS => ?_)
                  subst hw
                  have hP := wk hP hk1
                  obtain ⟨f574, f575, f576⟩ := hB
                  refine lv_if_ne (tgt := 156) hx hb dX9_unit_151 (by decide) (fun c_577 => ?_) (fun c_577 => ((ob_228 (qi_eq c_577 rfl zc_0) hp10 f574)).elim)
                  have f578 : r_573.toInt ≠ 0 := qi_ne c_577 rfl zc_0
                  have f579 : i_faultKind.toInt = (0 : Int) := (ob_229 ie17 hp10)
                  have f580 : r_573.toInt = (1 : Int) := (ob_220 f574 f578)
                  have f581 : (1 : Int) ≤ r_573.toInt := (ob_162 f575 f576 f580)
                  refine lv_aload_n hx hb dX9_unit_156 rfl (lv_at hl 5 rfl) ?_
                  refine gM_X9_30_0 hx hb hG hown hK hP dX9_unit_157 ?_
                  refine lv_aload_n hx hb dX9_unit_160 rfl (lv_at hl 5 rfl) ?_
                  refine gM_X9_240_0 hx hb hG hown hK hP dX9_unit_161 ?_
                  refine lv_dup2_11 hx hb dX9_unit_164 rfl rfl ?_
                  refine ldM_6 (mm := i_rb.toInt) hx hb hK hP rfl (ob_350 ie6) (ob_351 ie7) dX9_unit_165 (fun x582 => ?_)
                  refine lv_iload_n hx hb dX9_unit_166 rfl (lv_at hl 3 rfl) ?_
                  refine lv_if_eq (tgt := 174) hx hb dX9_unit_167 (by decide) (fun c_583 => ?_) (fun c_583 => absurd (by decide) c_583)
                  refine lv_iconst (v := 1) hx hb dX9_unit_174 (by decide) ?_
                  refine lv_iadd hx hb dX9_unit_175 ?_
                  refine lv_topi (fun x584 ex584 => ?_)
                  refine stM_6 (mm := i_rb.toInt) hx hb hK hP hD hS rfl (ob_350 ie6) (ob_351 ie7) dX9_unit_176 (fun J586 H585 locs hP hD hS => ?_)
                  refine lv_aload_n hx hb dX9_unit_177 rfl (lv_at hl 5 rfl) ?_
                  refine lv_dup hx hb dX9_unit_178 rfl ?_
                  refine gM_X9_290_0 hx hb hG hown hK hP dX9_unit_179 ?_
                  refine lv_iload_n hx hb dX9_unit_182 rfl (lv_at hl 3 rfl) ?_
                  refine lv_if_eq (tgt := 190) hx hb dX9_unit_183 (by decide) (fun c_587 => ?_) (fun c_587 => absurd (by decide) c_587)
                  refine lv_iconst (v := 1) hx hb dX9_unit_190 (by decide) ?_
                  refine lv_iadd hx hb dX9_unit_191 ?_
                  refine lv_topi (fun x588 ex588 => ?_)
                  have f589 : x588.toInt = i_unitsInRule.toInt + 1 := (ob_142 (qi_add ex588 rfl zc_1 (ob_140 hp1) (ob_371 hp2)))
                  refine pM_X9_290_0 hx hb hG hown hK hP hD hS dX9_unit_192 (fun H590 locs hP hD hS => ?_)
                  refine lv_iload hx hb dX9_unit_195 (lv_at hl 1 rfl) ?_
                  refine lv_if_ne (tgt := 207) hx hb dX9_unit_197 (by decide) (fun c_591 => ((ob_389 (qi_ne c_591 rfl zc_0) f382 f383)).elim) (fun c_591 => ?_)
                  have f592 : r_23.toInt = 0 := qi_eq c_591 rfl zc_0
                  refine lv_aload_n hx hb dX9_unit_200 rfl (lv_at hl 5 rfl) ?_
                  refine gM_X9_209_0 hx hb hG hown hK hP dX9_unit_201 ?_
                  refine lv_goto (tgt := 208) hx hb dX9_unit_204 (by decide) ?_
                  refine lv_istore (lv' := [(6, .int i_number), (5, .int 0), (4, .int r_23), (3, .int r_18), (2, .int 0), (1, .int 1), (0, .ref (r 0))]) hx hb dX9_unit_208 hl (by decide) rfl (fun ls hl => ?_)
                  refine lv_aload_n hx hb dX9_unit_210 rfl (lv_at hl 6 rfl) ?_
                  have hFc := frA hD hS hA
                  refine va_callv (va_runV (As := []) (rest := []) ⟨hx, hb, hml, hown, hG⟩ (kX9_goOn l dC dI r ct i_taped i_size i_faultKind i_at i_end i_token i_number i_bank i_rb i_codes i_within i_piled x588 i_askHouse i_askTune i_acts i_undone i_laid i_knowns i_time f_text f_tunes f_houses f_hums f_told f_many f_ruleFrom f_ruleTo f_code f_eWhat f_eSign f_all f_kept f_was f_sTune f_boxAll J586 L H590.size hI) (cwV 0 hG (goodV gw1362 gw1364 gw59 gw138 gw1365) rfl rfl rfl hd_X9_goOn ⟨(Nat.le_of_ble_eq_true rfl), (Nat.le_of_ble_eq_true rfl)⟩) ⟨fbW, va_recv hK hP (ci := 8) (q0 := 0) rfl rfl, pW_in hP hK hD⟩ rfl rfl hl.1 rfl (lv_room (Nat.le_of_ble_eq_true rfl)) dX9_unit_211 ⟨(Nat.le_of_ble_eq_true rfl), (Nat.le_of_ble_eq_true rfl)⟩) hS (fun q _ h => hFc q h) hFc (fun _ t_ H593 locs ht hvm hw hB hz1 hk1 hS => ?_)
                  obtain ⟨x595, x596, x597, x598, L599, hP1, hD1, hI603, f600, f601, f602⟩ := hB
                  rw [ht] at hP1
                  have hP := hP1
                  have hD := dW hFc hD1
                  obtain ⟨im604, im605, im606, im607, im608, im609, im610, im611, im612, im613, im614, im615, im616, im617, im618, im619, im620, im621, im622, im623, im624, im625, im626, im627, im628, im629, im630, im631, im632, im633, im634, im635, im636⟩ := id hI603
                  refine lv_iload_n hx hb dX9_unit_214 rfl (lv_at hl 4 rfl) ?_
                  refine lv_if_ne (tgt := 222) hx hb dX9_unit_215 (by decide) (fun c_637 => absurd (by decide) c_637) (fun c_637 => ?_)
                  refine lv_iload_n hx hb dX9_unit_218 rfl (lv_at hl 3 rfl) ?_
                  refine lv_if_eq (tgt := 250) hx hb dX9_unit_219 (by decide) (fun c_638 => ((ob_394 (qi_eq c_638 rfl zc_0) f562)).elim) (fun c_638 => ?_)
                  have f639 : r_18.toInt ≠ 0 := qi_ne c_638 rfl zc_0
                  have f640 : (1 : Int) ≤ r_18.toInt := (ob_395 f562)
                  refine lv_aload_n hx hb dX9_unit_222 rfl (lv_at hl 6 rfl) ?_
                  refine lv_iload_n hx hb dX9_unit_223 rfl (lv_at hl 4 rfl) ?_
                  refine lv_if_eq (tgt := 231) hx hb dX9_unit_224 (by decide) (fun c_641 => ?_) (fun c_641 => absurd (by decide) c_641)
                  refine lv_bipush (v := 7) hx hb dX9_unit_231 (by decide) ?_
                  refine lv_bipush (v := 126) hx hb dX9_unit_233 (by decide) ?_
                  have hFc := frA hD hS hA
                  refine va_callv (va_runV (As := [.int 7, .int 126]) (rest := []) ⟨hx, hb, hml, hown, hG⟩ (kX9_pushE l dC dI r ct i_taped i_size i_faultKind x595 x596 x597 x598 i_bank i_rb i_codes i_within i_piled x588 i_askHouse i_askTune i_acts i_undone i_laid i_knowns i_time f_text f_tunes f_houses f_hums f_told f_many f_ruleFrom f_ruleTo f_code f_eWhat f_eSign f_all f_kept f_was f_sTune f_boxAll J586 L599 7 126 H593.size hI603 (ob_357 hp5 hp7 hp8) (ob_397 hp2 hp4 hp7)) (cwV 2 hG (goodV gw1468 gw1470 gw77 gw138 gw1471) rfl rfl rfl hd_X9_pushE ⟨(Nat.le_of_ble_eq_true rfl), (Nat.le_of_ble_eq_true rfl)⟩) ⟨fbW, va_recv hK hP (ci := 8) (q0 := 0) rfl rfl, pW_in hP hK hD⟩ rfl rfl hl.1 rfl (lv_room (Nat.le_of_ble_eq_true rfl)) dX9_unit_235 ⟨(Nat.le_of_ble_eq_true rfl), (Nat.le_of_ble_eq_true rfl)⟩) hS (fun q _ h => hFc q h) hFc (fun _ t_ H642 locs ht hvm hw hB hz1 hk1 hS => ?_)
                  obtain ⟨x644, z645, z646, hP1, hD1, hI650, f647, f648, f649⟩ := hB
                  rw [ht] at hP1
                  have hP := hP1
                  have hD := dW hFc hD1
                  obtain ⟨im651, im652, im653, im654, im655, im656, im657, im658, im659, im660, im661, im662, im663, im664, im665, im666, im667, im668, im669, im670, im671, im672, im673, im674, im675, im676, im677, im678, im679, im680, im681, im682, im683⟩ := id hI650
                  have f684 : (z645 ((0 : Int)).toNat).toInt = (f_eWhat ((0 : Int)).toNat).toInt := (by rw [f648, upd_off (ne0 (ob_398 hp5))])
                  refine lv_aload_n hx hb dX9_unit_238 rfl (lv_at hl 6 rfl) ?_
                  refine lv_dup hx hb dX9_unit_239 rfl ?_
                  refine gM_X9_299_0 hx hb hG hown hK hP dX9_unit_240 ?_
                  refine lv_iconst (v := 1) hx hb dX9_unit_243 (by decide) ?_
                  refine lv_iadd hx hb dX9_unit_244 ?_
                  refine lv_topi (fun x685 ex685 => ?_)
                  have f686 : x685.toInt = i_within.toInt + 1 := (ob_142 (qi_add ex685 rfl zc_1 (ob_140 hp3) (ob_399 hp4)))
                  refine pM_X9_299_0 hx hb hG hown hK hP hD hS dX9_unit_245 (fun H687 locs hP hD hS => ?_)
                  refine lv_iconst (v := 1) hx hb dX9_unit_248 (by decide) ?_
                  rw [hQ]
                  exact W.zret (v := 1) hx hb hr (by decide) (fun t ht hW => ⟨⟨1, 1, rfl, rfl, ⟨i_faultKind, x595, x596, x597, x598, i_codes, x685, x644, x588, f_code, z645, z646, J586, L599, by rw [ht]; exact hP, hD, hI650, (ob_14 zc_1), (ob_15 zc_1), (fun _ => SPpush hp11 f648 f649 (ob_398 hp5) (ob_142 f647) (Or.inl (ob_400 zc_1 f686 zc_126 zc_7))), (ob_199 hp5 f647), (ob_401 hp2 hp4 hp7 f647), (ob_145 f600), (ob_402 ie2 ie3 ie4 ie17 hp2 hp3 hp4 hp5 hp6 hp7 hp8 hp9 f19 f254 f559 f570 f602 f647 f684 zc_40 zc_1 f686 f589)⟩⟩, hS.F ht⟩) hS.2.2 dX9_unit_249
                · skip
                  have f688 : i_within.toInt = 7 := qi_eq c_569 rfl zc_7
                  refine lv_aload_n hx hb dX9_unit_143 rfl (lv_at hl 5 rfl) ?_
                  have hFc := frA hD hS hA
                  refine va_callv (va_runV (As := []) (rest := []) ⟨hx, hb, hml, hown, hG⟩ (kX9_misplaced l dC dI r ct i_taped i_size i_faultKind i_at i_end i_token i_number i_bank i_rb i_codes i_within i_piled i_unitsInRule i_askHouse i_askTune i_acts i_undone i_laid i_knowns i_time f_text f_tunes f_houses f_hums f_told f_many f_ruleFrom f_ruleTo f_code f_eWhat f_eSign f_all f_kept f_was f_sTune f_boxAll J L H22.size hI) (cwV 0 hG (goodV gw1420 gw1422 gw65 gw138 gw1423) rfl rfl rfl hd_X9_misplaced ⟨(Nat.le_of_ble_eq_true rfl), (Nat.le_of_ble_eq_true rfl)⟩) ⟨fbW, va_recv hK hP (ci := 8) (q0 := 0) rfl rfl, pW_in hP hK hD⟩ rfl rfl hl.1 rfl (lv_room (Nat.le_of_ble_eq_true rfl)) dX9_unit_144 ⟨(Nat.le_of_ble_eq_true rfl), (Nat.le_of_ble_eq_true rfl)⟩) hS (fun q _ h => hFc q h) hFc (fun _ t_ H689 locs ht hvm hw hB hz1 hk1 hS => ?_)
                  obtain ⟨x691, J692, hP1, hD1, hI694, f693⟩ := hB
                  rw [ht] at hP1
                  have hP := hP1
                  have hD := dW hFc hD1
                  obtain ⟨im695, im696, im697, im698, im699, im700, im701, im702, im703, im704, im705, im706, im707, im708, im709, im710, im711, im712, im713, im714, im715, im716, im717, im718, im719, im720, im721, im722, im723, im724, im725, im726, im727⟩ := id hI694
                  refine lv_aload_n hx hb dX9_unit_147 rfl (lv_at hl 5 rfl) ?_
                  refine va_calli (va_runV (As := []) (rest := []) ⟨hx, hb, hml, hown, hG⟩ (kX9_isGood l dC dI r ct i_taped i_size x691 i_at i_end i_token i_number i_bank i_rb i_codes i_within i_piled i_unitsInRule i_askHouse i_askTune i_acts i_undone i_laid i_knowns i_time f_text f_tunes f_houses f_hums f_told f_many f_ruleFrom f_ruleTo f_code f_eWhat f_eSign f_all f_kept f_was f_sTune f_boxAll J692 L H689.size hI694) (cwV 0 hG (goodV gw1401 gw1403 gw61 gw138 gw1404) rfl rfl rfl hd_X9_isGood ⟨(Nat.le_of_ble_eq_true rfl), (Nat.le_of_ble_eq_true rfl)⟩) ⟨fbR, va_recv hK hP (ci := 8) (q0 := 0) rfl rfl, pR_in hP hK⟩ rfl rfl hl.1 rfl (lv_room (Nat.le_of_ble_eq_true rfl)) dX9_unit_148 ⟨(Nat.le_of_ble_eq_true rfl), (Nat.le_of_ble_eq_true rfl)⟩) hS (fun q hq h => absurd hq (Nat.not_lt.mpr h)) (fun q h => hA q (Nat.le_trans hS.1 h)) (fun r_729 u_ t_ H728 locs ht hvm hw hB hz1 hk1 hS => ?_)
                  subst hw
                  have hP := wk hP hk1
                  obtain ⟨f730, f731, f732⟩ := hB
                  refine lv_if_ne (tgt := 156) hx hb dX9_unit_151 (by decide) (fun c_733 => ((ob_231 (qi_ne c_733 rfl zc_0) f693 f730)).elim) (fun c_733 => ?_)
                  have f734 : r_729.toInt = 0 := qi_eq c_733 rfl zc_0
                  have f735 : x691.toInt ≠ (0 : Int) := (ob_232 im712 f693)
                  have f736 : (1 : Int) ≤ x691.toInt := (ob_217 im712 f693)
                  have f737 : r_729.toInt = (0 : Int) := (ob_226 f731 f732 f734)
                  refine lv_iconst (v := 1) hx hb dX9_unit_154 (by decide) ?_
                  rw [hQ]
                  exact W.zret (v := 1) hx hb hr (by decide) (fun t ht hW => ⟨⟨1, 1, rfl, rfl, ⟨x691, i_at, i_end, i_token, i_number, i_codes, i_within, i_piled, i_unitsInRule, f_code, f_eWhat, f_eSign, J692, L, by rw [ht]; exact hP, hD, hI694, (ob_14 zc_1), (ob_15 zc_1), (fun h => ((ob_356 h im712 f693)).elim), (ob_357 hp5 hp7 hp8), (ob_358 hp2 hp4 hp7), (ob_146), (ob_359 f693 zc_1)⟩⟩, hS.F ht⟩) hS.2.2 dX9_unit_155
        · skip
          have f738 : i_unitsInRule.toInt = 30 := qi_eq c_253 rfl zc_30
          refine lv_iconst (v := 1) hx hb dX9_unit_93 (by decide) ?_
          refine lv_goto (tgt := 98) hx hb dX9_unit_94 (by decide) ?_
          refine lv_istore (lv' := [(5, .int 1), (4, .int r_23), (3, .int r_18), (2, .int 0), (1, .int 1), (0, .ref (r 0))]) hx hb dX9_unit_98 hl (by decide) rfl (fun ls hl => ?_)
          refine lv_iload_n hx hb dX9_unit_100 rfl (lv_at hl 3 rfl) ?_
          refine lv_if_ne (tgt := 126) hx hb dX9_unit_101 (by decide) (fun c_739 => absurd (by decide) c_739) (fun c_739 => ?_)
          refine lv_iload hx hb dX9_unit_104 (lv_at hl 1 rfl) ?_
          refine lv_if_ne (tgt := 121) hx hb dX9_unit_106 (by decide) (fun c_740 => ?_) (fun c_740 => ?_)
          · skip
            have f741 : r_23.toInt ≠ 0 := qi_ne c_740 rfl zc_0
            have f742 : (97 : Int) ≤ r_23.toInt := (ob_352 f24 f741)
            have f743 : r_23.toInt ≤ (122 : Int) := (ob_353 f24 f741 f742)
            have f744 : i_token.toInt = (3 : Int) := (ob_354 f24 f741)
            have f745 : (1 : Int) ≤ r_23.toInt := (ob_355 f742 f743)
            refine lv_iload hx hb dX9_unit_121 (lv_at hl 0 rfl) ?_
            refine lv_if_ne (tgt := 143) hx hb dX9_unit_123 (by decide) (fun c_746 => ?_) (fun c_746 => absurd c_746 (by decide))
            refine lv_aload_n hx hb dX9_unit_143 rfl (lv_at hl 5 rfl) ?_
            have hFc := frA hD hS hA
            refine va_callv (va_runV (As := []) (rest := []) ⟨hx, hb, hml, hown, hG⟩ (kX9_misplaced l dC dI r ct i_taped i_size i_faultKind i_at i_end i_token i_number i_bank i_rb i_codes i_within i_piled i_unitsInRule i_askHouse i_askTune i_acts i_undone i_laid i_knowns i_time f_text f_tunes f_houses f_hums f_told f_many f_ruleFrom f_ruleTo f_code f_eWhat f_eSign f_all f_kept f_was f_sTune f_boxAll J L H22.size hI) (cwV 0 hG (goodV gw1420 gw1422 gw65 gw138 gw1423) rfl rfl rfl hd_X9_misplaced ⟨(Nat.le_of_ble_eq_true rfl), (Nat.le_of_ble_eq_true rfl)⟩) ⟨fbW, va_recv hK hP (ci := 8) (q0 := 0) rfl rfl, pW_in hP hK hD⟩ rfl rfl hl.1 rfl (lv_room (Nat.le_of_ble_eq_true rfl)) dX9_unit_144 ⟨(Nat.le_of_ble_eq_true rfl), (Nat.le_of_ble_eq_true rfl)⟩) hS (fun q _ h => hFc q h) hFc (fun _ t_ H747 locs ht hvm hw hB hz1 hk1 hS => ?_)
            obtain ⟨x749, J750, hP1, hD1, hI752, f751⟩ := hB
            rw [ht] at hP1
            have hP := hP1
            have hD := dW hFc hD1
            obtain ⟨im753, im754, im755, im756, im757, im758, im759, im760, im761, im762, im763, im764, im765, im766, im767, im768, im769, im770, im771, im772, im773, im774, im775, im776, im777, im778, im779, im780, im781, im782, im783, im784, im785⟩ := id hI752
            refine lv_aload_n hx hb dX9_unit_147 rfl (lv_at hl 5 rfl) ?_
            refine va_calli (va_runV (As := []) (rest := []) ⟨hx, hb, hml, hown, hG⟩ (kX9_isGood l dC dI r ct i_taped i_size x749 i_at i_end i_token i_number i_bank i_rb i_codes i_within i_piled i_unitsInRule i_askHouse i_askTune i_acts i_undone i_laid i_knowns i_time f_text f_tunes f_houses f_hums f_told f_many f_ruleFrom f_ruleTo f_code f_eWhat f_eSign f_all f_kept f_was f_sTune f_boxAll J750 L H747.size hI752) (cwV 0 hG (goodV gw1401 gw1403 gw61 gw138 gw1404) rfl rfl rfl hd_X9_isGood ⟨(Nat.le_of_ble_eq_true rfl), (Nat.le_of_ble_eq_true rfl)⟩) ⟨fbR, va_recv hK hP (ci := 8) (q0 := 0) rfl rfl, pR_in hP hK⟩ rfl rfl hl.1 rfl (lv_room (Nat.le_of_ble_eq_true rfl)) dX9_unit_148 ⟨(Nat.le_of_ble_eq_true rfl), (Nat.le_of_ble_eq_true rfl)⟩) hS (fun q hq h => absurd hq (Nat.not_lt.mpr h)) (fun q h => hA q (Nat.le_trans hS.1 h)) (fun r_787 u_ t_ H786 locs ht hvm hw hB hz1 hk1 hS => ?_)
            subst hw
            have hP := wk hP hk1
            obtain ⟨f788, f789, f790⟩ := hB
            refine lv_if_ne (tgt := 156) hx hb dX9_unit_151 (by decide) (fun c_791 => ((ob_231 (qi_ne c_791 rfl zc_0) f751 f788)).elim) (fun c_791 => ?_)
            have f792 : r_787.toInt = 0 := qi_eq c_791 rfl zc_0
            have f793 : x749.toInt ≠ (0 : Int) := (ob_232 im770 f751)
            have f794 : (1 : Int) ≤ x749.toInt := (ob_217 im770 f751)
            have f795 : r_787.toInt = (0 : Int) := (ob_226 f789 f790 f792)
            refine lv_iconst (v := 1) hx hb dX9_unit_154 (by decide) ?_
            rw [hQ]
            exact W.zret (v := 1) hx hb hr (by decide) (fun t ht hW => ⟨⟨1, 1, rfl, rfl, ⟨x749, i_at, i_end, i_token, i_number, i_codes, i_within, i_piled, i_unitsInRule, f_code, f_eWhat, f_eSign, J750, L, by rw [ht]; exact hP, hD, hI752, (ob_14 zc_1), (ob_15 zc_1), (fun h => ((ob_356 h im770 f751)).elim), (ob_357 hp5 hp7 hp8), (ob_358 hp2 hp4 hp7), (ob_146), (ob_359 f751 zc_1)⟩⟩, hS.F ht⟩) hS.2.2 dX9_unit_155
          · skip
            have f796 : r_23.toInt = 0 := qi_eq c_740 rfl zc_0
            have f797 : r_23.toInt = (0 : Int) := (ob_25 f796)
            refine lv_aload_n hx hb dX9_unit_109 rfl (lv_at hl 5 rfl) ?_
            refine gM_X9_191_0 hx hb hG hown hK hP dX9_unit_110 ?_
            refine lv_iconst (v := 4) hx hb dX9_unit_113 (by decide) ?_
            refine lv_icmp_eq (tgt := 121) hx hb dX9_unit_114 (by decide) (fun c_798 => ?_) (fun c_798 => ?_)
            · skip
              have f799 : i_token.toInt = 4 := qi_eq c_798 rfl zc_4
              have f800 : i_token.toInt ≠ (3 : Int) := (ob_360 f799)
              have f801 : r_11.toInt = (0 : Int) := (ob_226 f13 f14 f16)
              have f802 : i_token.toInt ≠ (5 : Int) := (ob_361 f799)
              have f803 : r_18.toInt = (0 : Int) := (ob_362 f19 f799 zc_40)
              have f804 : (4 : Int) ≤ i_token.toInt := (ob_363 f799)
              have f805 : i_token.toInt ≤ (4 : Int) := (ob_364 f799 f804)
              refine lv_iload hx hb dX9_unit_121 (lv_at hl 0 rfl) ?_
              refine lv_if_ne (tgt := 143) hx hb dX9_unit_123 (by decide) (fun c_806 => ?_) (fun c_806 => absurd c_806 (by decide))
              refine lv_aload_n hx hb dX9_unit_143 rfl (lv_at hl 5 rfl) ?_
              have hFc := frA hD hS hA
              refine va_callv (va_runV (As := []) (rest := []) ⟨hx, hb, hml, hown, hG⟩ (kX9_misplaced l dC dI r ct i_taped i_size i_faultKind i_at i_end i_token i_number i_bank i_rb i_codes i_within i_piled i_unitsInRule i_askHouse i_askTune i_acts i_undone i_laid i_knowns i_time f_text f_tunes f_houses f_hums f_told f_many f_ruleFrom f_ruleTo f_code f_eWhat f_eSign f_all f_kept f_was f_sTune f_boxAll J L H22.size hI) (cwV 0 hG (goodV gw1420 gw1422 gw65 gw138 gw1423) rfl rfl rfl hd_X9_misplaced ⟨(Nat.le_of_ble_eq_true rfl), (Nat.le_of_ble_eq_true rfl)⟩) ⟨fbW, va_recv hK hP (ci := 8) (q0 := 0) rfl rfl, pW_in hP hK hD⟩ rfl rfl hl.1 rfl (lv_room (Nat.le_of_ble_eq_true rfl)) dX9_unit_144 ⟨(Nat.le_of_ble_eq_true rfl), (Nat.le_of_ble_eq_true rfl)⟩) hS (fun q _ h => hFc q h) hFc (fun _ t_ H807 locs ht hvm hw hB hz1 hk1 hS => ?_)
              obtain ⟨x809, J810, hP1, hD1, hI812, f811⟩ := hB
              rw [ht] at hP1
              have hP := hP1
              have hD := dW hFc hD1
              obtain ⟨im813, im814, im815, im816, im817, im818, im819, im820, im821, im822, im823, im824, im825, im826, im827, im828, im829, im830, im831, im832, im833, im834, im835, im836, im837, im838, im839, im840, im841, im842, im843, im844, im845⟩ := id hI812
              refine lv_aload_n hx hb dX9_unit_147 rfl (lv_at hl 5 rfl) ?_
              refine va_calli (va_runV (As := []) (rest := []) ⟨hx, hb, hml, hown, hG⟩ (kX9_isGood l dC dI r ct i_taped i_size x809 i_at i_end i_token i_number i_bank i_rb i_codes i_within i_piled i_unitsInRule i_askHouse i_askTune i_acts i_undone i_laid i_knowns i_time f_text f_tunes f_houses f_hums f_told f_many f_ruleFrom f_ruleTo f_code f_eWhat f_eSign f_all f_kept f_was f_sTune f_boxAll J810 L H807.size hI812) (cwV 0 hG (goodV gw1401 gw1403 gw61 gw138 gw1404) rfl rfl rfl hd_X9_isGood ⟨(Nat.le_of_ble_eq_true rfl), (Nat.le_of_ble_eq_true rfl)⟩) ⟨fbR, va_recv hK hP (ci := 8) (q0 := 0) rfl rfl, pR_in hP hK⟩ rfl rfl hl.1 rfl (lv_room (Nat.le_of_ble_eq_true rfl)) dX9_unit_148 ⟨(Nat.le_of_ble_eq_true rfl), (Nat.le_of_ble_eq_true rfl)⟩) hS (fun q hq h => absurd hq (Nat.not_lt.mpr h)) (fun q h => hA q (Nat.le_trans hS.1 h)) (fun r_847 u_ t_ H846 locs ht hvm hw hB hz1 hk1 hS => ?_)
              subst hw
              have hP := wk hP hk1
              obtain ⟨f848, f849, f850⟩ := hB
              refine lv_if_ne (tgt := 156) hx hb dX9_unit_151 (by decide) (fun c_851 => ((ob_231 (qi_ne c_851 rfl zc_0) f811 f848)).elim) (fun c_851 => ?_)
              have f852 : r_847.toInt = 0 := qi_eq c_851 rfl zc_0
              have f853 : x809.toInt ≠ (0 : Int) := (ob_232 im830 f811)
              have f854 : (1 : Int) ≤ x809.toInt := (ob_217 im830 f811)
              have f855 : r_847.toInt = (0 : Int) := (ob_226 f849 f850 f852)
              refine lv_iconst (v := 1) hx hb dX9_unit_154 (by decide) ?_
              rw [hQ]
              exact W.zret (v := 1) hx hb hr (by decide) (fun t ht hW => ⟨⟨1, 1, rfl, rfl, ⟨x809, i_at, i_end, i_token, i_number, i_codes, i_within, i_piled, i_unitsInRule, f_code, f_eWhat, f_eSign, J810, L, by rw [ht]; exact hP, hD, hI812, (ob_14 zc_1), (ob_15 zc_1), (fun h => ((ob_356 h im830 f811)).elim), (ob_357 hp5 hp7 hp8), (ob_358 hp2 hp4 hp7), (ob_146), (ob_359 f811 zc_1)⟩⟩, hS.F ht⟩) hS.2.2 dX9_unit_155
            · skip
              have f856 : i_token.toInt ≠ 4 := qi_ne c_798 rfl zc_4
              refine lv_iload_n hx hb dX9_unit_117 rfl (lv_at hl 2 rfl) ?_
              refine lv_if_eq (tgt := 143) hx hb dX9_unit_118 (by decide) (fun c_857 => ?_) (fun c_857 => ?_)
              · skip
                have f858 : r_18.toInt = 0 := qi_eq c_857 rfl zc_0
                refine lv_aload_n hx hb dX9_unit_143 rfl (lv_at hl 5 rfl) ?_
                have hFc := frA hD hS hA
                refine va_callv (va_runV (As := []) (rest := []) ⟨hx, hb, hml, hown, hG⟩ (kX9_misplaced l dC dI r ct i_taped i_size i_faultKind i_at i_end i_token i_number i_bank i_rb i_codes i_within i_piled i_unitsInRule i_askHouse i_askTune i_acts i_undone i_laid i_knowns i_time f_text f_tunes f_houses f_hums f_told f_many f_ruleFrom f_ruleTo f_code f_eWhat f_eSign f_all f_kept f_was f_sTune f_boxAll J L H22.size hI) (cwV 0 hG (goodV gw1420 gw1422 gw65 gw138 gw1423) rfl rfl rfl hd_X9_misplaced ⟨(Nat.le_of_ble_eq_true rfl), (Nat.le_of_ble_eq_true rfl)⟩) ⟨fbW, va_recv hK hP (ci := 8) (q0 := 0) rfl rfl, pW_in hP hK hD⟩ rfl rfl hl.1 rfl (lv_room (Nat.le_of_ble_eq_true rfl)) dX9_unit_144 ⟨(Nat.le_of_ble_eq_true rfl), (Nat.le_of_ble_eq_true rfl)⟩) hS (fun q _ h => hFc q h) hFc (fun _ t_ H859 locs ht hvm hw hB hz1 hk1 hS => ?_)
                obtain ⟨x861, J862, hP1, hD1, hI864, f863⟩ := hB
                rw [ht] at hP1
                have hP := hP1
                have hD := dW hFc hD1
                obtain ⟨im865, im866, im867, im868, im869, im870, im871, im872, im873, im874, im875, im876, im877, im878, im879, im880, im881, im882, im883, im884, im885, im886, im887, im888, im889, im890, im891, im892, im893, im894, im895, im896, im897⟩ := id hI864
                refine lv_aload_n hx hb dX9_unit_147 rfl (lv_at hl 5 rfl) ?_
                refine va_calli (va_runV (As := []) (rest := []) ⟨hx, hb, hml, hown, hG⟩ (kX9_isGood l dC dI r ct i_taped i_size x861 i_at i_end i_token i_number i_bank i_rb i_codes i_within i_piled i_unitsInRule i_askHouse i_askTune i_acts i_undone i_laid i_knowns i_time f_text f_tunes f_houses f_hums f_told f_many f_ruleFrom f_ruleTo f_code f_eWhat f_eSign f_all f_kept f_was f_sTune f_boxAll J862 L H859.size hI864) (cwV 0 hG (goodV gw1401 gw1403 gw61 gw138 gw1404) rfl rfl rfl hd_X9_isGood ⟨(Nat.le_of_ble_eq_true rfl), (Nat.le_of_ble_eq_true rfl)⟩) ⟨fbR, va_recv hK hP (ci := 8) (q0 := 0) rfl rfl, pR_in hP hK⟩ rfl rfl hl.1 rfl (lv_room (Nat.le_of_ble_eq_true rfl)) dX9_unit_148 ⟨(Nat.le_of_ble_eq_true rfl), (Nat.le_of_ble_eq_true rfl)⟩) hS (fun q hq h => absurd hq (Nat.not_lt.mpr h)) (fun q h => hA q (Nat.le_trans hS.1 h)) (fun r_899 u_ t_ H898 locs ht hvm hw hB hz1 hk1 hS => ?_)
                subst hw
                have hP := wk hP hk1
                obtain ⟨f900, f901, f902⟩ := hB
                refine lv_if_ne (tgt := 156) hx hb dX9_unit_151 (by decide) (fun c_903 => ((ob_231 (qi_ne c_903 rfl zc_0) f863 f900)).elim) (fun c_903 => ?_)
                have f904 : r_899.toInt = 0 := qi_eq c_903 rfl zc_0
                have f905 : x861.toInt ≠ (0 : Int) := (ob_232 im882 f863)
                have f906 : (1 : Int) ≤ x861.toInt := (ob_217 im882 f863)
                have f907 : r_899.toInt = (0 : Int) := (ob_226 f901 f902 f904)
                refine lv_iconst (v := 1) hx hb dX9_unit_154 (by decide) ?_
                rw [hQ]
                exact W.zret (v := 1) hx hb hr (by decide) (fun t ht hW => ⟨⟨1, 1, rfl, rfl, ⟨x861, i_at, i_end, i_token, i_number, i_codes, i_within, i_piled, i_unitsInRule, f_code, f_eWhat, f_eSign, J862, L, by rw [ht]; exact hP, hD, hI864, (ob_14 zc_1), (ob_15 zc_1), (fun h => ((ob_356 h im882 f863)).elim), (ob_357 hp5 hp7 hp8), (ob_358 hp2 hp4 hp7), (ob_146), (ob_359 f863 zc_1)⟩⟩, hS.F ht⟩) hS.2.2 dX9_unit_155
              · skip
                have f908 : r_18.toInt ≠ 0 := qi_ne c_857 rfl zc_0
                have f909 : i_token.toInt = (5 : Int) := (ob_365 f19 f908 zc_40)
                have f910 : (sgz f_text i_size.toInt i_at.toInt) = (40 : Int) := (ob_366 f19 f908 zc_40)
                have f911 : r_18.toInt = (1 : Int) := (ob_367 f19 f908 zc_40)
                have f912 : (1 : Int) ≤ r_18.toInt := (ob_162 f20 f21 f911)
                refine lv_iload hx hb dX9_unit_121 (lv_at hl 0 rfl) ?_
                refine lv_if_ne (tgt := 143) hx hb dX9_unit_123 (by decide) (fun c_913 => ?_) (fun c_913 => absurd c_913 (by decide))
                refine lv_aload_n hx hb dX9_unit_143 rfl (lv_at hl 5 rfl) ?_
                have hFc := frA hD hS hA
                refine va_callv (va_runV (As := []) (rest := []) ⟨hx, hb, hml, hown, hG⟩ (kX9_misplaced l dC dI r ct i_taped i_size i_faultKind i_at i_end i_token i_number i_bank i_rb i_codes i_within i_piled i_unitsInRule i_askHouse i_askTune i_acts i_undone i_laid i_knowns i_time f_text f_tunes f_houses f_hums f_told f_many f_ruleFrom f_ruleTo f_code f_eWhat f_eSign f_all f_kept f_was f_sTune f_boxAll J L H22.size hI) (cwV 0 hG (goodV gw1420 gw1422 gw65 gw138 gw1423) rfl rfl rfl hd_X9_misplaced ⟨(Nat.le_of_ble_eq_true rfl), (Nat.le_of_ble_eq_true rfl)⟩) ⟨fbW, va_recv hK hP (ci := 8) (q0 := 0) rfl rfl, pW_in hP hK hD⟩ rfl rfl hl.1 rfl (lv_room (Nat.le_of_ble_eq_true rfl)) dX9_unit_144 ⟨(Nat.le_of_ble_eq_true rfl), (Nat.le_of_ble_eq_true rfl)⟩) hS (fun q _ h => hFc q h) hFc (fun _ t_ H914 locs ht hvm hw hB hz1 hk1 hS => ?_)
                obtain ⟨x916, J917, hP1, hD1, hI919, f918⟩ := hB
                rw [ht] at hP1
                have hP := hP1
                have hD := dW hFc hD1
                obtain ⟨im920, im921, im922, im923, im924, im925, im926, im927, im928, im929, im930, im931, im932, im933, im934, im935, im936, im937, im938, im939, im940, im941, im942, im943, im944, im945, im946, im947, im948, im949, im950, im951, im952⟩ := id hI919
                refine lv_aload_n hx hb dX9_unit_147 rfl (lv_at hl 5 rfl) ?_
                refine va_calli (va_runV (As := []) (rest := []) ⟨hx, hb, hml, hown, hG⟩ (kX9_isGood l dC dI r ct i_taped i_size x916 i_at i_end i_token i_number i_bank i_rb i_codes i_within i_piled i_unitsInRule i_askHouse i_askTune i_acts i_undone i_laid i_knowns i_time f_text f_tunes f_houses f_hums f_told f_many f_ruleFrom f_ruleTo f_code f_eWhat f_eSign f_all f_kept f_was f_sTune f_boxAll J917 L H914.size hI919) (cwV 0 hG (goodV gw1401 gw1403 gw61 gw138 gw1404) rfl rfl rfl hd_X9_isGood ⟨(Nat.le_of_ble_eq_true rfl), (Nat.le_of_ble_eq_true rfl)⟩) ⟨fbR, va_recv hK hP (ci := 8) (q0 := 0) rfl rfl, pR_in hP hK⟩ rfl rfl hl.1 rfl (lv_room (Nat.le_of_ble_eq_true rfl)) dX9_unit_148 ⟨(Nat.le_of_ble_eq_true rfl), (Nat.le_of_ble_eq_true rfl)⟩) hS (fun q hq h => absurd hq (Nat.not_lt.mpr h)) (fun q h => hA q (Nat.le_trans hS.1 h)) (fun r_954 u_ t_ H953 locs ht hvm hw hB hz1 hk1 hS => ?_)
                subst hw
                have hP := wk hP hk1
                obtain ⟨f955, f956, f957⟩ := hB
                refine lv_if_ne (tgt := 156) hx hb dX9_unit_151 (by decide) (fun c_958 => ((ob_231 (qi_ne c_958 rfl zc_0) f918 f955)).elim) (fun c_958 => ?_)
                have f959 : r_954.toInt = 0 := qi_eq c_958 rfl zc_0
                have f960 : x916.toInt ≠ (0 : Int) := (ob_232 im937 f918)
                have f961 : (1 : Int) ≤ x916.toInt := (ob_217 im937 f918)
                have f962 : r_954.toInt = (0 : Int) := (ob_226 f956 f957 f959)
                refine lv_iconst (v := 1) hx hb dX9_unit_154 (by decide) ?_
                rw [hQ]
                exact W.zret (v := 1) hx hb hr (by decide) (fun t ht hW => ⟨⟨1, 1, rfl, rfl, ⟨x916, i_at, i_end, i_token, i_number, i_codes, i_within, i_piled, i_unitsInRule, f_code, f_eWhat, f_eSign, J917, L, by rw [ht]; exact hP, hD, hI919, (ob_14 zc_1), (ob_15 zc_1), (fun h => ((ob_356 h im937 f918)).elim), (ob_357 hp5 hp7 hp8), (ob_358 hp2 hp4 hp7), (ob_146), (ob_359 f918 zc_1)⟩⟩, hS.F ht⟩) hS.2.2 dX9_unit_155
    · skip
      have f963 : r_11.toInt ≠ 0 := qi_ne c_15 rfl zc_0
      have f964 : i_token.toInt = (3 : Int) := (ob_403 f12 f963 zl_7237492)
      have f965 : (L 0 0).toInt = (7237492 : Int) := (ob_404 f12 f963 zl_7237492)
      have f966 : r_11.toInt = (1 : Int) := (ob_405 f12 f963 zl_7237492)
      have f967 : (1 : Int) ≤ r_11.toInt := (ob_162 f13 f14 f966)
      refine lv_iconst (v := 1) hx hb dX9_unit_51 (by decide) ?_
      refine lv_goto (tgt := 56) hx hb dX9_unit_52 (by decide) ?_
      refine lv_istore_n (lv' := [(2, .int 1), (1, .int 1), (0, .ref (r 0))]) hx hb dX9_unit_56 rfl hl (by decide) rfl (fun ls hl => ?_)
      refine lv_aload_n hx hb dX9_unit_57 rfl (lv_at hl 2 rfl) ?_
      refine lv_bipush (v := 40) hx hb dX9_unit_58 (by decide) ?_
      refine va_calli (va_runV (As := [.int 40]) (rest := []) ⟨hx, hb, hml, hown, hG⟩ (kX9_isSignHere l dC dI r ct i_taped i_size i_faultKind i_at i_end i_token i_number i_bank i_rb i_codes i_within i_piled i_unitsInRule i_askHouse i_askTune i_acts i_undone i_laid i_knowns i_time f_text f_tunes f_houses f_hums f_told f_many f_ruleFrom f_ruleTo f_code f_eWhat f_eSign f_all f_kept f_was f_sTune f_boxAll J L 40 H10.size hI) (cwV 1 hG (goodV gw1476 gw1478 gw79 gw138 gw1479) rfl rfl rfl hd_X9_isSignHere ⟨(Nat.le_of_ble_eq_true rfl), (Nat.le_of_ble_eq_true rfl)⟩) ⟨fbR, va_recv hK hP (ci := 8) (q0 := 0) rfl rfl, pR_in hP hK⟩ rfl rfl hl.1 rfl (lv_room (Nat.le_of_ble_eq_true rfl)) dX9_unit_60 ⟨(Nat.le_of_ble_eq_true rfl), (Nat.le_of_ble_eq_true rfl)⟩) hS (fun q hq h => absurd hq (Nat.not_lt.mpr h)) (fun q h => hA q (Nat.le_trans hS.1 h)) (fun r_969 u_ t_ H968 locs ht hvm hw hB hz1 hk1 hS => ?_)
      subst hw
      have hP := wk hP hk1
      obtain ⟨f970, f971, f972⟩ := hB
      refine lv_istore_n (lv' := [(3, .int r_969), (2, .int 1), (1, .int 1), (0, .ref (r 0))]) hx hb dX9_unit_63 rfl hl (by decide) rfl (fun ls hl => ?_)
      refine lv_aload_n hx hb dX9_unit_64 rfl (lv_at hl 3 rfl) ?_
      refine va_calli (va_runV (As := []) (rest := []) ⟨hx, hb, hml, hown, hG⟩ (kX9_wordHere l dC dI r ct i_taped i_size i_faultKind i_at i_end i_token i_number i_bank i_rb i_codes i_within i_piled i_unitsInRule i_askHouse i_askTune i_acts i_undone i_laid i_knowns i_time f_text f_tunes f_houses f_hums f_told f_many f_ruleFrom f_ruleTo f_code f_eWhat f_eSign f_all f_kept f_was f_sTune f_boxAll J L H968.size hI) (cwV 0 hG (goodV gw1480 gw1482 gw80 gw138 gw1483) rfl rfl rfl hd_X9_wordHere ⟨(Nat.le_of_ble_eq_true rfl), (Nat.le_of_ble_eq_true rfl)⟩) ⟨fbR, va_recv hK hP (ci := 8) (q0 := 0) rfl rfl, pR_in hP hK⟩ rfl rfl hl.1 rfl (lv_room (Nat.le_of_ble_eq_true rfl)) dX9_unit_65 ⟨(Nat.le_of_ble_eq_true rfl), (Nat.le_of_ble_eq_true rfl)⟩) hS (fun q hq h => absurd hq (Nat.not_lt.mpr h)) (fun q h => hA q (Nat.le_trans hS.1 h)) (fun r_974 u_ t_ H973 locs ht hvm hw hB hz1 hk1 hS => ?_)
      subst hw
      have hP := wk hP hk1
      have f975 := hB
      refine lv_istore (lv' := [(4, .int r_974), (3, .int r_969), (2, .int 1), (1, .int 1), (0, .ref (r 0))]) hx hb dX9_unit_68 hl (by decide) rfl (fun ls hl => ?_)
      refine lv_aload_n hx hb dX9_unit_70 rfl (lv_at hl 4 rfl) ?_
      refine gM_X9_30_0 hx hb hG hown hK hP dX9_unit_71 ?_
      refine lv_aload_n hx hb dX9_unit_74 rfl (lv_at hl 4 rfl) ?_
      refine gM_X9_240_0 hx hb hG hown hK hP dX9_unit_75 ?_
      refine ldM_6 (mm := i_rb.toInt) hx hb hK hP rfl (ob_350 ie6) (ob_351 ie7) dX9_unit_78 (fun x976 => ?_)
      refine lv_bipush (v := 60) hx hb dX9_unit_79 (by decide) ?_
      refine lv_icmp_eq (tgt := 93) hx hb dX9_unit_81 (by decide) (fun c_977 => ?_) (fun c_977 => ?_)
      · skip
        have f978 : x976.toInt = 60 := qi_eq c_977 rfl zc_60
        refine lv_iconst (v := 1) hx hb dX9_unit_93 (by decide) ?_
        refine lv_goto (tgt := 98) hx hb dX9_unit_94 (by decide) ?_
        refine lv_istore (lv' := [(5, .int 1), (4, .int r_974), (3, .int r_969), (2, .int 1), (1, .int 1), (0, .ref (r 0))]) hx hb dX9_unit_98 hl (by decide) rfl (fun ls hl => ?_)
        refine lv_iload_n hx hb dX9_unit_100 rfl (lv_at hl 3 rfl) ?_
        refine lv_if_ne (tgt := 126) hx hb dX9_unit_101 (by decide) (fun c_979 => ?_) (fun c_979 => absurd c_979 (by decide))
        refine lv_iload_n hx hb dX9_unit_126 rfl (lv_at hl 3 rfl) ?_
        refine lv_if_ne (tgt := 134) hx hb dX9_unit_127 (by decide) (fun c_980 => ?_) (fun c_980 => absurd c_980 (by decide))
        refine lv_aload_n hx hb dX9_unit_134 rfl (lv_at hl 5 rfl) ?_
        refine gM_X9_299_0 hx hb hG hown hK hP dX9_unit_135 ?_
        refine lv_bipush (v := 7) hx hb dX9_unit_138 (by decide) ?_
        refine lv_icmp_ne (tgt := 147) hx hb dX9_unit_140 (by decide) (fun c_981 => ?_) (fun c_981 => ?_)
        · skip
          have f982 : i_within.toInt ≠ 7 := qi_ne c_981 rfl zc_7
          have f983 : i_within.toInt ≤ (6 : Int) := (ob_396 hp4 f982)
          refine lv_aload_n hx hb dX9_unit_147 rfl (lv_at hl 5 rfl) ?_
          refine va_calli (va_runV (As := []) (rest := []) ⟨hx, hb, hml, hown, hG⟩ (kX9_isGood l dC dI r ct i_taped i_size i_faultKind i_at i_end i_token i_number i_bank i_rb i_codes i_within i_piled i_unitsInRule i_askHouse i_askTune i_acts i_undone i_laid i_knowns i_time f_text f_tunes f_houses f_hums f_told f_many f_ruleFrom f_ruleTo f_code f_eWhat f_eSign f_all f_kept f_was f_sTune f_boxAll J L H973.size hI) (cwV 0 hG (goodV gw1401 gw1403 gw61 gw138 gw1404) rfl rfl rfl hd_X9_isGood ⟨(Nat.le_of_ble_eq_true rfl), (Nat.le_of_ble_eq_true rfl)⟩) ⟨fbR, va_recv hK hP (ci := 8) (q0 := 0) rfl rfl, pR_in hP hK⟩ rfl rfl hl.1 rfl (lv_room (Nat.le_of_ble_eq_true rfl)) dX9_unit_148 ⟨(Nat.le_of_ble_eq_true rfl), (Nat.le_of_ble_eq_true rfl)⟩) hS (fun q hq h => absurd hq (Nat.not_lt.mpr h)) (fun q h => hA q (Nat.le_trans hS.1 h)) (fun r_985 u_ t_ H984 locs ht hvm hw hB hz1 hk1 hS => ?_)
          subst hw
          have hP := wk hP hk1
          obtain ⟨f986, f987, f988⟩ := hB
          refine lv_if_ne (tgt := 156) hx hb dX9_unit_151 (by decide) (fun c_989 => ?_) (fun c_989 => ((ob_228 (qi_eq c_989 rfl zc_0) hp10 f986)).elim)
          have f990 : r_985.toInt ≠ 0 := qi_ne c_989 rfl zc_0
          have f991 : i_faultKind.toInt = (0 : Int) := (ob_229 ie17 hp10)
          have f992 : r_985.toInt = (1 : Int) := (ob_220 f986 f990)
          have f993 : (1 : Int) ≤ r_985.toInt := (ob_162 f987 f988 f992)
          refine lv_aload_n hx hb dX9_unit_156 rfl (lv_at hl 5 rfl) ?_
          refine gM_X9_30_0 hx hb hG hown hK hP dX9_unit_157 ?_
          refine lv_aload_n hx hb dX9_unit_160 rfl (lv_at hl 5 rfl) ?_
          refine gM_X9_240_0 hx hb hG hown hK hP dX9_unit_161 ?_
          refine lv_dup2_11 hx hb dX9_unit_164 rfl rfl ?_
          refine ldM_6 (mm := i_rb.toInt) hx hb hK hP rfl (ob_350 ie6) (ob_351 ie7) dX9_unit_165 (fun x994 => ?_)
          refine lv_iload_n hx hb dX9_unit_166 rfl (lv_at hl 3 rfl) ?_
          refine lv_if_eq (tgt := 174) hx hb dX9_unit_167 (by decide) (fun c_995 => absurd c_995 (by decide)) (fun c_995 => ?_)
          refine lv_iconst (v := 0) hx hb dX9_unit_170 (by decide) ?_
          refine lv_goto (tgt := 175) hx hb dX9_unit_171 (by decide) ?_
          refine lv_iadd hx hb dX9_unit_175 ?_
          refine lv_topi (fun x996 ex996 => ?_)
          refine stM_6 (mm := i_rb.toInt) hx hb hK hP hD hS rfl (ob_350 ie6) (ob_351 ie7) dX9_unit_176 (fun J998 H997 locs hP hD hS => ?_)
          refine lv_aload_n hx hb dX9_unit_177 rfl (lv_at hl 5 rfl) ?_
          refine lv_dup hx hb dX9_unit_178 rfl ?_
          refine gM_X9_290_0 hx hb hG hown hK hP dX9_unit_179 ?_
          refine lv_iload_n hx hb dX9_unit_182 rfl (lv_at hl 3 rfl) ?_
          refine lv_if_eq (tgt := 190) hx hb dX9_unit_183 (by decide) (fun c_999 => absurd c_999 (by decide)) (fun c_999 => ?_)
          refine lv_iconst (v := 0) hx hb dX9_unit_186 (by decide) ?_
          refine lv_goto (tgt := 191) hx hb dX9_unit_187 (by decide) ?_
          refine lv_iadd hx hb dX9_unit_191 ?_
          refine lv_topi (fun x1000 ex1000 => ?_)
          have f1001 : x1000.toInt = i_unitsInRule.toInt := (ob_408 (qi_add ex1000 rfl zc_0 (ob_406 hp1) (ob_407 hp2)))
          refine pM_X9_290_0 hx hb hG hown hK hP hD hS dX9_unit_192 (fun H1002 locs hP hD hS => ?_)
          refine lv_iload hx hb dX9_unit_195 (lv_at hl 1 rfl) ?_
          refine lv_if_ne (tgt := 207) hx hb dX9_unit_197 (by decide) (fun c_1003 => ?_) (fun c_1003 => ?_)
          · skip
            have f1004 : r_974.toInt ≠ 0 := qi_ne c_1003 rfl zc_0
            have f1005 : (97 : Int) ≤ r_974.toInt := (ob_352 f975 f1004)
            have f1006 : r_974.toInt ≤ (122 : Int) := (ob_353 f975 f1004 f1005)
            have f1007 : i_token.toInt = (3 : Int) := (ob_251 f964)
            have f1008 : (1 : Int) ≤ r_974.toInt := (ob_355 f1005 f1006)
            refine lv_iconst (v := 0) hx hb dX9_unit_207 (by decide) ?_
            refine lv_istore (lv' := [(6, .int 0), (5, .int 1), (4, .int r_974), (3, .int r_969), (2, .int 1), (1, .int 1), (0, .ref (r 0))]) hx hb dX9_unit_208 hl (by decide) rfl (fun ls hl => ?_)
            refine lv_aload_n hx hb dX9_unit_210 rfl (lv_at hl 6 rfl) ?_
            have hFc := frA hD hS hA
            refine va_callv (va_runV (As := []) (rest := []) ⟨hx, hb, hml, hown, hG⟩ (kX9_goOn l dC dI r ct i_taped i_size i_faultKind i_at i_end i_token i_number i_bank i_rb i_codes i_within i_piled x1000 i_askHouse i_askTune i_acts i_undone i_laid i_knowns i_time f_text f_tunes f_houses f_hums f_told f_many f_ruleFrom f_ruleTo f_code f_eWhat f_eSign f_all f_kept f_was f_sTune f_boxAll J998 L H1002.size hI) (cwV 0 hG (goodV gw1362 gw1364 gw59 gw138 gw1365) rfl rfl rfl hd_X9_goOn ⟨(Nat.le_of_ble_eq_true rfl), (Nat.le_of_ble_eq_true rfl)⟩) ⟨fbW, va_recv hK hP (ci := 8) (q0 := 0) rfl rfl, pW_in hP hK hD⟩ rfl rfl hl.1 rfl (lv_room (Nat.le_of_ble_eq_true rfl)) dX9_unit_211 ⟨(Nat.le_of_ble_eq_true rfl), (Nat.le_of_ble_eq_true rfl)⟩) hS (fun q _ h => hFc q h) hFc (fun _ t_ H1009 locs ht hvm hw hB hz1 hk1 hS => ?_)
            obtain ⟨x1011, x1012, x1013, x1014, L1015, hP1, hD1, hI1019, f1016, f1017, f1018⟩ := hB
            rw [ht] at hP1
            have hP := hP1
            have hD := dW hFc hD1
            obtain ⟨im1020, im1021, im1022, im1023, im1024, im1025, im1026, im1027, im1028, im1029, im1030, im1031, im1032, im1033, im1034, im1035, im1036, im1037, im1038, im1039, im1040, im1041, im1042, im1043, im1044, im1045, im1046, im1047, im1048, im1049, im1050, im1051, im1052⟩ := id hI1019
            refine lv_iload_n hx hb dX9_unit_214 rfl (lv_at hl 4 rfl) ?_
            refine lv_if_ne (tgt := 222) hx hb dX9_unit_215 (by decide) (fun c_1053 => ?_) (fun c_1053 => absurd c_1053 (by decide))
            refine lv_aload_n hx hb dX9_unit_222 rfl (lv_at hl 6 rfl) ?_
            refine lv_iload_n hx hb dX9_unit_223 rfl (lv_at hl 4 rfl) ?_
            refine lv_if_eq (tgt := 231) hx hb dX9_unit_224 (by decide) (fun c_1054 => absurd c_1054 (by decide)) (fun c_1054 => ?_)
            refine lv_iconst (v := 3) hx hb dX9_unit_227 (by decide) ?_
            refine lv_goto (tgt := 233) hx hb dX9_unit_228 (by decide) ?_
            refine lv_bipush (v := 126) hx hb dX9_unit_233 (by decide) ?_
            have hFc := frA hD hS hA
            refine va_callv (va_runV (As := [.int 3, .int 126]) (rest := []) ⟨hx, hb, hml, hown, hG⟩ (kX9_pushE l dC dI r ct i_taped i_size i_faultKind x1011 x1012 x1013 x1014 i_bank i_rb i_codes i_within i_piled x1000 i_askHouse i_askTune i_acts i_undone i_laid i_knowns i_time f_text f_tunes f_houses f_hums f_told f_many f_ruleFrom f_ruleTo f_code f_eWhat f_eSign f_all f_kept f_was f_sTune f_boxAll J998 L1015 3 126 H1009.size hI1019 (ob_357 hp5 hp7 hp8) (ob_397 hp2 hp4 hp7)) (cwV 2 hG (goodV gw1468 gw1470 gw77 gw138 gw1471) rfl rfl rfl hd_X9_pushE ⟨(Nat.le_of_ble_eq_true rfl), (Nat.le_of_ble_eq_true rfl)⟩) ⟨fbW, va_recv hK hP (ci := 8) (q0 := 0) rfl rfl, pW_in hP hK hD⟩ rfl rfl hl.1 rfl (lv_room (Nat.le_of_ble_eq_true rfl)) dX9_unit_235 ⟨(Nat.le_of_ble_eq_true rfl), (Nat.le_of_ble_eq_true rfl)⟩) hS (fun q _ h => hFc q h) hFc (fun _ t_ H1055 locs ht hvm hw hB hz1 hk1 hS => ?_)
            obtain ⟨x1057, z1058, z1059, hP1, hD1, hI1063, f1060, f1061, f1062⟩ := hB
            rw [ht] at hP1
            have hP := hP1
            have hD := dW hFc hD1
            obtain ⟨im1064, im1065, im1066, im1067, im1068, im1069, im1070, im1071, im1072, im1073, im1074, im1075, im1076, im1077, im1078, im1079, im1080, im1081, im1082, im1083, im1084, im1085, im1086, im1087, im1088, im1089, im1090, im1091, im1092, im1093, im1094, im1095, im1096⟩ := id hI1063
            have f1097 : (z1058 ((0 : Int)).toNat).toInt = (f_eWhat ((0 : Int)).toNat).toInt := (by rw [f1061, upd_off (ne0 (ob_398 hp5))])
            refine lv_aload_n hx hb dX9_unit_238 rfl (lv_at hl 6 rfl) ?_
            refine lv_dup hx hb dX9_unit_239 rfl ?_
            refine gM_X9_299_0 hx hb hG hown hK hP dX9_unit_240 ?_
            refine lv_iconst (v := 1) hx hb dX9_unit_243 (by decide) ?_
            refine lv_iadd hx hb dX9_unit_244 ?_
            refine lv_topi (fun x1098 ex1098 => ?_)
            have f1099 : x1098.toInt = i_within.toInt + 1 := (ob_142 (qi_add ex1098 rfl zc_1 (ob_140 hp3) (ob_399 hp4)))
            refine pM_X9_299_0 hx hb hG hown hK hP hD hS dX9_unit_245 (fun H1100 locs hP hD hS => ?_)
            refine lv_iconst (v := 1) hx hb dX9_unit_248 (by decide) ?_
            rw [hQ]
            exact W.zret (v := 1) hx hb hr (by decide) (fun t ht hW => ⟨⟨1, 1, rfl, rfl, ⟨i_faultKind, x1011, x1012, x1013, x1014, i_codes, x1098, x1057, x1000, f_code, z1058, z1059, J998, L1015, by rw [ht]; exact hP, hD, hI1063, (ob_14 zc_1), (ob_15 zc_1), (fun _ => SPpush hp11 f1061 f1062 (ob_398 hp5) (ob_142 f1060) (Or.inl (ob_409 zc_1 f1099 zc_126 zc_3))), (ob_199 hp5 f1060), (ob_401 hp2 hp4 hp7 f1060), (ob_145 f1016), (ob_410 ie17 hp2 hp3 hp4 hp5 hp6 hp7 hp8 hp9 f12 f963 f982 f1018 f1060 f1097 zl_7237492 zc_1 f1099 f1001)⟩⟩, hS.F ht⟩) hS.2.2 dX9_unit_249
          · skip
            have f1101 : r_974.toInt = 0 := qi_eq c_1003 rfl zc_0
            have f1102 : r_974.toInt = (0 : Int) := (ob_25 f1101)
            refine lv_aload_n hx hb dX9_unit_200 rfl (lv_at hl 5 rfl) ?_
            refine gM_X9_209_0 hx hb hG hown hK hP dX9_unit_201 ?_
            refine lv_goto (tgt := 208) hx hb dX9_unit_204 (by decide) ?_
            refine lv_istore (lv' := [(6, .int i_number), (5, .int 1), (4, .int r_974), (3, .int r_969), (2, .int 1), (1, .int 1), (0, .ref (r 0))]) hx hb dX9_unit_208 hl (by decide) rfl (fun ls hl => ?_)
            refine lv_aload_n hx hb dX9_unit_210 rfl (lv_at hl 6 rfl) ?_
            have hFc := frA hD hS hA
            refine va_callv (va_runV (As := []) (rest := []) ⟨hx, hb, hml, hown, hG⟩ (kX9_goOn l dC dI r ct i_taped i_size i_faultKind i_at i_end i_token i_number i_bank i_rb i_codes i_within i_piled x1000 i_askHouse i_askTune i_acts i_undone i_laid i_knowns i_time f_text f_tunes f_houses f_hums f_told f_many f_ruleFrom f_ruleTo f_code f_eWhat f_eSign f_all f_kept f_was f_sTune f_boxAll J998 L H1002.size hI) (cwV 0 hG (goodV gw1362 gw1364 gw59 gw138 gw1365) rfl rfl rfl hd_X9_goOn ⟨(Nat.le_of_ble_eq_true rfl), (Nat.le_of_ble_eq_true rfl)⟩) ⟨fbW, va_recv hK hP (ci := 8) (q0 := 0) rfl rfl, pW_in hP hK hD⟩ rfl rfl hl.1 rfl (lv_room (Nat.le_of_ble_eq_true rfl)) dX9_unit_211 ⟨(Nat.le_of_ble_eq_true rfl), (Nat.le_of_ble_eq_true rfl)⟩) hS (fun q _ h => hFc q h) hFc (fun _ t_ H1103 locs ht hvm hw hB hz1 hk1 hS => ?_)
            obtain ⟨x1105, x1106, x1107, x1108, L1109, hP1, hD1, hI1113, f1110, f1111, f1112⟩ := hB
            rw [ht] at hP1
            have hP := hP1
            have hD := dW hFc hD1
            obtain ⟨im1114, im1115, im1116, im1117, im1118, im1119, im1120, im1121, im1122, im1123, im1124, im1125, im1126, im1127, im1128, im1129, im1130, im1131, im1132, im1133, im1134, im1135, im1136, im1137, im1138, im1139, im1140, im1141, im1142, im1143, im1144, im1145, im1146⟩ := id hI1113
            refine lv_iload_n hx hb dX9_unit_214 rfl (lv_at hl 4 rfl) ?_
            refine lv_if_ne (tgt := 222) hx hb dX9_unit_215 (by decide) (fun c_1147 => ?_) (fun c_1147 => absurd c_1147 (by decide))
            refine lv_aload_n hx hb dX9_unit_222 rfl (lv_at hl 6 rfl) ?_
            refine lv_iload_n hx hb dX9_unit_223 rfl (lv_at hl 4 rfl) ?_
            refine lv_if_eq (tgt := 231) hx hb dX9_unit_224 (by decide) (fun c_1148 => absurd c_1148 (by decide)) (fun c_1148 => ?_)
            refine lv_iconst (v := 3) hx hb dX9_unit_227 (by decide) ?_
            refine lv_goto (tgt := 233) hx hb dX9_unit_228 (by decide) ?_
            refine lv_bipush (v := 126) hx hb dX9_unit_233 (by decide) ?_
            have hFc := frA hD hS hA
            refine va_callv (va_runV (As := [.int 3, .int 126]) (rest := []) ⟨hx, hb, hml, hown, hG⟩ (kX9_pushE l dC dI r ct i_taped i_size i_faultKind x1105 x1106 x1107 x1108 i_bank i_rb i_codes i_within i_piled x1000 i_askHouse i_askTune i_acts i_undone i_laid i_knowns i_time f_text f_tunes f_houses f_hums f_told f_many f_ruleFrom f_ruleTo f_code f_eWhat f_eSign f_all f_kept f_was f_sTune f_boxAll J998 L1109 3 126 H1103.size hI1113 (ob_357 hp5 hp7 hp8) (ob_397 hp2 hp4 hp7)) (cwV 2 hG (goodV gw1468 gw1470 gw77 gw138 gw1471) rfl rfl rfl hd_X9_pushE ⟨(Nat.le_of_ble_eq_true rfl), (Nat.le_of_ble_eq_true rfl)⟩) ⟨fbW, va_recv hK hP (ci := 8) (q0 := 0) rfl rfl, pW_in hP hK hD⟩ rfl rfl hl.1 rfl (lv_room (Nat.le_of_ble_eq_true rfl)) dX9_unit_235 ⟨(Nat.le_of_ble_eq_true rfl), (Nat.le_of_ble_eq_true rfl)⟩) hS (fun q _ h => hFc q h) hFc (fun _ t_ H1149 locs ht hvm hw hB hz1 hk1 hS => ?_)
            obtain ⟨x1151, z1152, z1153, hP1, hD1, hI1157, f1154, f1155, f1156⟩ := hB
            rw [ht] at hP1
            have hP := hP1
            have hD := dW hFc hD1
            obtain ⟨im1158, im1159, im1160, im1161, im1162, im1163, im1164, im1165, im1166, im1167, im1168, im1169, im1170, im1171, im1172, im1173, im1174, im1175, im1176, im1177, im1178, im1179, im1180, im1181, im1182, im1183, im1184, im1185, im1186, im1187, im1188, im1189, im1190⟩ := id hI1157
            have f1191 : (z1152 ((0 : Int)).toNat).toInt = (f_eWhat ((0 : Int)).toNat).toInt := (by rw [f1155, upd_off (ne0 (ob_398 hp5))])
            refine lv_aload_n hx hb dX9_unit_238 rfl (lv_at hl 6 rfl) ?_
            refine lv_dup hx hb dX9_unit_239 rfl ?_
            refine gM_X9_299_0 hx hb hG hown hK hP dX9_unit_240 ?_
            refine lv_iconst (v := 1) hx hb dX9_unit_243 (by decide) ?_
            refine lv_iadd hx hb dX9_unit_244 ?_
            refine lv_topi (fun x1192 ex1192 => ?_)
            have f1193 : x1192.toInt = i_within.toInt + 1 := (ob_142 (qi_add ex1192 rfl zc_1 (ob_140 hp3) (ob_399 hp4)))
            refine pM_X9_299_0 hx hb hG hown hK hP hD hS dX9_unit_245 (fun H1194 locs hP hD hS => ?_)
            refine lv_iconst (v := 1) hx hb dX9_unit_248 (by decide) ?_
            rw [hQ]
            exact W.zret (v := 1) hx hb hr (by decide) (fun t ht hW => ⟨⟨1, 1, rfl, rfl, ⟨i_faultKind, x1105, x1106, x1107, x1108, i_codes, x1192, x1151, x1000, f_code, z1152, z1153, J998, L1109, by rw [ht]; exact hP, hD, hI1157, (ob_14 zc_1), (ob_15 zc_1), (fun _ => SPpush hp11 f1155 f1156 (ob_398 hp5) (ob_142 f1154) (Or.inl (ob_409 zc_1 f1193 zc_126 zc_3))), (ob_199 hp5 f1154), (ob_401 hp2 hp4 hp7 f1154), (ob_145 f1110), (ob_410 ie17 hp2 hp3 hp4 hp5 hp6 hp7 hp8 hp9 f12 f963 f982 f1112 f1154 f1191 zl_7237492 zc_1 f1193 f1001)⟩⟩, hS.F ht⟩) hS.2.2 dX9_unit_249
        · skip
          have f1195 : i_within.toInt = 7 := qi_eq c_981 rfl zc_7
          refine lv_aload_n hx hb dX9_unit_143 rfl (lv_at hl 5 rfl) ?_
          have hFc := frA hD hS hA
          refine va_callv (va_runV (As := []) (rest := []) ⟨hx, hb, hml, hown, hG⟩ (kX9_misplaced l dC dI r ct i_taped i_size i_faultKind i_at i_end i_token i_number i_bank i_rb i_codes i_within i_piled i_unitsInRule i_askHouse i_askTune i_acts i_undone i_laid i_knowns i_time f_text f_tunes f_houses f_hums f_told f_many f_ruleFrom f_ruleTo f_code f_eWhat f_eSign f_all f_kept f_was f_sTune f_boxAll J L H973.size hI) (cwV 0 hG (goodV gw1420 gw1422 gw65 gw138 gw1423) rfl rfl rfl hd_X9_misplaced ⟨(Nat.le_of_ble_eq_true rfl), (Nat.le_of_ble_eq_true rfl)⟩) ⟨fbW, va_recv hK hP (ci := 8) (q0 := 0) rfl rfl, pW_in hP hK hD⟩ rfl rfl hl.1 rfl (lv_room (Nat.le_of_ble_eq_true rfl)) dX9_unit_144 ⟨(Nat.le_of_ble_eq_true rfl), (Nat.le_of_ble_eq_true rfl)⟩) hS (fun q _ h => hFc q h) hFc (fun _ t_ H1196 locs ht hvm hw hB hz1 hk1 hS => ?_)
          obtain ⟨x1198, J1199, hP1, hD1, hI1201, f1200⟩ := hB
          rw [ht] at hP1
          have hP := hP1
          have hD := dW hFc hD1
          obtain ⟨im1202, im1203, im1204, im1205, im1206, im1207, im1208, im1209, im1210, im1211, im1212, im1213, im1214, im1215, im1216, im1217, im1218, im1219, im1220, im1221, im1222, im1223, im1224, im1225, im1226, im1227, im1228, im1229, im1230, im1231, im1232, im1233, im1234⟩ := id hI1201
          refine lv_aload_n hx hb dX9_unit_147 rfl (lv_at hl 5 rfl) ?_
          refine va_calli (va_runV (As := []) (rest := []) ⟨hx, hb, hml, hown, hG⟩ (kX9_isGood l dC dI r ct i_taped i_size x1198 i_at i_end i_token i_number i_bank i_rb i_codes i_within i_piled i_unitsInRule i_askHouse i_askTune i_acts i_undone i_laid i_knowns i_time f_text f_tunes f_houses f_hums f_told f_many f_ruleFrom f_ruleTo f_code f_eWhat f_eSign f_all f_kept f_was f_sTune f_boxAll J1199 L H1196.size hI1201) (cwV 0 hG (goodV gw1401 gw1403 gw61 gw138 gw1404) rfl rfl rfl hd_X9_isGood ⟨(Nat.le_of_ble_eq_true rfl), (Nat.le_of_ble_eq_true rfl)⟩) ⟨fbR, va_recv hK hP (ci := 8) (q0 := 0) rfl rfl, pR_in hP hK⟩ rfl rfl hl.1 rfl (lv_room (Nat.le_of_ble_eq_true rfl)) dX9_unit_148 ⟨(Nat.le_of_ble_eq_true rfl), (Nat.le_of_ble_eq_true rfl)⟩) hS (fun q hq h => absurd hq (Nat.not_lt.mpr h)) (fun q h => hA q (Nat.le_trans hS.1 h)) (fun r_1236 u_ t_ H1235 locs ht hvm hw hB hz1 hk1 hS => ?_)
          subst hw
          have hP := wk hP hk1
          obtain ⟨f1237, f1238, f1239⟩ := hB
          refine lv_if_ne (tgt := 156) hx hb dX9_unit_151 (by decide) (fun c_1240 => ((ob_231 (qi_ne c_1240 rfl zc_0) f1200 f1237)).elim) (fun c_1240 => ?_)
          have f1241 : r_1236.toInt = 0 := qi_eq c_1240 rfl zc_0
          have f1242 : x1198.toInt ≠ (0 : Int) := (ob_232 im1219 f1200)
          have f1243 : (1 : Int) ≤ x1198.toInt := (ob_217 im1219 f1200)
          have f1244 : r_1236.toInt = (0 : Int) := (ob_226 f1238 f1239 f1241)
          refine lv_iconst (v := 1) hx hb dX9_unit_154 (by decide) ?_
          rw [hQ]
          exact W.zret (v := 1) hx hb hr (by decide) (fun t ht hW => ⟨⟨1, 1, rfl, rfl, ⟨x1198, i_at, i_end, i_token, i_number, i_codes, i_within, i_piled, i_unitsInRule, f_code, f_eWhat, f_eSign, J1199, L, by rw [ht]; exact hP, hD, hI1201, (ob_14 zc_1), (ob_15 zc_1), (fun h => ((ob_356 h im1219 f1200)).elim), (ob_357 hp5 hp7 hp8), (ob_358 hp2 hp4 hp7), (ob_146), (ob_359 f1200 zc_1)⟩⟩, hS.F ht⟩) hS.2.2 dX9_unit_155
      · skip
        have f1245 : x976.toInt ≠ 60 := qi_ne c_977 rfl zc_60
        refine lv_aload_n hx hb dX9_unit_84 rfl (lv_at hl 4 rfl) ?_
        refine gM_X9_290_0 hx hb hG hown hK hP dX9_unit_85 ?_
        refine lv_bipush (v := 30) hx hb dX9_unit_88 (by decide) ?_
        refine lv_icmp_ne (tgt := 97) hx hb dX9_unit_90 (by decide) (fun c_1246 => ?_) (fun c_1246 => ?_)
        · skip
          have f1247 : i_unitsInRule.toInt ≠ 30 := qi_ne c_1246 rfl zc_30
          have f1248 : i_unitsInRule.toInt ≤ (29 : Int) := (ob_368 hp2 f1247)
          refine lv_iconst (v := 0) hx hb dX9_unit_97 (by decide) ?_
          refine lv_istore (lv' := [(5, .int 0), (4, .int r_974), (3, .int r_969), (2, .int 1), (1, .int 1), (0, .ref (r 0))]) hx hb dX9_unit_98 hl (by decide) rfl (fun ls hl => ?_)
          refine lv_iload_n hx hb dX9_unit_100 rfl (lv_at hl 3 rfl) ?_
          refine lv_if_ne (tgt := 126) hx hb dX9_unit_101 (by decide) (fun c_1249 => ?_) (fun c_1249 => absurd c_1249 (by decide))
          refine lv_iload_n hx hb dX9_unit_126 rfl (lv_at hl 3 rfl) ?_
          refine lv_if_ne (tgt := 134) hx hb dX9_unit_127 (by decide) (fun c_1250 => ?_) (fun c_1250 => absurd c_1250 (by decide))
          refine lv_aload_n hx hb dX9_unit_134 rfl (lv_at hl 5 rfl) ?_
          refine gM_X9_299_0 hx hb hG hown hK hP dX9_unit_135 ?_
          refine lv_bipush (v := 7) hx hb dX9_unit_138 (by decide) ?_
          refine lv_icmp_ne (tgt := 147) hx hb dX9_unit_140 (by decide) (fun c_1251 => ?_) (fun c_1251 => ?_)
          · skip
            have f1252 : i_within.toInt ≠ 7 := qi_ne c_1251 rfl zc_7
            have f1253 : i_within.toInt ≤ (6 : Int) := (ob_396 hp4 f1252)
            refine lv_aload_n hx hb dX9_unit_147 rfl (lv_at hl 5 rfl) ?_
            refine va_calli (va_runV (As := []) (rest := []) ⟨hx, hb, hml, hown, hG⟩ (kX9_isGood l dC dI r ct i_taped i_size i_faultKind i_at i_end i_token i_number i_bank i_rb i_codes i_within i_piled i_unitsInRule i_askHouse i_askTune i_acts i_undone i_laid i_knowns i_time f_text f_tunes f_houses f_hums f_told f_many f_ruleFrom f_ruleTo f_code f_eWhat f_eSign f_all f_kept f_was f_sTune f_boxAll J L H973.size hI) (cwV 0 hG (goodV gw1401 gw1403 gw61 gw138 gw1404) rfl rfl rfl hd_X9_isGood ⟨(Nat.le_of_ble_eq_true rfl), (Nat.le_of_ble_eq_true rfl)⟩) ⟨fbR, va_recv hK hP (ci := 8) (q0 := 0) rfl rfl, pR_in hP hK⟩ rfl rfl hl.1 rfl (lv_room (Nat.le_of_ble_eq_true rfl)) dX9_unit_148 ⟨(Nat.le_of_ble_eq_true rfl), (Nat.le_of_ble_eq_true rfl)⟩) hS (fun q hq h => absurd hq (Nat.not_lt.mpr h)) (fun q h => hA q (Nat.le_trans hS.1 h)) (fun r_1255 u_ t_ H1254 locs ht hvm hw hB hz1 hk1 hS => ?_)
            subst hw
            have hP := wk hP hk1
            obtain ⟨f1256, f1257, f1258⟩ := hB
            refine lv_if_ne (tgt := 156) hx hb dX9_unit_151 (by decide) (fun c_1259 => ?_) (fun c_1259 => ((ob_228 (qi_eq c_1259 rfl zc_0) hp10 f1256)).elim)
            have f1260 : r_1255.toInt ≠ 0 := qi_ne c_1259 rfl zc_0
            have f1261 : i_faultKind.toInt = (0 : Int) := (ob_229 ie17 hp10)
            have f1262 : r_1255.toInt = (1 : Int) := (ob_220 f1256 f1260)
            have f1263 : (1 : Int) ≤ r_1255.toInt := (ob_162 f1257 f1258 f1262)
            refine lv_aload_n hx hb dX9_unit_156 rfl (lv_at hl 5 rfl) ?_
            refine gM_X9_30_0 hx hb hG hown hK hP dX9_unit_157 ?_
            refine lv_aload_n hx hb dX9_unit_160 rfl (lv_at hl 5 rfl) ?_
            refine gM_X9_240_0 hx hb hG hown hK hP dX9_unit_161 ?_
            refine lv_dup2_11 hx hb dX9_unit_164 rfl rfl ?_
            refine ldM_6 (mm := i_rb.toInt) hx hb hK hP rfl (ob_350 ie6) (ob_351 ie7) dX9_unit_165 (fun x1264 => ?_)
            refine lv_iload_n hx hb dX9_unit_166 rfl (lv_at hl 3 rfl) ?_
            refine lv_if_eq (tgt := 174) hx hb dX9_unit_167 (by decide) (fun c_1265 => absurd c_1265 (by decide)) (fun c_1265 => ?_)
            refine lv_iconst (v := 0) hx hb dX9_unit_170 (by decide) ?_
            refine lv_goto (tgt := 175) hx hb dX9_unit_171 (by decide) ?_
            refine lv_iadd hx hb dX9_unit_175 ?_
            refine lv_topi (fun x1266 ex1266 => ?_)
            refine stM_6 (mm := i_rb.toInt) hx hb hK hP hD hS rfl (ob_350 ie6) (ob_351 ie7) dX9_unit_176 (fun J1268 H1267 locs hP hD hS => ?_)
            refine lv_aload_n hx hb dX9_unit_177 rfl (lv_at hl 5 rfl) ?_
            refine lv_dup hx hb dX9_unit_178 rfl ?_
            refine gM_X9_290_0 hx hb hG hown hK hP dX9_unit_179 ?_
            refine lv_iload_n hx hb dX9_unit_182 rfl (lv_at hl 3 rfl) ?_
            refine lv_if_eq (tgt := 190) hx hb dX9_unit_183 (by decide) (fun c_1269 => absurd c_1269 (by decide)) (fun c_1269 => ?_)
            refine lv_iconst (v := 0) hx hb dX9_unit_186 (by decide) ?_
            refine lv_goto (tgt := 191) hx hb dX9_unit_187 (by decide) ?_
            refine lv_iadd hx hb dX9_unit_191 ?_
            refine lv_topi (fun x1270 ex1270 => ?_)
            have f1271 : x1270.toInt = i_unitsInRule.toInt := (ob_408 (qi_add ex1270 rfl zc_0 (ob_406 hp1) (ob_407 hp2)))
            refine pM_X9_290_0 hx hb hG hown hK hP hD hS dX9_unit_192 (fun H1272 locs hP hD hS => ?_)
            refine lv_iload hx hb dX9_unit_195 (lv_at hl 1 rfl) ?_
            refine lv_if_ne (tgt := 207) hx hb dX9_unit_197 (by decide) (fun c_1273 => ?_) (fun c_1273 => ?_)
            · skip
              have f1274 : r_974.toInt ≠ 0 := qi_ne c_1273 rfl zc_0
              have f1275 : (97 : Int) ≤ r_974.toInt := (ob_352 f975 f1274)
              have f1276 : r_974.toInt ≤ (122 : Int) := (ob_353 f975 f1274 f1275)
              have f1277 : i_token.toInt = (3 : Int) := (ob_251 f964)
              have f1278 : (1 : Int) ≤ r_974.toInt := (ob_355 f1275 f1276)
              refine lv_iconst (v := 0) hx hb dX9_unit_207 (by decide) ?_
              refine lv_istore (lv' := [(6, .int 0), (5, .int 0), (4, .int r_974), (3, .int r_969), (2, .int 1), (1, .int 1), (0, .ref (r 0))]) hx hb dX9_unit_208 hl (by decide) rfl (fun ls hl => ?_)
              refine lv_aload_n hx hb dX9_unit_210 rfl (lv_at hl 6 rfl) ?_
              have hFc := frA hD hS hA
              refine va_callv (va_runV (As := []) (rest := []) ⟨hx, hb, hml, hown, hG⟩ (kX9_goOn l dC dI r ct i_taped i_size i_faultKind i_at i_end i_token i_number i_bank i_rb i_codes i_within i_piled x1270 i_askHouse i_askTune i_acts i_undone i_laid i_knowns i_time f_text f_tunes f_houses f_hums f_told f_many f_ruleFrom f_ruleTo f_code f_eWhat f_eSign f_all f_kept f_was f_sTune f_boxAll J1268 L H1272.size hI) (cwV 0 hG (goodV gw1362 gw1364 gw59 gw138 gw1365) rfl rfl rfl hd_X9_goOn ⟨(Nat.le_of_ble_eq_true rfl), (Nat.le_of_ble_eq_true rfl)⟩) ⟨fbW, va_recv hK hP (ci := 8) (q0 := 0) rfl rfl, pW_in hP hK hD⟩ rfl rfl hl.1 rfl (lv_room (Nat.le_of_ble_eq_true rfl)) dX9_unit_211 ⟨(Nat.le_of_ble_eq_true rfl), (Nat.le_of_ble_eq_true rfl)⟩) hS (fun q _ h => hFc q h) hFc (fun _ t_ H1279 locs ht hvm hw hB hz1 hk1 hS => ?_)
              obtain ⟨x1281, x1282, x1283, x1284, L1285, hP1, hD1, hI1289, f1286, f1287, f1288⟩ := hB
              rw [ht] at hP1
              have hP := hP1
              have hD := dW hFc hD1
              obtain ⟨im1290, im1291, im1292, im1293, im1294, im1295, im1296, im1297, im1298, im1299, im1300, im1301, im1302, im1303, im1304, im1305, im1306, im1307, im1308, im1309, im1310, im1311, im1312, im1313, im1314, im1315, im1316, im1317, im1318, im1319, im1320, im1321, im1322⟩ := id hI1289
              refine lv_iload_n hx hb dX9_unit_214 rfl (lv_at hl 4 rfl) ?_
              refine lv_if_ne (tgt := 222) hx hb dX9_unit_215 (by decide) (fun c_1323 => ?_) (fun c_1323 => absurd c_1323 (by decide))
              refine lv_aload_n hx hb dX9_unit_222 rfl (lv_at hl 6 rfl) ?_
              refine lv_iload_n hx hb dX9_unit_223 rfl (lv_at hl 4 rfl) ?_
              refine lv_if_eq (tgt := 231) hx hb dX9_unit_224 (by decide) (fun c_1324 => absurd c_1324 (by decide)) (fun c_1324 => ?_)
              refine lv_iconst (v := 3) hx hb dX9_unit_227 (by decide) ?_
              refine lv_goto (tgt := 233) hx hb dX9_unit_228 (by decide) ?_
              refine lv_bipush (v := 126) hx hb dX9_unit_233 (by decide) ?_
              have hFc := frA hD hS hA
              refine va_callv (va_runV (As := [.int 3, .int 126]) (rest := []) ⟨hx, hb, hml, hown, hG⟩ (kX9_pushE l dC dI r ct i_taped i_size i_faultKind x1281 x1282 x1283 x1284 i_bank i_rb i_codes i_within i_piled x1270 i_askHouse i_askTune i_acts i_undone i_laid i_knowns i_time f_text f_tunes f_houses f_hums f_told f_many f_ruleFrom f_ruleTo f_code f_eWhat f_eSign f_all f_kept f_was f_sTune f_boxAll J1268 L1285 3 126 H1279.size hI1289 (ob_357 hp5 hp7 hp8) (ob_397 hp2 hp4 hp7)) (cwV 2 hG (goodV gw1468 gw1470 gw77 gw138 gw1471) rfl rfl rfl hd_X9_pushE ⟨(Nat.le_of_ble_eq_true rfl), (Nat.le_of_ble_eq_true rfl)⟩) ⟨fbW, va_recv hK hP (ci := 8) (q0 := 0) rfl rfl, pW_in hP hK hD⟩ rfl rfl hl.1 rfl (lv_room (Nat.le_of_ble_eq_true rfl)) dX9_unit_235 ⟨(Nat.le_of_ble_eq_true rfl), (Nat.le_of_ble_eq_true rfl)⟩) hS (fun q _ h => hFc q h) hFc (fun _ t_ H1325 locs ht hvm hw hB hz1 hk1 hS => ?_)
              obtain ⟨x1327, z1328, z1329, hP1, hD1, hI1333, f1330, f1331, f1332⟩ := hB
              rw [ht] at hP1
              have hP := hP1
              have hD := dW hFc hD1
              obtain ⟨im1334, im1335, im1336, im1337, im1338, im1339, im1340, im1341, im1342, im1343, im1344, im1345, im1346, im1347, im1348, im1349, im1350, im1351, im1352, im1353, im1354, im1355, im1356, im1357, im1358, im1359, im1360, im1361, im1362, im1363, im1364, im1365, im1366⟩ := id hI1333
              have f1367 : (z1328 ((0 : Int)).toNat).toInt = (f_eWhat ((0 : Int)).toNat).toInt := (by rw [f1331, upd_off (ne0 (ob_398 hp5))])
              refine lv_aload_n hx hb dX9_unit_238 rfl (lv_at hl 6 rfl) ?_
              refine lv_dup hx hb dX9_unit_239 rfl ?_
              refine gM_X9_299_0 hx hb hG hown hK hP dX9_unit_240 ?_
              refine lv_iconst (v := 1) hx hb dX9_unit_243 (by decide) ?_
              refine lv_iadd hx hb dX9_unit_244 ?_
              refine lv_topi (fun x1368 ex1368 => ?_)
              have f1369 : x1368.toInt = i_within.toInt + 1 := (ob_142 (qi_add ex1368 rfl zc_1 (ob_140 hp3) (ob_399 hp4)))
              refine pM_X9_299_0 hx hb hG hown hK hP hD hS dX9_unit_245 (fun H1370 locs hP hD hS => ?_)
              refine lv_iconst (v := 1) hx hb dX9_unit_248 (by decide) ?_
              rw [hQ]
              exact W.zret (v := 1) hx hb hr (by decide) (fun t ht hW => ⟨⟨1, 1, rfl, rfl, ⟨i_faultKind, x1281, x1282, x1283, x1284, i_codes, x1368, x1327, x1270, f_code, z1328, z1329, J1268, L1285, by rw [ht]; exact hP, hD, hI1333, (ob_14 zc_1), (ob_15 zc_1), (fun _ => SPpush hp11 f1331 f1332 (ob_398 hp5) (ob_142 f1330) (Or.inl (ob_409 zc_1 f1369 zc_126 zc_3))), (ob_199 hp5 f1330), (ob_401 hp2 hp4 hp7 f1330), (ob_145 f1286), (ob_410 ie17 hp2 hp3 hp4 hp5 hp6 hp7 hp8 hp9 f12 f963 f1252 f1288 f1330 f1367 zl_7237492 zc_1 f1369 f1271)⟩⟩, hS.F ht⟩) hS.2.2 dX9_unit_249
            · skip
              have f1371 : r_974.toInt = 0 := qi_eq c_1273 rfl zc_0
              have f1372 : r_974.toInt = (0 : Int) := (ob_25 f1371)
              refine lv_aload_n hx hb dX9_unit_200 rfl (lv_at hl 5 rfl) ?_
              refine gM_X9_209_0 hx hb hG hown hK hP dX9_unit_201 ?_
              refine lv_goto (tgt := 208) hx hb dX9_unit_204 (by decide) ?_
              refine lv_istore (lv' := [(6, .int i_number), (5, .int 0), (4, .int r_974), (3, .int r_969), (2, .int 1), (1, .int 1), (0, .ref (r 0))]) hx hb dX9_unit_208 hl (by decide) rfl (fun ls hl => ?_)
              refine lv_aload_n hx hb dX9_unit_210 rfl (lv_at hl 6 rfl) ?_
              have hFc := frA hD hS hA
              refine va_callv (va_runV (As := []) (rest := []) ⟨hx, hb, hml, hown, hG⟩ (kX9_goOn l dC dI r ct i_taped i_size i_faultKind i_at i_end i_token i_number i_bank i_rb i_codes i_within i_piled x1270 i_askHouse i_askTune i_acts i_undone i_laid i_knowns i_time f_text f_tunes f_houses f_hums f_told f_many f_ruleFrom f_ruleTo f_code f_eWhat f_eSign f_all f_kept f_was f_sTune f_boxAll J1268 L H1272.size hI) (cwV 0 hG (goodV gw1362 gw1364 gw59 gw138 gw1365) rfl rfl rfl hd_X9_goOn ⟨(Nat.le_of_ble_eq_true rfl), (Nat.le_of_ble_eq_true rfl)⟩) ⟨fbW, va_recv hK hP (ci := 8) (q0 := 0) rfl rfl, pW_in hP hK hD⟩ rfl rfl hl.1 rfl (lv_room (Nat.le_of_ble_eq_true rfl)) dX9_unit_211 ⟨(Nat.le_of_ble_eq_true rfl), (Nat.le_of_ble_eq_true rfl)⟩) hS (fun q _ h => hFc q h) hFc (fun _ t_ H1373 locs ht hvm hw hB hz1 hk1 hS => ?_)
              obtain ⟨x1375, x1376, x1377, x1378, L1379, hP1, hD1, hI1383, f1380, f1381, f1382⟩ := hB
              rw [ht] at hP1
              have hP := hP1
              have hD := dW hFc hD1
              obtain ⟨im1384, im1385, im1386, im1387, im1388, im1389, im1390, im1391, im1392, im1393, im1394, im1395, im1396, im1397, im1398, im1399, im1400, im1401, im1402, im1403, im1404, im1405, im1406, im1407, im1408, im1409, im1410, im1411, im1412, im1413, im1414, im1415, im1416⟩ := id hI1383
              refine lv_iload_n hx hb dX9_unit_214 rfl (lv_at hl 4 rfl) ?_
              refine lv_if_ne (tgt := 222) hx hb dX9_unit_215 (by decide) (fun c_1417 => ?_) (fun c_1417 => absurd c_1417 (by decide))
              refine lv_aload_n hx hb dX9_unit_222 rfl (lv_at hl 6 rfl) ?_
              refine lv_iload_n hx hb dX9_unit_223 rfl (lv_at hl 4 rfl) ?_
              refine lv_if_eq (tgt := 231) hx hb dX9_unit_224 (by decide) (fun c_1418 => absurd c_1418 (by decide)) (fun c_1418 => ?_)
              refine lv_iconst (v := 3) hx hb dX9_unit_227 (by decide) ?_
              refine lv_goto (tgt := 233) hx hb dX9_unit_228 (by decide) ?_
              refine lv_bipush (v := 126) hx hb dX9_unit_233 (by decide) ?_
              have hFc := frA hD hS hA
              refine va_callv (va_runV (As := [.int 3, .int 126]) (rest := []) ⟨hx, hb, hml, hown, hG⟩ (kX9_pushE l dC dI r ct i_taped i_size i_faultKind x1375 x1376 x1377 x1378 i_bank i_rb i_codes i_within i_piled x1270 i_askHouse i_askTune i_acts i_undone i_laid i_knowns i_time f_text f_tunes f_houses f_hums f_told f_many f_ruleFrom f_ruleTo f_code f_eWhat f_eSign f_all f_kept f_was f_sTune f_boxAll J1268 L1379 3 126 H1373.size hI1383 (ob_357 hp5 hp7 hp8) (ob_397 hp2 hp4 hp7)) (cwV 2 hG (goodV gw1468 gw1470 gw77 gw138 gw1471) rfl rfl rfl hd_X9_pushE ⟨(Nat.le_of_ble_eq_true rfl), (Nat.le_of_ble_eq_true rfl)⟩) ⟨fbW, va_recv hK hP (ci := 8) (q0 := 0) rfl rfl, pW_in hP hK hD⟩ rfl rfl hl.1 rfl (lv_room (Nat.le_of_ble_eq_true rfl)) dX9_unit_235 ⟨(Nat.le_of_ble_eq_true rfl), (Nat.le_of_ble_eq_true rfl)⟩) hS (fun q _ h => hFc q h) hFc (fun _ t_ H1419 locs ht hvm hw hB hz1 hk1 hS => ?_)
              obtain ⟨x1421, z1422, z1423, hP1, hD1, hI1427, f1424, f1425, f1426⟩ := hB
              rw [ht] at hP1
              have hP := hP1
              have hD := dW hFc hD1
              obtain ⟨im1428, im1429, im1430, im1431, im1432, im1433, im1434, im1435, im1436, im1437, im1438, im1439, im1440, im1441, im1442, im1443, im1444, im1445, im1446, im1447, im1448, im1449, im1450, im1451, im1452, im1453, im1454, im1455, im1456, im1457, im1458, im1459, im1460⟩ := id hI1427
              have f1461 : (z1422 ((0 : Int)).toNat).toInt = (f_eWhat ((0 : Int)).toNat).toInt := (by rw [f1425, upd_off (ne0 (ob_398 hp5))])
              refine lv_aload_n hx hb dX9_unit_238 rfl (lv_at hl 6 rfl) ?_
              refine lv_dup hx hb dX9_unit_239 rfl ?_
              refine gM_X9_299_0 hx hb hG hown hK hP dX9_unit_240 ?_
              refine lv_iconst (v := 1) hx hb dX9_unit_243 (by decide) ?_
              refine lv_iadd hx hb dX9_unit_244 ?_
              refine lv_topi (fun x1462 ex1462 => ?_)
              have f1463 : x1462.toInt = i_within.toInt + 1 := (ob_142 (qi_add ex1462 rfl zc_1 (ob_140 hp3) (ob_399 hp4)))
              refine pM_X9_299_0 hx hb hG hown hK hP hD hS dX9_unit_245 (fun H1464 locs hP hD hS => ?_)
              refine lv_iconst (v := 1) hx hb dX9_unit_248 (by decide) ?_
              rw [hQ]
              exact W.zret (v := 1) hx hb hr (by decide) (fun t ht hW => ⟨⟨1, 1, rfl, rfl, ⟨i_faultKind, x1375, x1376, x1377, x1378, i_codes, x1462, x1421, x1270, f_code, z1422, z1423, J1268, L1379, by rw [ht]; exact hP, hD, hI1427, (ob_14 zc_1), (ob_15 zc_1), (fun _ => SPpush hp11 f1425 f1426 (ob_398 hp5) (ob_142 f1424) (Or.inl (ob_409 zc_1 f1463 zc_126 zc_3))), (ob_199 hp5 f1424), (ob_401 hp2 hp4 hp7 f1424), (ob_145 f1380), (ob_410 ie17 hp2 hp3 hp4 hp5 hp6 hp7 hp8 hp9 f12 f963 f1252 f1382 f1424 f1461 zl_7237492 zc_1 f1463 f1271)⟩⟩, hS.F ht⟩) hS.2.2 dX9_unit_249
          · skip
            have f1465 : i_within.toInt = 7 := qi_eq c_1251 rfl zc_7
            refine lv_aload_n hx hb dX9_unit_143 rfl (lv_at hl 5 rfl) ?_
            have hFc := frA hD hS hA
            refine va_callv (va_runV (As := []) (rest := []) ⟨hx, hb, hml, hown, hG⟩ (kX9_misplaced l dC dI r ct i_taped i_size i_faultKind i_at i_end i_token i_number i_bank i_rb i_codes i_within i_piled i_unitsInRule i_askHouse i_askTune i_acts i_undone i_laid i_knowns i_time f_text f_tunes f_houses f_hums f_told f_many f_ruleFrom f_ruleTo f_code f_eWhat f_eSign f_all f_kept f_was f_sTune f_boxAll J L H973.size hI) (cwV 0 hG (goodV gw1420 gw1422 gw65 gw138 gw1423) rfl rfl rfl hd_X9_misplaced ⟨(Nat.le_of_ble_eq_true rfl), (Nat.le_of_ble_eq_true rfl)⟩) ⟨fbW, va_recv hK hP (ci := 8) (q0 := 0) rfl rfl, pW_in hP hK hD⟩ rfl rfl hl.1 rfl (lv_room (Nat.le_of_ble_eq_true rfl)) dX9_unit_144 ⟨(Nat.le_of_ble_eq_true rfl), (Nat.le_of_ble_eq_true rfl)⟩) hS (fun q _ h => hFc q h) hFc (fun _ t_ H1466 locs ht hvm hw hB hz1 hk1 hS => ?_)
            obtain ⟨x1468, J1469, hP1, hD1, hI1471, f1470⟩ := hB
            rw [ht] at hP1
            have hP := hP1
            have hD := dW hFc hD1
            obtain ⟨im1472, im1473, im1474, im1475, im1476, im1477, im1478, im1479, im1480, im1481, im1482, im1483, im1484, im1485, im1486, im1487, im1488, im1489, im1490, im1491, im1492, im1493, im1494, im1495, im1496, im1497, im1498, im1499, im1500, im1501, im1502, im1503, im1504⟩ := id hI1471
            refine lv_aload_n hx hb dX9_unit_147 rfl (lv_at hl 5 rfl) ?_
            refine va_calli (va_runV (As := []) (rest := []) ⟨hx, hb, hml, hown, hG⟩ (kX9_isGood l dC dI r ct i_taped i_size x1468 i_at i_end i_token i_number i_bank i_rb i_codes i_within i_piled i_unitsInRule i_askHouse i_askTune i_acts i_undone i_laid i_knowns i_time f_text f_tunes f_houses f_hums f_told f_many f_ruleFrom f_ruleTo f_code f_eWhat f_eSign f_all f_kept f_was f_sTune f_boxAll J1469 L H1466.size hI1471) (cwV 0 hG (goodV gw1401 gw1403 gw61 gw138 gw1404) rfl rfl rfl hd_X9_isGood ⟨(Nat.le_of_ble_eq_true rfl), (Nat.le_of_ble_eq_true rfl)⟩) ⟨fbR, va_recv hK hP (ci := 8) (q0 := 0) rfl rfl, pR_in hP hK⟩ rfl rfl hl.1 rfl (lv_room (Nat.le_of_ble_eq_true rfl)) dX9_unit_148 ⟨(Nat.le_of_ble_eq_true rfl), (Nat.le_of_ble_eq_true rfl)⟩) hS (fun q hq h => absurd hq (Nat.not_lt.mpr h)) (fun q h => hA q (Nat.le_trans hS.1 h)) (fun r_1506 u_ t_ H1505 locs ht hvm hw hB hz1 hk1 hS => ?_)
            subst hw
            have hP := wk hP hk1
            obtain ⟨f1507, f1508, f1509⟩ := hB
            refine lv_if_ne (tgt := 156) hx hb dX9_unit_151 (by decide) (fun c_1510 => ((ob_231 (qi_ne c_1510 rfl zc_0) f1470 f1507)).elim) (fun c_1510 => ?_)
            have f1511 : r_1506.toInt = 0 := qi_eq c_1510 rfl zc_0
            have f1512 : x1468.toInt ≠ (0 : Int) := (ob_232 im1489 f1470)
            have f1513 : (1 : Int) ≤ x1468.toInt := (ob_217 im1489 f1470)
            have f1514 : r_1506.toInt = (0 : Int) := (ob_226 f1508 f1509 f1511)
            refine lv_iconst (v := 1) hx hb dX9_unit_154 (by decide) ?_
            rw [hQ]
            exact W.zret (v := 1) hx hb hr (by decide) (fun t ht hW => ⟨⟨1, 1, rfl, rfl, ⟨x1468, i_at, i_end, i_token, i_number, i_codes, i_within, i_piled, i_unitsInRule, f_code, f_eWhat, f_eSign, J1469, L, by rw [ht]; exact hP, hD, hI1471, (ob_14 zc_1), (ob_15 zc_1), (fun h => ((ob_356 h im1489 f1470)).elim), (ob_357 hp5 hp7 hp8), (ob_358 hp2 hp4 hp7), (ob_146), (ob_359 f1470 zc_1)⟩⟩, hS.F ht⟩) hS.2.2 dX9_unit_155
        · skip
          have f1515 : i_unitsInRule.toInt = 30 := qi_eq c_1246 rfl zc_30
          refine lv_iconst (v := 1) hx hb dX9_unit_93 (by decide) ?_
          refine lv_goto (tgt := 98) hx hb dX9_unit_94 (by decide) ?_
          refine lv_istore (lv' := [(5, .int 1), (4, .int r_974), (3, .int r_969), (2, .int 1), (1, .int 1), (0, .ref (r 0))]) hx hb dX9_unit_98 hl (by decide) rfl (fun ls hl => ?_)
          refine lv_iload_n hx hb dX9_unit_100 rfl (lv_at hl 3 rfl) ?_
          refine lv_if_ne (tgt := 126) hx hb dX9_unit_101 (by decide) (fun c_1516 => ?_) (fun c_1516 => absurd c_1516 (by decide))
          refine lv_iload_n hx hb dX9_unit_126 rfl (lv_at hl 3 rfl) ?_
          refine lv_if_ne (tgt := 134) hx hb dX9_unit_127 (by decide) (fun c_1517 => ?_) (fun c_1517 => absurd c_1517 (by decide))
          refine lv_aload_n hx hb dX9_unit_134 rfl (lv_at hl 5 rfl) ?_
          refine gM_X9_299_0 hx hb hG hown hK hP dX9_unit_135 ?_
          refine lv_bipush (v := 7) hx hb dX9_unit_138 (by decide) ?_
          refine lv_icmp_ne (tgt := 147) hx hb dX9_unit_140 (by decide) (fun c_1518 => ?_) (fun c_1518 => ?_)
          · skip
            have f1519 : i_within.toInt ≠ 7 := qi_ne c_1518 rfl zc_7
            have f1520 : i_within.toInt ≤ (6 : Int) := (ob_396 hp4 f1519)
            refine lv_aload_n hx hb dX9_unit_147 rfl (lv_at hl 5 rfl) ?_
            refine va_calli (va_runV (As := []) (rest := []) ⟨hx, hb, hml, hown, hG⟩ (kX9_isGood l dC dI r ct i_taped i_size i_faultKind i_at i_end i_token i_number i_bank i_rb i_codes i_within i_piled i_unitsInRule i_askHouse i_askTune i_acts i_undone i_laid i_knowns i_time f_text f_tunes f_houses f_hums f_told f_many f_ruleFrom f_ruleTo f_code f_eWhat f_eSign f_all f_kept f_was f_sTune f_boxAll J L H973.size hI) (cwV 0 hG (goodV gw1401 gw1403 gw61 gw138 gw1404) rfl rfl rfl hd_X9_isGood ⟨(Nat.le_of_ble_eq_true rfl), (Nat.le_of_ble_eq_true rfl)⟩) ⟨fbR, va_recv hK hP (ci := 8) (q0 := 0) rfl rfl, pR_in hP hK⟩ rfl rfl hl.1 rfl (lv_room (Nat.le_of_ble_eq_true rfl)) dX9_unit_148 ⟨(Nat.le_of_ble_eq_true rfl), (Nat.le_of_ble_eq_true rfl)⟩) hS (fun q hq h => absurd hq (Nat.not_lt.mpr h)) (fun q h => hA q (Nat.le_trans hS.1 h)) (fun r_1522 u_ t_ H1521 locs ht hvm hw hB hz1 hk1 hS => ?_)
            subst hw
            have hP := wk hP hk1
            obtain ⟨f1523, f1524, f1525⟩ := hB
            refine lv_if_ne (tgt := 156) hx hb dX9_unit_151 (by decide) (fun c_1526 => ?_) (fun c_1526 => ((ob_228 (qi_eq c_1526 rfl zc_0) hp10 f1523)).elim)
            have f1527 : r_1522.toInt ≠ 0 := qi_ne c_1526 rfl zc_0
            have f1528 : i_faultKind.toInt = (0 : Int) := (ob_229 ie17 hp10)
            have f1529 : r_1522.toInt = (1 : Int) := (ob_220 f1523 f1527)
            have f1530 : (1 : Int) ≤ r_1522.toInt := (ob_162 f1524 f1525 f1529)
            refine lv_aload_n hx hb dX9_unit_156 rfl (lv_at hl 5 rfl) ?_
            refine gM_X9_30_0 hx hb hG hown hK hP dX9_unit_157 ?_
            refine lv_aload_n hx hb dX9_unit_160 rfl (lv_at hl 5 rfl) ?_
            refine gM_X9_240_0 hx hb hG hown hK hP dX9_unit_161 ?_
            refine lv_dup2_11 hx hb dX9_unit_164 rfl rfl ?_
            refine ldM_6 (mm := i_rb.toInt) hx hb hK hP rfl (ob_350 ie6) (ob_351 ie7) dX9_unit_165 (fun x1531 => ?_)
            refine lv_iload_n hx hb dX9_unit_166 rfl (lv_at hl 3 rfl) ?_
            refine lv_if_eq (tgt := 174) hx hb dX9_unit_167 (by decide) (fun c_1532 => absurd c_1532 (by decide)) (fun c_1532 => ?_)
            refine lv_iconst (v := 0) hx hb dX9_unit_170 (by decide) ?_
            refine lv_goto (tgt := 175) hx hb dX9_unit_171 (by decide) ?_
            refine lv_iadd hx hb dX9_unit_175 ?_
            refine lv_topi (fun x1533 ex1533 => ?_)
            refine stM_6 (mm := i_rb.toInt) hx hb hK hP hD hS rfl (ob_350 ie6) (ob_351 ie7) dX9_unit_176 (fun J1535 H1534 locs hP hD hS => ?_)
            refine lv_aload_n hx hb dX9_unit_177 rfl (lv_at hl 5 rfl) ?_
            refine lv_dup hx hb dX9_unit_178 rfl ?_
            refine gM_X9_290_0 hx hb hG hown hK hP dX9_unit_179 ?_
            refine lv_iload_n hx hb dX9_unit_182 rfl (lv_at hl 3 rfl) ?_
            refine lv_if_eq (tgt := 190) hx hb dX9_unit_183 (by decide) (fun c_1536 => absurd c_1536 (by decide)) (fun c_1536 => ?_)
            refine lv_iconst (v := 0) hx hb dX9_unit_186 (by decide) ?_
            refine lv_goto (tgt := 191) hx hb dX9_unit_187 (by decide) ?_
            refine lv_iadd hx hb dX9_unit_191 ?_
            refine lv_topi (fun x1537 ex1537 => ?_)
            have f1538 : x1537.toInt = i_unitsInRule.toInt := (ob_408 (qi_add ex1537 rfl zc_0 (ob_406 hp1) (ob_407 hp2)))
            refine pM_X9_290_0 hx hb hG hown hK hP hD hS dX9_unit_192 (fun H1539 locs hP hD hS => ?_)
            refine lv_iload hx hb dX9_unit_195 (lv_at hl 1 rfl) ?_
            refine lv_if_ne (tgt := 207) hx hb dX9_unit_197 (by decide) (fun c_1540 => ?_) (fun c_1540 => ?_)
            · skip
              have f1541 : r_974.toInt ≠ 0 := qi_ne c_1540 rfl zc_0
              have f1542 : (97 : Int) ≤ r_974.toInt := (ob_352 f975 f1541)
              have f1543 : r_974.toInt ≤ (122 : Int) := (ob_353 f975 f1541 f1542)
              have f1544 : i_token.toInt = (3 : Int) := (ob_251 f964)
              have f1545 : (1 : Int) ≤ r_974.toInt := (ob_355 f1542 f1543)
              refine lv_iconst (v := 0) hx hb dX9_unit_207 (by decide) ?_
              refine lv_istore (lv' := [(6, .int 0), (5, .int 1), (4, .int r_974), (3, .int r_969), (2, .int 1), (1, .int 1), (0, .ref (r 0))]) hx hb dX9_unit_208 hl (by decide) rfl (fun ls hl => ?_)
              refine lv_aload_n hx hb dX9_unit_210 rfl (lv_at hl 6 rfl) ?_
              have hFc := frA hD hS hA
              refine va_callv (va_runV (As := []) (rest := []) ⟨hx, hb, hml, hown, hG⟩ (kX9_goOn l dC dI r ct i_taped i_size i_faultKind i_at i_end i_token i_number i_bank i_rb i_codes i_within i_piled x1537 i_askHouse i_askTune i_acts i_undone i_laid i_knowns i_time f_text f_tunes f_houses f_hums f_told f_many f_ruleFrom f_ruleTo f_code f_eWhat f_eSign f_all f_kept f_was f_sTune f_boxAll J1535 L H1539.size hI) (cwV 0 hG (goodV gw1362 gw1364 gw59 gw138 gw1365) rfl rfl rfl hd_X9_goOn ⟨(Nat.le_of_ble_eq_true rfl), (Nat.le_of_ble_eq_true rfl)⟩) ⟨fbW, va_recv hK hP (ci := 8) (q0 := 0) rfl rfl, pW_in hP hK hD⟩ rfl rfl hl.1 rfl (lv_room (Nat.le_of_ble_eq_true rfl)) dX9_unit_211 ⟨(Nat.le_of_ble_eq_true rfl), (Nat.le_of_ble_eq_true rfl)⟩) hS (fun q _ h => hFc q h) hFc (fun _ t_ H1546 locs ht hvm hw hB hz1 hk1 hS => ?_)
              obtain ⟨x1548, x1549, x1550, x1551, L1552, hP1, hD1, hI1556, f1553, f1554, f1555⟩ := hB
              rw [ht] at hP1
              have hP := hP1
              have hD := dW hFc hD1
              obtain ⟨im1557, im1558, im1559, im1560, im1561, im1562, im1563, im1564, im1565, im1566, im1567, im1568, im1569, im1570, im1571, im1572, im1573, im1574, im1575, im1576, im1577, im1578, im1579, im1580, im1581, im1582, im1583, im1584, im1585, im1586, im1587, im1588, im1589⟩ := id hI1556
              refine lv_iload_n hx hb dX9_unit_214 rfl (lv_at hl 4 rfl) ?_
              refine lv_if_ne (tgt := 222) hx hb dX9_unit_215 (by decide) (fun c_1590 => ?_) (fun c_1590 => absurd c_1590 (by decide))
              refine lv_aload_n hx hb dX9_unit_222 rfl (lv_at hl 6 rfl) ?_
              refine lv_iload_n hx hb dX9_unit_223 rfl (lv_at hl 4 rfl) ?_
              refine lv_if_eq (tgt := 231) hx hb dX9_unit_224 (by decide) (fun c_1591 => absurd c_1591 (by decide)) (fun c_1591 => ?_)
              refine lv_iconst (v := 3) hx hb dX9_unit_227 (by decide) ?_
              refine lv_goto (tgt := 233) hx hb dX9_unit_228 (by decide) ?_
              refine lv_bipush (v := 126) hx hb dX9_unit_233 (by decide) ?_
              have hFc := frA hD hS hA
              refine va_callv (va_runV (As := [.int 3, .int 126]) (rest := []) ⟨hx, hb, hml, hown, hG⟩ (kX9_pushE l dC dI r ct i_taped i_size i_faultKind x1548 x1549 x1550 x1551 i_bank i_rb i_codes i_within i_piled x1537 i_askHouse i_askTune i_acts i_undone i_laid i_knowns i_time f_text f_tunes f_houses f_hums f_told f_many f_ruleFrom f_ruleTo f_code f_eWhat f_eSign f_all f_kept f_was f_sTune f_boxAll J1535 L1552 3 126 H1546.size hI1556 (ob_357 hp5 hp7 hp8) (ob_397 hp2 hp4 hp7)) (cwV 2 hG (goodV gw1468 gw1470 gw77 gw138 gw1471) rfl rfl rfl hd_X9_pushE ⟨(Nat.le_of_ble_eq_true rfl), (Nat.le_of_ble_eq_true rfl)⟩) ⟨fbW, va_recv hK hP (ci := 8) (q0 := 0) rfl rfl, pW_in hP hK hD⟩ rfl rfl hl.1 rfl (lv_room (Nat.le_of_ble_eq_true rfl)) dX9_unit_235 ⟨(Nat.le_of_ble_eq_true rfl), (Nat.le_of_ble_eq_true rfl)⟩) hS (fun q _ h => hFc q h) hFc (fun _ t_ H1592 locs ht hvm hw hB hz1 hk1 hS => ?_)
              obtain ⟨x1594, z1595, z1596, hP1, hD1, hI1600, f1597, f1598, f1599⟩ := hB
              rw [ht] at hP1
              have hP := hP1
              have hD := dW hFc hD1
              obtain ⟨im1601, im1602, im1603, im1604, im1605, im1606, im1607, im1608, im1609, im1610, im1611, im1612, im1613, im1614, im1615, im1616, im1617, im1618, im1619, im1620, im1621, im1622, im1623, im1624, im1625, im1626, im1627, im1628, im1629, im1630, im1631, im1632, im1633⟩ := id hI1600
              have f1634 : (z1595 ((0 : Int)).toNat).toInt = (f_eWhat ((0 : Int)).toNat).toInt := (by rw [f1598, upd_off (ne0 (ob_398 hp5))])
              refine lv_aload_n hx hb dX9_unit_238 rfl (lv_at hl 6 rfl) ?_
              refine lv_dup hx hb dX9_unit_239 rfl ?_
              refine gM_X9_299_0 hx hb hG hown hK hP dX9_unit_240 ?_
              refine lv_iconst (v := 1) hx hb dX9_unit_243 (by decide) ?_
              refine lv_iadd hx hb dX9_unit_244 ?_
              refine lv_topi (fun x1635 ex1635 => ?_)
              have f1636 : x1635.toInt = i_within.toInt + 1 := (ob_142 (qi_add ex1635 rfl zc_1 (ob_140 hp3) (ob_399 hp4)))
              refine pM_X9_299_0 hx hb hG hown hK hP hD hS dX9_unit_245 (fun H1637 locs hP hD hS => ?_)
              refine lv_iconst (v := 1) hx hb dX9_unit_248 (by decide) ?_
              rw [hQ]
              exact W.zret (v := 1) hx hb hr (by decide) (fun t ht hW => ⟨⟨1, 1, rfl, rfl, ⟨i_faultKind, x1548, x1549, x1550, x1551, i_codes, x1635, x1594, x1537, f_code, z1595, z1596, J1535, L1552, by rw [ht]; exact hP, hD, hI1600, (ob_14 zc_1), (ob_15 zc_1), (fun _ => SPpush hp11 f1598 f1599 (ob_398 hp5) (ob_142 f1597) (Or.inl (ob_409 zc_1 f1636 zc_126 zc_3))), (ob_199 hp5 f1597), (ob_401 hp2 hp4 hp7 f1597), (ob_145 f1553), (ob_410 ie17 hp2 hp3 hp4 hp5 hp6 hp7 hp8 hp9 f12 f963 f1519 f1555 f1597 f1634 zl_7237492 zc_1 f1636 f1538)⟩⟩, hS.F ht⟩) hS.2.2 dX9_unit_249
            · skip
              have f1638 : r_974.toInt = 0 := qi_eq c_1540 rfl zc_0
              have f1639 : r_974.toInt = (0 : Int) := (ob_25 f1638)
              refine lv_aload_n hx hb dX9_unit_200 rfl (lv_at hl 5 rfl) ?_
              refine gM_X9_209_0 hx hb hG hown hK hP dX9_unit_201 ?_
              refine lv_goto (tgt := 208) hx hb dX9_unit_204 (by decide) ?_
              refine lv_istore (lv' := [(6, .int i_number), (5, .int 1), (4, .int r_974), (3, .int r_969), (2, .int 1), (1, .int 1), (0, .ref (r 0))]) hx hb dX9_unit_208 hl (by decide) rfl (fun ls hl => ?_)
              refine lv_aload_n hx hb dX9_unit_210 rfl (lv_at hl 6 rfl) ?_
              have hFc := frA hD hS hA
              refine va_callv (va_runV (As := []) (rest := []) ⟨hx, hb, hml, hown, hG⟩ (kX9_goOn l dC dI r ct i_taped i_size i_faultKind i_at i_end i_token i_number i_bank i_rb i_codes i_within i_piled x1537 i_askHouse i_askTune i_acts i_undone i_laid i_knowns i_time f_text f_tunes f_houses f_hums f_told f_many f_ruleFrom f_ruleTo f_code f_eWhat f_eSign f_all f_kept f_was f_sTune f_boxAll J1535 L H1539.size hI) (cwV 0 hG (goodV gw1362 gw1364 gw59 gw138 gw1365) rfl rfl rfl hd_X9_goOn ⟨(Nat.le_of_ble_eq_true rfl), (Nat.le_of_ble_eq_true rfl)⟩) ⟨fbW, va_recv hK hP (ci := 8) (q0 := 0) rfl rfl, pW_in hP hK hD⟩ rfl rfl hl.1 rfl (lv_room (Nat.le_of_ble_eq_true rfl)) dX9_unit_211 ⟨(Nat.le_of_ble_eq_true rfl), (Nat.le_of_ble_eq_true rfl)⟩) hS (fun q _ h => hFc q h) hFc (fun _ t_ H1640 locs ht hvm hw hB hz1 hk1 hS => ?_)
              obtain ⟨x1642, x1643, x1644, x1645, L1646, hP1, hD1, hI1650, f1647, f1648, f1649⟩ := hB
              rw [ht] at hP1
              have hP := hP1
              have hD := dW hFc hD1
              obtain ⟨im1651, im1652, im1653, im1654, im1655, im1656, im1657, im1658, im1659, im1660, im1661, im1662, im1663, im1664, im1665, im1666, im1667, im1668, im1669, im1670, im1671, im1672, im1673, im1674, im1675, im1676, im1677, im1678, im1679, im1680, im1681, im1682, im1683⟩ := id hI1650
              refine lv_iload_n hx hb dX9_unit_214 rfl (lv_at hl 4 rfl) ?_
              refine lv_if_ne (tgt := 222) hx hb dX9_unit_215 (by decide) (fun c_1684 => ?_) (fun c_1684 => absurd c_1684 (by decide))
              refine lv_aload_n hx hb dX9_unit_222 rfl (lv_at hl 6 rfl) ?_
              refine lv_iload_n hx hb dX9_unit_223 rfl (lv_at hl 4 rfl) ?_
              refine lv_if_eq (tgt := 231) hx hb dX9_unit_224 (by decide) (fun c_1685 => absurd c_1685 (by decide)) (fun c_1685 => ?_)
              refine lv_iconst (v := 3) hx hb dX9_unit_227 (by decide) ?_
              refine lv_goto (tgt := 233) hx hb dX9_unit_228 (by decide) ?_
              refine lv_bipush (v := 126) hx hb dX9_unit_233 (by decide) ?_
              have hFc := frA hD hS hA
              refine va_callv (va_runV (As := [.int 3, .int 126]) (rest := []) ⟨hx, hb, hml, hown, hG⟩ (kX9_pushE l dC dI r ct i_taped i_size i_faultKind x1642 x1643 x1644 x1645 i_bank i_rb i_codes i_within i_piled x1537 i_askHouse i_askTune i_acts i_undone i_laid i_knowns i_time f_text f_tunes f_houses f_hums f_told f_many f_ruleFrom f_ruleTo f_code f_eWhat f_eSign f_all f_kept f_was f_sTune f_boxAll J1535 L1646 3 126 H1640.size hI1650 (ob_357 hp5 hp7 hp8) (ob_397 hp2 hp4 hp7)) (cwV 2 hG (goodV gw1468 gw1470 gw77 gw138 gw1471) rfl rfl rfl hd_X9_pushE ⟨(Nat.le_of_ble_eq_true rfl), (Nat.le_of_ble_eq_true rfl)⟩) ⟨fbW, va_recv hK hP (ci := 8) (q0 := 0) rfl rfl, pW_in hP hK hD⟩ rfl rfl hl.1 rfl (lv_room (Nat.le_of_ble_eq_true rfl)) dX9_unit_235 ⟨(Nat.le_of_ble_eq_true rfl), (Nat.le_of_ble_eq_true rfl)⟩) hS (fun q _ h => hFc q h) hFc (fun _ t_ H1686 locs ht hvm hw hB hz1 hk1 hS => ?_)
              obtain ⟨x1688, z1689, z1690, hP1, hD1, hI1694, f1691, f1692, f1693⟩ := hB
              rw [ht] at hP1
              have hP := hP1
              have hD := dW hFc hD1
              obtain ⟨im1695, im1696, im1697, im1698, im1699, im1700, im1701, im1702, im1703, im1704, im1705, im1706, im1707, im1708, im1709, im1710, im1711, im1712, im1713, im1714, im1715, im1716, im1717, im1718, im1719, im1720, im1721, im1722, im1723, im1724, im1725, im1726, im1727⟩ := id hI1694
              have f1728 : (z1689 ((0 : Int)).toNat).toInt = (f_eWhat ((0 : Int)).toNat).toInt := (by rw [f1692, upd_off (ne0 (ob_398 hp5))])
              refine lv_aload_n hx hb dX9_unit_238 rfl (lv_at hl 6 rfl) ?_
              refine lv_dup hx hb dX9_unit_239 rfl ?_
              refine gM_X9_299_0 hx hb hG hown hK hP dX9_unit_240 ?_
              refine lv_iconst (v := 1) hx hb dX9_unit_243 (by decide) ?_
              refine lv_iadd hx hb dX9_unit_244 ?_
              refine lv_topi (fun x1729 ex1729 => ?_)
              have f1730 : x1729.toInt = i_within.toInt + 1 := (ob_142 (qi_add ex1729 rfl zc_1 (ob_140 hp3) (ob_399 hp4)))
              refine pM_X9_299_0 hx hb hG hown hK hP hD hS dX9_unit_245 (fun H1731 locs hP hD hS => ?_)
              refine lv_iconst (v := 1) hx hb dX9_unit_248 (by decide) ?_
              rw [hQ]
              exact W.zret (v := 1) hx hb hr (by decide) (fun t ht hW => ⟨⟨1, 1, rfl, rfl, ⟨i_faultKind, x1642, x1643, x1644, x1645, i_codes, x1729, x1688, x1537, f_code, z1689, z1690, J1535, L1646, by rw [ht]; exact hP, hD, hI1694, (ob_14 zc_1), (ob_15 zc_1), (fun _ => SPpush hp11 f1692 f1693 (ob_398 hp5) (ob_142 f1691) (Or.inl (ob_409 zc_1 f1730 zc_126 zc_3))), (ob_199 hp5 f1691), (ob_401 hp2 hp4 hp7 f1691), (ob_145 f1647), (ob_410 ie17 hp2 hp3 hp4 hp5 hp6 hp7 hp8 hp9 f12 f963 f1519 f1649 f1691 f1728 zl_7237492 zc_1 f1730 f1538)⟩⟩, hS.F ht⟩) hS.2.2 dX9_unit_249
          · skip
            have f1732 : i_within.toInt = 7 := qi_eq c_1518 rfl zc_7
            refine lv_aload_n hx hb dX9_unit_143 rfl (lv_at hl 5 rfl) ?_
            have hFc := frA hD hS hA
            refine va_callv (va_runV (As := []) (rest := []) ⟨hx, hb, hml, hown, hG⟩ (kX9_misplaced l dC dI r ct i_taped i_size i_faultKind i_at i_end i_token i_number i_bank i_rb i_codes i_within i_piled i_unitsInRule i_askHouse i_askTune i_acts i_undone i_laid i_knowns i_time f_text f_tunes f_houses f_hums f_told f_many f_ruleFrom f_ruleTo f_code f_eWhat f_eSign f_all f_kept f_was f_sTune f_boxAll J L H973.size hI) (cwV 0 hG (goodV gw1420 gw1422 gw65 gw138 gw1423) rfl rfl rfl hd_X9_misplaced ⟨(Nat.le_of_ble_eq_true rfl), (Nat.le_of_ble_eq_true rfl)⟩) ⟨fbW, va_recv hK hP (ci := 8) (q0 := 0) rfl rfl, pW_in hP hK hD⟩ rfl rfl hl.1 rfl (lv_room (Nat.le_of_ble_eq_true rfl)) dX9_unit_144 ⟨(Nat.le_of_ble_eq_true rfl), (Nat.le_of_ble_eq_true rfl)⟩) hS (fun q _ h => hFc q h) hFc (fun _ t_ H1733 locs ht hvm hw hB hz1 hk1 hS => ?_)
            obtain ⟨x1735, J1736, hP1, hD1, hI1738, f1737⟩ := hB
            rw [ht] at hP1
            have hP := hP1
            have hD := dW hFc hD1
            obtain ⟨im1739, im1740, im1741, im1742, im1743, im1744, im1745, im1746, im1747, im1748, im1749, im1750, im1751, im1752, im1753, im1754, im1755, im1756, im1757, im1758, im1759, im1760, im1761, im1762, im1763, im1764, im1765, im1766, im1767, im1768, im1769, im1770, im1771⟩ := id hI1738
            refine lv_aload_n hx hb dX9_unit_147 rfl (lv_at hl 5 rfl) ?_
            refine va_calli (va_runV (As := []) (rest := []) ⟨hx, hb, hml, hown, hG⟩ (kX9_isGood l dC dI r ct i_taped i_size x1735 i_at i_end i_token i_number i_bank i_rb i_codes i_within i_piled i_unitsInRule i_askHouse i_askTune i_acts i_undone i_laid i_knowns i_time f_text f_tunes f_houses f_hums f_told f_many f_ruleFrom f_ruleTo f_code f_eWhat f_eSign f_all f_kept f_was f_sTune f_boxAll J1736 L H1733.size hI1738) (cwV 0 hG (goodV gw1401 gw1403 gw61 gw138 gw1404) rfl rfl rfl hd_X9_isGood ⟨(Nat.le_of_ble_eq_true rfl), (Nat.le_of_ble_eq_true rfl)⟩) ⟨fbR, va_recv hK hP (ci := 8) (q0 := 0) rfl rfl, pR_in hP hK⟩ rfl rfl hl.1 rfl (lv_room (Nat.le_of_ble_eq_true rfl)) dX9_unit_148 ⟨(Nat.le_of_ble_eq_true rfl), (Nat.le_of_ble_eq_true rfl)⟩) hS (fun q hq h => absurd hq (Nat.not_lt.mpr h)) (fun q h => hA q (Nat.le_trans hS.1 h)) (fun r_1773 u_ t_ H1772 locs ht hvm hw hB hz1 hk1 hS => ?_)
            subst hw
            have hP := wk hP hk1
            obtain ⟨f1774, f1775, f1776⟩ := hB
            refine lv_if_ne (tgt := 156) hx hb dX9_unit_151 (by decide) (fun c_1777 => ((ob_231 (qi_ne c_1777 rfl zc_0) f1737 f1774)).elim) (fun c_1777 => ?_)
            have f1778 : r_1773.toInt = 0 := qi_eq c_1777 rfl zc_0
            have f1779 : x1735.toInt ≠ (0 : Int) := (ob_232 im1756 f1737)
            have f1780 : (1 : Int) ≤ x1735.toInt := (ob_217 im1756 f1737)
            have f1781 : r_1773.toInt = (0 : Int) := (ob_226 f1775 f1776 f1778)
            refine lv_iconst (v := 1) hx hb dX9_unit_154 (by decide) ?_
            rw [hQ]
            exact W.zret (v := 1) hx hb hr (by decide) (fun t ht hW => ⟨⟨1, 1, rfl, rfl, ⟨x1735, i_at, i_end, i_token, i_number, i_codes, i_within, i_piled, i_unitsInRule, f_code, f_eWhat, f_eSign, J1736, L, by rw [ht]; exact hP, hD, hI1738, (ob_14 zc_1), (ob_15 zc_1), (fun h => ((ob_356 h im1756 f1737)).elim), (ob_357 hp5 hp7 hp8), (ob_358 hp2 hp4 hp7), (ob_146), (ob_359 f1737 zc_1)⟩⟩, hS.F ht⟩) hS.2.2 dX9_unit_155
  · skip
    have f1782 : 3 < (f_eWhat (i_piled.toInt + (-1)).toNat).toInt := qi_nle c_6 rfl zc_3
    refine lv_aload_n hx hb dX9_unit_15 rfl (lv_at hl 0 rfl) ?_
    refine gM_X9_79_0 hx hb hG hown hK hP dX9_unit_16 ?_
    refine lv_aload_n hx hb dX9_unit_19 rfl (lv_at hl 0 rfl) ?_
    refine gM_X9_296_0 hx hb hG hown hK hP dX9_unit_20 ?_
    refine lv_iconst (v := 1) hx hb dX9_unit_23 (by decide) ?_
    refine lv_isub hx hb dX9_unit_24 ?_
    refine lv_topi (fun x1783 ex1783 => ?_)
    have f1784 : x1783.toInt = i_piled.toInt + (-1) := (ob_346 (qi_sub ex1783 rfl zc_1 (ob_344 hp5 hp7 hp8) (ob_345 hp2 hp4 hp7)))
    refine ldM_22 (mm := i_piled.toInt + (-1)) hx hb hK hP f1784 (ob_347 hp5 hp7 hp8) (ob_348 hp2 hp4 hp7) dX9_unit_25 ?_
    refine lv_bipush (v := 7) hx hb dX9_unit_26 (by decide) ?_
    refine lv_icmp_lt (tgt := 35) hx hb dX9_unit_28 (by decide) (fun c_1785 => ?_) (fun c_1785 => ?_)
    · skip
      have f1786 : (f_eWhat (i_piled.toInt + (-1)).toNat).toInt < 7 := qi_lt c_1785 rfl zc_7
      have f1787 : i_piled.toInt ≠ (1 : Int) := (ob_411 hp9 f5 f1786)
      refine lv_iconst (v := 0) hx hb dX9_unit_35 (by decide) ?_
      refine lv_istore_n (lv' := [(1, .int 0), (0, .ref (r 0))]) hx hb dX9_unit_36 rfl hl (by decide) rfl (fun ls hl => ?_)
      refine lv_iload_n hx hb dX9_unit_37 rfl (lv_at hl 0 rfl) ?_
      refine lv_if_eq (tgt := 55) hx hb dX9_unit_38 (by decide) (fun c_1788 => ?_) (fun c_1788 => absurd (by decide) c_1788)
      refine lv_iconst (v := 0) hx hb dX9_unit_55 (by decide) ?_
      refine lv_istore_n (lv' := [(2, .int 0), (1, .int 0), (0, .ref (r 0))]) hx hb dX9_unit_56 rfl hl (by decide) rfl (fun ls hl => ?_)
      refine lv_aload_n hx hb dX9_unit_57 rfl (lv_at hl 2 rfl) ?_
      refine lv_bipush (v := 40) hx hb dX9_unit_58 (by decide) ?_
      refine va_calli (va_runV (As := [.int 40]) (rest := []) ⟨hx, hb, hml, hown, hG⟩ (kX9_isSignHere l dC dI r ct i_taped i_size i_faultKind i_at i_end i_token i_number i_bank i_rb i_codes i_within i_piled i_unitsInRule i_askHouse i_askTune i_acts i_undone i_laid i_knowns i_time f_text f_tunes f_houses f_hums f_told f_many f_ruleFrom f_ruleTo f_code f_eWhat f_eSign f_all f_kept f_was f_sTune f_boxAll J L 40 s.heap.size hI) (cwV 1 hG (goodV gw1476 gw1478 gw79 gw138 gw1479) rfl rfl rfl hd_X9_isSignHere ⟨(Nat.le_of_ble_eq_true rfl), (Nat.le_of_ble_eq_true rfl)⟩) ⟨fbR, va_recv hK hP (ci := 8) (q0 := 0) rfl rfl, pR_in hP hK⟩ rfl rfl hl.1 rfl (lv_room (Nat.le_of_ble_eq_true rfl)) dX9_unit_60 ⟨(Nat.le_of_ble_eq_true rfl), (Nat.le_of_ble_eq_true rfl)⟩) hS (fun q hq h => absurd hq (Nat.not_lt.mpr h)) (fun q h => hA q (Nat.le_trans hS.1 h)) (fun r_1790 u_ t_ H1789 locs ht hvm hw hB hz1 hk1 hS => ?_)
      subst hw
      have hP := wk hP hk1
      obtain ⟨f1791, f1792, f1793⟩ := hB
      refine lv_istore_n (lv' := [(3, .int r_1790), (2, .int 0), (1, .int 0), (0, .ref (r 0))]) hx hb dX9_unit_63 rfl hl (by decide) rfl (fun ls hl => ?_)
      refine lv_aload_n hx hb dX9_unit_64 rfl (lv_at hl 3 rfl) ?_
      refine va_calli (va_runV (As := []) (rest := []) ⟨hx, hb, hml, hown, hG⟩ (kX9_wordHere l dC dI r ct i_taped i_size i_faultKind i_at i_end i_token i_number i_bank i_rb i_codes i_within i_piled i_unitsInRule i_askHouse i_askTune i_acts i_undone i_laid i_knowns i_time f_text f_tunes f_houses f_hums f_told f_many f_ruleFrom f_ruleTo f_code f_eWhat f_eSign f_all f_kept f_was f_sTune f_boxAll J L H1789.size hI) (cwV 0 hG (goodV gw1480 gw1482 gw80 gw138 gw1483) rfl rfl rfl hd_X9_wordHere ⟨(Nat.le_of_ble_eq_true rfl), (Nat.le_of_ble_eq_true rfl)⟩) ⟨fbR, va_recv hK hP (ci := 8) (q0 := 0) rfl rfl, pR_in hP hK⟩ rfl rfl hl.1 rfl (lv_room (Nat.le_of_ble_eq_true rfl)) dX9_unit_65 ⟨(Nat.le_of_ble_eq_true rfl), (Nat.le_of_ble_eq_true rfl)⟩) hS (fun q hq h => absurd hq (Nat.not_lt.mpr h)) (fun q h => hA q (Nat.le_trans hS.1 h)) (fun r_1795 u_ t_ H1794 locs ht hvm hw hB hz1 hk1 hS => ?_)
      subst hw
      have hP := wk hP hk1
      have f1796 := hB
      refine lv_istore (lv' := [(4, .int r_1795), (3, .int r_1790), (2, .int 0), (1, .int 0), (0, .ref (r 0))]) hx hb dX9_unit_68 hl (by decide) rfl (fun ls hl => ?_)
      refine lv_aload_n hx hb dX9_unit_70 rfl (lv_at hl 4 rfl) ?_
      refine gM_X9_30_0 hx hb hG hown hK hP dX9_unit_71 ?_
      refine lv_aload_n hx hb dX9_unit_74 rfl (lv_at hl 4 rfl) ?_
      refine gM_X9_240_0 hx hb hG hown hK hP dX9_unit_75 ?_
      refine ldM_6 (mm := i_rb.toInt) hx hb hK hP rfl (ob_350 ie6) (ob_351 ie7) dX9_unit_78 (fun x1797 => ?_)
      refine lv_bipush (v := 60) hx hb dX9_unit_79 (by decide) ?_
      refine lv_icmp_eq (tgt := 93) hx hb dX9_unit_81 (by decide) (fun c_1798 => ?_) (fun c_1798 => ?_)
      · skip
        have f1799 : x1797.toInt = 60 := qi_eq c_1798 rfl zc_60
        refine lv_iconst (v := 1) hx hb dX9_unit_93 (by decide) ?_
        refine lv_goto (tgt := 98) hx hb dX9_unit_94 (by decide) ?_
        refine lv_istore (lv' := [(5, .int 1), (4, .int r_1795), (3, .int r_1790), (2, .int 0), (1, .int 0), (0, .ref (r 0))]) hx hb dX9_unit_98 hl (by decide) rfl (fun ls hl => ?_)
        refine lv_iload_n hx hb dX9_unit_100 rfl (lv_at hl 3 rfl) ?_
        refine lv_if_ne (tgt := 126) hx hb dX9_unit_101 (by decide) (fun c_1800 => absurd (by decide) c_1800) (fun c_1800 => ?_)
        refine lv_iload hx hb dX9_unit_104 (lv_at hl 1 rfl) ?_
        refine lv_if_ne (tgt := 121) hx hb dX9_unit_106 (by decide) (fun c_1801 => ?_) (fun c_1801 => ?_)
        · skip
          have f1802 : r_1795.toInt ≠ 0 := qi_ne c_1801 rfl zc_0
          have f1803 : (97 : Int) ≤ r_1795.toInt := (ob_352 f1796 f1802)
          have f1804 : r_1795.toInt ≤ (122 : Int) := (ob_353 f1796 f1802 f1803)
          have f1805 : i_token.toInt = (3 : Int) := (ob_354 f1796 f1802)
          have f1806 : (1 : Int) ≤ r_1795.toInt := (ob_355 f1803 f1804)
          refine lv_iload hx hb dX9_unit_121 (lv_at hl 0 rfl) ?_
          refine lv_if_ne (tgt := 143) hx hb dX9_unit_123 (by decide) (fun c_1807 => ?_) (fun c_1807 => absurd c_1807 (by decide))
          refine lv_aload_n hx hb dX9_unit_143 rfl (lv_at hl 5 rfl) ?_
          have hFc := frA hD hS hA
          refine va_callv (va_runV (As := []) (rest := []) ⟨hx, hb, hml, hown, hG⟩ (kX9_misplaced l dC dI r ct i_taped i_size i_faultKind i_at i_end i_token i_number i_bank i_rb i_codes i_within i_piled i_unitsInRule i_askHouse i_askTune i_acts i_undone i_laid i_knowns i_time f_text f_tunes f_houses f_hums f_told f_many f_ruleFrom f_ruleTo f_code f_eWhat f_eSign f_all f_kept f_was f_sTune f_boxAll J L H1794.size hI) (cwV 0 hG (goodV gw1420 gw1422 gw65 gw138 gw1423) rfl rfl rfl hd_X9_misplaced ⟨(Nat.le_of_ble_eq_true rfl), (Nat.le_of_ble_eq_true rfl)⟩) ⟨fbW, va_recv hK hP (ci := 8) (q0 := 0) rfl rfl, pW_in hP hK hD⟩ rfl rfl hl.1 rfl (lv_room (Nat.le_of_ble_eq_true rfl)) dX9_unit_144 ⟨(Nat.le_of_ble_eq_true rfl), (Nat.le_of_ble_eq_true rfl)⟩) hS (fun q _ h => hFc q h) hFc (fun _ t_ H1808 locs ht hvm hw hB hz1 hk1 hS => ?_)
          obtain ⟨x1810, J1811, hP1, hD1, hI1813, f1812⟩ := hB
          rw [ht] at hP1
          have hP := hP1
          have hD := dW hFc hD1
          obtain ⟨im1814, im1815, im1816, im1817, im1818, im1819, im1820, im1821, im1822, im1823, im1824, im1825, im1826, im1827, im1828, im1829, im1830, im1831, im1832, im1833, im1834, im1835, im1836, im1837, im1838, im1839, im1840, im1841, im1842, im1843, im1844, im1845, im1846⟩ := id hI1813
          refine lv_aload_n hx hb dX9_unit_147 rfl (lv_at hl 5 rfl) ?_
          refine va_calli (va_runV (As := []) (rest := []) ⟨hx, hb, hml, hown, hG⟩ (kX9_isGood l dC dI r ct i_taped i_size x1810 i_at i_end i_token i_number i_bank i_rb i_codes i_within i_piled i_unitsInRule i_askHouse i_askTune i_acts i_undone i_laid i_knowns i_time f_text f_tunes f_houses f_hums f_told f_many f_ruleFrom f_ruleTo f_code f_eWhat f_eSign f_all f_kept f_was f_sTune f_boxAll J1811 L H1808.size hI1813) (cwV 0 hG (goodV gw1401 gw1403 gw61 gw138 gw1404) rfl rfl rfl hd_X9_isGood ⟨(Nat.le_of_ble_eq_true rfl), (Nat.le_of_ble_eq_true rfl)⟩) ⟨fbR, va_recv hK hP (ci := 8) (q0 := 0) rfl rfl, pR_in hP hK⟩ rfl rfl hl.1 rfl (lv_room (Nat.le_of_ble_eq_true rfl)) dX9_unit_148 ⟨(Nat.le_of_ble_eq_true rfl), (Nat.le_of_ble_eq_true rfl)⟩) hS (fun q hq h => absurd hq (Nat.not_lt.mpr h)) (fun q h => hA q (Nat.le_trans hS.1 h)) (fun r_1848 u_ t_ H1847 locs ht hvm hw hB hz1 hk1 hS => ?_)
          subst hw
          have hP := wk hP hk1
          obtain ⟨f1849, f1850, f1851⟩ := hB
          refine lv_if_ne (tgt := 156) hx hb dX9_unit_151 (by decide) (fun c_1852 => ((ob_231 (qi_ne c_1852 rfl zc_0) f1812 f1849)).elim) (fun c_1852 => ?_)
          have f1853 : r_1848.toInt = 0 := qi_eq c_1852 rfl zc_0
          have f1854 : x1810.toInt ≠ (0 : Int) := (ob_232 im1831 f1812)
          have f1855 : (1 : Int) ≤ x1810.toInt := (ob_217 im1831 f1812)
          have f1856 : r_1848.toInt = (0 : Int) := (ob_226 f1850 f1851 f1853)
          refine lv_iconst (v := 1) hx hb dX9_unit_154 (by decide) ?_
          rw [hQ]
          exact W.zret (v := 1) hx hb hr (by decide) (fun t ht hW => ⟨⟨1, 1, rfl, rfl, ⟨x1810, i_at, i_end, i_token, i_number, i_codes, i_within, i_piled, i_unitsInRule, f_code, f_eWhat, f_eSign, J1811, L, by rw [ht]; exact hP, hD, hI1813, (ob_14 zc_1), (ob_15 zc_1), (fun h => ((ob_356 h im1831 f1812)).elim), (ob_357 hp5 hp7 hp8), (ob_358 hp2 hp4 hp7), (ob_146), (ob_359 f1812 zc_1)⟩⟩, hS.F ht⟩) hS.2.2 dX9_unit_155
        · skip
          have f1857 : r_1795.toInt = 0 := qi_eq c_1801 rfl zc_0
          have f1858 : r_1795.toInt = (0 : Int) := (ob_25 f1857)
          refine lv_aload_n hx hb dX9_unit_109 rfl (lv_at hl 5 rfl) ?_
          refine gM_X9_191_0 hx hb hG hown hK hP dX9_unit_110 ?_
          refine lv_iconst (v := 4) hx hb dX9_unit_113 (by decide) ?_
          refine lv_icmp_eq (tgt := 121) hx hb dX9_unit_114 (by decide) (fun c_1859 => ?_) (fun c_1859 => ?_)
          · skip
            have f1860 : i_token.toInt = 4 := qi_eq c_1859 rfl zc_4
            have f1861 : i_token.toInt ≠ (5 : Int) := (ob_361 f1860)
            have f1862 : r_1790.toInt = (0 : Int) := (ob_362 f1791 f1860 zc_40)
            have f1863 : i_token.toInt ≤ (4 : Int) := (ob_412 f1860)
            refine lv_iload hx hb dX9_unit_121 (lv_at hl 0 rfl) ?_
            refine lv_if_ne (tgt := 143) hx hb dX9_unit_123 (by decide) (fun c_1864 => ?_) (fun c_1864 => absurd c_1864 (by decide))
            refine lv_aload_n hx hb dX9_unit_143 rfl (lv_at hl 5 rfl) ?_
            have hFc := frA hD hS hA
            refine va_callv (va_runV (As := []) (rest := []) ⟨hx, hb, hml, hown, hG⟩ (kX9_misplaced l dC dI r ct i_taped i_size i_faultKind i_at i_end i_token i_number i_bank i_rb i_codes i_within i_piled i_unitsInRule i_askHouse i_askTune i_acts i_undone i_laid i_knowns i_time f_text f_tunes f_houses f_hums f_told f_many f_ruleFrom f_ruleTo f_code f_eWhat f_eSign f_all f_kept f_was f_sTune f_boxAll J L H1794.size hI) (cwV 0 hG (goodV gw1420 gw1422 gw65 gw138 gw1423) rfl rfl rfl hd_X9_misplaced ⟨(Nat.le_of_ble_eq_true rfl), (Nat.le_of_ble_eq_true rfl)⟩) ⟨fbW, va_recv hK hP (ci := 8) (q0 := 0) rfl rfl, pW_in hP hK hD⟩ rfl rfl hl.1 rfl (lv_room (Nat.le_of_ble_eq_true rfl)) dX9_unit_144 ⟨(Nat.le_of_ble_eq_true rfl), (Nat.le_of_ble_eq_true rfl)⟩) hS (fun q _ h => hFc q h) hFc (fun _ t_ H1865 locs ht hvm hw hB hz1 hk1 hS => ?_)
            obtain ⟨x1867, J1868, hP1, hD1, hI1870, f1869⟩ := hB
            rw [ht] at hP1
            have hP := hP1
            have hD := dW hFc hD1
            obtain ⟨im1871, im1872, im1873, im1874, im1875, im1876, im1877, im1878, im1879, im1880, im1881, im1882, im1883, im1884, im1885, im1886, im1887, im1888, im1889, im1890, im1891, im1892, im1893, im1894, im1895, im1896, im1897, im1898, im1899, im1900, im1901, im1902, im1903⟩ := id hI1870
            refine lv_aload_n hx hb dX9_unit_147 rfl (lv_at hl 5 rfl) ?_
            refine va_calli (va_runV (As := []) (rest := []) ⟨hx, hb, hml, hown, hG⟩ (kX9_isGood l dC dI r ct i_taped i_size x1867 i_at i_end i_token i_number i_bank i_rb i_codes i_within i_piled i_unitsInRule i_askHouse i_askTune i_acts i_undone i_laid i_knowns i_time f_text f_tunes f_houses f_hums f_told f_many f_ruleFrom f_ruleTo f_code f_eWhat f_eSign f_all f_kept f_was f_sTune f_boxAll J1868 L H1865.size hI1870) (cwV 0 hG (goodV gw1401 gw1403 gw61 gw138 gw1404) rfl rfl rfl hd_X9_isGood ⟨(Nat.le_of_ble_eq_true rfl), (Nat.le_of_ble_eq_true rfl)⟩) ⟨fbR, va_recv hK hP (ci := 8) (q0 := 0) rfl rfl, pR_in hP hK⟩ rfl rfl hl.1 rfl (lv_room (Nat.le_of_ble_eq_true rfl)) dX9_unit_148 ⟨(Nat.le_of_ble_eq_true rfl), (Nat.le_of_ble_eq_true rfl)⟩) hS (fun q hq h => absurd hq (Nat.not_lt.mpr h)) (fun q h => hA q (Nat.le_trans hS.1 h)) (fun r_1905 u_ t_ H1904 locs ht hvm hw hB hz1 hk1 hS => ?_)
            subst hw
            have hP := wk hP hk1
            obtain ⟨f1906, f1907, f1908⟩ := hB
            refine lv_if_ne (tgt := 156) hx hb dX9_unit_151 (by decide) (fun c_1909 => ((ob_231 (qi_ne c_1909 rfl zc_0) f1869 f1906)).elim) (fun c_1909 => ?_)
            have f1910 : r_1905.toInt = 0 := qi_eq c_1909 rfl zc_0
            have f1911 : x1867.toInt ≠ (0 : Int) := (ob_232 im1888 f1869)
            have f1912 : (1 : Int) ≤ x1867.toInt := (ob_217 im1888 f1869)
            have f1913 : r_1905.toInt = (0 : Int) := (ob_226 f1907 f1908 f1910)
            refine lv_iconst (v := 1) hx hb dX9_unit_154 (by decide) ?_
            rw [hQ]
            exact W.zret (v := 1) hx hb hr (by decide) (fun t ht hW => ⟨⟨1, 1, rfl, rfl, ⟨x1867, i_at, i_end, i_token, i_number, i_codes, i_within, i_piled, i_unitsInRule, f_code, f_eWhat, f_eSign, J1868, L, by rw [ht]; exact hP, hD, hI1870, (ob_14 zc_1), (ob_15 zc_1), (fun h => ((ob_356 h im1888 f1869)).elim), (ob_357 hp5 hp7 hp8), (ob_358 hp2 hp4 hp7), (ob_146), (ob_359 f1869 zc_1)⟩⟩, hS.F ht⟩) hS.2.2 dX9_unit_155
          · skip
            have f1914 : i_token.toInt ≠ 4 := qi_ne c_1859 rfl zc_4
            refine lv_iload_n hx hb dX9_unit_117 rfl (lv_at hl 2 rfl) ?_
            refine lv_if_eq (tgt := 143) hx hb dX9_unit_118 (by decide) (fun c_1915 => ?_) (fun c_1915 => ?_)
            · skip
              have f1916 : r_1790.toInt = 0 := qi_eq c_1915 rfl zc_0
              refine lv_aload_n hx hb dX9_unit_143 rfl (lv_at hl 5 rfl) ?_
              have hFc := frA hD hS hA
              refine va_callv (va_runV (As := []) (rest := []) ⟨hx, hb, hml, hown, hG⟩ (kX9_misplaced l dC dI r ct i_taped i_size i_faultKind i_at i_end i_token i_number i_bank i_rb i_codes i_within i_piled i_unitsInRule i_askHouse i_askTune i_acts i_undone i_laid i_knowns i_time f_text f_tunes f_houses f_hums f_told f_many f_ruleFrom f_ruleTo f_code f_eWhat f_eSign f_all f_kept f_was f_sTune f_boxAll J L H1794.size hI) (cwV 0 hG (goodV gw1420 gw1422 gw65 gw138 gw1423) rfl rfl rfl hd_X9_misplaced ⟨(Nat.le_of_ble_eq_true rfl), (Nat.le_of_ble_eq_true rfl)⟩) ⟨fbW, va_recv hK hP (ci := 8) (q0 := 0) rfl rfl, pW_in hP hK hD⟩ rfl rfl hl.1 rfl (lv_room (Nat.le_of_ble_eq_true rfl)) dX9_unit_144 ⟨(Nat.le_of_ble_eq_true rfl), (Nat.le_of_ble_eq_true rfl)⟩) hS (fun q _ h => hFc q h) hFc (fun _ t_ H1917 locs ht hvm hw hB hz1 hk1 hS => ?_)
              obtain ⟨x1919, J1920, hP1, hD1, hI1922, f1921⟩ := hB
              rw [ht] at hP1
              have hP := hP1
              have hD := dW hFc hD1
              obtain ⟨im1923, im1924, im1925, im1926, im1927, im1928, im1929, im1930, im1931, im1932, im1933, im1934, im1935, im1936, im1937, im1938, im1939, im1940, im1941, im1942, im1943, im1944, im1945, im1946, im1947, im1948, im1949, im1950, im1951, im1952, im1953, im1954, im1955⟩ := id hI1922
              refine lv_aload_n hx hb dX9_unit_147 rfl (lv_at hl 5 rfl) ?_
              refine va_calli (va_runV (As := []) (rest := []) ⟨hx, hb, hml, hown, hG⟩ (kX9_isGood l dC dI r ct i_taped i_size x1919 i_at i_end i_token i_number i_bank i_rb i_codes i_within i_piled i_unitsInRule i_askHouse i_askTune i_acts i_undone i_laid i_knowns i_time f_text f_tunes f_houses f_hums f_told f_many f_ruleFrom f_ruleTo f_code f_eWhat f_eSign f_all f_kept f_was f_sTune f_boxAll J1920 L H1917.size hI1922) (cwV 0 hG (goodV gw1401 gw1403 gw61 gw138 gw1404) rfl rfl rfl hd_X9_isGood ⟨(Nat.le_of_ble_eq_true rfl), (Nat.le_of_ble_eq_true rfl)⟩) ⟨fbR, va_recv hK hP (ci := 8) (q0 := 0) rfl rfl, pR_in hP hK⟩ rfl rfl hl.1 rfl (lv_room (Nat.le_of_ble_eq_true rfl)) dX9_unit_148 ⟨(Nat.le_of_ble_eq_true rfl), (Nat.le_of_ble_eq_true rfl)⟩) hS (fun q hq h => absurd hq (Nat.not_lt.mpr h)) (fun q h => hA q (Nat.le_trans hS.1 h)) (fun r_1957 u_ t_ H1956 locs ht hvm hw hB hz1 hk1 hS => ?_)
              subst hw
              have hP := wk hP hk1
              obtain ⟨f1958, f1959, f1960⟩ := hB
              refine lv_if_ne (tgt := 156) hx hb dX9_unit_151 (by decide) (fun c_1961 => ((ob_231 (qi_ne c_1961 rfl zc_0) f1921 f1958)).elim) (fun c_1961 => ?_)
              have f1962 : r_1957.toInt = 0 := qi_eq c_1961 rfl zc_0
              have f1963 : x1919.toInt ≠ (0 : Int) := (ob_232 im1940 f1921)
              have f1964 : (1 : Int) ≤ x1919.toInt := (ob_217 im1940 f1921)
              have f1965 : r_1957.toInt = (0 : Int) := (ob_226 f1959 f1960 f1962)
              refine lv_iconst (v := 1) hx hb dX9_unit_154 (by decide) ?_
              rw [hQ]
              exact W.zret (v := 1) hx hb hr (by decide) (fun t ht hW => ⟨⟨1, 1, rfl, rfl, ⟨x1919, i_at, i_end, i_token, i_number, i_codes, i_within, i_piled, i_unitsInRule, f_code, f_eWhat, f_eSign, J1920, L, by rw [ht]; exact hP, hD, hI1922, (ob_14 zc_1), (ob_15 zc_1), (fun h => ((ob_356 h im1940 f1921)).elim), (ob_357 hp5 hp7 hp8), (ob_358 hp2 hp4 hp7), (ob_146), (ob_359 f1921 zc_1)⟩⟩, hS.F ht⟩) hS.2.2 dX9_unit_155
            · skip
              have f1966 : r_1790.toInt ≠ 0 := qi_ne c_1915 rfl zc_0
              have f1967 : i_token.toInt = (5 : Int) := (ob_365 f1791 f1966 zc_40)
              have f1968 : (sgz f_text i_size.toInt i_at.toInt) = (40 : Int) := (ob_366 f1791 f1966 zc_40)
              have f1969 : r_1790.toInt = (1 : Int) := (ob_367 f1791 f1966 zc_40)
              have f1970 : (1 : Int) ≤ r_1790.toInt := (ob_162 f1792 f1793 f1969)
              refine lv_iload hx hb dX9_unit_121 (lv_at hl 0 rfl) ?_
              refine lv_if_ne (tgt := 143) hx hb dX9_unit_123 (by decide) (fun c_1971 => ?_) (fun c_1971 => absurd c_1971 (by decide))
              refine lv_aload_n hx hb dX9_unit_143 rfl (lv_at hl 5 rfl) ?_
              have hFc := frA hD hS hA
              refine va_callv (va_runV (As := []) (rest := []) ⟨hx, hb, hml, hown, hG⟩ (kX9_misplaced l dC dI r ct i_taped i_size i_faultKind i_at i_end i_token i_number i_bank i_rb i_codes i_within i_piled i_unitsInRule i_askHouse i_askTune i_acts i_undone i_laid i_knowns i_time f_text f_tunes f_houses f_hums f_told f_many f_ruleFrom f_ruleTo f_code f_eWhat f_eSign f_all f_kept f_was f_sTune f_boxAll J L H1794.size hI) (cwV 0 hG (goodV gw1420 gw1422 gw65 gw138 gw1423) rfl rfl rfl hd_X9_misplaced ⟨(Nat.le_of_ble_eq_true rfl), (Nat.le_of_ble_eq_true rfl)⟩) ⟨fbW, va_recv hK hP (ci := 8) (q0 := 0) rfl rfl, pW_in hP hK hD⟩ rfl rfl hl.1 rfl (lv_room (Nat.le_of_ble_eq_true rfl)) dX9_unit_144 ⟨(Nat.le_of_ble_eq_true rfl), (Nat.le_of_ble_eq_true rfl)⟩) hS (fun q _ h => hFc q h) hFc (fun _ t_ H1972 locs ht hvm hw hB hz1 hk1 hS => ?_)
              obtain ⟨x1974, J1975, hP1, hD1, hI1977, f1976⟩ := hB
              rw [ht] at hP1
              have hP := hP1
              have hD := dW hFc hD1
              obtain ⟨im1978, im1979, im1980, im1981, im1982, im1983, im1984, im1985, im1986, im1987, im1988, im1989, im1990, im1991, im1992, im1993, im1994, im1995, im1996, im1997, im1998, im1999, im2000, im2001, im2002, im2003, im2004, im2005, im2006, im2007, im2008, im2009, im2010⟩ := id hI1977
              refine lv_aload_n hx hb dX9_unit_147 rfl (lv_at hl 5 rfl) ?_
              refine va_calli (va_runV (As := []) (rest := []) ⟨hx, hb, hml, hown, hG⟩ (kX9_isGood l dC dI r ct i_taped i_size x1974 i_at i_end i_token i_number i_bank i_rb i_codes i_within i_piled i_unitsInRule i_askHouse i_askTune i_acts i_undone i_laid i_knowns i_time f_text f_tunes f_houses f_hums f_told f_many f_ruleFrom f_ruleTo f_code f_eWhat f_eSign f_all f_kept f_was f_sTune f_boxAll J1975 L H1972.size hI1977) (cwV 0 hG (goodV gw1401 gw1403 gw61 gw138 gw1404) rfl rfl rfl hd_X9_isGood ⟨(Nat.le_of_ble_eq_true rfl), (Nat.le_of_ble_eq_true rfl)⟩) ⟨fbR, va_recv hK hP (ci := 8) (q0 := 0) rfl rfl, pR_in hP hK⟩ rfl rfl hl.1 rfl (lv_room (Nat.le_of_ble_eq_true rfl)) dX9_unit_148 ⟨(Nat.le_of_ble_eq_true rfl), (Nat.le_of_ble_eq_true rfl)⟩) hS (fun q hq h => absurd hq (Nat.not_lt.mpr h)) (fun q h => hA q (Nat.le_trans hS.1 h)) (fun r_2012 u_ t_ H2011 locs ht hvm hw hB hz1 hk1 hS => ?_)
              subst hw
              have hP := wk hP hk1
              obtain ⟨f2013, f2014, f2015⟩ := hB
              refine lv_if_ne (tgt := 156) hx hb dX9_unit_151 (by decide) (fun c_2016 => ((ob_231 (qi_ne c_2016 rfl zc_0) f1976 f2013)).elim) (fun c_2016 => ?_)
              have f2017 : r_2012.toInt = 0 := qi_eq c_2016 rfl zc_0
              have f2018 : x1974.toInt ≠ (0 : Int) := (ob_232 im1995 f1976)
              have f2019 : (1 : Int) ≤ x1974.toInt := (ob_217 im1995 f1976)
              have f2020 : r_2012.toInt = (0 : Int) := (ob_226 f2014 f2015 f2017)
              refine lv_iconst (v := 1) hx hb dX9_unit_154 (by decide) ?_
              rw [hQ]
              exact W.zret (v := 1) hx hb hr (by decide) (fun t ht hW => ⟨⟨1, 1, rfl, rfl, ⟨x1974, i_at, i_end, i_token, i_number, i_codes, i_within, i_piled, i_unitsInRule, f_code, f_eWhat, f_eSign, J1975, L, by rw [ht]; exact hP, hD, hI1977, (ob_14 zc_1), (ob_15 zc_1), (fun h => ((ob_356 h im1995 f1976)).elim), (ob_357 hp5 hp7 hp8), (ob_358 hp2 hp4 hp7), (ob_146), (ob_359 f1976 zc_1)⟩⟩, hS.F ht⟩) hS.2.2 dX9_unit_155
      · skip
        have f2021 : x1797.toInt ≠ 60 := qi_ne c_1798 rfl zc_60
        refine lv_aload_n hx hb dX9_unit_84 rfl (lv_at hl 4 rfl) ?_
        refine gM_X9_290_0 hx hb hG hown hK hP dX9_unit_85 ?_
        refine lv_bipush (v := 30) hx hb dX9_unit_88 (by decide) ?_
        refine lv_icmp_ne (tgt := 97) hx hb dX9_unit_90 (by decide) (fun c_2022 => ?_) (fun c_2022 => ?_)
        · skip
          have f2023 : i_unitsInRule.toInt ≠ 30 := qi_ne c_2022 rfl zc_30
          have f2024 : i_unitsInRule.toInt ≤ (29 : Int) := (ob_368 hp2 f2023)
          refine lv_iconst (v := 0) hx hb dX9_unit_97 (by decide) ?_
          refine lv_istore (lv' := [(5, .int 0), (4, .int r_1795), (3, .int r_1790), (2, .int 0), (1, .int 0), (0, .ref (r 0))]) hx hb dX9_unit_98 hl (by decide) rfl (fun ls hl => ?_)
          refine lv_iload_n hx hb dX9_unit_100 rfl (lv_at hl 3 rfl) ?_
          refine lv_if_ne (tgt := 126) hx hb dX9_unit_101 (by decide) (fun c_2025 => absurd (by decide) c_2025) (fun c_2025 => ?_)
          refine lv_iload hx hb dX9_unit_104 (lv_at hl 1 rfl) ?_
          refine lv_if_ne (tgt := 121) hx hb dX9_unit_106 (by decide) (fun c_2026 => ?_) (fun c_2026 => ?_)
          · skip
            have f2027 : r_1795.toInt ≠ 0 := qi_ne c_2026 rfl zc_0
            have f2028 : (97 : Int) ≤ r_1795.toInt := (ob_352 f1796 f2027)
            have f2029 : r_1795.toInt ≤ (122 : Int) := (ob_353 f1796 f2027 f2028)
            have f2030 : i_token.toInt = (3 : Int) := (ob_354 f1796 f2027)
            have f2031 : (1 : Int) ≤ r_1795.toInt := (ob_355 f2028 f2029)
            refine lv_iload hx hb dX9_unit_121 (lv_at hl 0 rfl) ?_
            refine lv_if_ne (tgt := 143) hx hb dX9_unit_123 (by decide) (fun c_2032 => absurd (by decide) c_2032) (fun c_2032 => ?_)
            refine lv_iload_n hx hb dX9_unit_126 rfl (lv_at hl 3 rfl) ?_
            refine lv_if_ne (tgt := 134) hx hb dX9_unit_127 (by decide) (fun c_2033 => absurd (by decide) c_2033) (fun c_2033 => ?_)
            refine lv_iload_n hx hb dX9_unit_130 rfl (lv_at hl 2 rfl) ?_
            refine lv_if_eq (tgt := 147) hx hb dX9_unit_131 (by decide) (fun c_2034 => ?_) (fun c_2034 => ((ob_369 (qi_ne c_2034 rfl zc_0) f1791 f2030 zc_40)).elim)
            have f2035 : r_1790.toInt = 0 := qi_eq c_2034 rfl zc_0
            have f2036 : i_token.toInt ≠ (5 : Int) := (ob_370 f2030)
            have f2037 : r_1790.toInt = (0 : Int) := (ob_226 f1792 f1793 f2035)
            refine lv_aload_n hx hb dX9_unit_147 rfl (lv_at hl 5 rfl) ?_
            refine va_calli (va_runV (As := []) (rest := []) ⟨hx, hb, hml, hown, hG⟩ (kX9_isGood l dC dI r ct i_taped i_size i_faultKind i_at i_end i_token i_number i_bank i_rb i_codes i_within i_piled i_unitsInRule i_askHouse i_askTune i_acts i_undone i_laid i_knowns i_time f_text f_tunes f_houses f_hums f_told f_many f_ruleFrom f_ruleTo f_code f_eWhat f_eSign f_all f_kept f_was f_sTune f_boxAll J L H1794.size hI) (cwV 0 hG (goodV gw1401 gw1403 gw61 gw138 gw1404) rfl rfl rfl hd_X9_isGood ⟨(Nat.le_of_ble_eq_true rfl), (Nat.le_of_ble_eq_true rfl)⟩) ⟨fbR, va_recv hK hP (ci := 8) (q0 := 0) rfl rfl, pR_in hP hK⟩ rfl rfl hl.1 rfl (lv_room (Nat.le_of_ble_eq_true rfl)) dX9_unit_148 ⟨(Nat.le_of_ble_eq_true rfl), (Nat.le_of_ble_eq_true rfl)⟩) hS (fun q hq h => absurd hq (Nat.not_lt.mpr h)) (fun q h => hA q (Nat.le_trans hS.1 h)) (fun r_2039 u_ t_ H2038 locs ht hvm hw hB hz1 hk1 hS => ?_)
            subst hw
            have hP := wk hP hk1
            obtain ⟨f2040, f2041, f2042⟩ := hB
            refine lv_if_ne (tgt := 156) hx hb dX9_unit_151 (by decide) (fun c_2043 => ?_) (fun c_2043 => ((ob_228 (qi_eq c_2043 rfl zc_0) hp10 f2040)).elim)
            have f2044 : r_2039.toInt ≠ 0 := qi_ne c_2043 rfl zc_0
            have f2045 : i_faultKind.toInt = (0 : Int) := (ob_229 ie17 hp10)
            have f2046 : r_2039.toInt = (1 : Int) := (ob_220 f2040 f2044)
            have f2047 : (1 : Int) ≤ r_2039.toInt := (ob_162 f2041 f2042 f2046)
            refine lv_aload_n hx hb dX9_unit_156 rfl (lv_at hl 5 rfl) ?_
            refine gM_X9_30_0 hx hb hG hown hK hP dX9_unit_157 ?_
            refine lv_aload_n hx hb dX9_unit_160 rfl (lv_at hl 5 rfl) ?_
            refine gM_X9_240_0 hx hb hG hown hK hP dX9_unit_161 ?_
            refine lv_dup2_11 hx hb dX9_unit_164 rfl rfl ?_
            refine ldM_6 (mm := i_rb.toInt) hx hb hK hP rfl (ob_350 ie6) (ob_351 ie7) dX9_unit_165 (fun x2048 => ?_)
            refine lv_iload_n hx hb dX9_unit_166 rfl (lv_at hl 3 rfl) ?_
            refine lv_if_eq (tgt := 174) hx hb dX9_unit_167 (by decide) (fun c_2049 => ?_) (fun c_2049 => absurd (by decide) c_2049)
            refine lv_iconst (v := 1) hx hb dX9_unit_174 (by decide) ?_
            refine lv_iadd hx hb dX9_unit_175 ?_
            refine lv_topi (fun x2050 ex2050 => ?_)
            refine stM_6 (mm := i_rb.toInt) hx hb hK hP hD hS rfl (ob_350 ie6) (ob_351 ie7) dX9_unit_176 (fun J2052 H2051 locs hP hD hS => ?_)
            refine lv_aload_n hx hb dX9_unit_177 rfl (lv_at hl 5 rfl) ?_
            refine lv_dup hx hb dX9_unit_178 rfl ?_
            refine gM_X9_290_0 hx hb hG hown hK hP dX9_unit_179 ?_
            refine lv_iload_n hx hb dX9_unit_182 rfl (lv_at hl 3 rfl) ?_
            refine lv_if_eq (tgt := 190) hx hb dX9_unit_183 (by decide) (fun c_2053 => ?_) (fun c_2053 => absurd (by decide) c_2053)
            refine lv_iconst (v := 1) hx hb dX9_unit_190 (by decide) ?_
            refine lv_iadd hx hb dX9_unit_191 ?_
            refine lv_topi (fun x2054 ex2054 => ?_)
            have f2055 : x2054.toInt = i_unitsInRule.toInt + 1 := (ob_142 (qi_add ex2054 rfl zc_1 (ob_140 hp1) (ob_371 hp2)))
            refine pM_X9_290_0 hx hb hG hown hK hP hD hS dX9_unit_192 (fun H2056 locs hP hD hS => ?_)
            refine lv_iload hx hb dX9_unit_195 (lv_at hl 1 rfl) ?_
            refine lv_if_ne (tgt := 207) hx hb dX9_unit_197 (by decide) (fun c_2057 => ?_) (fun c_2057 => ((ob_372 (qi_eq c_2057 rfl zc_0) f2028 f2029 f2031)).elim)
            have f2058 : r_1795.toInt ≠ 0 := qi_ne c_2057 rfl zc_0
            have f2059 : (1 : Int) ≤ r_1795.toInt := (ob_373 f2028 f2029 f2031)
            refine lv_iconst (v := 0) hx hb dX9_unit_207 (by decide) ?_
            refine lv_istore (lv' := [(6, .int 0), (5, .int 0), (4, .int r_1795), (3, .int r_1790), (2, .int 0), (1, .int 0), (0, .ref (r 0))]) hx hb dX9_unit_208 hl (by decide) rfl (fun ls hl => ?_)
            refine lv_aload_n hx hb dX9_unit_210 rfl (lv_at hl 6 rfl) ?_
            have hFc := frA hD hS hA
            refine va_callv (va_runV (As := []) (rest := []) ⟨hx, hb, hml, hown, hG⟩ (kX9_goOn l dC dI r ct i_taped i_size i_faultKind i_at i_end i_token i_number i_bank i_rb i_codes i_within i_piled x2054 i_askHouse i_askTune i_acts i_undone i_laid i_knowns i_time f_text f_tunes f_houses f_hums f_told f_many f_ruleFrom f_ruleTo f_code f_eWhat f_eSign f_all f_kept f_was f_sTune f_boxAll J2052 L H2056.size hI) (cwV 0 hG (goodV gw1362 gw1364 gw59 gw138 gw1365) rfl rfl rfl hd_X9_goOn ⟨(Nat.le_of_ble_eq_true rfl), (Nat.le_of_ble_eq_true rfl)⟩) ⟨fbW, va_recv hK hP (ci := 8) (q0 := 0) rfl rfl, pW_in hP hK hD⟩ rfl rfl hl.1 rfl (lv_room (Nat.le_of_ble_eq_true rfl)) dX9_unit_211 ⟨(Nat.le_of_ble_eq_true rfl), (Nat.le_of_ble_eq_true rfl)⟩) hS (fun q _ h => hFc q h) hFc (fun _ t_ H2060 locs ht hvm hw hB hz1 hk1 hS => ?_)
            obtain ⟨x2062, x2063, x2064, x2065, L2066, hP1, hD1, hI2070, f2067, f2068, f2069⟩ := hB
            rw [ht] at hP1
            have hP := hP1
            have hD := dW hFc hD1
            obtain ⟨im2071, im2072, im2073, im2074, im2075, im2076, im2077, im2078, im2079, im2080, im2081, im2082, im2083, im2084, im2085, im2086, im2087, im2088, im2089, im2090, im2091, im2092, im2093, im2094, im2095, im2096, im2097, im2098, im2099, im2100, im2101, im2102, im2103⟩ := id hI2070
            refine lv_iload_n hx hb dX9_unit_214 rfl (lv_at hl 4 rfl) ?_
            refine lv_if_ne (tgt := 222) hx hb dX9_unit_215 (by decide) (fun c_2104 => absurd (by decide) c_2104) (fun c_2104 => ?_)
            refine lv_iload_n hx hb dX9_unit_218 rfl (lv_at hl 3 rfl) ?_
            refine lv_if_eq (tgt := 250) hx hb dX9_unit_219 (by decide) (fun c_2105 => ?_) (fun c_2105 => ((ob_374 (qi_ne c_2105 rfl zc_0) f2035)).elim)
            have f2106 : r_1790.toInt = 0 := qi_eq c_2105 rfl zc_0
            refine lv_aload_n hx hb dX9_unit_250 rfl (lv_at hl 6 rfl) ?_
            refine lv_iload hx hb dX9_unit_251 (lv_at hl 2 rfl) ?_
            refine lv_if_ne (tgt := 261) hx hb dX9_unit_253 (by decide) (fun c_2107 => ?_) (fun c_2107 => ((ob_375 (qi_eq c_2107 rfl zc_0) f2028)).elim)
            have f2108 : r_1795.toInt ≠ 0 := qi_ne c_2107 rfl zc_0
            have f2109 : (1 : Int) ≤ r_1795.toInt := (ob_376 f2028)
            refine lv_iload hx hb dX9_unit_261 (lv_at hl 2 rfl) ?_
            refine lv_iload hx hb dX9_unit_263 (lv_at hl 0 rfl) ?_
            have hFc := frA hD hS hA
            refine va_callv (va_runV (As := [.int r_1795, .int 0]) (rest := []) ⟨hx, hb, hml, hown, hG⟩ (kX9_emit l dC dI r ct i_taped i_size i_faultKind x2062 x2063 x2064 x2065 i_bank i_rb i_codes i_within i_piled x2054 i_askHouse i_askTune i_acts i_undone i_laid i_knowns i_time f_text f_tunes f_houses f_hums f_told f_many f_ruleFrom f_ruleTo f_code f_eWhat f_eSign f_all f_kept f_was f_sTune f_boxAll J2052 L2066 r_1795 0 H2060.size hI2070 (ob_377 hp0) (ob_378 hp6) (ob_379 hp2 hp4 hp5 hp8)) (cwV 2 hG (goodV gw1484 gw1486 gw81 gw138 gw1487) rfl rfl rfl hd_X9_emit ⟨(Nat.le_of_ble_eq_true rfl), (Nat.le_of_ble_eq_true rfl)⟩) ⟨fbW, va_recv hK hP (ci := 8) (q0 := 0) rfl rfl, pW_in hP hK hD⟩ rfl rfl hl.1 rfl (lv_room (Nat.le_of_ble_eq_true rfl)) dX9_unit_265 ⟨(Nat.le_of_ble_eq_true rfl), (Nat.le_of_ble_eq_true rfl)⟩) hS (fun q _ h => hFc q h) hFc (fun _ t_ H2110 locs ht hvm hw hB hz1 hk1 hS => ?_)
            obtain ⟨x2112, z2113, J2114, hP1, hD1, hI2117, f2115, f2116⟩ := hB
            rw [ht] at hP1
            have hP := hP1
            have hD := dW hFc hD1
            obtain ⟨im2118, im2119, im2120, im2121, im2122, im2123, im2124, im2125, im2126, im2127, im2128, im2129, im2130, im2131, im2132, im2133, im2134, im2135, im2136, im2137, im2138, im2139, im2140, im2141, im2142, im2143, im2144, im2145, im2146, im2147, im2148, im2149, im2150⟩ := id hI2117
            refine lv_iconst (v := 0) hx hb dX9_unit_268 (by decide) ?_
            rw [hQ]
            exact W.zret (v := 0) hx hb hr (by decide) (fun t ht hW => ⟨⟨0, 0, rfl, rfl, ⟨i_faultKind, x2062, x2063, x2064, x2065, x2112, i_within, i_piled, x2054, z2113, f_eWhat, f_eSign, J2114, L2066, by rw [ht]; exact hP, hD, hI2117, (ob_1 zc_0), (ob_11 zc_0), (fun _ => SPleaf hp11 rfl (ob_380 zc_0) f2116 (ob_381 hp6 hp8 f2115) (ob_382 hp5 hp7 hp8) (ob_383 hp2 hp4 hp7) (ob_384 ie6) (ob_378 hp6) (ob_385 f2028) (ob_386 f2029)), (ob_357 hp5 hp7 hp8), (ob_358 hp2 hp4 hp7), (ob_145 f2067), (ob_387 ie17 hp2 hp3 hp4 hp5 hp6 hp7 hp8 hp9 f2023 f2030 f2069 f2115 zc_0 f2055)⟩⟩, hS.F ht⟩) hS.2.2 dX9_unit_269
          · skip
            have f2151 : r_1795.toInt = 0 := qi_eq c_2026 rfl zc_0
            have f2152 : r_1795.toInt = (0 : Int) := (ob_25 f2151)
            refine lv_aload_n hx hb dX9_unit_109 rfl (lv_at hl 5 rfl) ?_
            refine gM_X9_191_0 hx hb hG hown hK hP dX9_unit_110 ?_
            refine lv_iconst (v := 4) hx hb dX9_unit_113 (by decide) ?_
            refine lv_icmp_eq (tgt := 121) hx hb dX9_unit_114 (by decide) (fun c_2153 => ?_) (fun c_2153 => ?_)
            · skip
              have f2154 : i_token.toInt = 4 := qi_eq c_2153 rfl zc_4
              have f2155 : i_token.toInt ≠ (5 : Int) := (ob_361 f2154)
              have f2156 : r_1790.toInt = (0 : Int) := (ob_362 f1791 f2154 zc_40)
              have f2157 : i_token.toInt ≤ (4 : Int) := (ob_412 f2154)
              refine lv_iload hx hb dX9_unit_121 (lv_at hl 0 rfl) ?_
              refine lv_if_ne (tgt := 143) hx hb dX9_unit_123 (by decide) (fun c_2158 => absurd (by decide) c_2158) (fun c_2158 => ?_)
              refine lv_iload_n hx hb dX9_unit_126 rfl (lv_at hl 3 rfl) ?_
              refine lv_if_ne (tgt := 134) hx hb dX9_unit_127 (by decide) (fun c_2159 => absurd (by decide) c_2159) (fun c_2159 => ?_)
              refine lv_iload_n hx hb dX9_unit_130 rfl (lv_at hl 2 rfl) ?_
              refine lv_if_eq (tgt := 147) hx hb dX9_unit_131 (by decide) (fun c_2160 => ?_) (fun c_2160 => ((ob_388 (qi_ne c_2160 rfl zc_0) f1792 f1793 f2156)).elim)
              have f2161 : r_1790.toInt = 0 := qi_eq c_2160 rfl zc_0
              refine lv_aload_n hx hb dX9_unit_147 rfl (lv_at hl 5 rfl) ?_
              refine va_calli (va_runV (As := []) (rest := []) ⟨hx, hb, hml, hown, hG⟩ (kX9_isGood l dC dI r ct i_taped i_size i_faultKind i_at i_end i_token i_number i_bank i_rb i_codes i_within i_piled i_unitsInRule i_askHouse i_askTune i_acts i_undone i_laid i_knowns i_time f_text f_tunes f_houses f_hums f_told f_many f_ruleFrom f_ruleTo f_code f_eWhat f_eSign f_all f_kept f_was f_sTune f_boxAll J L H1794.size hI) (cwV 0 hG (goodV gw1401 gw1403 gw61 gw138 gw1404) rfl rfl rfl hd_X9_isGood ⟨(Nat.le_of_ble_eq_true rfl), (Nat.le_of_ble_eq_true rfl)⟩) ⟨fbR, va_recv hK hP (ci := 8) (q0 := 0) rfl rfl, pR_in hP hK⟩ rfl rfl hl.1 rfl (lv_room (Nat.le_of_ble_eq_true rfl)) dX9_unit_148 ⟨(Nat.le_of_ble_eq_true rfl), (Nat.le_of_ble_eq_true rfl)⟩) hS (fun q hq h => absurd hq (Nat.not_lt.mpr h)) (fun q h => hA q (Nat.le_trans hS.1 h)) (fun r_2163 u_ t_ H2162 locs ht hvm hw hB hz1 hk1 hS => ?_)
              subst hw
              have hP := wk hP hk1
              obtain ⟨f2164, f2165, f2166⟩ := hB
              refine lv_if_ne (tgt := 156) hx hb dX9_unit_151 (by decide) (fun c_2167 => ?_) (fun c_2167 => ((ob_228 (qi_eq c_2167 rfl zc_0) hp10 f2164)).elim)
              have f2168 : r_2163.toInt ≠ 0 := qi_ne c_2167 rfl zc_0
              have f2169 : i_faultKind.toInt = (0 : Int) := (ob_229 ie17 hp10)
              have f2170 : r_2163.toInt = (1 : Int) := (ob_220 f2164 f2168)
              have f2171 : (1 : Int) ≤ r_2163.toInt := (ob_162 f2165 f2166 f2170)
              refine lv_aload_n hx hb dX9_unit_156 rfl (lv_at hl 5 rfl) ?_
              refine gM_X9_30_0 hx hb hG hown hK hP dX9_unit_157 ?_
              refine lv_aload_n hx hb dX9_unit_160 rfl (lv_at hl 5 rfl) ?_
              refine gM_X9_240_0 hx hb hG hown hK hP dX9_unit_161 ?_
              refine lv_dup2_11 hx hb dX9_unit_164 rfl rfl ?_
              refine ldM_6 (mm := i_rb.toInt) hx hb hK hP rfl (ob_350 ie6) (ob_351 ie7) dX9_unit_165 (fun x2172 => ?_)
              refine lv_iload_n hx hb dX9_unit_166 rfl (lv_at hl 3 rfl) ?_
              refine lv_if_eq (tgt := 174) hx hb dX9_unit_167 (by decide) (fun c_2173 => ?_) (fun c_2173 => absurd (by decide) c_2173)
              refine lv_iconst (v := 1) hx hb dX9_unit_174 (by decide) ?_
              refine lv_iadd hx hb dX9_unit_175 ?_
              refine lv_topi (fun x2174 ex2174 => ?_)
              refine stM_6 (mm := i_rb.toInt) hx hb hK hP hD hS rfl (ob_350 ie6) (ob_351 ie7) dX9_unit_176 (fun J2176 H2175 locs hP hD hS => ?_)
              refine lv_aload_n hx hb dX9_unit_177 rfl (lv_at hl 5 rfl) ?_
              refine lv_dup hx hb dX9_unit_178 rfl ?_
              refine gM_X9_290_0 hx hb hG hown hK hP dX9_unit_179 ?_
              refine lv_iload_n hx hb dX9_unit_182 rfl (lv_at hl 3 rfl) ?_
              refine lv_if_eq (tgt := 190) hx hb dX9_unit_183 (by decide) (fun c_2177 => ?_) (fun c_2177 => absurd (by decide) c_2177)
              refine lv_iconst (v := 1) hx hb dX9_unit_190 (by decide) ?_
              refine lv_iadd hx hb dX9_unit_191 ?_
              refine lv_topi (fun x2178 ex2178 => ?_)
              have f2179 : x2178.toInt = i_unitsInRule.toInt + 1 := (ob_142 (qi_add ex2178 rfl zc_1 (ob_140 hp1) (ob_371 hp2)))
              refine pM_X9_290_0 hx hb hG hown hK hP hD hS dX9_unit_192 (fun H2180 locs hP hD hS => ?_)
              refine lv_iload hx hb dX9_unit_195 (lv_at hl 1 rfl) ?_
              refine lv_if_ne (tgt := 207) hx hb dX9_unit_197 (by decide) (fun c_2181 => ((ob_389 (qi_ne c_2181 rfl zc_0) f2151 f2152)).elim) (fun c_2181 => ?_)
              have f2182 : r_1795.toInt = 0 := qi_eq c_2181 rfl zc_0
              refine lv_aload_n hx hb dX9_unit_200 rfl (lv_at hl 5 rfl) ?_
              refine gM_X9_209_0 hx hb hG hown hK hP dX9_unit_201 ?_
              refine lv_goto (tgt := 208) hx hb dX9_unit_204 (by decide) ?_
              refine lv_istore (lv' := [(6, .int i_number), (5, .int 0), (4, .int r_1795), (3, .int r_1790), (2, .int 0), (1, .int 0), (0, .ref (r 0))]) hx hb dX9_unit_208 hl (by decide) rfl (fun ls hl => ?_)
              refine lv_aload_n hx hb dX9_unit_210 rfl (lv_at hl 6 rfl) ?_
              have hFc := frA hD hS hA
              refine va_callv (va_runV (As := []) (rest := []) ⟨hx, hb, hml, hown, hG⟩ (kX9_goOn l dC dI r ct i_taped i_size i_faultKind i_at i_end i_token i_number i_bank i_rb i_codes i_within i_piled x2178 i_askHouse i_askTune i_acts i_undone i_laid i_knowns i_time f_text f_tunes f_houses f_hums f_told f_many f_ruleFrom f_ruleTo f_code f_eWhat f_eSign f_all f_kept f_was f_sTune f_boxAll J2176 L H2180.size hI) (cwV 0 hG (goodV gw1362 gw1364 gw59 gw138 gw1365) rfl rfl rfl hd_X9_goOn ⟨(Nat.le_of_ble_eq_true rfl), (Nat.le_of_ble_eq_true rfl)⟩) ⟨fbW, va_recv hK hP (ci := 8) (q0 := 0) rfl rfl, pW_in hP hK hD⟩ rfl rfl hl.1 rfl (lv_room (Nat.le_of_ble_eq_true rfl)) dX9_unit_211 ⟨(Nat.le_of_ble_eq_true rfl), (Nat.le_of_ble_eq_true rfl)⟩) hS (fun q _ h => hFc q h) hFc (fun _ t_ H2183 locs ht hvm hw hB hz1 hk1 hS => ?_)
              obtain ⟨x2185, x2186, x2187, x2188, L2189, hP1, hD1, hI2193, f2190, f2191, f2192⟩ := hB
              rw [ht] at hP1
              have hP := hP1
              have hD := dW hFc hD1
              obtain ⟨im2194, im2195, im2196, im2197, im2198, im2199, im2200, im2201, im2202, im2203, im2204, im2205, im2206, im2207, im2208, im2209, im2210, im2211, im2212, im2213, im2214, im2215, im2216, im2217, im2218, im2219, im2220, im2221, im2222, im2223, im2224, im2225, im2226⟩ := id hI2193
              refine lv_iload_n hx hb dX9_unit_214 rfl (lv_at hl 4 rfl) ?_
              refine lv_if_ne (tgt := 222) hx hb dX9_unit_215 (by decide) (fun c_2227 => absurd (by decide) c_2227) (fun c_2227 => ?_)
              refine lv_iload_n hx hb dX9_unit_218 rfl (lv_at hl 3 rfl) ?_
              refine lv_if_eq (tgt := 250) hx hb dX9_unit_219 (by decide) (fun c_2228 => ?_) (fun c_2228 => ((ob_390 (qi_ne c_2228 rfl zc_0) f2156)).elim)
              have f2229 : r_1790.toInt = 0 := qi_eq c_2228 rfl zc_0
              refine lv_aload_n hx hb dX9_unit_250 rfl (lv_at hl 6 rfl) ?_
              refine lv_iload hx hb dX9_unit_251 (lv_at hl 2 rfl) ?_
              refine lv_if_ne (tgt := 261) hx hb dX9_unit_253 (by decide) (fun c_2230 => ((ob_389 (qi_ne c_2230 rfl zc_0) f2151 f2152)).elim) (fun c_2230 => ?_)
              have f2231 : r_1795.toInt = 0 := qi_eq c_2230 rfl zc_0
              refine lv_bipush (v := 110) hx hb dX9_unit_256 (by decide) ?_
              refine lv_goto (tgt := 263) hx hb dX9_unit_258 (by decide) ?_
              refine lv_iload hx hb dX9_unit_263 (lv_at hl 0 rfl) ?_
              have hFc := frA hD hS hA
              refine va_callv (va_runV (As := [.int 110, .int i_number]) (rest := []) ⟨hx, hb, hml, hown, hG⟩ (kX9_emit l dC dI r ct i_taped i_size i_faultKind x2185 x2186 x2187 x2188 i_bank i_rb i_codes i_within i_piled x2178 i_askHouse i_askTune i_acts i_undone i_laid i_knowns i_time f_text f_tunes f_houses f_hums f_told f_many f_ruleFrom f_ruleTo f_code f_eWhat f_eSign f_all f_kept f_was f_sTune f_boxAll J2176 L2189 110 i_number H2183.size hI2193 (ob_377 hp0) (ob_378 hp6) (ob_379 hp2 hp4 hp5 hp8)) (cwV 2 hG (goodV gw1484 gw1486 gw81 gw138 gw1487) rfl rfl rfl hd_X9_emit ⟨(Nat.le_of_ble_eq_true rfl), (Nat.le_of_ble_eq_true rfl)⟩) ⟨fbW, va_recv hK hP (ci := 8) (q0 := 0) rfl rfl, pW_in hP hK hD⟩ rfl rfl hl.1 rfl (lv_room (Nat.le_of_ble_eq_true rfl)) dX9_unit_265 ⟨(Nat.le_of_ble_eq_true rfl), (Nat.le_of_ble_eq_true rfl)⟩) hS (fun q _ h => hFc q h) hFc (fun _ t_ H2232 locs ht hvm hw hB hz1 hk1 hS => ?_)
              obtain ⟨x2234, z2235, J2236, hP1, hD1, hI2239, f2237, f2238⟩ := hB
              rw [ht] at hP1
              have hP := hP1
              have hD := dW hFc hD1
              obtain ⟨im2240, im2241, im2242, im2243, im2244, im2245, im2246, im2247, im2248, im2249, im2250, im2251, im2252, im2253, im2254, im2255, im2256, im2257, im2258, im2259, im2260, im2261, im2262, im2263, im2264, im2265, im2266, im2267, im2268, im2269, im2270, im2271, im2272⟩ := id hI2239
              refine lv_iconst (v := 0) hx hb dX9_unit_268 (by decide) ?_
              rw [hQ]
              exact W.zret (v := 0) hx hb hr (by decide) (fun t ht hW => ⟨⟨0, 0, rfl, rfl, ⟨i_faultKind, x2185, x2186, x2187, x2188, x2234, i_within, i_piled, x2178, z2235, f_eWhat, f_eSign, J2236, L2189, by rw [ht]; exact hP, hD, hI2239, (ob_1 zc_0), (ob_11 zc_0), (fun _ => SPleaf hp11 rfl (ob_380 zc_0) f2238 (ob_381 hp6 hp8 f2237) (ob_382 hp5 hp7 hp8) (ob_383 hp2 hp4 hp7) (ob_384 ie6) (ob_378 hp6) (ob_391 zc_110) (ob_392 zc_110)), (ob_357 hp5 hp7 hp8), (ob_358 hp2 hp4 hp7), (ob_145 f2190), (ob_393 ie17 hp2 hp3 hp4 hp5 hp6 hp7 hp8 hp9 f2023 f2154 f2192 f2237 zc_0 f2179)⟩⟩, hS.F ht⟩) hS.2.2 dX9_unit_269
            · skip
              have f2273 : i_token.toInt ≠ 4 := qi_ne c_2153 rfl zc_4
              refine lv_iload_n hx hb dX9_unit_117 rfl (lv_at hl 2 rfl) ?_
              refine lv_if_eq (tgt := 143) hx hb dX9_unit_118 (by decide) (fun c_2274 => ?_) (fun c_2274 => ?_)
              · skip
                have f2275 : r_1790.toInt = 0 := qi_eq c_2274 rfl zc_0
                refine lv_aload_n hx hb dX9_unit_143 rfl (lv_at hl 5 rfl) ?_
                have hFc := frA hD hS hA
                refine va_callv (va_runV (As := []) (rest := []) ⟨hx, hb, hml, hown, hG⟩ (kX9_misplaced l dC dI r ct i_taped i_size i_faultKind i_at i_end i_token i_number i_bank i_rb i_codes i_within i_piled i_unitsInRule i_askHouse i_askTune i_acts i_undone i_laid i_knowns i_time f_text f_tunes f_houses f_hums f_told f_many f_ruleFrom f_ruleTo f_code f_eWhat f_eSign f_all f_kept f_was f_sTune f_boxAll J L H1794.size hI) (cwV 0 hG (goodV gw1420 gw1422 gw65 gw138 gw1423) rfl rfl rfl hd_X9_misplaced ⟨(Nat.le_of_ble_eq_true rfl), (Nat.le_of_ble_eq_true rfl)⟩) ⟨fbW, va_recv hK hP (ci := 8) (q0 := 0) rfl rfl, pW_in hP hK hD⟩ rfl rfl hl.1 rfl (lv_room (Nat.le_of_ble_eq_true rfl)) dX9_unit_144 ⟨(Nat.le_of_ble_eq_true rfl), (Nat.le_of_ble_eq_true rfl)⟩) hS (fun q _ h => hFc q h) hFc (fun _ t_ H2276 locs ht hvm hw hB hz1 hk1 hS => ?_)
                obtain ⟨x2278, J2279, hP1, hD1, hI2281, f2280⟩ := hB
                rw [ht] at hP1
                have hP := hP1
                have hD := dW hFc hD1
                obtain ⟨im2282, im2283, im2284, im2285, im2286, im2287, im2288, im2289, im2290, im2291, im2292, im2293, im2294, im2295, im2296, im2297, im2298, im2299, im2300, im2301, im2302, im2303, im2304, im2305, im2306, im2307, im2308, im2309, im2310, im2311, im2312, im2313, im2314⟩ := id hI2281
                refine lv_aload_n hx hb dX9_unit_147 rfl (lv_at hl 5 rfl) ?_
                refine va_calli (va_runV (As := []) (rest := []) ⟨hx, hb, hml, hown, hG⟩ (kX9_isGood l dC dI r ct i_taped i_size x2278 i_at i_end i_token i_number i_bank i_rb i_codes i_within i_piled i_unitsInRule i_askHouse i_askTune i_acts i_undone i_laid i_knowns i_time f_text f_tunes f_houses f_hums f_told f_many f_ruleFrom f_ruleTo f_code f_eWhat f_eSign f_all f_kept f_was f_sTune f_boxAll J2279 L H2276.size hI2281) (cwV 0 hG (goodV gw1401 gw1403 gw61 gw138 gw1404) rfl rfl rfl hd_X9_isGood ⟨(Nat.le_of_ble_eq_true rfl), (Nat.le_of_ble_eq_true rfl)⟩) ⟨fbR, va_recv hK hP (ci := 8) (q0 := 0) rfl rfl, pR_in hP hK⟩ rfl rfl hl.1 rfl (lv_room (Nat.le_of_ble_eq_true rfl)) dX9_unit_148 ⟨(Nat.le_of_ble_eq_true rfl), (Nat.le_of_ble_eq_true rfl)⟩) hS (fun q hq h => absurd hq (Nat.not_lt.mpr h)) (fun q h => hA q (Nat.le_trans hS.1 h)) (fun r_2316 u_ t_ H2315 locs ht hvm hw hB hz1 hk1 hS => ?_)
                subst hw
                have hP := wk hP hk1
                obtain ⟨f2317, f2318, f2319⟩ := hB
                refine lv_if_ne (tgt := 156) hx hb dX9_unit_151 (by decide) (fun c_2320 => ((ob_231 (qi_ne c_2320 rfl zc_0) f2280 f2317)).elim) (fun c_2320 => ?_)
                have f2321 : r_2316.toInt = 0 := qi_eq c_2320 rfl zc_0
                have f2322 : x2278.toInt ≠ (0 : Int) := (ob_232 im2299 f2280)
                have f2323 : (1 : Int) ≤ x2278.toInt := (ob_217 im2299 f2280)
                have f2324 : r_2316.toInt = (0 : Int) := (ob_226 f2318 f2319 f2321)
                refine lv_iconst (v := 1) hx hb dX9_unit_154 (by decide) ?_
                rw [hQ]
                exact W.zret (v := 1) hx hb hr (by decide) (fun t ht hW => ⟨⟨1, 1, rfl, rfl, ⟨x2278, i_at, i_end, i_token, i_number, i_codes, i_within, i_piled, i_unitsInRule, f_code, f_eWhat, f_eSign, J2279, L, by rw [ht]; exact hP, hD, hI2281, (ob_14 zc_1), (ob_15 zc_1), (fun h => ((ob_356 h im2299 f2280)).elim), (ob_357 hp5 hp7 hp8), (ob_358 hp2 hp4 hp7), (ob_146), (ob_359 f2280 zc_1)⟩⟩, hS.F ht⟩) hS.2.2 dX9_unit_155
              · skip
                have f2325 : r_1790.toInt ≠ 0 := qi_ne c_2274 rfl zc_0
                have f2326 : i_token.toInt = (5 : Int) := (ob_365 f1791 f2325 zc_40)
                have f2327 : (sgz f_text i_size.toInt i_at.toInt) = (40 : Int) := (ob_366 f1791 f2325 zc_40)
                have f2328 : r_1790.toInt = (1 : Int) := (ob_367 f1791 f2325 zc_40)
                have f2329 : (1 : Int) ≤ r_1790.toInt := (ob_162 f1792 f1793 f2328)
                refine lv_iload hx hb dX9_unit_121 (lv_at hl 0 rfl) ?_
                refine lv_if_ne (tgt := 143) hx hb dX9_unit_123 (by decide) (fun c_2330 => absurd (by decide) c_2330) (fun c_2330 => ?_)
                refine lv_iload_n hx hb dX9_unit_126 rfl (lv_at hl 3 rfl) ?_
                refine lv_if_ne (tgt := 134) hx hb dX9_unit_127 (by decide) (fun c_2331 => absurd (by decide) c_2331) (fun c_2331 => ?_)
                refine lv_iload_n hx hb dX9_unit_130 rfl (lv_at hl 2 rfl) ?_
                refine lv_if_eq (tgt := 147) hx hb dX9_unit_131 (by decide) (fun c_2332 => ((ob_394 (qi_eq c_2332 rfl zc_0) f2328)).elim) (fun c_2332 => ?_)
                have f2333 : r_1790.toInt ≠ 0 := qi_ne c_2332 rfl zc_0
                have f2334 : (1 : Int) ≤ r_1790.toInt := (ob_395 f2328)
                refine lv_aload_n hx hb dX9_unit_134 rfl (lv_at hl 5 rfl) ?_
                refine gM_X9_299_0 hx hb hG hown hK hP dX9_unit_135 ?_
                refine lv_bipush (v := 7) hx hb dX9_unit_138 (by decide) ?_
                refine lv_icmp_ne (tgt := 147) hx hb dX9_unit_140 (by decide) (fun c_2335 => ?_) (fun c_2335 => ?_)
                · skip
                  have f2336 : i_within.toInt ≠ 7 := qi_ne c_2335 rfl zc_7
                  have f2337 : i_within.toInt ≤ (6 : Int) := (ob_396 hp4 f2336)
                  refine lv_aload_n hx hb dX9_unit_147 rfl (lv_at hl 5 rfl) ?_
                  refine va_calli (va_runV (As := []) (rest := []) ⟨hx, hb, hml, hown, hG⟩ (kX9_isGood l dC dI r ct i_taped i_size i_faultKind i_at i_end i_token i_number i_bank i_rb i_codes i_within i_piled i_unitsInRule i_askHouse i_askTune i_acts i_undone i_laid i_knowns i_time f_text f_tunes f_houses f_hums f_told f_many f_ruleFrom f_ruleTo f_code f_eWhat f_eSign f_all f_kept f_was f_sTune f_boxAll J L H1794.size hI) (cwV 0 hG (goodV gw1401 gw1403 gw61 gw138 gw1404) rfl rfl rfl hd_X9_isGood ⟨(Nat.le_of_ble_eq_true rfl), (Nat.le_of_ble_eq_true rfl)⟩) ⟨fbR, va_recv hK hP (ci := 8) (q0 := 0) rfl rfl, pR_in hP hK⟩ rfl rfl hl.1 rfl (lv_room (Nat.le_of_ble_eq_true rfl)) dX9_unit_148 ⟨(Nat.le_of_ble_eq_true rfl), (Nat.le_of_ble_eq_true rfl)⟩) hS (fun q hq h => absurd hq (Nat.not_lt.mpr h)) (fun q h => hA q (Nat.le_trans hS.1 h)) (fun r_2339 u_ t_ H2338 locs ht hvm hw hB hz1 hk1 hS => ?_)
                  subst hw
                  have hP := wk hP hk1
                  obtain ⟨f2340, f2341, f2342⟩ := hB
                  refine lv_if_ne (tgt := 156) hx hb dX9_unit_151 (by decide) (fun c_2343 => ?_) (fun c_2343 => ((ob_228 (qi_eq c_2343 rfl zc_0) hp10 f2340)).elim)
                  have f2344 : r_2339.toInt ≠ 0 := qi_ne c_2343 rfl zc_0
                  have f2345 : i_faultKind.toInt = (0 : Int) := (ob_229 ie17 hp10)
                  have f2346 : r_2339.toInt = (1 : Int) := (ob_220 f2340 f2344)
                  have f2347 : (1 : Int) ≤ r_2339.toInt := (ob_162 f2341 f2342 f2346)
                  refine lv_aload_n hx hb dX9_unit_156 rfl (lv_at hl 5 rfl) ?_
                  refine gM_X9_30_0 hx hb hG hown hK hP dX9_unit_157 ?_
                  refine lv_aload_n hx hb dX9_unit_160 rfl (lv_at hl 5 rfl) ?_
                  refine gM_X9_240_0 hx hb hG hown hK hP dX9_unit_161 ?_
                  refine lv_dup2_11 hx hb dX9_unit_164 rfl rfl ?_
                  refine ldM_6 (mm := i_rb.toInt) hx hb hK hP rfl (ob_350 ie6) (ob_351 ie7) dX9_unit_165 (fun x2348 => ?_)
                  refine lv_iload_n hx hb dX9_unit_166 rfl (lv_at hl 3 rfl) ?_
                  refine lv_if_eq (tgt := 174) hx hb dX9_unit_167 (by decide) (fun c_2349 => ?_) (fun c_2349 => absurd (by decide) c_2349)
                  refine lv_iconst (v := 1) hx hb dX9_unit_174 (by decide) ?_
                  refine lv_iadd hx hb dX9_unit_175 ?_
                  refine lv_topi (fun x2350 ex2350 => ?_)
                  refine stM_6 (mm := i_rb.toInt) hx hb hK hP hD hS rfl (ob_350 ie6) (ob_351 ie7) dX9_unit_176 (fun J2352 H2351 locs hP hD hS => ?_)
                  refine lv_aload_n hx hb dX9_unit_177 rfl (lv_at hl 5 rfl) ?_
                  refine lv_dup hx hb dX9_unit_178 rfl ?_
                  refine gM_X9_290_0 hx hb hG hown hK hP dX9_unit_179 ?_
                  refine lv_iload_n hx hb dX9_unit_182 rfl (lv_at hl 3 rfl) ?_
                  refine lv_if_eq (tgt := 190) hx hb dX9_unit_183 (by decide) (fun c_2353 => ?_) (fun c_2353 => absurd (by decide) c_2353)
                  refine lv_iconst (v := 1) hx hb dX9_unit_190 (by decide) ?_
                  refine lv_iadd hx hb dX9_unit_191 ?_
                  refine lv_topi (fun x2354 ex2354 => ?_)
                  have f2355 : x2354.toInt = i_unitsInRule.toInt + 1 := (ob_142 (qi_add ex2354 rfl zc_1 (ob_140 hp1) (ob_371 hp2)))
                  refine pM_X9_290_0 hx hb hG hown hK hP hD hS dX9_unit_192 (fun H2356 locs hP hD hS => ?_)
                  refine lv_iload hx hb dX9_unit_195 (lv_at hl 1 rfl) ?_
                  refine lv_if_ne (tgt := 207) hx hb dX9_unit_197 (by decide) (fun c_2357 => ((ob_389 (qi_ne c_2357 rfl zc_0) f2151 f2152)).elim) (fun c_2357 => ?_)
                  have f2358 : r_1795.toInt = 0 := qi_eq c_2357 rfl zc_0
                  refine lv_aload_n hx hb dX9_unit_200 rfl (lv_at hl 5 rfl) ?_
                  refine gM_X9_209_0 hx hb hG hown hK hP dX9_unit_201 ?_
                  refine lv_goto (tgt := 208) hx hb dX9_unit_204 (by decide) ?_
                  refine lv_istore (lv' := [(6, .int i_number), (5, .int 0), (4, .int r_1795), (3, .int r_1790), (2, .int 0), (1, .int 0), (0, .ref (r 0))]) hx hb dX9_unit_208 hl (by decide) rfl (fun ls hl => ?_)
                  refine lv_aload_n hx hb dX9_unit_210 rfl (lv_at hl 6 rfl) ?_
                  have hFc := frA hD hS hA
                  refine va_callv (va_runV (As := []) (rest := []) ⟨hx, hb, hml, hown, hG⟩ (kX9_goOn l dC dI r ct i_taped i_size i_faultKind i_at i_end i_token i_number i_bank i_rb i_codes i_within i_piled x2354 i_askHouse i_askTune i_acts i_undone i_laid i_knowns i_time f_text f_tunes f_houses f_hums f_told f_many f_ruleFrom f_ruleTo f_code f_eWhat f_eSign f_all f_kept f_was f_sTune f_boxAll J2352 L H2356.size hI) (cwV 0 hG (goodV gw1362 gw1364 gw59 gw138 gw1365) rfl rfl rfl hd_X9_goOn ⟨(Nat.le_of_ble_eq_true rfl), (Nat.le_of_ble_eq_true rfl)⟩) ⟨fbW, va_recv hK hP (ci := 8) (q0 := 0) rfl rfl, pW_in hP hK hD⟩ rfl rfl hl.1 rfl (lv_room (Nat.le_of_ble_eq_true rfl)) dX9_unit_211 ⟨(Nat.le_of_ble_eq_true rfl), (Nat.le_of_ble_eq_true rfl)⟩) hS (fun q _ h => hFc q h) hFc (fun _ t_ H2359 locs ht hvm hw hB hz1 hk1 hS => ?_)
                  obtain ⟨x2361, x2362, x2363, x2364, L2365, hP1, hD1, hI2369, f2366, f2367, f2368⟩ := hB
                  rw [ht] at hP1
                  have hP := hP1
                  have hD := dW hFc hD1
                  obtain ⟨im2370, im2371, im2372, im2373, im2374, im2375, im2376, im2377, im2378, im2379, im2380, im2381, im2382, im2383, im2384, im2385, im2386, im2387, im2388, im2389, im2390, im2391, im2392, im2393, im2394, im2395, im2396, im2397, im2398, im2399, im2400, im2401, im2402⟩ := id hI2369
                  refine lv_iload_n hx hb dX9_unit_214 rfl (lv_at hl 4 rfl) ?_
                  refine lv_if_ne (tgt := 222) hx hb dX9_unit_215 (by decide) (fun c_2403 => absurd (by decide) c_2403) (fun c_2403 => ?_)
                  refine lv_iload_n hx hb dX9_unit_218 rfl (lv_at hl 3 rfl) ?_
                  refine lv_if_eq (tgt := 250) hx hb dX9_unit_219 (by decide) (fun c_2404 => ((ob_394 (qi_eq c_2404 rfl zc_0) f2328)).elim) (fun c_2404 => ?_)
                  have f2405 : r_1790.toInt ≠ 0 := qi_ne c_2404 rfl zc_0
                  have f2406 : (1 : Int) ≤ r_1790.toInt := (ob_395 f2328)
                  refine lv_aload_n hx hb dX9_unit_222 rfl (lv_at hl 6 rfl) ?_
                  refine lv_iload_n hx hb dX9_unit_223 rfl (lv_at hl 4 rfl) ?_
                  refine lv_if_eq (tgt := 231) hx hb dX9_unit_224 (by decide) (fun c_2407 => ?_) (fun c_2407 => absurd (by decide) c_2407)
                  refine lv_bipush (v := 7) hx hb dX9_unit_231 (by decide) ?_
                  refine lv_bipush (v := 126) hx hb dX9_unit_233 (by decide) ?_
                  have hFc := frA hD hS hA
                  refine va_callv (va_runV (As := [.int 7, .int 126]) (rest := []) ⟨hx, hb, hml, hown, hG⟩ (kX9_pushE l dC dI r ct i_taped i_size i_faultKind x2361 x2362 x2363 x2364 i_bank i_rb i_codes i_within i_piled x2354 i_askHouse i_askTune i_acts i_undone i_laid i_knowns i_time f_text f_tunes f_houses f_hums f_told f_many f_ruleFrom f_ruleTo f_code f_eWhat f_eSign f_all f_kept f_was f_sTune f_boxAll J2352 L2365 7 126 H2359.size hI2369 (ob_357 hp5 hp7 hp8) (ob_397 hp2 hp4 hp7)) (cwV 2 hG (goodV gw1468 gw1470 gw77 gw138 gw1471) rfl rfl rfl hd_X9_pushE ⟨(Nat.le_of_ble_eq_true rfl), (Nat.le_of_ble_eq_true rfl)⟩) ⟨fbW, va_recv hK hP (ci := 8) (q0 := 0) rfl rfl, pW_in hP hK hD⟩ rfl rfl hl.1 rfl (lv_room (Nat.le_of_ble_eq_true rfl)) dX9_unit_235 ⟨(Nat.le_of_ble_eq_true rfl), (Nat.le_of_ble_eq_true rfl)⟩) hS (fun q _ h => hFc q h) hFc (fun _ t_ H2408 locs ht hvm hw hB hz1 hk1 hS => ?_)
                  obtain ⟨x2410, z2411, z2412, hP1, hD1, hI2416, f2413, f2414, f2415⟩ := hB
                  rw [ht] at hP1
                  have hP := hP1
                  have hD := dW hFc hD1
                  obtain ⟨im2417, im2418, im2419, im2420, im2421, im2422, im2423, im2424, im2425, im2426, im2427, im2428, im2429, im2430, im2431, im2432, im2433, im2434, im2435, im2436, im2437, im2438, im2439, im2440, im2441, im2442, im2443, im2444, im2445, im2446, im2447, im2448, im2449⟩ := id hI2416
                  have f2450 : (z2411 ((0 : Int)).toNat).toInt = (f_eWhat ((0 : Int)).toNat).toInt := (by rw [f2414, upd_off (ne0 (ob_398 hp5))])
                  refine lv_aload_n hx hb dX9_unit_238 rfl (lv_at hl 6 rfl) ?_
                  refine lv_dup hx hb dX9_unit_239 rfl ?_
                  refine gM_X9_299_0 hx hb hG hown hK hP dX9_unit_240 ?_
                  refine lv_iconst (v := 1) hx hb dX9_unit_243 (by decide) ?_
                  refine lv_iadd hx hb dX9_unit_244 ?_
                  refine lv_topi (fun x2451 ex2451 => ?_)
                  have f2452 : x2451.toInt = i_within.toInt + 1 := (ob_142 (qi_add ex2451 rfl zc_1 (ob_140 hp3) (ob_399 hp4)))
                  refine pM_X9_299_0 hx hb hG hown hK hP hD hS dX9_unit_245 (fun H2453 locs hP hD hS => ?_)
                  refine lv_iconst (v := 1) hx hb dX9_unit_248 (by decide) ?_
                  rw [hQ]
                  exact W.zret (v := 1) hx hb hr (by decide) (fun t ht hW => ⟨⟨1, 1, rfl, rfl, ⟨i_faultKind, x2361, x2362, x2363, x2364, i_codes, x2451, x2410, x2354, f_code, z2411, z2412, J2352, L2365, by rw [ht]; exact hP, hD, hI2416, (ob_14 zc_1), (ob_15 zc_1), (fun _ => SPpush hp11 f2414 f2415 (ob_398 hp5) (ob_142 f2413) (Or.inl (ob_400 zc_1 f2452 zc_126 zc_7))), (ob_199 hp5 f2413), (ob_401 hp2 hp4 hp7 f2413), (ob_145 f2366), (ob_413 ie17 hp2 hp3 hp4 hp5 hp6 hp7 hp8 hp9 f1791 f2023 f2325 f2336 f2368 f2413 f2450 zc_40 zc_1 f2452 f2355)⟩⟩, hS.F ht⟩) hS.2.2 dX9_unit_249
                · skip
                  have f2454 : i_within.toInt = 7 := qi_eq c_2335 rfl zc_7
                  refine lv_aload_n hx hb dX9_unit_143 rfl (lv_at hl 5 rfl) ?_
                  have hFc := frA hD hS hA
                  refine va_callv (va_runV (As := []) (rest := []) ⟨hx, hb, hml, hown, hG⟩ (kX9_misplaced l dC dI r ct i_taped i_size i_faultKind i_at i_end i_token i_number i_bank i_rb i_codes i_within i_piled i_unitsInRule i_askHouse i_askTune i_acts i_undone i_laid i_knowns i_time f_text f_tunes f_houses f_hums f_told f_many f_ruleFrom f_ruleTo f_code f_eWhat f_eSign f_all f_kept f_was f_sTune f_boxAll J L H1794.size hI) (cwV 0 hG (goodV gw1420 gw1422 gw65 gw138 gw1423) rfl rfl rfl hd_X9_misplaced ⟨(Nat.le_of_ble_eq_true rfl), (Nat.le_of_ble_eq_true rfl)⟩) ⟨fbW, va_recv hK hP (ci := 8) (q0 := 0) rfl rfl, pW_in hP hK hD⟩ rfl rfl hl.1 rfl (lv_room (Nat.le_of_ble_eq_true rfl)) dX9_unit_144 ⟨(Nat.le_of_ble_eq_true rfl), (Nat.le_of_ble_eq_true rfl)⟩) hS (fun q _ h => hFc q h) hFc (fun _ t_ H2455 locs ht hvm hw hB hz1 hk1 hS => ?_)
                  obtain ⟨x2457, J2458, hP1, hD1, hI2460, f2459⟩ := hB
                  rw [ht] at hP1
                  have hP := hP1
                  have hD := dW hFc hD1
                  obtain ⟨im2461, im2462, im2463, im2464, im2465, im2466, im2467, im2468, im2469, im2470, im2471, im2472, im2473, im2474, im2475, im2476, im2477, im2478, im2479, im2480, im2481, im2482, im2483, im2484, im2485, im2486, im2487, im2488, im2489, im2490, im2491, im2492, im2493⟩ := id hI2460
                  refine lv_aload_n hx hb dX9_unit_147 rfl (lv_at hl 5 rfl) ?_
                  refine va_calli (va_runV (As := []) (rest := []) ⟨hx, hb, hml, hown, hG⟩ (kX9_isGood l dC dI r ct i_taped i_size x2457 i_at i_end i_token i_number i_bank i_rb i_codes i_within i_piled i_unitsInRule i_askHouse i_askTune i_acts i_undone i_laid i_knowns i_time f_text f_tunes f_houses f_hums f_told f_many f_ruleFrom f_ruleTo f_code f_eWhat f_eSign f_all f_kept f_was f_sTune f_boxAll J2458 L H2455.size hI2460) (cwV 0 hG (goodV gw1401 gw1403 gw61 gw138 gw1404) rfl rfl rfl hd_X9_isGood ⟨(Nat.le_of_ble_eq_true rfl), (Nat.le_of_ble_eq_true rfl)⟩) ⟨fbR, va_recv hK hP (ci := 8) (q0 := 0) rfl rfl, pR_in hP hK⟩ rfl rfl hl.1 rfl (lv_room (Nat.le_of_ble_eq_true rfl)) dX9_unit_148 ⟨(Nat.le_of_ble_eq_true rfl), (Nat.le_of_ble_eq_true rfl)⟩) hS (fun q hq h => absurd hq (Nat.not_lt.mpr h)) (fun q h => hA q (Nat.le_trans hS.1 h)) (fun r_2495 u_ t_ H2494 locs ht hvm hw hB hz1 hk1 hS => ?_)
                  subst hw
                  have hP := wk hP hk1
                  obtain ⟨f2496, f2497, f2498⟩ := hB
                  refine lv_if_ne (tgt := 156) hx hb dX9_unit_151 (by decide) (fun c_2499 => ((ob_231 (qi_ne c_2499 rfl zc_0) f2459 f2496)).elim) (fun c_2499 => ?_)
                  have f2500 : r_2495.toInt = 0 := qi_eq c_2499 rfl zc_0
                  have f2501 : x2457.toInt ≠ (0 : Int) := (ob_232 im2478 f2459)
                  have f2502 : (1 : Int) ≤ x2457.toInt := (ob_217 im2478 f2459)
                  have f2503 : r_2495.toInt = (0 : Int) := (ob_226 f2497 f2498 f2500)
                  refine lv_iconst (v := 1) hx hb dX9_unit_154 (by decide) ?_
                  rw [hQ]
                  exact W.zret (v := 1) hx hb hr (by decide) (fun t ht hW => ⟨⟨1, 1, rfl, rfl, ⟨x2457, i_at, i_end, i_token, i_number, i_codes, i_within, i_piled, i_unitsInRule, f_code, f_eWhat, f_eSign, J2458, L, by rw [ht]; exact hP, hD, hI2460, (ob_14 zc_1), (ob_15 zc_1), (fun h => ((ob_356 h im2478 f2459)).elim), (ob_357 hp5 hp7 hp8), (ob_358 hp2 hp4 hp7), (ob_146), (ob_359 f2459 zc_1)⟩⟩, hS.F ht⟩) hS.2.2 dX9_unit_155
        · skip
          have f2504 : i_unitsInRule.toInt = 30 := qi_eq c_2022 rfl zc_30
          refine lv_iconst (v := 1) hx hb dX9_unit_93 (by decide) ?_
          refine lv_goto (tgt := 98) hx hb dX9_unit_94 (by decide) ?_
          refine lv_istore (lv' := [(5, .int 1), (4, .int r_1795), (3, .int r_1790), (2, .int 0), (1, .int 0), (0, .ref (r 0))]) hx hb dX9_unit_98 hl (by decide) rfl (fun ls hl => ?_)
          refine lv_iload_n hx hb dX9_unit_100 rfl (lv_at hl 3 rfl) ?_
          refine lv_if_ne (tgt := 126) hx hb dX9_unit_101 (by decide) (fun c_2505 => absurd (by decide) c_2505) (fun c_2505 => ?_)
          refine lv_iload hx hb dX9_unit_104 (lv_at hl 1 rfl) ?_
          refine lv_if_ne (tgt := 121) hx hb dX9_unit_106 (by decide) (fun c_2506 => ?_) (fun c_2506 => ?_)
          · skip
            have f2507 : r_1795.toInt ≠ 0 := qi_ne c_2506 rfl zc_0
            have f2508 : (97 : Int) ≤ r_1795.toInt := (ob_352 f1796 f2507)
            have f2509 : r_1795.toInt ≤ (122 : Int) := (ob_353 f1796 f2507 f2508)
            have f2510 : i_token.toInt = (3 : Int) := (ob_354 f1796 f2507)
            have f2511 : (1 : Int) ≤ r_1795.toInt := (ob_355 f2508 f2509)
            refine lv_iload hx hb dX9_unit_121 (lv_at hl 0 rfl) ?_
            refine lv_if_ne (tgt := 143) hx hb dX9_unit_123 (by decide) (fun c_2512 => ?_) (fun c_2512 => absurd c_2512 (by decide))
            refine lv_aload_n hx hb dX9_unit_143 rfl (lv_at hl 5 rfl) ?_
            have hFc := frA hD hS hA
            refine va_callv (va_runV (As := []) (rest := []) ⟨hx, hb, hml, hown, hG⟩ (kX9_misplaced l dC dI r ct i_taped i_size i_faultKind i_at i_end i_token i_number i_bank i_rb i_codes i_within i_piled i_unitsInRule i_askHouse i_askTune i_acts i_undone i_laid i_knowns i_time f_text f_tunes f_houses f_hums f_told f_many f_ruleFrom f_ruleTo f_code f_eWhat f_eSign f_all f_kept f_was f_sTune f_boxAll J L H1794.size hI) (cwV 0 hG (goodV gw1420 gw1422 gw65 gw138 gw1423) rfl rfl rfl hd_X9_misplaced ⟨(Nat.le_of_ble_eq_true rfl), (Nat.le_of_ble_eq_true rfl)⟩) ⟨fbW, va_recv hK hP (ci := 8) (q0 := 0) rfl rfl, pW_in hP hK hD⟩ rfl rfl hl.1 rfl (lv_room (Nat.le_of_ble_eq_true rfl)) dX9_unit_144 ⟨(Nat.le_of_ble_eq_true rfl), (Nat.le_of_ble_eq_true rfl)⟩) hS (fun q _ h => hFc q h) hFc (fun _ t_ H2513 locs ht hvm hw hB hz1 hk1 hS => ?_)
            obtain ⟨x2515, J2516, hP1, hD1, hI2518, f2517⟩ := hB
            rw [ht] at hP1
            have hP := hP1
            have hD := dW hFc hD1
            obtain ⟨im2519, im2520, im2521, im2522, im2523, im2524, im2525, im2526, im2527, im2528, im2529, im2530, im2531, im2532, im2533, im2534, im2535, im2536, im2537, im2538, im2539, im2540, im2541, im2542, im2543, im2544, im2545, im2546, im2547, im2548, im2549, im2550, im2551⟩ := id hI2518
            refine lv_aload_n hx hb dX9_unit_147 rfl (lv_at hl 5 rfl) ?_
            refine va_calli (va_runV (As := []) (rest := []) ⟨hx, hb, hml, hown, hG⟩ (kX9_isGood l dC dI r ct i_taped i_size x2515 i_at i_end i_token i_number i_bank i_rb i_codes i_within i_piled i_unitsInRule i_askHouse i_askTune i_acts i_undone i_laid i_knowns i_time f_text f_tunes f_houses f_hums f_told f_many f_ruleFrom f_ruleTo f_code f_eWhat f_eSign f_all f_kept f_was f_sTune f_boxAll J2516 L H2513.size hI2518) (cwV 0 hG (goodV gw1401 gw1403 gw61 gw138 gw1404) rfl rfl rfl hd_X9_isGood ⟨(Nat.le_of_ble_eq_true rfl), (Nat.le_of_ble_eq_true rfl)⟩) ⟨fbR, va_recv hK hP (ci := 8) (q0 := 0) rfl rfl, pR_in hP hK⟩ rfl rfl hl.1 rfl (lv_room (Nat.le_of_ble_eq_true rfl)) dX9_unit_148 ⟨(Nat.le_of_ble_eq_true rfl), (Nat.le_of_ble_eq_true rfl)⟩) hS (fun q hq h => absurd hq (Nat.not_lt.mpr h)) (fun q h => hA q (Nat.le_trans hS.1 h)) (fun r_2553 u_ t_ H2552 locs ht hvm hw hB hz1 hk1 hS => ?_)
            subst hw
            have hP := wk hP hk1
            obtain ⟨f2554, f2555, f2556⟩ := hB
            refine lv_if_ne (tgt := 156) hx hb dX9_unit_151 (by decide) (fun c_2557 => ((ob_231 (qi_ne c_2557 rfl zc_0) f2517 f2554)).elim) (fun c_2557 => ?_)
            have f2558 : r_2553.toInt = 0 := qi_eq c_2557 rfl zc_0
            have f2559 : x2515.toInt ≠ (0 : Int) := (ob_232 im2536 f2517)
            have f2560 : (1 : Int) ≤ x2515.toInt := (ob_217 im2536 f2517)
            have f2561 : r_2553.toInt = (0 : Int) := (ob_226 f2555 f2556 f2558)
            refine lv_iconst (v := 1) hx hb dX9_unit_154 (by decide) ?_
            rw [hQ]
            exact W.zret (v := 1) hx hb hr (by decide) (fun t ht hW => ⟨⟨1, 1, rfl, rfl, ⟨x2515, i_at, i_end, i_token, i_number, i_codes, i_within, i_piled, i_unitsInRule, f_code, f_eWhat, f_eSign, J2516, L, by rw [ht]; exact hP, hD, hI2518, (ob_14 zc_1), (ob_15 zc_1), (fun h => ((ob_356 h im2536 f2517)).elim), (ob_357 hp5 hp7 hp8), (ob_358 hp2 hp4 hp7), (ob_146), (ob_359 f2517 zc_1)⟩⟩, hS.F ht⟩) hS.2.2 dX9_unit_155
          · skip
            have f2562 : r_1795.toInt = 0 := qi_eq c_2506 rfl zc_0
            have f2563 : r_1795.toInt = (0 : Int) := (ob_25 f2562)
            refine lv_aload_n hx hb dX9_unit_109 rfl (lv_at hl 5 rfl) ?_
            refine gM_X9_191_0 hx hb hG hown hK hP dX9_unit_110 ?_
            refine lv_iconst (v := 4) hx hb dX9_unit_113 (by decide) ?_
            refine lv_icmp_eq (tgt := 121) hx hb dX9_unit_114 (by decide) (fun c_2564 => ?_) (fun c_2564 => ?_)
            · skip
              have f2565 : i_token.toInt = 4 := qi_eq c_2564 rfl zc_4
              have f2566 : i_token.toInt ≠ (5 : Int) := (ob_361 f2565)
              have f2567 : r_1790.toInt = (0 : Int) := (ob_362 f1791 f2565 zc_40)
              have f2568 : i_token.toInt ≤ (4 : Int) := (ob_412 f2565)
              refine lv_iload hx hb dX9_unit_121 (lv_at hl 0 rfl) ?_
              refine lv_if_ne (tgt := 143) hx hb dX9_unit_123 (by decide) (fun c_2569 => ?_) (fun c_2569 => absurd c_2569 (by decide))
              refine lv_aload_n hx hb dX9_unit_143 rfl (lv_at hl 5 rfl) ?_
              have hFc := frA hD hS hA
              refine va_callv (va_runV (As := []) (rest := []) ⟨hx, hb, hml, hown, hG⟩ (kX9_misplaced l dC dI r ct i_taped i_size i_faultKind i_at i_end i_token i_number i_bank i_rb i_codes i_within i_piled i_unitsInRule i_askHouse i_askTune i_acts i_undone i_laid i_knowns i_time f_text f_tunes f_houses f_hums f_told f_many f_ruleFrom f_ruleTo f_code f_eWhat f_eSign f_all f_kept f_was f_sTune f_boxAll J L H1794.size hI) (cwV 0 hG (goodV gw1420 gw1422 gw65 gw138 gw1423) rfl rfl rfl hd_X9_misplaced ⟨(Nat.le_of_ble_eq_true rfl), (Nat.le_of_ble_eq_true rfl)⟩) ⟨fbW, va_recv hK hP (ci := 8) (q0 := 0) rfl rfl, pW_in hP hK hD⟩ rfl rfl hl.1 rfl (lv_room (Nat.le_of_ble_eq_true rfl)) dX9_unit_144 ⟨(Nat.le_of_ble_eq_true rfl), (Nat.le_of_ble_eq_true rfl)⟩) hS (fun q _ h => hFc q h) hFc (fun _ t_ H2570 locs ht hvm hw hB hz1 hk1 hS => ?_)
              obtain ⟨x2572, J2573, hP1, hD1, hI2575, f2574⟩ := hB
              rw [ht] at hP1
              have hP := hP1
              have hD := dW hFc hD1
              obtain ⟨im2576, im2577, im2578, im2579, im2580, im2581, im2582, im2583, im2584, im2585, im2586, im2587, im2588, im2589, im2590, im2591, im2592, im2593, im2594, im2595, im2596, im2597, im2598, im2599, im2600, im2601, im2602, im2603, im2604, im2605, im2606, im2607, im2608⟩ := id hI2575
              refine lv_aload_n hx hb dX9_unit_147 rfl (lv_at hl 5 rfl) ?_
              refine va_calli (va_runV (As := []) (rest := []) ⟨hx, hb, hml, hown, hG⟩ (kX9_isGood l dC dI r ct i_taped i_size x2572 i_at i_end i_token i_number i_bank i_rb i_codes i_within i_piled i_unitsInRule i_askHouse i_askTune i_acts i_undone i_laid i_knowns i_time f_text f_tunes f_houses f_hums f_told f_many f_ruleFrom f_ruleTo f_code f_eWhat f_eSign f_all f_kept f_was f_sTune f_boxAll J2573 L H2570.size hI2575) (cwV 0 hG (goodV gw1401 gw1403 gw61 gw138 gw1404) rfl rfl rfl hd_X9_isGood ⟨(Nat.le_of_ble_eq_true rfl), (Nat.le_of_ble_eq_true rfl)⟩) ⟨fbR, va_recv hK hP (ci := 8) (q0 := 0) rfl rfl, pR_in hP hK⟩ rfl rfl hl.1 rfl (lv_room (Nat.le_of_ble_eq_true rfl)) dX9_unit_148 ⟨(Nat.le_of_ble_eq_true rfl), (Nat.le_of_ble_eq_true rfl)⟩) hS (fun q hq h => absurd hq (Nat.not_lt.mpr h)) (fun q h => hA q (Nat.le_trans hS.1 h)) (fun r_2610 u_ t_ H2609 locs ht hvm hw hB hz1 hk1 hS => ?_)
              subst hw
              have hP := wk hP hk1
              obtain ⟨f2611, f2612, f2613⟩ := hB
              refine lv_if_ne (tgt := 156) hx hb dX9_unit_151 (by decide) (fun c_2614 => ((ob_231 (qi_ne c_2614 rfl zc_0) f2574 f2611)).elim) (fun c_2614 => ?_)
              have f2615 : r_2610.toInt = 0 := qi_eq c_2614 rfl zc_0
              have f2616 : x2572.toInt ≠ (0 : Int) := (ob_232 im2593 f2574)
              have f2617 : (1 : Int) ≤ x2572.toInt := (ob_217 im2593 f2574)
              have f2618 : r_2610.toInt = (0 : Int) := (ob_226 f2612 f2613 f2615)
              refine lv_iconst (v := 1) hx hb dX9_unit_154 (by decide) ?_
              rw [hQ]
              exact W.zret (v := 1) hx hb hr (by decide) (fun t ht hW => ⟨⟨1, 1, rfl, rfl, ⟨x2572, i_at, i_end, i_token, i_number, i_codes, i_within, i_piled, i_unitsInRule, f_code, f_eWhat, f_eSign, J2573, L, by rw [ht]; exact hP, hD, hI2575, (ob_14 zc_1), (ob_15 zc_1), (fun h => ((ob_356 h im2593 f2574)).elim), (ob_357 hp5 hp7 hp8), (ob_358 hp2 hp4 hp7), (ob_146), (ob_359 f2574 zc_1)⟩⟩, hS.F ht⟩) hS.2.2 dX9_unit_155
            · skip
              have f2619 : i_token.toInt ≠ 4 := qi_ne c_2564 rfl zc_4
              refine lv_iload_n hx hb dX9_unit_117 rfl (lv_at hl 2 rfl) ?_
              refine lv_if_eq (tgt := 143) hx hb dX9_unit_118 (by decide) (fun c_2620 => ?_) (fun c_2620 => ?_)
              · skip
                have f2621 : r_1790.toInt = 0 := qi_eq c_2620 rfl zc_0
                refine lv_aload_n hx hb dX9_unit_143 rfl (lv_at hl 5 rfl) ?_
                have hFc := frA hD hS hA
                refine va_callv (va_runV (As := []) (rest := []) ⟨hx, hb, hml, hown, hG⟩ (kX9_misplaced l dC dI r ct i_taped i_size i_faultKind i_at i_end i_token i_number i_bank i_rb i_codes i_within i_piled i_unitsInRule i_askHouse i_askTune i_acts i_undone i_laid i_knowns i_time f_text f_tunes f_houses f_hums f_told f_many f_ruleFrom f_ruleTo f_code f_eWhat f_eSign f_all f_kept f_was f_sTune f_boxAll J L H1794.size hI) (cwV 0 hG (goodV gw1420 gw1422 gw65 gw138 gw1423) rfl rfl rfl hd_X9_misplaced ⟨(Nat.le_of_ble_eq_true rfl), (Nat.le_of_ble_eq_true rfl)⟩) ⟨fbW, va_recv hK hP (ci := 8) (q0 := 0) rfl rfl, pW_in hP hK hD⟩ rfl rfl hl.1 rfl (lv_room (Nat.le_of_ble_eq_true rfl)) dX9_unit_144 ⟨(Nat.le_of_ble_eq_true rfl), (Nat.le_of_ble_eq_true rfl)⟩) hS (fun q _ h => hFc q h) hFc (fun _ t_ H2622 locs ht hvm hw hB hz1 hk1 hS => ?_)
                obtain ⟨x2624, J2625, hP1, hD1, hI2627, f2626⟩ := hB
                rw [ht] at hP1
                have hP := hP1
                have hD := dW hFc hD1
                obtain ⟨im2628, im2629, im2630, im2631, im2632, im2633, im2634, im2635, im2636, im2637, im2638, im2639, im2640, im2641, im2642, im2643, im2644, im2645, im2646, im2647, im2648, im2649, im2650, im2651, im2652, im2653, im2654, im2655, im2656, im2657, im2658, im2659, im2660⟩ := id hI2627
                refine lv_aload_n hx hb dX9_unit_147 rfl (lv_at hl 5 rfl) ?_
                refine va_calli (va_runV (As := []) (rest := []) ⟨hx, hb, hml, hown, hG⟩ (kX9_isGood l dC dI r ct i_taped i_size x2624 i_at i_end i_token i_number i_bank i_rb i_codes i_within i_piled i_unitsInRule i_askHouse i_askTune i_acts i_undone i_laid i_knowns i_time f_text f_tunes f_houses f_hums f_told f_many f_ruleFrom f_ruleTo f_code f_eWhat f_eSign f_all f_kept f_was f_sTune f_boxAll J2625 L H2622.size hI2627) (cwV 0 hG (goodV gw1401 gw1403 gw61 gw138 gw1404) rfl rfl rfl hd_X9_isGood ⟨(Nat.le_of_ble_eq_true rfl), (Nat.le_of_ble_eq_true rfl)⟩) ⟨fbR, va_recv hK hP (ci := 8) (q0 := 0) rfl rfl, pR_in hP hK⟩ rfl rfl hl.1 rfl (lv_room (Nat.le_of_ble_eq_true rfl)) dX9_unit_148 ⟨(Nat.le_of_ble_eq_true rfl), (Nat.le_of_ble_eq_true rfl)⟩) hS (fun q hq h => absurd hq (Nat.not_lt.mpr h)) (fun q h => hA q (Nat.le_trans hS.1 h)) (fun r_2662 u_ t_ H2661 locs ht hvm hw hB hz1 hk1 hS => ?_)
                subst hw
                have hP := wk hP hk1
                obtain ⟨f2663, f2664, f2665⟩ := hB
                refine lv_if_ne (tgt := 156) hx hb dX9_unit_151 (by decide) (fun c_2666 => ((ob_231 (qi_ne c_2666 rfl zc_0) f2626 f2663)).elim) (fun c_2666 => ?_)
                have f2667 : r_2662.toInt = 0 := qi_eq c_2666 rfl zc_0
                have f2668 : x2624.toInt ≠ (0 : Int) := (ob_232 im2645 f2626)
                have f2669 : (1 : Int) ≤ x2624.toInt := (ob_217 im2645 f2626)
                have f2670 : r_2662.toInt = (0 : Int) := (ob_226 f2664 f2665 f2667)
                refine lv_iconst (v := 1) hx hb dX9_unit_154 (by decide) ?_
                rw [hQ]
                exact W.zret (v := 1) hx hb hr (by decide) (fun t ht hW => ⟨⟨1, 1, rfl, rfl, ⟨x2624, i_at, i_end, i_token, i_number, i_codes, i_within, i_piled, i_unitsInRule, f_code, f_eWhat, f_eSign, J2625, L, by rw [ht]; exact hP, hD, hI2627, (ob_14 zc_1), (ob_15 zc_1), (fun h => ((ob_356 h im2645 f2626)).elim), (ob_357 hp5 hp7 hp8), (ob_358 hp2 hp4 hp7), (ob_146), (ob_359 f2626 zc_1)⟩⟩, hS.F ht⟩) hS.2.2 dX9_unit_155
              · skip
                have f2671 : r_1790.toInt ≠ 0 := qi_ne c_2620 rfl zc_0
                have f2672 : i_token.toInt = (5 : Int) := (ob_365 f1791 f2671 zc_40)
                have f2673 : (sgz f_text i_size.toInt i_at.toInt) = (40 : Int) := (ob_366 f1791 f2671 zc_40)
                have f2674 : r_1790.toInt = (1 : Int) := (ob_367 f1791 f2671 zc_40)
                have f2675 : (1 : Int) ≤ r_1790.toInt := (ob_162 f1792 f1793 f2674)
                refine lv_iload hx hb dX9_unit_121 (lv_at hl 0 rfl) ?_
                refine lv_if_ne (tgt := 143) hx hb dX9_unit_123 (by decide) (fun c_2676 => ?_) (fun c_2676 => absurd c_2676 (by decide))
                refine lv_aload_n hx hb dX9_unit_143 rfl (lv_at hl 5 rfl) ?_
                have hFc := frA hD hS hA
                refine va_callv (va_runV (As := []) (rest := []) ⟨hx, hb, hml, hown, hG⟩ (kX9_misplaced l dC dI r ct i_taped i_size i_faultKind i_at i_end i_token i_number i_bank i_rb i_codes i_within i_piled i_unitsInRule i_askHouse i_askTune i_acts i_undone i_laid i_knowns i_time f_text f_tunes f_houses f_hums f_told f_many f_ruleFrom f_ruleTo f_code f_eWhat f_eSign f_all f_kept f_was f_sTune f_boxAll J L H1794.size hI) (cwV 0 hG (goodV gw1420 gw1422 gw65 gw138 gw1423) rfl rfl rfl hd_X9_misplaced ⟨(Nat.le_of_ble_eq_true rfl), (Nat.le_of_ble_eq_true rfl)⟩) ⟨fbW, va_recv hK hP (ci := 8) (q0 := 0) rfl rfl, pW_in hP hK hD⟩ rfl rfl hl.1 rfl (lv_room (Nat.le_of_ble_eq_true rfl)) dX9_unit_144 ⟨(Nat.le_of_ble_eq_true rfl), (Nat.le_of_ble_eq_true rfl)⟩) hS (fun q _ h => hFc q h) hFc (fun _ t_ H2677 locs ht hvm hw hB hz1 hk1 hS => ?_)
                obtain ⟨x2679, J2680, hP1, hD1, hI2682, f2681⟩ := hB
                rw [ht] at hP1
                have hP := hP1
                have hD := dW hFc hD1
                obtain ⟨im2683, im2684, im2685, im2686, im2687, im2688, im2689, im2690, im2691, im2692, im2693, im2694, im2695, im2696, im2697, im2698, im2699, im2700, im2701, im2702, im2703, im2704, im2705, im2706, im2707, im2708, im2709, im2710, im2711, im2712, im2713, im2714, im2715⟩ := id hI2682
                refine lv_aload_n hx hb dX9_unit_147 rfl (lv_at hl 5 rfl) ?_
                refine va_calli (va_runV (As := []) (rest := []) ⟨hx, hb, hml, hown, hG⟩ (kX9_isGood l dC dI r ct i_taped i_size x2679 i_at i_end i_token i_number i_bank i_rb i_codes i_within i_piled i_unitsInRule i_askHouse i_askTune i_acts i_undone i_laid i_knowns i_time f_text f_tunes f_houses f_hums f_told f_many f_ruleFrom f_ruleTo f_code f_eWhat f_eSign f_all f_kept f_was f_sTune f_boxAll J2680 L H2677.size hI2682) (cwV 0 hG (goodV gw1401 gw1403 gw61 gw138 gw1404) rfl rfl rfl hd_X9_isGood ⟨(Nat.le_of_ble_eq_true rfl), (Nat.le_of_ble_eq_true rfl)⟩) ⟨fbR, va_recv hK hP (ci := 8) (q0 := 0) rfl rfl, pR_in hP hK⟩ rfl rfl hl.1 rfl (lv_room (Nat.le_of_ble_eq_true rfl)) dX9_unit_148 ⟨(Nat.le_of_ble_eq_true rfl), (Nat.le_of_ble_eq_true rfl)⟩) hS (fun q hq h => absurd hq (Nat.not_lt.mpr h)) (fun q h => hA q (Nat.le_trans hS.1 h)) (fun r_2717 u_ t_ H2716 locs ht hvm hw hB hz1 hk1 hS => ?_)
                subst hw
                have hP := wk hP hk1
                obtain ⟨f2718, f2719, f2720⟩ := hB
                refine lv_if_ne (tgt := 156) hx hb dX9_unit_151 (by decide) (fun c_2721 => ((ob_231 (qi_ne c_2721 rfl zc_0) f2681 f2718)).elim) (fun c_2721 => ?_)
                have f2722 : r_2717.toInt = 0 := qi_eq c_2721 rfl zc_0
                have f2723 : x2679.toInt ≠ (0 : Int) := (ob_232 im2700 f2681)
                have f2724 : (1 : Int) ≤ x2679.toInt := (ob_217 im2700 f2681)
                have f2725 : r_2717.toInt = (0 : Int) := (ob_226 f2719 f2720 f2722)
                refine lv_iconst (v := 1) hx hb dX9_unit_154 (by decide) ?_
                rw [hQ]
                exact W.zret (v := 1) hx hb hr (by decide) (fun t ht hW => ⟨⟨1, 1, rfl, rfl, ⟨x2679, i_at, i_end, i_token, i_number, i_codes, i_within, i_piled, i_unitsInRule, f_code, f_eWhat, f_eSign, J2680, L, by rw [ht]; exact hP, hD, hI2682, (ob_14 zc_1), (ob_15 zc_1), (fun h => ((ob_356 h im2700 f2681)).elim), (ob_357 hp5 hp7 hp8), (ob_358 hp2 hp4 hp7), (ob_146), (ob_359 f2681 zc_1)⟩⟩, hS.F ht⟩) hS.2.2 dX9_unit_155
    · skip
      have f2726 : 7 ≤ (f_eWhat (i_piled.toInt + (-1)).toNat).toInt := qi_nlt c_1785 rfl zc_7
      refine lv_iconst (v := 1) hx hb dX9_unit_31 (by decide) ?_
      refine lv_goto (tgt := 36) hx hb dX9_unit_32 (by decide) ?_
      refine lv_istore_n (lv' := [(1, .int 1), (0, .ref (r 0))]) hx hb dX9_unit_36 rfl hl (by decide) rfl (fun ls hl => ?_)
      refine lv_iload_n hx hb dX9_unit_37 rfl (lv_at hl 0 rfl) ?_
      refine lv_if_eq (tgt := 55) hx hb dX9_unit_38 (by decide) (fun c_2727 => absurd c_2727 (by decide)) (fun c_2727 => ?_)
      refine lv_aload_n hx hb dX9_unit_41 rfl (lv_at hl 1 rfl) ?_
      refine lv_ldc2 (v := 7237492) hx hb hown (hG _ gw1394) dX9_unit_42 ?_
      refine va_calli (va_runV (As := [.long (7237492 : Int64)]) (rest := []) ⟨hx, hb, hml, hown, hG⟩ (kX9_isWord l dC dI r ct i_taped i_size i_faultKind i_at i_end i_token i_number i_bank i_rb i_codes i_within i_piled i_unitsInRule i_askHouse i_askTune i_acts i_undone i_laid i_knowns i_time f_text f_tunes f_houses f_hums f_told f_many f_ruleFrom f_ruleTo f_code f_eWhat f_eSign f_all f_kept f_was f_sTune f_boxAll J L (7237492 : Int64) s.heap.size hI) (cwV 1 hG (goodV gw1413 gw1415 gw64 gw138 gw1416) rfl rfl rfl hd_X9_isWord ⟨(Nat.le_of_ble_eq_true rfl), (Nat.le_of_ble_eq_true rfl)⟩) ⟨fbR, va_recv hK hP (ci := 8) (q0 := 0) rfl rfl, pR_in hP hK⟩ rfl rfl hl.1 rfl (lv_room (Nat.le_of_ble_eq_true rfl)) dX9_unit_45 ⟨(Nat.le_of_ble_eq_true rfl), (Nat.le_of_ble_eq_true rfl)⟩) hS (fun q hq h => absurd hq (Nat.not_lt.mpr h)) (fun q h => hA q (Nat.le_trans hS.1 h)) (fun r_2729 u_ t_ H2728 locs ht hvm hw hB hz1 hk1 hS => ?_)
      subst hw
      have hP := wk hP hk1
      obtain ⟨f2730, f2731, f2732⟩ := hB
      refine lv_if_eq (tgt := 55) hx hb dX9_unit_48 (by decide) (fun c_2733 => ?_) (fun c_2733 => ?_)
      · skip
        have f2734 : r_2729.toInt = 0 := qi_eq c_2733 rfl zc_0
        refine lv_iconst (v := 0) hx hb dX9_unit_55 (by decide) ?_
        refine lv_istore_n (lv' := [(2, .int 0), (1, .int 1), (0, .ref (r 0))]) hx hb dX9_unit_56 rfl hl (by decide) rfl (fun ls hl => ?_)
        refine lv_aload_n hx hb dX9_unit_57 rfl (lv_at hl 2 rfl) ?_
        refine lv_bipush (v := 40) hx hb dX9_unit_58 (by decide) ?_
        refine va_calli (va_runV (As := [.int 40]) (rest := []) ⟨hx, hb, hml, hown, hG⟩ (kX9_isSignHere l dC dI r ct i_taped i_size i_faultKind i_at i_end i_token i_number i_bank i_rb i_codes i_within i_piled i_unitsInRule i_askHouse i_askTune i_acts i_undone i_laid i_knowns i_time f_text f_tunes f_houses f_hums f_told f_many f_ruleFrom f_ruleTo f_code f_eWhat f_eSign f_all f_kept f_was f_sTune f_boxAll J L 40 H2728.size hI) (cwV 1 hG (goodV gw1476 gw1478 gw79 gw138 gw1479) rfl rfl rfl hd_X9_isSignHere ⟨(Nat.le_of_ble_eq_true rfl), (Nat.le_of_ble_eq_true rfl)⟩) ⟨fbR, va_recv hK hP (ci := 8) (q0 := 0) rfl rfl, pR_in hP hK⟩ rfl rfl hl.1 rfl (lv_room (Nat.le_of_ble_eq_true rfl)) dX9_unit_60 ⟨(Nat.le_of_ble_eq_true rfl), (Nat.le_of_ble_eq_true rfl)⟩) hS (fun q hq h => absurd hq (Nat.not_lt.mpr h)) (fun q h => hA q (Nat.le_trans hS.1 h)) (fun r_2736 u_ t_ H2735 locs ht hvm hw hB hz1 hk1 hS => ?_)
        subst hw
        have hP := wk hP hk1
        obtain ⟨f2737, f2738, f2739⟩ := hB
        refine lv_istore_n (lv' := [(3, .int r_2736), (2, .int 0), (1, .int 1), (0, .ref (r 0))]) hx hb dX9_unit_63 rfl hl (by decide) rfl (fun ls hl => ?_)
        refine lv_aload_n hx hb dX9_unit_64 rfl (lv_at hl 3 rfl) ?_
        refine va_calli (va_runV (As := []) (rest := []) ⟨hx, hb, hml, hown, hG⟩ (kX9_wordHere l dC dI r ct i_taped i_size i_faultKind i_at i_end i_token i_number i_bank i_rb i_codes i_within i_piled i_unitsInRule i_askHouse i_askTune i_acts i_undone i_laid i_knowns i_time f_text f_tunes f_houses f_hums f_told f_many f_ruleFrom f_ruleTo f_code f_eWhat f_eSign f_all f_kept f_was f_sTune f_boxAll J L H2735.size hI) (cwV 0 hG (goodV gw1480 gw1482 gw80 gw138 gw1483) rfl rfl rfl hd_X9_wordHere ⟨(Nat.le_of_ble_eq_true rfl), (Nat.le_of_ble_eq_true rfl)⟩) ⟨fbR, va_recv hK hP (ci := 8) (q0 := 0) rfl rfl, pR_in hP hK⟩ rfl rfl hl.1 rfl (lv_room (Nat.le_of_ble_eq_true rfl)) dX9_unit_65 ⟨(Nat.le_of_ble_eq_true rfl), (Nat.le_of_ble_eq_true rfl)⟩) hS (fun q hq h => absurd hq (Nat.not_lt.mpr h)) (fun q h => hA q (Nat.le_trans hS.1 h)) (fun r_2741 u_ t_ H2740 locs ht hvm hw hB hz1 hk1 hS => ?_)
        subst hw
        have hP := wk hP hk1
        have f2742 := hB
        refine lv_istore (lv' := [(4, .int r_2741), (3, .int r_2736), (2, .int 0), (1, .int 1), (0, .ref (r 0))]) hx hb dX9_unit_68 hl (by decide) rfl (fun ls hl => ?_)
        refine lv_aload_n hx hb dX9_unit_70 rfl (lv_at hl 4 rfl) ?_
        refine gM_X9_30_0 hx hb hG hown hK hP dX9_unit_71 ?_
        refine lv_aload_n hx hb dX9_unit_74 rfl (lv_at hl 4 rfl) ?_
        refine gM_X9_240_0 hx hb hG hown hK hP dX9_unit_75 ?_
        refine ldM_6 (mm := i_rb.toInt) hx hb hK hP rfl (ob_350 ie6) (ob_351 ie7) dX9_unit_78 (fun x2743 => ?_)
        refine lv_bipush (v := 60) hx hb dX9_unit_79 (by decide) ?_
        refine lv_icmp_eq (tgt := 93) hx hb dX9_unit_81 (by decide) (fun c_2744 => ?_) (fun c_2744 => ?_)
        · skip
          have f2745 : x2743.toInt = 60 := qi_eq c_2744 rfl zc_60
          refine lv_iconst (v := 1) hx hb dX9_unit_93 (by decide) ?_
          refine lv_goto (tgt := 98) hx hb dX9_unit_94 (by decide) ?_
          refine lv_istore (lv' := [(5, .int 1), (4, .int r_2741), (3, .int r_2736), (2, .int 0), (1, .int 1), (0, .ref (r 0))]) hx hb dX9_unit_98 hl (by decide) rfl (fun ls hl => ?_)
          refine lv_iload_n hx hb dX9_unit_100 rfl (lv_at hl 3 rfl) ?_
          refine lv_if_ne (tgt := 126) hx hb dX9_unit_101 (by decide) (fun c_2746 => absurd (by decide) c_2746) (fun c_2746 => ?_)
          refine lv_iload hx hb dX9_unit_104 (lv_at hl 1 rfl) ?_
          refine lv_if_ne (tgt := 121) hx hb dX9_unit_106 (by decide) (fun c_2747 => ?_) (fun c_2747 => ?_)
          · skip
            have f2748 : r_2741.toInt ≠ 0 := qi_ne c_2747 rfl zc_0
            have f2749 : (97 : Int) ≤ r_2741.toInt := (ob_352 f2742 f2748)
            have f2750 : r_2741.toInt ≤ (122 : Int) := (ob_353 f2742 f2748 f2749)
            have f2751 : i_token.toInt = (3 : Int) := (ob_354 f2742 f2748)
            have f2752 : (1 : Int) ≤ r_2741.toInt := (ob_355 f2749 f2750)
            refine lv_iload hx hb dX9_unit_121 (lv_at hl 0 rfl) ?_
            refine lv_if_ne (tgt := 143) hx hb dX9_unit_123 (by decide) (fun c_2753 => ?_) (fun c_2753 => absurd c_2753 (by decide))
            refine lv_aload_n hx hb dX9_unit_143 rfl (lv_at hl 5 rfl) ?_
            have hFc := frA hD hS hA
            refine va_callv (va_runV (As := []) (rest := []) ⟨hx, hb, hml, hown, hG⟩ (kX9_misplaced l dC dI r ct i_taped i_size i_faultKind i_at i_end i_token i_number i_bank i_rb i_codes i_within i_piled i_unitsInRule i_askHouse i_askTune i_acts i_undone i_laid i_knowns i_time f_text f_tunes f_houses f_hums f_told f_many f_ruleFrom f_ruleTo f_code f_eWhat f_eSign f_all f_kept f_was f_sTune f_boxAll J L H2740.size hI) (cwV 0 hG (goodV gw1420 gw1422 gw65 gw138 gw1423) rfl rfl rfl hd_X9_misplaced ⟨(Nat.le_of_ble_eq_true rfl), (Nat.le_of_ble_eq_true rfl)⟩) ⟨fbW, va_recv hK hP (ci := 8) (q0 := 0) rfl rfl, pW_in hP hK hD⟩ rfl rfl hl.1 rfl (lv_room (Nat.le_of_ble_eq_true rfl)) dX9_unit_144 ⟨(Nat.le_of_ble_eq_true rfl), (Nat.le_of_ble_eq_true rfl)⟩) hS (fun q _ h => hFc q h) hFc (fun _ t_ H2754 locs ht hvm hw hB hz1 hk1 hS => ?_)
            obtain ⟨x2756, J2757, hP1, hD1, hI2759, f2758⟩ := hB
            rw [ht] at hP1
            have hP := hP1
            have hD := dW hFc hD1
            obtain ⟨im2760, im2761, im2762, im2763, im2764, im2765, im2766, im2767, im2768, im2769, im2770, im2771, im2772, im2773, im2774, im2775, im2776, im2777, im2778, im2779, im2780, im2781, im2782, im2783, im2784, im2785, im2786, im2787, im2788, im2789, im2790, im2791, im2792⟩ := id hI2759
            refine lv_aload_n hx hb dX9_unit_147 rfl (lv_at hl 5 rfl) ?_
            refine va_calli (va_runV (As := []) (rest := []) ⟨hx, hb, hml, hown, hG⟩ (kX9_isGood l dC dI r ct i_taped i_size x2756 i_at i_end i_token i_number i_bank i_rb i_codes i_within i_piled i_unitsInRule i_askHouse i_askTune i_acts i_undone i_laid i_knowns i_time f_text f_tunes f_houses f_hums f_told f_many f_ruleFrom f_ruleTo f_code f_eWhat f_eSign f_all f_kept f_was f_sTune f_boxAll J2757 L H2754.size hI2759) (cwV 0 hG (goodV gw1401 gw1403 gw61 gw138 gw1404) rfl rfl rfl hd_X9_isGood ⟨(Nat.le_of_ble_eq_true rfl), (Nat.le_of_ble_eq_true rfl)⟩) ⟨fbR, va_recv hK hP (ci := 8) (q0 := 0) rfl rfl, pR_in hP hK⟩ rfl rfl hl.1 rfl (lv_room (Nat.le_of_ble_eq_true rfl)) dX9_unit_148 ⟨(Nat.le_of_ble_eq_true rfl), (Nat.le_of_ble_eq_true rfl)⟩) hS (fun q hq h => absurd hq (Nat.not_lt.mpr h)) (fun q h => hA q (Nat.le_trans hS.1 h)) (fun r_2794 u_ t_ H2793 locs ht hvm hw hB hz1 hk1 hS => ?_)
            subst hw
            have hP := wk hP hk1
            obtain ⟨f2795, f2796, f2797⟩ := hB
            refine lv_if_ne (tgt := 156) hx hb dX9_unit_151 (by decide) (fun c_2798 => ((ob_231 (qi_ne c_2798 rfl zc_0) f2758 f2795)).elim) (fun c_2798 => ?_)
            have f2799 : r_2794.toInt = 0 := qi_eq c_2798 rfl zc_0
            have f2800 : x2756.toInt ≠ (0 : Int) := (ob_232 im2777 f2758)
            have f2801 : (1 : Int) ≤ x2756.toInt := (ob_217 im2777 f2758)
            have f2802 : r_2794.toInt = (0 : Int) := (ob_226 f2796 f2797 f2799)
            refine lv_iconst (v := 1) hx hb dX9_unit_154 (by decide) ?_
            rw [hQ]
            exact W.zret (v := 1) hx hb hr (by decide) (fun t ht hW => ⟨⟨1, 1, rfl, rfl, ⟨x2756, i_at, i_end, i_token, i_number, i_codes, i_within, i_piled, i_unitsInRule, f_code, f_eWhat, f_eSign, J2757, L, by rw [ht]; exact hP, hD, hI2759, (ob_14 zc_1), (ob_15 zc_1), (fun h => ((ob_356 h im2777 f2758)).elim), (ob_357 hp5 hp7 hp8), (ob_358 hp2 hp4 hp7), (ob_146), (ob_359 f2758 zc_1)⟩⟩, hS.F ht⟩) hS.2.2 dX9_unit_155
          · skip
            have f2803 : r_2741.toInt = 0 := qi_eq c_2747 rfl zc_0
            have f2804 : r_2741.toInt = (0 : Int) := (ob_25 f2803)
            refine lv_aload_n hx hb dX9_unit_109 rfl (lv_at hl 5 rfl) ?_
            refine gM_X9_191_0 hx hb hG hown hK hP dX9_unit_110 ?_
            refine lv_iconst (v := 4) hx hb dX9_unit_113 (by decide) ?_
            refine lv_icmp_eq (tgt := 121) hx hb dX9_unit_114 (by decide) (fun c_2805 => ?_) (fun c_2805 => ?_)
            · skip
              have f2806 : i_token.toInt = 4 := qi_eq c_2805 rfl zc_4
              have f2807 : i_token.toInt ≠ (3 : Int) := (ob_360 f2806)
              have f2808 : r_2729.toInt = (0 : Int) := (ob_226 f2731 f2732 f2734)
              have f2809 : i_token.toInt ≠ (5 : Int) := (ob_361 f2806)
              have f2810 : r_2736.toInt = (0 : Int) := (ob_362 f2737 f2806 zc_40)
              have f2811 : (4 : Int) ≤ i_token.toInt := (ob_363 f2806)
              have f2812 : i_token.toInt ≤ (4 : Int) := (ob_364 f2806 f2811)
              refine lv_iload hx hb dX9_unit_121 (lv_at hl 0 rfl) ?_
              refine lv_if_ne (tgt := 143) hx hb dX9_unit_123 (by decide) (fun c_2813 => ?_) (fun c_2813 => absurd c_2813 (by decide))
              refine lv_aload_n hx hb dX9_unit_143 rfl (lv_at hl 5 rfl) ?_
              have hFc := frA hD hS hA
              refine va_callv (va_runV (As := []) (rest := []) ⟨hx, hb, hml, hown, hG⟩ (kX9_misplaced l dC dI r ct i_taped i_size i_faultKind i_at i_end i_token i_number i_bank i_rb i_codes i_within i_piled i_unitsInRule i_askHouse i_askTune i_acts i_undone i_laid i_knowns i_time f_text f_tunes f_houses f_hums f_told f_many f_ruleFrom f_ruleTo f_code f_eWhat f_eSign f_all f_kept f_was f_sTune f_boxAll J L H2740.size hI) (cwV 0 hG (goodV gw1420 gw1422 gw65 gw138 gw1423) rfl rfl rfl hd_X9_misplaced ⟨(Nat.le_of_ble_eq_true rfl), (Nat.le_of_ble_eq_true rfl)⟩) ⟨fbW, va_recv hK hP (ci := 8) (q0 := 0) rfl rfl, pW_in hP hK hD⟩ rfl rfl hl.1 rfl (lv_room (Nat.le_of_ble_eq_true rfl)) dX9_unit_144 ⟨(Nat.le_of_ble_eq_true rfl), (Nat.le_of_ble_eq_true rfl)⟩) hS (fun q _ h => hFc q h) hFc (fun _ t_ H2814 locs ht hvm hw hB hz1 hk1 hS => ?_)
              obtain ⟨x2816, J2817, hP1, hD1, hI2819, f2818⟩ := hB
              rw [ht] at hP1
              have hP := hP1
              have hD := dW hFc hD1
              obtain ⟨im2820, im2821, im2822, im2823, im2824, im2825, im2826, im2827, im2828, im2829, im2830, im2831, im2832, im2833, im2834, im2835, im2836, im2837, im2838, im2839, im2840, im2841, im2842, im2843, im2844, im2845, im2846, im2847, im2848, im2849, im2850, im2851, im2852⟩ := id hI2819
              refine lv_aload_n hx hb dX9_unit_147 rfl (lv_at hl 5 rfl) ?_
              refine va_calli (va_runV (As := []) (rest := []) ⟨hx, hb, hml, hown, hG⟩ (kX9_isGood l dC dI r ct i_taped i_size x2816 i_at i_end i_token i_number i_bank i_rb i_codes i_within i_piled i_unitsInRule i_askHouse i_askTune i_acts i_undone i_laid i_knowns i_time f_text f_tunes f_houses f_hums f_told f_many f_ruleFrom f_ruleTo f_code f_eWhat f_eSign f_all f_kept f_was f_sTune f_boxAll J2817 L H2814.size hI2819) (cwV 0 hG (goodV gw1401 gw1403 gw61 gw138 gw1404) rfl rfl rfl hd_X9_isGood ⟨(Nat.le_of_ble_eq_true rfl), (Nat.le_of_ble_eq_true rfl)⟩) ⟨fbR, va_recv hK hP (ci := 8) (q0 := 0) rfl rfl, pR_in hP hK⟩ rfl rfl hl.1 rfl (lv_room (Nat.le_of_ble_eq_true rfl)) dX9_unit_148 ⟨(Nat.le_of_ble_eq_true rfl), (Nat.le_of_ble_eq_true rfl)⟩) hS (fun q hq h => absurd hq (Nat.not_lt.mpr h)) (fun q h => hA q (Nat.le_trans hS.1 h)) (fun r_2854 u_ t_ H2853 locs ht hvm hw hB hz1 hk1 hS => ?_)
              subst hw
              have hP := wk hP hk1
              obtain ⟨f2855, f2856, f2857⟩ := hB
              refine lv_if_ne (tgt := 156) hx hb dX9_unit_151 (by decide) (fun c_2858 => ((ob_231 (qi_ne c_2858 rfl zc_0) f2818 f2855)).elim) (fun c_2858 => ?_)
              have f2859 : r_2854.toInt = 0 := qi_eq c_2858 rfl zc_0
              have f2860 : x2816.toInt ≠ (0 : Int) := (ob_232 im2837 f2818)
              have f2861 : (1 : Int) ≤ x2816.toInt := (ob_217 im2837 f2818)
              have f2862 : r_2854.toInt = (0 : Int) := (ob_226 f2856 f2857 f2859)
              refine lv_iconst (v := 1) hx hb dX9_unit_154 (by decide) ?_
              rw [hQ]
              exact W.zret (v := 1) hx hb hr (by decide) (fun t ht hW => ⟨⟨1, 1, rfl, rfl, ⟨x2816, i_at, i_end, i_token, i_number, i_codes, i_within, i_piled, i_unitsInRule, f_code, f_eWhat, f_eSign, J2817, L, by rw [ht]; exact hP, hD, hI2819, (ob_14 zc_1), (ob_15 zc_1), (fun h => ((ob_356 h im2837 f2818)).elim), (ob_357 hp5 hp7 hp8), (ob_358 hp2 hp4 hp7), (ob_146), (ob_359 f2818 zc_1)⟩⟩, hS.F ht⟩) hS.2.2 dX9_unit_155
            · skip
              have f2863 : i_token.toInt ≠ 4 := qi_ne c_2805 rfl zc_4
              refine lv_iload_n hx hb dX9_unit_117 rfl (lv_at hl 2 rfl) ?_
              refine lv_if_eq (tgt := 143) hx hb dX9_unit_118 (by decide) (fun c_2864 => ?_) (fun c_2864 => ?_)
              · skip
                have f2865 : r_2736.toInt = 0 := qi_eq c_2864 rfl zc_0
                refine lv_aload_n hx hb dX9_unit_143 rfl (lv_at hl 5 rfl) ?_
                have hFc := frA hD hS hA
                refine va_callv (va_runV (As := []) (rest := []) ⟨hx, hb, hml, hown, hG⟩ (kX9_misplaced l dC dI r ct i_taped i_size i_faultKind i_at i_end i_token i_number i_bank i_rb i_codes i_within i_piled i_unitsInRule i_askHouse i_askTune i_acts i_undone i_laid i_knowns i_time f_text f_tunes f_houses f_hums f_told f_many f_ruleFrom f_ruleTo f_code f_eWhat f_eSign f_all f_kept f_was f_sTune f_boxAll J L H2740.size hI) (cwV 0 hG (goodV gw1420 gw1422 gw65 gw138 gw1423) rfl rfl rfl hd_X9_misplaced ⟨(Nat.le_of_ble_eq_true rfl), (Nat.le_of_ble_eq_true rfl)⟩) ⟨fbW, va_recv hK hP (ci := 8) (q0 := 0) rfl rfl, pW_in hP hK hD⟩ rfl rfl hl.1 rfl (lv_room (Nat.le_of_ble_eq_true rfl)) dX9_unit_144 ⟨(Nat.le_of_ble_eq_true rfl), (Nat.le_of_ble_eq_true rfl)⟩) hS (fun q _ h => hFc q h) hFc (fun _ t_ H2866 locs ht hvm hw hB hz1 hk1 hS => ?_)
                obtain ⟨x2868, J2869, hP1, hD1, hI2871, f2870⟩ := hB
                rw [ht] at hP1
                have hP := hP1
                have hD := dW hFc hD1
                obtain ⟨im2872, im2873, im2874, im2875, im2876, im2877, im2878, im2879, im2880, im2881, im2882, im2883, im2884, im2885, im2886, im2887, im2888, im2889, im2890, im2891, im2892, im2893, im2894, im2895, im2896, im2897, im2898, im2899, im2900, im2901, im2902, im2903, im2904⟩ := id hI2871
                refine lv_aload_n hx hb dX9_unit_147 rfl (lv_at hl 5 rfl) ?_
                refine va_calli (va_runV (As := []) (rest := []) ⟨hx, hb, hml, hown, hG⟩ (kX9_isGood l dC dI r ct i_taped i_size x2868 i_at i_end i_token i_number i_bank i_rb i_codes i_within i_piled i_unitsInRule i_askHouse i_askTune i_acts i_undone i_laid i_knowns i_time f_text f_tunes f_houses f_hums f_told f_many f_ruleFrom f_ruleTo f_code f_eWhat f_eSign f_all f_kept f_was f_sTune f_boxAll J2869 L H2866.size hI2871) (cwV 0 hG (goodV gw1401 gw1403 gw61 gw138 gw1404) rfl rfl rfl hd_X9_isGood ⟨(Nat.le_of_ble_eq_true rfl), (Nat.le_of_ble_eq_true rfl)⟩) ⟨fbR, va_recv hK hP (ci := 8) (q0 := 0) rfl rfl, pR_in hP hK⟩ rfl rfl hl.1 rfl (lv_room (Nat.le_of_ble_eq_true rfl)) dX9_unit_148 ⟨(Nat.le_of_ble_eq_true rfl), (Nat.le_of_ble_eq_true rfl)⟩) hS (fun q hq h => absurd hq (Nat.not_lt.mpr h)) (fun q h => hA q (Nat.le_trans hS.1 h)) (fun r_2906 u_ t_ H2905 locs ht hvm hw hB hz1 hk1 hS => ?_)
                subst hw
                have hP := wk hP hk1
                obtain ⟨f2907, f2908, f2909⟩ := hB
                refine lv_if_ne (tgt := 156) hx hb dX9_unit_151 (by decide) (fun c_2910 => ((ob_231 (qi_ne c_2910 rfl zc_0) f2870 f2907)).elim) (fun c_2910 => ?_)
                have f2911 : r_2906.toInt = 0 := qi_eq c_2910 rfl zc_0
                have f2912 : x2868.toInt ≠ (0 : Int) := (ob_232 im2889 f2870)
                have f2913 : (1 : Int) ≤ x2868.toInt := (ob_217 im2889 f2870)
                have f2914 : r_2906.toInt = (0 : Int) := (ob_226 f2908 f2909 f2911)
                refine lv_iconst (v := 1) hx hb dX9_unit_154 (by decide) ?_
                rw [hQ]
                exact W.zret (v := 1) hx hb hr (by decide) (fun t ht hW => ⟨⟨1, 1, rfl, rfl, ⟨x2868, i_at, i_end, i_token, i_number, i_codes, i_within, i_piled, i_unitsInRule, f_code, f_eWhat, f_eSign, J2869, L, by rw [ht]; exact hP, hD, hI2871, (ob_14 zc_1), (ob_15 zc_1), (fun h => ((ob_356 h im2889 f2870)).elim), (ob_357 hp5 hp7 hp8), (ob_358 hp2 hp4 hp7), (ob_146), (ob_359 f2870 zc_1)⟩⟩, hS.F ht⟩) hS.2.2 dX9_unit_155
              · skip
                have f2915 : r_2736.toInt ≠ 0 := qi_ne c_2864 rfl zc_0
                have f2916 : i_token.toInt = (5 : Int) := (ob_365 f2737 f2915 zc_40)
                have f2917 : (sgz f_text i_size.toInt i_at.toInt) = (40 : Int) := (ob_366 f2737 f2915 zc_40)
                have f2918 : r_2736.toInt = (1 : Int) := (ob_367 f2737 f2915 zc_40)
                have f2919 : (1 : Int) ≤ r_2736.toInt := (ob_162 f2738 f2739 f2918)
                refine lv_iload hx hb dX9_unit_121 (lv_at hl 0 rfl) ?_
                refine lv_if_ne (tgt := 143) hx hb dX9_unit_123 (by decide) (fun c_2920 => ?_) (fun c_2920 => absurd c_2920 (by decide))
                refine lv_aload_n hx hb dX9_unit_143 rfl (lv_at hl 5 rfl) ?_
                have hFc := frA hD hS hA
                refine va_callv (va_runV (As := []) (rest := []) ⟨hx, hb, hml, hown, hG⟩ (kX9_misplaced l dC dI r ct i_taped i_size i_faultKind i_at i_end i_token i_number i_bank i_rb i_codes i_within i_piled i_unitsInRule i_askHouse i_askTune i_acts i_undone i_laid i_knowns i_time f_text f_tunes f_houses f_hums f_told f_many f_ruleFrom f_ruleTo f_code f_eWhat f_eSign f_all f_kept f_was f_sTune f_boxAll J L H2740.size hI) (cwV 0 hG (goodV gw1420 gw1422 gw65 gw138 gw1423) rfl rfl rfl hd_X9_misplaced ⟨(Nat.le_of_ble_eq_true rfl), (Nat.le_of_ble_eq_true rfl)⟩) ⟨fbW, va_recv hK hP (ci := 8) (q0 := 0) rfl rfl, pW_in hP hK hD⟩ rfl rfl hl.1 rfl (lv_room (Nat.le_of_ble_eq_true rfl)) dX9_unit_144 ⟨(Nat.le_of_ble_eq_true rfl), (Nat.le_of_ble_eq_true rfl)⟩) hS (fun q _ h => hFc q h) hFc (fun _ t_ H2921 locs ht hvm hw hB hz1 hk1 hS => ?_)
                obtain ⟨x2923, J2924, hP1, hD1, hI2926, f2925⟩ := hB
                rw [ht] at hP1
                have hP := hP1
                have hD := dW hFc hD1
                obtain ⟨im2927, im2928, im2929, im2930, im2931, im2932, im2933, im2934, im2935, im2936, im2937, im2938, im2939, im2940, im2941, im2942, im2943, im2944, im2945, im2946, im2947, im2948, im2949, im2950, im2951, im2952, im2953, im2954, im2955, im2956, im2957, im2958, im2959⟩ := id hI2926
                refine lv_aload_n hx hb dX9_unit_147 rfl (lv_at hl 5 rfl) ?_
                refine va_calli (va_runV (As := []) (rest := []) ⟨hx, hb, hml, hown, hG⟩ (kX9_isGood l dC dI r ct i_taped i_size x2923 i_at i_end i_token i_number i_bank i_rb i_codes i_within i_piled i_unitsInRule i_askHouse i_askTune i_acts i_undone i_laid i_knowns i_time f_text f_tunes f_houses f_hums f_told f_many f_ruleFrom f_ruleTo f_code f_eWhat f_eSign f_all f_kept f_was f_sTune f_boxAll J2924 L H2921.size hI2926) (cwV 0 hG (goodV gw1401 gw1403 gw61 gw138 gw1404) rfl rfl rfl hd_X9_isGood ⟨(Nat.le_of_ble_eq_true rfl), (Nat.le_of_ble_eq_true rfl)⟩) ⟨fbR, va_recv hK hP (ci := 8) (q0 := 0) rfl rfl, pR_in hP hK⟩ rfl rfl hl.1 rfl (lv_room (Nat.le_of_ble_eq_true rfl)) dX9_unit_148 ⟨(Nat.le_of_ble_eq_true rfl), (Nat.le_of_ble_eq_true rfl)⟩) hS (fun q hq h => absurd hq (Nat.not_lt.mpr h)) (fun q h => hA q (Nat.le_trans hS.1 h)) (fun r_2961 u_ t_ H2960 locs ht hvm hw hB hz1 hk1 hS => ?_)
                subst hw
                have hP := wk hP hk1
                obtain ⟨f2962, f2963, f2964⟩ := hB
                refine lv_if_ne (tgt := 156) hx hb dX9_unit_151 (by decide) (fun c_2965 => ((ob_231 (qi_ne c_2965 rfl zc_0) f2925 f2962)).elim) (fun c_2965 => ?_)
                have f2966 : r_2961.toInt = 0 := qi_eq c_2965 rfl zc_0
                have f2967 : x2923.toInt ≠ (0 : Int) := (ob_232 im2944 f2925)
                have f2968 : (1 : Int) ≤ x2923.toInt := (ob_217 im2944 f2925)
                have f2969 : r_2961.toInt = (0 : Int) := (ob_226 f2963 f2964 f2966)
                refine lv_iconst (v := 1) hx hb dX9_unit_154 (by decide) ?_
                rw [hQ]
                exact W.zret (v := 1) hx hb hr (by decide) (fun t ht hW => ⟨⟨1, 1, rfl, rfl, ⟨x2923, i_at, i_end, i_token, i_number, i_codes, i_within, i_piled, i_unitsInRule, f_code, f_eWhat, f_eSign, J2924, L, by rw [ht]; exact hP, hD, hI2926, (ob_14 zc_1), (ob_15 zc_1), (fun h => ((ob_356 h im2944 f2925)).elim), (ob_357 hp5 hp7 hp8), (ob_358 hp2 hp4 hp7), (ob_146), (ob_359 f2925 zc_1)⟩⟩, hS.F ht⟩) hS.2.2 dX9_unit_155
        · skip
          have f2970 : x2743.toInt ≠ 60 := qi_ne c_2744 rfl zc_60
          refine lv_aload_n hx hb dX9_unit_84 rfl (lv_at hl 4 rfl) ?_
          refine gM_X9_290_0 hx hb hG hown hK hP dX9_unit_85 ?_
          refine lv_bipush (v := 30) hx hb dX9_unit_88 (by decide) ?_
          refine lv_icmp_ne (tgt := 97) hx hb dX9_unit_90 (by decide) (fun c_2971 => ?_) (fun c_2971 => ?_)
          · skip
            have f2972 : i_unitsInRule.toInt ≠ 30 := qi_ne c_2971 rfl zc_30
            have f2973 : i_unitsInRule.toInt ≤ (29 : Int) := (ob_368 hp2 f2972)
            refine lv_iconst (v := 0) hx hb dX9_unit_97 (by decide) ?_
            refine lv_istore (lv' := [(5, .int 0), (4, .int r_2741), (3, .int r_2736), (2, .int 0), (1, .int 1), (0, .ref (r 0))]) hx hb dX9_unit_98 hl (by decide) rfl (fun ls hl => ?_)
            refine lv_iload_n hx hb dX9_unit_100 rfl (lv_at hl 3 rfl) ?_
            refine lv_if_ne (tgt := 126) hx hb dX9_unit_101 (by decide) (fun c_2974 => absurd (by decide) c_2974) (fun c_2974 => ?_)
            refine lv_iload hx hb dX9_unit_104 (lv_at hl 1 rfl) ?_
            refine lv_if_ne (tgt := 121) hx hb dX9_unit_106 (by decide) (fun c_2975 => ?_) (fun c_2975 => ?_)
            · skip
              have f2976 : r_2741.toInt ≠ 0 := qi_ne c_2975 rfl zc_0
              have f2977 : (97 : Int) ≤ r_2741.toInt := (ob_352 f2742 f2976)
              have f2978 : r_2741.toInt ≤ (122 : Int) := (ob_353 f2742 f2976 f2977)
              have f2979 : i_token.toInt = (3 : Int) := (ob_354 f2742 f2976)
              have f2980 : (1 : Int) ≤ r_2741.toInt := (ob_355 f2977 f2978)
              refine lv_iload hx hb dX9_unit_121 (lv_at hl 0 rfl) ?_
              refine lv_if_ne (tgt := 143) hx hb dX9_unit_123 (by decide) (fun c_2981 => absurd (by decide) c_2981) (fun c_2981 => ?_)
              refine lv_iload_n hx hb dX9_unit_126 rfl (lv_at hl 3 rfl) ?_
              refine lv_if_ne (tgt := 134) hx hb dX9_unit_127 (by decide) (fun c_2982 => absurd (by decide) c_2982) (fun c_2982 => ?_)
              refine lv_iload_n hx hb dX9_unit_130 rfl (lv_at hl 2 rfl) ?_
              refine lv_if_eq (tgt := 147) hx hb dX9_unit_131 (by decide) (fun c_2983 => ?_) (fun c_2983 => ((ob_369 (qi_ne c_2983 rfl zc_0) f2737 f2979 zc_40)).elim)
              have f2984 : r_2736.toInt = 0 := qi_eq c_2983 rfl zc_0
              have f2985 : i_token.toInt ≠ (5 : Int) := (ob_370 f2979)
              have f2986 : r_2736.toInt = (0 : Int) := (ob_226 f2738 f2739 f2984)
              refine lv_aload_n hx hb dX9_unit_147 rfl (lv_at hl 5 rfl) ?_
              refine va_calli (va_runV (As := []) (rest := []) ⟨hx, hb, hml, hown, hG⟩ (kX9_isGood l dC dI r ct i_taped i_size i_faultKind i_at i_end i_token i_number i_bank i_rb i_codes i_within i_piled i_unitsInRule i_askHouse i_askTune i_acts i_undone i_laid i_knowns i_time f_text f_tunes f_houses f_hums f_told f_many f_ruleFrom f_ruleTo f_code f_eWhat f_eSign f_all f_kept f_was f_sTune f_boxAll J L H2740.size hI) (cwV 0 hG (goodV gw1401 gw1403 gw61 gw138 gw1404) rfl rfl rfl hd_X9_isGood ⟨(Nat.le_of_ble_eq_true rfl), (Nat.le_of_ble_eq_true rfl)⟩) ⟨fbR, va_recv hK hP (ci := 8) (q0 := 0) rfl rfl, pR_in hP hK⟩ rfl rfl hl.1 rfl (lv_room (Nat.le_of_ble_eq_true rfl)) dX9_unit_148 ⟨(Nat.le_of_ble_eq_true rfl), (Nat.le_of_ble_eq_true rfl)⟩) hS (fun q hq h => absurd hq (Nat.not_lt.mpr h)) (fun q h => hA q (Nat.le_trans hS.1 h)) (fun r_2988 u_ t_ H2987 locs ht hvm hw hB hz1 hk1 hS => ?_)
              subst hw
              have hP := wk hP hk1
              obtain ⟨f2989, f2990, f2991⟩ := hB
              refine lv_if_ne (tgt := 156) hx hb dX9_unit_151 (by decide) (fun c_2992 => ?_) (fun c_2992 => ((ob_228 (qi_eq c_2992 rfl zc_0) hp10 f2989)).elim)
              have f2993 : r_2988.toInt ≠ 0 := qi_ne c_2992 rfl zc_0
              have f2994 : i_faultKind.toInt = (0 : Int) := (ob_229 ie17 hp10)
              have f2995 : r_2988.toInt = (1 : Int) := (ob_220 f2989 f2993)
              have f2996 : (1 : Int) ≤ r_2988.toInt := (ob_162 f2990 f2991 f2995)
              refine lv_aload_n hx hb dX9_unit_156 rfl (lv_at hl 5 rfl) ?_
              refine gM_X9_30_0 hx hb hG hown hK hP dX9_unit_157 ?_
              refine lv_aload_n hx hb dX9_unit_160 rfl (lv_at hl 5 rfl) ?_
              refine gM_X9_240_0 hx hb hG hown hK hP dX9_unit_161 ?_
              refine lv_dup2_11 hx hb dX9_unit_164 rfl rfl ?_
              refine ldM_6 (mm := i_rb.toInt) hx hb hK hP rfl (ob_350 ie6) (ob_351 ie7) dX9_unit_165 (fun x2997 => ?_)
              refine lv_iload_n hx hb dX9_unit_166 rfl (lv_at hl 3 rfl) ?_
              refine lv_if_eq (tgt := 174) hx hb dX9_unit_167 (by decide) (fun c_2998 => ?_) (fun c_2998 => absurd (by decide) c_2998)
              refine lv_iconst (v := 1) hx hb dX9_unit_174 (by decide) ?_
              refine lv_iadd hx hb dX9_unit_175 ?_
              refine lv_topi (fun x2999 ex2999 => ?_)
              refine stM_6 (mm := i_rb.toInt) hx hb hK hP hD hS rfl (ob_350 ie6) (ob_351 ie7) dX9_unit_176 (fun J3001 H3000 locs hP hD hS => ?_)
              refine lv_aload_n hx hb dX9_unit_177 rfl (lv_at hl 5 rfl) ?_
              refine lv_dup hx hb dX9_unit_178 rfl ?_
              refine gM_X9_290_0 hx hb hG hown hK hP dX9_unit_179 ?_
              refine lv_iload_n hx hb dX9_unit_182 rfl (lv_at hl 3 rfl) ?_
              refine lv_if_eq (tgt := 190) hx hb dX9_unit_183 (by decide) (fun c_3002 => ?_) (fun c_3002 => absurd (by decide) c_3002)
              refine lv_iconst (v := 1) hx hb dX9_unit_190 (by decide) ?_
              refine lv_iadd hx hb dX9_unit_191 ?_
              refine lv_topi (fun x3003 ex3003 => ?_)
              have f3004 : x3003.toInt = i_unitsInRule.toInt + 1 := (ob_142 (qi_add ex3003 rfl zc_1 (ob_140 hp1) (ob_371 hp2)))
              refine pM_X9_290_0 hx hb hG hown hK hP hD hS dX9_unit_192 (fun H3005 locs hP hD hS => ?_)
              refine lv_iload hx hb dX9_unit_195 (lv_at hl 1 rfl) ?_
              refine lv_if_ne (tgt := 207) hx hb dX9_unit_197 (by decide) (fun c_3006 => ?_) (fun c_3006 => ((ob_372 (qi_eq c_3006 rfl zc_0) f2977 f2978 f2980)).elim)
              have f3007 : r_2741.toInt ≠ 0 := qi_ne c_3006 rfl zc_0
              have f3008 : (1 : Int) ≤ r_2741.toInt := (ob_373 f2977 f2978 f2980)
              refine lv_iconst (v := 0) hx hb dX9_unit_207 (by decide) ?_
              refine lv_istore (lv' := [(6, .int 0), (5, .int 0), (4, .int r_2741), (3, .int r_2736), (2, .int 0), (1, .int 1), (0, .ref (r 0))]) hx hb dX9_unit_208 hl (by decide) rfl (fun ls hl => ?_)
              refine lv_aload_n hx hb dX9_unit_210 rfl (lv_at hl 6 rfl) ?_
              have hFc := frA hD hS hA
              refine va_callv (va_runV (As := []) (rest := []) ⟨hx, hb, hml, hown, hG⟩ (kX9_goOn l dC dI r ct i_taped i_size i_faultKind i_at i_end i_token i_number i_bank i_rb i_codes i_within i_piled x3003 i_askHouse i_askTune i_acts i_undone i_laid i_knowns i_time f_text f_tunes f_houses f_hums f_told f_many f_ruleFrom f_ruleTo f_code f_eWhat f_eSign f_all f_kept f_was f_sTune f_boxAll J3001 L H3005.size hI) (cwV 0 hG (goodV gw1362 gw1364 gw59 gw138 gw1365) rfl rfl rfl hd_X9_goOn ⟨(Nat.le_of_ble_eq_true rfl), (Nat.le_of_ble_eq_true rfl)⟩) ⟨fbW, va_recv hK hP (ci := 8) (q0 := 0) rfl rfl, pW_in hP hK hD⟩ rfl rfl hl.1 rfl (lv_room (Nat.le_of_ble_eq_true rfl)) dX9_unit_211 ⟨(Nat.le_of_ble_eq_true rfl), (Nat.le_of_ble_eq_true rfl)⟩) hS (fun q _ h => hFc q h) hFc (fun _ t_ H3009 locs ht hvm hw hB hz1 hk1 hS => ?_)
              obtain ⟨x3011, x3012, x3013, x3014, L3015, hP1, hD1, hI3019, f3016, f3017, f3018⟩ := hB
              rw [ht] at hP1
              have hP := hP1
              have hD := dW hFc hD1
              obtain ⟨im3020, im3021, im3022, im3023, im3024, im3025, im3026, im3027, im3028, im3029, im3030, im3031, im3032, im3033, im3034, im3035, im3036, im3037, im3038, im3039, im3040, im3041, im3042, im3043, im3044, im3045, im3046, im3047, im3048, im3049, im3050, im3051, im3052⟩ := id hI3019
              refine lv_iload_n hx hb dX9_unit_214 rfl (lv_at hl 4 rfl) ?_
              refine lv_if_ne (tgt := 222) hx hb dX9_unit_215 (by decide) (fun c_3053 => absurd (by decide) c_3053) (fun c_3053 => ?_)
              refine lv_iload_n hx hb dX9_unit_218 rfl (lv_at hl 3 rfl) ?_
              refine lv_if_eq (tgt := 250) hx hb dX9_unit_219 (by decide) (fun c_3054 => ?_) (fun c_3054 => ((ob_374 (qi_ne c_3054 rfl zc_0) f2984)).elim)
              have f3055 : r_2736.toInt = 0 := qi_eq c_3054 rfl zc_0
              refine lv_aload_n hx hb dX9_unit_250 rfl (lv_at hl 6 rfl) ?_
              refine lv_iload hx hb dX9_unit_251 (lv_at hl 2 rfl) ?_
              refine lv_if_ne (tgt := 261) hx hb dX9_unit_253 (by decide) (fun c_3056 => ?_) (fun c_3056 => ((ob_375 (qi_eq c_3056 rfl zc_0) f2977)).elim)
              have f3057 : r_2741.toInt ≠ 0 := qi_ne c_3056 rfl zc_0
              have f3058 : (1 : Int) ≤ r_2741.toInt := (ob_376 f2977)
              refine lv_iload hx hb dX9_unit_261 (lv_at hl 2 rfl) ?_
              refine lv_iload hx hb dX9_unit_263 (lv_at hl 0 rfl) ?_
              have hFc := frA hD hS hA
              refine va_callv (va_runV (As := [.int r_2741, .int 0]) (rest := []) ⟨hx, hb, hml, hown, hG⟩ (kX9_emit l dC dI r ct i_taped i_size i_faultKind x3011 x3012 x3013 x3014 i_bank i_rb i_codes i_within i_piled x3003 i_askHouse i_askTune i_acts i_undone i_laid i_knowns i_time f_text f_tunes f_houses f_hums f_told f_many f_ruleFrom f_ruleTo f_code f_eWhat f_eSign f_all f_kept f_was f_sTune f_boxAll J3001 L3015 r_2741 0 H3009.size hI3019 (ob_377 hp0) (ob_378 hp6) (ob_379 hp2 hp4 hp5 hp8)) (cwV 2 hG (goodV gw1484 gw1486 gw81 gw138 gw1487) rfl rfl rfl hd_X9_emit ⟨(Nat.le_of_ble_eq_true rfl), (Nat.le_of_ble_eq_true rfl)⟩) ⟨fbW, va_recv hK hP (ci := 8) (q0 := 0) rfl rfl, pW_in hP hK hD⟩ rfl rfl hl.1 rfl (lv_room (Nat.le_of_ble_eq_true rfl)) dX9_unit_265 ⟨(Nat.le_of_ble_eq_true rfl), (Nat.le_of_ble_eq_true rfl)⟩) hS (fun q _ h => hFc q h) hFc (fun _ t_ H3059 locs ht hvm hw hB hz1 hk1 hS => ?_)
              obtain ⟨x3061, z3062, J3063, hP1, hD1, hI3066, f3064, f3065⟩ := hB
              rw [ht] at hP1
              have hP := hP1
              have hD := dW hFc hD1
              obtain ⟨im3067, im3068, im3069, im3070, im3071, im3072, im3073, im3074, im3075, im3076, im3077, im3078, im3079, im3080, im3081, im3082, im3083, im3084, im3085, im3086, im3087, im3088, im3089, im3090, im3091, im3092, im3093, im3094, im3095, im3096, im3097, im3098, im3099⟩ := id hI3066
              refine lv_iconst (v := 0) hx hb dX9_unit_268 (by decide) ?_
              rw [hQ]
              exact W.zret (v := 0) hx hb hr (by decide) (fun t ht hW => ⟨⟨0, 0, rfl, rfl, ⟨i_faultKind, x3011, x3012, x3013, x3014, x3061, i_within, i_piled, x3003, z3062, f_eWhat, f_eSign, J3063, L3015, by rw [ht]; exact hP, hD, hI3066, (ob_1 zc_0), (ob_11 zc_0), (fun _ => SPleaf hp11 rfl (ob_380 zc_0) f3065 (ob_381 hp6 hp8 f3064) (ob_382 hp5 hp7 hp8) (ob_383 hp2 hp4 hp7) (ob_384 ie6) (ob_378 hp6) (ob_385 f2977) (ob_386 f2978)), (ob_357 hp5 hp7 hp8), (ob_358 hp2 hp4 hp7), (ob_145 f3016), (ob_387 ie17 hp2 hp3 hp4 hp5 hp6 hp7 hp8 hp9 f2972 f2979 f3018 f3064 zc_0 f3004)⟩⟩, hS.F ht⟩) hS.2.2 dX9_unit_269
            · skip
              have f3100 : r_2741.toInt = 0 := qi_eq c_2975 rfl zc_0
              have f3101 : r_2741.toInt = (0 : Int) := (ob_25 f3100)
              refine lv_aload_n hx hb dX9_unit_109 rfl (lv_at hl 5 rfl) ?_
              refine gM_X9_191_0 hx hb hG hown hK hP dX9_unit_110 ?_
              refine lv_iconst (v := 4) hx hb dX9_unit_113 (by decide) ?_
              refine lv_icmp_eq (tgt := 121) hx hb dX9_unit_114 (by decide) (fun c_3102 => ?_) (fun c_3102 => ?_)
              · skip
                have f3103 : i_token.toInt = 4 := qi_eq c_3102 rfl zc_4
                have f3104 : i_token.toInt ≠ (3 : Int) := (ob_360 f3103)
                have f3105 : r_2729.toInt = (0 : Int) := (ob_226 f2731 f2732 f2734)
                have f3106 : i_token.toInt ≠ (5 : Int) := (ob_361 f3103)
                have f3107 : r_2736.toInt = (0 : Int) := (ob_362 f2737 f3103 zc_40)
                have f3108 : (4 : Int) ≤ i_token.toInt := (ob_363 f3103)
                have f3109 : i_token.toInt ≤ (4 : Int) := (ob_364 f3103 f3108)
                refine lv_iload hx hb dX9_unit_121 (lv_at hl 0 rfl) ?_
                refine lv_if_ne (tgt := 143) hx hb dX9_unit_123 (by decide) (fun c_3110 => absurd (by decide) c_3110) (fun c_3110 => ?_)
                refine lv_iload_n hx hb dX9_unit_126 rfl (lv_at hl 3 rfl) ?_
                refine lv_if_ne (tgt := 134) hx hb dX9_unit_127 (by decide) (fun c_3111 => absurd (by decide) c_3111) (fun c_3111 => ?_)
                refine lv_iload_n hx hb dX9_unit_130 rfl (lv_at hl 2 rfl) ?_
                refine lv_if_eq (tgt := 147) hx hb dX9_unit_131 (by decide) (fun c_3112 => ?_) (fun c_3112 => ((ob_388 (qi_ne c_3112 rfl zc_0) f2738 f2739 f3107)).elim)
                have f3113 : r_2736.toInt = 0 := qi_eq c_3112 rfl zc_0
                refine lv_aload_n hx hb dX9_unit_147 rfl (lv_at hl 5 rfl) ?_
                refine va_calli (va_runV (As := []) (rest := []) ⟨hx, hb, hml, hown, hG⟩ (kX9_isGood l dC dI r ct i_taped i_size i_faultKind i_at i_end i_token i_number i_bank i_rb i_codes i_within i_piled i_unitsInRule i_askHouse i_askTune i_acts i_undone i_laid i_knowns i_time f_text f_tunes f_houses f_hums f_told f_many f_ruleFrom f_ruleTo f_code f_eWhat f_eSign f_all f_kept f_was f_sTune f_boxAll J L H2740.size hI) (cwV 0 hG (goodV gw1401 gw1403 gw61 gw138 gw1404) rfl rfl rfl hd_X9_isGood ⟨(Nat.le_of_ble_eq_true rfl), (Nat.le_of_ble_eq_true rfl)⟩) ⟨fbR, va_recv hK hP (ci := 8) (q0 := 0) rfl rfl, pR_in hP hK⟩ rfl rfl hl.1 rfl (lv_room (Nat.le_of_ble_eq_true rfl)) dX9_unit_148 ⟨(Nat.le_of_ble_eq_true rfl), (Nat.le_of_ble_eq_true rfl)⟩) hS (fun q hq h => absurd hq (Nat.not_lt.mpr h)) (fun q h => hA q (Nat.le_trans hS.1 h)) (fun r_3115 u_ t_ H3114 locs ht hvm hw hB hz1 hk1 hS => ?_)
                subst hw
                have hP := wk hP hk1
                obtain ⟨f3116, f3117, f3118⟩ := hB
                refine lv_if_ne (tgt := 156) hx hb dX9_unit_151 (by decide) (fun c_3119 => ?_) (fun c_3119 => ((ob_228 (qi_eq c_3119 rfl zc_0) hp10 f3116)).elim)
                have f3120 : r_3115.toInt ≠ 0 := qi_ne c_3119 rfl zc_0
                have f3121 : i_faultKind.toInt = (0 : Int) := (ob_229 ie17 hp10)
                have f3122 : r_3115.toInt = (1 : Int) := (ob_220 f3116 f3120)
                have f3123 : (1 : Int) ≤ r_3115.toInt := (ob_162 f3117 f3118 f3122)
                refine lv_aload_n hx hb dX9_unit_156 rfl (lv_at hl 5 rfl) ?_
                refine gM_X9_30_0 hx hb hG hown hK hP dX9_unit_157 ?_
                refine lv_aload_n hx hb dX9_unit_160 rfl (lv_at hl 5 rfl) ?_
                refine gM_X9_240_0 hx hb hG hown hK hP dX9_unit_161 ?_
                refine lv_dup2_11 hx hb dX9_unit_164 rfl rfl ?_
                refine ldM_6 (mm := i_rb.toInt) hx hb hK hP rfl (ob_350 ie6) (ob_351 ie7) dX9_unit_165 (fun x3124 => ?_)
                refine lv_iload_n hx hb dX9_unit_166 rfl (lv_at hl 3 rfl) ?_
                refine lv_if_eq (tgt := 174) hx hb dX9_unit_167 (by decide) (fun c_3125 => ?_) (fun c_3125 => absurd (by decide) c_3125)
                refine lv_iconst (v := 1) hx hb dX9_unit_174 (by decide) ?_
                refine lv_iadd hx hb dX9_unit_175 ?_
                refine lv_topi (fun x3126 ex3126 => ?_)
                refine stM_6 (mm := i_rb.toInt) hx hb hK hP hD hS rfl (ob_350 ie6) (ob_351 ie7) dX9_unit_176 (fun J3128 H3127 locs hP hD hS => ?_)
                refine lv_aload_n hx hb dX9_unit_177 rfl (lv_at hl 5 rfl) ?_
                refine lv_dup hx hb dX9_unit_178 rfl ?_
                refine gM_X9_290_0 hx hb hG hown hK hP dX9_unit_179 ?_
                refine lv_iload_n hx hb dX9_unit_182 rfl (lv_at hl 3 rfl) ?_
                refine lv_if_eq (tgt := 190) hx hb dX9_unit_183 (by decide) (fun c_3129 => ?_) (fun c_3129 => absurd (by decide) c_3129)
                refine lv_iconst (v := 1) hx hb dX9_unit_190 (by decide) ?_
                refine lv_iadd hx hb dX9_unit_191 ?_
                refine lv_topi (fun x3130 ex3130 => ?_)
                have f3131 : x3130.toInt = i_unitsInRule.toInt + 1 := (ob_142 (qi_add ex3130 rfl zc_1 (ob_140 hp1) (ob_371 hp2)))
                refine pM_X9_290_0 hx hb hG hown hK hP hD hS dX9_unit_192 (fun H3132 locs hP hD hS => ?_)
                refine lv_iload hx hb dX9_unit_195 (lv_at hl 1 rfl) ?_
                refine lv_if_ne (tgt := 207) hx hb dX9_unit_197 (by decide) (fun c_3133 => ((ob_389 (qi_ne c_3133 rfl zc_0) f3100 f3101)).elim) (fun c_3133 => ?_)
                have f3134 : r_2741.toInt = 0 := qi_eq c_3133 rfl zc_0
                refine lv_aload_n hx hb dX9_unit_200 rfl (lv_at hl 5 rfl) ?_
                refine gM_X9_209_0 hx hb hG hown hK hP dX9_unit_201 ?_
                refine lv_goto (tgt := 208) hx hb dX9_unit_204 (by decide) ?_
                refine lv_istore (lv' := [(6, .int i_number), (5, .int 0), (4, .int r_2741), (3, .int r_2736), (2, .int 0), (1, .int 1), (0, .ref (r 0))]) hx hb dX9_unit_208 hl (by decide) rfl (fun ls hl => ?_)
                refine lv_aload_n hx hb dX9_unit_210 rfl (lv_at hl 6 rfl) ?_
                have hFc := frA hD hS hA
                refine va_callv (va_runV (As := []) (rest := []) ⟨hx, hb, hml, hown, hG⟩ (kX9_goOn l dC dI r ct i_taped i_size i_faultKind i_at i_end i_token i_number i_bank i_rb i_codes i_within i_piled x3130 i_askHouse i_askTune i_acts i_undone i_laid i_knowns i_time f_text f_tunes f_houses f_hums f_told f_many f_ruleFrom f_ruleTo f_code f_eWhat f_eSign f_all f_kept f_was f_sTune f_boxAll J3128 L H3132.size hI) (cwV 0 hG (goodV gw1362 gw1364 gw59 gw138 gw1365) rfl rfl rfl hd_X9_goOn ⟨(Nat.le_of_ble_eq_true rfl), (Nat.le_of_ble_eq_true rfl)⟩) ⟨fbW, va_recv hK hP (ci := 8) (q0 := 0) rfl rfl, pW_in hP hK hD⟩ rfl rfl hl.1 rfl (lv_room (Nat.le_of_ble_eq_true rfl)) dX9_unit_211 ⟨(Nat.le_of_ble_eq_true rfl), (Nat.le_of_ble_eq_true rfl)⟩) hS (fun q _ h => hFc q h) hFc (fun _ t_ H3135 locs ht hvm hw hB hz1 hk1 hS => ?_)
                obtain ⟨x3137, x3138, x3139, x3140, L3141, hP1, hD1, hI3145, f3142, f3143, f3144⟩ := hB
                rw [ht] at hP1
                have hP := hP1
                have hD := dW hFc hD1
                obtain ⟨im3146, im3147, im3148, im3149, im3150, im3151, im3152, im3153, im3154, im3155, im3156, im3157, im3158, im3159, im3160, im3161, im3162, im3163, im3164, im3165, im3166, im3167, im3168, im3169, im3170, im3171, im3172, im3173, im3174, im3175, im3176, im3177, im3178⟩ := id hI3145
                refine lv_iload_n hx hb dX9_unit_214 rfl (lv_at hl 4 rfl) ?_
                refine lv_if_ne (tgt := 222) hx hb dX9_unit_215 (by decide) (fun c_3179 => absurd (by decide) c_3179) (fun c_3179 => ?_)
                refine lv_iload_n hx hb dX9_unit_218 rfl (lv_at hl 3 rfl) ?_
                refine lv_if_eq (tgt := 250) hx hb dX9_unit_219 (by decide) (fun c_3180 => ?_) (fun c_3180 => ((ob_390 (qi_ne c_3180 rfl zc_0) f3107)).elim)
                have f3181 : r_2736.toInt = 0 := qi_eq c_3180 rfl zc_0
                refine lv_aload_n hx hb dX9_unit_250 rfl (lv_at hl 6 rfl) ?_
                refine lv_iload hx hb dX9_unit_251 (lv_at hl 2 rfl) ?_
                refine lv_if_ne (tgt := 261) hx hb dX9_unit_253 (by decide) (fun c_3182 => ((ob_389 (qi_ne c_3182 rfl zc_0) f3100 f3101)).elim) (fun c_3182 => ?_)
                have f3183 : r_2741.toInt = 0 := qi_eq c_3182 rfl zc_0
                refine lv_bipush (v := 110) hx hb dX9_unit_256 (by decide) ?_
                refine lv_goto (tgt := 263) hx hb dX9_unit_258 (by decide) ?_
                refine lv_iload hx hb dX9_unit_263 (lv_at hl 0 rfl) ?_
                have hFc := frA hD hS hA
                refine va_callv (va_runV (As := [.int 110, .int i_number]) (rest := []) ⟨hx, hb, hml, hown, hG⟩ (kX9_emit l dC dI r ct i_taped i_size i_faultKind x3137 x3138 x3139 x3140 i_bank i_rb i_codes i_within i_piled x3130 i_askHouse i_askTune i_acts i_undone i_laid i_knowns i_time f_text f_tunes f_houses f_hums f_told f_many f_ruleFrom f_ruleTo f_code f_eWhat f_eSign f_all f_kept f_was f_sTune f_boxAll J3128 L3141 110 i_number H3135.size hI3145 (ob_377 hp0) (ob_378 hp6) (ob_379 hp2 hp4 hp5 hp8)) (cwV 2 hG (goodV gw1484 gw1486 gw81 gw138 gw1487) rfl rfl rfl hd_X9_emit ⟨(Nat.le_of_ble_eq_true rfl), (Nat.le_of_ble_eq_true rfl)⟩) ⟨fbW, va_recv hK hP (ci := 8) (q0 := 0) rfl rfl, pW_in hP hK hD⟩ rfl rfl hl.1 rfl (lv_room (Nat.le_of_ble_eq_true rfl)) dX9_unit_265 ⟨(Nat.le_of_ble_eq_true rfl), (Nat.le_of_ble_eq_true rfl)⟩) hS (fun q _ h => hFc q h) hFc (fun _ t_ H3184 locs ht hvm hw hB hz1 hk1 hS => ?_)
                obtain ⟨x3186, z3187, J3188, hP1, hD1, hI3191, f3189, f3190⟩ := hB
                rw [ht] at hP1
                have hP := hP1
                have hD := dW hFc hD1
                obtain ⟨im3192, im3193, im3194, im3195, im3196, im3197, im3198, im3199, im3200, im3201, im3202, im3203, im3204, im3205, im3206, im3207, im3208, im3209, im3210, im3211, im3212, im3213, im3214, im3215, im3216, im3217, im3218, im3219, im3220, im3221, im3222, im3223, im3224⟩ := id hI3191
                refine lv_iconst (v := 0) hx hb dX9_unit_268 (by decide) ?_
                rw [hQ]
                exact W.zret (v := 0) hx hb hr (by decide) (fun t ht hW => ⟨⟨0, 0, rfl, rfl, ⟨i_faultKind, x3137, x3138, x3139, x3140, x3186, i_within, i_piled, x3130, z3187, f_eWhat, f_eSign, J3188, L3141, by rw [ht]; exact hP, hD, hI3191, (ob_1 zc_0), (ob_11 zc_0), (fun _ => SPleaf hp11 rfl (ob_380 zc_0) f3190 (ob_381 hp6 hp8 f3189) (ob_382 hp5 hp7 hp8) (ob_383 hp2 hp4 hp7) (ob_384 ie6) (ob_378 hp6) (ob_391 zc_110) (ob_392 zc_110)), (ob_357 hp5 hp7 hp8), (ob_358 hp2 hp4 hp7), (ob_145 f3142), (ob_393 ie17 hp2 hp3 hp4 hp5 hp6 hp7 hp8 hp9 f2972 f3103 f3144 f3189 zc_0 f3131)⟩⟩, hS.F ht⟩) hS.2.2 dX9_unit_269
              · skip
                have f3225 : i_token.toInt ≠ 4 := qi_ne c_3102 rfl zc_4
                refine lv_iload_n hx hb dX9_unit_117 rfl (lv_at hl 2 rfl) ?_
                refine lv_if_eq (tgt := 143) hx hb dX9_unit_118 (by decide) (fun c_3226 => ?_) (fun c_3226 => ?_)
                · skip
                  have f3227 : r_2736.toInt = 0 := qi_eq c_3226 rfl zc_0
                  refine lv_aload_n hx hb dX9_unit_143 rfl (lv_at hl 5 rfl) ?_
                  have hFc := frA hD hS hA
                  refine va_callv (va_runV (As := []) (rest := []) ⟨hx, hb, hml, hown, hG⟩ (kX9_misplaced l dC dI r ct i_taped i_size i_faultKind i_at i_end i_token i_number i_bank i_rb i_codes i_within i_piled i_unitsInRule i_askHouse i_askTune i_acts i_undone i_laid i_knowns i_time f_text f_tunes f_houses f_hums f_told f_many f_ruleFrom f_ruleTo f_code f_eWhat f_eSign f_all f_kept f_was f_sTune f_boxAll J L H2740.size hI) (cwV 0 hG (goodV gw1420 gw1422 gw65 gw138 gw1423) rfl rfl rfl hd_X9_misplaced ⟨(Nat.le_of_ble_eq_true rfl), (Nat.le_of_ble_eq_true rfl)⟩) ⟨fbW, va_recv hK hP (ci := 8) (q0 := 0) rfl rfl, pW_in hP hK hD⟩ rfl rfl hl.1 rfl (lv_room (Nat.le_of_ble_eq_true rfl)) dX9_unit_144 ⟨(Nat.le_of_ble_eq_true rfl), (Nat.le_of_ble_eq_true rfl)⟩) hS (fun q _ h => hFc q h) hFc (fun _ t_ H3228 locs ht hvm hw hB hz1 hk1 hS => ?_)
                  obtain ⟨x3230, J3231, hP1, hD1, hI3233, f3232⟩ := hB
                  rw [ht] at hP1
                  have hP := hP1
                  have hD := dW hFc hD1
                  obtain ⟨im3234, im3235, im3236, im3237, im3238, im3239, im3240, im3241, im3242, im3243, im3244, im3245, im3246, im3247, im3248, im3249, im3250, im3251, im3252, im3253, im3254, im3255, im3256, im3257, im3258, im3259, im3260, im3261, im3262, im3263, im3264, im3265, im3266⟩ := id hI3233
                  refine lv_aload_n hx hb dX9_unit_147 rfl (lv_at hl 5 rfl) ?_
                  refine va_calli (va_runV (As := []) (rest := []) ⟨hx, hb, hml, hown, hG⟩ (kX9_isGood l dC dI r ct i_taped i_size x3230 i_at i_end i_token i_number i_bank i_rb i_codes i_within i_piled i_unitsInRule i_askHouse i_askTune i_acts i_undone i_laid i_knowns i_time f_text f_tunes f_houses f_hums f_told f_many f_ruleFrom f_ruleTo f_code f_eWhat f_eSign f_all f_kept f_was f_sTune f_boxAll J3231 L H3228.size hI3233) (cwV 0 hG (goodV gw1401 gw1403 gw61 gw138 gw1404) rfl rfl rfl hd_X9_isGood ⟨(Nat.le_of_ble_eq_true rfl), (Nat.le_of_ble_eq_true rfl)⟩) ⟨fbR, va_recv hK hP (ci := 8) (q0 := 0) rfl rfl, pR_in hP hK⟩ rfl rfl hl.1 rfl (lv_room (Nat.le_of_ble_eq_true rfl)) dX9_unit_148 ⟨(Nat.le_of_ble_eq_true rfl), (Nat.le_of_ble_eq_true rfl)⟩) hS (fun q hq h => absurd hq (Nat.not_lt.mpr h)) (fun q h => hA q (Nat.le_trans hS.1 h)) (fun r_3268 u_ t_ H3267 locs ht hvm hw hB hz1 hk1 hS => ?_)
                  subst hw
                  have hP := wk hP hk1
                  obtain ⟨f3269, f3270, f3271⟩ := hB
                  refine lv_if_ne (tgt := 156) hx hb dX9_unit_151 (by decide) (fun c_3272 => ((ob_231 (qi_ne c_3272 rfl zc_0) f3232 f3269)).elim) (fun c_3272 => ?_)
                  have f3273 : r_3268.toInt = 0 := qi_eq c_3272 rfl zc_0
                  have f3274 : x3230.toInt ≠ (0 : Int) := (ob_232 im3251 f3232)
                  have f3275 : (1 : Int) ≤ x3230.toInt := (ob_217 im3251 f3232)
                  have f3276 : r_3268.toInt = (0 : Int) := (ob_226 f3270 f3271 f3273)
                  refine lv_iconst (v := 1) hx hb dX9_unit_154 (by decide) ?_
                  rw [hQ]
                  exact W.zret (v := 1) hx hb hr (by decide) (fun t ht hW => ⟨⟨1, 1, rfl, rfl, ⟨x3230, i_at, i_end, i_token, i_number, i_codes, i_within, i_piled, i_unitsInRule, f_code, f_eWhat, f_eSign, J3231, L, by rw [ht]; exact hP, hD, hI3233, (ob_14 zc_1), (ob_15 zc_1), (fun h => ((ob_356 h im3251 f3232)).elim), (ob_357 hp5 hp7 hp8), (ob_358 hp2 hp4 hp7), (ob_146), (ob_359 f3232 zc_1)⟩⟩, hS.F ht⟩) hS.2.2 dX9_unit_155
                · skip
                  have f3277 : r_2736.toInt ≠ 0 := qi_ne c_3226 rfl zc_0
                  have f3278 : i_token.toInt = (5 : Int) := (ob_365 f2737 f3277 zc_40)
                  have f3279 : (sgz f_text i_size.toInt i_at.toInt) = (40 : Int) := (ob_366 f2737 f3277 zc_40)
                  have f3280 : r_2736.toInt = (1 : Int) := (ob_367 f2737 f3277 zc_40)
                  have f3281 : (1 : Int) ≤ r_2736.toInt := (ob_162 f2738 f2739 f3280)
                  refine lv_iload hx hb dX9_unit_121 (lv_at hl 0 rfl) ?_
                  refine lv_if_ne (tgt := 143) hx hb dX9_unit_123 (by decide) (fun c_3282 => absurd (by decide) c_3282) (fun c_3282 => ?_)
                  refine lv_iload_n hx hb dX9_unit_126 rfl (lv_at hl 3 rfl) ?_
                  refine lv_if_ne (tgt := 134) hx hb dX9_unit_127 (by decide) (fun c_3283 => absurd (by decide) c_3283) (fun c_3283 => ?_)
                  refine lv_iload_n hx hb dX9_unit_130 rfl (lv_at hl 2 rfl) ?_
                  refine lv_if_eq (tgt := 147) hx hb dX9_unit_131 (by decide) (fun c_3284 => ((ob_394 (qi_eq c_3284 rfl zc_0) f3280)).elim) (fun c_3284 => ?_)
                  have f3285 : r_2736.toInt ≠ 0 := qi_ne c_3284 rfl zc_0
                  have f3286 : (1 : Int) ≤ r_2736.toInt := (ob_395 f3280)
                  refine lv_aload_n hx hb dX9_unit_134 rfl (lv_at hl 5 rfl) ?_
                  refine gM_X9_299_0 hx hb hG hown hK hP dX9_unit_135 ?_
                  refine lv_bipush (v := 7) hx hb dX9_unit_138 (by decide) ?_
                  refine lv_icmp_ne (tgt := 147) hx hb dX9_unit_140 (by decide) (fun c_3287 => ?_) (fun c_3287 => ?_)
                  · skip
                    have f3288 : i_within.toInt ≠ 7 := qi_ne c_3287 rfl zc_7
                    have f3289 : i_within.toInt ≤ (6 : Int) := (ob_396 hp4 f3288)
                    refine lv_aload_n hx hb dX9_unit_147 rfl (lv_at hl 5 rfl) ?_
                    refine va_calli (va_runV (As := []) (rest := []) ⟨hx, hb, hml, hown, hG⟩ (kX9_isGood l dC dI r ct i_taped i_size i_faultKind i_at i_end i_token i_number i_bank i_rb i_codes i_within i_piled i_unitsInRule i_askHouse i_askTune i_acts i_undone i_laid i_knowns i_time f_text f_tunes f_houses f_hums f_told f_many f_ruleFrom f_ruleTo f_code f_eWhat f_eSign f_all f_kept f_was f_sTune f_boxAll J L H2740.size hI) (cwV 0 hG (goodV gw1401 gw1403 gw61 gw138 gw1404) rfl rfl rfl hd_X9_isGood ⟨(Nat.le_of_ble_eq_true rfl), (Nat.le_of_ble_eq_true rfl)⟩) ⟨fbR, va_recv hK hP (ci := 8) (q0 := 0) rfl rfl, pR_in hP hK⟩ rfl rfl hl.1 rfl (lv_room (Nat.le_of_ble_eq_true rfl)) dX9_unit_148 ⟨(Nat.le_of_ble_eq_true rfl), (Nat.le_of_ble_eq_true rfl)⟩) hS (fun q hq h => absurd hq (Nat.not_lt.mpr h)) (fun q h => hA q (Nat.le_trans hS.1 h)) (fun r_3291 u_ t_ H3290 locs ht hvm hw hB hz1 hk1 hS => ?_)
                    subst hw
                    have hP := wk hP hk1
                    obtain ⟨f3292, f3293, f3294⟩ := hB
                    refine lv_if_ne (tgt := 156) hx hb dX9_unit_151 (by decide) (fun c_3295 => ?_) (fun c_3295 => ((ob_228 (qi_eq c_3295 rfl zc_0) hp10 f3292)).elim)
                    have f3296 : r_3291.toInt ≠ 0 := qi_ne c_3295 rfl zc_0
                    have f3297 : i_faultKind.toInt = (0 : Int) := (ob_229 ie17 hp10)
                    have f3298 : r_3291.toInt = (1 : Int) := (ob_220 f3292 f3296)
                    have f3299 : (1 : Int) ≤ r_3291.toInt := (ob_162 f3293 f3294 f3298)
                    refine lv_aload_n hx hb dX9_unit_156 rfl (lv_at hl 5 rfl) ?_
                    refine gM_X9_30_0 hx hb hG hown hK hP dX9_unit_157 ?_
                    refine lv_aload_n hx hb dX9_unit_160 rfl (lv_at hl 5 rfl) ?_
                    refine gM_X9_240_0 hx hb hG hown hK hP dX9_unit_161 ?_
                    refine lv_dup2_11 hx hb dX9_unit_164 rfl rfl ?_
                    refine ldM_6 (mm := i_rb.toInt) hx hb hK hP rfl (ob_350 ie6) (ob_351 ie7) dX9_unit_165 (fun x3300 => ?_)
                    refine lv_iload_n hx hb dX9_unit_166 rfl (lv_at hl 3 rfl) ?_
                    refine lv_if_eq (tgt := 174) hx hb dX9_unit_167 (by decide) (fun c_3301 => ?_) (fun c_3301 => absurd (by decide) c_3301)
                    refine lv_iconst (v := 1) hx hb dX9_unit_174 (by decide) ?_
                    refine lv_iadd hx hb dX9_unit_175 ?_
                    refine lv_topi (fun x3302 ex3302 => ?_)
                    refine stM_6 (mm := i_rb.toInt) hx hb hK hP hD hS rfl (ob_350 ie6) (ob_351 ie7) dX9_unit_176 (fun J3304 H3303 locs hP hD hS => ?_)
                    refine lv_aload_n hx hb dX9_unit_177 rfl (lv_at hl 5 rfl) ?_
                    refine lv_dup hx hb dX9_unit_178 rfl ?_
                    refine gM_X9_290_0 hx hb hG hown hK hP dX9_unit_179 ?_
                    refine lv_iload_n hx hb dX9_unit_182 rfl (lv_at hl 3 rfl) ?_
                    refine lv_if_eq (tgt := 190) hx hb dX9_unit_183 (by decide) (fun c_3305 => ?_) (fun c_3305 => absurd (by decide) c_3305)
                    refine lv_iconst (v := 1) hx hb dX9_unit_190 (by decide) ?_
                    refine lv_iadd hx hb dX9_unit_191 ?_
                    refine lv_topi (fun x3306 ex3306 => ?_)
                    have f3307 : x3306.toInt = i_unitsInRule.toInt + 1 := (ob_142 (qi_add ex3306 rfl zc_1 (ob_140 hp1) (ob_371 hp2)))
                    refine pM_X9_290_0 hx hb hG hown hK hP hD hS dX9_unit_192 (fun H3308 locs hP hD hS => ?_)
                    refine lv_iload hx hb dX9_unit_195 (lv_at hl 1 rfl) ?_
                    refine lv_if_ne (tgt := 207) hx hb dX9_unit_197 (by decide) (fun c_3309 => ((ob_389 (qi_ne c_3309 rfl zc_0) f3100 f3101)).elim) (fun c_3309 => ?_)
                    have f3310 : r_2741.toInt = 0 := qi_eq c_3309 rfl zc_0
                    refine lv_aload_n hx hb dX9_unit_200 rfl (lv_at hl 5 rfl) ?_
                    refine gM_X9_209_0 hx hb hG hown hK hP dX9_unit_201 ?_
                    refine lv_goto (tgt := 208) hx hb dX9_unit_204 (by decide) ?_
                    refine lv_istore (lv' := [(6, .int i_number), (5, .int 0), (4, .int r_2741), (3, .int r_2736), (2, .int 0), (1, .int 1), (0, .ref (r 0))]) hx hb dX9_unit_208 hl (by decide) rfl (fun ls hl => ?_)
                    refine lv_aload_n hx hb dX9_unit_210 rfl (lv_at hl 6 rfl) ?_
                    have hFc := frA hD hS hA
                    refine va_callv (va_runV (As := []) (rest := []) ⟨hx, hb, hml, hown, hG⟩ (kX9_goOn l dC dI r ct i_taped i_size i_faultKind i_at i_end i_token i_number i_bank i_rb i_codes i_within i_piled x3306 i_askHouse i_askTune i_acts i_undone i_laid i_knowns i_time f_text f_tunes f_houses f_hums f_told f_many f_ruleFrom f_ruleTo f_code f_eWhat f_eSign f_all f_kept f_was f_sTune f_boxAll J3304 L H3308.size hI) (cwV 0 hG (goodV gw1362 gw1364 gw59 gw138 gw1365) rfl rfl rfl hd_X9_goOn ⟨(Nat.le_of_ble_eq_true rfl), (Nat.le_of_ble_eq_true rfl)⟩) ⟨fbW, va_recv hK hP (ci := 8) (q0 := 0) rfl rfl, pW_in hP hK hD⟩ rfl rfl hl.1 rfl (lv_room (Nat.le_of_ble_eq_true rfl)) dX9_unit_211 ⟨(Nat.le_of_ble_eq_true rfl), (Nat.le_of_ble_eq_true rfl)⟩) hS (fun q _ h => hFc q h) hFc (fun _ t_ H3311 locs ht hvm hw hB hz1 hk1 hS => ?_)
                    obtain ⟨x3313, x3314, x3315, x3316, L3317, hP1, hD1, hI3321, f3318, f3319, f3320⟩ := hB
                    rw [ht] at hP1
                    have hP := hP1
                    have hD := dW hFc hD1
                    obtain ⟨im3322, im3323, im3324, im3325, im3326, im3327, im3328, im3329, im3330, im3331, im3332, im3333, im3334, im3335, im3336, im3337, im3338, im3339, im3340, im3341, im3342, im3343, im3344, im3345, im3346, im3347, im3348, im3349, im3350, im3351, im3352, im3353, im3354⟩ := id hI3321
                    refine lv_iload_n hx hb dX9_unit_214 rfl (lv_at hl 4 rfl) ?_
                    refine lv_if_ne (tgt := 222) hx hb dX9_unit_215 (by decide) (fun c_3355 => absurd (by decide) c_3355) (fun c_3355 => ?_)
                    refine lv_iload_n hx hb dX9_unit_218 rfl (lv_at hl 3 rfl) ?_
                    refine lv_if_eq (tgt := 250) hx hb dX9_unit_219 (by decide) (fun c_3356 => ((ob_394 (qi_eq c_3356 rfl zc_0) f3280)).elim) (fun c_3356 => ?_)
                    have f3357 : r_2736.toInt ≠ 0 := qi_ne c_3356 rfl zc_0
                    have f3358 : (1 : Int) ≤ r_2736.toInt := (ob_395 f3280)
                    refine lv_aload_n hx hb dX9_unit_222 rfl (lv_at hl 6 rfl) ?_
                    refine lv_iload_n hx hb dX9_unit_223 rfl (lv_at hl 4 rfl) ?_
                    refine lv_if_eq (tgt := 231) hx hb dX9_unit_224 (by decide) (fun c_3359 => ?_) (fun c_3359 => absurd (by decide) c_3359)
                    refine lv_bipush (v := 7) hx hb dX9_unit_231 (by decide) ?_
                    refine lv_bipush (v := 126) hx hb dX9_unit_233 (by decide) ?_
                    have hFc := frA hD hS hA
                    refine va_callv (va_runV (As := [.int 7, .int 126]) (rest := []) ⟨hx, hb, hml, hown, hG⟩ (kX9_pushE l dC dI r ct i_taped i_size i_faultKind x3313 x3314 x3315 x3316 i_bank i_rb i_codes i_within i_piled x3306 i_askHouse i_askTune i_acts i_undone i_laid i_knowns i_time f_text f_tunes f_houses f_hums f_told f_many f_ruleFrom f_ruleTo f_code f_eWhat f_eSign f_all f_kept f_was f_sTune f_boxAll J3304 L3317 7 126 H3311.size hI3321 (ob_357 hp5 hp7 hp8) (ob_397 hp2 hp4 hp7)) (cwV 2 hG (goodV gw1468 gw1470 gw77 gw138 gw1471) rfl rfl rfl hd_X9_pushE ⟨(Nat.le_of_ble_eq_true rfl), (Nat.le_of_ble_eq_true rfl)⟩) ⟨fbW, va_recv hK hP (ci := 8) (q0 := 0) rfl rfl, pW_in hP hK hD⟩ rfl rfl hl.1 rfl (lv_room (Nat.le_of_ble_eq_true rfl)) dX9_unit_235 ⟨(Nat.le_of_ble_eq_true rfl), (Nat.le_of_ble_eq_true rfl)⟩) hS (fun q _ h => hFc q h) hFc (fun _ t_ H3360 locs ht hvm hw hB hz1 hk1 hS => ?_)
                    obtain ⟨x3362, z3363, z3364, hP1, hD1, hI3368, f3365, f3366, f3367⟩ := hB
                    rw [ht] at hP1
                    have hP := hP1
                    have hD := dW hFc hD1
                    obtain ⟨im3369, im3370, im3371, im3372, im3373, im3374, im3375, im3376, im3377, im3378, im3379, im3380, im3381, im3382, im3383, im3384, im3385, im3386, im3387, im3388, im3389, im3390, im3391, im3392, im3393, im3394, im3395, im3396, im3397, im3398, im3399, im3400, im3401⟩ := id hI3368
                    have f3402 : (z3363 ((0 : Int)).toNat).toInt = (f_eWhat ((0 : Int)).toNat).toInt := (by rw [f3366, upd_off (ne0 (ob_398 hp5))])
                    refine lv_aload_n hx hb dX9_unit_238 rfl (lv_at hl 6 rfl) ?_
                    refine lv_dup hx hb dX9_unit_239 rfl ?_
                    refine gM_X9_299_0 hx hb hG hown hK hP dX9_unit_240 ?_
                    refine lv_iconst (v := 1) hx hb dX9_unit_243 (by decide) ?_
                    refine lv_iadd hx hb dX9_unit_244 ?_
                    refine lv_topi (fun x3403 ex3403 => ?_)
                    have f3404 : x3403.toInt = i_within.toInt + 1 := (ob_142 (qi_add ex3403 rfl zc_1 (ob_140 hp3) (ob_399 hp4)))
                    refine pM_X9_299_0 hx hb hG hown hK hP hD hS dX9_unit_245 (fun H3405 locs hP hD hS => ?_)
                    refine lv_iconst (v := 1) hx hb dX9_unit_248 (by decide) ?_
                    rw [hQ]
                    exact W.zret (v := 1) hx hb hr (by decide) (fun t ht hW => ⟨⟨1, 1, rfl, rfl, ⟨i_faultKind, x3313, x3314, x3315, x3316, i_codes, x3403, x3362, x3306, f_code, z3363, z3364, J3304, L3317, by rw [ht]; exact hP, hD, hI3368, (ob_14 zc_1), (ob_15 zc_1), (fun _ => SPpush hp11 f3366 f3367 (ob_398 hp5) (ob_142 f3365) (Or.inl (ob_400 zc_1 f3404 zc_126 zc_7))), (ob_199 hp5 f3365), (ob_401 hp2 hp4 hp7 f3365), (ob_145 f3318), (ob_402 ie2 ie3 ie4 ie17 hp2 hp3 hp4 hp5 hp6 hp7 hp8 hp9 f2737 f2972 f3277 f3288 f3320 f3365 f3402 zc_40 zc_1 f3404 f3307)⟩⟩, hS.F ht⟩) hS.2.2 dX9_unit_249
                  · skip
                    have f3406 : i_within.toInt = 7 := qi_eq c_3287 rfl zc_7
                    refine lv_aload_n hx hb dX9_unit_143 rfl (lv_at hl 5 rfl) ?_
                    have hFc := frA hD hS hA
                    refine va_callv (va_runV (As := []) (rest := []) ⟨hx, hb, hml, hown, hG⟩ (kX9_misplaced l dC dI r ct i_taped i_size i_faultKind i_at i_end i_token i_number i_bank i_rb i_codes i_within i_piled i_unitsInRule i_askHouse i_askTune i_acts i_undone i_laid i_knowns i_time f_text f_tunes f_houses f_hums f_told f_many f_ruleFrom f_ruleTo f_code f_eWhat f_eSign f_all f_kept f_was f_sTune f_boxAll J L H2740.size hI) (cwV 0 hG (goodV gw1420 gw1422 gw65 gw138 gw1423) rfl rfl rfl hd_X9_misplaced ⟨(Nat.le_of_ble_eq_true rfl), (Nat.le_of_ble_eq_true rfl)⟩) ⟨fbW, va_recv hK hP (ci := 8) (q0 := 0) rfl rfl, pW_in hP hK hD⟩ rfl rfl hl.1 rfl (lv_room (Nat.le_of_ble_eq_true rfl)) dX9_unit_144 ⟨(Nat.le_of_ble_eq_true rfl), (Nat.le_of_ble_eq_true rfl)⟩) hS (fun q _ h => hFc q h) hFc (fun _ t_ H3407 locs ht hvm hw hB hz1 hk1 hS => ?_)
                    obtain ⟨x3409, J3410, hP1, hD1, hI3412, f3411⟩ := hB
                    rw [ht] at hP1
                    have hP := hP1
                    have hD := dW hFc hD1
                    obtain ⟨im3413, im3414, im3415, im3416, im3417, im3418, im3419, im3420, im3421, im3422, im3423, im3424, im3425, im3426, im3427, im3428, im3429, im3430, im3431, im3432, im3433, im3434, im3435, im3436, im3437, im3438, im3439, im3440, im3441, im3442, im3443, im3444, im3445⟩ := id hI3412
                    refine lv_aload_n hx hb dX9_unit_147 rfl (lv_at hl 5 rfl) ?_
                    refine va_calli (va_runV (As := []) (rest := []) ⟨hx, hb, hml, hown, hG⟩ (kX9_isGood l dC dI r ct i_taped i_size x3409 i_at i_end i_token i_number i_bank i_rb i_codes i_within i_piled i_unitsInRule i_askHouse i_askTune i_acts i_undone i_laid i_knowns i_time f_text f_tunes f_houses f_hums f_told f_many f_ruleFrom f_ruleTo f_code f_eWhat f_eSign f_all f_kept f_was f_sTune f_boxAll J3410 L H3407.size hI3412) (cwV 0 hG (goodV gw1401 gw1403 gw61 gw138 gw1404) rfl rfl rfl hd_X9_isGood ⟨(Nat.le_of_ble_eq_true rfl), (Nat.le_of_ble_eq_true rfl)⟩) ⟨fbR, va_recv hK hP (ci := 8) (q0 := 0) rfl rfl, pR_in hP hK⟩ rfl rfl hl.1 rfl (lv_room (Nat.le_of_ble_eq_true rfl)) dX9_unit_148 ⟨(Nat.le_of_ble_eq_true rfl), (Nat.le_of_ble_eq_true rfl)⟩) hS (fun q hq h => absurd hq (Nat.not_lt.mpr h)) (fun q h => hA q (Nat.le_trans hS.1 h)) (fun r_3447 u_ t_ H3446 locs ht hvm hw hB hz1 hk1 hS => ?_)
                    subst hw
                    have hP := wk hP hk1
                    obtain ⟨f3448, f3449, f3450⟩ := hB
                    refine lv_if_ne (tgt := 156) hx hb dX9_unit_151 (by decide) (fun c_3451 => ((ob_231 (qi_ne c_3451 rfl zc_0) f3411 f3448)).elim) (fun c_3451 => ?_)
                    have f3452 : r_3447.toInt = 0 := qi_eq c_3451 rfl zc_0
                    have f3453 : x3409.toInt ≠ (0 : Int) := (ob_232 im3430 f3411)
                    have f3454 : (1 : Int) ≤ x3409.toInt := (ob_217 im3430 f3411)
                    have f3455 : r_3447.toInt = (0 : Int) := (ob_226 f3449 f3450 f3452)
                    refine lv_iconst (v := 1) hx hb dX9_unit_154 (by decide) ?_
                    rw [hQ]
                    exact W.zret (v := 1) hx hb hr (by decide) (fun t ht hW => ⟨⟨1, 1, rfl, rfl, ⟨x3409, i_at, i_end, i_token, i_number, i_codes, i_within, i_piled, i_unitsInRule, f_code, f_eWhat, f_eSign, J3410, L, by rw [ht]; exact hP, hD, hI3412, (ob_14 zc_1), (ob_15 zc_1), (fun h => ((ob_356 h im3430 f3411)).elim), (ob_357 hp5 hp7 hp8), (ob_358 hp2 hp4 hp7), (ob_146), (ob_359 f3411 zc_1)⟩⟩, hS.F ht⟩) hS.2.2 dX9_unit_155
          · skip
            have f3456 : i_unitsInRule.toInt = 30 := qi_eq c_2971 rfl zc_30
            refine lv_iconst (v := 1) hx hb dX9_unit_93 (by decide) ?_
            refine lv_goto (tgt := 98) hx hb dX9_unit_94 (by decide) ?_
            refine lv_istore (lv' := [(5, .int 1), (4, .int r_2741), (3, .int r_2736), (2, .int 0), (1, .int 1), (0, .ref (r 0))]) hx hb dX9_unit_98 hl (by decide) rfl (fun ls hl => ?_)
            refine lv_iload_n hx hb dX9_unit_100 rfl (lv_at hl 3 rfl) ?_
            refine lv_if_ne (tgt := 126) hx hb dX9_unit_101 (by decide) (fun c_3457 => absurd (by decide) c_3457) (fun c_3457 => ?_)
            refine lv_iload hx hb dX9_unit_104 (lv_at hl 1 rfl) ?_
            refine lv_if_ne (tgt := 121) hx hb dX9_unit_106 (by decide) (fun c_3458 => ?_) (fun c_3458 => ?_)
            · skip
              have f3459 : r_2741.toInt ≠ 0 := qi_ne c_3458 rfl zc_0
              have f3460 : (97 : Int) ≤ r_2741.toInt := (ob_352 f2742 f3459)
              have f3461 : r_2741.toInt ≤ (122 : Int) := (ob_353 f2742 f3459 f3460)
              have f3462 : i_token.toInt = (3 : Int) := (ob_354 f2742 f3459)
              have f3463 : (1 : Int) ≤ r_2741.toInt := (ob_355 f3460 f3461)
              refine lv_iload hx hb dX9_unit_121 (lv_at hl 0 rfl) ?_
              refine lv_if_ne (tgt := 143) hx hb dX9_unit_123 (by decide) (fun c_3464 => ?_) (fun c_3464 => absurd c_3464 (by decide))
              refine lv_aload_n hx hb dX9_unit_143 rfl (lv_at hl 5 rfl) ?_
              have hFc := frA hD hS hA
              refine va_callv (va_runV (As := []) (rest := []) ⟨hx, hb, hml, hown, hG⟩ (kX9_misplaced l dC dI r ct i_taped i_size i_faultKind i_at i_end i_token i_number i_bank i_rb i_codes i_within i_piled i_unitsInRule i_askHouse i_askTune i_acts i_undone i_laid i_knowns i_time f_text f_tunes f_houses f_hums f_told f_many f_ruleFrom f_ruleTo f_code f_eWhat f_eSign f_all f_kept f_was f_sTune f_boxAll J L H2740.size hI) (cwV 0 hG (goodV gw1420 gw1422 gw65 gw138 gw1423) rfl rfl rfl hd_X9_misplaced ⟨(Nat.le_of_ble_eq_true rfl), (Nat.le_of_ble_eq_true rfl)⟩) ⟨fbW, va_recv hK hP (ci := 8) (q0 := 0) rfl rfl, pW_in hP hK hD⟩ rfl rfl hl.1 rfl (lv_room (Nat.le_of_ble_eq_true rfl)) dX9_unit_144 ⟨(Nat.le_of_ble_eq_true rfl), (Nat.le_of_ble_eq_true rfl)⟩) hS (fun q _ h => hFc q h) hFc (fun _ t_ H3465 locs ht hvm hw hB hz1 hk1 hS => ?_)
              obtain ⟨x3467, J3468, hP1, hD1, hI3470, f3469⟩ := hB
              rw [ht] at hP1
              have hP := hP1
              have hD := dW hFc hD1
              obtain ⟨im3471, im3472, im3473, im3474, im3475, im3476, im3477, im3478, im3479, im3480, im3481, im3482, im3483, im3484, im3485, im3486, im3487, im3488, im3489, im3490, im3491, im3492, im3493, im3494, im3495, im3496, im3497, im3498, im3499, im3500, im3501, im3502, im3503⟩ := id hI3470
              refine lv_aload_n hx hb dX9_unit_147 rfl (lv_at hl 5 rfl) ?_
              refine va_calli (va_runV (As := []) (rest := []) ⟨hx, hb, hml, hown, hG⟩ (kX9_isGood l dC dI r ct i_taped i_size x3467 i_at i_end i_token i_number i_bank i_rb i_codes i_within i_piled i_unitsInRule i_askHouse i_askTune i_acts i_undone i_laid i_knowns i_time f_text f_tunes f_houses f_hums f_told f_many f_ruleFrom f_ruleTo f_code f_eWhat f_eSign f_all f_kept f_was f_sTune f_boxAll J3468 L H3465.size hI3470) (cwV 0 hG (goodV gw1401 gw1403 gw61 gw138 gw1404) rfl rfl rfl hd_X9_isGood ⟨(Nat.le_of_ble_eq_true rfl), (Nat.le_of_ble_eq_true rfl)⟩) ⟨fbR, va_recv hK hP (ci := 8) (q0 := 0) rfl rfl, pR_in hP hK⟩ rfl rfl hl.1 rfl (lv_room (Nat.le_of_ble_eq_true rfl)) dX9_unit_148 ⟨(Nat.le_of_ble_eq_true rfl), (Nat.le_of_ble_eq_true rfl)⟩) hS (fun q hq h => absurd hq (Nat.not_lt.mpr h)) (fun q h => hA q (Nat.le_trans hS.1 h)) (fun r_3505 u_ t_ H3504 locs ht hvm hw hB hz1 hk1 hS => ?_)
              subst hw
              have hP := wk hP hk1
              obtain ⟨f3506, f3507, f3508⟩ := hB
              refine lv_if_ne (tgt := 156) hx hb dX9_unit_151 (by decide) (fun c_3509 => ((ob_231 (qi_ne c_3509 rfl zc_0) f3469 f3506)).elim) (fun c_3509 => ?_)
              have f3510 : r_3505.toInt = 0 := qi_eq c_3509 rfl zc_0
              have f3511 : x3467.toInt ≠ (0 : Int) := (ob_232 im3488 f3469)
              have f3512 : (1 : Int) ≤ x3467.toInt := (ob_217 im3488 f3469)
              have f3513 : r_3505.toInt = (0 : Int) := (ob_226 f3507 f3508 f3510)
              refine lv_iconst (v := 1) hx hb dX9_unit_154 (by decide) ?_
              rw [hQ]
              exact W.zret (v := 1) hx hb hr (by decide) (fun t ht hW => ⟨⟨1, 1, rfl, rfl, ⟨x3467, i_at, i_end, i_token, i_number, i_codes, i_within, i_piled, i_unitsInRule, f_code, f_eWhat, f_eSign, J3468, L, by rw [ht]; exact hP, hD, hI3470, (ob_14 zc_1), (ob_15 zc_1), (fun h => ((ob_356 h im3488 f3469)).elim), (ob_357 hp5 hp7 hp8), (ob_358 hp2 hp4 hp7), (ob_146), (ob_359 f3469 zc_1)⟩⟩, hS.F ht⟩) hS.2.2 dX9_unit_155
            · skip
              have f3514 : r_2741.toInt = 0 := qi_eq c_3458 rfl zc_0
              have f3515 : r_2741.toInt = (0 : Int) := (ob_25 f3514)
              refine lv_aload_n hx hb dX9_unit_109 rfl (lv_at hl 5 rfl) ?_
              refine gM_X9_191_0 hx hb hG hown hK hP dX9_unit_110 ?_
              refine lv_iconst (v := 4) hx hb dX9_unit_113 (by decide) ?_
              refine lv_icmp_eq (tgt := 121) hx hb dX9_unit_114 (by decide) (fun c_3516 => ?_) (fun c_3516 => ?_)
              · skip
                have f3517 : i_token.toInt = 4 := qi_eq c_3516 rfl zc_4
                have f3518 : i_token.toInt ≠ (3 : Int) := (ob_360 f3517)
                have f3519 : r_2729.toInt = (0 : Int) := (ob_226 f2731 f2732 f2734)
                have f3520 : i_token.toInt ≠ (5 : Int) := (ob_361 f3517)
                have f3521 : r_2736.toInt = (0 : Int) := (ob_362 f2737 f3517 zc_40)
                have f3522 : (4 : Int) ≤ i_token.toInt := (ob_363 f3517)
                have f3523 : i_token.toInt ≤ (4 : Int) := (ob_364 f3517 f3522)
                refine lv_iload hx hb dX9_unit_121 (lv_at hl 0 rfl) ?_
                refine lv_if_ne (tgt := 143) hx hb dX9_unit_123 (by decide) (fun c_3524 => ?_) (fun c_3524 => absurd c_3524 (by decide))
                refine lv_aload_n hx hb dX9_unit_143 rfl (lv_at hl 5 rfl) ?_
                have hFc := frA hD hS hA
                refine va_callv (va_runV (As := []) (rest := []) ⟨hx, hb, hml, hown, hG⟩ (kX9_misplaced l dC dI r ct i_taped i_size i_faultKind i_at i_end i_token i_number i_bank i_rb i_codes i_within i_piled i_unitsInRule i_askHouse i_askTune i_acts i_undone i_laid i_knowns i_time f_text f_tunes f_houses f_hums f_told f_many f_ruleFrom f_ruleTo f_code f_eWhat f_eSign f_all f_kept f_was f_sTune f_boxAll J L H2740.size hI) (cwV 0 hG (goodV gw1420 gw1422 gw65 gw138 gw1423) rfl rfl rfl hd_X9_misplaced ⟨(Nat.le_of_ble_eq_true rfl), (Nat.le_of_ble_eq_true rfl)⟩) ⟨fbW, va_recv hK hP (ci := 8) (q0 := 0) rfl rfl, pW_in hP hK hD⟩ rfl rfl hl.1 rfl (lv_room (Nat.le_of_ble_eq_true rfl)) dX9_unit_144 ⟨(Nat.le_of_ble_eq_true rfl), (Nat.le_of_ble_eq_true rfl)⟩) hS (fun q _ h => hFc q h) hFc (fun _ t_ H3525 locs ht hvm hw hB hz1 hk1 hS => ?_)
                obtain ⟨x3527, J3528, hP1, hD1, hI3530, f3529⟩ := hB
                rw [ht] at hP1
                have hP := hP1
                have hD := dW hFc hD1
                obtain ⟨im3531, im3532, im3533, im3534, im3535, im3536, im3537, im3538, im3539, im3540, im3541, im3542, im3543, im3544, im3545, im3546, im3547, im3548, im3549, im3550, im3551, im3552, im3553, im3554, im3555, im3556, im3557, im3558, im3559, im3560, im3561, im3562, im3563⟩ := id hI3530
                refine lv_aload_n hx hb dX9_unit_147 rfl (lv_at hl 5 rfl) ?_
                refine va_calli (va_runV (As := []) (rest := []) ⟨hx, hb, hml, hown, hG⟩ (kX9_isGood l dC dI r ct i_taped i_size x3527 i_at i_end i_token i_number i_bank i_rb i_codes i_within i_piled i_unitsInRule i_askHouse i_askTune i_acts i_undone i_laid i_knowns i_time f_text f_tunes f_houses f_hums f_told f_many f_ruleFrom f_ruleTo f_code f_eWhat f_eSign f_all f_kept f_was f_sTune f_boxAll J3528 L H3525.size hI3530) (cwV 0 hG (goodV gw1401 gw1403 gw61 gw138 gw1404) rfl rfl rfl hd_X9_isGood ⟨(Nat.le_of_ble_eq_true rfl), (Nat.le_of_ble_eq_true rfl)⟩) ⟨fbR, va_recv hK hP (ci := 8) (q0 := 0) rfl rfl, pR_in hP hK⟩ rfl rfl hl.1 rfl (lv_room (Nat.le_of_ble_eq_true rfl)) dX9_unit_148 ⟨(Nat.le_of_ble_eq_true rfl), (Nat.le_of_ble_eq_true rfl)⟩) hS (fun q hq h => absurd hq (Nat.not_lt.mpr h)) (fun q h => hA q (Nat.le_trans hS.1 h)) (fun r_3565 u_ t_ H3564 locs ht hvm hw hB hz1 hk1 hS => ?_)
                subst hw
                have hP := wk hP hk1
                obtain ⟨f3566, f3567, f3568⟩ := hB
                refine lv_if_ne (tgt := 156) hx hb dX9_unit_151 (by decide) (fun c_3569 => ((ob_231 (qi_ne c_3569 rfl zc_0) f3529 f3566)).elim) (fun c_3569 => ?_)
                have f3570 : r_3565.toInt = 0 := qi_eq c_3569 rfl zc_0
                have f3571 : x3527.toInt ≠ (0 : Int) := (ob_232 im3548 f3529)
                have f3572 : (1 : Int) ≤ x3527.toInt := (ob_217 im3548 f3529)
                have f3573 : r_3565.toInt = (0 : Int) := (ob_226 f3567 f3568 f3570)
                refine lv_iconst (v := 1) hx hb dX9_unit_154 (by decide) ?_
                rw [hQ]
                exact W.zret (v := 1) hx hb hr (by decide) (fun t ht hW => ⟨⟨1, 1, rfl, rfl, ⟨x3527, i_at, i_end, i_token, i_number, i_codes, i_within, i_piled, i_unitsInRule, f_code, f_eWhat, f_eSign, J3528, L, by rw [ht]; exact hP, hD, hI3530, (ob_14 zc_1), (ob_15 zc_1), (fun h => ((ob_356 h im3548 f3529)).elim), (ob_357 hp5 hp7 hp8), (ob_358 hp2 hp4 hp7), (ob_146), (ob_359 f3529 zc_1)⟩⟩, hS.F ht⟩) hS.2.2 dX9_unit_155
              · skip
                have f3574 : i_token.toInt ≠ 4 := qi_ne c_3516 rfl zc_4
                refine lv_iload_n hx hb dX9_unit_117 rfl (lv_at hl 2 rfl) ?_
                refine lv_if_eq (tgt := 143) hx hb dX9_unit_118 (by decide) (fun c_3575 => ?_) (fun c_3575 => ?_)
                · skip
                  have f3576 : r_2736.toInt = 0 := qi_eq c_3575 rfl zc_0
                  refine lv_aload_n hx hb dX9_unit_143 rfl (lv_at hl 5 rfl) ?_
                  have hFc := frA hD hS hA
                  refine va_callv (va_runV (As := []) (rest := []) ⟨hx, hb, hml, hown, hG⟩ (kX9_misplaced l dC dI r ct i_taped i_size i_faultKind i_at i_end i_token i_number i_bank i_rb i_codes i_within i_piled i_unitsInRule i_askHouse i_askTune i_acts i_undone i_laid i_knowns i_time f_text f_tunes f_houses f_hums f_told f_many f_ruleFrom f_ruleTo f_code f_eWhat f_eSign f_all f_kept f_was f_sTune f_boxAll J L H2740.size hI) (cwV 0 hG (goodV gw1420 gw1422 gw65 gw138 gw1423) rfl rfl rfl hd_X9_misplaced ⟨(Nat.le_of_ble_eq_true rfl), (Nat.le_of_ble_eq_true rfl)⟩) ⟨fbW, va_recv hK hP (ci := 8) (q0 := 0) rfl rfl, pW_in hP hK hD⟩ rfl rfl hl.1 rfl (lv_room (Nat.le_of_ble_eq_true rfl)) dX9_unit_144 ⟨(Nat.le_of_ble_eq_true rfl), (Nat.le_of_ble_eq_true rfl)⟩) hS (fun q _ h => hFc q h) hFc (fun _ t_ H3577 locs ht hvm hw hB hz1 hk1 hS => ?_)
                  obtain ⟨x3579, J3580, hP1, hD1, hI3582, f3581⟩ := hB
                  rw [ht] at hP1
                  have hP := hP1
                  have hD := dW hFc hD1
                  obtain ⟨im3583, im3584, im3585, im3586, im3587, im3588, im3589, im3590, im3591, im3592, im3593, im3594, im3595, im3596, im3597, im3598, im3599, im3600, im3601, im3602, im3603, im3604, im3605, im3606, im3607, im3608, im3609, im3610, im3611, im3612, im3613, im3614, im3615⟩ := id hI3582
                  refine lv_aload_n hx hb dX9_unit_147 rfl (lv_at hl 5 rfl) ?_
                  refine va_calli (va_runV (As := []) (rest := []) ⟨hx, hb, hml, hown, hG⟩ (kX9_isGood l dC dI r ct i_taped i_size x3579 i_at i_end i_token i_number i_bank i_rb i_codes i_within i_piled i_unitsInRule i_askHouse i_askTune i_acts i_undone i_laid i_knowns i_time f_text f_tunes f_houses f_hums f_told f_many f_ruleFrom f_ruleTo f_code f_eWhat f_eSign f_all f_kept f_was f_sTune f_boxAll J3580 L H3577.size hI3582) (cwV 0 hG (goodV gw1401 gw1403 gw61 gw138 gw1404) rfl rfl rfl hd_X9_isGood ⟨(Nat.le_of_ble_eq_true rfl), (Nat.le_of_ble_eq_true rfl)⟩) ⟨fbR, va_recv hK hP (ci := 8) (q0 := 0) rfl rfl, pR_in hP hK⟩ rfl rfl hl.1 rfl (lv_room (Nat.le_of_ble_eq_true rfl)) dX9_unit_148 ⟨(Nat.le_of_ble_eq_true rfl), (Nat.le_of_ble_eq_true rfl)⟩) hS (fun q hq h => absurd hq (Nat.not_lt.mpr h)) (fun q h => hA q (Nat.le_trans hS.1 h)) (fun r_3617 u_ t_ H3616 locs ht hvm hw hB hz1 hk1 hS => ?_)
                  subst hw
                  have hP := wk hP hk1
                  obtain ⟨f3618, f3619, f3620⟩ := hB
                  refine lv_if_ne (tgt := 156) hx hb dX9_unit_151 (by decide) (fun c_3621 => ((ob_231 (qi_ne c_3621 rfl zc_0) f3581 f3618)).elim) (fun c_3621 => ?_)
                  have f3622 : r_3617.toInt = 0 := qi_eq c_3621 rfl zc_0
                  have f3623 : x3579.toInt ≠ (0 : Int) := (ob_232 im3600 f3581)
                  have f3624 : (1 : Int) ≤ x3579.toInt := (ob_217 im3600 f3581)
                  have f3625 : r_3617.toInt = (0 : Int) := (ob_226 f3619 f3620 f3622)
                  refine lv_iconst (v := 1) hx hb dX9_unit_154 (by decide) ?_
                  rw [hQ]
                  exact W.zret (v := 1) hx hb hr (by decide) (fun t ht hW => ⟨⟨1, 1, rfl, rfl, ⟨x3579, i_at, i_end, i_token, i_number, i_codes, i_within, i_piled, i_unitsInRule, f_code, f_eWhat, f_eSign, J3580, L, by rw [ht]; exact hP, hD, hI3582, (ob_14 zc_1), (ob_15 zc_1), (fun h => ((ob_356 h im3600 f3581)).elim), (ob_357 hp5 hp7 hp8), (ob_358 hp2 hp4 hp7), (ob_146), (ob_359 f3581 zc_1)⟩⟩, hS.F ht⟩) hS.2.2 dX9_unit_155
                · skip
                  have f3626 : r_2736.toInt ≠ 0 := qi_ne c_3575 rfl zc_0
                  have f3627 : i_token.toInt = (5 : Int) := (ob_365 f2737 f3626 zc_40)
                  have f3628 : (sgz f_text i_size.toInt i_at.toInt) = (40 : Int) := (ob_366 f2737 f3626 zc_40)
                  have f3629 : r_2736.toInt = (1 : Int) := (ob_367 f2737 f3626 zc_40)
                  have f3630 : (1 : Int) ≤ r_2736.toInt := (ob_162 f2738 f2739 f3629)
                  refine lv_iload hx hb dX9_unit_121 (lv_at hl 0 rfl) ?_
                  refine lv_if_ne (tgt := 143) hx hb dX9_unit_123 (by decide) (fun c_3631 => ?_) (fun c_3631 => absurd c_3631 (by decide))
                  refine lv_aload_n hx hb dX9_unit_143 rfl (lv_at hl 5 rfl) ?_
                  have hFc := frA hD hS hA
                  refine va_callv (va_runV (As := []) (rest := []) ⟨hx, hb, hml, hown, hG⟩ (kX9_misplaced l dC dI r ct i_taped i_size i_faultKind i_at i_end i_token i_number i_bank i_rb i_codes i_within i_piled i_unitsInRule i_askHouse i_askTune i_acts i_undone i_laid i_knowns i_time f_text f_tunes f_houses f_hums f_told f_many f_ruleFrom f_ruleTo f_code f_eWhat f_eSign f_all f_kept f_was f_sTune f_boxAll J L H2740.size hI) (cwV 0 hG (goodV gw1420 gw1422 gw65 gw138 gw1423) rfl rfl rfl hd_X9_misplaced ⟨(Nat.le_of_ble_eq_true rfl), (Nat.le_of_ble_eq_true rfl)⟩) ⟨fbW, va_recv hK hP (ci := 8) (q0 := 0) rfl rfl, pW_in hP hK hD⟩ rfl rfl hl.1 rfl (lv_room (Nat.le_of_ble_eq_true rfl)) dX9_unit_144 ⟨(Nat.le_of_ble_eq_true rfl), (Nat.le_of_ble_eq_true rfl)⟩) hS (fun q _ h => hFc q h) hFc (fun _ t_ H3632 locs ht hvm hw hB hz1 hk1 hS => ?_)
                  obtain ⟨x3634, J3635, hP1, hD1, hI3637, f3636⟩ := hB
                  rw [ht] at hP1
                  have hP := hP1
                  have hD := dW hFc hD1
                  obtain ⟨im3638, im3639, im3640, im3641, im3642, im3643, im3644, im3645, im3646, im3647, im3648, im3649, im3650, im3651, im3652, im3653, im3654, im3655, im3656, im3657, im3658, im3659, im3660, im3661, im3662, im3663, im3664, im3665, im3666, im3667, im3668, im3669, im3670⟩ := id hI3637
                  refine lv_aload_n hx hb dX9_unit_147 rfl (lv_at hl 5 rfl) ?_
                  refine va_calli (va_runV (As := []) (rest := []) ⟨hx, hb, hml, hown, hG⟩ (kX9_isGood l dC dI r ct i_taped i_size x3634 i_at i_end i_token i_number i_bank i_rb i_codes i_within i_piled i_unitsInRule i_askHouse i_askTune i_acts i_undone i_laid i_knowns i_time f_text f_tunes f_houses f_hums f_told f_many f_ruleFrom f_ruleTo f_code f_eWhat f_eSign f_all f_kept f_was f_sTune f_boxAll J3635 L H3632.size hI3637) (cwV 0 hG (goodV gw1401 gw1403 gw61 gw138 gw1404) rfl rfl rfl hd_X9_isGood ⟨(Nat.le_of_ble_eq_true rfl), (Nat.le_of_ble_eq_true rfl)⟩) ⟨fbR, va_recv hK hP (ci := 8) (q0 := 0) rfl rfl, pR_in hP hK⟩ rfl rfl hl.1 rfl (lv_room (Nat.le_of_ble_eq_true rfl)) dX9_unit_148 ⟨(Nat.le_of_ble_eq_true rfl), (Nat.le_of_ble_eq_true rfl)⟩) hS (fun q hq h => absurd hq (Nat.not_lt.mpr h)) (fun q h => hA q (Nat.le_trans hS.1 h)) (fun r_3672 u_ t_ H3671 locs ht hvm hw hB hz1 hk1 hS => ?_)
                  subst hw
                  have hP := wk hP hk1
                  obtain ⟨f3673, f3674, f3675⟩ := hB
                  refine lv_if_ne (tgt := 156) hx hb dX9_unit_151 (by decide) (fun c_3676 => ((ob_231 (qi_ne c_3676 rfl zc_0) f3636 f3673)).elim) (fun c_3676 => ?_)
                  have f3677 : r_3672.toInt = 0 := qi_eq c_3676 rfl zc_0
                  have f3678 : x3634.toInt ≠ (0 : Int) := (ob_232 im3655 f3636)
                  have f3679 : (1 : Int) ≤ x3634.toInt := (ob_217 im3655 f3636)
                  have f3680 : r_3672.toInt = (0 : Int) := (ob_226 f3674 f3675 f3677)
                  refine lv_iconst (v := 1) hx hb dX9_unit_154 (by decide) ?_
                  rw [hQ]
                  exact W.zret (v := 1) hx hb hr (by decide) (fun t ht hW => ⟨⟨1, 1, rfl, rfl, ⟨x3634, i_at, i_end, i_token, i_number, i_codes, i_within, i_piled, i_unitsInRule, f_code, f_eWhat, f_eSign, J3635, L, by rw [ht]; exact hP, hD, hI3637, (ob_14 zc_1), (ob_15 zc_1), (fun h => ((ob_356 h im3655 f3636)).elim), (ob_357 hp5 hp7 hp8), (ob_358 hp2 hp4 hp7), (ob_146), (ob_359 f3636 zc_1)⟩⟩, hS.F ht⟩) hS.2.2 dX9_unit_155
      · skip
        have f3681 : r_2729.toInt ≠ 0 := qi_ne c_2733 rfl zc_0
        have f3682 : i_token.toInt = (3 : Int) := (ob_403 f2730 f3681 zl_7237492)
        have f3683 : (L 0 0).toInt = (7237492 : Int) := (ob_404 f2730 f3681 zl_7237492)
        have f3684 : r_2729.toInt = (1 : Int) := (ob_405 f2730 f3681 zl_7237492)
        have f3685 : (1 : Int) ≤ r_2729.toInt := (ob_162 f2731 f2732 f3684)
        refine lv_iconst (v := 1) hx hb dX9_unit_51 (by decide) ?_
        refine lv_goto (tgt := 56) hx hb dX9_unit_52 (by decide) ?_
        refine lv_istore_n (lv' := [(2, .int 1), (1, .int 1), (0, .ref (r 0))]) hx hb dX9_unit_56 rfl hl (by decide) rfl (fun ls hl => ?_)
        refine lv_aload_n hx hb dX9_unit_57 rfl (lv_at hl 2 rfl) ?_
        refine lv_bipush (v := 40) hx hb dX9_unit_58 (by decide) ?_
        refine va_calli (va_runV (As := [.int 40]) (rest := []) ⟨hx, hb, hml, hown, hG⟩ (kX9_isSignHere l dC dI r ct i_taped i_size i_faultKind i_at i_end i_token i_number i_bank i_rb i_codes i_within i_piled i_unitsInRule i_askHouse i_askTune i_acts i_undone i_laid i_knowns i_time f_text f_tunes f_houses f_hums f_told f_many f_ruleFrom f_ruleTo f_code f_eWhat f_eSign f_all f_kept f_was f_sTune f_boxAll J L 40 H2728.size hI) (cwV 1 hG (goodV gw1476 gw1478 gw79 gw138 gw1479) rfl rfl rfl hd_X9_isSignHere ⟨(Nat.le_of_ble_eq_true rfl), (Nat.le_of_ble_eq_true rfl)⟩) ⟨fbR, va_recv hK hP (ci := 8) (q0 := 0) rfl rfl, pR_in hP hK⟩ rfl rfl hl.1 rfl (lv_room (Nat.le_of_ble_eq_true rfl)) dX9_unit_60 ⟨(Nat.le_of_ble_eq_true rfl), (Nat.le_of_ble_eq_true rfl)⟩) hS (fun q hq h => absurd hq (Nat.not_lt.mpr h)) (fun q h => hA q (Nat.le_trans hS.1 h)) (fun r_3687 u_ t_ H3686 locs ht hvm hw hB hz1 hk1 hS => ?_)
        subst hw
        have hP := wk hP hk1
        obtain ⟨f3688, f3689, f3690⟩ := hB
        refine lv_istore_n (lv' := [(3, .int r_3687), (2, .int 1), (1, .int 1), (0, .ref (r 0))]) hx hb dX9_unit_63 rfl hl (by decide) rfl (fun ls hl => ?_)
        refine lv_aload_n hx hb dX9_unit_64 rfl (lv_at hl 3 rfl) ?_
        refine va_calli (va_runV (As := []) (rest := []) ⟨hx, hb, hml, hown, hG⟩ (kX9_wordHere l dC dI r ct i_taped i_size i_faultKind i_at i_end i_token i_number i_bank i_rb i_codes i_within i_piled i_unitsInRule i_askHouse i_askTune i_acts i_undone i_laid i_knowns i_time f_text f_tunes f_houses f_hums f_told f_many f_ruleFrom f_ruleTo f_code f_eWhat f_eSign f_all f_kept f_was f_sTune f_boxAll J L H3686.size hI) (cwV 0 hG (goodV gw1480 gw1482 gw80 gw138 gw1483) rfl rfl rfl hd_X9_wordHere ⟨(Nat.le_of_ble_eq_true rfl), (Nat.le_of_ble_eq_true rfl)⟩) ⟨fbR, va_recv hK hP (ci := 8) (q0 := 0) rfl rfl, pR_in hP hK⟩ rfl rfl hl.1 rfl (lv_room (Nat.le_of_ble_eq_true rfl)) dX9_unit_65 ⟨(Nat.le_of_ble_eq_true rfl), (Nat.le_of_ble_eq_true rfl)⟩) hS (fun q hq h => absurd hq (Nat.not_lt.mpr h)) (fun q h => hA q (Nat.le_trans hS.1 h)) (fun r_3692 u_ t_ H3691 locs ht hvm hw hB hz1 hk1 hS => ?_)
        subst hw
        have hP := wk hP hk1
        have f3693 := hB
        refine lv_istore (lv' := [(4, .int r_3692), (3, .int r_3687), (2, .int 1), (1, .int 1), (0, .ref (r 0))]) hx hb dX9_unit_68 hl (by decide) rfl (fun ls hl => ?_)
        refine lv_aload_n hx hb dX9_unit_70 rfl (lv_at hl 4 rfl) ?_
        refine gM_X9_30_0 hx hb hG hown hK hP dX9_unit_71 ?_
        refine lv_aload_n hx hb dX9_unit_74 rfl (lv_at hl 4 rfl) ?_
        refine gM_X9_240_0 hx hb hG hown hK hP dX9_unit_75 ?_
        refine ldM_6 (mm := i_rb.toInt) hx hb hK hP rfl (ob_350 ie6) (ob_351 ie7) dX9_unit_78 (fun x3694 => ?_)
        refine lv_bipush (v := 60) hx hb dX9_unit_79 (by decide) ?_
        refine lv_icmp_eq (tgt := 93) hx hb dX9_unit_81 (by decide) (fun c_3695 => ?_) (fun c_3695 => ?_)
        · skip
          have f3696 : x3694.toInt = 60 := qi_eq c_3695 rfl zc_60
          refine lv_iconst (v := 1) hx hb dX9_unit_93 (by decide) ?_
          refine lv_goto (tgt := 98) hx hb dX9_unit_94 (by decide) ?_
          refine lv_istore (lv' := [(5, .int 1), (4, .int r_3692), (3, .int r_3687), (2, .int 1), (1, .int 1), (0, .ref (r 0))]) hx hb dX9_unit_98 hl (by decide) rfl (fun ls hl => ?_)
          refine lv_iload_n hx hb dX9_unit_100 rfl (lv_at hl 3 rfl) ?_
          refine lv_if_ne (tgt := 126) hx hb dX9_unit_101 (by decide) (fun c_3697 => ?_) (fun c_3697 => absurd c_3697 (by decide))
          refine lv_iload_n hx hb dX9_unit_126 rfl (lv_at hl 3 rfl) ?_
          refine lv_if_ne (tgt := 134) hx hb dX9_unit_127 (by decide) (fun c_3698 => ?_) (fun c_3698 => absurd c_3698 (by decide))
          refine lv_aload_n hx hb dX9_unit_134 rfl (lv_at hl 5 rfl) ?_
          refine gM_X9_299_0 hx hb hG hown hK hP dX9_unit_135 ?_
          refine lv_bipush (v := 7) hx hb dX9_unit_138 (by decide) ?_
          refine lv_icmp_ne (tgt := 147) hx hb dX9_unit_140 (by decide) (fun c_3699 => ?_) (fun c_3699 => ?_)
          · skip
            have f3700 : i_within.toInt ≠ 7 := qi_ne c_3699 rfl zc_7
            have f3701 : i_within.toInt ≤ (6 : Int) := (ob_396 hp4 f3700)
            refine lv_aload_n hx hb dX9_unit_147 rfl (lv_at hl 5 rfl) ?_
            refine va_calli (va_runV (As := []) (rest := []) ⟨hx, hb, hml, hown, hG⟩ (kX9_isGood l dC dI r ct i_taped i_size i_faultKind i_at i_end i_token i_number i_bank i_rb i_codes i_within i_piled i_unitsInRule i_askHouse i_askTune i_acts i_undone i_laid i_knowns i_time f_text f_tunes f_houses f_hums f_told f_many f_ruleFrom f_ruleTo f_code f_eWhat f_eSign f_all f_kept f_was f_sTune f_boxAll J L H3691.size hI) (cwV 0 hG (goodV gw1401 gw1403 gw61 gw138 gw1404) rfl rfl rfl hd_X9_isGood ⟨(Nat.le_of_ble_eq_true rfl), (Nat.le_of_ble_eq_true rfl)⟩) ⟨fbR, va_recv hK hP (ci := 8) (q0 := 0) rfl rfl, pR_in hP hK⟩ rfl rfl hl.1 rfl (lv_room (Nat.le_of_ble_eq_true rfl)) dX9_unit_148 ⟨(Nat.le_of_ble_eq_true rfl), (Nat.le_of_ble_eq_true rfl)⟩) hS (fun q hq h => absurd hq (Nat.not_lt.mpr h)) (fun q h => hA q (Nat.le_trans hS.1 h)) (fun r_3703 u_ t_ H3702 locs ht hvm hw hB hz1 hk1 hS => ?_)
            subst hw
            have hP := wk hP hk1
            obtain ⟨f3704, f3705, f3706⟩ := hB
            refine lv_if_ne (tgt := 156) hx hb dX9_unit_151 (by decide) (fun c_3707 => ?_) (fun c_3707 => ((ob_228 (qi_eq c_3707 rfl zc_0) hp10 f3704)).elim)
            have f3708 : r_3703.toInt ≠ 0 := qi_ne c_3707 rfl zc_0
            have f3709 : i_faultKind.toInt = (0 : Int) := (ob_229 ie17 hp10)
            have f3710 : r_3703.toInt = (1 : Int) := (ob_220 f3704 f3708)
            have f3711 : (1 : Int) ≤ r_3703.toInt := (ob_162 f3705 f3706 f3710)
            refine lv_aload_n hx hb dX9_unit_156 rfl (lv_at hl 5 rfl) ?_
            refine gM_X9_30_0 hx hb hG hown hK hP dX9_unit_157 ?_
            refine lv_aload_n hx hb dX9_unit_160 rfl (lv_at hl 5 rfl) ?_
            refine gM_X9_240_0 hx hb hG hown hK hP dX9_unit_161 ?_
            refine lv_dup2_11 hx hb dX9_unit_164 rfl rfl ?_
            refine ldM_6 (mm := i_rb.toInt) hx hb hK hP rfl (ob_350 ie6) (ob_351 ie7) dX9_unit_165 (fun x3712 => ?_)
            refine lv_iload_n hx hb dX9_unit_166 rfl (lv_at hl 3 rfl) ?_
            refine lv_if_eq (tgt := 174) hx hb dX9_unit_167 (by decide) (fun c_3713 => absurd c_3713 (by decide)) (fun c_3713 => ?_)
            refine lv_iconst (v := 0) hx hb dX9_unit_170 (by decide) ?_
            refine lv_goto (tgt := 175) hx hb dX9_unit_171 (by decide) ?_
            refine lv_iadd hx hb dX9_unit_175 ?_
            refine lv_topi (fun x3714 ex3714 => ?_)
            refine stM_6 (mm := i_rb.toInt) hx hb hK hP hD hS rfl (ob_350 ie6) (ob_351 ie7) dX9_unit_176 (fun J3716 H3715 locs hP hD hS => ?_)
            refine lv_aload_n hx hb dX9_unit_177 rfl (lv_at hl 5 rfl) ?_
            refine lv_dup hx hb dX9_unit_178 rfl ?_
            refine gM_X9_290_0 hx hb hG hown hK hP dX9_unit_179 ?_
            refine lv_iload_n hx hb dX9_unit_182 rfl (lv_at hl 3 rfl) ?_
            refine lv_if_eq (tgt := 190) hx hb dX9_unit_183 (by decide) (fun c_3717 => absurd c_3717 (by decide)) (fun c_3717 => ?_)
            refine lv_iconst (v := 0) hx hb dX9_unit_186 (by decide) ?_
            refine lv_goto (tgt := 191) hx hb dX9_unit_187 (by decide) ?_
            refine lv_iadd hx hb dX9_unit_191 ?_
            refine lv_topi (fun x3718 ex3718 => ?_)
            have f3719 : x3718.toInt = i_unitsInRule.toInt := (ob_408 (qi_add ex3718 rfl zc_0 (ob_406 hp1) (ob_407 hp2)))
            refine pM_X9_290_0 hx hb hG hown hK hP hD hS dX9_unit_192 (fun H3720 locs hP hD hS => ?_)
            refine lv_iload hx hb dX9_unit_195 (lv_at hl 1 rfl) ?_
            refine lv_if_ne (tgt := 207) hx hb dX9_unit_197 (by decide) (fun c_3721 => ?_) (fun c_3721 => ?_)
            · skip
              have f3722 : r_3692.toInt ≠ 0 := qi_ne c_3721 rfl zc_0
              have f3723 : (97 : Int) ≤ r_3692.toInt := (ob_352 f3693 f3722)
              have f3724 : r_3692.toInt ≤ (122 : Int) := (ob_353 f3693 f3722 f3723)
              have f3725 : i_token.toInt = (3 : Int) := (ob_251 f3682)
              have f3726 : (1 : Int) ≤ r_3692.toInt := (ob_355 f3723 f3724)
              refine lv_iconst (v := 0) hx hb dX9_unit_207 (by decide) ?_
              refine lv_istore (lv' := [(6, .int 0), (5, .int 1), (4, .int r_3692), (3, .int r_3687), (2, .int 1), (1, .int 1), (0, .ref (r 0))]) hx hb dX9_unit_208 hl (by decide) rfl (fun ls hl => ?_)
              refine lv_aload_n hx hb dX9_unit_210 rfl (lv_at hl 6 rfl) ?_
              have hFc := frA hD hS hA
              refine va_callv (va_runV (As := []) (rest := []) ⟨hx, hb, hml, hown, hG⟩ (kX9_goOn l dC dI r ct i_taped i_size i_faultKind i_at i_end i_token i_number i_bank i_rb i_codes i_within i_piled x3718 i_askHouse i_askTune i_acts i_undone i_laid i_knowns i_time f_text f_tunes f_houses f_hums f_told f_many f_ruleFrom f_ruleTo f_code f_eWhat f_eSign f_all f_kept f_was f_sTune f_boxAll J3716 L H3720.size hI) (cwV 0 hG (goodV gw1362 gw1364 gw59 gw138 gw1365) rfl rfl rfl hd_X9_goOn ⟨(Nat.le_of_ble_eq_true rfl), (Nat.le_of_ble_eq_true rfl)⟩) ⟨fbW, va_recv hK hP (ci := 8) (q0 := 0) rfl rfl, pW_in hP hK hD⟩ rfl rfl hl.1 rfl (lv_room (Nat.le_of_ble_eq_true rfl)) dX9_unit_211 ⟨(Nat.le_of_ble_eq_true rfl), (Nat.le_of_ble_eq_true rfl)⟩) hS (fun q _ h => hFc q h) hFc (fun _ t_ H3727 locs ht hvm hw hB hz1 hk1 hS => ?_)
              obtain ⟨x3729, x3730, x3731, x3732, L3733, hP1, hD1, hI3737, f3734, f3735, f3736⟩ := hB
              rw [ht] at hP1
              have hP := hP1
              have hD := dW hFc hD1
              obtain ⟨im3738, im3739, im3740, im3741, im3742, im3743, im3744, im3745, im3746, im3747, im3748, im3749, im3750, im3751, im3752, im3753, im3754, im3755, im3756, im3757, im3758, im3759, im3760, im3761, im3762, im3763, im3764, im3765, im3766, im3767, im3768, im3769, im3770⟩ := id hI3737
              refine lv_iload_n hx hb dX9_unit_214 rfl (lv_at hl 4 rfl) ?_
              refine lv_if_ne (tgt := 222) hx hb dX9_unit_215 (by decide) (fun c_3771 => ?_) (fun c_3771 => absurd c_3771 (by decide))
              refine lv_aload_n hx hb dX9_unit_222 rfl (lv_at hl 6 rfl) ?_
              refine lv_iload_n hx hb dX9_unit_223 rfl (lv_at hl 4 rfl) ?_
              refine lv_if_eq (tgt := 231) hx hb dX9_unit_224 (by decide) (fun c_3772 => absurd c_3772 (by decide)) (fun c_3772 => ?_)
              refine lv_iconst (v := 3) hx hb dX9_unit_227 (by decide) ?_
              refine lv_goto (tgt := 233) hx hb dX9_unit_228 (by decide) ?_
              refine lv_bipush (v := 126) hx hb dX9_unit_233 (by decide) ?_
              have hFc := frA hD hS hA
              refine va_callv (va_runV (As := [.int 3, .int 126]) (rest := []) ⟨hx, hb, hml, hown, hG⟩ (kX9_pushE l dC dI r ct i_taped i_size i_faultKind x3729 x3730 x3731 x3732 i_bank i_rb i_codes i_within i_piled x3718 i_askHouse i_askTune i_acts i_undone i_laid i_knowns i_time f_text f_tunes f_houses f_hums f_told f_many f_ruleFrom f_ruleTo f_code f_eWhat f_eSign f_all f_kept f_was f_sTune f_boxAll J3716 L3733 3 126 H3727.size hI3737 (ob_357 hp5 hp7 hp8) (ob_397 hp2 hp4 hp7)) (cwV 2 hG (goodV gw1468 gw1470 gw77 gw138 gw1471) rfl rfl rfl hd_X9_pushE ⟨(Nat.le_of_ble_eq_true rfl), (Nat.le_of_ble_eq_true rfl)⟩) ⟨fbW, va_recv hK hP (ci := 8) (q0 := 0) rfl rfl, pW_in hP hK hD⟩ rfl rfl hl.1 rfl (lv_room (Nat.le_of_ble_eq_true rfl)) dX9_unit_235 ⟨(Nat.le_of_ble_eq_true rfl), (Nat.le_of_ble_eq_true rfl)⟩) hS (fun q _ h => hFc q h) hFc (fun _ t_ H3773 locs ht hvm hw hB hz1 hk1 hS => ?_)
              obtain ⟨x3775, z3776, z3777, hP1, hD1, hI3781, f3778, f3779, f3780⟩ := hB
              rw [ht] at hP1
              have hP := hP1
              have hD := dW hFc hD1
              obtain ⟨im3782, im3783, im3784, im3785, im3786, im3787, im3788, im3789, im3790, im3791, im3792, im3793, im3794, im3795, im3796, im3797, im3798, im3799, im3800, im3801, im3802, im3803, im3804, im3805, im3806, im3807, im3808, im3809, im3810, im3811, im3812, im3813, im3814⟩ := id hI3781
              have f3815 : (z3776 ((0 : Int)).toNat).toInt = (f_eWhat ((0 : Int)).toNat).toInt := (by rw [f3779, upd_off (ne0 (ob_398 hp5))])
              refine lv_aload_n hx hb dX9_unit_238 rfl (lv_at hl 6 rfl) ?_
              refine lv_dup hx hb dX9_unit_239 rfl ?_
              refine gM_X9_299_0 hx hb hG hown hK hP dX9_unit_240 ?_
              refine lv_iconst (v := 1) hx hb dX9_unit_243 (by decide) ?_
              refine lv_iadd hx hb dX9_unit_244 ?_
              refine lv_topi (fun x3816 ex3816 => ?_)
              have f3817 : x3816.toInt = i_within.toInt + 1 := (ob_142 (qi_add ex3816 rfl zc_1 (ob_140 hp3) (ob_399 hp4)))
              refine pM_X9_299_0 hx hb hG hown hK hP hD hS dX9_unit_245 (fun H3818 locs hP hD hS => ?_)
              refine lv_iconst (v := 1) hx hb dX9_unit_248 (by decide) ?_
              rw [hQ]
              exact W.zret (v := 1) hx hb hr (by decide) (fun t ht hW => ⟨⟨1, 1, rfl, rfl, ⟨i_faultKind, x3729, x3730, x3731, x3732, i_codes, x3816, x3775, x3718, f_code, z3776, z3777, J3716, L3733, by rw [ht]; exact hP, hD, hI3781, (ob_14 zc_1), (ob_15 zc_1), (fun _ => SPpush hp11 f3779 f3780 (ob_398 hp5) (ob_142 f3778) (Or.inl (ob_409 zc_1 f3817 zc_126 zc_3))), (ob_199 hp5 f3778), (ob_401 hp2 hp4 hp7 f3778), (ob_145 f3734), (ob_410 ie17 hp2 hp3 hp4 hp5 hp6 hp7 hp8 hp9 f2730 f3681 f3700 f3736 f3778 f3815 zl_7237492 zc_1 f3817 f3719)⟩⟩, hS.F ht⟩) hS.2.2 dX9_unit_249
            · skip
              have f3819 : r_3692.toInt = 0 := qi_eq c_3721 rfl zc_0
              have f3820 : r_3692.toInt = (0 : Int) := (ob_25 f3819)
              refine lv_aload_n hx hb dX9_unit_200 rfl (lv_at hl 5 rfl) ?_
              refine gM_X9_209_0 hx hb hG hown hK hP dX9_unit_201 ?_
              refine lv_goto (tgt := 208) hx hb dX9_unit_204 (by decide) ?_
              refine lv_istore (lv' := [(6, .int i_number), (5, .int 1), (4, .int r_3692), (3, .int r_3687), (2, .int 1), (1, .int 1), (0, .ref (r 0))]) hx hb dX9_unit_208 hl (by decide) rfl (fun ls hl => ?_)
              refine lv_aload_n hx hb dX9_unit_210 rfl (lv_at hl 6 rfl) ?_
              have hFc := frA hD hS hA
              refine va_callv (va_runV (As := []) (rest := []) ⟨hx, hb, hml, hown, hG⟩ (kX9_goOn l dC dI r ct i_taped i_size i_faultKind i_at i_end i_token i_number i_bank i_rb i_codes i_within i_piled x3718 i_askHouse i_askTune i_acts i_undone i_laid i_knowns i_time f_text f_tunes f_houses f_hums f_told f_many f_ruleFrom f_ruleTo f_code f_eWhat f_eSign f_all f_kept f_was f_sTune f_boxAll J3716 L H3720.size hI) (cwV 0 hG (goodV gw1362 gw1364 gw59 gw138 gw1365) rfl rfl rfl hd_X9_goOn ⟨(Nat.le_of_ble_eq_true rfl), (Nat.le_of_ble_eq_true rfl)⟩) ⟨fbW, va_recv hK hP (ci := 8) (q0 := 0) rfl rfl, pW_in hP hK hD⟩ rfl rfl hl.1 rfl (lv_room (Nat.le_of_ble_eq_true rfl)) dX9_unit_211 ⟨(Nat.le_of_ble_eq_true rfl), (Nat.le_of_ble_eq_true rfl)⟩) hS (fun q _ h => hFc q h) hFc (fun _ t_ H3821 locs ht hvm hw hB hz1 hk1 hS => ?_)
              obtain ⟨x3823, x3824, x3825, x3826, L3827, hP1, hD1, hI3831, f3828, f3829, f3830⟩ := hB
              rw [ht] at hP1
              have hP := hP1
              have hD := dW hFc hD1
              obtain ⟨im3832, im3833, im3834, im3835, im3836, im3837, im3838, im3839, im3840, im3841, im3842, im3843, im3844, im3845, im3846, im3847, im3848, im3849, im3850, im3851, im3852, im3853, im3854, im3855, im3856, im3857, im3858, im3859, im3860, im3861, im3862, im3863, im3864⟩ := id hI3831
              refine lv_iload_n hx hb dX9_unit_214 rfl (lv_at hl 4 rfl) ?_
              refine lv_if_ne (tgt := 222) hx hb dX9_unit_215 (by decide) (fun c_3865 => ?_) (fun c_3865 => absurd c_3865 (by decide))
              refine lv_aload_n hx hb dX9_unit_222 rfl (lv_at hl 6 rfl) ?_
              refine lv_iload_n hx hb dX9_unit_223 rfl (lv_at hl 4 rfl) ?_
              refine lv_if_eq (tgt := 231) hx hb dX9_unit_224 (by decide) (fun c_3866 => absurd c_3866 (by decide)) (fun c_3866 => ?_)
              refine lv_iconst (v := 3) hx hb dX9_unit_227 (by decide) ?_
              refine lv_goto (tgt := 233) hx hb dX9_unit_228 (by decide) ?_
              refine lv_bipush (v := 126) hx hb dX9_unit_233 (by decide) ?_
              have hFc := frA hD hS hA
              refine va_callv (va_runV (As := [.int 3, .int 126]) (rest := []) ⟨hx, hb, hml, hown, hG⟩ (kX9_pushE l dC dI r ct i_taped i_size i_faultKind x3823 x3824 x3825 x3826 i_bank i_rb i_codes i_within i_piled x3718 i_askHouse i_askTune i_acts i_undone i_laid i_knowns i_time f_text f_tunes f_houses f_hums f_told f_many f_ruleFrom f_ruleTo f_code f_eWhat f_eSign f_all f_kept f_was f_sTune f_boxAll J3716 L3827 3 126 H3821.size hI3831 (ob_357 hp5 hp7 hp8) (ob_397 hp2 hp4 hp7)) (cwV 2 hG (goodV gw1468 gw1470 gw77 gw138 gw1471) rfl rfl rfl hd_X9_pushE ⟨(Nat.le_of_ble_eq_true rfl), (Nat.le_of_ble_eq_true rfl)⟩) ⟨fbW, va_recv hK hP (ci := 8) (q0 := 0) rfl rfl, pW_in hP hK hD⟩ rfl rfl hl.1 rfl (lv_room (Nat.le_of_ble_eq_true rfl)) dX9_unit_235 ⟨(Nat.le_of_ble_eq_true rfl), (Nat.le_of_ble_eq_true rfl)⟩) hS (fun q _ h => hFc q h) hFc (fun _ t_ H3867 locs ht hvm hw hB hz1 hk1 hS => ?_)
              obtain ⟨x3869, z3870, z3871, hP1, hD1, hI3875, f3872, f3873, f3874⟩ := hB
              rw [ht] at hP1
              have hP := hP1
              have hD := dW hFc hD1
              obtain ⟨im3876, im3877, im3878, im3879, im3880, im3881, im3882, im3883, im3884, im3885, im3886, im3887, im3888, im3889, im3890, im3891, im3892, im3893, im3894, im3895, im3896, im3897, im3898, im3899, im3900, im3901, im3902, im3903, im3904, im3905, im3906, im3907, im3908⟩ := id hI3875
              have f3909 : (z3870 ((0 : Int)).toNat).toInt = (f_eWhat ((0 : Int)).toNat).toInt := (by rw [f3873, upd_off (ne0 (ob_398 hp5))])
              refine lv_aload_n hx hb dX9_unit_238 rfl (lv_at hl 6 rfl) ?_
              refine lv_dup hx hb dX9_unit_239 rfl ?_
              refine gM_X9_299_0 hx hb hG hown hK hP dX9_unit_240 ?_
              refine lv_iconst (v := 1) hx hb dX9_unit_243 (by decide) ?_
              refine lv_iadd hx hb dX9_unit_244 ?_
              refine lv_topi (fun x3910 ex3910 => ?_)
              have f3911 : x3910.toInt = i_within.toInt + 1 := (ob_142 (qi_add ex3910 rfl zc_1 (ob_140 hp3) (ob_399 hp4)))
              refine pM_X9_299_0 hx hb hG hown hK hP hD hS dX9_unit_245 (fun H3912 locs hP hD hS => ?_)
              refine lv_iconst (v := 1) hx hb dX9_unit_248 (by decide) ?_
              rw [hQ]
              exact W.zret (v := 1) hx hb hr (by decide) (fun t ht hW => ⟨⟨1, 1, rfl, rfl, ⟨i_faultKind, x3823, x3824, x3825, x3826, i_codes, x3910, x3869, x3718, f_code, z3870, z3871, J3716, L3827, by rw [ht]; exact hP, hD, hI3875, (ob_14 zc_1), (ob_15 zc_1), (fun _ => SPpush hp11 f3873 f3874 (ob_398 hp5) (ob_142 f3872) (Or.inl (ob_409 zc_1 f3911 zc_126 zc_3))), (ob_199 hp5 f3872), (ob_401 hp2 hp4 hp7 f3872), (ob_145 f3828), (ob_410 ie17 hp2 hp3 hp4 hp5 hp6 hp7 hp8 hp9 f2730 f3681 f3700 f3830 f3872 f3909 zl_7237492 zc_1 f3911 f3719)⟩⟩, hS.F ht⟩) hS.2.2 dX9_unit_249
          · skip
            have f3913 : i_within.toInt = 7 := qi_eq c_3699 rfl zc_7
            refine lv_aload_n hx hb dX9_unit_143 rfl (lv_at hl 5 rfl) ?_
            have hFc := frA hD hS hA
            refine va_callv (va_runV (As := []) (rest := []) ⟨hx, hb, hml, hown, hG⟩ (kX9_misplaced l dC dI r ct i_taped i_size i_faultKind i_at i_end i_token i_number i_bank i_rb i_codes i_within i_piled i_unitsInRule i_askHouse i_askTune i_acts i_undone i_laid i_knowns i_time f_text f_tunes f_houses f_hums f_told f_many f_ruleFrom f_ruleTo f_code f_eWhat f_eSign f_all f_kept f_was f_sTune f_boxAll J L H3691.size hI) (cwV 0 hG (goodV gw1420 gw1422 gw65 gw138 gw1423) rfl rfl rfl hd_X9_misplaced ⟨(Nat.le_of_ble_eq_true rfl), (Nat.le_of_ble_eq_true rfl)⟩) ⟨fbW, va_recv hK hP (ci := 8) (q0 := 0) rfl rfl, pW_in hP hK hD⟩ rfl rfl hl.1 rfl (lv_room (Nat.le_of_ble_eq_true rfl)) dX9_unit_144 ⟨(Nat.le_of_ble_eq_true rfl), (Nat.le_of_ble_eq_true rfl)⟩) hS (fun q _ h => hFc q h) hFc (fun _ t_ H3914 locs ht hvm hw hB hz1 hk1 hS => ?_)
            obtain ⟨x3916, J3917, hP1, hD1, hI3919, f3918⟩ := hB
            rw [ht] at hP1
            have hP := hP1
            have hD := dW hFc hD1
            obtain ⟨im3920, im3921, im3922, im3923, im3924, im3925, im3926, im3927, im3928, im3929, im3930, im3931, im3932, im3933, im3934, im3935, im3936, im3937, im3938, im3939, im3940, im3941, im3942, im3943, im3944, im3945, im3946, im3947, im3948, im3949, im3950, im3951, im3952⟩ := id hI3919
            refine lv_aload_n hx hb dX9_unit_147 rfl (lv_at hl 5 rfl) ?_
            refine va_calli (va_runV (As := []) (rest := []) ⟨hx, hb, hml, hown, hG⟩ (kX9_isGood l dC dI r ct i_taped i_size x3916 i_at i_end i_token i_number i_bank i_rb i_codes i_within i_piled i_unitsInRule i_askHouse i_askTune i_acts i_undone i_laid i_knowns i_time f_text f_tunes f_houses f_hums f_told f_many f_ruleFrom f_ruleTo f_code f_eWhat f_eSign f_all f_kept f_was f_sTune f_boxAll J3917 L H3914.size hI3919) (cwV 0 hG (goodV gw1401 gw1403 gw61 gw138 gw1404) rfl rfl rfl hd_X9_isGood ⟨(Nat.le_of_ble_eq_true rfl), (Nat.le_of_ble_eq_true rfl)⟩) ⟨fbR, va_recv hK hP (ci := 8) (q0 := 0) rfl rfl, pR_in hP hK⟩ rfl rfl hl.1 rfl (lv_room (Nat.le_of_ble_eq_true rfl)) dX9_unit_148 ⟨(Nat.le_of_ble_eq_true rfl), (Nat.le_of_ble_eq_true rfl)⟩) hS (fun q hq h => absurd hq (Nat.not_lt.mpr h)) (fun q h => hA q (Nat.le_trans hS.1 h)) (fun r_3954 u_ t_ H3953 locs ht hvm hw hB hz1 hk1 hS => ?_)
            subst hw
            have hP := wk hP hk1
            obtain ⟨f3955, f3956, f3957⟩ := hB
            refine lv_if_ne (tgt := 156) hx hb dX9_unit_151 (by decide) (fun c_3958 => ((ob_231 (qi_ne c_3958 rfl zc_0) f3918 f3955)).elim) (fun c_3958 => ?_)
            have f3959 : r_3954.toInt = 0 := qi_eq c_3958 rfl zc_0
            have f3960 : x3916.toInt ≠ (0 : Int) := (ob_232 im3937 f3918)
            have f3961 : (1 : Int) ≤ x3916.toInt := (ob_217 im3937 f3918)
            have f3962 : r_3954.toInt = (0 : Int) := (ob_226 f3956 f3957 f3959)
            refine lv_iconst (v := 1) hx hb dX9_unit_154 (by decide) ?_
            rw [hQ]
            exact W.zret (v := 1) hx hb hr (by decide) (fun t ht hW => ⟨⟨1, 1, rfl, rfl, ⟨x3916, i_at, i_end, i_token, i_number, i_codes, i_within, i_piled, i_unitsInRule, f_code, f_eWhat, f_eSign, J3917, L, by rw [ht]; exact hP, hD, hI3919, (ob_14 zc_1), (ob_15 zc_1), (fun h => ((ob_356 h im3937 f3918)).elim), (ob_357 hp5 hp7 hp8), (ob_358 hp2 hp4 hp7), (ob_146), (ob_359 f3918 zc_1)⟩⟩, hS.F ht⟩) hS.2.2 dX9_unit_155
        · skip
          have f3963 : x3694.toInt ≠ 60 := qi_ne c_3695 rfl zc_60
          refine lv_aload_n hx hb dX9_unit_84 rfl (lv_at hl 4 rfl) ?_
          refine gM_X9_290_0 hx hb hG hown hK hP dX9_unit_85 ?_
          refine lv_bipush (v := 30) hx hb dX9_unit_88 (by decide) ?_
          refine lv_icmp_ne (tgt := 97) hx hb dX9_unit_90 (by decide) (fun c_3964 => ?_) (fun c_3964 => ?_)
          · skip
            have f3965 : i_unitsInRule.toInt ≠ 30 := qi_ne c_3964 rfl zc_30
            have f3966 : i_unitsInRule.toInt ≤ (29 : Int) := (ob_368 hp2 f3965)
            refine lv_iconst (v := 0) hx hb dX9_unit_97 (by decide) ?_
            refine lv_istore (lv' := [(5, .int 0), (4, .int r_3692), (3, .int r_3687), (2, .int 1), (1, .int 1), (0, .ref (r 0))]) hx hb dX9_unit_98 hl (by decide) rfl (fun ls hl => ?_)
            refine lv_iload_n hx hb dX9_unit_100 rfl (lv_at hl 3 rfl) ?_
            refine lv_if_ne (tgt := 126) hx hb dX9_unit_101 (by decide) (fun c_3967 => ?_) (fun c_3967 => absurd c_3967 (by decide))
            refine lv_iload_n hx hb dX9_unit_126 rfl (lv_at hl 3 rfl) ?_
            refine lv_if_ne (tgt := 134) hx hb dX9_unit_127 (by decide) (fun c_3968 => ?_) (fun c_3968 => absurd c_3968 (by decide))
            refine lv_aload_n hx hb dX9_unit_134 rfl (lv_at hl 5 rfl) ?_
            refine gM_X9_299_0 hx hb hG hown hK hP dX9_unit_135 ?_
            refine lv_bipush (v := 7) hx hb dX9_unit_138 (by decide) ?_
            refine lv_icmp_ne (tgt := 147) hx hb dX9_unit_140 (by decide) (fun c_3969 => ?_) (fun c_3969 => ?_)
            · skip
              have f3970 : i_within.toInt ≠ 7 := qi_ne c_3969 rfl zc_7
              have f3971 : i_within.toInt ≤ (6 : Int) := (ob_396 hp4 f3970)
              refine lv_aload_n hx hb dX9_unit_147 rfl (lv_at hl 5 rfl) ?_
              refine va_calli (va_runV (As := []) (rest := []) ⟨hx, hb, hml, hown, hG⟩ (kX9_isGood l dC dI r ct i_taped i_size i_faultKind i_at i_end i_token i_number i_bank i_rb i_codes i_within i_piled i_unitsInRule i_askHouse i_askTune i_acts i_undone i_laid i_knowns i_time f_text f_tunes f_houses f_hums f_told f_many f_ruleFrom f_ruleTo f_code f_eWhat f_eSign f_all f_kept f_was f_sTune f_boxAll J L H3691.size hI) (cwV 0 hG (goodV gw1401 gw1403 gw61 gw138 gw1404) rfl rfl rfl hd_X9_isGood ⟨(Nat.le_of_ble_eq_true rfl), (Nat.le_of_ble_eq_true rfl)⟩) ⟨fbR, va_recv hK hP (ci := 8) (q0 := 0) rfl rfl, pR_in hP hK⟩ rfl rfl hl.1 rfl (lv_room (Nat.le_of_ble_eq_true rfl)) dX9_unit_148 ⟨(Nat.le_of_ble_eq_true rfl), (Nat.le_of_ble_eq_true rfl)⟩) hS (fun q hq h => absurd hq (Nat.not_lt.mpr h)) (fun q h => hA q (Nat.le_trans hS.1 h)) (fun r_3973 u_ t_ H3972 locs ht hvm hw hB hz1 hk1 hS => ?_)
              subst hw
              have hP := wk hP hk1
              obtain ⟨f3974, f3975, f3976⟩ := hB
              refine lv_if_ne (tgt := 156) hx hb dX9_unit_151 (by decide) (fun c_3977 => ?_) (fun c_3977 => ((ob_228 (qi_eq c_3977 rfl zc_0) hp10 f3974)).elim)
              have f3978 : r_3973.toInt ≠ 0 := qi_ne c_3977 rfl zc_0
              have f3979 : i_faultKind.toInt = (0 : Int) := (ob_229 ie17 hp10)
              have f3980 : r_3973.toInt = (1 : Int) := (ob_220 f3974 f3978)
              have f3981 : (1 : Int) ≤ r_3973.toInt := (ob_162 f3975 f3976 f3980)
              refine lv_aload_n hx hb dX9_unit_156 rfl (lv_at hl 5 rfl) ?_
              refine gM_X9_30_0 hx hb hG hown hK hP dX9_unit_157 ?_
              refine lv_aload_n hx hb dX9_unit_160 rfl (lv_at hl 5 rfl) ?_
              refine gM_X9_240_0 hx hb hG hown hK hP dX9_unit_161 ?_
              refine lv_dup2_11 hx hb dX9_unit_164 rfl rfl ?_
              refine ldM_6 (mm := i_rb.toInt) hx hb hK hP rfl (ob_350 ie6) (ob_351 ie7) dX9_unit_165 (fun x3982 => ?_)
              refine lv_iload_n hx hb dX9_unit_166 rfl (lv_at hl 3 rfl) ?_
              refine lv_if_eq (tgt := 174) hx hb dX9_unit_167 (by decide) (fun c_3983 => absurd c_3983 (by decide)) (fun c_3983 => ?_)
              refine lv_iconst (v := 0) hx hb dX9_unit_170 (by decide) ?_
              refine lv_goto (tgt := 175) hx hb dX9_unit_171 (by decide) ?_
              refine lv_iadd hx hb dX9_unit_175 ?_
              refine lv_topi (fun x3984 ex3984 => ?_)
              refine stM_6 (mm := i_rb.toInt) hx hb hK hP hD hS rfl (ob_350 ie6) (ob_351 ie7) dX9_unit_176 (fun J3986 H3985 locs hP hD hS => ?_)
              refine lv_aload_n hx hb dX9_unit_177 rfl (lv_at hl 5 rfl) ?_
              refine lv_dup hx hb dX9_unit_178 rfl ?_
              refine gM_X9_290_0 hx hb hG hown hK hP dX9_unit_179 ?_
              refine lv_iload_n hx hb dX9_unit_182 rfl (lv_at hl 3 rfl) ?_
              refine lv_if_eq (tgt := 190) hx hb dX9_unit_183 (by decide) (fun c_3987 => absurd c_3987 (by decide)) (fun c_3987 => ?_)
              refine lv_iconst (v := 0) hx hb dX9_unit_186 (by decide) ?_
              refine lv_goto (tgt := 191) hx hb dX9_unit_187 (by decide) ?_
              refine lv_iadd hx hb dX9_unit_191 ?_
              refine lv_topi (fun x3988 ex3988 => ?_)
              have f3989 : x3988.toInt = i_unitsInRule.toInt := (ob_408 (qi_add ex3988 rfl zc_0 (ob_406 hp1) (ob_407 hp2)))
              refine pM_X9_290_0 hx hb hG hown hK hP hD hS dX9_unit_192 (fun H3990 locs hP hD hS => ?_)
              refine lv_iload hx hb dX9_unit_195 (lv_at hl 1 rfl) ?_
              refine lv_if_ne (tgt := 207) hx hb dX9_unit_197 (by decide) (fun c_3991 => ?_) (fun c_3991 => ?_)
              · skip
                have f3992 : r_3692.toInt ≠ 0 := qi_ne c_3991 rfl zc_0
                have f3993 : (97 : Int) ≤ r_3692.toInt := (ob_352 f3693 f3992)
                have f3994 : r_3692.toInt ≤ (122 : Int) := (ob_353 f3693 f3992 f3993)
                have f3995 : i_token.toInt = (3 : Int) := (ob_251 f3682)
                have f3996 : (1 : Int) ≤ r_3692.toInt := (ob_355 f3993 f3994)
                refine lv_iconst (v := 0) hx hb dX9_unit_207 (by decide) ?_
                refine lv_istore (lv' := [(6, .int 0), (5, .int 0), (4, .int r_3692), (3, .int r_3687), (2, .int 1), (1, .int 1), (0, .ref (r 0))]) hx hb dX9_unit_208 hl (by decide) rfl (fun ls hl => ?_)
                refine lv_aload_n hx hb dX9_unit_210 rfl (lv_at hl 6 rfl) ?_
                have hFc := frA hD hS hA
                refine va_callv (va_runV (As := []) (rest := []) ⟨hx, hb, hml, hown, hG⟩ (kX9_goOn l dC dI r ct i_taped i_size i_faultKind i_at i_end i_token i_number i_bank i_rb i_codes i_within i_piled x3988 i_askHouse i_askTune i_acts i_undone i_laid i_knowns i_time f_text f_tunes f_houses f_hums f_told f_many f_ruleFrom f_ruleTo f_code f_eWhat f_eSign f_all f_kept f_was f_sTune f_boxAll J3986 L H3990.size hI) (cwV 0 hG (goodV gw1362 gw1364 gw59 gw138 gw1365) rfl rfl rfl hd_X9_goOn ⟨(Nat.le_of_ble_eq_true rfl), (Nat.le_of_ble_eq_true rfl)⟩) ⟨fbW, va_recv hK hP (ci := 8) (q0 := 0) rfl rfl, pW_in hP hK hD⟩ rfl rfl hl.1 rfl (lv_room (Nat.le_of_ble_eq_true rfl)) dX9_unit_211 ⟨(Nat.le_of_ble_eq_true rfl), (Nat.le_of_ble_eq_true rfl)⟩) hS (fun q _ h => hFc q h) hFc (fun _ t_ H3997 locs ht hvm hw hB hz1 hk1 hS => ?_)
                obtain ⟨x3999, x4000, x4001, x4002, L4003, hP1, hD1, hI4007, f4004, f4005, f4006⟩ := hB
                rw [ht] at hP1
                have hP := hP1
                have hD := dW hFc hD1
                obtain ⟨im4008, im4009, im4010, im4011, im4012, im4013, im4014, im4015, im4016, im4017, im4018, im4019, im4020, im4021, im4022, im4023, im4024, im4025, im4026, im4027, im4028, im4029, im4030, im4031, im4032, im4033, im4034, im4035, im4036, im4037, im4038, im4039, im4040⟩ := id hI4007
                refine lv_iload_n hx hb dX9_unit_214 rfl (lv_at hl 4 rfl) ?_
                refine lv_if_ne (tgt := 222) hx hb dX9_unit_215 (by decide) (fun c_4041 => ?_) (fun c_4041 => absurd c_4041 (by decide))
                refine lv_aload_n hx hb dX9_unit_222 rfl (lv_at hl 6 rfl) ?_
                refine lv_iload_n hx hb dX9_unit_223 rfl (lv_at hl 4 rfl) ?_
                refine lv_if_eq (tgt := 231) hx hb dX9_unit_224 (by decide) (fun c_4042 => absurd c_4042 (by decide)) (fun c_4042 => ?_)
                refine lv_iconst (v := 3) hx hb dX9_unit_227 (by decide) ?_
                refine lv_goto (tgt := 233) hx hb dX9_unit_228 (by decide) ?_
                refine lv_bipush (v := 126) hx hb dX9_unit_233 (by decide) ?_
                have hFc := frA hD hS hA
                refine va_callv (va_runV (As := [.int 3, .int 126]) (rest := []) ⟨hx, hb, hml, hown, hG⟩ (kX9_pushE l dC dI r ct i_taped i_size i_faultKind x3999 x4000 x4001 x4002 i_bank i_rb i_codes i_within i_piled x3988 i_askHouse i_askTune i_acts i_undone i_laid i_knowns i_time f_text f_tunes f_houses f_hums f_told f_many f_ruleFrom f_ruleTo f_code f_eWhat f_eSign f_all f_kept f_was f_sTune f_boxAll J3986 L4003 3 126 H3997.size hI4007 (ob_357 hp5 hp7 hp8) (ob_397 hp2 hp4 hp7)) (cwV 2 hG (goodV gw1468 gw1470 gw77 gw138 gw1471) rfl rfl rfl hd_X9_pushE ⟨(Nat.le_of_ble_eq_true rfl), (Nat.le_of_ble_eq_true rfl)⟩) ⟨fbW, va_recv hK hP (ci := 8) (q0 := 0) rfl rfl, pW_in hP hK hD⟩ rfl rfl hl.1 rfl (lv_room (Nat.le_of_ble_eq_true rfl)) dX9_unit_235 ⟨(Nat.le_of_ble_eq_true rfl), (Nat.le_of_ble_eq_true rfl)⟩) hS (fun q _ h => hFc q h) hFc (fun _ t_ H4043 locs ht hvm hw hB hz1 hk1 hS => ?_)
                obtain ⟨x4045, z4046, z4047, hP1, hD1, hI4051, f4048, f4049, f4050⟩ := hB
                rw [ht] at hP1
                have hP := hP1
                have hD := dW hFc hD1
                obtain ⟨im4052, im4053, im4054, im4055, im4056, im4057, im4058, im4059, im4060, im4061, im4062, im4063, im4064, im4065, im4066, im4067, im4068, im4069, im4070, im4071, im4072, im4073, im4074, im4075, im4076, im4077, im4078, im4079, im4080, im4081, im4082, im4083, im4084⟩ := id hI4051
                have f4085 : (z4046 ((0 : Int)).toNat).toInt = (f_eWhat ((0 : Int)).toNat).toInt := (by rw [f4049, upd_off (ne0 (ob_398 hp5))])
                refine lv_aload_n hx hb dX9_unit_238 rfl (lv_at hl 6 rfl) ?_
                refine lv_dup hx hb dX9_unit_239 rfl ?_
                refine gM_X9_299_0 hx hb hG hown hK hP dX9_unit_240 ?_
                refine lv_iconst (v := 1) hx hb dX9_unit_243 (by decide) ?_
                refine lv_iadd hx hb dX9_unit_244 ?_
                refine lv_topi (fun x4086 ex4086 => ?_)
                have f4087 : x4086.toInt = i_within.toInt + 1 := (ob_142 (qi_add ex4086 rfl zc_1 (ob_140 hp3) (ob_399 hp4)))
                refine pM_X9_299_0 hx hb hG hown hK hP hD hS dX9_unit_245 (fun H4088 locs hP hD hS => ?_)
                refine lv_iconst (v := 1) hx hb dX9_unit_248 (by decide) ?_
                rw [hQ]
                exact W.zret (v := 1) hx hb hr (by decide) (fun t ht hW => ⟨⟨1, 1, rfl, rfl, ⟨i_faultKind, x3999, x4000, x4001, x4002, i_codes, x4086, x4045, x3988, f_code, z4046, z4047, J3986, L4003, by rw [ht]; exact hP, hD, hI4051, (ob_14 zc_1), (ob_15 zc_1), (fun _ => SPpush hp11 f4049 f4050 (ob_398 hp5) (ob_142 f4048) (Or.inl (ob_409 zc_1 f4087 zc_126 zc_3))), (ob_199 hp5 f4048), (ob_401 hp2 hp4 hp7 f4048), (ob_145 f4004), (ob_410 ie17 hp2 hp3 hp4 hp5 hp6 hp7 hp8 hp9 f2730 f3681 f3970 f4006 f4048 f4085 zl_7237492 zc_1 f4087 f3989)⟩⟩, hS.F ht⟩) hS.2.2 dX9_unit_249
              · skip
                have f4089 : r_3692.toInt = 0 := qi_eq c_3991 rfl zc_0
                have f4090 : r_3692.toInt = (0 : Int) := (ob_25 f4089)
                refine lv_aload_n hx hb dX9_unit_200 rfl (lv_at hl 5 rfl) ?_
                refine gM_X9_209_0 hx hb hG hown hK hP dX9_unit_201 ?_
                refine lv_goto (tgt := 208) hx hb dX9_unit_204 (by decide) ?_
                refine lv_istore (lv' := [(6, .int i_number), (5, .int 0), (4, .int r_3692), (3, .int r_3687), (2, .int 1), (1, .int 1), (0, .ref (r 0))]) hx hb dX9_unit_208 hl (by decide) rfl (fun ls hl => ?_)
                refine lv_aload_n hx hb dX9_unit_210 rfl (lv_at hl 6 rfl) ?_
                have hFc := frA hD hS hA
                refine va_callv (va_runV (As := []) (rest := []) ⟨hx, hb, hml, hown, hG⟩ (kX9_goOn l dC dI r ct i_taped i_size i_faultKind i_at i_end i_token i_number i_bank i_rb i_codes i_within i_piled x3988 i_askHouse i_askTune i_acts i_undone i_laid i_knowns i_time f_text f_tunes f_houses f_hums f_told f_many f_ruleFrom f_ruleTo f_code f_eWhat f_eSign f_all f_kept f_was f_sTune f_boxAll J3986 L H3990.size hI) (cwV 0 hG (goodV gw1362 gw1364 gw59 gw138 gw1365) rfl rfl rfl hd_X9_goOn ⟨(Nat.le_of_ble_eq_true rfl), (Nat.le_of_ble_eq_true rfl)⟩) ⟨fbW, va_recv hK hP (ci := 8) (q0 := 0) rfl rfl, pW_in hP hK hD⟩ rfl rfl hl.1 rfl (lv_room (Nat.le_of_ble_eq_true rfl)) dX9_unit_211 ⟨(Nat.le_of_ble_eq_true rfl), (Nat.le_of_ble_eq_true rfl)⟩) hS (fun q _ h => hFc q h) hFc (fun _ t_ H4091 locs ht hvm hw hB hz1 hk1 hS => ?_)
                obtain ⟨x4093, x4094, x4095, x4096, L4097, hP1, hD1, hI4101, f4098, f4099, f4100⟩ := hB
                rw [ht] at hP1
                have hP := hP1
                have hD := dW hFc hD1
                obtain ⟨im4102, im4103, im4104, im4105, im4106, im4107, im4108, im4109, im4110, im4111, im4112, im4113, im4114, im4115, im4116, im4117, im4118, im4119, im4120, im4121, im4122, im4123, im4124, im4125, im4126, im4127, im4128, im4129, im4130, im4131, im4132, im4133, im4134⟩ := id hI4101
                refine lv_iload_n hx hb dX9_unit_214 rfl (lv_at hl 4 rfl) ?_
                refine lv_if_ne (tgt := 222) hx hb dX9_unit_215 (by decide) (fun c_4135 => ?_) (fun c_4135 => absurd c_4135 (by decide))
                refine lv_aload_n hx hb dX9_unit_222 rfl (lv_at hl 6 rfl) ?_
                refine lv_iload_n hx hb dX9_unit_223 rfl (lv_at hl 4 rfl) ?_
                refine lv_if_eq (tgt := 231) hx hb dX9_unit_224 (by decide) (fun c_4136 => absurd c_4136 (by decide)) (fun c_4136 => ?_)
                refine lv_iconst (v := 3) hx hb dX9_unit_227 (by decide) ?_
                refine lv_goto (tgt := 233) hx hb dX9_unit_228 (by decide) ?_
                refine lv_bipush (v := 126) hx hb dX9_unit_233 (by decide) ?_
                have hFc := frA hD hS hA
                refine va_callv (va_runV (As := [.int 3, .int 126]) (rest := []) ⟨hx, hb, hml, hown, hG⟩ (kX9_pushE l dC dI r ct i_taped i_size i_faultKind x4093 x4094 x4095 x4096 i_bank i_rb i_codes i_within i_piled x3988 i_askHouse i_askTune i_acts i_undone i_laid i_knowns i_time f_text f_tunes f_houses f_hums f_told f_many f_ruleFrom f_ruleTo f_code f_eWhat f_eSign f_all f_kept f_was f_sTune f_boxAll J3986 L4097 3 126 H4091.size hI4101 (ob_357 hp5 hp7 hp8) (ob_397 hp2 hp4 hp7)) (cwV 2 hG (goodV gw1468 gw1470 gw77 gw138 gw1471) rfl rfl rfl hd_X9_pushE ⟨(Nat.le_of_ble_eq_true rfl), (Nat.le_of_ble_eq_true rfl)⟩) ⟨fbW, va_recv hK hP (ci := 8) (q0 := 0) rfl rfl, pW_in hP hK hD⟩ rfl rfl hl.1 rfl (lv_room (Nat.le_of_ble_eq_true rfl)) dX9_unit_235 ⟨(Nat.le_of_ble_eq_true rfl), (Nat.le_of_ble_eq_true rfl)⟩) hS (fun q _ h => hFc q h) hFc (fun _ t_ H4137 locs ht hvm hw hB hz1 hk1 hS => ?_)
                obtain ⟨x4139, z4140, z4141, hP1, hD1, hI4145, f4142, f4143, f4144⟩ := hB
                rw [ht] at hP1
                have hP := hP1
                have hD := dW hFc hD1
                obtain ⟨im4146, im4147, im4148, im4149, im4150, im4151, im4152, im4153, im4154, im4155, im4156, im4157, im4158, im4159, im4160, im4161, im4162, im4163, im4164, im4165, im4166, im4167, im4168, im4169, im4170, im4171, im4172, im4173, im4174, im4175, im4176, im4177, im4178⟩ := id hI4145
                have f4179 : (z4140 ((0 : Int)).toNat).toInt = (f_eWhat ((0 : Int)).toNat).toInt := (by rw [f4143, upd_off (ne0 (ob_398 hp5))])
                refine lv_aload_n hx hb dX9_unit_238 rfl (lv_at hl 6 rfl) ?_
                refine lv_dup hx hb dX9_unit_239 rfl ?_
                refine gM_X9_299_0 hx hb hG hown hK hP dX9_unit_240 ?_
                refine lv_iconst (v := 1) hx hb dX9_unit_243 (by decide) ?_
                refine lv_iadd hx hb dX9_unit_244 ?_
                refine lv_topi (fun x4180 ex4180 => ?_)
                have f4181 : x4180.toInt = i_within.toInt + 1 := (ob_142 (qi_add ex4180 rfl zc_1 (ob_140 hp3) (ob_399 hp4)))
                refine pM_X9_299_0 hx hb hG hown hK hP hD hS dX9_unit_245 (fun H4182 locs hP hD hS => ?_)
                refine lv_iconst (v := 1) hx hb dX9_unit_248 (by decide) ?_
                rw [hQ]
                exact W.zret (v := 1) hx hb hr (by decide) (fun t ht hW => ⟨⟨1, 1, rfl, rfl, ⟨i_faultKind, x4093, x4094, x4095, x4096, i_codes, x4180, x4139, x3988, f_code, z4140, z4141, J3986, L4097, by rw [ht]; exact hP, hD, hI4145, (ob_14 zc_1), (ob_15 zc_1), (fun _ => SPpush hp11 f4143 f4144 (ob_398 hp5) (ob_142 f4142) (Or.inl (ob_409 zc_1 f4181 zc_126 zc_3))), (ob_199 hp5 f4142), (ob_401 hp2 hp4 hp7 f4142), (ob_145 f4098), (ob_410 ie17 hp2 hp3 hp4 hp5 hp6 hp7 hp8 hp9 f2730 f3681 f3970 f4100 f4142 f4179 zl_7237492 zc_1 f4181 f3989)⟩⟩, hS.F ht⟩) hS.2.2 dX9_unit_249
            · skip
              have f4183 : i_within.toInt = 7 := qi_eq c_3969 rfl zc_7
              refine lv_aload_n hx hb dX9_unit_143 rfl (lv_at hl 5 rfl) ?_
              have hFc := frA hD hS hA
              refine va_callv (va_runV (As := []) (rest := []) ⟨hx, hb, hml, hown, hG⟩ (kX9_misplaced l dC dI r ct i_taped i_size i_faultKind i_at i_end i_token i_number i_bank i_rb i_codes i_within i_piled i_unitsInRule i_askHouse i_askTune i_acts i_undone i_laid i_knowns i_time f_text f_tunes f_houses f_hums f_told f_many f_ruleFrom f_ruleTo f_code f_eWhat f_eSign f_all f_kept f_was f_sTune f_boxAll J L H3691.size hI) (cwV 0 hG (goodV gw1420 gw1422 gw65 gw138 gw1423) rfl rfl rfl hd_X9_misplaced ⟨(Nat.le_of_ble_eq_true rfl), (Nat.le_of_ble_eq_true rfl)⟩) ⟨fbW, va_recv hK hP (ci := 8) (q0 := 0) rfl rfl, pW_in hP hK hD⟩ rfl rfl hl.1 rfl (lv_room (Nat.le_of_ble_eq_true rfl)) dX9_unit_144 ⟨(Nat.le_of_ble_eq_true rfl), (Nat.le_of_ble_eq_true rfl)⟩) hS (fun q _ h => hFc q h) hFc (fun _ t_ H4184 locs ht hvm hw hB hz1 hk1 hS => ?_)
              obtain ⟨x4186, J4187, hP1, hD1, hI4189, f4188⟩ := hB
              rw [ht] at hP1
              have hP := hP1
              have hD := dW hFc hD1
              obtain ⟨im4190, im4191, im4192, im4193, im4194, im4195, im4196, im4197, im4198, im4199, im4200, im4201, im4202, im4203, im4204, im4205, im4206, im4207, im4208, im4209, im4210, im4211, im4212, im4213, im4214, im4215, im4216, im4217, im4218, im4219, im4220, im4221, im4222⟩ := id hI4189
              refine lv_aload_n hx hb dX9_unit_147 rfl (lv_at hl 5 rfl) ?_
              refine va_calli (va_runV (As := []) (rest := []) ⟨hx, hb, hml, hown, hG⟩ (kX9_isGood l dC dI r ct i_taped i_size x4186 i_at i_end i_token i_number i_bank i_rb i_codes i_within i_piled i_unitsInRule i_askHouse i_askTune i_acts i_undone i_laid i_knowns i_time f_text f_tunes f_houses f_hums f_told f_many f_ruleFrom f_ruleTo f_code f_eWhat f_eSign f_all f_kept f_was f_sTune f_boxAll J4187 L H4184.size hI4189) (cwV 0 hG (goodV gw1401 gw1403 gw61 gw138 gw1404) rfl rfl rfl hd_X9_isGood ⟨(Nat.le_of_ble_eq_true rfl), (Nat.le_of_ble_eq_true rfl)⟩) ⟨fbR, va_recv hK hP (ci := 8) (q0 := 0) rfl rfl, pR_in hP hK⟩ rfl rfl hl.1 rfl (lv_room (Nat.le_of_ble_eq_true rfl)) dX9_unit_148 ⟨(Nat.le_of_ble_eq_true rfl), (Nat.le_of_ble_eq_true rfl)⟩) hS (fun q hq h => absurd hq (Nat.not_lt.mpr h)) (fun q h => hA q (Nat.le_trans hS.1 h)) (fun r_4224 u_ t_ H4223 locs ht hvm hw hB hz1 hk1 hS => ?_)
              subst hw
              have hP := wk hP hk1
              obtain ⟨f4225, f4226, f4227⟩ := hB
              refine lv_if_ne (tgt := 156) hx hb dX9_unit_151 (by decide) (fun c_4228 => ((ob_231 (qi_ne c_4228 rfl zc_0) f4188 f4225)).elim) (fun c_4228 => ?_)
              have f4229 : r_4224.toInt = 0 := qi_eq c_4228 rfl zc_0
              have f4230 : x4186.toInt ≠ (0 : Int) := (ob_232 im4207 f4188)
              have f4231 : (1 : Int) ≤ x4186.toInt := (ob_217 im4207 f4188)
              have f4232 : r_4224.toInt = (0 : Int) := (ob_226 f4226 f4227 f4229)
              refine lv_iconst (v := 1) hx hb dX9_unit_154 (by decide) ?_
              rw [hQ]
              exact W.zret (v := 1) hx hb hr (by decide) (fun t ht hW => ⟨⟨1, 1, rfl, rfl, ⟨x4186, i_at, i_end, i_token, i_number, i_codes, i_within, i_piled, i_unitsInRule, f_code, f_eWhat, f_eSign, J4187, L, by rw [ht]; exact hP, hD, hI4189, (ob_14 zc_1), (ob_15 zc_1), (fun h => ((ob_356 h im4207 f4188)).elim), (ob_357 hp5 hp7 hp8), (ob_358 hp2 hp4 hp7), (ob_146), (ob_359 f4188 zc_1)⟩⟩, hS.F ht⟩) hS.2.2 dX9_unit_155
          · skip
            have f4233 : i_unitsInRule.toInt = 30 := qi_eq c_3964 rfl zc_30
            refine lv_iconst (v := 1) hx hb dX9_unit_93 (by decide) ?_
            refine lv_goto (tgt := 98) hx hb dX9_unit_94 (by decide) ?_
            refine lv_istore (lv' := [(5, .int 1), (4, .int r_3692), (3, .int r_3687), (2, .int 1), (1, .int 1), (0, .ref (r 0))]) hx hb dX9_unit_98 hl (by decide) rfl (fun ls hl => ?_)
            refine lv_iload_n hx hb dX9_unit_100 rfl (lv_at hl 3 rfl) ?_
            refine lv_if_ne (tgt := 126) hx hb dX9_unit_101 (by decide) (fun c_4234 => ?_) (fun c_4234 => absurd c_4234 (by decide))
            refine lv_iload_n hx hb dX9_unit_126 rfl (lv_at hl 3 rfl) ?_
            refine lv_if_ne (tgt := 134) hx hb dX9_unit_127 (by decide) (fun c_4235 => ?_) (fun c_4235 => absurd c_4235 (by decide))
            refine lv_aload_n hx hb dX9_unit_134 rfl (lv_at hl 5 rfl) ?_
            refine gM_X9_299_0 hx hb hG hown hK hP dX9_unit_135 ?_
            refine lv_bipush (v := 7) hx hb dX9_unit_138 (by decide) ?_
            refine lv_icmp_ne (tgt := 147) hx hb dX9_unit_140 (by decide) (fun c_4236 => ?_) (fun c_4236 => ?_)
            · skip
              have f4237 : i_within.toInt ≠ 7 := qi_ne c_4236 rfl zc_7
              have f4238 : i_within.toInt ≤ (6 : Int) := (ob_396 hp4 f4237)
              refine lv_aload_n hx hb dX9_unit_147 rfl (lv_at hl 5 rfl) ?_
              refine va_calli (va_runV (As := []) (rest := []) ⟨hx, hb, hml, hown, hG⟩ (kX9_isGood l dC dI r ct i_taped i_size i_faultKind i_at i_end i_token i_number i_bank i_rb i_codes i_within i_piled i_unitsInRule i_askHouse i_askTune i_acts i_undone i_laid i_knowns i_time f_text f_tunes f_houses f_hums f_told f_many f_ruleFrom f_ruleTo f_code f_eWhat f_eSign f_all f_kept f_was f_sTune f_boxAll J L H3691.size hI) (cwV 0 hG (goodV gw1401 gw1403 gw61 gw138 gw1404) rfl rfl rfl hd_X9_isGood ⟨(Nat.le_of_ble_eq_true rfl), (Nat.le_of_ble_eq_true rfl)⟩) ⟨fbR, va_recv hK hP (ci := 8) (q0 := 0) rfl rfl, pR_in hP hK⟩ rfl rfl hl.1 rfl (lv_room (Nat.le_of_ble_eq_true rfl)) dX9_unit_148 ⟨(Nat.le_of_ble_eq_true rfl), (Nat.le_of_ble_eq_true rfl)⟩) hS (fun q hq h => absurd hq (Nat.not_lt.mpr h)) (fun q h => hA q (Nat.le_trans hS.1 h)) (fun r_4240 u_ t_ H4239 locs ht hvm hw hB hz1 hk1 hS => ?_)
              subst hw
              have hP := wk hP hk1
              obtain ⟨f4241, f4242, f4243⟩ := hB
              refine lv_if_ne (tgt := 156) hx hb dX9_unit_151 (by decide) (fun c_4244 => ?_) (fun c_4244 => ((ob_228 (qi_eq c_4244 rfl zc_0) hp10 f4241)).elim)
              have f4245 : r_4240.toInt ≠ 0 := qi_ne c_4244 rfl zc_0
              have f4246 : i_faultKind.toInt = (0 : Int) := (ob_229 ie17 hp10)
              have f4247 : r_4240.toInt = (1 : Int) := (ob_220 f4241 f4245)
              have f4248 : (1 : Int) ≤ r_4240.toInt := (ob_162 f4242 f4243 f4247)
              refine lv_aload_n hx hb dX9_unit_156 rfl (lv_at hl 5 rfl) ?_
              refine gM_X9_30_0 hx hb hG hown hK hP dX9_unit_157 ?_
              refine lv_aload_n hx hb dX9_unit_160 rfl (lv_at hl 5 rfl) ?_
              refine gM_X9_240_0 hx hb hG hown hK hP dX9_unit_161 ?_
              refine lv_dup2_11 hx hb dX9_unit_164 rfl rfl ?_
              refine ldM_6 (mm := i_rb.toInt) hx hb hK hP rfl (ob_350 ie6) (ob_351 ie7) dX9_unit_165 (fun x4249 => ?_)
              refine lv_iload_n hx hb dX9_unit_166 rfl (lv_at hl 3 rfl) ?_
              refine lv_if_eq (tgt := 174) hx hb dX9_unit_167 (by decide) (fun c_4250 => absurd c_4250 (by decide)) (fun c_4250 => ?_)
              refine lv_iconst (v := 0) hx hb dX9_unit_170 (by decide) ?_
              refine lv_goto (tgt := 175) hx hb dX9_unit_171 (by decide) ?_
              refine lv_iadd hx hb dX9_unit_175 ?_
              refine lv_topi (fun x4251 ex4251 => ?_)
              refine stM_6 (mm := i_rb.toInt) hx hb hK hP hD hS rfl (ob_350 ie6) (ob_351 ie7) dX9_unit_176 (fun J4253 H4252 locs hP hD hS => ?_)
              refine lv_aload_n hx hb dX9_unit_177 rfl (lv_at hl 5 rfl) ?_
              refine lv_dup hx hb dX9_unit_178 rfl ?_
              refine gM_X9_290_0 hx hb hG hown hK hP dX9_unit_179 ?_
              refine lv_iload_n hx hb dX9_unit_182 rfl (lv_at hl 3 rfl) ?_
              refine lv_if_eq (tgt := 190) hx hb dX9_unit_183 (by decide) (fun c_4254 => absurd c_4254 (by decide)) (fun c_4254 => ?_)
              refine lv_iconst (v := 0) hx hb dX9_unit_186 (by decide) ?_
              refine lv_goto (tgt := 191) hx hb dX9_unit_187 (by decide) ?_
              refine lv_iadd hx hb dX9_unit_191 ?_
              refine lv_topi (fun x4255 ex4255 => ?_)
              have f4256 : x4255.toInt = i_unitsInRule.toInt := (ob_408 (qi_add ex4255 rfl zc_0 (ob_406 hp1) (ob_407 hp2)))
              refine pM_X9_290_0 hx hb hG hown hK hP hD hS dX9_unit_192 (fun H4257 locs hP hD hS => ?_)
              refine lv_iload hx hb dX9_unit_195 (lv_at hl 1 rfl) ?_
              refine lv_if_ne (tgt := 207) hx hb dX9_unit_197 (by decide) (fun c_4258 => ?_) (fun c_4258 => ?_)
              · skip
                have f4259 : r_3692.toInt ≠ 0 := qi_ne c_4258 rfl zc_0
                have f4260 : (97 : Int) ≤ r_3692.toInt := (ob_352 f3693 f4259)
                have f4261 : r_3692.toInt ≤ (122 : Int) := (ob_353 f3693 f4259 f4260)
                have f4262 : i_token.toInt = (3 : Int) := (ob_251 f3682)
                have f4263 : (1 : Int) ≤ r_3692.toInt := (ob_355 f4260 f4261)
                refine lv_iconst (v := 0) hx hb dX9_unit_207 (by decide) ?_
                refine lv_istore (lv' := [(6, .int 0), (5, .int 1), (4, .int r_3692), (3, .int r_3687), (2, .int 1), (1, .int 1), (0, .ref (r 0))]) hx hb dX9_unit_208 hl (by decide) rfl (fun ls hl => ?_)
                refine lv_aload_n hx hb dX9_unit_210 rfl (lv_at hl 6 rfl) ?_
                have hFc := frA hD hS hA
                refine va_callv (va_runV (As := []) (rest := []) ⟨hx, hb, hml, hown, hG⟩ (kX9_goOn l dC dI r ct i_taped i_size i_faultKind i_at i_end i_token i_number i_bank i_rb i_codes i_within i_piled x4255 i_askHouse i_askTune i_acts i_undone i_laid i_knowns i_time f_text f_tunes f_houses f_hums f_told f_many f_ruleFrom f_ruleTo f_code f_eWhat f_eSign f_all f_kept f_was f_sTune f_boxAll J4253 L H4257.size hI) (cwV 0 hG (goodV gw1362 gw1364 gw59 gw138 gw1365) rfl rfl rfl hd_X9_goOn ⟨(Nat.le_of_ble_eq_true rfl), (Nat.le_of_ble_eq_true rfl)⟩) ⟨fbW, va_recv hK hP (ci := 8) (q0 := 0) rfl rfl, pW_in hP hK hD⟩ rfl rfl hl.1 rfl (lv_room (Nat.le_of_ble_eq_true rfl)) dX9_unit_211 ⟨(Nat.le_of_ble_eq_true rfl), (Nat.le_of_ble_eq_true rfl)⟩) hS (fun q _ h => hFc q h) hFc (fun _ t_ H4264 locs ht hvm hw hB hz1 hk1 hS => ?_)
                obtain ⟨x4266, x4267, x4268, x4269, L4270, hP1, hD1, hI4274, f4271, f4272, f4273⟩ := hB
                rw [ht] at hP1
                have hP := hP1
                have hD := dW hFc hD1
                obtain ⟨im4275, im4276, im4277, im4278, im4279, im4280, im4281, im4282, im4283, im4284, im4285, im4286, im4287, im4288, im4289, im4290, im4291, im4292, im4293, im4294, im4295, im4296, im4297, im4298, im4299, im4300, im4301, im4302, im4303, im4304, im4305, im4306, im4307⟩ := id hI4274
                refine lv_iload_n hx hb dX9_unit_214 rfl (lv_at hl 4 rfl) ?_
                refine lv_if_ne (tgt := 222) hx hb dX9_unit_215 (by decide) (fun c_4308 => ?_) (fun c_4308 => absurd c_4308 (by decide))
                refine lv_aload_n hx hb dX9_unit_222 rfl (lv_at hl 6 rfl) ?_
                refine lv_iload_n hx hb dX9_unit_223 rfl (lv_at hl 4 rfl) ?_
                refine lv_if_eq (tgt := 231) hx hb dX9_unit_224 (by decide) (fun c_4309 => absurd c_4309 (by decide)) (fun c_4309 => ?_)
                refine lv_iconst (v := 3) hx hb dX9_unit_227 (by decide) ?_
                refine lv_goto (tgt := 233) hx hb dX9_unit_228 (by decide) ?_
                refine lv_bipush (v := 126) hx hb dX9_unit_233 (by decide) ?_
                have hFc := frA hD hS hA
                refine va_callv (va_runV (As := [.int 3, .int 126]) (rest := []) ⟨hx, hb, hml, hown, hG⟩ (kX9_pushE l dC dI r ct i_taped i_size i_faultKind x4266 x4267 x4268 x4269 i_bank i_rb i_codes i_within i_piled x4255 i_askHouse i_askTune i_acts i_undone i_laid i_knowns i_time f_text f_tunes f_houses f_hums f_told f_many f_ruleFrom f_ruleTo f_code f_eWhat f_eSign f_all f_kept f_was f_sTune f_boxAll J4253 L4270 3 126 H4264.size hI4274 (ob_357 hp5 hp7 hp8) (ob_397 hp2 hp4 hp7)) (cwV 2 hG (goodV gw1468 gw1470 gw77 gw138 gw1471) rfl rfl rfl hd_X9_pushE ⟨(Nat.le_of_ble_eq_true rfl), (Nat.le_of_ble_eq_true rfl)⟩) ⟨fbW, va_recv hK hP (ci := 8) (q0 := 0) rfl rfl, pW_in hP hK hD⟩ rfl rfl hl.1 rfl (lv_room (Nat.le_of_ble_eq_true rfl)) dX9_unit_235 ⟨(Nat.le_of_ble_eq_true rfl), (Nat.le_of_ble_eq_true rfl)⟩) hS (fun q _ h => hFc q h) hFc (fun _ t_ H4310 locs ht hvm hw hB hz1 hk1 hS => ?_)
                obtain ⟨x4312, z4313, z4314, hP1, hD1, hI4318, f4315, f4316, f4317⟩ := hB
                rw [ht] at hP1
                have hP := hP1
                have hD := dW hFc hD1
                obtain ⟨im4319, im4320, im4321, im4322, im4323, im4324, im4325, im4326, im4327, im4328, im4329, im4330, im4331, im4332, im4333, im4334, im4335, im4336, im4337, im4338, im4339, im4340, im4341, im4342, im4343, im4344, im4345, im4346, im4347, im4348, im4349, im4350, im4351⟩ := id hI4318
                have f4352 : (z4313 ((0 : Int)).toNat).toInt = (f_eWhat ((0 : Int)).toNat).toInt := (by rw [f4316, upd_off (ne0 (ob_398 hp5))])
                refine lv_aload_n hx hb dX9_unit_238 rfl (lv_at hl 6 rfl) ?_
                refine lv_dup hx hb dX9_unit_239 rfl ?_
                refine gM_X9_299_0 hx hb hG hown hK hP dX9_unit_240 ?_
                refine lv_iconst (v := 1) hx hb dX9_unit_243 (by decide) ?_
                refine lv_iadd hx hb dX9_unit_244 ?_
                refine lv_topi (fun x4353 ex4353 => ?_)
                have f4354 : x4353.toInt = i_within.toInt + 1 := (ob_142 (qi_add ex4353 rfl zc_1 (ob_140 hp3) (ob_399 hp4)))
                refine pM_X9_299_0 hx hb hG hown hK hP hD hS dX9_unit_245 (fun H4355 locs hP hD hS => ?_)
                refine lv_iconst (v := 1) hx hb dX9_unit_248 (by decide) ?_
                rw [hQ]
                exact W.zret (v := 1) hx hb hr (by decide) (fun t ht hW => ⟨⟨1, 1, rfl, rfl, ⟨i_faultKind, x4266, x4267, x4268, x4269, i_codes, x4353, x4312, x4255, f_code, z4313, z4314, J4253, L4270, by rw [ht]; exact hP, hD, hI4318, (ob_14 zc_1), (ob_15 zc_1), (fun _ => SPpush hp11 f4316 f4317 (ob_398 hp5) (ob_142 f4315) (Or.inl (ob_409 zc_1 f4354 zc_126 zc_3))), (ob_199 hp5 f4315), (ob_401 hp2 hp4 hp7 f4315), (ob_145 f4271), (ob_410 ie17 hp2 hp3 hp4 hp5 hp6 hp7 hp8 hp9 f2730 f3681 f4237 f4273 f4315 f4352 zl_7237492 zc_1 f4354 f4256)⟩⟩, hS.F ht⟩) hS.2.2 dX9_unit_249
              · skip
                have f4356 : r_3692.toInt = 0 := qi_eq c_4258 rfl zc_0
                have f4357 : r_3692.toInt = (0 : Int) := (ob_25 f4356)
                refine lv_aload_n hx hb dX9_unit_200 rfl (lv_at hl 5 rfl) ?_
                refine gM_X9_209_0 hx hb hG hown hK hP dX9_unit_201 ?_
                refine lv_goto (tgt := 208) hx hb dX9_unit_204 (by decide) ?_
                refine lv_istore (lv' := [(6, .int i_number), (5, .int 1), (4, .int r_3692), (3, .int r_3687), (2, .int 1), (1, .int 1), (0, .ref (r 0))]) hx hb dX9_unit_208 hl (by decide) rfl (fun ls hl => ?_)
                refine lv_aload_n hx hb dX9_unit_210 rfl (lv_at hl 6 rfl) ?_
                have hFc := frA hD hS hA
                refine va_callv (va_runV (As := []) (rest := []) ⟨hx, hb, hml, hown, hG⟩ (kX9_goOn l dC dI r ct i_taped i_size i_faultKind i_at i_end i_token i_number i_bank i_rb i_codes i_within i_piled x4255 i_askHouse i_askTune i_acts i_undone i_laid i_knowns i_time f_text f_tunes f_houses f_hums f_told f_many f_ruleFrom f_ruleTo f_code f_eWhat f_eSign f_all f_kept f_was f_sTune f_boxAll J4253 L H4257.size hI) (cwV 0 hG (goodV gw1362 gw1364 gw59 gw138 gw1365) rfl rfl rfl hd_X9_goOn ⟨(Nat.le_of_ble_eq_true rfl), (Nat.le_of_ble_eq_true rfl)⟩) ⟨fbW, va_recv hK hP (ci := 8) (q0 := 0) rfl rfl, pW_in hP hK hD⟩ rfl rfl hl.1 rfl (lv_room (Nat.le_of_ble_eq_true rfl)) dX9_unit_211 ⟨(Nat.le_of_ble_eq_true rfl), (Nat.le_of_ble_eq_true rfl)⟩) hS (fun q _ h => hFc q h) hFc (fun _ t_ H4358 locs ht hvm hw hB hz1 hk1 hS => ?_)
                obtain ⟨x4360, x4361, x4362, x4363, L4364, hP1, hD1, hI4368, f4365, f4366, f4367⟩ := hB
                rw [ht] at hP1
                have hP := hP1
                have hD := dW hFc hD1
                obtain ⟨im4369, im4370, im4371, im4372, im4373, im4374, im4375, im4376, im4377, im4378, im4379, im4380, im4381, im4382, im4383, im4384, im4385, im4386, im4387, im4388, im4389, im4390, im4391, im4392, im4393, im4394, im4395, im4396, im4397, im4398, im4399, im4400, im4401⟩ := id hI4368
                refine lv_iload_n hx hb dX9_unit_214 rfl (lv_at hl 4 rfl) ?_
                refine lv_if_ne (tgt := 222) hx hb dX9_unit_215 (by decide) (fun c_4402 => ?_) (fun c_4402 => absurd c_4402 (by decide))
                refine lv_aload_n hx hb dX9_unit_222 rfl (lv_at hl 6 rfl) ?_
                refine lv_iload_n hx hb dX9_unit_223 rfl (lv_at hl 4 rfl) ?_
                refine lv_if_eq (tgt := 231) hx hb dX9_unit_224 (by decide) (fun c_4403 => absurd c_4403 (by decide)) (fun c_4403 => ?_)
                refine lv_iconst (v := 3) hx hb dX9_unit_227 (by decide) ?_
                refine lv_goto (tgt := 233) hx hb dX9_unit_228 (by decide) ?_
                refine lv_bipush (v := 126) hx hb dX9_unit_233 (by decide) ?_
                have hFc := frA hD hS hA
                refine va_callv (va_runV (As := [.int 3, .int 126]) (rest := []) ⟨hx, hb, hml, hown, hG⟩ (kX9_pushE l dC dI r ct i_taped i_size i_faultKind x4360 x4361 x4362 x4363 i_bank i_rb i_codes i_within i_piled x4255 i_askHouse i_askTune i_acts i_undone i_laid i_knowns i_time f_text f_tunes f_houses f_hums f_told f_many f_ruleFrom f_ruleTo f_code f_eWhat f_eSign f_all f_kept f_was f_sTune f_boxAll J4253 L4364 3 126 H4358.size hI4368 (ob_357 hp5 hp7 hp8) (ob_397 hp2 hp4 hp7)) (cwV 2 hG (goodV gw1468 gw1470 gw77 gw138 gw1471) rfl rfl rfl hd_X9_pushE ⟨(Nat.le_of_ble_eq_true rfl), (Nat.le_of_ble_eq_true rfl)⟩) ⟨fbW, va_recv hK hP (ci := 8) (q0 := 0) rfl rfl, pW_in hP hK hD⟩ rfl rfl hl.1 rfl (lv_room (Nat.le_of_ble_eq_true rfl)) dX9_unit_235 ⟨(Nat.le_of_ble_eq_true rfl), (Nat.le_of_ble_eq_true rfl)⟩) hS (fun q _ h => hFc q h) hFc (fun _ t_ H4404 locs ht hvm hw hB hz1 hk1 hS => ?_)
                obtain ⟨x4406, z4407, z4408, hP1, hD1, hI4412, f4409, f4410, f4411⟩ := hB
                rw [ht] at hP1
                have hP := hP1
                have hD := dW hFc hD1
                obtain ⟨im4413, im4414, im4415, im4416, im4417, im4418, im4419, im4420, im4421, im4422, im4423, im4424, im4425, im4426, im4427, im4428, im4429, im4430, im4431, im4432, im4433, im4434, im4435, im4436, im4437, im4438, im4439, im4440, im4441, im4442, im4443, im4444, im4445⟩ := id hI4412
                have f4446 : (z4407 ((0 : Int)).toNat).toInt = (f_eWhat ((0 : Int)).toNat).toInt := (by rw [f4410, upd_off (ne0 (ob_398 hp5))])
                refine lv_aload_n hx hb dX9_unit_238 rfl (lv_at hl 6 rfl) ?_
                refine lv_dup hx hb dX9_unit_239 rfl ?_
                refine gM_X9_299_0 hx hb hG hown hK hP dX9_unit_240 ?_
                refine lv_iconst (v := 1) hx hb dX9_unit_243 (by decide) ?_
                refine lv_iadd hx hb dX9_unit_244 ?_
                refine lv_topi (fun x4447 ex4447 => ?_)
                have f4448 : x4447.toInt = i_within.toInt + 1 := (ob_142 (qi_add ex4447 rfl zc_1 (ob_140 hp3) (ob_399 hp4)))
                refine pM_X9_299_0 hx hb hG hown hK hP hD hS dX9_unit_245 (fun H4449 locs hP hD hS => ?_)
                refine lv_iconst (v := 1) hx hb dX9_unit_248 (by decide) ?_
                rw [hQ]
                exact W.zret (v := 1) hx hb hr (by decide) (fun t ht hW => ⟨⟨1, 1, rfl, rfl, ⟨i_faultKind, x4360, x4361, x4362, x4363, i_codes, x4447, x4406, x4255, f_code, z4407, z4408, J4253, L4364, by rw [ht]; exact hP, hD, hI4412, (ob_14 zc_1), (ob_15 zc_1), (fun _ => SPpush hp11 f4410 f4411 (ob_398 hp5) (ob_142 f4409) (Or.inl (ob_409 zc_1 f4448 zc_126 zc_3))), (ob_199 hp5 f4409), (ob_401 hp2 hp4 hp7 f4409), (ob_145 f4365), (ob_410 ie17 hp2 hp3 hp4 hp5 hp6 hp7 hp8 hp9 f2730 f3681 f4237 f4367 f4409 f4446 zl_7237492 zc_1 f4448 f4256)⟩⟩, hS.F ht⟩) hS.2.2 dX9_unit_249
            · skip
              have f4450 : i_within.toInt = 7 := qi_eq c_4236 rfl zc_7
              refine lv_aload_n hx hb dX9_unit_143 rfl (lv_at hl 5 rfl) ?_
              have hFc := frA hD hS hA
              refine va_callv (va_runV (As := []) (rest := []) ⟨hx, hb, hml, hown, hG⟩ (kX9_misplaced l dC dI r ct i_taped i_size i_faultKind i_at i_end i_token i_number i_bank i_rb i_codes i_within i_piled i_unitsInRule i_askHouse i_askTune i_acts i_undone i_laid i_knowns i_time f_text f_tunes f_houses f_hums f_told f_many f_ruleFrom f_ruleTo f_code f_eWhat f_eSign f_all f_kept f_was f_sTune f_boxAll J L H3691.size hI) (cwV 0 hG (goodV gw1420 gw1422 gw65 gw138 gw1423) rfl rfl rfl hd_X9_misplaced ⟨(Nat.le_of_ble_eq_true rfl), (Nat.le_of_ble_eq_true rfl)⟩) ⟨fbW, va_recv hK hP (ci := 8) (q0 := 0) rfl rfl, pW_in hP hK hD⟩ rfl rfl hl.1 rfl (lv_room (Nat.le_of_ble_eq_true rfl)) dX9_unit_144 ⟨(Nat.le_of_ble_eq_true rfl), (Nat.le_of_ble_eq_true rfl)⟩) hS (fun q _ h => hFc q h) hFc (fun _ t_ H4451 locs ht hvm hw hB hz1 hk1 hS => ?_)
              obtain ⟨x4453, J4454, hP1, hD1, hI4456, f4455⟩ := hB
              rw [ht] at hP1
              have hP := hP1
              have hD := dW hFc hD1
              obtain ⟨im4457, im4458, im4459, im4460, im4461, im4462, im4463, im4464, im4465, im4466, im4467, im4468, im4469, im4470, im4471, im4472, im4473, im4474, im4475, im4476, im4477, im4478, im4479, im4480, im4481, im4482, im4483, im4484, im4485, im4486, im4487, im4488, im4489⟩ := id hI4456
              refine lv_aload_n hx hb dX9_unit_147 rfl (lv_at hl 5 rfl) ?_
              refine va_calli (va_runV (As := []) (rest := []) ⟨hx, hb, hml, hown, hG⟩ (kX9_isGood l dC dI r ct i_taped i_size x4453 i_at i_end i_token i_number i_bank i_rb i_codes i_within i_piled i_unitsInRule i_askHouse i_askTune i_acts i_undone i_laid i_knowns i_time f_text f_tunes f_houses f_hums f_told f_many f_ruleFrom f_ruleTo f_code f_eWhat f_eSign f_all f_kept f_was f_sTune f_boxAll J4454 L H4451.size hI4456) (cwV 0 hG (goodV gw1401 gw1403 gw61 gw138 gw1404) rfl rfl rfl hd_X9_isGood ⟨(Nat.le_of_ble_eq_true rfl), (Nat.le_of_ble_eq_true rfl)⟩) ⟨fbR, va_recv hK hP (ci := 8) (q0 := 0) rfl rfl, pR_in hP hK⟩ rfl rfl hl.1 rfl (lv_room (Nat.le_of_ble_eq_true rfl)) dX9_unit_148 ⟨(Nat.le_of_ble_eq_true rfl), (Nat.le_of_ble_eq_true rfl)⟩) hS (fun q hq h => absurd hq (Nat.not_lt.mpr h)) (fun q h => hA q (Nat.le_trans hS.1 h)) (fun r_4491 u_ t_ H4490 locs ht hvm hw hB hz1 hk1 hS => ?_)
              subst hw
              have hP := wk hP hk1
              obtain ⟨f4492, f4493, f4494⟩ := hB
              refine lv_if_ne (tgt := 156) hx hb dX9_unit_151 (by decide) (fun c_4495 => ((ob_231 (qi_ne c_4495 rfl zc_0) f4455 f4492)).elim) (fun c_4495 => ?_)
              have f4496 : r_4491.toInt = 0 := qi_eq c_4495 rfl zc_0
              have f4497 : x4453.toInt ≠ (0 : Int) := (ob_232 im4474 f4455)
              have f4498 : (1 : Int) ≤ x4453.toInt := (ob_217 im4474 f4455)
              have f4499 : r_4491.toInt = (0 : Int) := (ob_226 f4493 f4494 f4496)
              refine lv_iconst (v := 1) hx hb dX9_unit_154 (by decide) ?_
              rw [hQ]
              exact W.zret (v := 1) hx hb hr (by decide) (fun t ht hW => ⟨⟨1, 1, rfl, rfl, ⟨x4453, i_at, i_end, i_token, i_number, i_codes, i_within, i_piled, i_unitsInRule, f_code, f_eWhat, f_eSign, J4454, L, by rw [ht]; exact hP, hD, hI4456, (ob_14 zc_1), (ob_15 zc_1), (fun h => ((ob_356 h im4474 f4455)).elim), (ob_357 hp5 hp7 hp8), (ob_358 hp2 hp4 hp7), (ob_146), (ob_359 f4455 zc_1)⟩⟩, hS.F ht⟩) hS.2.2 dX9_unit_155
