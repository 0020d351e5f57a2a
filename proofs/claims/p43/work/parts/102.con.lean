set_option maxHeartbeats 4000000 in
set_option maxRecDepth 100000 in
theorem kX9_unit (l : Launch) (dC : Nat → ClassId) (dI : Nat → Nat → Nat) (r : Nat → Nat) (ct : Nat → ClassId) (i_taped i_size i_faultKind i_at i_end i_token i_number i_bank i_rb i_codes i_within i_piled i_unitsInRule i_askHouse i_askTune i_acts i_undone i_laid i_knowns i_time : Int32) (f_text f_tunes f_houses f_hums f_told f_many f_ruleFrom f_ruleTo f_code f_eWhat f_eSign f_all f_kept f_was f_sTune f_boxAll : Nat → Int32) (J : Nat → Nat → Int32) (L : Nat → Nat → Int64) (sz : Nat) (hI : (IM i_taped i_size i_faultKind i_at i_end i_bank i_rb i_acts i_undone i_laid i_knowns i_time f_tunes f_houses f_hums f_told f_many f_ruleFrom f_ruleTo f_code f_all f_kept f_was f_sTune f_boxAll)) (hp0 : i_rb.toInt + i_bank.toInt = (1 : Int)) (hp1 : (0 : Int) ≤ i_unitsInRule.toInt) (hp2 : i_unitsInRule.toInt ≤ (30 : Int)) (hp3 : (0 : Int) ≤ i_within.toInt) (hp4 : i_within.toInt ≤ (7 : Int)) (hp5 : (1 : Int) ≤ i_piled.toInt) (hp6 : 560 * i_rb.toInt ≤ i_codes.toInt) (hp7 : i_piled.toInt ≤ i_unitsInRule.toInt + i_within.toInt + 1) (hp8 : i_codes.toInt + i_piled.toInt ≤ 560 * i_rb.toInt + 9 * i_unitsInRule.toInt + i_within.toInt + 1) (hp9 : (f_eWhat ((0 : Int)).toNat).toInt = (8 : Int)) (hp10 : i_faultKind.toInt = (0 : Int)) (hp11 : SP f_eWhat f_eSign f_code i_piled.toInt i_within.toInt (560 * i_rb.toInt) i_codes.toInt 1) : Met l yX9_unit (.code yX9_unit cX9_unit 7 (some .boolean) :: GW) { frames := 6, cells := 0, slots := 0, locals := 224 } (va_Pc [.ref (r 0)] (pW (dC, dI) (WM r ct i_taped i_size i_faultKind i_at i_end i_token i_number i_bank i_rb i_codes i_within i_piled i_unitsInRule i_askHouse i_askTune i_acts i_undone i_laid i_knowns i_time f_text f_tunes f_houses f_hums f_told f_many f_ruleFrom f_ruleTo f_code f_eWhat f_eSign f_all f_kept f_was f_sTune f_boxAll J L) (TM ct) sz)) (va_Qi (fun (r0 : Int32) (u : Int32) => r0 = u) (fun (u : Int32) (t : State) => ∃ (n_i_faultKind n_i_at n_i_end n_i_token n_i_number n_i_codes n_i_within n_i_piled n_i_unitsInRule : Int32) (n_f_code n_f_eWhat n_f_eSign : Nat → Int32) (n_J : Nat → Nat → Int32) (n_L : Nat → Nat → Int64), va_P (dC, dI) vwCl (WM r ct i_taped i_size n_i_faultKind n_i_at n_i_end n_i_token n_i_number i_bank i_rb n_i_codes n_i_within n_i_piled n_i_unitsInRule i_askHouse i_askTune i_acts i_undone i_laid i_knowns i_time f_text f_tunes f_houses f_hums f_told f_many f_ruleFrom f_ruleTo n_f_code n_f_eWhat n_f_eSign f_all f_kept f_was f_sTune f_boxAll n_J n_L) t.heap ∧ va_D (va_A (WM r ct i_taped i_size i_faultKind i_at i_end i_token i_number i_bank i_rb i_codes i_within i_piled i_unitsInRule i_askHouse i_askTune i_acts i_undone i_laid i_knowns i_time f_text f_tunes f_houses f_hums f_told f_many f_ruleFrom f_ruleTo f_code f_eWhat f_eSign f_all f_kept f_was f_sTune f_boxAll J L) sz) (WM r ct i_taped i_size n_i_faultKind n_i_at n_i_end n_i_token n_i_number i_bank i_rb n_i_codes n_i_within n_i_piled n_i_unitsInRule i_askHouse i_askTune i_acts i_undone i_laid i_knowns i_time f_text f_tunes f_houses f_hums f_told f_many f_ruleFrom f_ruleTo n_f_code n_f_eWhat n_f_eSign f_all f_kept f_was f_sTune f_boxAll n_J n_L) ∧ (IM i_taped i_size n_i_faultKind n_i_at n_i_end i_bank i_rb i_acts i_undone i_laid i_knowns i_time f_tunes f_houses f_hums f_told f_many f_ruleFrom f_ruleTo n_f_code f_all f_kept f_was f_sTune f_boxAll) ∧ ((0 : Int) ≤ u.toInt) ∧ (u.toInt ≤ (1 : Int)) ∧ ((n_i_faultKind.toInt = 0 → SP n_f_eWhat n_f_eSign n_f_code n_i_piled.toInt n_i_within.toInt (560 * i_rb.toInt) n_i_codes.toInt u.toInt)) ∧ ((0 : Int) ≤ n_i_piled.toInt) ∧ (n_i_piled.toInt ≤ (60 : Int)) ∧ (i_end.toInt ≤ n_i_end.toInt) ∧ (((1 : Int) ≤ n_i_faultKind.toInt) ∨ (((0 : Int) ≤ n_i_unitsInRule.toInt) ∧ (n_i_unitsInRule.toInt ≤ (30 : Int)) ∧ ((0 : Int) ≤ n_i_within.toInt) ∧ (n_i_within.toInt ≤ (7 : Int)) ∧ (560 * i_rb.toInt ≤ n_i_codes.toInt) ∧ ((1 : Int) ≤ n_i_piled.toInt) ∧ (n_i_faultKind.toInt = (0 : Int)) ∧ ((n_f_eWhat ((0 : Int)).toNat).toInt = (8 : Int)) ∧ (i_token.toInt ≠ (0 : Int)) ∧ ((n_i_token.toInt = (0 : Int)) ∨ (i_end.toInt + 1 ≤ n_i_end.toInt)) ∧ (n_i_piled.toInt ≤ i_piled.toInt + 1) ∧ (((u.toInt = (1 : Int)) ∧ (n_i_piled.toInt ≤ n_i_unitsInRule.toInt + n_i_within.toInt + 1) ∧ (n_i_codes.toInt + n_i_piled.toInt ≤ 560 * i_rb.toInt + 9 * n_i_unitsInRule.toInt + n_i_within.toInt + 1)) ∨ ((u.toInt = (0 : Int)) ∧ (n_i_piled.toInt ≤ n_i_unitsInRule.toInt + n_i_within.toInt) ∧ (n_i_codes.toInt + n_i_piled.toInt ≤ 560 * i_rb.toInt + 9 * n_i_unitsInRule.toInt)))))) (va_A (WM r ct i_taped i_size i_faultKind i_at i_end i_token i_number i_bank i_rb i_codes i_within i_piled i_unitsInRule i_askHouse i_askTune i_acts i_undone i_laid i_knowns i_time f_text f_tunes f_houses f_hums f_told f_many f_ruleFrom f_ruleTo f_code f_eWhat f_eSign f_all f_kept f_was f_sTune f_boxAll J L) sz)) 0 0 (va_A (WM r ct i_taped i_size i_faultKind i_at i_end i_token i_number i_bank i_rb i_codes i_within i_piled i_unitsInRule i_askHouse i_askTune i_acts i_undone i_laid i_knowns i_time f_text f_tunes f_houses f_hums f_told f_many f_ruleFrom f_ruleTo f_code f_eWhat f_eSign f_all f_kept f_was f_sTune f_boxAll J L) sz) := by
  refine Met.ofW (cc := cX9_unit) (maxL := 7) (ret := (some .boolean)) (by decide) rfl ?_
  intro p e s m args below meth c0 s₁ B hml hv
  obtain ⟨rfl, hsz, hP, hK, hD0⟩ := hv
  have hx := B.exec
  have hb := B.bytes
  have hr := B.returns
  have hts := atoms_spec (ws := .code yX9_unit cX9_unit 7 (some .boolean) :: GW) B.pre
  have hG : ∀ w ∈ GW, w.before _ s = true := fun w h => hts w (List.mem_cons_of_mem _ h)
  have hown : s.vm.findClass RX9 = some m.cls := findClass_of_methodNamed B.named
  subst hsz
  have hD := hD0.self (sz := s.heap.size)
  generalize hAe : va_A (WM r ct i_taped i_size i_faultKind i_at i_end i_token i_number i_bank i_rb i_codes i_within i_piled i_unitsInRule i_askHouse i_askTune i_acts i_undone i_laid i_knowns i_time f_text f_tunes f_houses f_hums f_told f_many f_ruleFrom f_ruleTo f_code f_eWhat f_eSign f_all f_kept f_was f_sTune f_boxAll J L) s.heap.size = A at hD ⊢
  have hA : ∀ q : Nat, s.heap.size ≤ q → A q := fun q h => by rw [← hAe]; exact Or.inr h
  have hS : va_S A s.heap s.heap [] := va_S.rf
  have hP : va_P (dC, dI) vwCl (WM r ct i_taped i_size i_faultKind i_at i_end i_token i_number i_bank i_rb i_codes i_within i_piled i_unitsInRule i_askHouse i_askTune i_acts i_undone i_laid i_knowns i_time f_text f_tunes f_houses f_hums f_told f_many f_ruleFrom f_ruleTo f_code f_eWhat f_eSign f_all f_kept f_was f_sTune f_boxAll J L) s.heap := hP
  have hl := lv_entry ([.ref (r 0)]) (n := 7) (Nat.le_of_ble_eq_true rfl)
  rw [lg_entry_eq]
  generalize (lg_sl ([.ref (r 0)]) ++ List.replicate (7 - (lg_sl ([.ref (r 0)])).length) Slot.unset).toArray = ls at hl ⊢
  have hl : lv_has ls 7 [(0, .ref (r 0))] := hl
  refine nameQ (fun Q hQ => ?_)
  obtain ⟨im0, im1, im2, im3, im4, im5, im6, im7, im8, im9, im10, im11, im12, im13, im14, im15, im16, im17, im18, im19, im20, im21, im22, im23, im24, im25, im26, im27, im28, im29, im30, im31, im32⟩ := id hI
  have f1 : 0 ≤ (f_tunes (i_bank.toInt).toNat).toInt ∧ (f_tunes (i_bank.toInt).toNat).toInt ≤ 5 := im21 (i_bank.toInt)
  have f2 : 0 ≤ (f_houses (i_bank.toInt).toNat).toInt ∧ (f_houses (i_bank.toInt).toNat).toInt ≤ 4 := im22 (i_bank.toInt)
  refine lv_aload_n hx hb dX9_unit_0 rfl (lv_at hl 0 rfl) ?_
  refine gM_X9_79_0 hx hb hG hown hK hP dX9_unit_1 ?_
  refine lv_aload_n hx hb dX9_unit_4 rfl (lv_at hl 0 rfl) ?_
  refine gM_X9_296_0 hx hb hG hown hK hP dX9_unit_5 ?_
  refine lv_iconst (v := 1) hx hb dX9_unit_8 (by decide) ?_
  refine lv_isub hx hb dX9_unit_9 ?_
  refine lv_topi (fun x3 ex3 => ?_)
  have f4 : x3.toInt = i_piled.toInt + (-1) := (ob_208 (qi_sub ex3 rfl zc_1 (ob_206 hp5 hp7 hp8) (ob_207 hp2 hp4 hp7)))
  refine ldM_22 (mm := i_piled.toInt + (-1)) hx hb hK hP f4 (ob_209 hp5 hp7 hp8) (ob_210 hp2 hp4 hp7) dX9_unit_10 ?_
  have f5 : i_piled.toInt + (-1) = 0 → (f_eWhat (i_piled.toInt + (-1)).toNat).toInt = (f_eWhat ((0 : Int)).toNat).toInt := (fun h => by rw [h])
  refine lv_iconst (v := 3) hx hb dX9_unit_11 (by decide) ?_
  refine lv_icmp_le (tgt := 31) hx hb dX9_unit_12 (by decide) (fun c_6 => ?_) (fun c_6 => ?_)
  · skip
    have f7 : (f_eWhat (i_piled.toInt + (-1)).toNat).toInt ≤ 3 := qi_le c_6 rfl zc_3
    have f8 : i_piled.toInt ≠ (1 : Int) := (ob_211 hp9 f5 f7)
    refine lv_iconst (v := 1) hx hb dX9_unit_31 (by decide) ?_
    refine lv_goto (tgt := 36) hx hb dX9_unit_32 (by decide) ?_
    refine lv_istore_n (lv' := [(1, .int 1), (0, .ref (r 0))]) hx hb dX9_unit_36 rfl hl (by decide) rfl (fun ls hl => ?_)
    refine lv_iload_n hx hb dX9_unit_37 rfl (lv_at hl 0 rfl) ?_
    refine lv_if_eq (tgt := 55) hx hb dX9_unit_38 (by decide) (fun c_9 => absurd c_9 (by decide)) (fun c_9 => ?_)
    refine lv_aload_n hx hb dX9_unit_41 rfl (lv_at hl 1 rfl) ?_
    refine lv_ldc2 (v := 7237492) hx hb hown (hG _ gw1394) dX9_unit_42 ?_
    refine va_calli (va_runV (As := [.long (7237492 : Int64)]) (rest := []) ⟨hx, hb, hml, hown, hG⟩ (kX9_isWord l dC dI r ct i_taped i_size i_faultKind i_at i_end i_token i_number i_bank i_rb i_codes i_within i_piled i_unitsInRule i_askHouse i_askTune i_acts i_undone i_laid i_knowns i_time f_text f_tunes f_houses f_hums f_told f_many f_ruleFrom f_ruleTo f_code f_eWhat f_eSign f_all f_kept f_was f_sTune f_boxAll J L (7237492 : Int64) s.heap.size hI) (cwV 1 hG (goodV gw1413 gw1415 gw64 gw138 gw1416) rfl rfl rfl hd_X9_isWord ⟨(Nat.le_of_ble_eq_true rfl), (Nat.le_of_ble_eq_true rfl)⟩) ⟨fbR, va_recv hK hP (ci := 8) (q0 := 0) rfl rfl, pR_in hP hK⟩ rfl rfl hl.1 rfl (lv_room (Nat.le_of_ble_eq_true rfl)) dX9_unit_45 ⟨(Nat.le_of_ble_eq_true rfl), (Nat.le_of_ble_eq_true rfl)⟩) hS (fun q hq h => absurd hq (Nat.not_lt.mpr h)) (fun q h => hA q (Nat.le_trans hS.1 h)) (fun r_11 u_ t_ H10 locs ht hvm hw hB hz1 hk1 hS => ?_)
    subst hw
    have hP := wk hP hk1
    obtain ⟨f12, f13, f14⟩ := hB
    refine lv_if_eq (tgt := 55) hx hb dX9_unit_48 (by decide) (fun c_15 => ?_) (fun c_15 => ?_)
    · skip
      have f16 : r_11.toInt = 0 := qi_eq c_15 rfl zc_0
      refine lv_iconst (v := 0) hx hb dX9_unit_55 (by decide) ?_
      refine lv_istore_n (lv' := [(2, .int 0), (1, .int 1), (0, .ref (r 0))]) hx hb dX9_unit_56 rfl hl (by decide) rfl (fun ls hl => ?_)
      refine lv_aload_n hx hb dX9_unit_57 rfl (lv_at hl 2 rfl) ?_
      refine lv_bipush (v := 40) hx hb dX9_unit_58 (by decide) ?_
      refine va_calli (va_runV (As := [.int 40]) (rest := []) ⟨hx, hb, hml, hown, hG⟩ (kX9_isSignHere l dC dI r ct i_taped i_size i_faultKind i_at i_end i_token i_number i_bank i_rb i_codes i_within i_piled i_unitsInRule i_askHouse i_askTune i_acts i_undone i_laid i_knowns i_time f_text f_tunes f_houses f_hums f_told f_many f_ruleFrom f_ruleTo f_code f_eWhat f_eSign f_all f_kept f_was f_sTune f_boxAll J L 40 H10.size hI) (cwV 1 hG (goodV gw1476 gw1478 gw79 gw138 gw1479) rfl rfl rfl hd_X9_isSignHere ⟨(Nat.le_of_ble_eq_true rfl), (Nat.le_of_ble_eq_true rfl)⟩) ⟨fbR, va_recv hK hP (ci := 8) (q0 := 0) rfl rfl, pR_in hP hK⟩ rfl rfl hl.1 rfl (lv_room (Nat.le_of_ble_eq_true rfl)) dX9_unit_60 ⟨(Nat.le_of_ble_eq_true rfl), (Nat.le_of_ble_eq_true rfl)⟩) hS (fun q hq h => absurd hq (Nat.not_lt.mpr h)) (fun q h => hA q (Nat.le_trans hS.1 h)) (fun r_18 u_ t_ H17 locs ht hvm hw hB hz1 hk1 hS => ?_)
      subst hw
      have hP := wk hP hk1
      obtain ⟨f19, f20, f21⟩ := hB
      refine lv_istore_n (lv' := [(3, .int r_18), (2, .int 0), (1, .int 1), (0, .ref (r 0))]) hx hb dX9_unit_63 rfl hl (by decide) rfl (fun ls hl => ?_)
      refine lv_aload_n hx hb dX9_unit_64 rfl (lv_at hl 3 rfl) ?_
      refine va_calli (va_runV (As := []) (rest := []) ⟨hx, hb, hml, hown, hG⟩ (kX9_wordHere l dC dI r ct i_taped i_size i_faultKind i_at i_end i_token i_number i_bank i_rb i_codes i_within i_piled i_unitsInRule i_askHouse i_askTune i_acts i_undone i_laid i_knowns i_time f_text f_tunes f_houses f_hums f_told f_many f_ruleFrom f_ruleTo f_code f_eWhat f_eSign f_all f_kept f_was f_sTune f_boxAll J L H17.size hI) (cwV 0 hG (goodV gw1480 gw1482 gw80 gw138 gw1483) rfl rfl rfl hd_X9_wordHere ⟨(Nat.le_of_ble_eq_true rfl), (Nat.le_of_ble_eq_true rfl)⟩) ⟨fbR, va_recv hK hP (ci := 8) (q0 := 0) rfl rfl, pR_in hP hK⟩ rfl rfl hl.1 rfl (lv_room (Nat.le_of_ble_eq_true rfl)) dX9_unit_65 ⟨(Nat.le_of_ble_eq_true rfl), (Nat.le_of_ble_eq_true rfl)⟩) hS (fun q hq h => absurd hq (Nat.not_lt.mpr h)) (fun q h => hA q (Nat.le_trans hS.1 h)) (fun r_23 u_ t_ H22 locs ht hvm hw hB hz1 hk1 hS => ?_)
      subst hw
      have hP := wk hP hk1
      have f24 := hB
      refine lv_istore (lv' := [(4, .int r_23), (3, .int r_18), (2, .int 0), (1, .int 1), (0, .ref (r 0))]) hx hb dX9_unit_68 hl (by decide) rfl (fun ls hl => ?_)
      refine lv_aload_n hx hb dX9_unit_70 rfl (lv_at hl 4 rfl) ?_
      refine gM_X9_30_0 hx hb hG hown hK hP dX9_unit_71 ?_
      refine lv_aload_n hx hb dX9_unit_74 rfl (lv_at hl 4 rfl) ?_
      refine gM_X9_240_0 hx hb hG hown hK hP dX9_unit_75 ?_
      refine ldM_6 (mm := i_rb.toInt) hx hb hK hP rfl (ob_212 im6) (ob_213 im7) dX9_unit_78 (fun x25 => ?_)
      refine lv_bipush (v := 60) hx hb dX9_unit_79 (by decide) ?_
      refine lv_icmp_eq (tgt := 93) hx hb dX9_unit_81 (by decide) (fun c_26 => ?_) (fun c_26 => ?_)
      · skip
        have f27 : x25.toInt = 60 := qi_eq c_26 rfl zc_60
        refine lv_iconst (v := 1) hx hb dX9_unit_93 (by decide) ?_
        refine lv_goto (tgt := 98) hx hb dX9_unit_94 (by decide) ?_
        refine lv_istore (lv' := [(5, .int 1), (4, .int r_23), (3, .int r_18), (2, .int 0), (1, .int 1), (0, .ref (r 0))]) hx hb dX9_unit_98 hl (by decide) rfl (fun ls hl => ?_)
        refine lv_iload_n hx hb dX9_unit_100 rfl (lv_at hl 3 rfl) ?_
        refine lv_if_ne (tgt := 126) hx hb dX9_unit_101 (by decide) (fun c_28 => absurd (by decide) c_28) (fun c_28 => ?_)
        refine lv_iload hx hb dX9_unit_104 (lv_at hl 1 rfl) ?_
        refine lv_if_ne (tgt := 121) hx hb dX9_unit_106 (by decide) (fun c_29 => ?_) (fun c_29 => ?_)
        · skip
          have f30 : r_23.toInt ≠ 0 := qi_ne c_29 rfl zc_0
          refine lv_iload hx hb dX9_unit_121 (lv_at hl 0 rfl) ?_
          refine lv_if_ne (tgt := 143) hx hb dX9_unit_123 (by decide) (fun c_31 => ?_) (fun c_31 => absurd c_31 (by decide))
          refine lv_aload_n hx hb dX9_unit_143 rfl (lv_at hl 5 rfl) ?_
          have hFc := frA hD hS hA
          refine va_callv (va_runV (As := []) (rest := []) ⟨hx, hb, hml, hown, hG⟩ (kX9_misplaced l dC dI r ct i_taped i_size i_faultKind i_at i_end i_token i_number i_bank i_rb i_codes i_within i_piled i_unitsInRule i_askHouse i_askTune i_acts i_undone i_laid i_knowns i_time f_text f_tunes f_houses f_hums f_told f_many f_ruleFrom f_ruleTo f_code f_eWhat f_eSign f_all f_kept f_was f_sTune f_boxAll J L H22.size hI) (cwV 0 hG (goodV gw1420 gw1422 gw65 gw138 gw1423) rfl rfl rfl hd_X9_misplaced ⟨(Nat.le_of_ble_eq_true rfl), (Nat.le_of_ble_eq_true rfl)⟩) ⟨fbW, va_recv hK hP (ci := 8) (q0 := 0) rfl rfl, pW_in hP hK hD⟩ rfl rfl hl.1 rfl (lv_room (Nat.le_of_ble_eq_true rfl)) dX9_unit_144 ⟨(Nat.le_of_ble_eq_true rfl), (Nat.le_of_ble_eq_true rfl)⟩) hS (fun q _ h => hFc q h) hFc (fun _ t_ H32 locs ht hvm hw hB hz1 hk1 hS => ?_)
          obtain ⟨x34, J35, hP1, hD1, hI37, f36⟩ := hB
          rw [ht] at hP1
          have hP := hP1
          have hD := dW hFc hD1
          obtain ⟨im38, im39, im40, im41, im42, im43, im44, im45, im46, im47, im48, im49, im50, im51, im52, im53, im54, im55, im56, im57, im58, im59, im60, im61, im62, im63, im64, im65, im66, im67, im68, im69, im70⟩ := id hI37
          refine lv_aload_n hx hb dX9_unit_147 rfl (lv_at hl 5 rfl) ?_
          refine va_calli (va_runV (As := []) (rest := []) ⟨hx, hb, hml, hown, hG⟩ (kX9_isGood l dC dI r ct i_taped i_size x34 i_at i_end i_token i_number i_bank i_rb i_codes i_within i_piled i_unitsInRule i_askHouse i_askTune i_acts i_undone i_laid i_knowns i_time f_text f_tunes f_houses f_hums f_told f_many f_ruleFrom f_ruleTo f_code f_eWhat f_eSign f_all f_kept f_was f_sTune f_boxAll J35 L H32.size hI37) (cwV 0 hG (goodV gw1401 gw1403 gw61 gw138 gw1404) rfl rfl rfl hd_X9_isGood ⟨(Nat.le_of_ble_eq_true rfl), (Nat.le_of_ble_eq_true rfl)⟩) ⟨fbR, va_recv hK hP (ci := 8) (q0 := 0) rfl rfl, pR_in hP hK⟩ rfl rfl hl.1 rfl (lv_room (Nat.le_of_ble_eq_true rfl)) dX9_unit_148 ⟨(Nat.le_of_ble_eq_true rfl), (Nat.le_of_ble_eq_true rfl)⟩) hS (fun q hq h => absurd hq (Nat.not_lt.mpr h)) (fun q h => hA q (Nat.le_trans hS.1 h)) (fun r_72 u_ t_ H71 locs ht hvm hw hB hz1 hk1 hS => ?_)
          subst hw
          have hP := wk hP hk1
          obtain ⟨f73, f74, f75⟩ := hB
          refine lv_if_ne (tgt := 156) hx hb dX9_unit_151 (by decide) (fun c_76 => ((ob_172 (qi_ne c_76 rfl zc_0) f36 f73)).elim) (fun c_76 => ?_)
          have f77 : r_72.toInt = 0 := qi_eq c_76 rfl zc_0
          have f78 : x34.toInt ≠ (0 : Int) := (ob_173 im55 f36)
          have f79 : (1 : Int) ≤ x34.toInt := (ob_156 im55 f36)
          have f80 : r_72.toInt = (0 : Int) := (ob_165 f74 f75 f77)
          refine lv_iconst (v := 1) hx hb dX9_unit_154 (by decide) ?_
          rw [hQ]
          exact W.zret (v := 1) hx hb hr (by decide) (fun t ht hW => ⟨⟨1, 1, rfl, rfl, ⟨x34, i_at, i_end, i_token, i_number, i_codes, i_within, i_piled, i_unitsInRule, f_code, f_eWhat, f_eSign, J35, L, by rw [ht]; exact hP, hD, hI37, (ob_14 zc_1), (ob_15 zc_1), (fun h => ((ob_214 h im55 f36)).elim), (ob_215 hp5 hp7 hp8), (ob_216 hp2 hp4 hp7), (ob_88), (ob_217 f36 zc_1)⟩⟩, hS.F ht⟩) hS.2.2 dX9_unit_155
        · skip
          have f81 : r_23.toInt = 0 := qi_eq c_29 rfl zc_0
          have f82 : r_23.toInt = (0 : Int) := (ob_218 f81)
          refine lv_aload_n hx hb dX9_unit_109 rfl (lv_at hl 5 rfl) ?_
          refine gM_X9_191_0 hx hb hG hown hK hP dX9_unit_110 ?_
          refine lv_iconst (v := 4) hx hb dX9_unit_113 (by decide) ?_
          refine lv_icmp_eq (tgt := 121) hx hb dX9_unit_114 (by decide) (fun c_83 => ?_) (fun c_83 => ?_)
          · skip
            have f84 : i_token.toInt = 4 := qi_eq c_83 rfl zc_4
            have f85 : i_token.toInt ≠ (3 : Int) := (ob_219 f84)
            have f86 : r_11.toInt = (0 : Int) := (ob_165 f13 f14 f16)
            have f87 : i_token.toInt ≠ (5 : Int) := (ob_220 f84)
            have f88 : r_18.toInt = (0 : Int) := (ob_221 f19 f84 zc_40)
            have f89 : (4 : Int) ≤ i_token.toInt := (ob_222 f84)
            have f90 : i_token.toInt ≤ (4 : Int) := (ob_223 f84 f89)
            refine lv_iload hx hb dX9_unit_121 (lv_at hl 0 rfl) ?_
            refine lv_if_ne (tgt := 143) hx hb dX9_unit_123 (by decide) (fun c_91 => ?_) (fun c_91 => absurd c_91 (by decide))
            refine lv_aload_n hx hb dX9_unit_143 rfl (lv_at hl 5 rfl) ?_
            have hFc := frA hD hS hA
            refine va_callv (va_runV (As := []) (rest := []) ⟨hx, hb, hml, hown, hG⟩ (kX9_misplaced l dC dI r ct i_taped i_size i_faultKind i_at i_end i_token i_number i_bank i_rb i_codes i_within i_piled i_unitsInRule i_askHouse i_askTune i_acts i_undone i_laid i_knowns i_time f_text f_tunes f_houses f_hums f_told f_many f_ruleFrom f_ruleTo f_code f_eWhat f_eSign f_all f_kept f_was f_sTune f_boxAll J L H22.size hI) (cwV 0 hG (goodV gw1420 gw1422 gw65 gw138 gw1423) rfl rfl rfl hd_X9_misplaced ⟨(Nat.le_of_ble_eq_true rfl), (Nat.le_of_ble_eq_true rfl)⟩) ⟨fbW, va_recv hK hP (ci := 8) (q0 := 0) rfl rfl, pW_in hP hK hD⟩ rfl rfl hl.1 rfl (lv_room (Nat.le_of_ble_eq_true rfl)) dX9_unit_144 ⟨(Nat.le_of_ble_eq_true rfl), (Nat.le_of_ble_eq_true rfl)⟩) hS (fun q _ h => hFc q h) hFc (fun _ t_ H92 locs ht hvm hw hB hz1 hk1 hS => ?_)
            obtain ⟨x94, J95, hP1, hD1, hI97, f96⟩ := hB
            rw [ht] at hP1
            have hP := hP1
            have hD := dW hFc hD1
            obtain ⟨im98, im99, im100, im101, im102, im103, im104, im105, im106, im107, im108, im109, im110, im111, im112, im113, im114, im115, im116, im117, im118, im119, im120, im121, im122, im123, im124, im125, im126, im127, im128, im129, im130⟩ := id hI97
            refine lv_aload_n hx hb dX9_unit_147 rfl (lv_at hl 5 rfl) ?_
            refine va_calli (va_runV (As := []) (rest := []) ⟨hx, hb, hml, hown, hG⟩ (kX9_isGood l dC dI r ct i_taped i_size x94 i_at i_end i_token i_number i_bank i_rb i_codes i_within i_piled i_unitsInRule i_askHouse i_askTune i_acts i_undone i_laid i_knowns i_time f_text f_tunes f_houses f_hums f_told f_many f_ruleFrom f_ruleTo f_code f_eWhat f_eSign f_all f_kept f_was f_sTune f_boxAll J95 L H92.size hI97) (cwV 0 hG (goodV gw1401 gw1403 gw61 gw138 gw1404) rfl rfl rfl hd_X9_isGood ⟨(Nat.le_of_ble_eq_true rfl), (Nat.le_of_ble_eq_true rfl)⟩) ⟨fbR, va_recv hK hP (ci := 8) (q0 := 0) rfl rfl, pR_in hP hK⟩ rfl rfl hl.1 rfl (lv_room (Nat.le_of_ble_eq_true rfl)) dX9_unit_148 ⟨(Nat.le_of_ble_eq_true rfl), (Nat.le_of_ble_eq_true rfl)⟩) hS (fun q hq h => absurd hq (Nat.not_lt.mpr h)) (fun q h => hA q (Nat.le_trans hS.1 h)) (fun r_132 u_ t_ H131 locs ht hvm hw hB hz1 hk1 hS => ?_)
            subst hw
            have hP := wk hP hk1
            obtain ⟨f133, f134, f135⟩ := hB
            refine lv_if_ne (tgt := 156) hx hb dX9_unit_151 (by decide) (fun c_136 => ((ob_172 (qi_ne c_136 rfl zc_0) f96 f133)).elim) (fun c_136 => ?_)
            have f137 : r_132.toInt = 0 := qi_eq c_136 rfl zc_0
            have f138 : x94.toInt ≠ (0 : Int) := (ob_173 im115 f96)
            have f139 : (1 : Int) ≤ x94.toInt := (ob_156 im115 f96)
            have f140 : r_132.toInt = (0 : Int) := (ob_165 f134 f135 f137)
            refine lv_iconst (v := 1) hx hb dX9_unit_154 (by decide) ?_
            rw [hQ]
            exact W.zret (v := 1) hx hb hr (by decide) (fun t ht hW => ⟨⟨1, 1, rfl, rfl, ⟨x94, i_at, i_end, i_token, i_number, i_codes, i_within, i_piled, i_unitsInRule, f_code, f_eWhat, f_eSign, J95, L, by rw [ht]; exact hP, hD, hI97, (ob_14 zc_1), (ob_15 zc_1), (fun h => ((ob_214 h im115 f96)).elim), (ob_215 hp5 hp7 hp8), (ob_216 hp2 hp4 hp7), (ob_88), (ob_217 f96 zc_1)⟩⟩, hS.F ht⟩) hS.2.2 dX9_unit_155
          · skip
            have f141 : i_token.toInt ≠ 4 := qi_ne c_83 rfl zc_4
            refine lv_iload_n hx hb dX9_unit_117 rfl (lv_at hl 2 rfl) ?_
            refine lv_if_eq (tgt := 143) hx hb dX9_unit_118 (by decide) (fun c_142 => ?_) (fun c_142 => ?_)
            · skip
              have f143 : r_18.toInt = 0 := qi_eq c_142 rfl zc_0
              refine lv_aload_n hx hb dX9_unit_143 rfl (lv_at hl 5 rfl) ?_
              have hFc := frA hD hS hA
              refine va_callv (va_runV (As := []) (rest := []) ⟨hx, hb, hml, hown, hG⟩ (kX9_misplaced l dC dI r ct i_taped i_size i_faultKind i_at i_end i_token i_number i_bank i_rb i_codes i_within i_piled i_unitsInRule i_askHouse i_askTune i_acts i_undone i_laid i_knowns i_time f_text f_tunes f_houses f_hums f_told f_many f_ruleFrom f_ruleTo f_code f_eWhat f_eSign f_all f_kept f_was f_sTune f_boxAll J L H22.size hI) (cwV 0 hG (goodV gw1420 gw1422 gw65 gw138 gw1423) rfl rfl rfl hd_X9_misplaced ⟨(Nat.le_of_ble_eq_true rfl), (Nat.le_of_ble_eq_true rfl)⟩) ⟨fbW, va_recv hK hP (ci := 8) (q0 := 0) rfl rfl, pW_in hP hK hD⟩ rfl rfl hl.1 rfl (lv_room (Nat.le_of_ble_eq_true rfl)) dX9_unit_144 ⟨(Nat.le_of_ble_eq_true rfl), (Nat.le_of_ble_eq_true rfl)⟩) hS (fun q _ h => hFc q h) hFc (fun _ t_ H144 locs ht hvm hw hB hz1 hk1 hS => ?_)
              obtain ⟨x146, J147, hP1, hD1, hI149, f148⟩ := hB
              rw [ht] at hP1
              have hP := hP1
              have hD := dW hFc hD1
              obtain ⟨im150, im151, im152, im153, im154, im155, im156, im157, im158, im159, im160, im161, im162, im163, im164, im165, im166, im167, im168, im169, im170, im171, im172, im173, im174, im175, im176, im177, im178, im179, im180, im181, im182⟩ := id hI149
              refine lv_aload_n hx hb dX9_unit_147 rfl (lv_at hl 5 rfl) ?_
              refine va_calli (va_runV (As := []) (rest := []) ⟨hx, hb, hml, hown, hG⟩ (kX9_isGood l dC dI r ct i_taped i_size x146 i_at i_end i_token i_number i_bank i_rb i_codes i_within i_piled i_unitsInRule i_askHouse i_askTune i_acts i_undone i_laid i_knowns i_time f_text f_tunes f_houses f_hums f_told f_many f_ruleFrom f_ruleTo f_code f_eWhat f_eSign f_all f_kept f_was f_sTune f_boxAll J147 L H144.size hI149) (cwV 0 hG (goodV gw1401 gw1403 gw61 gw138 gw1404) rfl rfl rfl hd_X9_isGood ⟨(Nat.le_of_ble_eq_true rfl), (Nat.le_of_ble_eq_true rfl)⟩) ⟨fbR, va_recv hK hP (ci := 8) (q0 := 0) rfl rfl, pR_in hP hK⟩ rfl rfl hl.1 rfl (lv_room (Nat.le_of_ble_eq_true rfl)) dX9_unit_148 ⟨(Nat.le_of_ble_eq_true rfl), (Nat.le_of_ble_eq_true rfl)⟩) hS (fun q hq h => absurd hq (Nat.not_lt.mpr h)) (fun q h => hA q (Nat.le_trans hS.1 h)) (fun r_184 u_ t_ H183 locs ht hvm hw hB hz1 hk1 hS => ?_)
              subst hw
              have hP := wk hP hk1
              obtain ⟨f185, f186, f187⟩ := hB
              refine lv_if_ne (tgt := 156) hx hb dX9_unit_151 (by decide) (fun c_188 => ((ob_172 (qi_ne c_188 rfl zc_0) f148 f185)).elim) (fun c_188 => ?_)
              have f189 : r_184.toInt = 0 := qi_eq c_188 rfl zc_0
              have f190 : x146.toInt ≠ (0 : Int) := (ob_173 im167 f148)
              have f191 : (1 : Int) ≤ x146.toInt := (ob_156 im167 f148)
              have f192 : r_184.toInt = (0 : Int) := (ob_165 f186 f187 f189)
              refine lv_iconst (v := 1) hx hb dX9_unit_154 (by decide) ?_
              rw [hQ]
              exact W.zret (v := 1) hx hb hr (by decide) (fun t ht hW => ⟨⟨1, 1, rfl, rfl, ⟨x146, i_at, i_end, i_token, i_number, i_codes, i_within, i_piled, i_unitsInRule, f_code, f_eWhat, f_eSign, J147, L, by rw [ht]; exact hP, hD, hI149, (ob_14 zc_1), (ob_15 zc_1), (fun h => ((ob_214 h im167 f148)).elim), (ob_215 hp5 hp7 hp8), (ob_216 hp2 hp4 hp7), (ob_88), (ob_217 f148 zc_1)⟩⟩, hS.F ht⟩) hS.2.2 dX9_unit_155
            · skip
              have f193 : r_18.toInt ≠ 0 := qi_ne c_142 rfl zc_0
              have f194 : (1 : Int) ≤ r_18.toInt := (ob_224 f19 f193 zc_40)
              have f195 : i_token.toInt = (5 : Int) := (ob_225 f19 f193 zc_40)
              have f196 : (sgz f_text i_size.toInt i_at.toInt) = (40 : Int) := (ob_226 f19 f193 zc_40)
              have f197 : r_18.toInt = (1 : Int) := (ob_104 f20 f21 f194)
              refine lv_iload hx hb dX9_unit_121 (lv_at hl 0 rfl) ?_
              refine lv_if_ne (tgt := 143) hx hb dX9_unit_123 (by decide) (fun c_198 => ?_) (fun c_198 => absurd c_198 (by decide))
              refine lv_aload_n hx hb dX9_unit_143 rfl (lv_at hl 5 rfl) ?_
              have hFc := frA hD hS hA
              refine va_callv (va_runV (As := []) (rest := []) ⟨hx, hb, hml, hown, hG⟩ (kX9_misplaced l dC dI r ct i_taped i_size i_faultKind i_at i_end i_token i_number i_bank i_rb i_codes i_within i_piled i_unitsInRule i_askHouse i_askTune i_acts i_undone i_laid i_knowns i_time f_text f_tunes f_houses f_hums f_told f_many f_ruleFrom f_ruleTo f_code f_eWhat f_eSign f_all f_kept f_was f_sTune f_boxAll J L H22.size hI) (cwV 0 hG (goodV gw1420 gw1422 gw65 gw138 gw1423) rfl rfl rfl hd_X9_misplaced ⟨(Nat.le_of_ble_eq_true rfl), (Nat.le_of_ble_eq_true rfl)⟩) ⟨fbW, va_recv hK hP (ci := 8) (q0 := 0) rfl rfl, pW_in hP hK hD⟩ rfl rfl hl.1 rfl (lv_room (Nat.le_of_ble_eq_true rfl)) dX9_unit_144 ⟨(Nat.le_of_ble_eq_true rfl), (Nat.le_of_ble_eq_true rfl)⟩) hS (fun q _ h => hFc q h) hFc (fun _ t_ H199 locs ht hvm hw hB hz1 hk1 hS => ?_)
              obtain ⟨x201, J202, hP1, hD1, hI204, f203⟩ := hB
              rw [ht] at hP1
              have hP := hP1
              have hD := dW hFc hD1
              obtain ⟨im205, im206, im207, im208, im209, im210, im211, im212, im213, im214, im215, im216, im217, im218, im219, im220, im221, im222, im223, im224, im225, im226, im227, im228, im229, im230, im231, im232, im233, im234, im235, im236, im237⟩ := id hI204
              refine lv_aload_n hx hb dX9_unit_147 rfl (lv_at hl 5 rfl) ?_
              refine va_calli (va_runV (As := []) (rest := []) ⟨hx, hb, hml, hown, hG⟩ (kX9_isGood l dC dI r ct i_taped i_size x201 i_at i_end i_token i_number i_bank i_rb i_codes i_within i_piled i_unitsInRule i_askHouse i_askTune i_acts i_undone i_laid i_knowns i_time f_text f_tunes f_houses f_hums f_told f_many f_ruleFrom f_ruleTo f_code f_eWhat f_eSign f_all f_kept f_was f_sTune f_boxAll J202 L H199.size hI204) (cwV 0 hG (goodV gw1401 gw1403 gw61 gw138 gw1404) rfl rfl rfl hd_X9_isGood ⟨(Nat.le_of_ble_eq_true rfl), (Nat.le_of_ble_eq_true rfl)⟩) ⟨fbR, va_recv hK hP (ci := 8) (q0 := 0) rfl rfl, pR_in hP hK⟩ rfl rfl hl.1 rfl (lv_room (Nat.le_of_ble_eq_true rfl)) dX9_unit_148 ⟨(Nat.le_of_ble_eq_true rfl), (Nat.le_of_ble_eq_true rfl)⟩) hS (fun q hq h => absurd hq (Nat.not_lt.mpr h)) (fun q h => hA q (Nat.le_trans hS.1 h)) (fun r_239 u_ t_ H238 locs ht hvm hw hB hz1 hk1 hS => ?_)
              subst hw
              have hP := wk hP hk1
              obtain ⟨f240, f241, f242⟩ := hB
              refine lv_if_ne (tgt := 156) hx hb dX9_unit_151 (by decide) (fun c_243 => ((ob_172 (qi_ne c_243 rfl zc_0) f203 f240)).elim) (fun c_243 => ?_)
              have f244 : r_239.toInt = 0 := qi_eq c_243 rfl zc_0
              have f245 : x201.toInt ≠ (0 : Int) := (ob_173 im222 f203)
              have f246 : (1 : Int) ≤ x201.toInt := (ob_156 im222 f203)
              have f247 : r_239.toInt = (0 : Int) := (ob_165 f241 f242 f244)
              refine lv_iconst (v := 1) hx hb dX9_unit_154 (by decide) ?_
              rw [hQ]
              exact W.zret (v := 1) hx hb hr (by decide) (fun t ht hW => ⟨⟨1, 1, rfl, rfl, ⟨x201, i_at, i_end, i_token, i_number, i_codes, i_within, i_piled, i_unitsInRule, f_code, f_eWhat, f_eSign, J202, L, by rw [ht]; exact hP, hD, hI204, (ob_14 zc_1), (ob_15 zc_1), (fun h => ((ob_214 h im222 f203)).elim), (ob_215 hp5 hp7 hp8), (ob_216 hp2 hp4 hp7), (ob_88), (ob_217 f203 zc_1)⟩⟩, hS.F ht⟩) hS.2.2 dX9_unit_155
      · skip
        have f248 : x25.toInt ≠ 60 := qi_ne c_26 rfl zc_60
        refine lv_aload_n hx hb dX9_unit_84 rfl (lv_at hl 4 rfl) ?_
        refine gM_X9_290_0 hx hb hG hown hK hP dX9_unit_85 ?_
        refine lv_bipush (v := 30) hx hb dX9_unit_88 (by decide) ?_
        refine lv_icmp_ne (tgt := 97) hx hb dX9_unit_90 (by decide) (fun c_249 => ?_) (fun c_249 => ?_)
        · skip
          have f250 : i_unitsInRule.toInt ≠ 30 := qi_ne c_249 rfl zc_30
          have f251 : i_unitsInRule.toInt ≤ (29 : Int) := (ob_227 hp2 f250)
          refine lv_iconst (v := 0) hx hb dX9_unit_97 (by decide) ?_
          refine lv_istore (lv' := [(5, .int 0), (4, .int r_23), (3, .int r_18), (2, .int 0), (1, .int 1), (0, .ref (r 0))]) hx hb dX9_unit_98 hl (by decide) rfl (fun ls hl => ?_)
          refine lv_iload_n hx hb dX9_unit_100 rfl (lv_at hl 3 rfl) ?_
          refine lv_if_ne (tgt := 126) hx hb dX9_unit_101 (by decide) (fun c_252 => absurd (by decide) c_252) (fun c_252 => ?_)
          refine lv_iload hx hb dX9_unit_104 (lv_at hl 1 rfl) ?_
          refine lv_if_ne (tgt := 121) hx hb dX9_unit_106 (by decide) (fun c_253 => ?_) (fun c_253 => ?_)
          · skip
            have f254 : r_23.toInt ≠ 0 := qi_ne c_253 rfl zc_0
            refine lv_iload hx hb dX9_unit_121 (lv_at hl 0 rfl) ?_
            refine lv_if_ne (tgt := 143) hx hb dX9_unit_123 (by decide) (fun c_255 => absurd (by decide) c_255) (fun c_255 => ?_)
            refine lv_iload_n hx hb dX9_unit_126 rfl (lv_at hl 3 rfl) ?_
            refine lv_if_ne (tgt := 134) hx hb dX9_unit_127 (by decide) (fun c_256 => absurd (by decide) c_256) (fun c_256 => ?_)
            refine lv_iload_n hx hb dX9_unit_130 rfl (lv_at hl 2 rfl) ?_
            refine lv_if_eq (tgt := 147) hx hb dX9_unit_131 (by decide) (fun c_257 => ?_) (fun c_257 => ((ob_228 (qi_ne c_257 rfl zc_0) f19 f24 f254 zc_40)).elim)
            have f258 : r_18.toInt = 0 := qi_eq c_257 rfl zc_0
            refine lv_aload_n hx hb dX9_unit_147 rfl (lv_at hl 5 rfl) ?_
            refine va_calli (va_runV (As := []) (rest := []) ⟨hx, hb, hml, hown, hG⟩ (kX9_isGood l dC dI r ct i_taped i_size i_faultKind i_at i_end i_token i_number i_bank i_rb i_codes i_within i_piled i_unitsInRule i_askHouse i_askTune i_acts i_undone i_laid i_knowns i_time f_text f_tunes f_houses f_hums f_told f_many f_ruleFrom f_ruleTo f_code f_eWhat f_eSign f_all f_kept f_was f_sTune f_boxAll J L H22.size hI) (cwV 0 hG (goodV gw1401 gw1403 gw61 gw138 gw1404) rfl rfl rfl hd_X9_isGood ⟨(Nat.le_of_ble_eq_true rfl), (Nat.le_of_ble_eq_true rfl)⟩) ⟨fbR, va_recv hK hP (ci := 8) (q0 := 0) rfl rfl, pR_in hP hK⟩ rfl rfl hl.1 rfl (lv_room (Nat.le_of_ble_eq_true rfl)) dX9_unit_148 ⟨(Nat.le_of_ble_eq_true rfl), (Nat.le_of_ble_eq_true rfl)⟩) hS (fun q hq h => absurd hq (Nat.not_lt.mpr h)) (fun q h => hA q (Nat.le_trans hS.1 h)) (fun r_260 u_ t_ H259 locs ht hvm hw hB hz1 hk1 hS => ?_)
            subst hw
            have hP := wk hP hk1
            obtain ⟨f261, f262, f263⟩ := hB
            refine lv_if_ne (tgt := 156) hx hb dX9_unit_151 (by decide) (fun c_264 => ?_) (fun c_264 => ((ob_167 (qi_eq c_264 rfl zc_0) hp10 f261)).elim)
            have f265 : r_260.toInt ≠ 0 := qi_ne c_264 rfl zc_0
            have f266 : i_faultKind.toInt = (0 : Int) := (ob_168 im17 hp10)
            have f267 : r_260.toInt = (1 : Int) := (ob_169 f261 f265)
            have f268 : (1 : Int) ≤ r_260.toInt := (ob_170 f262 f263 f267)
            refine lv_aload_n hx hb dX9_unit_156 rfl (lv_at hl 5 rfl) ?_
            refine gM_X9_30_0 hx hb hG hown hK hP dX9_unit_157 ?_
            refine lv_aload_n hx hb dX9_unit_160 rfl (lv_at hl 5 rfl) ?_
            refine gM_X9_240_0 hx hb hG hown hK hP dX9_unit_161 ?_
            refine lv_dup2_11 hx hb dX9_unit_164 rfl rfl ?_
            refine ldM_6 (mm := i_rb.toInt) hx hb hK hP rfl (ob_212 im6) (ob_213 im7) dX9_unit_165 (fun x269 => ?_)
            refine lv_iload_n hx hb dX9_unit_166 rfl (lv_at hl 3 rfl) ?_
            refine lv_if_eq (tgt := 174) hx hb dX9_unit_167 (by decide) (fun c_270 => ?_) (fun c_270 => absurd (by decide) c_270)
            refine lv_iconst (v := 1) hx hb dX9_unit_174 (by decide) ?_
            refine lv_iadd hx hb dX9_unit_175 ?_
            refine lv_topi (fun x271 ex271 => ?_)
            refine stM_6 (mm := i_rb.toInt) hx hb hK hP hD hS rfl (ob_212 im6) (ob_213 im7) dX9_unit_176 (fun J273 H272 locs hP hD hS => ?_)
            refine lv_aload_n hx hb dX9_unit_177 rfl (lv_at hl 5 rfl) ?_
            refine lv_dup hx hb dX9_unit_178 rfl ?_
            refine gM_X9_290_0 hx hb hG hown hK hP dX9_unit_179 ?_
            refine lv_iload_n hx hb dX9_unit_182 rfl (lv_at hl 3 rfl) ?_
            refine lv_if_eq (tgt := 190) hx hb dX9_unit_183 (by decide) (fun c_274 => ?_) (fun c_274 => absurd (by decide) c_274)
            refine lv_iconst (v := 1) hx hb dX9_unit_190 (by decide) ?_
            refine lv_iadd hx hb dX9_unit_191 ?_
            refine lv_topi (fun x275 ex275 => ?_)
            have f276 : x275.toInt = i_unitsInRule.toInt + 1 := (ob_84 (qi_add ex275 rfl zc_1 (ob_82 hp1) (ob_229 hp2)))
            refine pM_X9_290_0 hx hb hG hown hK hP hD hS dX9_unit_192 (fun H277 locs hP hD hS => ?_)
            refine lv_iload hx hb dX9_unit_195 (lv_at hl 1 rfl) ?_
            refine lv_if_ne (tgt := 207) hx hb dX9_unit_197 (by decide) (fun c_278 => ?_) (fun c_278 => ((ob_230 (qi_eq c_278 rfl zc_0) f24 f254)).elim)
            have f279 : r_23.toInt ≠ 0 := qi_ne c_278 rfl zc_0
            refine lv_iconst (v := 0) hx hb dX9_unit_207 (by decide) ?_
            refine lv_istore (lv' := [(6, .int 0), (5, .int 0), (4, .int r_23), (3, .int r_18), (2, .int 0), (1, .int 1), (0, .ref (r 0))]) hx hb dX9_unit_208 hl (by decide) rfl (fun ls hl => ?_)
            refine lv_aload_n hx hb dX9_unit_210 rfl (lv_at hl 6 rfl) ?_
            have hFc := frA hD hS hA
            refine va_callv (va_runV (As := []) (rest := []) ⟨hx, hb, hml, hown, hG⟩ (kX9_goOn l dC dI r ct i_taped i_size i_faultKind i_at i_end i_token i_number i_bank i_rb i_codes i_within i_piled x275 i_askHouse i_askTune i_acts i_undone i_laid i_knowns i_time f_text f_tunes f_houses f_hums f_told f_many f_ruleFrom f_ruleTo f_code f_eWhat f_eSign f_all f_kept f_was f_sTune f_boxAll J273 L H277.size hI) (cwV 0 hG (goodV gw1362 gw1364 gw59 gw138 gw1365) rfl rfl rfl hd_X9_goOn ⟨(Nat.le_of_ble_eq_true rfl), (Nat.le_of_ble_eq_true rfl)⟩) ⟨fbW, va_recv hK hP (ci := 8) (q0 := 0) rfl rfl, pW_in hP hK hD⟩ rfl rfl hl.1 rfl (lv_room (Nat.le_of_ble_eq_true rfl)) dX9_unit_211 ⟨(Nat.le_of_ble_eq_true rfl), (Nat.le_of_ble_eq_true rfl)⟩) hS (fun q _ h => hFc q h) hFc (fun _ t_ H280 locs ht hvm hw hB hz1 hk1 hS => ?_)
            obtain ⟨x282, x283, x284, x285, L286, hP1, hD1, hI290, f287, f288, f289⟩ := hB
            rw [ht] at hP1
            have hP := hP1
            have hD := dW hFc hD1
            obtain ⟨im291, im292, im293, im294, im295, im296, im297, im298, im299, im300, im301, im302, im303, im304, im305, im306, im307, im308, im309, im310, im311, im312, im313, im314, im315, im316, im317, im318, im319, im320, im321, im322, im323⟩ := id hI290
            refine lv_iload_n hx hb dX9_unit_214 rfl (lv_at hl 4 rfl) ?_
            refine lv_if_ne (tgt := 222) hx hb dX9_unit_215 (by decide) (fun c_324 => absurd (by decide) c_324) (fun c_324 => ?_)
            refine lv_iload_n hx hb dX9_unit_218 rfl (lv_at hl 3 rfl) ?_
            refine lv_if_eq (tgt := 250) hx hb dX9_unit_219 (by decide) (fun c_325 => ?_) (fun c_325 => ((ob_231 (qi_ne c_325 rfl zc_0) f20 f21 f258)).elim)
            have f326 : r_18.toInt = 0 := qi_eq c_325 rfl zc_0
            refine lv_aload_n hx hb dX9_unit_250 rfl (lv_at hl 6 rfl) ?_
            refine lv_iload hx hb dX9_unit_251 (lv_at hl 2 rfl) ?_
            refine lv_if_ne (tgt := 261) hx hb dX9_unit_253 (by decide) (fun c_327 => ?_) (fun c_327 => ((ob_230 (qi_eq c_327 rfl zc_0) f24 f254)).elim)
            have f328 : r_23.toInt ≠ 0 := qi_ne c_327 rfl zc_0
            refine lv_iload hx hb dX9_unit_261 (lv_at hl 2 rfl) ?_
            refine lv_iload hx hb dX9_unit_263 (lv_at hl 0 rfl) ?_
            have hFc := frA hD hS hA
            refine va_callv (va_runV (As := [.int r_23, .int 0]) (rest := []) ⟨hx, hb, hml, hown, hG⟩ (kX9_emit l dC dI r ct i_taped i_size i_faultKind x282 x283 x284 x285 i_bank i_rb i_codes i_within i_piled x275 i_askHouse i_askTune i_acts i_undone i_laid i_knowns i_time f_text f_tunes f_houses f_hums f_told f_many f_ruleFrom f_ruleTo f_code f_eWhat f_eSign f_all f_kept f_was f_sTune f_boxAll J273 L286 r_23 0 H280.size hI290 (ob_232 hp0) (ob_233 hp6) (ob_234 hp2 hp4 hp5 hp8)) (cwV 2 hG (goodV gw1484 gw1486 gw81 gw138 gw1487) rfl rfl rfl hd_X9_emit ⟨(Nat.le_of_ble_eq_true rfl), (Nat.le_of_ble_eq_true rfl)⟩) ⟨fbW, va_recv hK hP (ci := 8) (q0 := 0) rfl rfl, pW_in hP hK hD⟩ rfl rfl hl.1 rfl (lv_room (Nat.le_of_ble_eq_true rfl)) dX9_unit_265 ⟨(Nat.le_of_ble_eq_true rfl), (Nat.le_of_ble_eq_true rfl)⟩) hS (fun q _ h => hFc q h) hFc (fun _ t_ H329 locs ht hvm hw hB hz1 hk1 hS => ?_)
            obtain ⟨x331, z332, J333, hP1, hD1, hI336, f334, f335⟩ := hB
            rw [ht] at hP1
            have hP := hP1
            have hD := dW hFc hD1
            obtain ⟨im337, im338, im339, im340, im341, im342, im343, im344, im345, im346, im347, im348, im349, im350, im351, im352, im353, im354, im355, im356, im357, im358, im359, im360, im361, im362, im363, im364, im365, im366, im367, im368, im369⟩ := id hI336
            refine lv_iconst (v := 0) hx hb dX9_unit_268 (by decide) ?_
            rw [hQ]
            exact W.zret (v := 0) hx hb hr (by decide) (fun t ht hW => ⟨⟨0, 0, rfl, rfl, ⟨i_faultKind, x282, x283, x284, x285, x331, i_within, i_piled, x275, z332, f_eWhat, f_eSign, J333, L286, by rw [ht]; exact hP, hD, hI336, (ob_1 zc_0), (ob_11 zc_0), (fun _ => SPleaf hp11 rfl (ob_235 zc_0) f335 (ob_236 hp6 hp8 f334) (ob_237 hp5 hp7 hp8) (ob_238 hp2 hp4 hp7) (ob_239 im6) (ob_233 hp6) (ob_240 f24 f254) (ob_241 f24)), (ob_215 hp5 hp7 hp8), (ob_216 hp2 hp4 hp7), (ob_87 f287), (ob_242 im17 hp2 hp3 hp4 hp5 hp6 hp7 hp8 hp9 f24 f250 f254 f289 f334 zc_0 f276)⟩⟩, hS.F ht⟩) hS.2.2 dX9_unit_269
          · skip
            have f370 : r_23.toInt = 0 := qi_eq c_253 rfl zc_0
            have f371 : r_23.toInt = (0 : Int) := (ob_218 f370)
            refine lv_aload_n hx hb dX9_unit_109 rfl (lv_at hl 5 rfl) ?_
            refine gM_X9_191_0 hx hb hG hown hK hP dX9_unit_110 ?_
            refine lv_iconst (v := 4) hx hb dX9_unit_113 (by decide) ?_
            refine lv_icmp_eq (tgt := 121) hx hb dX9_unit_114 (by decide) (fun c_372 => ?_) (fun c_372 => ?_)
            · skip
              have f373 : i_token.toInt = 4 := qi_eq c_372 rfl zc_4
              have f374 : i_token.toInt ≠ (3 : Int) := (ob_219 f373)
              have f375 : r_11.toInt = (0 : Int) := (ob_165 f13 f14 f16)
              have f376 : i_token.toInt ≠ (5 : Int) := (ob_220 f373)
              have f377 : r_18.toInt = (0 : Int) := (ob_221 f19 f373 zc_40)
              have f378 : (4 : Int) ≤ i_token.toInt := (ob_222 f373)
              have f379 : i_token.toInt ≤ (4 : Int) := (ob_223 f373 f378)
              refine lv_iload hx hb dX9_unit_121 (lv_at hl 0 rfl) ?_
              refine lv_if_ne (tgt := 143) hx hb dX9_unit_123 (by decide) (fun c_380 => absurd (by decide) c_380) (fun c_380 => ?_)
              refine lv_iload_n hx hb dX9_unit_126 rfl (lv_at hl 3 rfl) ?_
              refine lv_if_ne (tgt := 134) hx hb dX9_unit_127 (by decide) (fun c_381 => absurd (by decide) c_381) (fun c_381 => ?_)
              refine lv_iload_n hx hb dX9_unit_130 rfl (lv_at hl 2 rfl) ?_
              refine lv_if_eq (tgt := 147) hx hb dX9_unit_131 (by decide) (fun c_382 => ?_) (fun c_382 => ((ob_243 (qi_ne c_382 rfl zc_0) f20 f21 f377)).elim)
              have f383 : r_18.toInt = 0 := qi_eq c_382 rfl zc_0
              refine lv_aload_n hx hb dX9_unit_147 rfl (lv_at hl 5 rfl) ?_
              refine va_calli (va_runV (As := []) (rest := []) ⟨hx, hb, hml, hown, hG⟩ (kX9_isGood l dC dI r ct i_taped i_size i_faultKind i_at i_end i_token i_number i_bank i_rb i_codes i_within i_piled i_unitsInRule i_askHouse i_askTune i_acts i_undone i_laid i_knowns i_time f_text f_tunes f_houses f_hums f_told f_many f_ruleFrom f_ruleTo f_code f_eWhat f_eSign f_all f_kept f_was f_sTune f_boxAll J L H22.size hI) (cwV 0 hG (goodV gw1401 gw1403 gw61 gw138 gw1404) rfl rfl rfl hd_X9_isGood ⟨(Nat.le_of_ble_eq_true rfl), (Nat.le_of_ble_eq_true rfl)⟩) ⟨fbR, va_recv hK hP (ci := 8) (q0 := 0) rfl rfl, pR_in hP hK⟩ rfl rfl hl.1 rfl (lv_room (Nat.le_of_ble_eq_true rfl)) dX9_unit_148 ⟨(Nat.le_of_ble_eq_true rfl), (Nat.le_of_ble_eq_true rfl)⟩) hS (fun q hq h => absurd hq (Nat.not_lt.mpr h)) (fun q h => hA q (Nat.le_trans hS.1 h)) (fun r_385 u_ t_ H384 locs ht hvm hw hB hz1 hk1 hS => ?_)
              subst hw
              have hP := wk hP hk1
              obtain ⟨f386, f387, f388⟩ := hB
              refine lv_if_ne (tgt := 156) hx hb dX9_unit_151 (by decide) (fun c_389 => ?_) (fun c_389 => ((ob_167 (qi_eq c_389 rfl zc_0) hp10 f386)).elim)
              have f390 : r_385.toInt ≠ 0 := qi_ne c_389 rfl zc_0
              have f391 : i_faultKind.toInt = (0 : Int) := (ob_168 im17 hp10)
              have f392 : r_385.toInt = (1 : Int) := (ob_169 f386 f390)
              have f393 : (1 : Int) ≤ r_385.toInt := (ob_170 f387 f388 f392)
              refine lv_aload_n hx hb dX9_unit_156 rfl (lv_at hl 5 rfl) ?_
              refine gM_X9_30_0 hx hb hG hown hK hP dX9_unit_157 ?_
              refine lv_aload_n hx hb dX9_unit_160 rfl (lv_at hl 5 rfl) ?_
              refine gM_X9_240_0 hx hb hG hown hK hP dX9_unit_161 ?_
              refine lv_dup2_11 hx hb dX9_unit_164 rfl rfl ?_
              refine ldM_6 (mm := i_rb.toInt) hx hb hK hP rfl (ob_212 im6) (ob_213 im7) dX9_unit_165 (fun x394 => ?_)
              refine lv_iload_n hx hb dX9_unit_166 rfl (lv_at hl 3 rfl) ?_
              refine lv_if_eq (tgt := 174) hx hb dX9_unit_167 (by decide) (fun c_395 => ?_) (fun c_395 => absurd (by decide) c_395)
              refine lv_iconst (v := 1) hx hb dX9_unit_174 (by decide) ?_
              refine lv_iadd hx hb dX9_unit_175 ?_
              refine lv_topi (fun x396 ex396 => ?_)
              refine stM_6 (mm := i_rb.toInt) hx hb hK hP hD hS rfl (ob_212 im6) (ob_213 im7) dX9_unit_176 (fun J398 H397 locs hP hD hS => ?_)
              refine lv_aload_n hx hb dX9_unit_177 rfl (lv_at hl 5 rfl) ?_
              refine lv_dup hx hb dX9_unit_178 rfl ?_
              refine gM_X9_290_0 hx hb hG hown hK hP dX9_unit_179 ?_
              refine lv_iload_n hx hb dX9_unit_182 rfl (lv_at hl 3 rfl) ?_
              refine lv_if_eq (tgt := 190) hx hb dX9_unit_183 (by decide) (fun c_399 => ?_) (fun c_399 => absurd (by decide) c_399)
              refine lv_iconst (v := 1) hx hb dX9_unit_190 (by decide) ?_
              refine lv_iadd hx hb dX9_unit_191 ?_
              refine lv_topi (fun x400 ex400 => ?_)
              have f401 : x400.toInt = i_unitsInRule.toInt + 1 := (ob_84 (qi_add ex400 rfl zc_1 (ob_82 hp1) (ob_229 hp2)))
              refine pM_X9_290_0 hx hb hG hown hK hP hD hS dX9_unit_192 (fun H402 locs hP hD hS => ?_)
              refine lv_iload hx hb dX9_unit_195 (lv_at hl 1 rfl) ?_
              refine lv_if_ne (tgt := 207) hx hb dX9_unit_197 (by decide) (fun c_403 => ((ob_244 (qi_ne c_403 rfl zc_0) f370 f371)).elim) (fun c_403 => ?_)
              have f404 : r_23.toInt = 0 := qi_eq c_403 rfl zc_0
              refine lv_aload_n hx hb dX9_unit_200 rfl (lv_at hl 5 rfl) ?_
              refine gM_X9_209_0 hx hb hG hown hK hP dX9_unit_201 ?_
              refine lv_goto (tgt := 208) hx hb dX9_unit_204 (by decide) ?_
              refine lv_istore (lv' := [(6, .int i_number), (5, .int 0), (4, .int r_23), (3, .int r_18), (2, .int 0), (1, .int 1), (0, .ref (r 0))]) hx hb dX9_unit_208 hl (by decide) rfl (fun ls hl => ?_)
              refine lv_aload_n hx hb dX9_unit_210 rfl (lv_at hl 6 rfl) ?_
              have hFc := frA hD hS hA
              refine va_callv (va_runV (As := []) (rest := []) ⟨hx, hb, hml, hown, hG⟩ (kX9_goOn l dC dI r ct i_taped i_size i_faultKind i_at i_end i_token i_number i_bank i_rb i_codes i_within i_piled x400 i_askHouse i_askTune i_acts i_undone i_laid i_knowns i_time f_text f_tunes f_houses f_hums f_told f_many f_ruleFrom f_ruleTo f_code f_eWhat f_eSign f_all f_kept f_was f_sTune f_boxAll J398 L H402.size hI) (cwV 0 hG (goodV gw1362 gw1364 gw59 gw138 gw1365) rfl rfl rfl hd_X9_goOn ⟨(Nat.le_of_ble_eq_true rfl), (Nat.le_of_ble_eq_true rfl)⟩) ⟨fbW, va_recv hK hP (ci := 8) (q0 := 0) rfl rfl, pW_in hP hK hD⟩ rfl rfl hl.1 rfl (lv_room (Nat.le_of_ble_eq_true rfl)) dX9_unit_211 ⟨(Nat.le_of_ble_eq_true rfl), (Nat.le_of_ble_eq_true rfl)⟩) hS (fun q _ h => hFc q h) hFc (fun _ t_ H405 locs ht hvm hw hB hz1 hk1 hS => ?_)
              obtain ⟨x407, x408, x409, x410, L411, hP1, hD1, hI415, f412, f413, f414⟩ := hB
              rw [ht] at hP1
              have hP := hP1
              have hD := dW hFc hD1
              obtain ⟨im416, im417, im418, im419, im420, im421, im422, im423, im424, im425, im426, im427, im428, im429, im430, im431, im432, im433, im434, im435, im436, im437, im438, im439, im440, im441, im442, im443, im444, im445, im446, im447, im448⟩ := id hI415
              refine lv_iload_n hx hb dX9_unit_214 rfl (lv_at hl 4 rfl) ?_
              refine lv_if_ne (tgt := 222) hx hb dX9_unit_215 (by decide) (fun c_449 => absurd (by decide) c_449) (fun c_449 => ?_)
              refine lv_iload_n hx hb dX9_unit_218 rfl (lv_at hl 3 rfl) ?_
              refine lv_if_eq (tgt := 250) hx hb dX9_unit_219 (by decide) (fun c_450 => ?_) (fun c_450 => ((ob_245 (qi_ne c_450 rfl zc_0) f377)).elim)
              have f451 : r_18.toInt = 0 := qi_eq c_450 rfl zc_0
              refine lv_aload_n hx hb dX9_unit_250 rfl (lv_at hl 6 rfl) ?_
              refine lv_iload hx hb dX9_unit_251 (lv_at hl 2 rfl) ?_
              refine lv_if_ne (tgt := 261) hx hb dX9_unit_253 (by decide) (fun c_452 => ((ob_244 (qi_ne c_452 rfl zc_0) f370 f371)).elim) (fun c_452 => ?_)
              have f453 : r_23.toInt = 0 := qi_eq c_452 rfl zc_0
              refine lv_bipush (v := 110) hx hb dX9_unit_256 (by decide) ?_
              refine lv_goto (tgt := 263) hx hb dX9_unit_258 (by decide) ?_
              refine lv_iload hx hb dX9_unit_263 (lv_at hl 0 rfl) ?_
              have hFc := frA hD hS hA
              refine va_callv (va_runV (As := [.int 110, .int i_number]) (rest := []) ⟨hx, hb, hml, hown, hG⟩ (kX9_emit l dC dI r ct i_taped i_size i_faultKind x407 x408 x409 x410 i_bank i_rb i_codes i_within i_piled x400 i_askHouse i_askTune i_acts i_undone i_laid i_knowns i_time f_text f_tunes f_houses f_hums f_told f_many f_ruleFrom f_ruleTo f_code f_eWhat f_eSign f_all f_kept f_was f_sTune f_boxAll J398 L411 110 i_number H405.size hI415 (ob_232 hp0) (ob_233 hp6) (ob_234 hp2 hp4 hp5 hp8)) (cwV 2 hG (goodV gw1484 gw1486 gw81 gw138 gw1487) rfl rfl rfl hd_X9_emit ⟨(Nat.le_of_ble_eq_true rfl), (Nat.le_of_ble_eq_true rfl)⟩) ⟨fbW, va_recv hK hP (ci := 8) (q0 := 0) rfl rfl, pW_in hP hK hD⟩ rfl rfl hl.1 rfl (lv_room (Nat.le_of_ble_eq_true rfl)) dX9_unit_265 ⟨(Nat.le_of_ble_eq_true rfl), (Nat.le_of_ble_eq_true rfl)⟩) hS (fun q _ h => hFc q h) hFc (fun _ t_ H454 locs ht hvm hw hB hz1 hk1 hS => ?_)
              obtain ⟨x456, z457, J458, hP1, hD1, hI461, f459, f460⟩ := hB
              rw [ht] at hP1
              have hP := hP1
              have hD := dW hFc hD1
              obtain ⟨im462, im463, im464, im465, im466, im467, im468, im469, im470, im471, im472, im473, im474, im475, im476, im477, im478, im479, im480, im481, im482, im483, im484, im485, im486, im487, im488, im489, im490, im491, im492, im493, im494⟩ := id hI461
              refine lv_iconst (v := 0) hx hb dX9_unit_268 (by decide) ?_
              rw [hQ]
              exact W.zret (v := 0) hx hb hr (by decide) (fun t ht hW => ⟨⟨0, 0, rfl, rfl, ⟨i_faultKind, x407, x408, x409, x410, x456, i_within, i_piled, x400, z457, f_eWhat, f_eSign, J458, L411, by rw [ht]; exact hP, hD, hI461, (ob_1 zc_0), (ob_11 zc_0), (fun _ => SPleaf hp11 rfl (ob_235 zc_0) f460 (ob_236 hp6 hp8 f459) (ob_237 hp5 hp7 hp8) (ob_238 hp2 hp4 hp7) (ob_239 im6) (ob_233 hp6) (ob_246 zc_110) (ob_247 zc_110)), (ob_215 hp5 hp7 hp8), (ob_216 hp2 hp4 hp7), (ob_87 f412), (ob_248 im17 hp2 hp3 hp4 hp5 hp6 hp7 hp8 hp9 f250 f373 f414 f459 zc_0 f401)⟩⟩, hS.F ht⟩) hS.2.2 dX9_unit_269
            · skip
              have f495 : i_token.toInt ≠ 4 := qi_ne c_372 rfl zc_4
              refine lv_iload_n hx hb dX9_unit_117 rfl (lv_at hl 2 rfl) ?_
              refine lv_if_eq (tgt := 143) hx hb dX9_unit_118 (by decide) (fun c_496 => ?_) (fun c_496 => ?_)
              · skip
                have f497 : r_18.toInt = 0 := qi_eq c_496 rfl zc_0
                refine lv_aload_n hx hb dX9_unit_143 rfl (lv_at hl 5 rfl) ?_
                have hFc := frA hD hS hA
                refine va_callv (va_runV (As := []) (rest := []) ⟨hx, hb, hml, hown, hG⟩ (kX9_misplaced l dC dI r ct i_taped i_size i_faultKind i_at i_end i_token i_number i_bank i_rb i_codes i_within i_piled i_unitsInRule i_askHouse i_askTune i_acts i_undone i_laid i_knowns i_time f_text f_tunes f_houses f_hums f_told f_many f_ruleFrom f_ruleTo f_code f_eWhat f_eSign f_all f_kept f_was f_sTune f_boxAll J L H22.size hI) (cwV 0 hG (goodV gw1420 gw1422 gw65 gw138 gw1423) rfl rfl rfl hd_X9_misplaced ⟨(Nat.le_of_ble_eq_true rfl), (Nat.le_of_ble_eq_true rfl)⟩) ⟨fbW, va_recv hK hP (ci := 8) (q0 := 0) rfl rfl, pW_in hP hK hD⟩ rfl rfl hl.1 rfl (lv_room (Nat.le_of_ble_eq_true rfl)) dX9_unit_144 ⟨(Nat.le_of_ble_eq_true rfl), (Nat.le_of_ble_eq_true rfl)⟩) hS (fun q _ h => hFc q h) hFc (fun _ t_ H498 locs ht hvm hw hB hz1 hk1 hS => ?_)
                obtain ⟨x500, J501, hP1, hD1, hI503, f502⟩ := hB
                rw [ht] at hP1
                have hP := hP1
                have hD := dW hFc hD1
                obtain ⟨im504, im505, im506, im507, im508, im509, im510, im511, im512, im513, im514, im515, im516, im517, im518, im519, im520, im521, im522, im523, im524, im525, im526, im527, im528, im529, im530, im531, im532, im533, im534, im535, im536⟩ := id hI503
                refine lv_aload_n hx hb dX9_unit_147 rfl (lv_at hl 5 rfl) ?_
                refine va_calli (va_runV (As := []) (rest := []) ⟨hx, hb, hml, hown, hG⟩ (kX9_isGood l dC dI r ct i_taped i_size x500 i_at i_end i_token i_number i_bank i_rb i_codes i_within i_piled i_unitsInRule i_askHouse i_askTune i_acts i_undone i_laid i_knowns i_time f_text f_tunes f_houses f_hums f_told f_many f_ruleFrom f_ruleTo f_code f_eWhat f_eSign f_all f_kept f_was f_sTune f_boxAll J501 L H498.size hI503) (cwV 0 hG (goodV gw1401 gw1403 gw61 gw138 gw1404) rfl rfl rfl hd_X9_isGood ⟨(Nat.le_of_ble_eq_true rfl), (Nat.le_of_ble_eq_true rfl)⟩) ⟨fbR, va_recv hK hP (ci := 8) (q0 := 0) rfl rfl, pR_in hP hK⟩ rfl rfl hl.1 rfl (lv_room (Nat.le_of_ble_eq_true rfl)) dX9_unit_148 ⟨(Nat.le_of_ble_eq_true rfl), (Nat.le_of_ble_eq_true rfl)⟩) hS (fun q hq h => absurd hq (Nat.not_lt.mpr h)) (fun q h => hA q (Nat.le_trans hS.1 h)) (fun r_538 u_ t_ H537 locs ht hvm hw hB hz1 hk1 hS => ?_)
                subst hw
                have hP := wk hP hk1
                obtain ⟨f539, f540, f541⟩ := hB
                refine lv_if_ne (tgt := 156) hx hb dX9_unit_151 (by decide) (fun c_542 => ((ob_172 (qi_ne c_542 rfl zc_0) f502 f539)).elim) (fun c_542 => ?_)
                have f543 : r_538.toInt = 0 := qi_eq c_542 rfl zc_0
                have f544 : x500.toInt ≠ (0 : Int) := (ob_173 im521 f502)
                have f545 : (1 : Int) ≤ x500.toInt := (ob_156 im521 f502)
                have f546 : r_538.toInt = (0 : Int) := (ob_165 f540 f541 f543)
                refine lv_iconst (v := 1) hx hb dX9_unit_154 (by decide) ?_
                rw [hQ]
                exact W.zret (v := 1) hx hb hr (by decide) (fun t ht hW => ⟨⟨1, 1, rfl, rfl, ⟨x500, i_at, i_end, i_token, i_number, i_codes, i_within, i_piled, i_unitsInRule, f_code, f_eWhat, f_eSign, J501, L, by rw [ht]; exact hP, hD, hI503, (ob_14 zc_1), (ob_15 zc_1), (fun h => ((ob_214 h im521 f502)).elim), (ob_215 hp5 hp7 hp8), (ob_216 hp2 hp4 hp7), (ob_88), (ob_217 f502 zc_1)⟩⟩, hS.F ht⟩) hS.2.2 dX9_unit_155
              · skip
                have f547 : r_18.toInt ≠ 0 := qi_ne c_496 rfl zc_0
                have f548 : (1 : Int) ≤ r_18.toInt := (ob_224 f19 f547 zc_40)
                have f549 : i_token.toInt = (5 : Int) := (ob_225 f19 f547 zc_40)
                have f550 : (sgz f_text i_size.toInt i_at.toInt) = (40 : Int) := (ob_226 f19 f547 zc_40)
                have f551 : r_18.toInt = (1 : Int) := (ob_104 f20 f21 f548)
                refine lv_iload hx hb dX9_unit_121 (lv_at hl 0 rfl) ?_
                refine lv_if_ne (tgt := 143) hx hb dX9_unit_123 (by decide) (fun c_552 => absurd (by decide) c_552) (fun c_552 => ?_)
                refine lv_iload_n hx hb dX9_unit_126 rfl (lv_at hl 3 rfl) ?_
                refine lv_if_ne (tgt := 134) hx hb dX9_unit_127 (by decide) (fun c_553 => absurd (by decide) c_553) (fun c_553 => ?_)
                refine lv_iload_n hx hb dX9_unit_130 rfl (lv_at hl 2 rfl) ?_
                refine lv_if_eq (tgt := 147) hx hb dX9_unit_131 (by decide) (fun c_554 => ((ob_249 (qi_eq c_554 rfl zc_0) f548)).elim) (fun c_554 => ?_)
                have f555 : r_18.toInt ≠ 0 := qi_ne c_554 rfl zc_0
                have f556 : (1 : Int) ≤ r_18.toInt := (ob_19 f548)
                refine lv_aload_n hx hb dX9_unit_134 rfl (lv_at hl 5 rfl) ?_
                refine gM_X9_299_0 hx hb hG hown hK hP dX9_unit_135 ?_
                refine lv_bipush (v := 7) hx hb dX9_unit_138 (by decide) ?_
                refine lv_icmp_ne (tgt := 147) hx hb dX9_unit_140 (by decide) (fun c_557 => ?_) (fun c_557 => ?_)
                · skip
                  have f558 : i_within.toInt ≠ 7 := qi_ne c_557 rfl zc_7
                  have f559 : i_within.toInt ≤ (6 : Int) := (ob_250 hp4 f558)
                  refine lv_aload_n hx hb dX9_unit_147 rfl (lv_at hl 5 rfl) ?_
                  refine va_calli (va_runV (As := []) (rest := []) ⟨hx, hb, hml, hown, hG⟩ (kX9_isGood l dC dI r ct i_taped i_size i_faultKind i_at i_end i_token i_number i_bank i_rb i_codes i_within i_piled i_unitsInRule i_askHouse i_askTune i_acts i_undone i_laid i_knowns i_time f_text f_tunes f_houses f_hums f_told f_many f_ruleFrom f_ruleTo f_code f_eWhat f_eSign f_all f_kept f_was f_sTune f_boxAll J L H22.size hI) (cwV 0 hG (goodV gw1401 gw1403 gw61 gw138 gw1404) rfl rfl rfl hd_X9_isGood ⟨(Nat.le_of_ble_eq_true rfl), (Nat.le_of_ble_eq_true rfl)⟩) ⟨fbR, va_recv hK hP (ci := 8) (q0 := 0) rfl rfl, pR_in hP hK⟩ rfl rfl hl.1 rfl (lv_room (Nat.le_of_ble_eq_true rfl)) dX9_unit_148 ⟨(Nat.le_of_ble_eq_true rfl), (Nat.le_of_ble_eq_true rfl)⟩) hS (fun q hq h => absurd hq (Nat.not_lt.mpr h)) (fun q h => hA q (Nat.le_trans hS.1 h)) (fun r_561 u_ t_ H560 locs ht hvm hw hB hz1 hk1 hS => ?_)
                  subst hw
                  have hP := wk hP hk1
                  obtain ⟨f562, f563, f564⟩ := hB
                  refine lv_if_ne (tgt := 156) hx hb dX9_unit_151 (by decide) (fun c_565 => ?_) (fun c_565 => ((ob_167 (qi_eq c_565 rfl zc_0) hp10 f562)).elim)
                  have f566 : r_561.toInt ≠ 0 := qi_ne c_565 rfl zc_0
                  have f567 : i_faultKind.toInt = (0 : Int) := (ob_168 im17 hp10)
                  have f568 : r_561.toInt = (1 : Int) := (ob_169 f562 f566)
                  have f569 : (1 : Int) ≤ r_561.toInt := (ob_170 f563 f564 f568)
                  refine lv_aload_n hx hb dX9_unit_156 rfl (lv_at hl 5 rfl) ?_
                  refine gM_X9_30_0 hx hb hG hown hK hP dX9_unit_157 ?_
                  refine lv_aload_n hx hb dX9_unit_160 rfl (lv_at hl 5 rfl) ?_
                  refine gM_X9_240_0 hx hb hG hown hK hP dX9_unit_161 ?_
                  refine lv_dup2_11 hx hb dX9_unit_164 rfl rfl ?_
                  refine ldM_6 (mm := i_rb.toInt) hx hb hK hP rfl (ob_212 im6) (ob_213 im7) dX9_unit_165 (fun x570 => ?_)
                  refine lv_iload_n hx hb dX9_unit_166 rfl (lv_at hl 3 rfl) ?_
                  refine lv_if_eq (tgt := 174) hx hb dX9_unit_167 (by decide) (fun c_571 => ?_) (fun c_571 => absurd (by decide) c_571)
                  refine lv_iconst (v := 1) hx hb dX9_unit_174 (by decide) ?_
                  refine lv_iadd hx hb dX9_unit_175 ?_
                  refine lv_topi (fun x572 ex572 => ?_)
                  refine stM_6 (mm := i_rb.toInt) hx hb hK hP hD hS rfl (ob_212 im6) (ob_213 im7) dX9_unit_176 (fun J574 H573 locs hP hD hS => ?_)
                  refine lv_aload_n hx hb dX9_unit_177 rfl (lv_at hl 5 rfl) ?_
                  refine lv_dup hx hb dX9_unit_178 rfl ?_
                  refine gM_X9_290_0 hx hb hG hown hK hP dX9_unit_179 ?_
                  refine lv_iload_n hx hb dX9_unit_182 rfl (lv_at hl 3 rfl) ?_
                  refine lv_if_eq (tgt := 190) hx hb dX9_unit_183 (by decide) (fun c_575 => ?_) (fun c_575 => absurd (by decide) c_575)
                  refine lv_iconst (v := 1) hx hb dX9_unit_190 (by decide) ?_
                  refine lv_iadd hx hb dX9_unit_191 ?_
                  refine lv_topi (fun x576 ex576 => ?_)
                  have f577 : x576.toInt = i_unitsInRule.toInt + 1 := (ob_84 (qi_add ex576 rfl zc_1 (ob_82 hp1) (ob_229 hp2)))
                  refine pM_X9_290_0 hx hb hG hown hK hP hD hS dX9_unit_192 (fun H578 locs hP hD hS => ?_)
                  refine lv_iload hx hb dX9_unit_195 (lv_at hl 1 rfl) ?_
                  refine lv_if_ne (tgt := 207) hx hb dX9_unit_197 (by decide) (fun c_579 => ((ob_244 (qi_ne c_579 rfl zc_0) f370 f371)).elim) (fun c_579 => ?_)
                  have f580 : r_23.toInt = 0 := qi_eq c_579 rfl zc_0
                  refine lv_aload_n hx hb dX9_unit_200 rfl (lv_at hl 5 rfl) ?_
                  refine gM_X9_209_0 hx hb hG hown hK hP dX9_unit_201 ?_
                  refine lv_goto (tgt := 208) hx hb dX9_unit_204 (by decide) ?_
                  refine lv_istore (lv' := [(6, .int i_number), (5, .int 0), (4, .int r_23), (3, .int r_18), (2, .int 0), (1, .int 1), (0, .ref (r 0))]) hx hb dX9_unit_208 hl (by decide) rfl (fun ls hl => ?_)
                  refine lv_aload_n hx hb dX9_unit_210 rfl (lv_at hl 6 rfl) ?_
                  have hFc := frA hD hS hA
                  refine va_callv (va_runV (As := []) (rest := []) ⟨hx, hb, hml, hown, hG⟩ (kX9_goOn l dC dI r ct i_taped i_size i_faultKind i_at i_end i_token i_number i_bank i_rb i_codes i_within i_piled x576 i_askHouse i_askTune i_acts i_undone i_laid i_knowns i_time f_text f_tunes f_houses f_hums f_told f_many f_ruleFrom f_ruleTo f_code f_eWhat f_eSign f_all f_kept f_was f_sTune f_boxAll J574 L H578.size hI) (cwV 0 hG (goodV gw1362 gw1364 gw59 gw138 gw1365) rfl rfl rfl hd_X9_goOn ⟨(Nat.le_of_ble_eq_true rfl), (Nat.le_of_ble_eq_true rfl)⟩) ⟨fbW, va_recv hK hP (ci := 8) (q0 := 0) rfl rfl, pW_in hP hK hD⟩ rfl rfl hl.1 rfl (lv_room (Nat.le_of_ble_eq_true rfl)) dX9_unit_211 ⟨(Nat.le_of_ble_eq_true rfl), (Nat.le_of_ble_eq_true rfl)⟩) hS (fun q _ h => hFc q h) hFc (fun _ t_ H581 locs ht hvm hw hB hz1 hk1 hS => ?_)
                  obtain ⟨x583, x584, x585, x586, L587, hP1, hD1, hI591, f588, f589, f590⟩ := hB
                  rw [ht] at hP1
                  have hP := hP1
                  have hD := dW hFc hD1
                  obtain ⟨im592, im593, im594, im595, im596, im597, im598, im599, im600, im601, im602, im603, im604, im605, im606, im607, im608, im609, im610, im611, im612, im613, im614, im615, im616, im617, im618, im619, im620, im621, im622, im623, im624⟩ := id hI591
                  refine lv_iload_n hx hb dX9_unit_214 rfl (lv_at hl 4 rfl) ?_
                  refine lv_if_ne (tgt := 222) hx hb dX9_unit_215 (by decide) (fun c_625 => absurd (by decide) c_625) (fun c_625 => ?_)
                  refine lv_iload_n hx hb dX9_unit_218 rfl (lv_at hl 3 rfl) ?_
                  refine lv_if_eq (tgt := 250) hx hb dX9_unit_219 (by decide) (fun c_626 => ((ob_249 (qi_eq c_626 rfl zc_0) f548)).elim) (fun c_626 => ?_)
                  have f627 : r_18.toInt ≠ 0 := qi_ne c_626 rfl zc_0
                  have f628 : (1 : Int) ≤ r_18.toInt := (ob_19 f548)
                  refine lv_aload_n hx hb dX9_unit_222 rfl (lv_at hl 6 rfl) ?_
                  refine lv_iload_n hx hb dX9_unit_223 rfl (lv_at hl 4 rfl) ?_
                  refine lv_if_eq (tgt := 231) hx hb dX9_unit_224 (by decide) (fun c_629 => ?_) (fun c_629 => absurd (by decide) c_629)
                  refine lv_bipush (v := 7) hx hb dX9_unit_231 (by decide) ?_
                  refine lv_bipush (v := 126) hx hb dX9_unit_233 (by decide) ?_
                  have hFc := frA hD hS hA
                  refine va_callv (va_runV (As := [.int 7, .int 126]) (rest := []) ⟨hx, hb, hml, hown, hG⟩ (kX9_pushE l dC dI r ct i_taped i_size i_faultKind x583 x584 x585 x586 i_bank i_rb i_codes i_within i_piled x576 i_askHouse i_askTune i_acts i_undone i_laid i_knowns i_time f_text f_tunes f_houses f_hums f_told f_many f_ruleFrom f_ruleTo f_code f_eWhat f_eSign f_all f_kept f_was f_sTune f_boxAll J574 L587 7 126 H581.size hI591 (ob_215 hp5 hp7 hp8) (ob_251 hp2 hp4 hp7)) (cwV 2 hG (goodV gw1468 gw1470 gw77 gw138 gw1471) rfl rfl rfl hd_X9_pushE ⟨(Nat.le_of_ble_eq_true rfl), (Nat.le_of_ble_eq_true rfl)⟩) ⟨fbW, va_recv hK hP (ci := 8) (q0 := 0) rfl rfl, pW_in hP hK hD⟩ rfl rfl hl.1 rfl (lv_room (Nat.le_of_ble_eq_true rfl)) dX9_unit_235 ⟨(Nat.le_of_ble_eq_true rfl), (Nat.le_of_ble_eq_true rfl)⟩) hS (fun q _ h => hFc q h) hFc (fun _ t_ H630 locs ht hvm hw hB hz1 hk1 hS => ?_)
                  obtain ⟨x632, z633, z634, hP1, hD1, hI638, f635, f636, f637⟩ := hB
                  rw [ht] at hP1
                  have hP := hP1
                  have hD := dW hFc hD1
                  obtain ⟨im639, im640, im641, im642, im643, im644, im645, im646, im647, im648, im649, im650, im651, im652, im653, im654, im655, im656, im657, im658, im659, im660, im661, im662, im663, im664, im665, im666, im667, im668, im669, im670, im671⟩ := id hI638
                  have f672 : (z633 ((0 : Int)).toNat).toInt = (f_eWhat ((0 : Int)).toNat).toInt := (by rw [f636, upd_off (ne0 (ob_252 hp5))])
                  refine lv_aload_n hx hb dX9_unit_238 rfl (lv_at hl 6 rfl) ?_
                  refine lv_dup hx hb dX9_unit_239 rfl ?_
                  refine gM_X9_299_0 hx hb hG hown hK hP dX9_unit_240 ?_
                  refine lv_iconst (v := 1) hx hb dX9_unit_243 (by decide) ?_
                  refine lv_iadd hx hb dX9_unit_244 ?_
                  refine lv_topi (fun x673 ex673 => ?_)
                  have f674 : x673.toInt = i_within.toInt + 1 := (ob_84 (qi_add ex673 rfl zc_1 (ob_82 hp3) (ob_253 hp4)))
                  refine pM_X9_299_0 hx hb hG hown hK hP hD hS dX9_unit_245 (fun H675 locs hP hD hS => ?_)
                  refine lv_iconst (v := 1) hx hb dX9_unit_248 (by decide) ?_
                  rw [hQ]
                  exact W.zret (v := 1) hx hb hr (by decide) (fun t ht hW => ⟨⟨1, 1, rfl, rfl, ⟨i_faultKind, x583, x584, x585, x586, i_codes, x673, x632, x576, f_code, z633, z634, J574, L587, by rw [ht]; exact hP, hD, hI638, (ob_14 zc_1), (ob_15 zc_1), (fun _ => SPpush hp11 f636 f637 (ob_252 hp5) (ob_84 f635) (Or.inl (ob_254 zc_1 f674 zc_126 zc_7))), (ob_141 hp5 f635), (ob_255 hp2 hp4 hp7 f635), (ob_87 f588), (ob_256 im2 im3 im4 im17 hp2 hp3 hp4 hp5 hp6 hp7 hp8 hp9 f19 f250 f547 f558 f590 f635 f672 zc_40 zc_1 f674 f577)⟩⟩, hS.F ht⟩) hS.2.2 dX9_unit_249
                · skip
                  have f676 : i_within.toInt = 7 := qi_eq c_557 rfl zc_7
                  refine lv_aload_n hx hb dX9_unit_143 rfl (lv_at hl 5 rfl) ?_
                  have hFc := frA hD hS hA
                  refine va_callv (va_runV (As := []) (rest := []) ⟨hx, hb, hml, hown, hG⟩ (kX9_misplaced l dC dI r ct i_taped i_size i_faultKind i_at i_end i_token i_number i_bank i_rb i_codes i_within i_piled i_unitsInRule i_askHouse i_askTune i_acts i_undone i_laid i_knowns i_time f_text f_tunes f_houses f_hums f_told f_many f_ruleFrom f_ruleTo f_code f_eWhat f_eSign f_all f_kept f_was f_sTune f_boxAll J L H22.size hI) (cwV 0 hG (goodV gw1420 gw1422 gw65 gw138 gw1423) rfl rfl rfl hd_X9_misplaced ⟨(Nat.le_of_ble_eq_true rfl), (Nat.le_of_ble_eq_true rfl)⟩) ⟨fbW, va_recv hK hP (ci := 8) (q0 := 0) rfl rfl, pW_in hP hK hD⟩ rfl rfl hl.1 rfl (lv_room (Nat.le_of_ble_eq_true rfl)) dX9_unit_144 ⟨(Nat.le_of_ble_eq_true rfl), (Nat.le_of_ble_eq_true rfl)⟩) hS (fun q _ h => hFc q h) hFc (fun _ t_ H677 locs ht hvm hw hB hz1 hk1 hS => ?_)
                  obtain ⟨x679, J680, hP1, hD1, hI682, f681⟩ := hB
                  rw [ht] at hP1
                  have hP := hP1
                  have hD := dW hFc hD1
                  obtain ⟨im683, im684, im685, im686, im687, im688, im689, im690, im691, im692, im693, im694, im695, im696, im697, im698, im699, im700, im701, im702, im703, im704, im705, im706, im707, im708, im709, im710, im711, im712, im713, im714, im715⟩ := id hI682
                  refine lv_aload_n hx hb dX9_unit_147 rfl (lv_at hl 5 rfl) ?_
                  refine va_calli (va_runV (As := []) (rest := []) ⟨hx, hb, hml, hown, hG⟩ (kX9_isGood l dC dI r ct i_taped i_size x679 i_at i_end i_token i_number i_bank i_rb i_codes i_within i_piled i_unitsInRule i_askHouse i_askTune i_acts i_undone i_laid i_knowns i_time f_text f_tunes f_houses f_hums f_told f_many f_ruleFrom f_ruleTo f_code f_eWhat f_eSign f_all f_kept f_was f_sTune f_boxAll J680 L H677.size hI682) (cwV 0 hG (goodV gw1401 gw1403 gw61 gw138 gw1404) rfl rfl rfl hd_X9_isGood ⟨(Nat.le_of_ble_eq_true rfl), (Nat.le_of_ble_eq_true rfl)⟩) ⟨fbR, va_recv hK hP (ci := 8) (q0 := 0) rfl rfl, pR_in hP hK⟩ rfl rfl hl.1 rfl (lv_room (Nat.le_of_ble_eq_true rfl)) dX9_unit_148 ⟨(Nat.le_of_ble_eq_true rfl), (Nat.le_of_ble_eq_true rfl)⟩) hS (fun q hq h => absurd hq (Nat.not_lt.mpr h)) (fun q h => hA q (Nat.le_trans hS.1 h)) (fun r_717 u_ t_ H716 locs ht hvm hw hB hz1 hk1 hS => ?_)
                  subst hw
                  have hP := wk hP hk1
                  obtain ⟨f718, f719, f720⟩ := hB
                  refine lv_if_ne (tgt := 156) hx hb dX9_unit_151 (by decide) (fun c_721 => ((ob_172 (qi_ne c_721 rfl zc_0) f681 f718)).elim) (fun c_721 => ?_)
                  have f722 : r_717.toInt = 0 := qi_eq c_721 rfl zc_0
                  have f723 : x679.toInt ≠ (0 : Int) := (ob_173 im700 f681)
                  have f724 : (1 : Int) ≤ x679.toInt := (ob_156 im700 f681)
                  have f725 : r_717.toInt = (0 : Int) := (ob_165 f719 f720 f722)
                  refine lv_iconst (v := 1) hx hb dX9_unit_154 (by decide) ?_
                  rw [hQ]
                  exact W.zret (v := 1) hx hb hr (by decide) (fun t ht hW => ⟨⟨1, 1, rfl, rfl, ⟨x679, i_at, i_end, i_token, i_number, i_codes, i_within, i_piled, i_unitsInRule, f_code, f_eWhat, f_eSign, J680, L, by rw [ht]; exact hP, hD, hI682, (ob_14 zc_1), (ob_15 zc_1), (fun h => ((ob_214 h im700 f681)).elim), (ob_215 hp5 hp7 hp8), (ob_216 hp2 hp4 hp7), (ob_88), (ob_217 f681 zc_1)⟩⟩, hS.F ht⟩) hS.2.2 dX9_unit_155
        · skip
          have f726 : i_unitsInRule.toInt = 30 := qi_eq c_249 rfl zc_30
          refine lv_iconst (v := 1) hx hb dX9_unit_93 (by decide) ?_
          refine lv_goto (tgt := 98) hx hb dX9_unit_94 (by decide) ?_
          refine lv_istore (lv' := [(5, .int 1), (4, .int r_23), (3, .int r_18), (2, .int 0), (1, .int 1), (0, .ref (r 0))]) hx hb dX9_unit_98 hl (by decide) rfl (fun ls hl => ?_)
          refine lv_iload_n hx hb dX9_unit_100 rfl (lv_at hl 3 rfl) ?_
          refine lv_if_ne (tgt := 126) hx hb dX9_unit_101 (by decide) (fun c_727 => absurd (by decide) c_727) (fun c_727 => ?_)
          refine lv_iload hx hb dX9_unit_104 (lv_at hl 1 rfl) ?_
          refine lv_if_ne (tgt := 121) hx hb dX9_unit_106 (by decide) (fun c_728 => ?_) (fun c_728 => ?_)
          · skip
            have f729 : r_23.toInt ≠ 0 := qi_ne c_728 rfl zc_0
            refine lv_iload hx hb dX9_unit_121 (lv_at hl 0 rfl) ?_
            refine lv_if_ne (tgt := 143) hx hb dX9_unit_123 (by decide) (fun c_730 => ?_) (fun c_730 => absurd c_730 (by decide))
            refine lv_aload_n hx hb dX9_unit_143 rfl (lv_at hl 5 rfl) ?_
            have hFc := frA hD hS hA
            refine va_callv (va_runV (As := []) (rest := []) ⟨hx, hb, hml, hown, hG⟩ (kX9_misplaced l dC dI r ct i_taped i_size i_faultKind i_at i_end i_token i_number i_bank i_rb i_codes i_within i_piled i_unitsInRule i_askHouse i_askTune i_acts i_undone i_laid i_knowns i_time f_text f_tunes f_houses f_hums f_told f_many f_ruleFrom f_ruleTo f_code f_eWhat f_eSign f_all f_kept f_was f_sTune f_boxAll J L H22.size hI) (cwV 0 hG (goodV gw1420 gw1422 gw65 gw138 gw1423) rfl rfl rfl hd_X9_misplaced ⟨(Nat.le_of_ble_eq_true rfl), (Nat.le_of_ble_eq_true rfl)⟩) ⟨fbW, va_recv hK hP (ci := 8) (q0 := 0) rfl rfl, pW_in hP hK hD⟩ rfl rfl hl.1 rfl (lv_room (Nat.le_of_ble_eq_true rfl)) dX9_unit_144 ⟨(Nat.le_of_ble_eq_true rfl), (Nat.le_of_ble_eq_true rfl)⟩) hS (fun q _ h => hFc q h) hFc (fun _ t_ H731 locs ht hvm hw hB hz1 hk1 hS => ?_)
            obtain ⟨x733, J734, hP1, hD1, hI736, f735⟩ := hB
            rw [ht] at hP1
            have hP := hP1
            have hD := dW hFc hD1
            obtain ⟨im737, im738, im739, im740, im741, im742, im743, im744, im745, im746, im747, im748, im749, im750, im751, im752, im753, im754, im755, im756, im757, im758, im759, im760, im761, im762, im763, im764, im765, im766, im767, im768, im769⟩ := id hI736
            refine lv_aload_n hx hb dX9_unit_147 rfl (lv_at hl 5 rfl) ?_
            refine va_calli (va_runV (As := []) (rest := []) ⟨hx, hb, hml, hown, hG⟩ (kX9_isGood l dC dI r ct i_taped i_size x733 i_at i_end i_token i_number i_bank i_rb i_codes i_within i_piled i_unitsInRule i_askHouse i_askTune i_acts i_undone i_laid i_knowns i_time f_text f_tunes f_houses f_hums f_told f_many f_ruleFrom f_ruleTo f_code f_eWhat f_eSign f_all f_kept f_was f_sTune f_boxAll J734 L H731.size hI736) (cwV 0 hG (goodV gw1401 gw1403 gw61 gw138 gw1404) rfl rfl rfl hd_X9_isGood ⟨(Nat.le_of_ble_eq_true rfl), (Nat.le_of_ble_eq_true rfl)⟩) ⟨fbR, va_recv hK hP (ci := 8) (q0 := 0) rfl rfl, pR_in hP hK⟩ rfl rfl hl.1 rfl (lv_room (Nat.le_of_ble_eq_true rfl)) dX9_unit_148 ⟨(Nat.le_of_ble_eq_true rfl), (Nat.le_of_ble_eq_true rfl)⟩) hS (fun q hq h => absurd hq (Nat.not_lt.mpr h)) (fun q h => hA q (Nat.le_trans hS.1 h)) (fun r_771 u_ t_ H770 locs ht hvm hw hB hz1 hk1 hS => ?_)
            subst hw
            have hP := wk hP hk1
            obtain ⟨f772, f773, f774⟩ := hB
            refine lv_if_ne (tgt := 156) hx hb dX9_unit_151 (by decide) (fun c_775 => ((ob_172 (qi_ne c_775 rfl zc_0) f735 f772)).elim) (fun c_775 => ?_)
            have f776 : r_771.toInt = 0 := qi_eq c_775 rfl zc_0
            have f777 : x733.toInt ≠ (0 : Int) := (ob_173 im754 f735)
            have f778 : (1 : Int) ≤ x733.toInt := (ob_156 im754 f735)
            have f779 : r_771.toInt = (0 : Int) := (ob_165 f773 f774 f776)
            refine lv_iconst (v := 1) hx hb dX9_unit_154 (by decide) ?_
            rw [hQ]
            exact W.zret (v := 1) hx hb hr (by decide) (fun t ht hW => ⟨⟨1, 1, rfl, rfl, ⟨x733, i_at, i_end, i_token, i_number, i_codes, i_within, i_piled, i_unitsInRule, f_code, f_eWhat, f_eSign, J734, L, by rw [ht]; exact hP, hD, hI736, (ob_14 zc_1), (ob_15 zc_1), (fun h => ((ob_214 h im754 f735)).elim), (ob_215 hp5 hp7 hp8), (ob_216 hp2 hp4 hp7), (ob_88), (ob_217 f735 zc_1)⟩⟩, hS.F ht⟩) hS.2.2 dX9_unit_155
          · skip
            have f780 : r_23.toInt = 0 := qi_eq c_728 rfl zc_0
            have f781 : r_23.toInt = (0 : Int) := (ob_218 f780)
            refine lv_aload_n hx hb dX9_unit_109 rfl (lv_at hl 5 rfl) ?_
            refine gM_X9_191_0 hx hb hG hown hK hP dX9_unit_110 ?_
            refine lv_iconst (v := 4) hx hb dX9_unit_113 (by decide) ?_
            refine lv_icmp_eq (tgt := 121) hx hb dX9_unit_114 (by decide) (fun c_782 => ?_) (fun c_782 => ?_)
            · skip
              have f783 : i_token.toInt = 4 := qi_eq c_782 rfl zc_4
              have f784 : i_token.toInt ≠ (3 : Int) := (ob_219 f783)
              have f785 : r_11.toInt = (0 : Int) := (ob_165 f13 f14 f16)
              have f786 : i_token.toInt ≠ (5 : Int) := (ob_220 f783)
              have f787 : r_18.toInt = (0 : Int) := (ob_221 f19 f783 zc_40)
              have f788 : (4 : Int) ≤ i_token.toInt := (ob_222 f783)
              have f789 : i_token.toInt ≤ (4 : Int) := (ob_223 f783 f788)
              refine lv_iload hx hb dX9_unit_121 (lv_at hl 0 rfl) ?_
              refine lv_if_ne (tgt := 143) hx hb dX9_unit_123 (by decide) (fun c_790 => ?_) (fun c_790 => absurd c_790 (by decide))
              refine lv_aload_n hx hb dX9_unit_143 rfl (lv_at hl 5 rfl) ?_
              have hFc := frA hD hS hA
              refine va_callv (va_runV (As := []) (rest := []) ⟨hx, hb, hml, hown, hG⟩ (kX9_misplaced l dC dI r ct i_taped i_size i_faultKind i_at i_end i_token i_number i_bank i_rb i_codes i_within i_piled i_unitsInRule i_askHouse i_askTune i_acts i_undone i_laid i_knowns i_time f_text f_tunes f_houses f_hums f_told f_many f_ruleFrom f_ruleTo f_code f_eWhat f_eSign f_all f_kept f_was f_sTune f_boxAll J L H22.size hI) (cwV 0 hG (goodV gw1420 gw1422 gw65 gw138 gw1423) rfl rfl rfl hd_X9_misplaced ⟨(Nat.le_of_ble_eq_true rfl), (Nat.le_of_ble_eq_true rfl)⟩) ⟨fbW, va_recv hK hP (ci := 8) (q0 := 0) rfl rfl, pW_in hP hK hD⟩ rfl rfl hl.1 rfl (lv_room (Nat.le_of_ble_eq_true rfl)) dX9_unit_144 ⟨(Nat.le_of_ble_eq_true rfl), (Nat.le_of_ble_eq_true rfl)⟩) hS (fun q _ h => hFc q h) hFc (fun _ t_ H791 locs ht hvm hw hB hz1 hk1 hS => ?_)
              obtain ⟨x793, J794, hP1, hD1, hI796, f795⟩ := hB
              rw [ht] at hP1
              have hP := hP1
              have hD := dW hFc hD1
              obtain ⟨im797, im798, im799, im800, im801, im802, im803, im804, im805, im806, im807, im808, im809, im810, im811, im812, im813, im814, im815, im816, im817, im818, im819, im820, im821, im822, im823, im824, im825, im826, im827, im828, im829⟩ := id hI796
              refine lv_aload_n hx hb dX9_unit_147 rfl (lv_at hl 5 rfl) ?_
              refine va_calli (va_runV (As := []) (rest := []) ⟨hx, hb, hml, hown, hG⟩ (kX9_isGood l dC dI r ct i_taped i_size x793 i_at i_end i_token i_number i_bank i_rb i_codes i_within i_piled i_unitsInRule i_askHouse i_askTune i_acts i_undone i_laid i_knowns i_time f_text f_tunes f_houses f_hums f_told f_many f_ruleFrom f_ruleTo f_code f_eWhat f_eSign f_all f_kept f_was f_sTune f_boxAll J794 L H791.size hI796) (cwV 0 hG (goodV gw1401 gw1403 gw61 gw138 gw1404) rfl rfl rfl hd_X9_isGood ⟨(Nat.le_of_ble_eq_true rfl), (Nat.le_of_ble_eq_true rfl)⟩) ⟨fbR, va_recv hK hP (ci := 8) (q0 := 0) rfl rfl, pR_in hP hK⟩ rfl rfl hl.1 rfl (lv_room (Nat.le_of_ble_eq_true rfl)) dX9_unit_148 ⟨(Nat.le_of_ble_eq_true rfl), (Nat.le_of_ble_eq_true rfl)⟩) hS (fun q hq h => absurd hq (Nat.not_lt.mpr h)) (fun q h => hA q (Nat.le_trans hS.1 h)) (fun r_831 u_ t_ H830 locs ht hvm hw hB hz1 hk1 hS => ?_)
              subst hw
              have hP := wk hP hk1
              obtain ⟨f832, f833, f834⟩ := hB
              refine lv_if_ne (tgt := 156) hx hb dX9_unit_151 (by decide) (fun c_835 => ((ob_172 (qi_ne c_835 rfl zc_0) f795 f832)).elim) (fun c_835 => ?_)
              have f836 : r_831.toInt = 0 := qi_eq c_835 rfl zc_0
              have f837 : x793.toInt ≠ (0 : Int) := (ob_173 im814 f795)
              have f838 : (1 : Int) ≤ x793.toInt := (ob_156 im814 f795)
              have f839 : r_831.toInt = (0 : Int) := (ob_165 f833 f834 f836)
              refine lv_iconst (v := 1) hx hb dX9_unit_154 (by decide) ?_
              rw [hQ]
              exact W.zret (v := 1) hx hb hr (by decide) (fun t ht hW => ⟨⟨1, 1, rfl, rfl, ⟨x793, i_at, i_end, i_token, i_number, i_codes, i_within, i_piled, i_unitsInRule, f_code, f_eWhat, f_eSign, J794, L, by rw [ht]; exact hP, hD, hI796, (ob_14 zc_1), (ob_15 zc_1), (fun h => ((ob_214 h im814 f795)).elim), (ob_215 hp5 hp7 hp8), (ob_216 hp2 hp4 hp7), (ob_88), (ob_217 f795 zc_1)⟩⟩, hS.F ht⟩) hS.2.2 dX9_unit_155
            · skip
              have f840 : i_token.toInt ≠ 4 := qi_ne c_782 rfl zc_4
              refine lv_iload_n hx hb dX9_unit_117 rfl (lv_at hl 2 rfl) ?_
              refine lv_if_eq (tgt := 143) hx hb dX9_unit_118 (by decide) (fun c_841 => ?_) (fun c_841 => ?_)
              · skip
                have f842 : r_18.toInt = 0 := qi_eq c_841 rfl zc_0
                refine lv_aload_n hx hb dX9_unit_143 rfl (lv_at hl 5 rfl) ?_
                have hFc := frA hD hS hA
                refine va_callv (va_runV (As := []) (rest := []) ⟨hx, hb, hml, hown, hG⟩ (kX9_misplaced l dC dI r ct i_taped i_size i_faultKind i_at i_end i_token i_number i_bank i_rb i_codes i_within i_piled i_unitsInRule i_askHouse i_askTune i_acts i_undone i_laid i_knowns i_time f_text f_tunes f_houses f_hums f_told f_many f_ruleFrom f_ruleTo f_code f_eWhat f_eSign f_all f_kept f_was f_sTune f_boxAll J L H22.size hI) (cwV 0 hG (goodV gw1420 gw1422 gw65 gw138 gw1423) rfl rfl rfl hd_X9_misplaced ⟨(Nat.le_of_ble_eq_true rfl), (Nat.le_of_ble_eq_true rfl)⟩) ⟨fbW, va_recv hK hP (ci := 8) (q0 := 0) rfl rfl, pW_in hP hK hD⟩ rfl rfl hl.1 rfl (lv_room (Nat.le_of_ble_eq_true rfl)) dX9_unit_144 ⟨(Nat.le_of_ble_eq_true rfl), (Nat.le_of_ble_eq_true rfl)⟩) hS (fun q _ h => hFc q h) hFc (fun _ t_ H843 locs ht hvm hw hB hz1 hk1 hS => ?_)
                obtain ⟨x845, J846, hP1, hD1, hI848, f847⟩ := hB
                rw [ht] at hP1
                have hP := hP1
                have hD := dW hFc hD1
                obtain ⟨im849, im850, im851, im852, im853, im854, im855, im856, im857, im858, im859, im860, im861, im862, im863, im864, im865, im866, im867, im868, im869, im870, im871, im872, im873, im874, im875, im876, im877, im878, im879, im880, im881⟩ := id hI848
                refine lv_aload_n hx hb dX9_unit_147 rfl (lv_at hl 5 rfl) ?_
                refine va_calli (va_runV (As := []) (rest := []) ⟨hx, hb, hml, hown, hG⟩ (kX9_isGood l dC dI r ct i_taped i_size x845 i_at i_end i_token i_number i_bank i_rb i_codes i_within i_piled i_unitsInRule i_askHouse i_askTune i_acts i_undone i_laid i_knowns i_time f_text f_tunes f_houses f_hums f_told f_many f_ruleFrom f_ruleTo f_code f_eWhat f_eSign f_all f_kept f_was f_sTune f_boxAll J846 L H843.size hI848) (cwV 0 hG (goodV gw1401 gw1403 gw61 gw138 gw1404) rfl rfl rfl hd_X9_isGood ⟨(Nat.le_of_ble_eq_true rfl), (Nat.le_of_ble_eq_true rfl)⟩) ⟨fbR, va_recv hK hP (ci := 8) (q0 := 0) rfl rfl, pR_in hP hK⟩ rfl rfl hl.1 rfl (lv_room (Nat.le_of_ble_eq_true rfl)) dX9_unit_148 ⟨(Nat.le_of_ble_eq_true rfl), (Nat.le_of_ble_eq_true rfl)⟩) hS (fun q hq h => absurd hq (Nat.not_lt.mpr h)) (fun q h => hA q (Nat.le_trans hS.1 h)) (fun r_883 u_ t_ H882 locs ht hvm hw hB hz1 hk1 hS => ?_)
                subst hw
                have hP := wk hP hk1
                obtain ⟨f884, f885, f886⟩ := hB
                refine lv_if_ne (tgt := 156) hx hb dX9_unit_151 (by decide) (fun c_887 => ((ob_172 (qi_ne c_887 rfl zc_0) f847 f884)).elim) (fun c_887 => ?_)
                have f888 : r_883.toInt = 0 := qi_eq c_887 rfl zc_0
                have f889 : x845.toInt ≠ (0 : Int) := (ob_173 im866 f847)
                have f890 : (1 : Int) ≤ x845.toInt := (ob_156 im866 f847)
                have f891 : r_883.toInt = (0 : Int) := (ob_165 f885 f886 f888)
                refine lv_iconst (v := 1) hx hb dX9_unit_154 (by decide) ?_
                rw [hQ]
                exact W.zret (v := 1) hx hb hr (by decide) (fun t ht hW => ⟨⟨1, 1, rfl, rfl, ⟨x845, i_at, i_end, i_token, i_number, i_codes, i_within, i_piled, i_unitsInRule, f_code, f_eWhat, f_eSign, J846, L, by rw [ht]; exact hP, hD, hI848, (ob_14 zc_1), (ob_15 zc_1), (fun h => ((ob_214 h im866 f847)).elim), (ob_215 hp5 hp7 hp8), (ob_216 hp2 hp4 hp7), (ob_88), (ob_217 f847 zc_1)⟩⟩, hS.F ht⟩) hS.2.2 dX9_unit_155
              · skip
                have f892 : r_18.toInt ≠ 0 := qi_ne c_841 rfl zc_0
                have f893 : (1 : Int) ≤ r_18.toInt := (ob_224 f19 f892 zc_40)
                have f894 : i_token.toInt = (5 : Int) := (ob_225 f19 f892 zc_40)
                have f895 : (sgz f_text i_size.toInt i_at.toInt) = (40 : Int) := (ob_226 f19 f892 zc_40)
                have f896 : r_18.toInt = (1 : Int) := (ob_104 f20 f21 f893)
                refine lv_iload hx hb dX9_unit_121 (lv_at hl 0 rfl) ?_
                refine lv_if_ne (tgt := 143) hx hb dX9_unit_123 (by decide) (fun c_897 => ?_) (fun c_897 => absurd c_897 (by decide))
                refine lv_aload_n hx hb dX9_unit_143 rfl (lv_at hl 5 rfl) ?_
                have hFc := frA hD hS hA
                refine va_callv (va_runV (As := []) (rest := []) ⟨hx, hb, hml, hown, hG⟩ (kX9_misplaced l dC dI r ct i_taped i_size i_faultKind i_at i_end i_token i_number i_bank i_rb i_codes i_within i_piled i_unitsInRule i_askHouse i_askTune i_acts i_undone i_laid i_knowns i_time f_text f_tunes f_houses f_hums f_told f_many f_ruleFrom f_ruleTo f_code f_eWhat f_eSign f_all f_kept f_was f_sTune f_boxAll J L H22.size hI) (cwV 0 hG (goodV gw1420 gw1422 gw65 gw138 gw1423) rfl rfl rfl hd_X9_misplaced ⟨(Nat.le_of_ble_eq_true rfl), (Nat.le_of_ble_eq_true rfl)⟩) ⟨fbW, va_recv hK hP (ci := 8) (q0 := 0) rfl rfl, pW_in hP hK hD⟩ rfl rfl hl.1 rfl (lv_room (Nat.le_of_ble_eq_true rfl)) dX9_unit_144 ⟨(Nat.le_of_ble_eq_true rfl), (Nat.le_of_ble_eq_true rfl)⟩) hS (fun q _ h => hFc q h) hFc (fun _ t_ H898 locs ht hvm hw hB hz1 hk1 hS => ?_)
                obtain ⟨x900, J901, hP1, hD1, hI903, f902⟩ := hB
                rw [ht] at hP1
                have hP := hP1
                have hD := dW hFc hD1
                obtain ⟨im904, im905, im906, im907, im908, im909, im910, im911, im912, im913, im914, im915, im916, im917, im918, im919, im920, im921, im922, im923, im924, im925, im926, im927, im928, im929, im930, im931, im932, im933, im934, im935, im936⟩ := id hI903
                refine lv_aload_n hx hb dX9_unit_147 rfl (lv_at hl 5 rfl) ?_
                refine va_calli (va_runV (As := []) (rest := []) ⟨hx, hb, hml, hown, hG⟩ (kX9_isGood l dC dI r ct i_taped i_size x900 i_at i_end i_token i_number i_bank i_rb i_codes i_within i_piled i_unitsInRule i_askHouse i_askTune i_acts i_undone i_laid i_knowns i_time f_text f_tunes f_houses f_hums f_told f_many f_ruleFrom f_ruleTo f_code f_eWhat f_eSign f_all f_kept f_was f_sTune f_boxAll J901 L H898.size hI903) (cwV 0 hG (goodV gw1401 gw1403 gw61 gw138 gw1404) rfl rfl rfl hd_X9_isGood ⟨(Nat.le_of_ble_eq_true rfl), (Nat.le_of_ble_eq_true rfl)⟩) ⟨fbR, va_recv hK hP (ci := 8) (q0 := 0) rfl rfl, pR_in hP hK⟩ rfl rfl hl.1 rfl (lv_room (Nat.le_of_ble_eq_true rfl)) dX9_unit_148 ⟨(Nat.le_of_ble_eq_true rfl), (Nat.le_of_ble_eq_true rfl)⟩) hS (fun q hq h => absurd hq (Nat.not_lt.mpr h)) (fun q h => hA q (Nat.le_trans hS.1 h)) (fun r_938 u_ t_ H937 locs ht hvm hw hB hz1 hk1 hS => ?_)
                subst hw
                have hP := wk hP hk1
                obtain ⟨f939, f940, f941⟩ := hB
                refine lv_if_ne (tgt := 156) hx hb dX9_unit_151 (by decide) (fun c_942 => ((ob_172 (qi_ne c_942 rfl zc_0) f902 f939)).elim) (fun c_942 => ?_)
                have f943 : r_938.toInt = 0 := qi_eq c_942 rfl zc_0
                have f944 : x900.toInt ≠ (0 : Int) := (ob_173 im921 f902)
                have f945 : (1 : Int) ≤ x900.toInt := (ob_156 im921 f902)
                have f946 : r_938.toInt = (0 : Int) := (ob_165 f940 f941 f943)
                refine lv_iconst (v := 1) hx hb dX9_unit_154 (by decide) ?_
                rw [hQ]
                exact W.zret (v := 1) hx hb hr (by decide) (fun t ht hW => ⟨⟨1, 1, rfl, rfl, ⟨x900, i_at, i_end, i_token, i_number, i_codes, i_within, i_piled, i_unitsInRule, f_code, f_eWhat, f_eSign, J901, L, by rw [ht]; exact hP, hD, hI903, (ob_14 zc_1), (ob_15 zc_1), (fun h => ((ob_214 h im921 f902)).elim), (ob_215 hp5 hp7 hp8), (ob_216 hp2 hp4 hp7), (ob_88), (ob_217 f902 zc_1)⟩⟩, hS.F ht⟩) hS.2.2 dX9_unit_155
    · skip
      have f947 : r_11.toInt ≠ 0 := qi_ne c_15 rfl zc_0
      have f948 : (1 : Int) ≤ r_11.toInt := (ob_197 f12 f947)
      have f949 : i_token.toInt = (3 : Int) := (ob_198 f12 f947)
      have f950 : r_11.toInt = (1 : Int) := (ob_104 f13 f14 f948)
      refine lv_iconst (v := 1) hx hb dX9_unit_51 (by decide) ?_
      refine lv_goto (tgt := 56) hx hb dX9_unit_52 (by decide) ?_
      refine lv_istore_n (lv' := [(2, .int 1), (1, .int 1), (0, .ref (r 0))]) hx hb dX9_unit_56 rfl hl (by decide) rfl (fun ls hl => ?_)
      refine lv_aload_n hx hb dX9_unit_57 rfl (lv_at hl 2 rfl) ?_
      refine lv_bipush (v := 40) hx hb dX9_unit_58 (by decide) ?_
      refine va_calli (va_runV (As := [.int 40]) (rest := []) ⟨hx, hb, hml, hown, hG⟩ (kX9_isSignHere l dC dI r ct i_taped i_size i_faultKind i_at i_end i_token i_number i_bank i_rb i_codes i_within i_piled i_unitsInRule i_askHouse i_askTune i_acts i_undone i_laid i_knowns i_time f_text f_tunes f_houses f_hums f_told f_many f_ruleFrom f_ruleTo f_code f_eWhat f_eSign f_all f_kept f_was f_sTune f_boxAll J L 40 H10.size hI) (cwV 1 hG (goodV gw1476 gw1478 gw79 gw138 gw1479) rfl rfl rfl hd_X9_isSignHere ⟨(Nat.le_of_ble_eq_true rfl), (Nat.le_of_ble_eq_true rfl)⟩) ⟨fbR, va_recv hK hP (ci := 8) (q0 := 0) rfl rfl, pR_in hP hK⟩ rfl rfl hl.1 rfl (lv_room (Nat.le_of_ble_eq_true rfl)) dX9_unit_60 ⟨(Nat.le_of_ble_eq_true rfl), (Nat.le_of_ble_eq_true rfl)⟩) hS (fun q hq h => absurd hq (Nat.not_lt.mpr h)) (fun q h => hA q (Nat.le_trans hS.1 h)) (fun r_952 u_ t_ H951 locs ht hvm hw hB hz1 hk1 hS => ?_)
      subst hw
      have hP := wk hP hk1
      obtain ⟨f953, f954, f955⟩ := hB
      refine lv_istore_n (lv' := [(3, .int r_952), (2, .int 1), (1, .int 1), (0, .ref (r 0))]) hx hb dX9_unit_63 rfl hl (by decide) rfl (fun ls hl => ?_)
      refine lv_aload_n hx hb dX9_unit_64 rfl (lv_at hl 3 rfl) ?_
      refine va_calli (va_runV (As := []) (rest := []) ⟨hx, hb, hml, hown, hG⟩ (kX9_wordHere l dC dI r ct i_taped i_size i_faultKind i_at i_end i_token i_number i_bank i_rb i_codes i_within i_piled i_unitsInRule i_askHouse i_askTune i_acts i_undone i_laid i_knowns i_time f_text f_tunes f_houses f_hums f_told f_many f_ruleFrom f_ruleTo f_code f_eWhat f_eSign f_all f_kept f_was f_sTune f_boxAll J L H951.size hI) (cwV 0 hG (goodV gw1480 gw1482 gw80 gw138 gw1483) rfl rfl rfl hd_X9_wordHere ⟨(Nat.le_of_ble_eq_true rfl), (Nat.le_of_ble_eq_true rfl)⟩) ⟨fbR, va_recv hK hP (ci := 8) (q0 := 0) rfl rfl, pR_in hP hK⟩ rfl rfl hl.1 rfl (lv_room (Nat.le_of_ble_eq_true rfl)) dX9_unit_65 ⟨(Nat.le_of_ble_eq_true rfl), (Nat.le_of_ble_eq_true rfl)⟩) hS (fun q hq h => absurd hq (Nat.not_lt.mpr h)) (fun q h => hA q (Nat.le_trans hS.1 h)) (fun r_957 u_ t_ H956 locs ht hvm hw hB hz1 hk1 hS => ?_)
      subst hw
      have hP := wk hP hk1
      have f958 := hB
      refine lv_istore (lv' := [(4, .int r_957), (3, .int r_952), (2, .int 1), (1, .int 1), (0, .ref (r 0))]) hx hb dX9_unit_68 hl (by decide) rfl (fun ls hl => ?_)
      refine lv_aload_n hx hb dX9_unit_70 rfl (lv_at hl 4 rfl) ?_
      refine gM_X9_30_0 hx hb hG hown hK hP dX9_unit_71 ?_
      refine lv_aload_n hx hb dX9_unit_74 rfl (lv_at hl 4 rfl) ?_
      refine gM_X9_240_0 hx hb hG hown hK hP dX9_unit_75 ?_
      refine ldM_6 (mm := i_rb.toInt) hx hb hK hP rfl (ob_212 im6) (ob_213 im7) dX9_unit_78 (fun x959 => ?_)
      refine lv_bipush (v := 60) hx hb dX9_unit_79 (by decide) ?_
      refine lv_icmp_eq (tgt := 93) hx hb dX9_unit_81 (by decide) (fun c_960 => ?_) (fun c_960 => ?_)
      · skip
        have f961 : x959.toInt = 60 := qi_eq c_960 rfl zc_60
        refine lv_iconst (v := 1) hx hb dX9_unit_93 (by decide) ?_
        refine lv_goto (tgt := 98) hx hb dX9_unit_94 (by decide) ?_
        refine lv_istore (lv' := [(5, .int 1), (4, .int r_957), (3, .int r_952), (2, .int 1), (1, .int 1), (0, .ref (r 0))]) hx hb dX9_unit_98 hl (by decide) rfl (fun ls hl => ?_)
        refine lv_iload_n hx hb dX9_unit_100 rfl (lv_at hl 3 rfl) ?_
        refine lv_if_ne (tgt := 126) hx hb dX9_unit_101 (by decide) (fun c_962 => ?_) (fun c_962 => absurd c_962 (by decide))
        refine lv_iload_n hx hb dX9_unit_126 rfl (lv_at hl 3 rfl) ?_
        refine lv_if_ne (tgt := 134) hx hb dX9_unit_127 (by decide) (fun c_963 => ?_) (fun c_963 => absurd c_963 (by decide))
        refine lv_aload_n hx hb dX9_unit_134 rfl (lv_at hl 5 rfl) ?_
        refine gM_X9_299_0 hx hb hG hown hK hP dX9_unit_135 ?_
        refine lv_bipush (v := 7) hx hb dX9_unit_138 (by decide) ?_
        refine lv_icmp_ne (tgt := 147) hx hb dX9_unit_140 (by decide) (fun c_964 => ?_) (fun c_964 => ?_)
        · skip
          have f965 : i_within.toInt ≠ 7 := qi_ne c_964 rfl zc_7
          have f966 : i_within.toInt ≤ (6 : Int) := (ob_250 hp4 f965)
          refine lv_aload_n hx hb dX9_unit_147 rfl (lv_at hl 5 rfl) ?_
          refine va_calli (va_runV (As := []) (rest := []) ⟨hx, hb, hml, hown, hG⟩ (kX9_isGood l dC dI r ct i_taped i_size i_faultKind i_at i_end i_token i_number i_bank i_rb i_codes i_within i_piled i_unitsInRule i_askHouse i_askTune i_acts i_undone i_laid i_knowns i_time f_text f_tunes f_houses f_hums f_told f_many f_ruleFrom f_ruleTo f_code f_eWhat f_eSign f_all f_kept f_was f_sTune f_boxAll J L H956.size hI) (cwV 0 hG (goodV gw1401 gw1403 gw61 gw138 gw1404) rfl rfl rfl hd_X9_isGood ⟨(Nat.le_of_ble_eq_true rfl), (Nat.le_of_ble_eq_true rfl)⟩) ⟨fbR, va_recv hK hP (ci := 8) (q0 := 0) rfl rfl, pR_in hP hK⟩ rfl rfl hl.1 rfl (lv_room (Nat.le_of_ble_eq_true rfl)) dX9_unit_148 ⟨(Nat.le_of_ble_eq_true rfl), (Nat.le_of_ble_eq_true rfl)⟩) hS (fun q hq h => absurd hq (Nat.not_lt.mpr h)) (fun q h => hA q (Nat.le_trans hS.1 h)) (fun r_968 u_ t_ H967 locs ht hvm hw hB hz1 hk1 hS => ?_)
          subst hw
          have hP := wk hP hk1
          obtain ⟨f969, f970, f971⟩ := hB
          refine lv_if_ne (tgt := 156) hx hb dX9_unit_151 (by decide) (fun c_972 => ?_) (fun c_972 => ((ob_167 (qi_eq c_972 rfl zc_0) hp10 f969)).elim)
          have f973 : r_968.toInt ≠ 0 := qi_ne c_972 rfl zc_0
          have f974 : i_faultKind.toInt = (0 : Int) := (ob_168 im17 hp10)
          have f975 : r_968.toInt = (1 : Int) := (ob_169 f969 f973)
          have f976 : (1 : Int) ≤ r_968.toInt := (ob_170 f970 f971 f975)
          refine lv_aload_n hx hb dX9_unit_156 rfl (lv_at hl 5 rfl) ?_
          refine gM_X9_30_0 hx hb hG hown hK hP dX9_unit_157 ?_
          refine lv_aload_n hx hb dX9_unit_160 rfl (lv_at hl 5 rfl) ?_
          refine gM_X9_240_0 hx hb hG hown hK hP dX9_unit_161 ?_
          refine lv_dup2_11 hx hb dX9_unit_164 rfl rfl ?_
          refine ldM_6 (mm := i_rb.toInt) hx hb hK hP rfl (ob_212 im6) (ob_213 im7) dX9_unit_165 (fun x977 => ?_)
          refine lv_iload_n hx hb dX9_unit_166 rfl (lv_at hl 3 rfl) ?_
          refine lv_if_eq (tgt := 174) hx hb dX9_unit_167 (by decide) (fun c_978 => absurd c_978 (by decide)) (fun c_978 => ?_)
          refine lv_iconst (v := 0) hx hb dX9_unit_170 (by decide) ?_
          refine lv_goto (tgt := 175) hx hb dX9_unit_171 (by decide) ?_
          refine lv_iadd hx hb dX9_unit_175 ?_
          refine lv_topi (fun x979 ex979 => ?_)
          refine stM_6 (mm := i_rb.toInt) hx hb hK hP hD hS rfl (ob_212 im6) (ob_213 im7) dX9_unit_176 (fun J981 H980 locs hP hD hS => ?_)
          refine lv_aload_n hx hb dX9_unit_177 rfl (lv_at hl 5 rfl) ?_
          refine lv_dup hx hb dX9_unit_178 rfl ?_
          refine gM_X9_290_0 hx hb hG hown hK hP dX9_unit_179 ?_
          refine lv_iload_n hx hb dX9_unit_182 rfl (lv_at hl 3 rfl) ?_
          refine lv_if_eq (tgt := 190) hx hb dX9_unit_183 (by decide) (fun c_982 => absurd c_982 (by decide)) (fun c_982 => ?_)
          refine lv_iconst (v := 0) hx hb dX9_unit_186 (by decide) ?_
          refine lv_goto (tgt := 191) hx hb dX9_unit_187 (by decide) ?_
          refine lv_iadd hx hb dX9_unit_191 ?_
          refine lv_topi (fun x983 ex983 => ?_)
          have f984 : x983.toInt = i_unitsInRule.toInt := (ob_259 (qi_add ex983 rfl zc_0 (ob_257 hp1) (ob_258 hp2)))
          refine pM_X9_290_0 hx hb hG hown hK hP hD hS dX9_unit_192 (fun H985 locs hP hD hS => ?_)
          refine lv_iload hx hb dX9_unit_195 (lv_at hl 1 rfl) ?_
          refine lv_if_ne (tgt := 207) hx hb dX9_unit_197 (by decide) (fun c_986 => ?_) (fun c_986 => ?_)
          · skip
            have f987 : r_957.toInt ≠ 0 := qi_ne c_986 rfl zc_0
            refine lv_iconst (v := 0) hx hb dX9_unit_207 (by decide) ?_
            refine lv_istore (lv' := [(6, .int 0), (5, .int 1), (4, .int r_957), (3, .int r_952), (2, .int 1), (1, .int 1), (0, .ref (r 0))]) hx hb dX9_unit_208 hl (by decide) rfl (fun ls hl => ?_)
            refine lv_aload_n hx hb dX9_unit_210 rfl (lv_at hl 6 rfl) ?_
            have hFc := frA hD hS hA
            refine va_callv (va_runV (As := []) (rest := []) ⟨hx, hb, hml, hown, hG⟩ (kX9_goOn l dC dI r ct i_taped i_size i_faultKind i_at i_end i_token i_number i_bank i_rb i_codes i_within i_piled x983 i_askHouse i_askTune i_acts i_undone i_laid i_knowns i_time f_text f_tunes f_houses f_hums f_told f_many f_ruleFrom f_ruleTo f_code f_eWhat f_eSign f_all f_kept f_was f_sTune f_boxAll J981 L H985.size hI) (cwV 0 hG (goodV gw1362 gw1364 gw59 gw138 gw1365) rfl rfl rfl hd_X9_goOn ⟨(Nat.le_of_ble_eq_true rfl), (Nat.le_of_ble_eq_true rfl)⟩) ⟨fbW, va_recv hK hP (ci := 8) (q0 := 0) rfl rfl, pW_in hP hK hD⟩ rfl rfl hl.1 rfl (lv_room (Nat.le_of_ble_eq_true rfl)) dX9_unit_211 ⟨(Nat.le_of_ble_eq_true rfl), (Nat.le_of_ble_eq_true rfl)⟩) hS (fun q _ h => hFc q h) hFc (fun _ t_ H988 locs ht hvm hw hB hz1 hk1 hS => ?_)
            obtain ⟨x990, x991, x992, x993, L994, hP1, hD1, hI998, f995, f996, f997⟩ := hB
            rw [ht] at hP1
            have hP := hP1
            have hD := dW hFc hD1
            obtain ⟨im999, im1000, im1001, im1002, im1003, im1004, im1005, im1006, im1007, im1008, im1009, im1010, im1011, im1012, im1013, im1014, im1015, im1016, im1017, im1018, im1019, im1020, im1021, im1022, im1023, im1024, im1025, im1026, im1027, im1028, im1029, im1030, im1031⟩ := id hI998
            refine lv_iload_n hx hb dX9_unit_214 rfl (lv_at hl 4 rfl) ?_
            refine lv_if_ne (tgt := 222) hx hb dX9_unit_215 (by decide) (fun c_1032 => ?_) (fun c_1032 => absurd c_1032 (by decide))
            refine lv_aload_n hx hb dX9_unit_222 rfl (lv_at hl 6 rfl) ?_
            refine lv_iload_n hx hb dX9_unit_223 rfl (lv_at hl 4 rfl) ?_
            refine lv_if_eq (tgt := 231) hx hb dX9_unit_224 (by decide) (fun c_1033 => absurd c_1033 (by decide)) (fun c_1033 => ?_)
            refine lv_iconst (v := 3) hx hb dX9_unit_227 (by decide) ?_
            refine lv_goto (tgt := 233) hx hb dX9_unit_228 (by decide) ?_
            refine lv_bipush (v := 126) hx hb dX9_unit_233 (by decide) ?_
            have hFc := frA hD hS hA
            refine va_callv (va_runV (As := [.int 3, .int 126]) (rest := []) ⟨hx, hb, hml, hown, hG⟩ (kX9_pushE l dC dI r ct i_taped i_size i_faultKind x990 x991 x992 x993 i_bank i_rb i_codes i_within i_piled x983 i_askHouse i_askTune i_acts i_undone i_laid i_knowns i_time f_text f_tunes f_houses f_hums f_told f_many f_ruleFrom f_ruleTo f_code f_eWhat f_eSign f_all f_kept f_was f_sTune f_boxAll J981 L994 3 126 H988.size hI998 (ob_215 hp5 hp7 hp8) (ob_251 hp2 hp4 hp7)) (cwV 2 hG (goodV gw1468 gw1470 gw77 gw138 gw1471) rfl rfl rfl hd_X9_pushE ⟨(Nat.le_of_ble_eq_true rfl), (Nat.le_of_ble_eq_true rfl)⟩) ⟨fbW, va_recv hK hP (ci := 8) (q0 := 0) rfl rfl, pW_in hP hK hD⟩ rfl rfl hl.1 rfl (lv_room (Nat.le_of_ble_eq_true rfl)) dX9_unit_235 ⟨(Nat.le_of_ble_eq_true rfl), (Nat.le_of_ble_eq_true rfl)⟩) hS (fun q _ h => hFc q h) hFc (fun _ t_ H1034 locs ht hvm hw hB hz1 hk1 hS => ?_)
            obtain ⟨x1036, z1037, z1038, hP1, hD1, hI1042, f1039, f1040, f1041⟩ := hB
            rw [ht] at hP1
            have hP := hP1
            have hD := dW hFc hD1
            obtain ⟨im1043, im1044, im1045, im1046, im1047, im1048, im1049, im1050, im1051, im1052, im1053, im1054, im1055, im1056, im1057, im1058, im1059, im1060, im1061, im1062, im1063, im1064, im1065, im1066, im1067, im1068, im1069, im1070, im1071, im1072, im1073, im1074, im1075⟩ := id hI1042
            have f1076 : (z1037 ((0 : Int)).toNat).toInt = (f_eWhat ((0 : Int)).toNat).toInt := (by rw [f1040, upd_off (ne0 (ob_252 hp5))])
            refine lv_aload_n hx hb dX9_unit_238 rfl (lv_at hl 6 rfl) ?_
            refine lv_dup hx hb dX9_unit_239 rfl ?_
            refine gM_X9_299_0 hx hb hG hown hK hP dX9_unit_240 ?_
            refine lv_iconst (v := 1) hx hb dX9_unit_243 (by decide) ?_
            refine lv_iadd hx hb dX9_unit_244 ?_
            refine lv_topi (fun x1077 ex1077 => ?_)
            have f1078 : x1077.toInt = i_within.toInt + 1 := (ob_84 (qi_add ex1077 rfl zc_1 (ob_82 hp3) (ob_253 hp4)))
            refine pM_X9_299_0 hx hb hG hown hK hP hD hS dX9_unit_245 (fun H1079 locs hP hD hS => ?_)
            refine lv_iconst (v := 1) hx hb dX9_unit_248 (by decide) ?_
            rw [hQ]
            exact W.zret (v := 1) hx hb hr (by decide) (fun t ht hW => ⟨⟨1, 1, rfl, rfl, ⟨i_faultKind, x990, x991, x992, x993, i_codes, x1077, x1036, x983, f_code, z1037, z1038, J981, L994, by rw [ht]; exact hP, hD, hI1042, (ob_14 zc_1), (ob_15 zc_1), (fun _ => SPpush hp11 f1040 f1041 (ob_252 hp5) (ob_84 f1039) (Or.inl (ob_260 zc_1 f1078 zc_126 zc_3))), (ob_141 hp5 f1039), (ob_255 hp2 hp4 hp7 f1039), (ob_87 f995), (ob_261 im17 hp2 hp3 hp4 hp5 hp6 hp7 hp8 hp9 f12 f947 f965 f997 f1039 f1076 zc_1 f1078 f984)⟩⟩, hS.F ht⟩) hS.2.2 dX9_unit_249
          · skip
            have f1080 : r_957.toInt = 0 := qi_eq c_986 rfl zc_0
            have f1081 : r_957.toInt = (0 : Int) := (ob_218 f1080)
            refine lv_aload_n hx hb dX9_unit_200 rfl (lv_at hl 5 rfl) ?_
            refine gM_X9_209_0 hx hb hG hown hK hP dX9_unit_201 ?_
            refine lv_goto (tgt := 208) hx hb dX9_unit_204 (by decide) ?_
            refine lv_istore (lv' := [(6, .int i_number), (5, .int 1), (4, .int r_957), (3, .int r_952), (2, .int 1), (1, .int 1), (0, .ref (r 0))]) hx hb dX9_unit_208 hl (by decide) rfl (fun ls hl => ?_)
            refine lv_aload_n hx hb dX9_unit_210 rfl (lv_at hl 6 rfl) ?_
            have hFc := frA hD hS hA
            refine va_callv (va_runV (As := []) (rest := []) ⟨hx, hb, hml, hown, hG⟩ (kX9_goOn l dC dI r ct i_taped i_size i_faultKind i_at i_end i_token i_number i_bank i_rb i_codes i_within i_piled x983 i_askHouse i_askTune i_acts i_undone i_laid i_knowns i_time f_text f_tunes f_houses f_hums f_told f_many f_ruleFrom f_ruleTo f_code f_eWhat f_eSign f_all f_kept f_was f_sTune f_boxAll J981 L H985.size hI) (cwV 0 hG (goodV gw1362 gw1364 gw59 gw138 gw1365) rfl rfl rfl hd_X9_goOn ⟨(Nat.le_of_ble_eq_true rfl), (Nat.le_of_ble_eq_true rfl)⟩) ⟨fbW, va_recv hK hP (ci := 8) (q0 := 0) rfl rfl, pW_in hP hK hD⟩ rfl rfl hl.1 rfl (lv_room (Nat.le_of_ble_eq_true rfl)) dX9_unit_211 ⟨(Nat.le_of_ble_eq_true rfl), (Nat.le_of_ble_eq_true rfl)⟩) hS (fun q _ h => hFc q h) hFc (fun _ t_ H1082 locs ht hvm hw hB hz1 hk1 hS => ?_)
            obtain ⟨x1084, x1085, x1086, x1087, L1088, hP1, hD1, hI1092, f1089, f1090, f1091⟩ := hB
            rw [ht] at hP1
            have hP := hP1
            have hD := dW hFc hD1
            obtain ⟨im1093, im1094, im1095, im1096, im1097, im1098, im1099, im1100, im1101, im1102, im1103, im1104, im1105, im1106, im1107, im1108, im1109, im1110, im1111, im1112, im1113, im1114, im1115, im1116, im1117, im1118, im1119, im1120, im1121, im1122, im1123, im1124, im1125⟩ := id hI1092
            refine lv_iload_n hx hb dX9_unit_214 rfl (lv_at hl 4 rfl) ?_
            refine lv_if_ne (tgt := 222) hx hb dX9_unit_215 (by decide) (fun c_1126 => ?_) (fun c_1126 => absurd c_1126 (by decide))
            refine lv_aload_n hx hb dX9_unit_222 rfl (lv_at hl 6 rfl) ?_
            refine lv_iload_n hx hb dX9_unit_223 rfl (lv_at hl 4 rfl) ?_
            refine lv_if_eq (tgt := 231) hx hb dX9_unit_224 (by decide) (fun c_1127 => absurd c_1127 (by decide)) (fun c_1127 => ?_)
            refine lv_iconst (v := 3) hx hb dX9_unit_227 (by decide) ?_
            refine lv_goto (tgt := 233) hx hb dX9_unit_228 (by decide) ?_
            refine lv_bipush (v := 126) hx hb dX9_unit_233 (by decide) ?_
            have hFc := frA hD hS hA
            refine va_callv (va_runV (As := [.int 3, .int 126]) (rest := []) ⟨hx, hb, hml, hown, hG⟩ (kX9_pushE l dC dI r ct i_taped i_size i_faultKind x1084 x1085 x1086 x1087 i_bank i_rb i_codes i_within i_piled x983 i_askHouse i_askTune i_acts i_undone i_laid i_knowns i_time f_text f_tunes f_houses f_hums f_told f_many f_ruleFrom f_ruleTo f_code f_eWhat f_eSign f_all f_kept f_was f_sTune f_boxAll J981 L1088 3 126 H1082.size hI1092 (ob_215 hp5 hp7 hp8) (ob_251 hp2 hp4 hp7)) (cwV 2 hG (goodV gw1468 gw1470 gw77 gw138 gw1471) rfl rfl rfl hd_X9_pushE ⟨(Nat.le_of_ble_eq_true rfl), (Nat.le_of_ble_eq_true rfl)⟩) ⟨fbW, va_recv hK hP (ci := 8) (q0 := 0) rfl rfl, pW_in hP hK hD⟩ rfl rfl hl.1 rfl (lv_room (Nat.le_of_ble_eq_true rfl)) dX9_unit_235 ⟨(Nat.le_of_ble_eq_true rfl), (Nat.le_of_ble_eq_true rfl)⟩) hS (fun q _ h => hFc q h) hFc (fun _ t_ H1128 locs ht hvm hw hB hz1 hk1 hS => ?_)
            obtain ⟨x1130, z1131, z1132, hP1, hD1, hI1136, f1133, f1134, f1135⟩ := hB
            rw [ht] at hP1
            have hP := hP1
            have hD := dW hFc hD1
            obtain ⟨im1137, im1138, im1139, im1140, im1141, im1142, im1143, im1144, im1145, im1146, im1147, im1148, im1149, im1150, im1151, im1152, im1153, im1154, im1155, im1156, im1157, im1158, im1159, im1160, im1161, im1162, im1163, im1164, im1165, im1166, im1167, im1168, im1169⟩ := id hI1136
            have f1170 : (z1131 ((0 : Int)).toNat).toInt = (f_eWhat ((0 : Int)).toNat).toInt := (by rw [f1134, upd_off (ne0 (ob_252 hp5))])
            refine lv_aload_n hx hb dX9_unit_238 rfl (lv_at hl 6 rfl) ?_
            refine lv_dup hx hb dX9_unit_239 rfl ?_
            refine gM_X9_299_0 hx hb hG hown hK hP dX9_unit_240 ?_
            refine lv_iconst (v := 1) hx hb dX9_unit_243 (by decide) ?_
            refine lv_iadd hx hb dX9_unit_244 ?_
            refine lv_topi (fun x1171 ex1171 => ?_)
            have f1172 : x1171.toInt = i_within.toInt + 1 := (ob_84 (qi_add ex1171 rfl zc_1 (ob_82 hp3) (ob_253 hp4)))
            refine pM_X9_299_0 hx hb hG hown hK hP hD hS dX9_unit_245 (fun H1173 locs hP hD hS => ?_)
            refine lv_iconst (v := 1) hx hb dX9_unit_248 (by decide) ?_
            rw [hQ]
            exact W.zret (v := 1) hx hb hr (by decide) (fun t ht hW => ⟨⟨1, 1, rfl, rfl, ⟨i_faultKind, x1084, x1085, x1086, x1087, i_codes, x1171, x1130, x983, f_code, z1131, z1132, J981, L1088, by rw [ht]; exact hP, hD, hI1136, (ob_14 zc_1), (ob_15 zc_1), (fun _ => SPpush hp11 f1134 f1135 (ob_252 hp5) (ob_84 f1133) (Or.inl (ob_260 zc_1 f1172 zc_126 zc_3))), (ob_141 hp5 f1133), (ob_255 hp2 hp4 hp7 f1133), (ob_87 f1089), (ob_261 im17 hp2 hp3 hp4 hp5 hp6 hp7 hp8 hp9 f12 f947 f965 f1091 f1133 f1170 zc_1 f1172 f984)⟩⟩, hS.F ht⟩) hS.2.2 dX9_unit_249
        · skip
          have f1174 : i_within.toInt = 7 := qi_eq c_964 rfl zc_7
          refine lv_aload_n hx hb dX9_unit_143 rfl (lv_at hl 5 rfl) ?_
          have hFc := frA hD hS hA
          refine va_callv (va_runV (As := []) (rest := []) ⟨hx, hb, hml, hown, hG⟩ (kX9_misplaced l dC dI r ct i_taped i_size i_faultKind i_at i_end i_token i_number i_bank i_rb i_codes i_within i_piled i_unitsInRule i_askHouse i_askTune i_acts i_undone i_laid i_knowns i_time f_text f_tunes f_houses f_hums f_told f_many f_ruleFrom f_ruleTo f_code f_eWhat f_eSign f_all f_kept f_was f_sTune f_boxAll J L H956.size hI) (cwV 0 hG (goodV gw1420 gw1422 gw65 gw138 gw1423) rfl rfl rfl hd_X9_misplaced ⟨(Nat.le_of_ble_eq_true rfl), (Nat.le_of_ble_eq_true rfl)⟩) ⟨fbW, va_recv hK hP (ci := 8) (q0 := 0) rfl rfl, pW_in hP hK hD⟩ rfl rfl hl.1 rfl (lv_room (Nat.le_of_ble_eq_true rfl)) dX9_unit_144 ⟨(Nat.le_of_ble_eq_true rfl), (Nat.le_of_ble_eq_true rfl)⟩) hS (fun q _ h => hFc q h) hFc (fun _ t_ H1175 locs ht hvm hw hB hz1 hk1 hS => ?_)
          obtain ⟨x1177, J1178, hP1, hD1, hI1180, f1179⟩ := hB
          rw [ht] at hP1
          have hP := hP1
          have hD := dW hFc hD1
          obtain ⟨im1181, im1182, im1183, im1184, im1185, im1186, im1187, im1188, im1189, im1190, im1191, im1192, im1193, im1194, im1195, im1196, im1197, im1198, im1199, im1200, im1201, im1202, im1203, im1204, im1205, im1206, im1207, im1208, im1209, im1210, im1211, im1212, im1213⟩ := id hI1180
          refine lv_aload_n hx hb dX9_unit_147 rfl (lv_at hl 5 rfl) ?_
          refine va_calli (va_runV (As := []) (rest := []) ⟨hx, hb, hml, hown, hG⟩ (kX9_isGood l dC dI r ct i_taped i_size x1177 i_at i_end i_token i_number i_bank i_rb i_codes i_within i_piled i_unitsInRule i_askHouse i_askTune i_acts i_undone i_laid i_knowns i_time f_text f_tunes f_houses f_hums f_told f_many f_ruleFrom f_ruleTo f_code f_eWhat f_eSign f_all f_kept f_was f_sTune f_boxAll J1178 L H1175.size hI1180) (cwV 0 hG (goodV gw1401 gw1403 gw61 gw138 gw1404) rfl rfl rfl hd_X9_isGood ⟨(Nat.le_of_ble_eq_true rfl), (Nat.le_of_ble_eq_true rfl)⟩) ⟨fbR, va_recv hK hP (ci := 8) (q0 := 0) rfl rfl, pR_in hP hK⟩ rfl rfl hl.1 rfl (lv_room (Nat.le_of_ble_eq_true rfl)) dX9_unit_148 ⟨(Nat.le_of_ble_eq_true rfl), (Nat.le_of_ble_eq_true rfl)⟩) hS (fun q hq h => absurd hq (Nat.not_lt.mpr h)) (fun q h => hA q (Nat.le_trans hS.1 h)) (fun r_1215 u_ t_ H1214 locs ht hvm hw hB hz1 hk1 hS => ?_)
          subst hw
          have hP := wk hP hk1
          obtain ⟨f1216, f1217, f1218⟩ := hB
          refine lv_if_ne (tgt := 156) hx hb dX9_unit_151 (by decide) (fun c_1219 => ((ob_172 (qi_ne c_1219 rfl zc_0) f1179 f1216)).elim) (fun c_1219 => ?_)
          have f1220 : r_1215.toInt = 0 := qi_eq c_1219 rfl zc_0
          have f1221 : x1177.toInt ≠ (0 : Int) := (ob_173 im1198 f1179)
          have f1222 : (1 : Int) ≤ x1177.toInt := (ob_156 im1198 f1179)
          have f1223 : r_1215.toInt = (0 : Int) := (ob_165 f1217 f1218 f1220)
          refine lv_iconst (v := 1) hx hb dX9_unit_154 (by decide) ?_
          rw [hQ]
          exact W.zret (v := 1) hx hb hr (by decide) (fun t ht hW => ⟨⟨1, 1, rfl, rfl, ⟨x1177, i_at, i_end, i_token, i_number, i_codes, i_within, i_piled, i_unitsInRule, f_code, f_eWhat, f_eSign, J1178, L, by rw [ht]; exact hP, hD, hI1180, (ob_14 zc_1), (ob_15 zc_1), (fun h => ((ob_214 h im1198 f1179)).elim), (ob_215 hp5 hp7 hp8), (ob_216 hp2 hp4 hp7), (ob_88), (ob_217 f1179 zc_1)⟩⟩, hS.F ht⟩) hS.2.2 dX9_unit_155
      · skip
        have f1224 : x959.toInt ≠ 60 := qi_ne c_960 rfl zc_60
        refine lv_aload_n hx hb dX9_unit_84 rfl (lv_at hl 4 rfl) ?_
        refine gM_X9_290_0 hx hb hG hown hK hP dX9_unit_85 ?_
        refine lv_bipush (v := 30) hx hb dX9_unit_88 (by decide) ?_
        refine lv_icmp_ne (tgt := 97) hx hb dX9_unit_90 (by decide) (fun c_1225 => ?_) (fun c_1225 => ?_)
        · skip
          have f1226 : i_unitsInRule.toInt ≠ 30 := qi_ne c_1225 rfl zc_30
          have f1227 : i_unitsInRule.toInt ≤ (29 : Int) := (ob_227 hp2 f1226)
          refine lv_iconst (v := 0) hx hb dX9_unit_97 (by decide) ?_
          refine lv_istore (lv' := [(5, .int 0), (4, .int r_957), (3, .int r_952), (2, .int 1), (1, .int 1), (0, .ref (r 0))]) hx hb dX9_unit_98 hl (by decide) rfl (fun ls hl => ?_)
          refine lv_iload_n hx hb dX9_unit_100 rfl (lv_at hl 3 rfl) ?_
          refine lv_if_ne (tgt := 126) hx hb dX9_unit_101 (by decide) (fun c_1228 => ?_) (fun c_1228 => absurd c_1228 (by decide))
          refine lv_iload_n hx hb dX9_unit_126 rfl (lv_at hl 3 rfl) ?_
          refine lv_if_ne (tgt := 134) hx hb dX9_unit_127 (by decide) (fun c_1229 => ?_) (fun c_1229 => absurd c_1229 (by decide))
          refine lv_aload_n hx hb dX9_unit_134 rfl (lv_at hl 5 rfl) ?_
          refine gM_X9_299_0 hx hb hG hown hK hP dX9_unit_135 ?_
          refine lv_bipush (v := 7) hx hb dX9_unit_138 (by decide) ?_
          refine lv_icmp_ne (tgt := 147) hx hb dX9_unit_140 (by decide) (fun c_1230 => ?_) (fun c_1230 => ?_)
          · skip
            have f1231 : i_within.toInt ≠ 7 := qi_ne c_1230 rfl zc_7
            have f1232 : i_within.toInt ≤ (6 : Int) := (ob_250 hp4 f1231)
            refine lv_aload_n hx hb dX9_unit_147 rfl (lv_at hl 5 rfl) ?_
            refine va_calli (va_runV (As := []) (rest := []) ⟨hx, hb, hml, hown, hG⟩ (kX9_isGood l dC dI r ct i_taped i_size i_faultKind i_at i_end i_token i_number i_bank i_rb i_codes i_within i_piled i_unitsInRule i_askHouse i_askTune i_acts i_undone i_laid i_knowns i_time f_text f_tunes f_houses f_hums f_told f_many f_ruleFrom f_ruleTo f_code f_eWhat f_eSign f_all f_kept f_was f_sTune f_boxAll J L H956.size hI) (cwV 0 hG (goodV gw1401 gw1403 gw61 gw138 gw1404) rfl rfl rfl hd_X9_isGood ⟨(Nat.le_of_ble_eq_true rfl), (Nat.le_of_ble_eq_true rfl)⟩) ⟨fbR, va_recv hK hP (ci := 8) (q0 := 0) rfl rfl, pR_in hP hK⟩ rfl rfl hl.1 rfl (lv_room (Nat.le_of_ble_eq_true rfl)) dX9_unit_148 ⟨(Nat.le_of_ble_eq_true rfl), (Nat.le_of_ble_eq_true rfl)⟩) hS (fun q hq h => absurd hq (Nat.not_lt.mpr h)) (fun q h => hA q (Nat.le_trans hS.1 h)) (fun r_1234 u_ t_ H1233 locs ht hvm hw hB hz1 hk1 hS => ?_)
            subst hw
            have hP := wk hP hk1
            obtain ⟨f1235, f1236, f1237⟩ := hB
            refine lv_if_ne (tgt := 156) hx hb dX9_unit_151 (by decide) (fun c_1238 => ?_) (fun c_1238 => ((ob_167 (qi_eq c_1238 rfl zc_0) hp10 f1235)).elim)
            have f1239 : r_1234.toInt ≠ 0 := qi_ne c_1238 rfl zc_0
            have f1240 : i_faultKind.toInt = (0 : Int) := (ob_168 im17 hp10)
            have f1241 : r_1234.toInt = (1 : Int) := (ob_169 f1235 f1239)
            have f1242 : (1 : Int) ≤ r_1234.toInt := (ob_170 f1236 f1237 f1241)
            refine lv_aload_n hx hb dX9_unit_156 rfl (lv_at hl 5 rfl) ?_
            refine gM_X9_30_0 hx hb hG hown hK hP dX9_unit_157 ?_
            refine lv_aload_n hx hb dX9_unit_160 rfl (lv_at hl 5 rfl) ?_
            refine gM_X9_240_0 hx hb hG hown hK hP dX9_unit_161 ?_
            refine lv_dup2_11 hx hb dX9_unit_164 rfl rfl ?_
            refine ldM_6 (mm := i_rb.toInt) hx hb hK hP rfl (ob_212 im6) (ob_213 im7) dX9_unit_165 (fun x1243 => ?_)
            refine lv_iload_n hx hb dX9_unit_166 rfl (lv_at hl 3 rfl) ?_
            refine lv_if_eq (tgt := 174) hx hb dX9_unit_167 (by decide) (fun c_1244 => absurd c_1244 (by decide)) (fun c_1244 => ?_)
            refine lv_iconst (v := 0) hx hb dX9_unit_170 (by decide) ?_
            refine lv_goto (tgt := 175) hx hb dX9_unit_171 (by decide) ?_
            refine lv_iadd hx hb dX9_unit_175 ?_
            refine lv_topi (fun x1245 ex1245 => ?_)
            refine stM_6 (mm := i_rb.toInt) hx hb hK hP hD hS rfl (ob_212 im6) (ob_213 im7) dX9_unit_176 (fun J1247 H1246 locs hP hD hS => ?_)
            refine lv_aload_n hx hb dX9_unit_177 rfl (lv_at hl 5 rfl) ?_
            refine lv_dup hx hb dX9_unit_178 rfl ?_
            refine gM_X9_290_0 hx hb hG hown hK hP dX9_unit_179 ?_
            refine lv_iload_n hx hb dX9_unit_182 rfl (lv_at hl 3 rfl) ?_
            refine lv_if_eq (tgt := 190) hx hb dX9_unit_183 (by decide) (fun c_1248 => absurd c_1248 (by decide)) (fun c_1248 => ?_)
            refine lv_iconst (v := 0) hx hb dX9_unit_186 (by decide) ?_
            refine lv_goto (tgt := 191) hx hb dX9_unit_187 (by decide) ?_
            refine lv_iadd hx hb dX9_unit_191 ?_
            refine lv_topi (fun x1249 ex1249 => ?_)
            have f1250 : x1249.toInt = i_unitsInRule.toInt := (ob_259 (qi_add ex1249 rfl zc_0 (ob_257 hp1) (ob_258 hp2)))
            refine pM_X9_290_0 hx hb hG hown hK hP hD hS dX9_unit_192 (fun H1251 locs hP hD hS => ?_)
            refine lv_iload hx hb dX9_unit_195 (lv_at hl 1 rfl) ?_
            refine lv_if_ne (tgt := 207) hx hb dX9_unit_197 (by decide) (fun c_1252 => ?_) (fun c_1252 => ?_)
            · skip
              have f1253 : r_957.toInt ≠ 0 := qi_ne c_1252 rfl zc_0
              refine lv_iconst (v := 0) hx hb dX9_unit_207 (by decide) ?_
              refine lv_istore (lv' := [(6, .int 0), (5, .int 0), (4, .int r_957), (3, .int r_952), (2, .int 1), (1, .int 1), (0, .ref (r 0))]) hx hb dX9_unit_208 hl (by decide) rfl (fun ls hl => ?_)
              refine lv_aload_n hx hb dX9_unit_210 rfl (lv_at hl 6 rfl) ?_
              have hFc := frA hD hS hA
              refine va_callv (va_runV (As := []) (rest := []) ⟨hx, hb, hml, hown, hG⟩ (kX9_goOn l dC dI r ct i_taped i_size i_faultKind i_at i_end i_token i_number i_bank i_rb i_codes i_within i_piled x1249 i_askHouse i_askTune i_acts i_undone i_laid i_knowns i_time f_text f_tunes f_houses f_hums f_told f_many f_ruleFrom f_ruleTo f_code f_eWhat f_eSign f_all f_kept f_was f_sTune f_boxAll J1247 L H1251.size hI) (cwV 0 hG (goodV gw1362 gw1364 gw59 gw138 gw1365) rfl rfl rfl hd_X9_goOn ⟨(Nat.le_of_ble_eq_true rfl), (Nat.le_of_ble_eq_true rfl)⟩) ⟨fbW, va_recv hK hP (ci := 8) (q0 := 0) rfl rfl, pW_in hP hK hD⟩ rfl rfl hl.1 rfl (lv_room (Nat.le_of_ble_eq_true rfl)) dX9_unit_211 ⟨(Nat.le_of_ble_eq_true rfl), (Nat.le_of_ble_eq_true rfl)⟩) hS (fun q _ h => hFc q h) hFc (fun _ t_ H1254 locs ht hvm hw hB hz1 hk1 hS => ?_)
              obtain ⟨x1256, x1257, x1258, x1259, L1260, hP1, hD1, hI1264, f1261, f1262, f1263⟩ := hB
              rw [ht] at hP1
              have hP := hP1
              have hD := dW hFc hD1
              obtain ⟨im1265, im1266, im1267, im1268, im1269, im1270, im1271, im1272, im1273, im1274, im1275, im1276, im1277, im1278, im1279, im1280, im1281, im1282, im1283, im1284, im1285, im1286, im1287, im1288, im1289, im1290, im1291, im1292, im1293, im1294, im1295, im1296, im1297⟩ := id hI1264
              refine lv_iload_n hx hb dX9_unit_214 rfl (lv_at hl 4 rfl) ?_
              refine lv_if_ne (tgt := 222) hx hb dX9_unit_215 (by decide) (fun c_1298 => ?_) (fun c_1298 => absurd c_1298 (by decide))
              refine lv_aload_n hx hb dX9_unit_222 rfl (lv_at hl 6 rfl) ?_
              refine lv_iload_n hx hb dX9_unit_223 rfl (lv_at hl 4 rfl) ?_
              refine lv_if_eq (tgt := 231) hx hb dX9_unit_224 (by decide) (fun c_1299 => absurd c_1299 (by decide)) (fun c_1299 => ?_)
              refine lv_iconst (v := 3) hx hb dX9_unit_227 (by decide) ?_
              refine lv_goto (tgt := 233) hx hb dX9_unit_228 (by decide) ?_
              refine lv_bipush (v := 126) hx hb dX9_unit_233 (by decide) ?_
              have hFc := frA hD hS hA
              refine va_callv (va_runV (As := [.int 3, .int 126]) (rest := []) ⟨hx, hb, hml, hown, hG⟩ (kX9_pushE l dC dI r ct i_taped i_size i_faultKind x1256 x1257 x1258 x1259 i_bank i_rb i_codes i_within i_piled x1249 i_askHouse i_askTune i_acts i_undone i_laid i_knowns i_time f_text f_tunes f_houses f_hums f_told f_many f_ruleFrom f_ruleTo f_code f_eWhat f_eSign f_all f_kept f_was f_sTune f_boxAll J1247 L1260 3 126 H1254.size hI1264 (ob_215 hp5 hp7 hp8) (ob_251 hp2 hp4 hp7)) (cwV 2 hG (goodV gw1468 gw1470 gw77 gw138 gw1471) rfl rfl rfl hd_X9_pushE ⟨(Nat.le_of_ble_eq_true rfl), (Nat.le_of_ble_eq_true rfl)⟩) ⟨fbW, va_recv hK hP (ci := 8) (q0 := 0) rfl rfl, pW_in hP hK hD⟩ rfl rfl hl.1 rfl (lv_room (Nat.le_of_ble_eq_true rfl)) dX9_unit_235 ⟨(Nat.le_of_ble_eq_true rfl), (Nat.le_of_ble_eq_true rfl)⟩) hS (fun q _ h => hFc q h) hFc (fun _ t_ H1300 locs ht hvm hw hB hz1 hk1 hS => ?_)
              obtain ⟨x1302, z1303, z1304, hP1, hD1, hI1308, f1305, f1306, f1307⟩ := hB
              rw [ht] at hP1
              have hP := hP1
              have hD := dW hFc hD1
              obtain ⟨im1309, im1310, im1311, im1312, im1313, im1314, im1315, im1316, im1317, im1318, im1319, im1320, im1321, im1322, im1323, im1324, im1325, im1326, im1327, im1328, im1329, im1330, im1331, im1332, im1333, im1334, im1335, im1336, im1337, im1338, im1339, im1340, im1341⟩ := id hI1308
              have f1342 : (z1303 ((0 : Int)).toNat).toInt = (f_eWhat ((0 : Int)).toNat).toInt := (by rw [f1306, upd_off (ne0 (ob_252 hp5))])
              refine lv_aload_n hx hb dX9_unit_238 rfl (lv_at hl 6 rfl) ?_
              refine lv_dup hx hb dX9_unit_239 rfl ?_
              refine gM_X9_299_0 hx hb hG hown hK hP dX9_unit_240 ?_
              refine lv_iconst (v := 1) hx hb dX9_unit_243 (by decide) ?_
              refine lv_iadd hx hb dX9_unit_244 ?_
              refine lv_topi (fun x1343 ex1343 => ?_)
              have f1344 : x1343.toInt = i_within.toInt + 1 := (ob_84 (qi_add ex1343 rfl zc_1 (ob_82 hp3) (ob_253 hp4)))
              refine pM_X9_299_0 hx hb hG hown hK hP hD hS dX9_unit_245 (fun H1345 locs hP hD hS => ?_)
              refine lv_iconst (v := 1) hx hb dX9_unit_248 (by decide) ?_
              rw [hQ]
              exact W.zret (v := 1) hx hb hr (by decide) (fun t ht hW => ⟨⟨1, 1, rfl, rfl, ⟨i_faultKind, x1256, x1257, x1258, x1259, i_codes, x1343, x1302, x1249, f_code, z1303, z1304, J1247, L1260, by rw [ht]; exact hP, hD, hI1308, (ob_14 zc_1), (ob_15 zc_1), (fun _ => SPpush hp11 f1306 f1307 (ob_252 hp5) (ob_84 f1305) (Or.inl (ob_260 zc_1 f1344 zc_126 zc_3))), (ob_141 hp5 f1305), (ob_255 hp2 hp4 hp7 f1305), (ob_87 f1261), (ob_261 im17 hp2 hp3 hp4 hp5 hp6 hp7 hp8 hp9 f12 f947 f1231 f1263 f1305 f1342 zc_1 f1344 f1250)⟩⟩, hS.F ht⟩) hS.2.2 dX9_unit_249
            · skip
              have f1346 : r_957.toInt = 0 := qi_eq c_1252 rfl zc_0
              have f1347 : r_957.toInt = (0 : Int) := (ob_218 f1346)
              refine lv_aload_n hx hb dX9_unit_200 rfl (lv_at hl 5 rfl) ?_
              refine gM_X9_209_0 hx hb hG hown hK hP dX9_unit_201 ?_
              refine lv_goto (tgt := 208) hx hb dX9_unit_204 (by decide) ?_
              refine lv_istore (lv' := [(6, .int i_number), (5, .int 0), (4, .int r_957), (3, .int r_952), (2, .int 1), (1, .int 1), (0, .ref (r 0))]) hx hb dX9_unit_208 hl (by decide) rfl (fun ls hl => ?_)
              refine lv_aload_n hx hb dX9_unit_210 rfl (lv_at hl 6 rfl) ?_
              have hFc := frA hD hS hA
              refine va_callv (va_runV (As := []) (rest := []) ⟨hx, hb, hml, hown, hG⟩ (kX9_goOn l dC dI r ct i_taped i_size i_faultKind i_at i_end i_token i_number i_bank i_rb i_codes i_within i_piled x1249 i_askHouse i_askTune i_acts i_undone i_laid i_knowns i_time f_text f_tunes f_houses f_hums f_told f_many f_ruleFrom f_ruleTo f_code f_eWhat f_eSign f_all f_kept f_was f_sTune f_boxAll J1247 L H1251.size hI) (cwV 0 hG (goodV gw1362 gw1364 gw59 gw138 gw1365) rfl rfl rfl hd_X9_goOn ⟨(Nat.le_of_ble_eq_true rfl), (Nat.le_of_ble_eq_true rfl)⟩) ⟨fbW, va_recv hK hP (ci := 8) (q0 := 0) rfl rfl, pW_in hP hK hD⟩ rfl rfl hl.1 rfl (lv_room (Nat.le_of_ble_eq_true rfl)) dX9_unit_211 ⟨(Nat.le_of_ble_eq_true rfl), (Nat.le_of_ble_eq_true rfl)⟩) hS (fun q _ h => hFc q h) hFc (fun _ t_ H1348 locs ht hvm hw hB hz1 hk1 hS => ?_)
              obtain ⟨x1350, x1351, x1352, x1353, L1354, hP1, hD1, hI1358, f1355, f1356, f1357⟩ := hB
              rw [ht] at hP1
              have hP := hP1
              have hD := dW hFc hD1
              obtain ⟨im1359, im1360, im1361, im1362, im1363, im1364, im1365, im1366, im1367, im1368, im1369, im1370, im1371, im1372, im1373, im1374, im1375, im1376, im1377, im1378, im1379, im1380, im1381, im1382, im1383, im1384, im1385, im1386, im1387, im1388, im1389, im1390, im1391⟩ := id hI1358
              refine lv_iload_n hx hb dX9_unit_214 rfl (lv_at hl 4 rfl) ?_
              refine lv_if_ne (tgt := 222) hx hb dX9_unit_215 (by decide) (fun c_1392 => ?_) (fun c_1392 => absurd c_1392 (by decide))
              refine lv_aload_n hx hb dX9_unit_222 rfl (lv_at hl 6 rfl) ?_
              refine lv_iload_n hx hb dX9_unit_223 rfl (lv_at hl 4 rfl) ?_
              refine lv_if_eq (tgt := 231) hx hb dX9_unit_224 (by decide) (fun c_1393 => absurd c_1393 (by decide)) (fun c_1393 => ?_)
              refine lv_iconst (v := 3) hx hb dX9_unit_227 (by decide) ?_
              refine lv_goto (tgt := 233) hx hb dX9_unit_228 (by decide) ?_
              refine lv_bipush (v := 126) hx hb dX9_unit_233 (by decide) ?_
              have hFc := frA hD hS hA
              refine va_callv (va_runV (As := [.int 3, .int 126]) (rest := []) ⟨hx, hb, hml, hown, hG⟩ (kX9_pushE l dC dI r ct i_taped i_size i_faultKind x1350 x1351 x1352 x1353 i_bank i_rb i_codes i_within i_piled x1249 i_askHouse i_askTune i_acts i_undone i_laid i_knowns i_time f_text f_tunes f_houses f_hums f_told f_many f_ruleFrom f_ruleTo f_code f_eWhat f_eSign f_all f_kept f_was f_sTune f_boxAll J1247 L1354 3 126 H1348.size hI1358 (ob_215 hp5 hp7 hp8) (ob_251 hp2 hp4 hp7)) (cwV 2 hG (goodV gw1468 gw1470 gw77 gw138 gw1471) rfl rfl rfl hd_X9_pushE ⟨(Nat.le_of_ble_eq_true rfl), (Nat.le_of_ble_eq_true rfl)⟩) ⟨fbW, va_recv hK hP (ci := 8) (q0 := 0) rfl rfl, pW_in hP hK hD⟩ rfl rfl hl.1 rfl (lv_room (Nat.le_of_ble_eq_true rfl)) dX9_unit_235 ⟨(Nat.le_of_ble_eq_true rfl), (Nat.le_of_ble_eq_true rfl)⟩) hS (fun q _ h => hFc q h) hFc (fun _ t_ H1394 locs ht hvm hw hB hz1 hk1 hS => ?_)
              obtain ⟨x1396, z1397, z1398, hP1, hD1, hI1402, f1399, f1400, f1401⟩ := hB
              rw [ht] at hP1
              have hP := hP1
              have hD := dW hFc hD1
              obtain ⟨im1403, im1404, im1405, im1406, im1407, im1408, im1409, im1410, im1411, im1412, im1413, im1414, im1415, im1416, im1417, im1418, im1419, im1420, im1421, im1422, im1423, im1424, im1425, im1426, im1427, im1428, im1429, im1430, im1431, im1432, im1433, im1434, im1435⟩ := id hI1402
              have f1436 : (z1397 ((0 : Int)).toNat).toInt = (f_eWhat ((0 : Int)).toNat).toInt := (by rw [f1400, upd_off (ne0 (ob_252 hp5))])
              refine lv_aload_n hx hb dX9_unit_238 rfl (lv_at hl 6 rfl) ?_
              refine lv_dup hx hb dX9_unit_239 rfl ?_
              refine gM_X9_299_0 hx hb hG hown hK hP dX9_unit_240 ?_
              refine lv_iconst (v := 1) hx hb dX9_unit_243 (by decide) ?_
              refine lv_iadd hx hb dX9_unit_244 ?_
              refine lv_topi (fun x1437 ex1437 => ?_)
              have f1438 : x1437.toInt = i_within.toInt + 1 := (ob_84 (qi_add ex1437 rfl zc_1 (ob_82 hp3) (ob_253 hp4)))
              refine pM_X9_299_0 hx hb hG hown hK hP hD hS dX9_unit_245 (fun H1439 locs hP hD hS => ?_)
              refine lv_iconst (v := 1) hx hb dX9_unit_248 (by decide) ?_
              rw [hQ]
              exact W.zret (v := 1) hx hb hr (by decide) (fun t ht hW => ⟨⟨1, 1, rfl, rfl, ⟨i_faultKind, x1350, x1351, x1352, x1353, i_codes, x1437, x1396, x1249, f_code, z1397, z1398, J1247, L1354, by rw [ht]; exact hP, hD, hI1402, (ob_14 zc_1), (ob_15 zc_1), (fun _ => SPpush hp11 f1400 f1401 (ob_252 hp5) (ob_84 f1399) (Or.inl (ob_260 zc_1 f1438 zc_126 zc_3))), (ob_141 hp5 f1399), (ob_255 hp2 hp4 hp7 f1399), (ob_87 f1355), (ob_261 im17 hp2 hp3 hp4 hp5 hp6 hp7 hp8 hp9 f12 f947 f1231 f1357 f1399 f1436 zc_1 f1438 f1250)⟩⟩, hS.F ht⟩) hS.2.2 dX9_unit_249
          · skip
            have f1440 : i_within.toInt = 7 := qi_eq c_1230 rfl zc_7
            refine lv_aload_n hx hb dX9_unit_143 rfl (lv_at hl 5 rfl) ?_
            have hFc := frA hD hS hA
            refine va_callv (va_runV (As := []) (rest := []) ⟨hx, hb, hml, hown, hG⟩ (kX9_misplaced l dC dI r ct i_taped i_size i_faultKind i_at i_end i_token i_number i_bank i_rb i_codes i_within i_piled i_unitsInRule i_askHouse i_askTune i_acts i_undone i_laid i_knowns i_time f_text f_tunes f_houses f_hums f_told f_many f_ruleFrom f_ruleTo f_code f_eWhat f_eSign f_all f_kept f_was f_sTune f_boxAll J L H956.size hI) (cwV 0 hG (goodV gw1420 gw1422 gw65 gw138 gw1423) rfl rfl rfl hd_X9_misplaced ⟨(Nat.le_of_ble_eq_true rfl), (Nat.le_of_ble_eq_true rfl)⟩) ⟨fbW, va_recv hK hP (ci := 8) (q0 := 0) rfl rfl, pW_in hP hK hD⟩ rfl rfl hl.1 rfl (lv_room (Nat.le_of_ble_eq_true rfl)) dX9_unit_144 ⟨(Nat.le_of_ble_eq_true rfl), (Nat.le_of_ble_eq_true rfl)⟩) hS (fun q _ h => hFc q h) hFc (fun _ t_ H1441 locs ht hvm hw hB hz1 hk1 hS => ?_)
            obtain ⟨x1443, J1444, hP1, hD1, hI1446, f1445⟩ := hB
            rw [ht] at hP1
            have hP := hP1
            have hD := dW hFc hD1
            obtain ⟨im1447, im1448, im1449, im1450, im1451, im1452, im1453, im1454, im1455, im1456, im1457, im1458, im1459, im1460, im1461, im1462, im1463, im1464, im1465, im1466, im1467, im1468, im1469, im1470, im1471, im1472, im1473, im1474, im1475, im1476, im1477, im1478, im1479⟩ := id hI1446
            refine lv_aload_n hx hb dX9_unit_147 rfl (lv_at hl 5 rfl) ?_
            refine va_calli (va_runV (As := []) (rest := []) ⟨hx, hb, hml, hown, hG⟩ (kX9_isGood l dC dI r ct i_taped i_size x1443 i_at i_end i_token i_number i_bank i_rb i_codes i_within i_piled i_unitsInRule i_askHouse i_askTune i_acts i_undone i_laid i_knowns i_time f_text f_tunes f_houses f_hums f_told f_many f_ruleFrom f_ruleTo f_code f_eWhat f_eSign f_all f_kept f_was f_sTune f_boxAll J1444 L H1441.size hI1446) (cwV 0 hG (goodV gw1401 gw1403 gw61 gw138 gw1404) rfl rfl rfl hd_X9_isGood ⟨(Nat.le_of_ble_eq_true rfl), (Nat.le_of_ble_eq_true rfl)⟩) ⟨fbR, va_recv hK hP (ci := 8) (q0 := 0) rfl rfl, pR_in hP hK⟩ rfl rfl hl.1 rfl (lv_room (Nat.le_of_ble_eq_true rfl)) dX9_unit_148 ⟨(Nat.le_of_ble_eq_true rfl), (Nat.le_of_ble_eq_true rfl)⟩) hS (fun q hq h => absurd hq (Nat.not_lt.mpr h)) (fun q h => hA q (Nat.le_trans hS.1 h)) (fun r_1481 u_ t_ H1480 locs ht hvm hw hB hz1 hk1 hS => ?_)
            subst hw
            have hP := wk hP hk1
            obtain ⟨f1482, f1483, f1484⟩ := hB
            refine lv_if_ne (tgt := 156) hx hb dX9_unit_151 (by decide) (fun c_1485 => ((ob_172 (qi_ne c_1485 rfl zc_0) f1445 f1482)).elim) (fun c_1485 => ?_)
            have f1486 : r_1481.toInt = 0 := qi_eq c_1485 rfl zc_0
            have f1487 : x1443.toInt ≠ (0 : Int) := (ob_173 im1464 f1445)
            have f1488 : (1 : Int) ≤ x1443.toInt := (ob_156 im1464 f1445)
            have f1489 : r_1481.toInt = (0 : Int) := (ob_165 f1483 f1484 f1486)
            refine lv_iconst (v := 1) hx hb dX9_unit_154 (by decide) ?_
            rw [hQ]
            exact W.zret (v := 1) hx hb hr (by decide) (fun t ht hW => ⟨⟨1, 1, rfl, rfl, ⟨x1443, i_at, i_end, i_token, i_number, i_codes, i_within, i_piled, i_unitsInRule, f_code, f_eWhat, f_eSign, J1444, L, by rw [ht]; exact hP, hD, hI1446, (ob_14 zc_1), (ob_15 zc_1), (fun h => ((ob_214 h im1464 f1445)).elim), (ob_215 hp5 hp7 hp8), (ob_216 hp2 hp4 hp7), (ob_88), (ob_217 f1445 zc_1)⟩⟩, hS.F ht⟩) hS.2.2 dX9_unit_155
        · skip
          have f1490 : i_unitsInRule.toInt = 30 := qi_eq c_1225 rfl zc_30
          refine lv_iconst (v := 1) hx hb dX9_unit_93 (by decide) ?_
          refine lv_goto (tgt := 98) hx hb dX9_unit_94 (by decide) ?_
          refine lv_istore (lv' := [(5, .int 1), (4, .int r_957), (3, .int r_952), (2, .int 1), (1, .int 1), (0, .ref (r 0))]) hx hb dX9_unit_98 hl (by decide) rfl (fun ls hl => ?_)
          refine lv_iload_n hx hb dX9_unit_100 rfl (lv_at hl 3 rfl) ?_
          refine lv_if_ne (tgt := 126) hx hb dX9_unit_101 (by decide) (fun c_1491 => ?_) (fun c_1491 => absurd c_1491 (by decide))
          refine lv_iload_n hx hb dX9_unit_126 rfl (lv_at hl 3 rfl) ?_
          refine lv_if_ne (tgt := 134) hx hb dX9_unit_127 (by decide) (fun c_1492 => ?_) (fun c_1492 => absurd c_1492 (by decide))
          refine lv_aload_n hx hb dX9_unit_134 rfl (lv_at hl 5 rfl) ?_
          refine gM_X9_299_0 hx hb hG hown hK hP dX9_unit_135 ?_
          refine lv_bipush (v := 7) hx hb dX9_unit_138 (by decide) ?_
          refine lv_icmp_ne (tgt := 147) hx hb dX9_unit_140 (by decide) (fun c_1493 => ?_) (fun c_1493 => ?_)
          · skip
            have f1494 : i_within.toInt ≠ 7 := qi_ne c_1493 rfl zc_7
            have f1495 : i_within.toInt ≤ (6 : Int) := (ob_250 hp4 f1494)
            refine lv_aload_n hx hb dX9_unit_147 rfl (lv_at hl 5 rfl) ?_
            refine va_calli (va_runV (As := []) (rest := []) ⟨hx, hb, hml, hown, hG⟩ (kX9_isGood l dC dI r ct i_taped i_size i_faultKind i_at i_end i_token i_number i_bank i_rb i_codes i_within i_piled i_unitsInRule i_askHouse i_askTune i_acts i_undone i_laid i_knowns i_time f_text f_tunes f_houses f_hums f_told f_many f_ruleFrom f_ruleTo f_code f_eWhat f_eSign f_all f_kept f_was f_sTune f_boxAll J L H956.size hI) (cwV 0 hG (goodV gw1401 gw1403 gw61 gw138 gw1404) rfl rfl rfl hd_X9_isGood ⟨(Nat.le_of_ble_eq_true rfl), (Nat.le_of_ble_eq_true rfl)⟩) ⟨fbR, va_recv hK hP (ci := 8) (q0 := 0) rfl rfl, pR_in hP hK⟩ rfl rfl hl.1 rfl (lv_room (Nat.le_of_ble_eq_true rfl)) dX9_unit_148 ⟨(Nat.le_of_ble_eq_true rfl), (Nat.le_of_ble_eq_true rfl)⟩) hS (fun q hq h => absurd hq (Nat.not_lt.mpr h)) (fun q h => hA q (Nat.le_trans hS.1 h)) (fun r_1497 u_ t_ H1496 locs ht hvm hw hB hz1 hk1 hS => ?_)
            subst hw
            have hP := wk hP hk1
            obtain ⟨f1498, f1499, f1500⟩ := hB
            refine lv_if_ne (tgt := 156) hx hb dX9_unit_151 (by decide) (fun c_1501 => ?_) (fun c_1501 => ((ob_167 (qi_eq c_1501 rfl zc_0) hp10 f1498)).elim)
            have f1502 : r_1497.toInt ≠ 0 := qi_ne c_1501 rfl zc_0
            have f1503 : i_faultKind.toInt = (0 : Int) := (ob_168 im17 hp10)
            have f1504 : r_1497.toInt = (1 : Int) := (ob_169 f1498 f1502)
            have f1505 : (1 : Int) ≤ r_1497.toInt := (ob_170 f1499 f1500 f1504)
            refine lv_aload_n hx hb dX9_unit_156 rfl (lv_at hl 5 rfl) ?_
            refine gM_X9_30_0 hx hb hG hown hK hP dX9_unit_157 ?_
            refine lv_aload_n hx hb dX9_unit_160 rfl (lv_at hl 5 rfl) ?_
            refine gM_X9_240_0 hx hb hG hown hK hP dX9_unit_161 ?_
            refine lv_dup2_11 hx hb dX9_unit_164 rfl rfl ?_
            refine ldM_6 (mm := i_rb.toInt) hx hb hK hP rfl (ob_212 im6) (ob_213 im7) dX9_unit_165 (fun x1506 => ?_)
            refine lv_iload_n hx hb dX9_unit_166 rfl (lv_at hl 3 rfl) ?_
            refine lv_if_eq (tgt := 174) hx hb dX9_unit_167 (by decide) (fun c_1507 => absurd c_1507 (by decide)) (fun c_1507 => ?_)
            refine lv_iconst (v := 0) hx hb dX9_unit_170 (by decide) ?_
            refine lv_goto (tgt := 175) hx hb dX9_unit_171 (by decide) ?_
            refine lv_iadd hx hb dX9_unit_175 ?_
            refine lv_topi (fun x1508 ex1508 => ?_)
            refine stM_6 (mm := i_rb.toInt) hx hb hK hP hD hS rfl (ob_212 im6) (ob_213 im7) dX9_unit_176 (fun J1510 H1509 locs hP hD hS => ?_)
            refine lv_aload_n hx hb dX9_unit_177 rfl (lv_at hl 5 rfl) ?_
            refine lv_dup hx hb dX9_unit_178 rfl ?_
            refine gM_X9_290_0 hx hb hG hown hK hP dX9_unit_179 ?_
            refine lv_iload_n hx hb dX9_unit_182 rfl (lv_at hl 3 rfl) ?_
            refine lv_if_eq (tgt := 190) hx hb dX9_unit_183 (by decide) (fun c_1511 => absurd c_1511 (by decide)) (fun c_1511 => ?_)
            refine lv_iconst (v := 0) hx hb dX9_unit_186 (by decide) ?_
            refine lv_goto (tgt := 191) hx hb dX9_unit_187 (by decide) ?_
            refine lv_iadd hx hb dX9_unit_191 ?_
            refine lv_topi (fun x1512 ex1512 => ?_)
            have f1513 : x1512.toInt = i_unitsInRule.toInt := (ob_259 (qi_add ex1512 rfl zc_0 (ob_257 hp1) (ob_258 hp2)))
            refine pM_X9_290_0 hx hb hG hown hK hP hD hS dX9_unit_192 (fun H1514 locs hP hD hS => ?_)
            refine lv_iload hx hb dX9_unit_195 (lv_at hl 1 rfl) ?_
            refine lv_if_ne (tgt := 207) hx hb dX9_unit_197 (by decide) (fun c_1515 => ?_) (fun c_1515 => ?_)
            · skip
              have f1516 : r_957.toInt ≠ 0 := qi_ne c_1515 rfl zc_0
              refine lv_iconst (v := 0) hx hb dX9_unit_207 (by decide) ?_
              refine lv_istore (lv' := [(6, .int 0), (5, .int 1), (4, .int r_957), (3, .int r_952), (2, .int 1), (1, .int 1), (0, .ref (r 0))]) hx hb dX9_unit_208 hl (by decide) rfl (fun ls hl => ?_)
              refine lv_aload_n hx hb dX9_unit_210 rfl (lv_at hl 6 rfl) ?_
              have hFc := frA hD hS hA
              refine va_callv (va_runV (As := []) (rest := []) ⟨hx, hb, hml, hown, hG⟩ (kX9_goOn l dC dI r ct i_taped i_size i_faultKind i_at i_end i_token i_number i_bank i_rb i_codes i_within i_piled x1512 i_askHouse i_askTune i_acts i_undone i_laid i_knowns i_time f_text f_tunes f_houses f_hums f_told f_many f_ruleFrom f_ruleTo f_code f_eWhat f_eSign f_all f_kept f_was f_sTune f_boxAll J1510 L H1514.size hI) (cwV 0 hG (goodV gw1362 gw1364 gw59 gw138 gw1365) rfl rfl rfl hd_X9_goOn ⟨(Nat.le_of_ble_eq_true rfl), (Nat.le_of_ble_eq_true rfl)⟩) ⟨fbW, va_recv hK hP (ci := 8) (q0 := 0) rfl rfl, pW_in hP hK hD⟩ rfl rfl hl.1 rfl (lv_room (Nat.le_of_ble_eq_true rfl)) dX9_unit_211 ⟨(Nat.le_of_ble_eq_true rfl), (Nat.le_of_ble_eq_true rfl)⟩) hS (fun q _ h => hFc q h) hFc (fun _ t_ H1517 locs ht hvm hw hB hz1 hk1 hS => ?_)
              obtain ⟨x1519, x1520, x1521, x1522, L1523, hP1, hD1, hI1527, f1524, f1525, f1526⟩ := hB
              rw [ht] at hP1
              have hP := hP1
              have hD := dW hFc hD1
              obtain ⟨im1528, im1529, im1530, im1531, im1532, im1533, im1534, im1535, im1536, im1537, im1538, im1539, im1540, im1541, im1542, im1543, im1544, im1545, im1546, im1547, im1548, im1549, im1550, im1551, im1552, im1553, im1554, im1555, im1556, im1557, im1558, im1559, im1560⟩ := id hI1527
              refine lv_iload_n hx hb dX9_unit_214 rfl (lv_at hl 4 rfl) ?_
              refine lv_if_ne (tgt := 222) hx hb dX9_unit_215 (by decide) (fun c_1561 => ?_) (fun c_1561 => absurd c_1561 (by decide))
              refine lv_aload_n hx hb dX9_unit_222 rfl (lv_at hl 6 rfl) ?_
              refine lv_iload_n hx hb dX9_unit_223 rfl (lv_at hl 4 rfl) ?_
              refine lv_if_eq (tgt := 231) hx hb dX9_unit_224 (by decide) (fun c_1562 => absurd c_1562 (by decide)) (fun c_1562 => ?_)
              refine lv_iconst (v := 3) hx hb dX9_unit_227 (by decide) ?_
              refine lv_goto (tgt := 233) hx hb dX9_unit_228 (by decide) ?_
              refine lv_bipush (v := 126) hx hb dX9_unit_233 (by decide) ?_
              have hFc := frA hD hS hA
              refine va_callv (va_runV (As := [.int 3, .int 126]) (rest := []) ⟨hx, hb, hml, hown, hG⟩ (kX9_pushE l dC dI r ct i_taped i_size i_faultKind x1519 x1520 x1521 x1522 i_bank i_rb i_codes i_within i_piled x1512 i_askHouse i_askTune i_acts i_undone i_laid i_knowns i_time f_text f_tunes f_houses f_hums f_told f_many f_ruleFrom f_ruleTo f_code f_eWhat f_eSign f_all f_kept f_was f_sTune f_boxAll J1510 L1523 3 126 H1517.size hI1527 (ob_215 hp5 hp7 hp8) (ob_251 hp2 hp4 hp7)) (cwV 2 hG (goodV gw1468 gw1470 gw77 gw138 gw1471) rfl rfl rfl hd_X9_pushE ⟨(Nat.le_of_ble_eq_true rfl), (Nat.le_of_ble_eq_true rfl)⟩) ⟨fbW, va_recv hK hP (ci := 8) (q0 := 0) rfl rfl, pW_in hP hK hD⟩ rfl rfl hl.1 rfl (lv_room (Nat.le_of_ble_eq_true rfl)) dX9_unit_235 ⟨(Nat.le_of_ble_eq_true rfl), (Nat.le_of_ble_eq_true rfl)⟩) hS (fun q _ h => hFc q h) hFc (fun _ t_ H1563 locs ht hvm hw hB hz1 hk1 hS => ?_)
              obtain ⟨x1565, z1566, z1567, hP1, hD1, hI1571, f1568, f1569, f1570⟩ := hB
              rw [ht] at hP1
              have hP := hP1
              have hD := dW hFc hD1
              obtain ⟨im1572, im1573, im1574, im1575, im1576, im1577, im1578, im1579, im1580, im1581, im1582, im1583, im1584, im1585, im1586, im1587, im1588, im1589, im1590, im1591, im1592, im1593, im1594, im1595, im1596, im1597, im1598, im1599, im1600, im1601, im1602, im1603, im1604⟩ := id hI1571
              have f1605 : (z1566 ((0 : Int)).toNat).toInt = (f_eWhat ((0 : Int)).toNat).toInt := (by rw [f1569, upd_off (ne0 (ob_252 hp5))])
              refine lv_aload_n hx hb dX9_unit_238 rfl (lv_at hl 6 rfl) ?_
              refine lv_dup hx hb dX9_unit_239 rfl ?_
              refine gM_X9_299_0 hx hb hG hown hK hP dX9_unit_240 ?_
              refine lv_iconst (v := 1) hx hb dX9_unit_243 (by decide) ?_
              refine lv_iadd hx hb dX9_unit_244 ?_
              refine lv_topi (fun x1606 ex1606 => ?_)
              have f1607 : x1606.toInt = i_within.toInt + 1 := (ob_84 (qi_add ex1606 rfl zc_1 (ob_82 hp3) (ob_253 hp4)))
              refine pM_X9_299_0 hx hb hG hown hK hP hD hS dX9_unit_245 (fun H1608 locs hP hD hS => ?_)
              refine lv_iconst (v := 1) hx hb dX9_unit_248 (by decide) ?_
              rw [hQ]
              exact W.zret (v := 1) hx hb hr (by decide) (fun t ht hW => ⟨⟨1, 1, rfl, rfl, ⟨i_faultKind, x1519, x1520, x1521, x1522, i_codes, x1606, x1565, x1512, f_code, z1566, z1567, J1510, L1523, by rw [ht]; exact hP, hD, hI1571, (ob_14 zc_1), (ob_15 zc_1), (fun _ => SPpush hp11 f1569 f1570 (ob_252 hp5) (ob_84 f1568) (Or.inl (ob_260 zc_1 f1607 zc_126 zc_3))), (ob_141 hp5 f1568), (ob_255 hp2 hp4 hp7 f1568), (ob_87 f1524), (ob_261 im17 hp2 hp3 hp4 hp5 hp6 hp7 hp8 hp9 f12 f947 f1494 f1526 f1568 f1605 zc_1 f1607 f1513)⟩⟩, hS.F ht⟩) hS.2.2 dX9_unit_249
            · skip
              have f1609 : r_957.toInt = 0 := qi_eq c_1515 rfl zc_0
              have f1610 : r_957.toInt = (0 : Int) := (ob_218 f1609)
              refine lv_aload_n hx hb dX9_unit_200 rfl (lv_at hl 5 rfl) ?_
              refine gM_X9_209_0 hx hb hG hown hK hP dX9_unit_201 ?_
              refine lv_goto (tgt := 208) hx hb dX9_unit_204 (by decide) ?_
              refine lv_istore (lv' := [(6, .int i_number), (5, .int 1), (4, .int r_957), (3, .int r_952), (2, .int 1), (1, .int 1), (0, .ref (r 0))]) hx hb dX9_unit_208 hl (by decide) rfl (fun ls hl => ?_)
              refine lv_aload_n hx hb dX9_unit_210 rfl (lv_at hl 6 rfl) ?_
              have hFc := frA hD hS hA
              refine va_callv (va_runV (As := []) (rest := []) ⟨hx, hb, hml, hown, hG⟩ (kX9_goOn l dC dI r ct i_taped i_size i_faultKind i_at i_end i_token i_number i_bank i_rb i_codes i_within i_piled x1512 i_askHouse i_askTune i_acts i_undone i_laid i_knowns i_time f_text f_tunes f_houses f_hums f_told f_many f_ruleFrom f_ruleTo f_code f_eWhat f_eSign f_all f_kept f_was f_sTune f_boxAll J1510 L H1514.size hI) (cwV 0 hG (goodV gw1362 gw1364 gw59 gw138 gw1365) rfl rfl rfl hd_X9_goOn ⟨(Nat.le_of_ble_eq_true rfl), (Nat.le_of_ble_eq_true rfl)⟩) ⟨fbW, va_recv hK hP (ci := 8) (q0 := 0) rfl rfl, pW_in hP hK hD⟩ rfl rfl hl.1 rfl (lv_room (Nat.le_of_ble_eq_true rfl)) dX9_unit_211 ⟨(Nat.le_of_ble_eq_true rfl), (Nat.le_of_ble_eq_true rfl)⟩) hS (fun q _ h => hFc q h) hFc (fun _ t_ H1611 locs ht hvm hw hB hz1 hk1 hS => ?_)
              obtain ⟨x1613, x1614, x1615, x1616, L1617, hP1, hD1, hI1621, f1618, f1619, f1620⟩ := hB
              rw [ht] at hP1
              have hP := hP1
              have hD := dW hFc hD1
              obtain ⟨im1622, im1623, im1624, im1625, im1626, im1627, im1628, im1629, im1630, im1631, im1632, im1633, im1634, im1635, im1636, im1637, im1638, im1639, im1640, im1641, im1642, im1643, im1644, im1645, im1646, im1647, im1648, im1649, im1650, im1651, im1652, im1653, im1654⟩ := id hI1621
              refine lv_iload_n hx hb dX9_unit_214 rfl (lv_at hl 4 rfl) ?_
              refine lv_if_ne (tgt := 222) hx hb dX9_unit_215 (by decide) (fun c_1655 => ?_) (fun c_1655 => absurd c_1655 (by decide))
              refine lv_aload_n hx hb dX9_unit_222 rfl (lv_at hl 6 rfl) ?_
              refine lv_iload_n hx hb dX9_unit_223 rfl (lv_at hl 4 rfl) ?_
              refine lv_if_eq (tgt := 231) hx hb dX9_unit_224 (by decide) (fun c_1656 => absurd c_1656 (by decide)) (fun c_1656 => ?_)
              refine lv_iconst (v := 3) hx hb dX9_unit_227 (by decide) ?_
              refine lv_goto (tgt := 233) hx hb dX9_unit_228 (by decide) ?_
              refine lv_bipush (v := 126) hx hb dX9_unit_233 (by decide) ?_
              have hFc := frA hD hS hA
              refine va_callv (va_runV (As := [.int 3, .int 126]) (rest := []) ⟨hx, hb, hml, hown, hG⟩ (kX9_pushE l dC dI r ct i_taped i_size i_faultKind x1613 x1614 x1615 x1616 i_bank i_rb i_codes i_within i_piled x1512 i_askHouse i_askTune i_acts i_undone i_laid i_knowns i_time f_text f_tunes f_houses f_hums f_told f_many f_ruleFrom f_ruleTo f_code f_eWhat f_eSign f_all f_kept f_was f_sTune f_boxAll J1510 L1617 3 126 H1611.size hI1621 (ob_215 hp5 hp7 hp8) (ob_251 hp2 hp4 hp7)) (cwV 2 hG (goodV gw1468 gw1470 gw77 gw138 gw1471) rfl rfl rfl hd_X9_pushE ⟨(Nat.le_of_ble_eq_true rfl), (Nat.le_of_ble_eq_true rfl)⟩) ⟨fbW, va_recv hK hP (ci := 8) (q0 := 0) rfl rfl, pW_in hP hK hD⟩ rfl rfl hl.1 rfl (lv_room (Nat.le_of_ble_eq_true rfl)) dX9_unit_235 ⟨(Nat.le_of_ble_eq_true rfl), (Nat.le_of_ble_eq_true rfl)⟩) hS (fun q _ h => hFc q h) hFc (fun _ t_ H1657 locs ht hvm hw hB hz1 hk1 hS => ?_)
              obtain ⟨x1659, z1660, z1661, hP1, hD1, hI1665, f1662, f1663, f1664⟩ := hB
              rw [ht] at hP1
              have hP := hP1
              have hD := dW hFc hD1
              obtain ⟨im1666, im1667, im1668, im1669, im1670, im1671, im1672, im1673, im1674, im1675, im1676, im1677, im1678, im1679, im1680, im1681, im1682, im1683, im1684, im1685, im1686, im1687, im1688, im1689, im1690, im1691, im1692, im1693, im1694, im1695, im1696, im1697, im1698⟩ := id hI1665
              have f1699 : (z1660 ((0 : Int)).toNat).toInt = (f_eWhat ((0 : Int)).toNat).toInt := (by rw [f1663, upd_off (ne0 (ob_252 hp5))])
              refine lv_aload_n hx hb dX9_unit_238 rfl (lv_at hl 6 rfl) ?_
              refine lv_dup hx hb dX9_unit_239 rfl ?_
              refine gM_X9_299_0 hx hb hG hown hK hP dX9_unit_240 ?_
              refine lv_iconst (v := 1) hx hb dX9_unit_243 (by decide) ?_
              refine lv_iadd hx hb dX9_unit_244 ?_
              refine lv_topi (fun x1700 ex1700 => ?_)
              have f1701 : x1700.toInt = i_within.toInt + 1 := (ob_84 (qi_add ex1700 rfl zc_1 (ob_82 hp3) (ob_253 hp4)))
              refine pM_X9_299_0 hx hb hG hown hK hP hD hS dX9_unit_245 (fun H1702 locs hP hD hS => ?_)
              refine lv_iconst (v := 1) hx hb dX9_unit_248 (by decide) ?_
              rw [hQ]
              exact W.zret (v := 1) hx hb hr (by decide) (fun t ht hW => ⟨⟨1, 1, rfl, rfl, ⟨i_faultKind, x1613, x1614, x1615, x1616, i_codes, x1700, x1659, x1512, f_code, z1660, z1661, J1510, L1617, by rw [ht]; exact hP, hD, hI1665, (ob_14 zc_1), (ob_15 zc_1), (fun _ => SPpush hp11 f1663 f1664 (ob_252 hp5) (ob_84 f1662) (Or.inl (ob_260 zc_1 f1701 zc_126 zc_3))), (ob_141 hp5 f1662), (ob_255 hp2 hp4 hp7 f1662), (ob_87 f1618), (ob_261 im17 hp2 hp3 hp4 hp5 hp6 hp7 hp8 hp9 f12 f947 f1494 f1620 f1662 f1699 zc_1 f1701 f1513)⟩⟩, hS.F ht⟩) hS.2.2 dX9_unit_249
          · skip
            have f1703 : i_within.toInt = 7 := qi_eq c_1493 rfl zc_7
            refine lv_aload_n hx hb dX9_unit_143 rfl (lv_at hl 5 rfl) ?_
            have hFc := frA hD hS hA
            refine va_callv (va_runV (As := []) (rest := []) ⟨hx, hb, hml, hown, hG⟩ (kX9_misplaced l dC dI r ct i_taped i_size i_faultKind i_at i_end i_token i_number i_bank i_rb i_codes i_within i_piled i_unitsInRule i_askHouse i_askTune i_acts i_undone i_laid i_knowns i_time f_text f_tunes f_houses f_hums f_told f_many f_ruleFrom f_ruleTo f_code f_eWhat f_eSign f_all f_kept f_was f_sTune f_boxAll J L H956.size hI) (cwV 0 hG (goodV gw1420 gw1422 gw65 gw138 gw1423) rfl rfl rfl hd_X9_misplaced ⟨(Nat.le_of_ble_eq_true rfl), (Nat.le_of_ble_eq_true rfl)⟩) ⟨fbW, va_recv hK hP (ci := 8) (q0 := 0) rfl rfl, pW_in hP hK hD⟩ rfl rfl hl.1 rfl (lv_room (Nat.le_of_ble_eq_true rfl)) dX9_unit_144 ⟨(Nat.le_of_ble_eq_true rfl), (Nat.le_of_ble_eq_true rfl)⟩) hS (fun q _ h => hFc q h) hFc (fun _ t_ H1704 locs ht hvm hw hB hz1 hk1 hS => ?_)
            obtain ⟨x1706, J1707, hP1, hD1, hI1709, f1708⟩ := hB
            rw [ht] at hP1
            have hP := hP1
            have hD := dW hFc hD1
            obtain ⟨im1710, im1711, im1712, im1713, im1714, im1715, im1716, im1717, im1718, im1719, im1720, im1721, im1722, im1723, im1724, im1725, im1726, im1727, im1728, im1729, im1730, im1731, im1732, im1733, im1734, im1735, im1736, im1737, im1738, im1739, im1740, im1741, im1742⟩ := id hI1709
            refine lv_aload_n hx hb dX9_unit_147 rfl (lv_at hl 5 rfl) ?_
            refine va_calli (va_runV (As := []) (rest := []) ⟨hx, hb, hml, hown, hG⟩ (kX9_isGood l dC dI r ct i_taped i_size x1706 i_at i_end i_token i_number i_bank i_rb i_codes i_within i_piled i_unitsInRule i_askHouse i_askTune i_acts i_undone i_laid i_knowns i_time f_text f_tunes f_houses f_hums f_told f_many f_ruleFrom f_ruleTo f_code f_eWhat f_eSign f_all f_kept f_was f_sTune f_boxAll J1707 L H1704.size hI1709) (cwV 0 hG (goodV gw1401 gw1403 gw61 gw138 gw1404) rfl rfl rfl hd_X9_isGood ⟨(Nat.le_of_ble_eq_true rfl), (Nat.le_of_ble_eq_true rfl)⟩) ⟨fbR, va_recv hK hP (ci := 8) (q0 := 0) rfl rfl, pR_in hP hK⟩ rfl rfl hl.1 rfl (lv_room (Nat.le_of_ble_eq_true rfl)) dX9_unit_148 ⟨(Nat.le_of_ble_eq_true rfl), (Nat.le_of_ble_eq_true rfl)⟩) hS (fun q hq h => absurd hq (Nat.not_lt.mpr h)) (fun q h => hA q (Nat.le_trans hS.1 h)) (fun r_1744 u_ t_ H1743 locs ht hvm hw hB hz1 hk1 hS => ?_)
            subst hw
            have hP := wk hP hk1
            obtain ⟨f1745, f1746, f1747⟩ := hB
            refine lv_if_ne (tgt := 156) hx hb dX9_unit_151 (by decide) (fun c_1748 => ((ob_172 (qi_ne c_1748 rfl zc_0) f1708 f1745)).elim) (fun c_1748 => ?_)
            have f1749 : r_1744.toInt = 0 := qi_eq c_1748 rfl zc_0
            have f1750 : x1706.toInt ≠ (0 : Int) := (ob_173 im1727 f1708)
            have f1751 : (1 : Int) ≤ x1706.toInt := (ob_156 im1727 f1708)
            have f1752 : r_1744.toInt = (0 : Int) := (ob_165 f1746 f1747 f1749)
            refine lv_iconst (v := 1) hx hb dX9_unit_154 (by decide) ?_
            rw [hQ]
            exact W.zret (v := 1) hx hb hr (by decide) (fun t ht hW => ⟨⟨1, 1, rfl, rfl, ⟨x1706, i_at, i_end, i_token, i_number, i_codes, i_within, i_piled, i_unitsInRule, f_code, f_eWhat, f_eSign, J1707, L, by rw [ht]; exact hP, hD, hI1709, (ob_14 zc_1), (ob_15 zc_1), (fun h => ((ob_214 h im1727 f1708)).elim), (ob_215 hp5 hp7 hp8), (ob_216 hp2 hp4 hp7), (ob_88), (ob_217 f1708 zc_1)⟩⟩, hS.F ht⟩) hS.2.2 dX9_unit_155
  · skip
    have f1753 : 3 < (f_eWhat (i_piled.toInt + (-1)).toNat).toInt := qi_nle c_6 rfl zc_3
    refine lv_aload_n hx hb dX9_unit_15 rfl (lv_at hl 0 rfl) ?_
    refine gM_X9_79_0 hx hb hG hown hK hP dX9_unit_16 ?_
    refine lv_aload_n hx hb dX9_unit_19 rfl (lv_at hl 0 rfl) ?_
    refine gM_X9_296_0 hx hb hG hown hK hP dX9_unit_20 ?_
    refine lv_iconst (v := 1) hx hb dX9_unit_23 (by decide) ?_
    refine lv_isub hx hb dX9_unit_24 ?_
    refine lv_topi (fun x1754 ex1754 => ?_)
    have f1755 : x1754.toInt = i_piled.toInt + (-1) := (ob_208 (qi_sub ex1754 rfl zc_1 (ob_206 hp5 hp7 hp8) (ob_207 hp2 hp4 hp7)))
    refine ldM_22 (mm := i_piled.toInt + (-1)) hx hb hK hP f1755 (ob_209 hp5 hp7 hp8) (ob_210 hp2 hp4 hp7) dX9_unit_25 ?_
    refine lv_bipush (v := 7) hx hb dX9_unit_26 (by decide) ?_
    refine lv_icmp_lt (tgt := 35) hx hb dX9_unit_28 (by decide) (fun c_1756 => ?_) (fun c_1756 => ?_)
    · skip
      have f1757 : (f_eWhat (i_piled.toInt + (-1)).toNat).toInt < 7 := qi_lt c_1756 rfl zc_7
      have f1758 : i_piled.toInt ≠ (1 : Int) := (ob_262 hp9 f5 f1757)
      refine lv_iconst (v := 0) hx hb dX9_unit_35 (by decide) ?_
      refine lv_istore_n (lv' := [(1, .int 0), (0, .ref (r 0))]) hx hb dX9_unit_36 rfl hl (by decide) rfl (fun ls hl => ?_)
      refine lv_iload_n hx hb dX9_unit_37 rfl (lv_at hl 0 rfl) ?_
      refine lv_if_eq (tgt := 55) hx hb dX9_unit_38 (by decide) (fun c_1759 => ?_) (fun c_1759 => absurd (by decide) c_1759)
      refine lv_iconst (v := 0) hx hb dX9_unit_55 (by decide) ?_
      refine lv_istore_n (lv' := [(2, .int 0), (1, .int 0), (0, .ref (r 0))]) hx hb dX9_unit_56 rfl hl (by decide) rfl (fun ls hl => ?_)
      refine lv_aload_n hx hb dX9_unit_57 rfl (lv_at hl 2 rfl) ?_
      refine lv_bipush (v := 40) hx hb dX9_unit_58 (by decide) ?_
      refine va_calli (va_runV (As := [.int 40]) (rest := []) ⟨hx, hb, hml, hown, hG⟩ (kX9_isSignHere l dC dI r ct i_taped i_size i_faultKind i_at i_end i_token i_number i_bank i_rb i_codes i_within i_piled i_unitsInRule i_askHouse i_askTune i_acts i_undone i_laid i_knowns i_time f_text f_tunes f_houses f_hums f_told f_many f_ruleFrom f_ruleTo f_code f_eWhat f_eSign f_all f_kept f_was f_sTune f_boxAll J L 40 s.heap.size hI) (cwV 1 hG (goodV gw1476 gw1478 gw79 gw138 gw1479) rfl rfl rfl hd_X9_isSignHere ⟨(Nat.le_of_ble_eq_true rfl), (Nat.le_of_ble_eq_true rfl)⟩) ⟨fbR, va_recv hK hP (ci := 8) (q0 := 0) rfl rfl, pR_in hP hK⟩ rfl rfl hl.1 rfl (lv_room (Nat.le_of_ble_eq_true rfl)) dX9_unit_60 ⟨(Nat.le_of_ble_eq_true rfl), (Nat.le_of_ble_eq_true rfl)⟩) hS (fun q hq h => absurd hq (Nat.not_lt.mpr h)) (fun q h => hA q (Nat.le_trans hS.1 h)) (fun r_1761 u_ t_ H1760 locs ht hvm hw hB hz1 hk1 hS => ?_)
      subst hw
      have hP := wk hP hk1
      obtain ⟨f1762, f1763, f1764⟩ := hB
      refine lv_istore_n (lv' := [(3, .int r_1761), (2, .int 0), (1, .int 0), (0, .ref (r 0))]) hx hb dX9_unit_63 rfl hl (by decide) rfl (fun ls hl => ?_)
      refine lv_aload_n hx hb dX9_unit_64 rfl (lv_at hl 3 rfl) ?_
      refine va_calli (va_runV (As := []) (rest := []) ⟨hx, hb, hml, hown, hG⟩ (kX9_wordHere l dC dI r ct i_taped i_size i_faultKind i_at i_end i_token i_number i_bank i_rb i_codes i_within i_piled i_unitsInRule i_askHouse i_askTune i_acts i_undone i_laid i_knowns i_time f_text f_tunes f_houses f_hums f_told f_many f_ruleFrom f_ruleTo f_code f_eWhat f_eSign f_all f_kept f_was f_sTune f_boxAll J L H1760.size hI) (cwV 0 hG (goodV gw1480 gw1482 gw80 gw138 gw1483) rfl rfl rfl hd_X9_wordHere ⟨(Nat.le_of_ble_eq_true rfl), (Nat.le_of_ble_eq_true rfl)⟩) ⟨fbR, va_recv hK hP (ci := 8) (q0 := 0) rfl rfl, pR_in hP hK⟩ rfl rfl hl.1 rfl (lv_room (Nat.le_of_ble_eq_true rfl)) dX9_unit_65 ⟨(Nat.le_of_ble_eq_true rfl), (Nat.le_of_ble_eq_true rfl)⟩) hS (fun q hq h => absurd hq (Nat.not_lt.mpr h)) (fun q h => hA q (Nat.le_trans hS.1 h)) (fun r_1766 u_ t_ H1765 locs ht hvm hw hB hz1 hk1 hS => ?_)
      subst hw
      have hP := wk hP hk1
      have f1767 := hB
      refine lv_istore (lv' := [(4, .int r_1766), (3, .int r_1761), (2, .int 0), (1, .int 0), (0, .ref (r 0))]) hx hb dX9_unit_68 hl (by decide) rfl (fun ls hl => ?_)
      refine lv_aload_n hx hb dX9_unit_70 rfl (lv_at hl 4 rfl) ?_
      refine gM_X9_30_0 hx hb hG hown hK hP dX9_unit_71 ?_
      refine lv_aload_n hx hb dX9_unit_74 rfl (lv_at hl 4 rfl) ?_
      refine gM_X9_240_0 hx hb hG hown hK hP dX9_unit_75 ?_
      refine ldM_6 (mm := i_rb.toInt) hx hb hK hP rfl (ob_212 im6) (ob_213 im7) dX9_unit_78 (fun x1768 => ?_)
      refine lv_bipush (v := 60) hx hb dX9_unit_79 (by decide) ?_
      refine lv_icmp_eq (tgt := 93) hx hb dX9_unit_81 (by decide) (fun c_1769 => ?_) (fun c_1769 => ?_)
      · skip
        have f1770 : x1768.toInt = 60 := qi_eq c_1769 rfl zc_60
        refine lv_iconst (v := 1) hx hb dX9_unit_93 (by decide) ?_
        refine lv_goto (tgt := 98) hx hb dX9_unit_94 (by decide) ?_
        refine lv_istore (lv' := [(5, .int 1), (4, .int r_1766), (3, .int r_1761), (2, .int 0), (1, .int 0), (0, .ref (r 0))]) hx hb dX9_unit_98 hl (by decide) rfl (fun ls hl => ?_)
        refine lv_iload_n hx hb dX9_unit_100 rfl (lv_at hl 3 rfl) ?_
        refine lv_if_ne (tgt := 126) hx hb dX9_unit_101 (by decide) (fun c_1771 => absurd (by decide) c_1771) (fun c_1771 => ?_)
        refine lv_iload hx hb dX9_unit_104 (lv_at hl 1 rfl) ?_
        refine lv_if_ne (tgt := 121) hx hb dX9_unit_106 (by decide) (fun c_1772 => ?_) (fun c_1772 => ?_)
        · skip
          have f1773 : r_1766.toInt ≠ 0 := qi_ne c_1772 rfl zc_0
          refine lv_iload hx hb dX9_unit_121 (lv_at hl 0 rfl) ?_
          refine lv_if_ne (tgt := 143) hx hb dX9_unit_123 (by decide) (fun c_1774 => ?_) (fun c_1774 => absurd c_1774 (by decide))
          refine lv_aload_n hx hb dX9_unit_143 rfl (lv_at hl 5 rfl) ?_
          have hFc := frA hD hS hA
          refine va_callv (va_runV (As := []) (rest := []) ⟨hx, hb, hml, hown, hG⟩ (kX9_misplaced l dC dI r ct i_taped i_size i_faultKind i_at i_end i_token i_number i_bank i_rb i_codes i_within i_piled i_unitsInRule i_askHouse i_askTune i_acts i_undone i_laid i_knowns i_time f_text f_tunes f_houses f_hums f_told f_many f_ruleFrom f_ruleTo f_code f_eWhat f_eSign f_all f_kept f_was f_sTune f_boxAll J L H1765.size hI) (cwV 0 hG (goodV gw1420 gw1422 gw65 gw138 gw1423) rfl rfl rfl hd_X9_misplaced ⟨(Nat.le_of_ble_eq_true rfl), (Nat.le_of_ble_eq_true rfl)⟩) ⟨fbW, va_recv hK hP (ci := 8) (q0 := 0) rfl rfl, pW_in hP hK hD⟩ rfl rfl hl.1 rfl (lv_room (Nat.le_of_ble_eq_true rfl)) dX9_unit_144 ⟨(Nat.le_of_ble_eq_true rfl), (Nat.le_of_ble_eq_true rfl)⟩) hS (fun q _ h => hFc q h) hFc (fun _ t_ H1775 locs ht hvm hw hB hz1 hk1 hS => ?_)
          obtain ⟨x1777, J1778, hP1, hD1, hI1780, f1779⟩ := hB
          rw [ht] at hP1
          have hP := hP1
          have hD := dW hFc hD1
          obtain ⟨im1781, im1782, im1783, im1784, im1785, im1786, im1787, im1788, im1789, im1790, im1791, im1792, im1793, im1794, im1795, im1796, im1797, im1798, im1799, im1800, im1801, im1802, im1803, im1804, im1805, im1806, im1807, im1808, im1809, im1810, im1811, im1812, im1813⟩ := id hI1780
          refine lv_aload_n hx hb dX9_unit_147 rfl (lv_at hl 5 rfl) ?_
          refine va_calli (va_runV (As := []) (rest := []) ⟨hx, hb, hml, hown, hG⟩ (kX9_isGood l dC dI r ct i_taped i_size x1777 i_at i_end i_token i_number i_bank i_rb i_codes i_within i_piled i_unitsInRule i_askHouse i_askTune i_acts i_undone i_laid i_knowns i_time f_text f_tunes f_houses f_hums f_told f_many f_ruleFrom f_ruleTo f_code f_eWhat f_eSign f_all f_kept f_was f_sTune f_boxAll J1778 L H1775.size hI1780) (cwV 0 hG (goodV gw1401 gw1403 gw61 gw138 gw1404) rfl rfl rfl hd_X9_isGood ⟨(Nat.le_of_ble_eq_true rfl), (Nat.le_of_ble_eq_true rfl)⟩) ⟨fbR, va_recv hK hP (ci := 8) (q0 := 0) rfl rfl, pR_in hP hK⟩ rfl rfl hl.1 rfl (lv_room (Nat.le_of_ble_eq_true rfl)) dX9_unit_148 ⟨(Nat.le_of_ble_eq_true rfl), (Nat.le_of_ble_eq_true rfl)⟩) hS (fun q hq h => absurd hq (Nat.not_lt.mpr h)) (fun q h => hA q (Nat.le_trans hS.1 h)) (fun r_1815 u_ t_ H1814 locs ht hvm hw hB hz1 hk1 hS => ?_)
          subst hw
          have hP := wk hP hk1
          obtain ⟨f1816, f1817, f1818⟩ := hB
          refine lv_if_ne (tgt := 156) hx hb dX9_unit_151 (by decide) (fun c_1819 => ((ob_172 (qi_ne c_1819 rfl zc_0) f1779 f1816)).elim) (fun c_1819 => ?_)
          have f1820 : r_1815.toInt = 0 := qi_eq c_1819 rfl zc_0
          have f1821 : x1777.toInt ≠ (0 : Int) := (ob_173 im1798 f1779)
          have f1822 : (1 : Int) ≤ x1777.toInt := (ob_156 im1798 f1779)
          have f1823 : r_1815.toInt = (0 : Int) := (ob_165 f1817 f1818 f1820)
          refine lv_iconst (v := 1) hx hb dX9_unit_154 (by decide) ?_
          rw [hQ]
          exact W.zret (v := 1) hx hb hr (by decide) (fun t ht hW => ⟨⟨1, 1, rfl, rfl, ⟨x1777, i_at, i_end, i_token, i_number, i_codes, i_within, i_piled, i_unitsInRule, f_code, f_eWhat, f_eSign, J1778, L, by rw [ht]; exact hP, hD, hI1780, (ob_14 zc_1), (ob_15 zc_1), (fun h => ((ob_214 h im1798 f1779)).elim), (ob_215 hp5 hp7 hp8), (ob_216 hp2 hp4 hp7), (ob_88), (ob_217 f1779 zc_1)⟩⟩, hS.F ht⟩) hS.2.2 dX9_unit_155
        · skip
          have f1824 : r_1766.toInt = 0 := qi_eq c_1772 rfl zc_0
          have f1825 : r_1766.toInt = (0 : Int) := (ob_218 f1824)
          refine lv_aload_n hx hb dX9_unit_109 rfl (lv_at hl 5 rfl) ?_
          refine gM_X9_191_0 hx hb hG hown hK hP dX9_unit_110 ?_
          refine lv_iconst (v := 4) hx hb dX9_unit_113 (by decide) ?_
          refine lv_icmp_eq (tgt := 121) hx hb dX9_unit_114 (by decide) (fun c_1826 => ?_) (fun c_1826 => ?_)
          · skip
            have f1827 : i_token.toInt = 4 := qi_eq c_1826 rfl zc_4
            have f1828 : i_token.toInt ≠ (5 : Int) := (ob_220 f1827)
            have f1829 : r_1761.toInt = (0 : Int) := (ob_221 f1762 f1827 zc_40)
            have f1830 : i_token.toInt ≤ (4 : Int) := (ob_263 f1827)
            refine lv_iload hx hb dX9_unit_121 (lv_at hl 0 rfl) ?_
            refine lv_if_ne (tgt := 143) hx hb dX9_unit_123 (by decide) (fun c_1831 => ?_) (fun c_1831 => absurd c_1831 (by decide))
            refine lv_aload_n hx hb dX9_unit_143 rfl (lv_at hl 5 rfl) ?_
            have hFc := frA hD hS hA
            refine va_callv (va_runV (As := []) (rest := []) ⟨hx, hb, hml, hown, hG⟩ (kX9_misplaced l dC dI r ct i_taped i_size i_faultKind i_at i_end i_token i_number i_bank i_rb i_codes i_within i_piled i_unitsInRule i_askHouse i_askTune i_acts i_undone i_laid i_knowns i_time f_text f_tunes f_houses f_hums f_told f_many f_ruleFrom f_ruleTo f_code f_eWhat f_eSign f_all f_kept f_was f_sTune f_boxAll J L H1765.size hI) (cwV 0 hG (goodV gw1420 gw1422 gw65 gw138 gw1423) rfl rfl rfl hd_X9_misplaced ⟨(Nat.le_of_ble_eq_true rfl), (Nat.le_of_ble_eq_true rfl)⟩) ⟨fbW, va_recv hK hP (ci := 8) (q0 := 0) rfl rfl, pW_in hP hK hD⟩ rfl rfl hl.1 rfl (lv_room (Nat.le_of_ble_eq_true rfl)) dX9_unit_144 ⟨(Nat.le_of_ble_eq_true rfl), (Nat.le_of_ble_eq_true rfl)⟩) hS (fun q _ h => hFc q h) hFc (fun _ t_ H1832 locs ht hvm hw hB hz1 hk1 hS => ?_)
            obtain ⟨x1834, J1835, hP1, hD1, hI1837, f1836⟩ := hB
            rw [ht] at hP1
            have hP := hP1
            have hD := dW hFc hD1
            obtain ⟨im1838, im1839, im1840, im1841, im1842, im1843, im1844, im1845, im1846, im1847, im1848, im1849, im1850, im1851, im1852, im1853, im1854, im1855, im1856, im1857, im1858, im1859, im1860, im1861, im1862, im1863, im1864, im1865, im1866, im1867, im1868, im1869, im1870⟩ := id hI1837
            refine lv_aload_n hx hb dX9_unit_147 rfl (lv_at hl 5 rfl) ?_
            refine va_calli (va_runV (As := []) (rest := []) ⟨hx, hb, hml, hown, hG⟩ (kX9_isGood l dC dI r ct i_taped i_size x1834 i_at i_end i_token i_number i_bank i_rb i_codes i_within i_piled i_unitsInRule i_askHouse i_askTune i_acts i_undone i_laid i_knowns i_time f_text f_tunes f_houses f_hums f_told f_many f_ruleFrom f_ruleTo f_code f_eWhat f_eSign f_all f_kept f_was f_sTune f_boxAll J1835 L H1832.size hI1837) (cwV 0 hG (goodV gw1401 gw1403 gw61 gw138 gw1404) rfl rfl rfl hd_X9_isGood ⟨(Nat.le_of_ble_eq_true rfl), (Nat.le_of_ble_eq_true rfl)⟩) ⟨fbR, va_recv hK hP (ci := 8) (q0 := 0) rfl rfl, pR_in hP hK⟩ rfl rfl hl.1 rfl (lv_room (Nat.le_of_ble_eq_true rfl)) dX9_unit_148 ⟨(Nat.le_of_ble_eq_true rfl), (Nat.le_of_ble_eq_true rfl)⟩) hS (fun q hq h => absurd hq (Nat.not_lt.mpr h)) (fun q h => hA q (Nat.le_trans hS.1 h)) (fun r_1872 u_ t_ H1871 locs ht hvm hw hB hz1 hk1 hS => ?_)
            subst hw
            have hP := wk hP hk1
            obtain ⟨f1873, f1874, f1875⟩ := hB
            refine lv_if_ne (tgt := 156) hx hb dX9_unit_151 (by decide) (fun c_1876 => ((ob_172 (qi_ne c_1876 rfl zc_0) f1836 f1873)).elim) (fun c_1876 => ?_)
            have f1877 : r_1872.toInt = 0 := qi_eq c_1876 rfl zc_0
            have f1878 : x1834.toInt ≠ (0 : Int) := (ob_173 im1855 f1836)
            have f1879 : (1 : Int) ≤ x1834.toInt := (ob_156 im1855 f1836)
            have f1880 : r_1872.toInt = (0 : Int) := (ob_165 f1874 f1875 f1877)
            refine lv_iconst (v := 1) hx hb dX9_unit_154 (by decide) ?_
            rw [hQ]
            exact W.zret (v := 1) hx hb hr (by decide) (fun t ht hW => ⟨⟨1, 1, rfl, rfl, ⟨x1834, i_at, i_end, i_token, i_number, i_codes, i_within, i_piled, i_unitsInRule, f_code, f_eWhat, f_eSign, J1835, L, by rw [ht]; exact hP, hD, hI1837, (ob_14 zc_1), (ob_15 zc_1), (fun h => ((ob_214 h im1855 f1836)).elim), (ob_215 hp5 hp7 hp8), (ob_216 hp2 hp4 hp7), (ob_88), (ob_217 f1836 zc_1)⟩⟩, hS.F ht⟩) hS.2.2 dX9_unit_155
          · skip
            have f1881 : i_token.toInt ≠ 4 := qi_ne c_1826 rfl zc_4
            refine lv_iload_n hx hb dX9_unit_117 rfl (lv_at hl 2 rfl) ?_
            refine lv_if_eq (tgt := 143) hx hb dX9_unit_118 (by decide) (fun c_1882 => ?_) (fun c_1882 => ?_)
            · skip
              have f1883 : r_1761.toInt = 0 := qi_eq c_1882 rfl zc_0
              refine lv_aload_n hx hb dX9_unit_143 rfl (lv_at hl 5 rfl) ?_
              have hFc := frA hD hS hA
              refine va_callv (va_runV (As := []) (rest := []) ⟨hx, hb, hml, hown, hG⟩ (kX9_misplaced l dC dI r ct i_taped i_size i_faultKind i_at i_end i_token i_number i_bank i_rb i_codes i_within i_piled i_unitsInRule i_askHouse i_askTune i_acts i_undone i_laid i_knowns i_time f_text f_tunes f_houses f_hums f_told f_many f_ruleFrom f_ruleTo f_code f_eWhat f_eSign f_all f_kept f_was f_sTune f_boxAll J L H1765.size hI) (cwV 0 hG (goodV gw1420 gw1422 gw65 gw138 gw1423) rfl rfl rfl hd_X9_misplaced ⟨(Nat.le_of_ble_eq_true rfl), (Nat.le_of_ble_eq_true rfl)⟩) ⟨fbW, va_recv hK hP (ci := 8) (q0 := 0) rfl rfl, pW_in hP hK hD⟩ rfl rfl hl.1 rfl (lv_room (Nat.le_of_ble_eq_true rfl)) dX9_unit_144 ⟨(Nat.le_of_ble_eq_true rfl), (Nat.le_of_ble_eq_true rfl)⟩) hS (fun q _ h => hFc q h) hFc (fun _ t_ H1884 locs ht hvm hw hB hz1 hk1 hS => ?_)
              obtain ⟨x1886, J1887, hP1, hD1, hI1889, f1888⟩ := hB
              rw [ht] at hP1
              have hP := hP1
              have hD := dW hFc hD1
              obtain ⟨im1890, im1891, im1892, im1893, im1894, im1895, im1896, im1897, im1898, im1899, im1900, im1901, im1902, im1903, im1904, im1905, im1906, im1907, im1908, im1909, im1910, im1911, im1912, im1913, im1914, im1915, im1916, im1917, im1918, im1919, im1920, im1921, im1922⟩ := id hI1889
              refine lv_aload_n hx hb dX9_unit_147 rfl (lv_at hl 5 rfl) ?_
              refine va_calli (va_runV (As := []) (rest := []) ⟨hx, hb, hml, hown, hG⟩ (kX9_isGood l dC dI r ct i_taped i_size x1886 i_at i_end i_token i_number i_bank i_rb i_codes i_within i_piled i_unitsInRule i_askHouse i_askTune i_acts i_undone i_laid i_knowns i_time f_text f_tunes f_houses f_hums f_told f_many f_ruleFrom f_ruleTo f_code f_eWhat f_eSign f_all f_kept f_was f_sTune f_boxAll J1887 L H1884.size hI1889) (cwV 0 hG (goodV gw1401 gw1403 gw61 gw138 gw1404) rfl rfl rfl hd_X9_isGood ⟨(Nat.le_of_ble_eq_true rfl), (Nat.le_of_ble_eq_true rfl)⟩) ⟨fbR, va_recv hK hP (ci := 8) (q0 := 0) rfl rfl, pR_in hP hK⟩ rfl rfl hl.1 rfl (lv_room (Nat.le_of_ble_eq_true rfl)) dX9_unit_148 ⟨(Nat.le_of_ble_eq_true rfl), (Nat.le_of_ble_eq_true rfl)⟩) hS (fun q hq h => absurd hq (Nat.not_lt.mpr h)) (fun q h => hA q (Nat.le_trans hS.1 h)) (fun r_1924 u_ t_ H1923 locs ht hvm hw hB hz1 hk1 hS => ?_)
              subst hw
              have hP := wk hP hk1
              obtain ⟨f1925, f1926, f1927⟩ := hB
              refine lv_if_ne (tgt := 156) hx hb dX9_unit_151 (by decide) (fun c_1928 => ((ob_172 (qi_ne c_1928 rfl zc_0) f1888 f1925)).elim) (fun c_1928 => ?_)
              have f1929 : r_1924.toInt = 0 := qi_eq c_1928 rfl zc_0
              have f1930 : x1886.toInt ≠ (0 : Int) := (ob_173 im1907 f1888)
              have f1931 : (1 : Int) ≤ x1886.toInt := (ob_156 im1907 f1888)
              have f1932 : r_1924.toInt = (0 : Int) := (ob_165 f1926 f1927 f1929)
              refine lv_iconst (v := 1) hx hb dX9_unit_154 (by decide) ?_
              rw [hQ]
              exact W.zret (v := 1) hx hb hr (by decide) (fun t ht hW => ⟨⟨1, 1, rfl, rfl, ⟨x1886, i_at, i_end, i_token, i_number, i_codes, i_within, i_piled, i_unitsInRule, f_code, f_eWhat, f_eSign, J1887, L, by rw [ht]; exact hP, hD, hI1889, (ob_14 zc_1), (ob_15 zc_1), (fun h => ((ob_214 h im1907 f1888)).elim), (ob_215 hp5 hp7 hp8), (ob_216 hp2 hp4 hp7), (ob_88), (ob_217 f1888 zc_1)⟩⟩, hS.F ht⟩) hS.2.2 dX9_unit_155
            · skip
              have f1933 : r_1761.toInt ≠ 0 := qi_ne c_1882 rfl zc_0
              have f1934 : (1 : Int) ≤ r_1761.toInt := (ob_224 f1762 f1933 zc_40)
              have f1935 : i_token.toInt = (5 : Int) := (ob_225 f1762 f1933 zc_40)
              have f1936 : (sgz f_text i_size.toInt i_at.toInt) = (40 : Int) := (ob_226 f1762 f1933 zc_40)
              have f1937 : r_1761.toInt = (1 : Int) := (ob_104 f1763 f1764 f1934)
              refine lv_iload hx hb dX9_unit_121 (lv_at hl 0 rfl) ?_
              refine lv_if_ne (tgt := 143) hx hb dX9_unit_123 (by decide) (fun c_1938 => ?_) (fun c_1938 => absurd c_1938 (by decide))
              refine lv_aload_n hx hb dX9_unit_143 rfl (lv_at hl 5 rfl) ?_
              have hFc := frA hD hS hA
              refine va_callv (va_runV (As := []) (rest := []) ⟨hx, hb, hml, hown, hG⟩ (kX9_misplaced l dC dI r ct i_taped i_size i_faultKind i_at i_end i_token i_number i_bank i_rb i_codes i_within i_piled i_unitsInRule i_askHouse i_askTune i_acts i_undone i_laid i_knowns i_time f_text f_tunes f_houses f_hums f_told f_many f_ruleFrom f_ruleTo f_code f_eWhat f_eSign f_all f_kept f_was f_sTune f_boxAll J L H1765.size hI) (cwV 0 hG (goodV gw1420 gw1422 gw65 gw138 gw1423) rfl rfl rfl hd_X9_misplaced ⟨(Nat.le_of_ble_eq_true rfl), (Nat.le_of_ble_eq_true rfl)⟩) ⟨fbW, va_recv hK hP (ci := 8) (q0 := 0) rfl rfl, pW_in hP hK hD⟩ rfl rfl hl.1 rfl (lv_room (Nat.le_of_ble_eq_true rfl)) dX9_unit_144 ⟨(Nat.le_of_ble_eq_true rfl), (Nat.le_of_ble_eq_true rfl)⟩) hS (fun q _ h => hFc q h) hFc (fun _ t_ H1939 locs ht hvm hw hB hz1 hk1 hS => ?_)
              obtain ⟨x1941, J1942, hP1, hD1, hI1944, f1943⟩ := hB
              rw [ht] at hP1
              have hP := hP1
              have hD := dW hFc hD1
              obtain ⟨im1945, im1946, im1947, im1948, im1949, im1950, im1951, im1952, im1953, im1954, im1955, im1956, im1957, im1958, im1959, im1960, im1961, im1962, im1963, im1964, im1965, im1966, im1967, im1968, im1969, im1970, im1971, im1972, im1973, im1974, im1975, im1976, im1977⟩ := id hI1944
              refine lv_aload_n hx hb dX9_unit_147 rfl (lv_at hl 5 rfl) ?_
              refine va_calli (va_runV (As := []) (rest := []) ⟨hx, hb, hml, hown, hG⟩ (kX9_isGood l dC dI r ct i_taped i_size x1941 i_at i_end i_token i_number i_bank i_rb i_codes i_within i_piled i_unitsInRule i_askHouse i_askTune i_acts i_undone i_laid i_knowns i_time f_text f_tunes f_houses f_hums f_told f_many f_ruleFrom f_ruleTo f_code f_eWhat f_eSign f_all f_kept f_was f_sTune f_boxAll J1942 L H1939.size hI1944) (cwV 0 hG (goodV gw1401 gw1403 gw61 gw138 gw1404) rfl rfl rfl hd_X9_isGood ⟨(Nat.le_of_ble_eq_true rfl), (Nat.le_of_ble_eq_true rfl)⟩) ⟨fbR, va_recv hK hP (ci := 8) (q0 := 0) rfl rfl, pR_in hP hK⟩ rfl rfl hl.1 rfl (lv_room (Nat.le_of_ble_eq_true rfl)) dX9_unit_148 ⟨(Nat.le_of_ble_eq_true rfl), (Nat.le_of_ble_eq_true rfl)⟩) hS (fun q hq h => absurd hq (Nat.not_lt.mpr h)) (fun q h => hA q (Nat.le_trans hS.1 h)) (fun r_1979 u_ t_ H1978 locs ht hvm hw hB hz1 hk1 hS => ?_)
              subst hw
              have hP := wk hP hk1
              obtain ⟨f1980, f1981, f1982⟩ := hB
              refine lv_if_ne (tgt := 156) hx hb dX9_unit_151 (by decide) (fun c_1983 => ((ob_172 (qi_ne c_1983 rfl zc_0) f1943 f1980)).elim) (fun c_1983 => ?_)
              have f1984 : r_1979.toInt = 0 := qi_eq c_1983 rfl zc_0
              have f1985 : x1941.toInt ≠ (0 : Int) := (ob_173 im1962 f1943)
              have f1986 : (1 : Int) ≤ x1941.toInt := (ob_156 im1962 f1943)
              have f1987 : r_1979.toInt = (0 : Int) := (ob_165 f1981 f1982 f1984)
              refine lv_iconst (v := 1) hx hb dX9_unit_154 (by decide) ?_
              rw [hQ]
              exact W.zret (v := 1) hx hb hr (by decide) (fun t ht hW => ⟨⟨1, 1, rfl, rfl, ⟨x1941, i_at, i_end, i_token, i_number, i_codes, i_within, i_piled, i_unitsInRule, f_code, f_eWhat, f_eSign, J1942, L, by rw [ht]; exact hP, hD, hI1944, (ob_14 zc_1), (ob_15 zc_1), (fun h => ((ob_214 h im1962 f1943)).elim), (ob_215 hp5 hp7 hp8), (ob_216 hp2 hp4 hp7), (ob_88), (ob_217 f1943 zc_1)⟩⟩, hS.F ht⟩) hS.2.2 dX9_unit_155
      · skip
        have f1988 : x1768.toInt ≠ 60 := qi_ne c_1769 rfl zc_60
        refine lv_aload_n hx hb dX9_unit_84 rfl (lv_at hl 4 rfl) ?_
        refine gM_X9_290_0 hx hb hG hown hK hP dX9_unit_85 ?_
        refine lv_bipush (v := 30) hx hb dX9_unit_88 (by decide) ?_
        refine lv_icmp_ne (tgt := 97) hx hb dX9_unit_90 (by decide) (fun c_1989 => ?_) (fun c_1989 => ?_)
        · skip
          have f1990 : i_unitsInRule.toInt ≠ 30 := qi_ne c_1989 rfl zc_30
          have f1991 : i_unitsInRule.toInt ≤ (29 : Int) := (ob_227 hp2 f1990)
          refine lv_iconst (v := 0) hx hb dX9_unit_97 (by decide) ?_
          refine lv_istore (lv' := [(5, .int 0), (4, .int r_1766), (3, .int r_1761), (2, .int 0), (1, .int 0), (0, .ref (r 0))]) hx hb dX9_unit_98 hl (by decide) rfl (fun ls hl => ?_)
          refine lv_iload_n hx hb dX9_unit_100 rfl (lv_at hl 3 rfl) ?_
          refine lv_if_ne (tgt := 126) hx hb dX9_unit_101 (by decide) (fun c_1992 => absurd (by decide) c_1992) (fun c_1992 => ?_)
          refine lv_iload hx hb dX9_unit_104 (lv_at hl 1 rfl) ?_
          refine lv_if_ne (tgt := 121) hx hb dX9_unit_106 (by decide) (fun c_1993 => ?_) (fun c_1993 => ?_)
          · skip
            have f1994 : r_1766.toInt ≠ 0 := qi_ne c_1993 rfl zc_0
            refine lv_iload hx hb dX9_unit_121 (lv_at hl 0 rfl) ?_
            refine lv_if_ne (tgt := 143) hx hb dX9_unit_123 (by decide) (fun c_1995 => absurd (by decide) c_1995) (fun c_1995 => ?_)
            refine lv_iload_n hx hb dX9_unit_126 rfl (lv_at hl 3 rfl) ?_
            refine lv_if_ne (tgt := 134) hx hb dX9_unit_127 (by decide) (fun c_1996 => absurd (by decide) c_1996) (fun c_1996 => ?_)
            refine lv_iload_n hx hb dX9_unit_130 rfl (lv_at hl 2 rfl) ?_
            refine lv_if_eq (tgt := 147) hx hb dX9_unit_131 (by decide) (fun c_1997 => ?_) (fun c_1997 => ((ob_228 (qi_ne c_1997 rfl zc_0) f1762 f1767 f1994 zc_40)).elim)
            have f1998 : r_1761.toInt = 0 := qi_eq c_1997 rfl zc_0
            refine lv_aload_n hx hb dX9_unit_147 rfl (lv_at hl 5 rfl) ?_
            refine va_calli (va_runV (As := []) (rest := []) ⟨hx, hb, hml, hown, hG⟩ (kX9_isGood l dC dI r ct i_taped i_size i_faultKind i_at i_end i_token i_number i_bank i_rb i_codes i_within i_piled i_unitsInRule i_askHouse i_askTune i_acts i_undone i_laid i_knowns i_time f_text f_tunes f_houses f_hums f_told f_many f_ruleFrom f_ruleTo f_code f_eWhat f_eSign f_all f_kept f_was f_sTune f_boxAll J L H1765.size hI) (cwV 0 hG (goodV gw1401 gw1403 gw61 gw138 gw1404) rfl rfl rfl hd_X9_isGood ⟨(Nat.le_of_ble_eq_true rfl), (Nat.le_of_ble_eq_true rfl)⟩) ⟨fbR, va_recv hK hP (ci := 8) (q0 := 0) rfl rfl, pR_in hP hK⟩ rfl rfl hl.1 rfl (lv_room (Nat.le_of_ble_eq_true rfl)) dX9_unit_148 ⟨(Nat.le_of_ble_eq_true rfl), (Nat.le_of_ble_eq_true rfl)⟩) hS (fun q hq h => absurd hq (Nat.not_lt.mpr h)) (fun q h => hA q (Nat.le_trans hS.1 h)) (fun r_2000 u_ t_ H1999 locs ht hvm hw hB hz1 hk1 hS => ?_)
            subst hw
            have hP := wk hP hk1
            obtain ⟨f2001, f2002, f2003⟩ := hB
            refine lv_if_ne (tgt := 156) hx hb dX9_unit_151 (by decide) (fun c_2004 => ?_) (fun c_2004 => ((ob_167 (qi_eq c_2004 rfl zc_0) hp10 f2001)).elim)
            have f2005 : r_2000.toInt ≠ 0 := qi_ne c_2004 rfl zc_0
            have f2006 : i_faultKind.toInt = (0 : Int) := (ob_168 im17 hp10)
            have f2007 : r_2000.toInt = (1 : Int) := (ob_169 f2001 f2005)
            have f2008 : (1 : Int) ≤ r_2000.toInt := (ob_170 f2002 f2003 f2007)
            refine lv_aload_n hx hb dX9_unit_156 rfl (lv_at hl 5 rfl) ?_
            refine gM_X9_30_0 hx hb hG hown hK hP dX9_unit_157 ?_
            refine lv_aload_n hx hb dX9_unit_160 rfl (lv_at hl 5 rfl) ?_
            refine gM_X9_240_0 hx hb hG hown hK hP dX9_unit_161 ?_
            refine lv_dup2_11 hx hb dX9_unit_164 rfl rfl ?_
            refine ldM_6 (mm := i_rb.toInt) hx hb hK hP rfl (ob_212 im6) (ob_213 im7) dX9_unit_165 (fun x2009 => ?_)
            refine lv_iload_n hx hb dX9_unit_166 rfl (lv_at hl 3 rfl) ?_
            refine lv_if_eq (tgt := 174) hx hb dX9_unit_167 (by decide) (fun c_2010 => ?_) (fun c_2010 => absurd (by decide) c_2010)
            refine lv_iconst (v := 1) hx hb dX9_unit_174 (by decide) ?_
            refine lv_iadd hx hb dX9_unit_175 ?_
            refine lv_topi (fun x2011 ex2011 => ?_)
            refine stM_6 (mm := i_rb.toInt) hx hb hK hP hD hS rfl (ob_212 im6) (ob_213 im7) dX9_unit_176 (fun J2013 H2012 locs hP hD hS => ?_)
            refine lv_aload_n hx hb dX9_unit_177 rfl (lv_at hl 5 rfl) ?_
            refine lv_dup hx hb dX9_unit_178 rfl ?_
            refine gM_X9_290_0 hx hb hG hown hK hP dX9_unit_179 ?_
            refine lv_iload_n hx hb dX9_unit_182 rfl (lv_at hl 3 rfl) ?_
            refine lv_if_eq (tgt := 190) hx hb dX9_unit_183 (by decide) (fun c_2014 => ?_) (fun c_2014 => absurd (by decide) c_2014)
            refine lv_iconst (v := 1) hx hb dX9_unit_190 (by decide) ?_
            refine lv_iadd hx hb dX9_unit_191 ?_
            refine lv_topi (fun x2015 ex2015 => ?_)
            have f2016 : x2015.toInt = i_unitsInRule.toInt + 1 := (ob_84 (qi_add ex2015 rfl zc_1 (ob_82 hp1) (ob_229 hp2)))
            refine pM_X9_290_0 hx hb hG hown hK hP hD hS dX9_unit_192 (fun H2017 locs hP hD hS => ?_)
            refine lv_iload hx hb dX9_unit_195 (lv_at hl 1 rfl) ?_
            refine lv_if_ne (tgt := 207) hx hb dX9_unit_197 (by decide) (fun c_2018 => ?_) (fun c_2018 => ((ob_230 (qi_eq c_2018 rfl zc_0) f1767 f1994)).elim)
            have f2019 : r_1766.toInt ≠ 0 := qi_ne c_2018 rfl zc_0
            refine lv_iconst (v := 0) hx hb dX9_unit_207 (by decide) ?_
            refine lv_istore (lv' := [(6, .int 0), (5, .int 0), (4, .int r_1766), (3, .int r_1761), (2, .int 0), (1, .int 0), (0, .ref (r 0))]) hx hb dX9_unit_208 hl (by decide) rfl (fun ls hl => ?_)
            refine lv_aload_n hx hb dX9_unit_210 rfl (lv_at hl 6 rfl) ?_
            have hFc := frA hD hS hA
            refine va_callv (va_runV (As := []) (rest := []) ⟨hx, hb, hml, hown, hG⟩ (kX9_goOn l dC dI r ct i_taped i_size i_faultKind i_at i_end i_token i_number i_bank i_rb i_codes i_within i_piled x2015 i_askHouse i_askTune i_acts i_undone i_laid i_knowns i_time f_text f_tunes f_houses f_hums f_told f_many f_ruleFrom f_ruleTo f_code f_eWhat f_eSign f_all f_kept f_was f_sTune f_boxAll J2013 L H2017.size hI) (cwV 0 hG (goodV gw1362 gw1364 gw59 gw138 gw1365) rfl rfl rfl hd_X9_goOn ⟨(Nat.le_of_ble_eq_true rfl), (Nat.le_of_ble_eq_true rfl)⟩) ⟨fbW, va_recv hK hP (ci := 8) (q0 := 0) rfl rfl, pW_in hP hK hD⟩ rfl rfl hl.1 rfl (lv_room (Nat.le_of_ble_eq_true rfl)) dX9_unit_211 ⟨(Nat.le_of_ble_eq_true rfl), (Nat.le_of_ble_eq_true rfl)⟩) hS (fun q _ h => hFc q h) hFc (fun _ t_ H2020 locs ht hvm hw hB hz1 hk1 hS => ?_)
            obtain ⟨x2022, x2023, x2024, x2025, L2026, hP1, hD1, hI2030, f2027, f2028, f2029⟩ := hB
            rw [ht] at hP1
            have hP := hP1
            have hD := dW hFc hD1
            obtain ⟨im2031, im2032, im2033, im2034, im2035, im2036, im2037, im2038, im2039, im2040, im2041, im2042, im2043, im2044, im2045, im2046, im2047, im2048, im2049, im2050, im2051, im2052, im2053, im2054, im2055, im2056, im2057, im2058, im2059, im2060, im2061, im2062, im2063⟩ := id hI2030
            refine lv_iload_n hx hb dX9_unit_214 rfl (lv_at hl 4 rfl) ?_
            refine lv_if_ne (tgt := 222) hx hb dX9_unit_215 (by decide) (fun c_2064 => absurd (by decide) c_2064) (fun c_2064 => ?_)
            refine lv_iload_n hx hb dX9_unit_218 rfl (lv_at hl 3 rfl) ?_
            refine lv_if_eq (tgt := 250) hx hb dX9_unit_219 (by decide) (fun c_2065 => ?_) (fun c_2065 => ((ob_231 (qi_ne c_2065 rfl zc_0) f1763 f1764 f1998)).elim)
            have f2066 : r_1761.toInt = 0 := qi_eq c_2065 rfl zc_0
            refine lv_aload_n hx hb dX9_unit_250 rfl (lv_at hl 6 rfl) ?_
            refine lv_iload hx hb dX9_unit_251 (lv_at hl 2 rfl) ?_
            refine lv_if_ne (tgt := 261) hx hb dX9_unit_253 (by decide) (fun c_2067 => ?_) (fun c_2067 => ((ob_230 (qi_eq c_2067 rfl zc_0) f1767 f1994)).elim)
            have f2068 : r_1766.toInt ≠ 0 := qi_ne c_2067 rfl zc_0
            refine lv_iload hx hb dX9_unit_261 (lv_at hl 2 rfl) ?_
            refine lv_iload hx hb dX9_unit_263 (lv_at hl 0 rfl) ?_
            have hFc := frA hD hS hA
            refine va_callv (va_runV (As := [.int r_1766, .int 0]) (rest := []) ⟨hx, hb, hml, hown, hG⟩ (kX9_emit l dC dI r ct i_taped i_size i_faultKind x2022 x2023 x2024 x2025 i_bank i_rb i_codes i_within i_piled x2015 i_askHouse i_askTune i_acts i_undone i_laid i_knowns i_time f_text f_tunes f_houses f_hums f_told f_many f_ruleFrom f_ruleTo f_code f_eWhat f_eSign f_all f_kept f_was f_sTune f_boxAll J2013 L2026 r_1766 0 H2020.size hI2030 (ob_232 hp0) (ob_233 hp6) (ob_234 hp2 hp4 hp5 hp8)) (cwV 2 hG (goodV gw1484 gw1486 gw81 gw138 gw1487) rfl rfl rfl hd_X9_emit ⟨(Nat.le_of_ble_eq_true rfl), (Nat.le_of_ble_eq_true rfl)⟩) ⟨fbW, va_recv hK hP (ci := 8) (q0 := 0) rfl rfl, pW_in hP hK hD⟩ rfl rfl hl.1 rfl (lv_room (Nat.le_of_ble_eq_true rfl)) dX9_unit_265 ⟨(Nat.le_of_ble_eq_true rfl), (Nat.le_of_ble_eq_true rfl)⟩) hS (fun q _ h => hFc q h) hFc (fun _ t_ H2069 locs ht hvm hw hB hz1 hk1 hS => ?_)
            obtain ⟨x2071, z2072, J2073, hP1, hD1, hI2076, f2074, f2075⟩ := hB
            rw [ht] at hP1
            have hP := hP1
            have hD := dW hFc hD1
            obtain ⟨im2077, im2078, im2079, im2080, im2081, im2082, im2083, im2084, im2085, im2086, im2087, im2088, im2089, im2090, im2091, im2092, im2093, im2094, im2095, im2096, im2097, im2098, im2099, im2100, im2101, im2102, im2103, im2104, im2105, im2106, im2107, im2108, im2109⟩ := id hI2076
            refine lv_iconst (v := 0) hx hb dX9_unit_268 (by decide) ?_
            rw [hQ]
            exact W.zret (v := 0) hx hb hr (by decide) (fun t ht hW => ⟨⟨0, 0, rfl, rfl, ⟨i_faultKind, x2022, x2023, x2024, x2025, x2071, i_within, i_piled, x2015, z2072, f_eWhat, f_eSign, J2073, L2026, by rw [ht]; exact hP, hD, hI2076, (ob_1 zc_0), (ob_11 zc_0), (fun _ => SPleaf hp11 rfl (ob_235 zc_0) f2075 (ob_236 hp6 hp8 f2074) (ob_237 hp5 hp7 hp8) (ob_238 hp2 hp4 hp7) (ob_239 im6) (ob_233 hp6) (ob_240 f1767 f1994) (ob_241 f1767)), (ob_215 hp5 hp7 hp8), (ob_216 hp2 hp4 hp7), (ob_87 f2027), (ob_242 im17 hp2 hp3 hp4 hp5 hp6 hp7 hp8 hp9 f1767 f1990 f1994 f2029 f2074 zc_0 f2016)⟩⟩, hS.F ht⟩) hS.2.2 dX9_unit_269
          · skip
            have f2110 : r_1766.toInt = 0 := qi_eq c_1993 rfl zc_0
            have f2111 : r_1766.toInt = (0 : Int) := (ob_218 f2110)
            refine lv_aload_n hx hb dX9_unit_109 rfl (lv_at hl 5 rfl) ?_
            refine gM_X9_191_0 hx hb hG hown hK hP dX9_unit_110 ?_
            refine lv_iconst (v := 4) hx hb dX9_unit_113 (by decide) ?_
            refine lv_icmp_eq (tgt := 121) hx hb dX9_unit_114 (by decide) (fun c_2112 => ?_) (fun c_2112 => ?_)
            · skip
              have f2113 : i_token.toInt = 4 := qi_eq c_2112 rfl zc_4
              have f2114 : i_token.toInt ≠ (5 : Int) := (ob_220 f2113)
              have f2115 : r_1761.toInt = (0 : Int) := (ob_221 f1762 f2113 zc_40)
              have f2116 : i_token.toInt ≤ (4 : Int) := (ob_263 f2113)
              refine lv_iload hx hb dX9_unit_121 (lv_at hl 0 rfl) ?_
              refine lv_if_ne (tgt := 143) hx hb dX9_unit_123 (by decide) (fun c_2117 => absurd (by decide) c_2117) (fun c_2117 => ?_)
              refine lv_iload_n hx hb dX9_unit_126 rfl (lv_at hl 3 rfl) ?_
              refine lv_if_ne (tgt := 134) hx hb dX9_unit_127 (by decide) (fun c_2118 => absurd (by decide) c_2118) (fun c_2118 => ?_)
              refine lv_iload_n hx hb dX9_unit_130 rfl (lv_at hl 2 rfl) ?_
              refine lv_if_eq (tgt := 147) hx hb dX9_unit_131 (by decide) (fun c_2119 => ?_) (fun c_2119 => ((ob_243 (qi_ne c_2119 rfl zc_0) f1763 f1764 f2115)).elim)
              have f2120 : r_1761.toInt = 0 := qi_eq c_2119 rfl zc_0
              refine lv_aload_n hx hb dX9_unit_147 rfl (lv_at hl 5 rfl) ?_
              refine va_calli (va_runV (As := []) (rest := []) ⟨hx, hb, hml, hown, hG⟩ (kX9_isGood l dC dI r ct i_taped i_size i_faultKind i_at i_end i_token i_number i_bank i_rb i_codes i_within i_piled i_unitsInRule i_askHouse i_askTune i_acts i_undone i_laid i_knowns i_time f_text f_tunes f_houses f_hums f_told f_many f_ruleFrom f_ruleTo f_code f_eWhat f_eSign f_all f_kept f_was f_sTune f_boxAll J L H1765.size hI) (cwV 0 hG (goodV gw1401 gw1403 gw61 gw138 gw1404) rfl rfl rfl hd_X9_isGood ⟨(Nat.le_of_ble_eq_true rfl), (Nat.le_of_ble_eq_true rfl)⟩) ⟨fbR, va_recv hK hP (ci := 8) (q0 := 0) rfl rfl, pR_in hP hK⟩ rfl rfl hl.1 rfl (lv_room (Nat.le_of_ble_eq_true rfl)) dX9_unit_148 ⟨(Nat.le_of_ble_eq_true rfl), (Nat.le_of_ble_eq_true rfl)⟩) hS (fun q hq h => absurd hq (Nat.not_lt.mpr h)) (fun q h => hA q (Nat.le_trans hS.1 h)) (fun r_2122 u_ t_ H2121 locs ht hvm hw hB hz1 hk1 hS => ?_)
              subst hw
              have hP := wk hP hk1
              obtain ⟨f2123, f2124, f2125⟩ := hB
              refine lv_if_ne (tgt := 156) hx hb dX9_unit_151 (by decide) (fun c_2126 => ?_) (fun c_2126 => ((ob_167 (qi_eq c_2126 rfl zc_0) hp10 f2123)).elim)
              have f2127 : r_2122.toInt ≠ 0 := qi_ne c_2126 rfl zc_0
              have f2128 : i_faultKind.toInt = (0 : Int) := (ob_168 im17 hp10)
              have f2129 : r_2122.toInt = (1 : Int) := (ob_169 f2123 f2127)
              have f2130 : (1 : Int) ≤ r_2122.toInt := (ob_170 f2124 f2125 f2129)
              refine lv_aload_n hx hb dX9_unit_156 rfl (lv_at hl 5 rfl) ?_
              refine gM_X9_30_0 hx hb hG hown hK hP dX9_unit_157 ?_
              refine lv_aload_n hx hb dX9_unit_160 rfl (lv_at hl 5 rfl) ?_
              refine gM_X9_240_0 hx hb hG hown hK hP dX9_unit_161 ?_
              refine lv_dup2_11 hx hb dX9_unit_164 rfl rfl ?_
              refine ldM_6 (mm := i_rb.toInt) hx hb hK hP rfl (ob_212 im6) (ob_213 im7) dX9_unit_165 (fun x2131 => ?_)
              refine lv_iload_n hx hb dX9_unit_166 rfl (lv_at hl 3 rfl) ?_
              refine lv_if_eq (tgt := 174) hx hb dX9_unit_167 (by decide) (fun c_2132 => ?_) (fun c_2132 => absurd (by decide) c_2132)
              refine lv_iconst (v := 1) hx hb dX9_unit_174 (by decide) ?_
              refine lv_iadd hx hb dX9_unit_175 ?_
              refine lv_topi (fun x2133 ex2133 => ?_)
              refine stM_6 (mm := i_rb.toInt) hx hb hK hP hD hS rfl (ob_212 im6) (ob_213 im7) dX9_unit_176 (fun J2135 H2134 locs hP hD hS => ?_)
              refine lv_aload_n hx hb dX9_unit_177 rfl (lv_at hl 5 rfl) ?_
              refine lv_dup hx hb dX9_unit_178 rfl ?_
              refine gM_X9_290_0 hx hb hG hown hK hP dX9_unit_179 ?_
              refine lv_iload_n hx hb dX9_unit_182 rfl (lv_at hl 3 rfl) ?_
              refine lv_if_eq (tgt := 190) hx hb dX9_unit_183 (by decide) (fun c_2136 => ?_) (fun c_2136 => absurd (by decide) c_2136)
              refine lv_iconst (v := 1) hx hb dX9_unit_190 (by decide) ?_
              refine lv_iadd hx hb dX9_unit_191 ?_
              refine lv_topi (fun x2137 ex2137 => ?_)
              have f2138 : x2137.toInt = i_unitsInRule.toInt + 1 := (ob_84 (qi_add ex2137 rfl zc_1 (ob_82 hp1) (ob_229 hp2)))
              refine pM_X9_290_0 hx hb hG hown hK hP hD hS dX9_unit_192 (fun H2139 locs hP hD hS => ?_)
              refine lv_iload hx hb dX9_unit_195 (lv_at hl 1 rfl) ?_
              refine lv_if_ne (tgt := 207) hx hb dX9_unit_197 (by decide) (fun c_2140 => ((ob_244 (qi_ne c_2140 rfl zc_0) f2110 f2111)).elim) (fun c_2140 => ?_)
              have f2141 : r_1766.toInt = 0 := qi_eq c_2140 rfl zc_0
              refine lv_aload_n hx hb dX9_unit_200 rfl (lv_at hl 5 rfl) ?_
              refine gM_X9_209_0 hx hb hG hown hK hP dX9_unit_201 ?_
              refine lv_goto (tgt := 208) hx hb dX9_unit_204 (by decide) ?_
              refine lv_istore (lv' := [(6, .int i_number), (5, .int 0), (4, .int r_1766), (3, .int r_1761), (2, .int 0), (1, .int 0), (0, .ref (r 0))]) hx hb dX9_unit_208 hl (by decide) rfl (fun ls hl => ?_)
              refine lv_aload_n hx hb dX9_unit_210 rfl (lv_at hl 6 rfl) ?_
              have hFc := frA hD hS hA
              refine va_callv (va_runV (As := []) (rest := []) ⟨hx, hb, hml, hown, hG⟩ (kX9_goOn l dC dI r ct i_taped i_size i_faultKind i_at i_end i_token i_number i_bank i_rb i_codes i_within i_piled x2137 i_askHouse i_askTune i_acts i_undone i_laid i_knowns i_time f_text f_tunes f_houses f_hums f_told f_many f_ruleFrom f_ruleTo f_code f_eWhat f_eSign f_all f_kept f_was f_sTune f_boxAll J2135 L H2139.size hI) (cwV 0 hG (goodV gw1362 gw1364 gw59 gw138 gw1365) rfl rfl rfl hd_X9_goOn ⟨(Nat.le_of_ble_eq_true rfl), (Nat.le_of_ble_eq_true rfl)⟩) ⟨fbW, va_recv hK hP (ci := 8) (q0 := 0) rfl rfl, pW_in hP hK hD⟩ rfl rfl hl.1 rfl (lv_room (Nat.le_of_ble_eq_true rfl)) dX9_unit_211 ⟨(Nat.le_of_ble_eq_true rfl), (Nat.le_of_ble_eq_true rfl)⟩) hS (fun q _ h => hFc q h) hFc (fun _ t_ H2142 locs ht hvm hw hB hz1 hk1 hS => ?_)
              obtain ⟨x2144, x2145, x2146, x2147, L2148, hP1, hD1, hI2152, f2149, f2150, f2151⟩ := hB
              rw [ht] at hP1
              have hP := hP1
              have hD := dW hFc hD1
              obtain ⟨im2153, im2154, im2155, im2156, im2157, im2158, im2159, im2160, im2161, im2162, im2163, im2164, im2165, im2166, im2167, im2168, im2169, im2170, im2171, im2172, im2173, im2174, im2175, im2176, im2177, im2178, im2179, im2180, im2181, im2182, im2183, im2184, im2185⟩ := id hI2152
              refine lv_iload_n hx hb dX9_unit_214 rfl (lv_at hl 4 rfl) ?_
              refine lv_if_ne (tgt := 222) hx hb dX9_unit_215 (by decide) (fun c_2186 => absurd (by decide) c_2186) (fun c_2186 => ?_)
              refine lv_iload_n hx hb dX9_unit_218 rfl (lv_at hl 3 rfl) ?_
              refine lv_if_eq (tgt := 250) hx hb dX9_unit_219 (by decide) (fun c_2187 => ?_) (fun c_2187 => ((ob_245 (qi_ne c_2187 rfl zc_0) f2115)).elim)
              have f2188 : r_1761.toInt = 0 := qi_eq c_2187 rfl zc_0
              refine lv_aload_n hx hb dX9_unit_250 rfl (lv_at hl 6 rfl) ?_
              refine lv_iload hx hb dX9_unit_251 (lv_at hl 2 rfl) ?_
              refine lv_if_ne (tgt := 261) hx hb dX9_unit_253 (by decide) (fun c_2189 => ((ob_244 (qi_ne c_2189 rfl zc_0) f2110 f2111)).elim) (fun c_2189 => ?_)
              have f2190 : r_1766.toInt = 0 := qi_eq c_2189 rfl zc_0
              refine lv_bipush (v := 110) hx hb dX9_unit_256 (by decide) ?_
              refine lv_goto (tgt := 263) hx hb dX9_unit_258 (by decide) ?_
              refine lv_iload hx hb dX9_unit_263 (lv_at hl 0 rfl) ?_
              have hFc := frA hD hS hA
              refine va_callv (va_runV (As := [.int 110, .int i_number]) (rest := []) ⟨hx, hb, hml, hown, hG⟩ (kX9_emit l dC dI r ct i_taped i_size i_faultKind x2144 x2145 x2146 x2147 i_bank i_rb i_codes i_within i_piled x2137 i_askHouse i_askTune i_acts i_undone i_laid i_knowns i_time f_text f_tunes f_houses f_hums f_told f_many f_ruleFrom f_ruleTo f_code f_eWhat f_eSign f_all f_kept f_was f_sTune f_boxAll J2135 L2148 110 i_number H2142.size hI2152 (ob_232 hp0) (ob_233 hp6) (ob_234 hp2 hp4 hp5 hp8)) (cwV 2 hG (goodV gw1484 gw1486 gw81 gw138 gw1487) rfl rfl rfl hd_X9_emit ⟨(Nat.le_of_ble_eq_true rfl), (Nat.le_of_ble_eq_true rfl)⟩) ⟨fbW, va_recv hK hP (ci := 8) (q0 := 0) rfl rfl, pW_in hP hK hD⟩ rfl rfl hl.1 rfl (lv_room (Nat.le_of_ble_eq_true rfl)) dX9_unit_265 ⟨(Nat.le_of_ble_eq_true rfl), (Nat.le_of_ble_eq_true rfl)⟩) hS (fun q _ h => hFc q h) hFc (fun _ t_ H2191 locs ht hvm hw hB hz1 hk1 hS => ?_)
              obtain ⟨x2193, z2194, J2195, hP1, hD1, hI2198, f2196, f2197⟩ := hB
              rw [ht] at hP1
              have hP := hP1
              have hD := dW hFc hD1
              obtain ⟨im2199, im2200, im2201, im2202, im2203, im2204, im2205, im2206, im2207, im2208, im2209, im2210, im2211, im2212, im2213, im2214, im2215, im2216, im2217, im2218, im2219, im2220, im2221, im2222, im2223, im2224, im2225, im2226, im2227, im2228, im2229, im2230, im2231⟩ := id hI2198
              refine lv_iconst (v := 0) hx hb dX9_unit_268 (by decide) ?_
              rw [hQ]
              exact W.zret (v := 0) hx hb hr (by decide) (fun t ht hW => ⟨⟨0, 0, rfl, rfl, ⟨i_faultKind, x2144, x2145, x2146, x2147, x2193, i_within, i_piled, x2137, z2194, f_eWhat, f_eSign, J2195, L2148, by rw [ht]; exact hP, hD, hI2198, (ob_1 zc_0), (ob_11 zc_0), (fun _ => SPleaf hp11 rfl (ob_235 zc_0) f2197 (ob_236 hp6 hp8 f2196) (ob_237 hp5 hp7 hp8) (ob_238 hp2 hp4 hp7) (ob_239 im6) (ob_233 hp6) (ob_246 zc_110) (ob_247 zc_110)), (ob_215 hp5 hp7 hp8), (ob_216 hp2 hp4 hp7), (ob_87 f2149), (ob_248 im17 hp2 hp3 hp4 hp5 hp6 hp7 hp8 hp9 f1990 f2113 f2151 f2196 zc_0 f2138)⟩⟩, hS.F ht⟩) hS.2.2 dX9_unit_269
            · skip
              have f2232 : i_token.toInt ≠ 4 := qi_ne c_2112 rfl zc_4
              refine lv_iload_n hx hb dX9_unit_117 rfl (lv_at hl 2 rfl) ?_
              refine lv_if_eq (tgt := 143) hx hb dX9_unit_118 (by decide) (fun c_2233 => ?_) (fun c_2233 => ?_)
              · skip
                have f2234 : r_1761.toInt = 0 := qi_eq c_2233 rfl zc_0
                refine lv_aload_n hx hb dX9_unit_143 rfl (lv_at hl 5 rfl) ?_
                have hFc := frA hD hS hA
                refine va_callv (va_runV (As := []) (rest := []) ⟨hx, hb, hml, hown, hG⟩ (kX9_misplaced l dC dI r ct i_taped i_size i_faultKind i_at i_end i_token i_number i_bank i_rb i_codes i_within i_piled i_unitsInRule i_askHouse i_askTune i_acts i_undone i_laid i_knowns i_time f_text f_tunes f_houses f_hums f_told f_many f_ruleFrom f_ruleTo f_code f_eWhat f_eSign f_all f_kept f_was f_sTune f_boxAll J L H1765.size hI) (cwV 0 hG (goodV gw1420 gw1422 gw65 gw138 gw1423) rfl rfl rfl hd_X9_misplaced ⟨(Nat.le_of_ble_eq_true rfl), (Nat.le_of_ble_eq_true rfl)⟩) ⟨fbW, va_recv hK hP (ci := 8) (q0 := 0) rfl rfl, pW_in hP hK hD⟩ rfl rfl hl.1 rfl (lv_room (Nat.le_of_ble_eq_true rfl)) dX9_unit_144 ⟨(Nat.le_of_ble_eq_true rfl), (Nat.le_of_ble_eq_true rfl)⟩) hS (fun q _ h => hFc q h) hFc (fun _ t_ H2235 locs ht hvm hw hB hz1 hk1 hS => ?_)
                obtain ⟨x2237, J2238, hP1, hD1, hI2240, f2239⟩ := hB
                rw [ht] at hP1
                have hP := hP1
                have hD := dW hFc hD1
                obtain ⟨im2241, im2242, im2243, im2244, im2245, im2246, im2247, im2248, im2249, im2250, im2251, im2252, im2253, im2254, im2255, im2256, im2257, im2258, im2259, im2260, im2261, im2262, im2263, im2264, im2265, im2266, im2267, im2268, im2269, im2270, im2271, im2272, im2273⟩ := id hI2240
                refine lv_aload_n hx hb dX9_unit_147 rfl (lv_at hl 5 rfl) ?_
                refine va_calli (va_runV (As := []) (rest := []) ⟨hx, hb, hml, hown, hG⟩ (kX9_isGood l dC dI r ct i_taped i_size x2237 i_at i_end i_token i_number i_bank i_rb i_codes i_within i_piled i_unitsInRule i_askHouse i_askTune i_acts i_undone i_laid i_knowns i_time f_text f_tunes f_houses f_hums f_told f_many f_ruleFrom f_ruleTo f_code f_eWhat f_eSign f_all f_kept f_was f_sTune f_boxAll J2238 L H2235.size hI2240) (cwV 0 hG (goodV gw1401 gw1403 gw61 gw138 gw1404) rfl rfl rfl hd_X9_isGood ⟨(Nat.le_of_ble_eq_true rfl), (Nat.le_of_ble_eq_true rfl)⟩) ⟨fbR, va_recv hK hP (ci := 8) (q0 := 0) rfl rfl, pR_in hP hK⟩ rfl rfl hl.1 rfl (lv_room (Nat.le_of_ble_eq_true rfl)) dX9_unit_148 ⟨(Nat.le_of_ble_eq_true rfl), (Nat.le_of_ble_eq_true rfl)⟩) hS (fun q hq h => absurd hq (Nat.not_lt.mpr h)) (fun q h => hA q (Nat.le_trans hS.1 h)) (fun r_2275 u_ t_ H2274 locs ht hvm hw hB hz1 hk1 hS => ?_)
                subst hw
                have hP := wk hP hk1
                obtain ⟨f2276, f2277, f2278⟩ := hB
                refine lv_if_ne (tgt := 156) hx hb dX9_unit_151 (by decide) (fun c_2279 => ((ob_172 (qi_ne c_2279 rfl zc_0) f2239 f2276)).elim) (fun c_2279 => ?_)
                have f2280 : r_2275.toInt = 0 := qi_eq c_2279 rfl zc_0
                have f2281 : x2237.toInt ≠ (0 : Int) := (ob_173 im2258 f2239)
                have f2282 : (1 : Int) ≤ x2237.toInt := (ob_156 im2258 f2239)
                have f2283 : r_2275.toInt = (0 : Int) := (ob_165 f2277 f2278 f2280)
                refine lv_iconst (v := 1) hx hb dX9_unit_154 (by decide) ?_
                rw [hQ]
                exact W.zret (v := 1) hx hb hr (by decide) (fun t ht hW => ⟨⟨1, 1, rfl, rfl, ⟨x2237, i_at, i_end, i_token, i_number, i_codes, i_within, i_piled, i_unitsInRule, f_code, f_eWhat, f_eSign, J2238, L, by rw [ht]; exact hP, hD, hI2240, (ob_14 zc_1), (ob_15 zc_1), (fun h => ((ob_214 h im2258 f2239)).elim), (ob_215 hp5 hp7 hp8), (ob_216 hp2 hp4 hp7), (ob_88), (ob_217 f2239 zc_1)⟩⟩, hS.F ht⟩) hS.2.2 dX9_unit_155
              · skip
                have f2284 : r_1761.toInt ≠ 0 := qi_ne c_2233 rfl zc_0
                have f2285 : (1 : Int) ≤ r_1761.toInt := (ob_224 f1762 f2284 zc_40)
                have f2286 : i_token.toInt = (5 : Int) := (ob_225 f1762 f2284 zc_40)
                have f2287 : (sgz f_text i_size.toInt i_at.toInt) = (40 : Int) := (ob_226 f1762 f2284 zc_40)
                have f2288 : r_1761.toInt = (1 : Int) := (ob_104 f1763 f1764 f2285)
                refine lv_iload hx hb dX9_unit_121 (lv_at hl 0 rfl) ?_
                refine lv_if_ne (tgt := 143) hx hb dX9_unit_123 (by decide) (fun c_2289 => absurd (by decide) c_2289) (fun c_2289 => ?_)
                refine lv_iload_n hx hb dX9_unit_126 rfl (lv_at hl 3 rfl) ?_
                refine lv_if_ne (tgt := 134) hx hb dX9_unit_127 (by decide) (fun c_2290 => absurd (by decide) c_2290) (fun c_2290 => ?_)
                refine lv_iload_n hx hb dX9_unit_130 rfl (lv_at hl 2 rfl) ?_
                refine lv_if_eq (tgt := 147) hx hb dX9_unit_131 (by decide) (fun c_2291 => ((ob_249 (qi_eq c_2291 rfl zc_0) f2285)).elim) (fun c_2291 => ?_)
                have f2292 : r_1761.toInt ≠ 0 := qi_ne c_2291 rfl zc_0
                have f2293 : (1 : Int) ≤ r_1761.toInt := (ob_19 f2285)
                refine lv_aload_n hx hb dX9_unit_134 rfl (lv_at hl 5 rfl) ?_
                refine gM_X9_299_0 hx hb hG hown hK hP dX9_unit_135 ?_
                refine lv_bipush (v := 7) hx hb dX9_unit_138 (by decide) ?_
                refine lv_icmp_ne (tgt := 147) hx hb dX9_unit_140 (by decide) (fun c_2294 => ?_) (fun c_2294 => ?_)
                · skip
                  have f2295 : i_within.toInt ≠ 7 := qi_ne c_2294 rfl zc_7
                  have f2296 : i_within.toInt ≤ (6 : Int) := (ob_250 hp4 f2295)
                  refine lv_aload_n hx hb dX9_unit_147 rfl (lv_at hl 5 rfl) ?_
                  refine va_calli (va_runV (As := []) (rest := []) ⟨hx, hb, hml, hown, hG⟩ (kX9_isGood l dC dI r ct i_taped i_size i_faultKind i_at i_end i_token i_number i_bank i_rb i_codes i_within i_piled i_unitsInRule i_askHouse i_askTune i_acts i_undone i_laid i_knowns i_time f_text f_tunes f_houses f_hums f_told f_many f_ruleFrom f_ruleTo f_code f_eWhat f_eSign f_all f_kept f_was f_sTune f_boxAll J L H1765.size hI) (cwV 0 hG (goodV gw1401 gw1403 gw61 gw138 gw1404) rfl rfl rfl hd_X9_isGood ⟨(Nat.le_of_ble_eq_true rfl), (Nat.le_of_ble_eq_true rfl)⟩) ⟨fbR, va_recv hK hP (ci := 8) (q0 := 0) rfl rfl, pR_in hP hK⟩ rfl rfl hl.1 rfl (lv_room (Nat.le_of_ble_eq_true rfl)) dX9_unit_148 ⟨(Nat.le_of_ble_eq_true rfl), (Nat.le_of_ble_eq_true rfl)⟩) hS (fun q hq h => absurd hq (Nat.not_lt.mpr h)) (fun q h => hA q (Nat.le_trans hS.1 h)) (fun r_2298 u_ t_ H2297 locs ht hvm hw hB hz1 hk1 hS => ?_)
                  subst hw
                  have hP := wk hP hk1
                  obtain ⟨f2299, f2300, f2301⟩ := hB
                  refine lv_if_ne (tgt := 156) hx hb dX9_unit_151 (by decide) (fun c_2302 => ?_) (fun c_2302 => ((ob_167 (qi_eq c_2302 rfl zc_0) hp10 f2299)).elim)
                  have f2303 : r_2298.toInt ≠ 0 := qi_ne c_2302 rfl zc_0
                  have f2304 : i_faultKind.toInt = (0 : Int) := (ob_168 im17 hp10)
                  have f2305 : r_2298.toInt = (1 : Int) := (ob_169 f2299 f2303)
                  have f2306 : (1 : Int) ≤ r_2298.toInt := (ob_170 f2300 f2301 f2305)
                  refine lv_aload_n hx hb dX9_unit_156 rfl (lv_at hl 5 rfl) ?_
                  refine gM_X9_30_0 hx hb hG hown hK hP dX9_unit_157 ?_
                  refine lv_aload_n hx hb dX9_unit_160 rfl (lv_at hl 5 rfl) ?_
                  refine gM_X9_240_0 hx hb hG hown hK hP dX9_unit_161 ?_
                  refine lv_dup2_11 hx hb dX9_unit_164 rfl rfl ?_
                  refine ldM_6 (mm := i_rb.toInt) hx hb hK hP rfl (ob_212 im6) (ob_213 im7) dX9_unit_165 (fun x2307 => ?_)
                  refine lv_iload_n hx hb dX9_unit_166 rfl (lv_at hl 3 rfl) ?_
                  refine lv_if_eq (tgt := 174) hx hb dX9_unit_167 (by decide) (fun c_2308 => ?_) (fun c_2308 => absurd (by decide) c_2308)
                  refine lv_iconst (v := 1) hx hb dX9_unit_174 (by decide) ?_
                  refine lv_iadd hx hb dX9_unit_175 ?_
                  refine lv_topi (fun x2309 ex2309 => ?_)
                  refine stM_6 (mm := i_rb.toInt) hx hb hK hP hD hS rfl (ob_212 im6) (ob_213 im7) dX9_unit_176 (fun J2311 H2310 locs hP hD hS => ?_)
                  refine lv_aload_n hx hb dX9_unit_177 rfl (lv_at hl 5 rfl) ?_
                  refine lv_dup hx hb dX9_unit_178 rfl ?_
                  refine gM_X9_290_0 hx hb hG hown hK hP dX9_unit_179 ?_
                  refine lv_iload_n hx hb dX9_unit_182 rfl (lv_at hl 3 rfl) ?_
                  refine lv_if_eq (tgt := 190) hx hb dX9_unit_183 (by decide) (fun c_2312 => ?_) (fun c_2312 => absurd (by decide) c_2312)
                  refine lv_iconst (v := 1) hx hb dX9_unit_190 (by decide) ?_
                  refine lv_iadd hx hb dX9_unit_191 ?_
                  refine lv_topi (fun x2313 ex2313 => ?_)
                  have f2314 : x2313.toInt = i_unitsInRule.toInt + 1 := (ob_84 (qi_add ex2313 rfl zc_1 (ob_82 hp1) (ob_229 hp2)))
                  refine pM_X9_290_0 hx hb hG hown hK hP hD hS dX9_unit_192 (fun H2315 locs hP hD hS => ?_)
                  refine lv_iload hx hb dX9_unit_195 (lv_at hl 1 rfl) ?_
                  refine lv_if_ne (tgt := 207) hx hb dX9_unit_197 (by decide) (fun c_2316 => ((ob_244 (qi_ne c_2316 rfl zc_0) f2110 f2111)).elim) (fun c_2316 => ?_)
                  have f2317 : r_1766.toInt = 0 := qi_eq c_2316 rfl zc_0
                  refine lv_aload_n hx hb dX9_unit_200 rfl (lv_at hl 5 rfl) ?_
                  refine gM_X9_209_0 hx hb hG hown hK hP dX9_unit_201 ?_
                  refine lv_goto (tgt := 208) hx hb dX9_unit_204 (by decide) ?_
                  refine lv_istore (lv' := [(6, .int i_number), (5, .int 0), (4, .int r_1766), (3, .int r_1761), (2, .int 0), (1, .int 0), (0, .ref (r 0))]) hx hb dX9_unit_208 hl (by decide) rfl (fun ls hl => ?_)
                  refine lv_aload_n hx hb dX9_unit_210 rfl (lv_at hl 6 rfl) ?_
                  have hFc := frA hD hS hA
                  refine va_callv (va_runV (As := []) (rest := []) ⟨hx, hb, hml, hown, hG⟩ (kX9_goOn l dC dI r ct i_taped i_size i_faultKind i_at i_end i_token i_number i_bank i_rb i_codes i_within i_piled x2313 i_askHouse i_askTune i_acts i_undone i_laid i_knowns i_time f_text f_tunes f_houses f_hums f_told f_many f_ruleFrom f_ruleTo f_code f_eWhat f_eSign f_all f_kept f_was f_sTune f_boxAll J2311 L H2315.size hI) (cwV 0 hG (goodV gw1362 gw1364 gw59 gw138 gw1365) rfl rfl rfl hd_X9_goOn ⟨(Nat.le_of_ble_eq_true rfl), (Nat.le_of_ble_eq_true rfl)⟩) ⟨fbW, va_recv hK hP (ci := 8) (q0 := 0) rfl rfl, pW_in hP hK hD⟩ rfl rfl hl.1 rfl (lv_room (Nat.le_of_ble_eq_true rfl)) dX9_unit_211 ⟨(Nat.le_of_ble_eq_true rfl), (Nat.le_of_ble_eq_true rfl)⟩) hS (fun q _ h => hFc q h) hFc (fun _ t_ H2318 locs ht hvm hw hB hz1 hk1 hS => ?_)
                  obtain ⟨x2320, x2321, x2322, x2323, L2324, hP1, hD1, hI2328, f2325, f2326, f2327⟩ := hB
                  rw [ht] at hP1
                  have hP := hP1
                  have hD := dW hFc hD1
                  obtain ⟨im2329, im2330, im2331, im2332, im2333, im2334, im2335, im2336, im2337, im2338, im2339, im2340, im2341, im2342, im2343, im2344, im2345, im2346, im2347, im2348, im2349, im2350, im2351, im2352, im2353, im2354, im2355, im2356, im2357, im2358, im2359, im2360, im2361⟩ := id hI2328
                  refine lv_iload_n hx hb dX9_unit_214 rfl (lv_at hl 4 rfl) ?_
                  refine lv_if_ne (tgt := 222) hx hb dX9_unit_215 (by decide) (fun c_2362 => absurd (by decide) c_2362) (fun c_2362 => ?_)
                  refine lv_iload_n hx hb dX9_unit_218 rfl (lv_at hl 3 rfl) ?_
                  refine lv_if_eq (tgt := 250) hx hb dX9_unit_219 (by decide) (fun c_2363 => ((ob_249 (qi_eq c_2363 rfl zc_0) f2285)).elim) (fun c_2363 => ?_)
                  have f2364 : r_1761.toInt ≠ 0 := qi_ne c_2363 rfl zc_0
                  have f2365 : (1 : Int) ≤ r_1761.toInt := (ob_19 f2285)
                  refine lv_aload_n hx hb dX9_unit_222 rfl (lv_at hl 6 rfl) ?_
                  refine lv_iload_n hx hb dX9_unit_223 rfl (lv_at hl 4 rfl) ?_
                  refine lv_if_eq (tgt := 231) hx hb dX9_unit_224 (by decide) (fun c_2366 => ?_) (fun c_2366 => absurd (by decide) c_2366)
                  refine lv_bipush (v := 7) hx hb dX9_unit_231 (by decide) ?_
                  refine lv_bipush (v := 126) hx hb dX9_unit_233 (by decide) ?_
                  have hFc := frA hD hS hA
                  refine va_callv (va_runV (As := [.int 7, .int 126]) (rest := []) ⟨hx, hb, hml, hown, hG⟩ (kX9_pushE l dC dI r ct i_taped i_size i_faultKind x2320 x2321 x2322 x2323 i_bank i_rb i_codes i_within i_piled x2313 i_askHouse i_askTune i_acts i_undone i_laid i_knowns i_time f_text f_tunes f_houses f_hums f_told f_many f_ruleFrom f_ruleTo f_code f_eWhat f_eSign f_all f_kept f_was f_sTune f_boxAll J2311 L2324 7 126 H2318.size hI2328 (ob_215 hp5 hp7 hp8) (ob_251 hp2 hp4 hp7)) (cwV 2 hG (goodV gw1468 gw1470 gw77 gw138 gw1471) rfl rfl rfl hd_X9_pushE ⟨(Nat.le_of_ble_eq_true rfl), (Nat.le_of_ble_eq_true rfl)⟩) ⟨fbW, va_recv hK hP (ci := 8) (q0 := 0) rfl rfl, pW_in hP hK hD⟩ rfl rfl hl.1 rfl (lv_room (Nat.le_of_ble_eq_true rfl)) dX9_unit_235 ⟨(Nat.le_of_ble_eq_true rfl), (Nat.le_of_ble_eq_true rfl)⟩) hS (fun q _ h => hFc q h) hFc (fun _ t_ H2367 locs ht hvm hw hB hz1 hk1 hS => ?_)
                  obtain ⟨x2369, z2370, z2371, hP1, hD1, hI2375, f2372, f2373, f2374⟩ := hB
                  rw [ht] at hP1
                  have hP := hP1
                  have hD := dW hFc hD1
                  obtain ⟨im2376, im2377, im2378, im2379, im2380, im2381, im2382, im2383, im2384, im2385, im2386, im2387, im2388, im2389, im2390, im2391, im2392, im2393, im2394, im2395, im2396, im2397, im2398, im2399, im2400, im2401, im2402, im2403, im2404, im2405, im2406, im2407, im2408⟩ := id hI2375
                  have f2409 : (z2370 ((0 : Int)).toNat).toInt = (f_eWhat ((0 : Int)).toNat).toInt := (by rw [f2373, upd_off (ne0 (ob_252 hp5))])
                  refine lv_aload_n hx hb dX9_unit_238 rfl (lv_at hl 6 rfl) ?_
                  refine lv_dup hx hb dX9_unit_239 rfl ?_
                  refine gM_X9_299_0 hx hb hG hown hK hP dX9_unit_240 ?_
                  refine lv_iconst (v := 1) hx hb dX9_unit_243 (by decide) ?_
                  refine lv_iadd hx hb dX9_unit_244 ?_
                  refine lv_topi (fun x2410 ex2410 => ?_)
                  have f2411 : x2410.toInt = i_within.toInt + 1 := (ob_84 (qi_add ex2410 rfl zc_1 (ob_82 hp3) (ob_253 hp4)))
                  refine pM_X9_299_0 hx hb hG hown hK hP hD hS dX9_unit_245 (fun H2412 locs hP hD hS => ?_)
                  refine lv_iconst (v := 1) hx hb dX9_unit_248 (by decide) ?_
                  rw [hQ]
                  exact W.zret (v := 1) hx hb hr (by decide) (fun t ht hW => ⟨⟨1, 1, rfl, rfl, ⟨i_faultKind, x2320, x2321, x2322, x2323, i_codes, x2410, x2369, x2313, f_code, z2370, z2371, J2311, L2324, by rw [ht]; exact hP, hD, hI2375, (ob_14 zc_1), (ob_15 zc_1), (fun _ => SPpush hp11 f2373 f2374 (ob_252 hp5) (ob_84 f2372) (Or.inl (ob_254 zc_1 f2411 zc_126 zc_7))), (ob_141 hp5 f2372), (ob_255 hp2 hp4 hp7 f2372), (ob_87 f2325), (ob_264 im17 hp2 hp3 hp4 hp5 hp6 hp7 hp8 hp9 f1762 f1990 f2284 f2295 f2327 f2372 f2409 zc_40 zc_1 f2411 f2314)⟩⟩, hS.F ht⟩) hS.2.2 dX9_unit_249
                · skip
                  have f2413 : i_within.toInt = 7 := qi_eq c_2294 rfl zc_7
                  refine lv_aload_n hx hb dX9_unit_143 rfl (lv_at hl 5 rfl) ?_
                  have hFc := frA hD hS hA
                  refine va_callv (va_runV (As := []) (rest := []) ⟨hx, hb, hml, hown, hG⟩ (kX9_misplaced l dC dI r ct i_taped i_size i_faultKind i_at i_end i_token i_number i_bank i_rb i_codes i_within i_piled i_unitsInRule i_askHouse i_askTune i_acts i_undone i_laid i_knowns i_time f_text f_tunes f_houses f_hums f_told f_many f_ruleFrom f_ruleTo f_code f_eWhat f_eSign f_all f_kept f_was f_sTune f_boxAll J L H1765.size hI) (cwV 0 hG (goodV gw1420 gw1422 gw65 gw138 gw1423) rfl rfl rfl hd_X9_misplaced ⟨(Nat.le_of_ble_eq_true rfl), (Nat.le_of_ble_eq_true rfl)⟩) ⟨fbW, va_recv hK hP (ci := 8) (q0 := 0) rfl rfl, pW_in hP hK hD⟩ rfl rfl hl.1 rfl (lv_room (Nat.le_of_ble_eq_true rfl)) dX9_unit_144 ⟨(Nat.le_of_ble_eq_true rfl), (Nat.le_of_ble_eq_true rfl)⟩) hS (fun q _ h => hFc q h) hFc (fun _ t_ H2414 locs ht hvm hw hB hz1 hk1 hS => ?_)
                  obtain ⟨x2416, J2417, hP1, hD1, hI2419, f2418⟩ := hB
                  rw [ht] at hP1
                  have hP := hP1
                  have hD := dW hFc hD1
                  obtain ⟨im2420, im2421, im2422, im2423, im2424, im2425, im2426, im2427, im2428, im2429, im2430, im2431, im2432, im2433, im2434, im2435, im2436, im2437, im2438, im2439, im2440, im2441, im2442, im2443, im2444, im2445, im2446, im2447, im2448, im2449, im2450, im2451, im2452⟩ := id hI2419
                  refine lv_aload_n hx hb dX9_unit_147 rfl (lv_at hl 5 rfl) ?_
                  refine va_calli (va_runV (As := []) (rest := []) ⟨hx, hb, hml, hown, hG⟩ (kX9_isGood l dC dI r ct i_taped i_size x2416 i_at i_end i_token i_number i_bank i_rb i_codes i_within i_piled i_unitsInRule i_askHouse i_askTune i_acts i_undone i_laid i_knowns i_time f_text f_tunes f_houses f_hums f_told f_many f_ruleFrom f_ruleTo f_code f_eWhat f_eSign f_all f_kept f_was f_sTune f_boxAll J2417 L H2414.size hI2419) (cwV 0 hG (goodV gw1401 gw1403 gw61 gw138 gw1404) rfl rfl rfl hd_X9_isGood ⟨(Nat.le_of_ble_eq_true rfl), (Nat.le_of_ble_eq_true rfl)⟩) ⟨fbR, va_recv hK hP (ci := 8) (q0 := 0) rfl rfl, pR_in hP hK⟩ rfl rfl hl.1 rfl (lv_room (Nat.le_of_ble_eq_true rfl)) dX9_unit_148 ⟨(Nat.le_of_ble_eq_true rfl), (Nat.le_of_ble_eq_true rfl)⟩) hS (fun q hq h => absurd hq (Nat.not_lt.mpr h)) (fun q h => hA q (Nat.le_trans hS.1 h)) (fun r_2454 u_ t_ H2453 locs ht hvm hw hB hz1 hk1 hS => ?_)
                  subst hw
                  have hP := wk hP hk1
                  obtain ⟨f2455, f2456, f2457⟩ := hB
                  refine lv_if_ne (tgt := 156) hx hb dX9_unit_151 (by decide) (fun c_2458 => ((ob_172 (qi_ne c_2458 rfl zc_0) f2418 f2455)).elim) (fun c_2458 => ?_)
                  have f2459 : r_2454.toInt = 0 := qi_eq c_2458 rfl zc_0
                  have f2460 : x2416.toInt ≠ (0 : Int) := (ob_173 im2437 f2418)
                  have f2461 : (1 : Int) ≤ x2416.toInt := (ob_156 im2437 f2418)
                  have f2462 : r_2454.toInt = (0 : Int) := (ob_165 f2456 f2457 f2459)
                  refine lv_iconst (v := 1) hx hb dX9_unit_154 (by decide) ?_
                  rw [hQ]
                  exact W.zret (v := 1) hx hb hr (by decide) (fun t ht hW => ⟨⟨1, 1, rfl, rfl, ⟨x2416, i_at, i_end, i_token, i_number, i_codes, i_within, i_piled, i_unitsInRule, f_code, f_eWhat, f_eSign, J2417, L, by rw [ht]; exact hP, hD, hI2419, (ob_14 zc_1), (ob_15 zc_1), (fun h => ((ob_214 h im2437 f2418)).elim), (ob_215 hp5 hp7 hp8), (ob_216 hp2 hp4 hp7), (ob_88), (ob_217 f2418 zc_1)⟩⟩, hS.F ht⟩) hS.2.2 dX9_unit_155
        · skip
          have f2463 : i_unitsInRule.toInt = 30 := qi_eq c_1989 rfl zc_30
          refine lv_iconst (v := 1) hx hb dX9_unit_93 (by decide) ?_
          refine lv_goto (tgt := 98) hx hb dX9_unit_94 (by decide) ?_
          refine lv_istore (lv' := [(5, .int 1), (4, .int r_1766), (3, .int r_1761), (2, .int 0), (1, .int 0), (0, .ref (r 0))]) hx hb dX9_unit_98 hl (by decide) rfl (fun ls hl => ?_)
          refine lv_iload_n hx hb dX9_unit_100 rfl (lv_at hl 3 rfl) ?_
          refine lv_if_ne (tgt := 126) hx hb dX9_unit_101 (by decide) (fun c_2464 => absurd (by decide) c_2464) (fun c_2464 => ?_)
          refine lv_iload hx hb dX9_unit_104 (lv_at hl 1 rfl) ?_
          refine lv_if_ne (tgt := 121) hx hb dX9_unit_106 (by decide) (fun c_2465 => ?_) (fun c_2465 => ?_)
          · skip
            have f2466 : r_1766.toInt ≠ 0 := qi_ne c_2465 rfl zc_0
            refine lv_iload hx hb dX9_unit_121 (lv_at hl 0 rfl) ?_
            refine lv_if_ne (tgt := 143) hx hb dX9_unit_123 (by decide) (fun c_2467 => ?_) (fun c_2467 => absurd c_2467 (by decide))
            refine lv_aload_n hx hb dX9_unit_143 rfl (lv_at hl 5 rfl) ?_
            have hFc := frA hD hS hA
            refine va_callv (va_runV (As := []) (rest := []) ⟨hx, hb, hml, hown, hG⟩ (kX9_misplaced l dC dI r ct i_taped i_size i_faultKind i_at i_end i_token i_number i_bank i_rb i_codes i_within i_piled i_unitsInRule i_askHouse i_askTune i_acts i_undone i_laid i_knowns i_time f_text f_tunes f_houses f_hums f_told f_many f_ruleFrom f_ruleTo f_code f_eWhat f_eSign f_all f_kept f_was f_sTune f_boxAll J L H1765.size hI) (cwV 0 hG (goodV gw1420 gw1422 gw65 gw138 gw1423) rfl rfl rfl hd_X9_misplaced ⟨(Nat.le_of_ble_eq_true rfl), (Nat.le_of_ble_eq_true rfl)⟩) ⟨fbW, va_recv hK hP (ci := 8) (q0 := 0) rfl rfl, pW_in hP hK hD⟩ rfl rfl hl.1 rfl (lv_room (Nat.le_of_ble_eq_true rfl)) dX9_unit_144 ⟨(Nat.le_of_ble_eq_true rfl), (Nat.le_of_ble_eq_true rfl)⟩) hS (fun q _ h => hFc q h) hFc (fun _ t_ H2468 locs ht hvm hw hB hz1 hk1 hS => ?_)
            obtain ⟨x2470, J2471, hP1, hD1, hI2473, f2472⟩ := hB
            rw [ht] at hP1
            have hP := hP1
            have hD := dW hFc hD1
            obtain ⟨im2474, im2475, im2476, im2477, im2478, im2479, im2480, im2481, im2482, im2483, im2484, im2485, im2486, im2487, im2488, im2489, im2490, im2491, im2492, im2493, im2494, im2495, im2496, im2497, im2498, im2499, im2500, im2501, im2502, im2503, im2504, im2505, im2506⟩ := id hI2473
            refine lv_aload_n hx hb dX9_unit_147 rfl (lv_at hl 5 rfl) ?_
            refine va_calli (va_runV (As := []) (rest := []) ⟨hx, hb, hml, hown, hG⟩ (kX9_isGood l dC dI r ct i_taped i_size x2470 i_at i_end i_token i_number i_bank i_rb i_codes i_within i_piled i_unitsInRule i_askHouse i_askTune i_acts i_undone i_laid i_knowns i_time f_text f_tunes f_houses f_hums f_told f_many f_ruleFrom f_ruleTo f_code f_eWhat f_eSign f_all f_kept f_was f_sTune f_boxAll J2471 L H2468.size hI2473) (cwV 0 hG (goodV gw1401 gw1403 gw61 gw138 gw1404) rfl rfl rfl hd_X9_isGood ⟨(Nat.le_of_ble_eq_true rfl), (Nat.le_of_ble_eq_true rfl)⟩) ⟨fbR, va_recv hK hP (ci := 8) (q0 := 0) rfl rfl, pR_in hP hK⟩ rfl rfl hl.1 rfl (lv_room (Nat.le_of_ble_eq_true rfl)) dX9_unit_148 ⟨(Nat.le_of_ble_eq_true rfl), (Nat.le_of_ble_eq_true rfl)⟩) hS (fun q hq h => absurd hq (Nat.not_lt.mpr h)) (fun q h => hA q (Nat.le_trans hS.1 h)) (fun r_2508 u_ t_ H2507 locs ht hvm hw hB hz1 hk1 hS => ?_)
            subst hw
            have hP := wk hP hk1
            obtain ⟨f2509, f2510, f2511⟩ := hB
            refine lv_if_ne (tgt := 156) hx hb dX9_unit_151 (by decide) (fun c_2512 => ((ob_172 (qi_ne c_2512 rfl zc_0) f2472 f2509)).elim) (fun c_2512 => ?_)
            have f2513 : r_2508.toInt = 0 := qi_eq c_2512 rfl zc_0
            have f2514 : x2470.toInt ≠ (0 : Int) := (ob_173 im2491 f2472)
            have f2515 : (1 : Int) ≤ x2470.toInt := (ob_156 im2491 f2472)
            have f2516 : r_2508.toInt = (0 : Int) := (ob_165 f2510 f2511 f2513)
            refine lv_iconst (v := 1) hx hb dX9_unit_154 (by decide) ?_
            rw [hQ]
            exact W.zret (v := 1) hx hb hr (by decide) (fun t ht hW => ⟨⟨1, 1, rfl, rfl, ⟨x2470, i_at, i_end, i_token, i_number, i_codes, i_within, i_piled, i_unitsInRule, f_code, f_eWhat, f_eSign, J2471, L, by rw [ht]; exact hP, hD, hI2473, (ob_14 zc_1), (ob_15 zc_1), (fun h => ((ob_214 h im2491 f2472)).elim), (ob_215 hp5 hp7 hp8), (ob_216 hp2 hp4 hp7), (ob_88), (ob_217 f2472 zc_1)⟩⟩, hS.F ht⟩) hS.2.2 dX9_unit_155
          · skip
            have f2517 : r_1766.toInt = 0 := qi_eq c_2465 rfl zc_0
            have f2518 : r_1766.toInt = (0 : Int) := (ob_218 f2517)
            refine lv_aload_n hx hb dX9_unit_109 rfl (lv_at hl 5 rfl) ?_
            refine gM_X9_191_0 hx hb hG hown hK hP dX9_unit_110 ?_
            refine lv_iconst (v := 4) hx hb dX9_unit_113 (by decide) ?_
            refine lv_icmp_eq (tgt := 121) hx hb dX9_unit_114 (by decide) (fun c_2519 => ?_) (fun c_2519 => ?_)
            · skip
              have f2520 : i_token.toInt = 4 := qi_eq c_2519 rfl zc_4
              have f2521 : i_token.toInt ≠ (5 : Int) := (ob_220 f2520)
              have f2522 : r_1761.toInt = (0 : Int) := (ob_221 f1762 f2520 zc_40)
              have f2523 : i_token.toInt ≤ (4 : Int) := (ob_263 f2520)
              refine lv_iload hx hb dX9_unit_121 (lv_at hl 0 rfl) ?_
              refine lv_if_ne (tgt := 143) hx hb dX9_unit_123 (by decide) (fun c_2524 => ?_) (fun c_2524 => absurd c_2524 (by decide))
              refine lv_aload_n hx hb dX9_unit_143 rfl (lv_at hl 5 rfl) ?_
              have hFc := frA hD hS hA
              refine va_callv (va_runV (As := []) (rest := []) ⟨hx, hb, hml, hown, hG⟩ (kX9_misplaced l dC dI r ct i_taped i_size i_faultKind i_at i_end i_token i_number i_bank i_rb i_codes i_within i_piled i_unitsInRule i_askHouse i_askTune i_acts i_undone i_laid i_knowns i_time f_text f_tunes f_houses f_hums f_told f_many f_ruleFrom f_ruleTo f_code f_eWhat f_eSign f_all f_kept f_was f_sTune f_boxAll J L H1765.size hI) (cwV 0 hG (goodV gw1420 gw1422 gw65 gw138 gw1423) rfl rfl rfl hd_X9_misplaced ⟨(Nat.le_of_ble_eq_true rfl), (Nat.le_of_ble_eq_true rfl)⟩) ⟨fbW, va_recv hK hP (ci := 8) (q0 := 0) rfl rfl, pW_in hP hK hD⟩ rfl rfl hl.1 rfl (lv_room (Nat.le_of_ble_eq_true rfl)) dX9_unit_144 ⟨(Nat.le_of_ble_eq_true rfl), (Nat.le_of_ble_eq_true rfl)⟩) hS (fun q _ h => hFc q h) hFc (fun _ t_ H2525 locs ht hvm hw hB hz1 hk1 hS => ?_)
              obtain ⟨x2527, J2528, hP1, hD1, hI2530, f2529⟩ := hB
              rw [ht] at hP1
              have hP := hP1
              have hD := dW hFc hD1
              obtain ⟨im2531, im2532, im2533, im2534, im2535, im2536, im2537, im2538, im2539, im2540, im2541, im2542, im2543, im2544, im2545, im2546, im2547, im2548, im2549, im2550, im2551, im2552, im2553, im2554, im2555, im2556, im2557, im2558, im2559, im2560, im2561, im2562, im2563⟩ := id hI2530
              refine lv_aload_n hx hb dX9_unit_147 rfl (lv_at hl 5 rfl) ?_
              refine va_calli (va_runV (As := []) (rest := []) ⟨hx, hb, hml, hown, hG⟩ (kX9_isGood l dC dI r ct i_taped i_size x2527 i_at i_end i_token i_number i_bank i_rb i_codes i_within i_piled i_unitsInRule i_askHouse i_askTune i_acts i_undone i_laid i_knowns i_time f_text f_tunes f_houses f_hums f_told f_many f_ruleFrom f_ruleTo f_code f_eWhat f_eSign f_all f_kept f_was f_sTune f_boxAll J2528 L H2525.size hI2530) (cwV 0 hG (goodV gw1401 gw1403 gw61 gw138 gw1404) rfl rfl rfl hd_X9_isGood ⟨(Nat.le_of_ble_eq_true rfl), (Nat.le_of_ble_eq_true rfl)⟩) ⟨fbR, va_recv hK hP (ci := 8) (q0 := 0) rfl rfl, pR_in hP hK⟩ rfl rfl hl.1 rfl (lv_room (Nat.le_of_ble_eq_true rfl)) dX9_unit_148 ⟨(Nat.le_of_ble_eq_true rfl), (Nat.le_of_ble_eq_true rfl)⟩) hS (fun q hq h => absurd hq (Nat.not_lt.mpr h)) (fun q h => hA q (Nat.le_trans hS.1 h)) (fun r_2565 u_ t_ H2564 locs ht hvm hw hB hz1 hk1 hS => ?_)
              subst hw
              have hP := wk hP hk1
              obtain ⟨f2566, f2567, f2568⟩ := hB
              refine lv_if_ne (tgt := 156) hx hb dX9_unit_151 (by decide) (fun c_2569 => ((ob_172 (qi_ne c_2569 rfl zc_0) f2529 f2566)).elim) (fun c_2569 => ?_)
              have f2570 : r_2565.toInt = 0 := qi_eq c_2569 rfl zc_0
              have f2571 : x2527.toInt ≠ (0 : Int) := (ob_173 im2548 f2529)
              have f2572 : (1 : Int) ≤ x2527.toInt := (ob_156 im2548 f2529)
              have f2573 : r_2565.toInt = (0 : Int) := (ob_165 f2567 f2568 f2570)
              refine lv_iconst (v := 1) hx hb dX9_unit_154 (by decide) ?_
              rw [hQ]
              exact W.zret (v := 1) hx hb hr (by decide) (fun t ht hW => ⟨⟨1, 1, rfl, rfl, ⟨x2527, i_at, i_end, i_token, i_number, i_codes, i_within, i_piled, i_unitsInRule, f_code, f_eWhat, f_eSign, J2528, L, by rw [ht]; exact hP, hD, hI2530, (ob_14 zc_1), (ob_15 zc_1), (fun h => ((ob_214 h im2548 f2529)).elim), (ob_215 hp5 hp7 hp8), (ob_216 hp2 hp4 hp7), (ob_88), (ob_217 f2529 zc_1)⟩⟩, hS.F ht⟩) hS.2.2 dX9_unit_155
            · skip
              have f2574 : i_token.toInt ≠ 4 := qi_ne c_2519 rfl zc_4
              refine lv_iload_n hx hb dX9_unit_117 rfl (lv_at hl 2 rfl) ?_
              refine lv_if_eq (tgt := 143) hx hb dX9_unit_118 (by decide) (fun c_2575 => ?_) (fun c_2575 => ?_)
              · skip
                have f2576 : r_1761.toInt = 0 := qi_eq c_2575 rfl zc_0
                refine lv_aload_n hx hb dX9_unit_143 rfl (lv_at hl 5 rfl) ?_
                have hFc := frA hD hS hA
                refine va_callv (va_runV (As := []) (rest := []) ⟨hx, hb, hml, hown, hG⟩ (kX9_misplaced l dC dI r ct i_taped i_size i_faultKind i_at i_end i_token i_number i_bank i_rb i_codes i_within i_piled i_unitsInRule i_askHouse i_askTune i_acts i_undone i_laid i_knowns i_time f_text f_tunes f_houses f_hums f_told f_many f_ruleFrom f_ruleTo f_code f_eWhat f_eSign f_all f_kept f_was f_sTune f_boxAll J L H1765.size hI) (cwV 0 hG (goodV gw1420 gw1422 gw65 gw138 gw1423) rfl rfl rfl hd_X9_misplaced ⟨(Nat.le_of_ble_eq_true rfl), (Nat.le_of_ble_eq_true rfl)⟩) ⟨fbW, va_recv hK hP (ci := 8) (q0 := 0) rfl rfl, pW_in hP hK hD⟩ rfl rfl hl.1 rfl (lv_room (Nat.le_of_ble_eq_true rfl)) dX9_unit_144 ⟨(Nat.le_of_ble_eq_true rfl), (Nat.le_of_ble_eq_true rfl)⟩) hS (fun q _ h => hFc q h) hFc (fun _ t_ H2577 locs ht hvm hw hB hz1 hk1 hS => ?_)
                obtain ⟨x2579, J2580, hP1, hD1, hI2582, f2581⟩ := hB
                rw [ht] at hP1
                have hP := hP1
                have hD := dW hFc hD1
                obtain ⟨im2583, im2584, im2585, im2586, im2587, im2588, im2589, im2590, im2591, im2592, im2593, im2594, im2595, im2596, im2597, im2598, im2599, im2600, im2601, im2602, im2603, im2604, im2605, im2606, im2607, im2608, im2609, im2610, im2611, im2612, im2613, im2614, im2615⟩ := id hI2582
                refine lv_aload_n hx hb dX9_unit_147 rfl (lv_at hl 5 rfl) ?_
                refine va_calli (va_runV (As := []) (rest := []) ⟨hx, hb, hml, hown, hG⟩ (kX9_isGood l dC dI r ct i_taped i_size x2579 i_at i_end i_token i_number i_bank i_rb i_codes i_within i_piled i_unitsInRule i_askHouse i_askTune i_acts i_undone i_laid i_knowns i_time f_text f_tunes f_houses f_hums f_told f_many f_ruleFrom f_ruleTo f_code f_eWhat f_eSign f_all f_kept f_was f_sTune f_boxAll J2580 L H2577.size hI2582) (cwV 0 hG (goodV gw1401 gw1403 gw61 gw138 gw1404) rfl rfl rfl hd_X9_isGood ⟨(Nat.le_of_ble_eq_true rfl), (Nat.le_of_ble_eq_true rfl)⟩) ⟨fbR, va_recv hK hP (ci := 8) (q0 := 0) rfl rfl, pR_in hP hK⟩ rfl rfl hl.1 rfl (lv_room (Nat.le_of_ble_eq_true rfl)) dX9_unit_148 ⟨(Nat.le_of_ble_eq_true rfl), (Nat.le_of_ble_eq_true rfl)⟩) hS (fun q hq h => absurd hq (Nat.not_lt.mpr h)) (fun q h => hA q (Nat.le_trans hS.1 h)) (fun r_2617 u_ t_ H2616 locs ht hvm hw hB hz1 hk1 hS => ?_)
                subst hw
                have hP := wk hP hk1
                obtain ⟨f2618, f2619, f2620⟩ := hB
                refine lv_if_ne (tgt := 156) hx hb dX9_unit_151 (by decide) (fun c_2621 => ((ob_172 (qi_ne c_2621 rfl zc_0) f2581 f2618)).elim) (fun c_2621 => ?_)
                have f2622 : r_2617.toInt = 0 := qi_eq c_2621 rfl zc_0
                have f2623 : x2579.toInt ≠ (0 : Int) := (ob_173 im2600 f2581)
                have f2624 : (1 : Int) ≤ x2579.toInt := (ob_156 im2600 f2581)
                have f2625 : r_2617.toInt = (0 : Int) := (ob_165 f2619 f2620 f2622)
                refine lv_iconst (v := 1) hx hb dX9_unit_154 (by decide) ?_
                rw [hQ]
                exact W.zret (v := 1) hx hb hr (by decide) (fun t ht hW => ⟨⟨1, 1, rfl, rfl, ⟨x2579, i_at, i_end, i_token, i_number, i_codes, i_within, i_piled, i_unitsInRule, f_code, f_eWhat, f_eSign, J2580, L, by rw [ht]; exact hP, hD, hI2582, (ob_14 zc_1), (ob_15 zc_1), (fun h => ((ob_214 h im2600 f2581)).elim), (ob_215 hp5 hp7 hp8), (ob_216 hp2 hp4 hp7), (ob_88), (ob_217 f2581 zc_1)⟩⟩, hS.F ht⟩) hS.2.2 dX9_unit_155
              · skip
                have f2626 : r_1761.toInt ≠ 0 := qi_ne c_2575 rfl zc_0
                have f2627 : (1 : Int) ≤ r_1761.toInt := (ob_224 f1762 f2626 zc_40)
                have f2628 : i_token.toInt = (5 : Int) := (ob_225 f1762 f2626 zc_40)
                have f2629 : (sgz f_text i_size.toInt i_at.toInt) = (40 : Int) := (ob_226 f1762 f2626 zc_40)
                have f2630 : r_1761.toInt = (1 : Int) := (ob_104 f1763 f1764 f2627)
                refine lv_iload hx hb dX9_unit_121 (lv_at hl 0 rfl) ?_
                refine lv_if_ne (tgt := 143) hx hb dX9_unit_123 (by decide) (fun c_2631 => ?_) (fun c_2631 => absurd c_2631 (by decide))
                refine lv_aload_n hx hb dX9_unit_143 rfl (lv_at hl 5 rfl) ?_
                have hFc := frA hD hS hA
                refine va_callv (va_runV (As := []) (rest := []) ⟨hx, hb, hml, hown, hG⟩ (kX9_misplaced l dC dI r ct i_taped i_size i_faultKind i_at i_end i_token i_number i_bank i_rb i_codes i_within i_piled i_unitsInRule i_askHouse i_askTune i_acts i_undone i_laid i_knowns i_time f_text f_tunes f_houses f_hums f_told f_many f_ruleFrom f_ruleTo f_code f_eWhat f_eSign f_all f_kept f_was f_sTune f_boxAll J L H1765.size hI) (cwV 0 hG (goodV gw1420 gw1422 gw65 gw138 gw1423) rfl rfl rfl hd_X9_misplaced ⟨(Nat.le_of_ble_eq_true rfl), (Nat.le_of_ble_eq_true rfl)⟩) ⟨fbW, va_recv hK hP (ci := 8) (q0 := 0) rfl rfl, pW_in hP hK hD⟩ rfl rfl hl.1 rfl (lv_room (Nat.le_of_ble_eq_true rfl)) dX9_unit_144 ⟨(Nat.le_of_ble_eq_true rfl), (Nat.le_of_ble_eq_true rfl)⟩) hS (fun q _ h => hFc q h) hFc (fun _ t_ H2632 locs ht hvm hw hB hz1 hk1 hS => ?_)
                obtain ⟨x2634, J2635, hP1, hD1, hI2637, f2636⟩ := hB
                rw [ht] at hP1
                have hP := hP1
                have hD := dW hFc hD1
                obtain ⟨im2638, im2639, im2640, im2641, im2642, im2643, im2644, im2645, im2646, im2647, im2648, im2649, im2650, im2651, im2652, im2653, im2654, im2655, im2656, im2657, im2658, im2659, im2660, im2661, im2662, im2663, im2664, im2665, im2666, im2667, im2668, im2669, im2670⟩ := id hI2637
                refine lv_aload_n hx hb dX9_unit_147 rfl (lv_at hl 5 rfl) ?_
                refine va_calli (va_runV (As := []) (rest := []) ⟨hx, hb, hml, hown, hG⟩ (kX9_isGood l dC dI r ct i_taped i_size x2634 i_at i_end i_token i_number i_bank i_rb i_codes i_within i_piled i_unitsInRule i_askHouse i_askTune i_acts i_undone i_laid i_knowns i_time f_text f_tunes f_houses f_hums f_told f_many f_ruleFrom f_ruleTo f_code f_eWhat f_eSign f_all f_kept f_was f_sTune f_boxAll J2635 L H2632.size hI2637) (cwV 0 hG (goodV gw1401 gw1403 gw61 gw138 gw1404) rfl rfl rfl hd_X9_isGood ⟨(Nat.le_of_ble_eq_true rfl), (Nat.le_of_ble_eq_true rfl)⟩) ⟨fbR, va_recv hK hP (ci := 8) (q0 := 0) rfl rfl, pR_in hP hK⟩ rfl rfl hl.1 rfl (lv_room (Nat.le_of_ble_eq_true rfl)) dX9_unit_148 ⟨(Nat.le_of_ble_eq_true rfl), (Nat.le_of_ble_eq_true rfl)⟩) hS (fun q hq h => absurd hq (Nat.not_lt.mpr h)) (fun q h => hA q (Nat.le_trans hS.1 h)) (fun r_2672 u_ t_ H2671 locs ht hvm hw hB hz1 hk1 hS => ?_)
                subst hw
                have hP := wk hP hk1
                obtain ⟨f2673, f2674, f2675⟩ := hB
                refine lv_if_ne (tgt := 156) hx hb dX9_unit_151 (by decide) (fun c_2676 => ((ob_172 (qi_ne c_2676 rfl zc_0) f2636 f2673)).elim) (fun c_2676 => ?_)
                have f2677 : r_2672.toInt = 0 := qi_eq c_2676 rfl zc_0
                have f2678 : x2634.toInt ≠ (0 : Int) := (ob_173 im2655 f2636)
                have f2679 : (1 : Int) ≤ x2634.toInt := (ob_156 im2655 f2636)
                have f2680 : r_2672.toInt = (0 : Int) := (ob_165 f2674 f2675 f2677)
                refine lv_iconst (v := 1) hx hb dX9_unit_154 (by decide) ?_
                rw [hQ]
                exact W.zret (v := 1) hx hb hr (by decide) (fun t ht hW => ⟨⟨1, 1, rfl, rfl, ⟨x2634, i_at, i_end, i_token, i_number, i_codes, i_within, i_piled, i_unitsInRule, f_code, f_eWhat, f_eSign, J2635, L, by rw [ht]; exact hP, hD, hI2637, (ob_14 zc_1), (ob_15 zc_1), (fun h => ((ob_214 h im2655 f2636)).elim), (ob_215 hp5 hp7 hp8), (ob_216 hp2 hp4 hp7), (ob_88), (ob_217 f2636 zc_1)⟩⟩, hS.F ht⟩) hS.2.2 dX9_unit_155
    · skip
      have f2681 : 7 ≤ (f_eWhat (i_piled.toInt + (-1)).toNat).toInt := qi_nlt c_1756 rfl zc_7
      refine lv_iconst (v := 1) hx hb dX9_unit_31 (by decide) ?_
      refine lv_goto (tgt := 36) hx hb dX9_unit_32 (by decide) ?_
      refine lv_istore_n (lv' := [(1, .int 1), (0, .ref (r 0))]) hx hb dX9_unit_36 rfl hl (by decide) rfl (fun ls hl => ?_)
      refine lv_iload_n hx hb dX9_unit_37 rfl (lv_at hl 0 rfl) ?_
      refine lv_if_eq (tgt := 55) hx hb dX9_unit_38 (by decide) (fun c_2682 => absurd c_2682 (by decide)) (fun c_2682 => ?_)
      refine lv_aload_n hx hb dX9_unit_41 rfl (lv_at hl 1 rfl) ?_
      refine lv_ldc2 (v := 7237492) hx hb hown (hG _ gw1394) dX9_unit_42 ?_
      refine va_calli (va_runV (As := [.long (7237492 : Int64)]) (rest := []) ⟨hx, hb, hml, hown, hG⟩ (kX9_isWord l dC dI r ct i_taped i_size i_faultKind i_at i_end i_token i_number i_bank i_rb i_codes i_within i_piled i_unitsInRule i_askHouse i_askTune i_acts i_undone i_laid i_knowns i_time f_text f_tunes f_houses f_hums f_told f_many f_ruleFrom f_ruleTo f_code f_eWhat f_eSign f_all f_kept f_was f_sTune f_boxAll J L (7237492 : Int64) s.heap.size hI) (cwV 1 hG (goodV gw1413 gw1415 gw64 gw138 gw1416) rfl rfl rfl hd_X9_isWord ⟨(Nat.le_of_ble_eq_true rfl), (Nat.le_of_ble_eq_true rfl)⟩) ⟨fbR, va_recv hK hP (ci := 8) (q0 := 0) rfl rfl, pR_in hP hK⟩ rfl rfl hl.1 rfl (lv_room (Nat.le_of_ble_eq_true rfl)) dX9_unit_45 ⟨(Nat.le_of_ble_eq_true rfl), (Nat.le_of_ble_eq_true rfl)⟩) hS (fun q hq h => absurd hq (Nat.not_lt.mpr h)) (fun q h => hA q (Nat.le_trans hS.1 h)) (fun r_2684 u_ t_ H2683 locs ht hvm hw hB hz1 hk1 hS => ?_)
      subst hw
      have hP := wk hP hk1
      obtain ⟨f2685, f2686, f2687⟩ := hB
      refine lv_if_eq (tgt := 55) hx hb dX9_unit_48 (by decide) (fun c_2688 => ?_) (fun c_2688 => ?_)
      · skip
        have f2689 : r_2684.toInt = 0 := qi_eq c_2688 rfl zc_0
        refine lv_iconst (v := 0) hx hb dX9_unit_55 (by decide) ?_
        refine lv_istore_n (lv' := [(2, .int 0), (1, .int 1), (0, .ref (r 0))]) hx hb dX9_unit_56 rfl hl (by decide) rfl (fun ls hl => ?_)
        refine lv_aload_n hx hb dX9_unit_57 rfl (lv_at hl 2 rfl) ?_
        refine lv_bipush (v := 40) hx hb dX9_unit_58 (by decide) ?_
        refine va_calli (va_runV (As := [.int 40]) (rest := []) ⟨hx, hb, hml, hown, hG⟩ (kX9_isSignHere l dC dI r ct i_taped i_size i_faultKind i_at i_end i_token i_number i_bank i_rb i_codes i_within i_piled i_unitsInRule i_askHouse i_askTune i_acts i_undone i_laid i_knowns i_time f_text f_tunes f_houses f_hums f_told f_many f_ruleFrom f_ruleTo f_code f_eWhat f_eSign f_all f_kept f_was f_sTune f_boxAll J L 40 H2683.size hI) (cwV 1 hG (goodV gw1476 gw1478 gw79 gw138 gw1479) rfl rfl rfl hd_X9_isSignHere ⟨(Nat.le_of_ble_eq_true rfl), (Nat.le_of_ble_eq_true rfl)⟩) ⟨fbR, va_recv hK hP (ci := 8) (q0 := 0) rfl rfl, pR_in hP hK⟩ rfl rfl hl.1 rfl (lv_room (Nat.le_of_ble_eq_true rfl)) dX9_unit_60 ⟨(Nat.le_of_ble_eq_true rfl), (Nat.le_of_ble_eq_true rfl)⟩) hS (fun q hq h => absurd hq (Nat.not_lt.mpr h)) (fun q h => hA q (Nat.le_trans hS.1 h)) (fun r_2691 u_ t_ H2690 locs ht hvm hw hB hz1 hk1 hS => ?_)
        subst hw
        have hP := wk hP hk1
        obtain ⟨f2692, f2693, f2694⟩ := hB
        refine lv_istore_n (lv' := [(3, .int r_2691), (2, .int 0), (1, .int 1), (0, .ref (r 0))]) hx hb dX9_unit_63 rfl hl (by decide) rfl (fun ls hl => ?_)
        refine lv_aload_n hx hb dX9_unit_64 rfl (lv_at hl 3 rfl) ?_
        refine va_calli (va_runV (As := []) (rest := []) ⟨hx, hb, hml, hown, hG⟩ (kX9_wordHere l dC dI r ct i_taped i_size i_faultKind i_at i_end i_token i_number i_bank i_rb i_codes i_within i_piled i_unitsInRule i_askHouse i_askTune i_acts i_undone i_laid i_knowns i_time f_text f_tunes f_houses f_hums f_told f_many f_ruleFrom f_ruleTo f_code f_eWhat f_eSign f_all f_kept f_was f_sTune f_boxAll J L H2690.size hI) (cwV 0 hG (goodV gw1480 gw1482 gw80 gw138 gw1483) rfl rfl rfl hd_X9_wordHere ⟨(Nat.le_of_ble_eq_true rfl), (Nat.le_of_ble_eq_true rfl)⟩) ⟨fbR, va_recv hK hP (ci := 8) (q0 := 0) rfl rfl, pR_in hP hK⟩ rfl rfl hl.1 rfl (lv_room (Nat.le_of_ble_eq_true rfl)) dX9_unit_65 ⟨(Nat.le_of_ble_eq_true rfl), (Nat.le_of_ble_eq_true rfl)⟩) hS (fun q hq h => absurd hq (Nat.not_lt.mpr h)) (fun q h => hA q (Nat.le_trans hS.1 h)) (fun r_2696 u_ t_ H2695 locs ht hvm hw hB hz1 hk1 hS => ?_)
        subst hw
        have hP := wk hP hk1
        have f2697 := hB
        refine lv_istore (lv' := [(4, .int r_2696), (3, .int r_2691), (2, .int 0), (1, .int 1), (0, .ref (r 0))]) hx hb dX9_unit_68 hl (by decide) rfl (fun ls hl => ?_)
        refine lv_aload_n hx hb dX9_unit_70 rfl (lv_at hl 4 rfl) ?_
        refine gM_X9_30_0 hx hb hG hown hK hP dX9_unit_71 ?_
        refine lv_aload_n hx hb dX9_unit_74 rfl (lv_at hl 4 rfl) ?_
        refine gM_X9_240_0 hx hb hG hown hK hP dX9_unit_75 ?_
        refine ldM_6 (mm := i_rb.toInt) hx hb hK hP rfl (ob_212 im6) (ob_213 im7) dX9_unit_78 (fun x2698 => ?_)
        refine lv_bipush (v := 60) hx hb dX9_unit_79 (by decide) ?_
        refine lv_icmp_eq (tgt := 93) hx hb dX9_unit_81 (by decide) (fun c_2699 => ?_) (fun c_2699 => ?_)
        · skip
          have f2700 : x2698.toInt = 60 := qi_eq c_2699 rfl zc_60
          refine lv_iconst (v := 1) hx hb dX9_unit_93 (by decide) ?_
          refine lv_goto (tgt := 98) hx hb dX9_unit_94 (by decide) ?_
          refine lv_istore (lv' := [(5, .int 1), (4, .int r_2696), (3, .int r_2691), (2, .int 0), (1, .int 1), (0, .ref (r 0))]) hx hb dX9_unit_98 hl (by decide) rfl (fun ls hl => ?_)
          refine lv_iload_n hx hb dX9_unit_100 rfl (lv_at hl 3 rfl) ?_
          refine lv_if_ne (tgt := 126) hx hb dX9_unit_101 (by decide) (fun c_2701 => absurd (by decide) c_2701) (fun c_2701 => ?_)
          refine lv_iload hx hb dX9_unit_104 (lv_at hl 1 rfl) ?_
          refine lv_if_ne (tgt := 121) hx hb dX9_unit_106 (by decide) (fun c_2702 => ?_) (fun c_2702 => ?_)
          · skip
            have f2703 : r_2696.toInt ≠ 0 := qi_ne c_2702 rfl zc_0
            refine lv_iload hx hb dX9_unit_121 (lv_at hl 0 rfl) ?_
            refine lv_if_ne (tgt := 143) hx hb dX9_unit_123 (by decide) (fun c_2704 => ?_) (fun c_2704 => absurd c_2704 (by decide))
            refine lv_aload_n hx hb dX9_unit_143 rfl (lv_at hl 5 rfl) ?_
            have hFc := frA hD hS hA
            refine va_callv (va_runV (As := []) (rest := []) ⟨hx, hb, hml, hown, hG⟩ (kX9_misplaced l dC dI r ct i_taped i_size i_faultKind i_at i_end i_token i_number i_bank i_rb i_codes i_within i_piled i_unitsInRule i_askHouse i_askTune i_acts i_undone i_laid i_knowns i_time f_text f_tunes f_houses f_hums f_told f_many f_ruleFrom f_ruleTo f_code f_eWhat f_eSign f_all f_kept f_was f_sTune f_boxAll J L H2695.size hI) (cwV 0 hG (goodV gw1420 gw1422 gw65 gw138 gw1423) rfl rfl rfl hd_X9_misplaced ⟨(Nat.le_of_ble_eq_true rfl), (Nat.le_of_ble_eq_true rfl)⟩) ⟨fbW, va_recv hK hP (ci := 8) (q0 := 0) rfl rfl, pW_in hP hK hD⟩ rfl rfl hl.1 rfl (lv_room (Nat.le_of_ble_eq_true rfl)) dX9_unit_144 ⟨(Nat.le_of_ble_eq_true rfl), (Nat.le_of_ble_eq_true rfl)⟩) hS (fun q _ h => hFc q h) hFc (fun _ t_ H2705 locs ht hvm hw hB hz1 hk1 hS => ?_)
            obtain ⟨x2707, J2708, hP1, hD1, hI2710, f2709⟩ := hB
            rw [ht] at hP1
            have hP := hP1
            have hD := dW hFc hD1
            obtain ⟨im2711, im2712, im2713, im2714, im2715, im2716, im2717, im2718, im2719, im2720, im2721, im2722, im2723, im2724, im2725, im2726, im2727, im2728, im2729, im2730, im2731, im2732, im2733, im2734, im2735, im2736, im2737, im2738, im2739, im2740, im2741, im2742, im2743⟩ := id hI2710
            refine lv_aload_n hx hb dX9_unit_147 rfl (lv_at hl 5 rfl) ?_
            refine va_calli (va_runV (As := []) (rest := []) ⟨hx, hb, hml, hown, hG⟩ (kX9_isGood l dC dI r ct i_taped i_size x2707 i_at i_end i_token i_number i_bank i_rb i_codes i_within i_piled i_unitsInRule i_askHouse i_askTune i_acts i_undone i_laid i_knowns i_time f_text f_tunes f_houses f_hums f_told f_many f_ruleFrom f_ruleTo f_code f_eWhat f_eSign f_all f_kept f_was f_sTune f_boxAll J2708 L H2705.size hI2710) (cwV 0 hG (goodV gw1401 gw1403 gw61 gw138 gw1404) rfl rfl rfl hd_X9_isGood ⟨(Nat.le_of_ble_eq_true rfl), (Nat.le_of_ble_eq_true rfl)⟩) ⟨fbR, va_recv hK hP (ci := 8) (q0 := 0) rfl rfl, pR_in hP hK⟩ rfl rfl hl.1 rfl (lv_room (Nat.le_of_ble_eq_true rfl)) dX9_unit_148 ⟨(Nat.le_of_ble_eq_true rfl), (Nat.le_of_ble_eq_true rfl)⟩) hS (fun q hq h => absurd hq (Nat.not_lt.mpr h)) (fun q h => hA q (Nat.le_trans hS.1 h)) (fun r_2745 u_ t_ H2744 locs ht hvm hw hB hz1 hk1 hS => ?_)
            subst hw
            have hP := wk hP hk1
            obtain ⟨f2746, f2747, f2748⟩ := hB
            refine lv_if_ne (tgt := 156) hx hb dX9_unit_151 (by decide) (fun c_2749 => ((ob_172 (qi_ne c_2749 rfl zc_0) f2709 f2746)).elim) (fun c_2749 => ?_)
            have f2750 : r_2745.toInt = 0 := qi_eq c_2749 rfl zc_0
            have f2751 : x2707.toInt ≠ (0 : Int) := (ob_173 im2728 f2709)
            have f2752 : (1 : Int) ≤ x2707.toInt := (ob_156 im2728 f2709)
            have f2753 : r_2745.toInt = (0 : Int) := (ob_165 f2747 f2748 f2750)
            refine lv_iconst (v := 1) hx hb dX9_unit_154 (by decide) ?_
            rw [hQ]
            exact W.zret (v := 1) hx hb hr (by decide) (fun t ht hW => ⟨⟨1, 1, rfl, rfl, ⟨x2707, i_at, i_end, i_token, i_number, i_codes, i_within, i_piled, i_unitsInRule, f_code, f_eWhat, f_eSign, J2708, L, by rw [ht]; exact hP, hD, hI2710, (ob_14 zc_1), (ob_15 zc_1), (fun h => ((ob_214 h im2728 f2709)).elim), (ob_215 hp5 hp7 hp8), (ob_216 hp2 hp4 hp7), (ob_88), (ob_217 f2709 zc_1)⟩⟩, hS.F ht⟩) hS.2.2 dX9_unit_155
          · skip
            have f2754 : r_2696.toInt = 0 := qi_eq c_2702 rfl zc_0
            have f2755 : r_2696.toInt = (0 : Int) := (ob_218 f2754)
            refine lv_aload_n hx hb dX9_unit_109 rfl (lv_at hl 5 rfl) ?_
            refine gM_X9_191_0 hx hb hG hown hK hP dX9_unit_110 ?_
            refine lv_iconst (v := 4) hx hb dX9_unit_113 (by decide) ?_
            refine lv_icmp_eq (tgt := 121) hx hb dX9_unit_114 (by decide) (fun c_2756 => ?_) (fun c_2756 => ?_)
            · skip
              have f2757 : i_token.toInt = 4 := qi_eq c_2756 rfl zc_4
              have f2758 : i_token.toInt ≠ (3 : Int) := (ob_219 f2757)
              have f2759 : r_2684.toInt = (0 : Int) := (ob_165 f2686 f2687 f2689)
              have f2760 : i_token.toInt ≠ (5 : Int) := (ob_220 f2757)
              have f2761 : r_2691.toInt = (0 : Int) := (ob_221 f2692 f2757 zc_40)
              have f2762 : (4 : Int) ≤ i_token.toInt := (ob_222 f2757)
              have f2763 : i_token.toInt ≤ (4 : Int) := (ob_223 f2757 f2762)
              refine lv_iload hx hb dX9_unit_121 (lv_at hl 0 rfl) ?_
              refine lv_if_ne (tgt := 143) hx hb dX9_unit_123 (by decide) (fun c_2764 => ?_) (fun c_2764 => absurd c_2764 (by decide))
              refine lv_aload_n hx hb dX9_unit_143 rfl (lv_at hl 5 rfl) ?_
              have hFc := frA hD hS hA
              refine va_callv (va_runV (As := []) (rest := []) ⟨hx, hb, hml, hown, hG⟩ (kX9_misplaced l dC dI r ct i_taped i_size i_faultKind i_at i_end i_token i_number i_bank i_rb i_codes i_within i_piled i_unitsInRule i_askHouse i_askTune i_acts i_undone i_laid i_knowns i_time f_text f_tunes f_houses f_hums f_told f_many f_ruleFrom f_ruleTo f_code f_eWhat f_eSign f_all f_kept f_was f_sTune f_boxAll J L H2695.size hI) (cwV 0 hG (goodV gw1420 gw1422 gw65 gw138 gw1423) rfl rfl rfl hd_X9_misplaced ⟨(Nat.le_of_ble_eq_true rfl), (Nat.le_of_ble_eq_true rfl)⟩) ⟨fbW, va_recv hK hP (ci := 8) (q0 := 0) rfl rfl, pW_in hP hK hD⟩ rfl rfl hl.1 rfl (lv_room (Nat.le_of_ble_eq_true rfl)) dX9_unit_144 ⟨(Nat.le_of_ble_eq_true rfl), (Nat.le_of_ble_eq_true rfl)⟩) hS (fun q _ h => hFc q h) hFc (fun _ t_ H2765 locs ht hvm hw hB hz1 hk1 hS => ?_)
              obtain ⟨x2767, J2768, hP1, hD1, hI2770, f2769⟩ := hB
              rw [ht] at hP1
              have hP := hP1
              have hD := dW hFc hD1
              obtain ⟨im2771, im2772, im2773, im2774, im2775, im2776, im2777, im2778, im2779, im2780, im2781, im2782, im2783, im2784, im2785, im2786, im2787, im2788, im2789, im2790, im2791, im2792, im2793, im2794, im2795, im2796, im2797, im2798, im2799, im2800, im2801, im2802, im2803⟩ := id hI2770
              refine lv_aload_n hx hb dX9_unit_147 rfl (lv_at hl 5 rfl) ?_
              refine va_calli (va_runV (As := []) (rest := []) ⟨hx, hb, hml, hown, hG⟩ (kX9_isGood l dC dI r ct i_taped i_size x2767 i_at i_end i_token i_number i_bank i_rb i_codes i_within i_piled i_unitsInRule i_askHouse i_askTune i_acts i_undone i_laid i_knowns i_time f_text f_tunes f_houses f_hums f_told f_many f_ruleFrom f_ruleTo f_code f_eWhat f_eSign f_all f_kept f_was f_sTune f_boxAll J2768 L H2765.size hI2770) (cwV 0 hG (goodV gw1401 gw1403 gw61 gw138 gw1404) rfl rfl rfl hd_X9_isGood ⟨(Nat.le_of_ble_eq_true rfl), (Nat.le_of_ble_eq_true rfl)⟩) ⟨fbR, va_recv hK hP (ci := 8) (q0 := 0) rfl rfl, pR_in hP hK⟩ rfl rfl hl.1 rfl (lv_room (Nat.le_of_ble_eq_true rfl)) dX9_unit_148 ⟨(Nat.le_of_ble_eq_true rfl), (Nat.le_of_ble_eq_true rfl)⟩) hS (fun q hq h => absurd hq (Nat.not_lt.mpr h)) (fun q h => hA q (Nat.le_trans hS.1 h)) (fun r_2805 u_ t_ H2804 locs ht hvm hw hB hz1 hk1 hS => ?_)
              subst hw
              have hP := wk hP hk1
              obtain ⟨f2806, f2807, f2808⟩ := hB
              refine lv_if_ne (tgt := 156) hx hb dX9_unit_151 (by decide) (fun c_2809 => ((ob_172 (qi_ne c_2809 rfl zc_0) f2769 f2806)).elim) (fun c_2809 => ?_)
              have f2810 : r_2805.toInt = 0 := qi_eq c_2809 rfl zc_0
              have f2811 : x2767.toInt ≠ (0 : Int) := (ob_173 im2788 f2769)
              have f2812 : (1 : Int) ≤ x2767.toInt := (ob_156 im2788 f2769)
              have f2813 : r_2805.toInt = (0 : Int) := (ob_165 f2807 f2808 f2810)
              refine lv_iconst (v := 1) hx hb dX9_unit_154 (by decide) ?_
              rw [hQ]
              exact W.zret (v := 1) hx hb hr (by decide) (fun t ht hW => ⟨⟨1, 1, rfl, rfl, ⟨x2767, i_at, i_end, i_token, i_number, i_codes, i_within, i_piled, i_unitsInRule, f_code, f_eWhat, f_eSign, J2768, L, by rw [ht]; exact hP, hD, hI2770, (ob_14 zc_1), (ob_15 zc_1), (fun h => ((ob_214 h im2788 f2769)).elim), (ob_215 hp5 hp7 hp8), (ob_216 hp2 hp4 hp7), (ob_88), (ob_217 f2769 zc_1)⟩⟩, hS.F ht⟩) hS.2.2 dX9_unit_155
            · skip
              have f2814 : i_token.toInt ≠ 4 := qi_ne c_2756 rfl zc_4
              refine lv_iload_n hx hb dX9_unit_117 rfl (lv_at hl 2 rfl) ?_
              refine lv_if_eq (tgt := 143) hx hb dX9_unit_118 (by decide) (fun c_2815 => ?_) (fun c_2815 => ?_)
              · skip
                have f2816 : r_2691.toInt = 0 := qi_eq c_2815 rfl zc_0
                refine lv_aload_n hx hb dX9_unit_143 rfl (lv_at hl 5 rfl) ?_
                have hFc := frA hD hS hA
                refine va_callv (va_runV (As := []) (rest := []) ⟨hx, hb, hml, hown, hG⟩ (kX9_misplaced l dC dI r ct i_taped i_size i_faultKind i_at i_end i_token i_number i_bank i_rb i_codes i_within i_piled i_unitsInRule i_askHouse i_askTune i_acts i_undone i_laid i_knowns i_time f_text f_tunes f_houses f_hums f_told f_many f_ruleFrom f_ruleTo f_code f_eWhat f_eSign f_all f_kept f_was f_sTune f_boxAll J L H2695.size hI) (cwV 0 hG (goodV gw1420 gw1422 gw65 gw138 gw1423) rfl rfl rfl hd_X9_misplaced ⟨(Nat.le_of_ble_eq_true rfl), (Nat.le_of_ble_eq_true rfl)⟩) ⟨fbW, va_recv hK hP (ci := 8) (q0 := 0) rfl rfl, pW_in hP hK hD⟩ rfl rfl hl.1 rfl (lv_room (Nat.le_of_ble_eq_true rfl)) dX9_unit_144 ⟨(Nat.le_of_ble_eq_true rfl), (Nat.le_of_ble_eq_true rfl)⟩) hS (fun q _ h => hFc q h) hFc (fun _ t_ H2817 locs ht hvm hw hB hz1 hk1 hS => ?_)
                obtain ⟨x2819, J2820, hP1, hD1, hI2822, f2821⟩ := hB
                rw [ht] at hP1
                have hP := hP1
                have hD := dW hFc hD1
                obtain ⟨im2823, im2824, im2825, im2826, im2827, im2828, im2829, im2830, im2831, im2832, im2833, im2834, im2835, im2836, im2837, im2838, im2839, im2840, im2841, im2842, im2843, im2844, im2845, im2846, im2847, im2848, im2849, im2850, im2851, im2852, im2853, im2854, im2855⟩ := id hI2822
                refine lv_aload_n hx hb dX9_unit_147 rfl (lv_at hl 5 rfl) ?_
                refine va_calli (va_runV (As := []) (rest := []) ⟨hx, hb, hml, hown, hG⟩ (kX9_isGood l dC dI r ct i_taped i_size x2819 i_at i_end i_token i_number i_bank i_rb i_codes i_within i_piled i_unitsInRule i_askHouse i_askTune i_acts i_undone i_laid i_knowns i_time f_text f_tunes f_houses f_hums f_told f_many f_ruleFrom f_ruleTo f_code f_eWhat f_eSign f_all f_kept f_was f_sTune f_boxAll J2820 L H2817.size hI2822) (cwV 0 hG (goodV gw1401 gw1403 gw61 gw138 gw1404) rfl rfl rfl hd_X9_isGood ⟨(Nat.le_of_ble_eq_true rfl), (Nat.le_of_ble_eq_true rfl)⟩) ⟨fbR, va_recv hK hP (ci := 8) (q0 := 0) rfl rfl, pR_in hP hK⟩ rfl rfl hl.1 rfl (lv_room (Nat.le_of_ble_eq_true rfl)) dX9_unit_148 ⟨(Nat.le_of_ble_eq_true rfl), (Nat.le_of_ble_eq_true rfl)⟩) hS (fun q hq h => absurd hq (Nat.not_lt.mpr h)) (fun q h => hA q (Nat.le_trans hS.1 h)) (fun r_2857 u_ t_ H2856 locs ht hvm hw hB hz1 hk1 hS => ?_)
                subst hw
                have hP := wk hP hk1
                obtain ⟨f2858, f2859, f2860⟩ := hB
                refine lv_if_ne (tgt := 156) hx hb dX9_unit_151 (by decide) (fun c_2861 => ((ob_172 (qi_ne c_2861 rfl zc_0) f2821 f2858)).elim) (fun c_2861 => ?_)
                have f2862 : r_2857.toInt = 0 := qi_eq c_2861 rfl zc_0
                have f2863 : x2819.toInt ≠ (0 : Int) := (ob_173 im2840 f2821)
                have f2864 : (1 : Int) ≤ x2819.toInt := (ob_156 im2840 f2821)
                have f2865 : r_2857.toInt = (0 : Int) := (ob_165 f2859 f2860 f2862)
                refine lv_iconst (v := 1) hx hb dX9_unit_154 (by decide) ?_
                rw [hQ]
                exact W.zret (v := 1) hx hb hr (by decide) (fun t ht hW => ⟨⟨1, 1, rfl, rfl, ⟨x2819, i_at, i_end, i_token, i_number, i_codes, i_within, i_piled, i_unitsInRule, f_code, f_eWhat, f_eSign, J2820, L, by rw [ht]; exact hP, hD, hI2822, (ob_14 zc_1), (ob_15 zc_1), (fun h => ((ob_214 h im2840 f2821)).elim), (ob_215 hp5 hp7 hp8), (ob_216 hp2 hp4 hp7), (ob_88), (ob_217 f2821 zc_1)⟩⟩, hS.F ht⟩) hS.2.2 dX9_unit_155
              · skip
                have f2866 : r_2691.toInt ≠ 0 := qi_ne c_2815 rfl zc_0
                have f2867 : (1 : Int) ≤ r_2691.toInt := (ob_224 f2692 f2866 zc_40)
                have f2868 : i_token.toInt = (5 : Int) := (ob_225 f2692 f2866 zc_40)
                have f2869 : (sgz f_text i_size.toInt i_at.toInt) = (40 : Int) := (ob_226 f2692 f2866 zc_40)
                have f2870 : r_2691.toInt = (1 : Int) := (ob_104 f2693 f2694 f2867)
                refine lv_iload hx hb dX9_unit_121 (lv_at hl 0 rfl) ?_
                refine lv_if_ne (tgt := 143) hx hb dX9_unit_123 (by decide) (fun c_2871 => ?_) (fun c_2871 => absurd c_2871 (by decide))
                refine lv_aload_n hx hb dX9_unit_143 rfl (lv_at hl 5 rfl) ?_
                have hFc := frA hD hS hA
                refine va_callv (va_runV (As := []) (rest := []) ⟨hx, hb, hml, hown, hG⟩ (kX9_misplaced l dC dI r ct i_taped i_size i_faultKind i_at i_end i_token i_number i_bank i_rb i_codes i_within i_piled i_unitsInRule i_askHouse i_askTune i_acts i_undone i_laid i_knowns i_time f_text f_tunes f_houses f_hums f_told f_many f_ruleFrom f_ruleTo f_code f_eWhat f_eSign f_all f_kept f_was f_sTune f_boxAll J L H2695.size hI) (cwV 0 hG (goodV gw1420 gw1422 gw65 gw138 gw1423) rfl rfl rfl hd_X9_misplaced ⟨(Nat.le_of_ble_eq_true rfl), (Nat.le_of_ble_eq_true rfl)⟩) ⟨fbW, va_recv hK hP (ci := 8) (q0 := 0) rfl rfl, pW_in hP hK hD⟩ rfl rfl hl.1 rfl (lv_room (Nat.le_of_ble_eq_true rfl)) dX9_unit_144 ⟨(Nat.le_of_ble_eq_true rfl), (Nat.le_of_ble_eq_true rfl)⟩) hS (fun q _ h => hFc q h) hFc (fun _ t_ H2872 locs ht hvm hw hB hz1 hk1 hS => ?_)
                obtain ⟨x2874, J2875, hP1, hD1, hI2877, f2876⟩ := hB
                rw [ht] at hP1
                have hP := hP1
                have hD := dW hFc hD1
                obtain ⟨im2878, im2879, im2880, im2881, im2882, im2883, im2884, im2885, im2886, im2887, im2888, im2889, im2890, im2891, im2892, im2893, im2894, im2895, im2896, im2897, im2898, im2899, im2900, im2901, im2902, im2903, im2904, im2905, im2906, im2907, im2908, im2909, im2910⟩ := id hI2877
                refine lv_aload_n hx hb dX9_unit_147 rfl (lv_at hl 5 rfl) ?_
                refine va_calli (va_runV (As := []) (rest := []) ⟨hx, hb, hml, hown, hG⟩ (kX9_isGood l dC dI r ct i_taped i_size x2874 i_at i_end i_token i_number i_bank i_rb i_codes i_within i_piled i_unitsInRule i_askHouse i_askTune i_acts i_undone i_laid i_knowns i_time f_text f_tunes f_houses f_hums f_told f_many f_ruleFrom f_ruleTo f_code f_eWhat f_eSign f_all f_kept f_was f_sTune f_boxAll J2875 L H2872.size hI2877) (cwV 0 hG (goodV gw1401 gw1403 gw61 gw138 gw1404) rfl rfl rfl hd_X9_isGood ⟨(Nat.le_of_ble_eq_true rfl), (Nat.le_of_ble_eq_true rfl)⟩) ⟨fbR, va_recv hK hP (ci := 8) (q0 := 0) rfl rfl, pR_in hP hK⟩ rfl rfl hl.1 rfl (lv_room (Nat.le_of_ble_eq_true rfl)) dX9_unit_148 ⟨(Nat.le_of_ble_eq_true rfl), (Nat.le_of_ble_eq_true rfl)⟩) hS (fun q hq h => absurd hq (Nat.not_lt.mpr h)) (fun q h => hA q (Nat.le_trans hS.1 h)) (fun r_2912 u_ t_ H2911 locs ht hvm hw hB hz1 hk1 hS => ?_)
                subst hw
                have hP := wk hP hk1
                obtain ⟨f2913, f2914, f2915⟩ := hB
                refine lv_if_ne (tgt := 156) hx hb dX9_unit_151 (by decide) (fun c_2916 => ((ob_172 (qi_ne c_2916 rfl zc_0) f2876 f2913)).elim) (fun c_2916 => ?_)
                have f2917 : r_2912.toInt = 0 := qi_eq c_2916 rfl zc_0
                have f2918 : x2874.toInt ≠ (0 : Int) := (ob_173 im2895 f2876)
                have f2919 : (1 : Int) ≤ x2874.toInt := (ob_156 im2895 f2876)
                have f2920 : r_2912.toInt = (0 : Int) := (ob_165 f2914 f2915 f2917)
                refine lv_iconst (v := 1) hx hb dX9_unit_154 (by decide) ?_
                rw [hQ]
                exact W.zret (v := 1) hx hb hr (by decide) (fun t ht hW => ⟨⟨1, 1, rfl, rfl, ⟨x2874, i_at, i_end, i_token, i_number, i_codes, i_within, i_piled, i_unitsInRule, f_code, f_eWhat, f_eSign, J2875, L, by rw [ht]; exact hP, hD, hI2877, (ob_14 zc_1), (ob_15 zc_1), (fun h => ((ob_214 h im2895 f2876)).elim), (ob_215 hp5 hp7 hp8), (ob_216 hp2 hp4 hp7), (ob_88), (ob_217 f2876 zc_1)⟩⟩, hS.F ht⟩) hS.2.2 dX9_unit_155
        · skip
          have f2921 : x2698.toInt ≠ 60 := qi_ne c_2699 rfl zc_60
          refine lv_aload_n hx hb dX9_unit_84 rfl (lv_at hl 4 rfl) ?_
          refine gM_X9_290_0 hx hb hG hown hK hP dX9_unit_85 ?_
          refine lv_bipush (v := 30) hx hb dX9_unit_88 (by decide) ?_
          refine lv_icmp_ne (tgt := 97) hx hb dX9_unit_90 (by decide) (fun c_2922 => ?_) (fun c_2922 => ?_)
          · skip
            have f2923 : i_unitsInRule.toInt ≠ 30 := qi_ne c_2922 rfl zc_30
            have f2924 : i_unitsInRule.toInt ≤ (29 : Int) := (ob_227 hp2 f2923)
            refine lv_iconst (v := 0) hx hb dX9_unit_97 (by decide) ?_
            refine lv_istore (lv' := [(5, .int 0), (4, .int r_2696), (3, .int r_2691), (2, .int 0), (1, .int 1), (0, .ref (r 0))]) hx hb dX9_unit_98 hl (by decide) rfl (fun ls hl => ?_)
            refine lv_iload_n hx hb dX9_unit_100 rfl (lv_at hl 3 rfl) ?_
            refine lv_if_ne (tgt := 126) hx hb dX9_unit_101 (by decide) (fun c_2925 => absurd (by decide) c_2925) (fun c_2925 => ?_)
            refine lv_iload hx hb dX9_unit_104 (lv_at hl 1 rfl) ?_
            refine lv_if_ne (tgt := 121) hx hb dX9_unit_106 (by decide) (fun c_2926 => ?_) (fun c_2926 => ?_)
            · skip
              have f2927 : r_2696.toInt ≠ 0 := qi_ne c_2926 rfl zc_0
              refine lv_iload hx hb dX9_unit_121 (lv_at hl 0 rfl) ?_
              refine lv_if_ne (tgt := 143) hx hb dX9_unit_123 (by decide) (fun c_2928 => absurd (by decide) c_2928) (fun c_2928 => ?_)
              refine lv_iload_n hx hb dX9_unit_126 rfl (lv_at hl 3 rfl) ?_
              refine lv_if_ne (tgt := 134) hx hb dX9_unit_127 (by decide) (fun c_2929 => absurd (by decide) c_2929) (fun c_2929 => ?_)
              refine lv_iload_n hx hb dX9_unit_130 rfl (lv_at hl 2 rfl) ?_
              refine lv_if_eq (tgt := 147) hx hb dX9_unit_131 (by decide) (fun c_2930 => ?_) (fun c_2930 => ((ob_228 (qi_ne c_2930 rfl zc_0) f2692 f2697 f2927 zc_40)).elim)
              have f2931 : r_2691.toInt = 0 := qi_eq c_2930 rfl zc_0
              refine lv_aload_n hx hb dX9_unit_147 rfl (lv_at hl 5 rfl) ?_
              refine va_calli (va_runV (As := []) (rest := []) ⟨hx, hb, hml, hown, hG⟩ (kX9_isGood l dC dI r ct i_taped i_size i_faultKind i_at i_end i_token i_number i_bank i_rb i_codes i_within i_piled i_unitsInRule i_askHouse i_askTune i_acts i_undone i_laid i_knowns i_time f_text f_tunes f_houses f_hums f_told f_many f_ruleFrom f_ruleTo f_code f_eWhat f_eSign f_all f_kept f_was f_sTune f_boxAll J L H2695.size hI) (cwV 0 hG (goodV gw1401 gw1403 gw61 gw138 gw1404) rfl rfl rfl hd_X9_isGood ⟨(Nat.le_of_ble_eq_true rfl), (Nat.le_of_ble_eq_true rfl)⟩) ⟨fbR, va_recv hK hP (ci := 8) (q0 := 0) rfl rfl, pR_in hP hK⟩ rfl rfl hl.1 rfl (lv_room (Nat.le_of_ble_eq_true rfl)) dX9_unit_148 ⟨(Nat.le_of_ble_eq_true rfl), (Nat.le_of_ble_eq_true rfl)⟩) hS (fun q hq h => absurd hq (Nat.not_lt.mpr h)) (fun q h => hA q (Nat.le_trans hS.1 h)) (fun r_2933 u_ t_ H2932 locs ht hvm hw hB hz1 hk1 hS => ?_)
              subst hw
              have hP := wk hP hk1
              obtain ⟨f2934, f2935, f2936⟩ := hB
              refine lv_if_ne (tgt := 156) hx hb dX9_unit_151 (by decide) (fun c_2937 => ?_) (fun c_2937 => ((ob_167 (qi_eq c_2937 rfl zc_0) hp10 f2934)).elim)
              have f2938 : r_2933.toInt ≠ 0 := qi_ne c_2937 rfl zc_0
              have f2939 : i_faultKind.toInt = (0 : Int) := (ob_168 im17 hp10)
              have f2940 : r_2933.toInt = (1 : Int) := (ob_169 f2934 f2938)
              have f2941 : (1 : Int) ≤ r_2933.toInt := (ob_170 f2935 f2936 f2940)
              refine lv_aload_n hx hb dX9_unit_156 rfl (lv_at hl 5 rfl) ?_
              refine gM_X9_30_0 hx hb hG hown hK hP dX9_unit_157 ?_
              refine lv_aload_n hx hb dX9_unit_160 rfl (lv_at hl 5 rfl) ?_
              refine gM_X9_240_0 hx hb hG hown hK hP dX9_unit_161 ?_
              refine lv_dup2_11 hx hb dX9_unit_164 rfl rfl ?_
              refine ldM_6 (mm := i_rb.toInt) hx hb hK hP rfl (ob_212 im6) (ob_213 im7) dX9_unit_165 (fun x2942 => ?_)
              refine lv_iload_n hx hb dX9_unit_166 rfl (lv_at hl 3 rfl) ?_
              refine lv_if_eq (tgt := 174) hx hb dX9_unit_167 (by decide) (fun c_2943 => ?_) (fun c_2943 => absurd (by decide) c_2943)
              refine lv_iconst (v := 1) hx hb dX9_unit_174 (by decide) ?_
              refine lv_iadd hx hb dX9_unit_175 ?_
              refine lv_topi (fun x2944 ex2944 => ?_)
              refine stM_6 (mm := i_rb.toInt) hx hb hK hP hD hS rfl (ob_212 im6) (ob_213 im7) dX9_unit_176 (fun J2946 H2945 locs hP hD hS => ?_)
              refine lv_aload_n hx hb dX9_unit_177 rfl (lv_at hl 5 rfl) ?_
              refine lv_dup hx hb dX9_unit_178 rfl ?_
              refine gM_X9_290_0 hx hb hG hown hK hP dX9_unit_179 ?_
              refine lv_iload_n hx hb dX9_unit_182 rfl (lv_at hl 3 rfl) ?_
              refine lv_if_eq (tgt := 190) hx hb dX9_unit_183 (by decide) (fun c_2947 => ?_) (fun c_2947 => absurd (by decide) c_2947)
              refine lv_iconst (v := 1) hx hb dX9_unit_190 (by decide) ?_
              refine lv_iadd hx hb dX9_unit_191 ?_
              refine lv_topi (fun x2948 ex2948 => ?_)
              have f2949 : x2948.toInt = i_unitsInRule.toInt + 1 := (ob_84 (qi_add ex2948 rfl zc_1 (ob_82 hp1) (ob_229 hp2)))
              refine pM_X9_290_0 hx hb hG hown hK hP hD hS dX9_unit_192 (fun H2950 locs hP hD hS => ?_)
              refine lv_iload hx hb dX9_unit_195 (lv_at hl 1 rfl) ?_
              refine lv_if_ne (tgt := 207) hx hb dX9_unit_197 (by decide) (fun c_2951 => ?_) (fun c_2951 => ((ob_230 (qi_eq c_2951 rfl zc_0) f2697 f2927)).elim)
              have f2952 : r_2696.toInt ≠ 0 := qi_ne c_2951 rfl zc_0
              refine lv_iconst (v := 0) hx hb dX9_unit_207 (by decide) ?_
              refine lv_istore (lv' := [(6, .int 0), (5, .int 0), (4, .int r_2696), (3, .int r_2691), (2, .int 0), (1, .int 1), (0, .ref (r 0))]) hx hb dX9_unit_208 hl (by decide) rfl (fun ls hl => ?_)
              refine lv_aload_n hx hb dX9_unit_210 rfl (lv_at hl 6 rfl) ?_
              have hFc := frA hD hS hA
              refine va_callv (va_runV (As := []) (rest := []) ⟨hx, hb, hml, hown, hG⟩ (kX9_goOn l dC dI r ct i_taped i_size i_faultKind i_at i_end i_token i_number i_bank i_rb i_codes i_within i_piled x2948 i_askHouse i_askTune i_acts i_undone i_laid i_knowns i_time f_text f_tunes f_houses f_hums f_told f_many f_ruleFrom f_ruleTo f_code f_eWhat f_eSign f_all f_kept f_was f_sTune f_boxAll J2946 L H2950.size hI) (cwV 0 hG (goodV gw1362 gw1364 gw59 gw138 gw1365) rfl rfl rfl hd_X9_goOn ⟨(Nat.le_of_ble_eq_true rfl), (Nat.le_of_ble_eq_true rfl)⟩) ⟨fbW, va_recv hK hP (ci := 8) (q0 := 0) rfl rfl, pW_in hP hK hD⟩ rfl rfl hl.1 rfl (lv_room (Nat.le_of_ble_eq_true rfl)) dX9_unit_211 ⟨(Nat.le_of_ble_eq_true rfl), (Nat.le_of_ble_eq_true rfl)⟩) hS (fun q _ h => hFc q h) hFc (fun _ t_ H2953 locs ht hvm hw hB hz1 hk1 hS => ?_)
              obtain ⟨x2955, x2956, x2957, x2958, L2959, hP1, hD1, hI2963, f2960, f2961, f2962⟩ := hB
              rw [ht] at hP1
              have hP := hP1
              have hD := dW hFc hD1
              obtain ⟨im2964, im2965, im2966, im2967, im2968, im2969, im2970, im2971, im2972, im2973, im2974, im2975, im2976, im2977, im2978, im2979, im2980, im2981, im2982, im2983, im2984, im2985, im2986, im2987, im2988, im2989, im2990, im2991, im2992, im2993, im2994, im2995, im2996⟩ := id hI2963
              refine lv_iload_n hx hb dX9_unit_214 rfl (lv_at hl 4 rfl) ?_
              refine lv_if_ne (tgt := 222) hx hb dX9_unit_215 (by decide) (fun c_2997 => absurd (by decide) c_2997) (fun c_2997 => ?_)
              refine lv_iload_n hx hb dX9_unit_218 rfl (lv_at hl 3 rfl) ?_
              refine lv_if_eq (tgt := 250) hx hb dX9_unit_219 (by decide) (fun c_2998 => ?_) (fun c_2998 => ((ob_231 (qi_ne c_2998 rfl zc_0) f2693 f2694 f2931)).elim)
              have f2999 : r_2691.toInt = 0 := qi_eq c_2998 rfl zc_0
              refine lv_aload_n hx hb dX9_unit_250 rfl (lv_at hl 6 rfl) ?_
              refine lv_iload hx hb dX9_unit_251 (lv_at hl 2 rfl) ?_
              refine lv_if_ne (tgt := 261) hx hb dX9_unit_253 (by decide) (fun c_3000 => ?_) (fun c_3000 => ((ob_230 (qi_eq c_3000 rfl zc_0) f2697 f2927)).elim)
              have f3001 : r_2696.toInt ≠ 0 := qi_ne c_3000 rfl zc_0
              refine lv_iload hx hb dX9_unit_261 (lv_at hl 2 rfl) ?_
              refine lv_iload hx hb dX9_unit_263 (lv_at hl 0 rfl) ?_
              have hFc := frA hD hS hA
              refine va_callv (va_runV (As := [.int r_2696, .int 0]) (rest := []) ⟨hx, hb, hml, hown, hG⟩ (kX9_emit l dC dI r ct i_taped i_size i_faultKind x2955 x2956 x2957 x2958 i_bank i_rb i_codes i_within i_piled x2948 i_askHouse i_askTune i_acts i_undone i_laid i_knowns i_time f_text f_tunes f_houses f_hums f_told f_many f_ruleFrom f_ruleTo f_code f_eWhat f_eSign f_all f_kept f_was f_sTune f_boxAll J2946 L2959 r_2696 0 H2953.size hI2963 (ob_232 hp0) (ob_233 hp6) (ob_234 hp2 hp4 hp5 hp8)) (cwV 2 hG (goodV gw1484 gw1486 gw81 gw138 gw1487) rfl rfl rfl hd_X9_emit ⟨(Nat.le_of_ble_eq_true rfl), (Nat.le_of_ble_eq_true rfl)⟩) ⟨fbW, va_recv hK hP (ci := 8) (q0 := 0) rfl rfl, pW_in hP hK hD⟩ rfl rfl hl.1 rfl (lv_room (Nat.le_of_ble_eq_true rfl)) dX9_unit_265 ⟨(Nat.le_of_ble_eq_true rfl), (Nat.le_of_ble_eq_true rfl)⟩) hS (fun q _ h => hFc q h) hFc (fun _ t_ H3002 locs ht hvm hw hB hz1 hk1 hS => ?_)
              obtain ⟨x3004, z3005, J3006, hP1, hD1, hI3009, f3007, f3008⟩ := hB
              rw [ht] at hP1
              have hP := hP1
              have hD := dW hFc hD1
              obtain ⟨im3010, im3011, im3012, im3013, im3014, im3015, im3016, im3017, im3018, im3019, im3020, im3021, im3022, im3023, im3024, im3025, im3026, im3027, im3028, im3029, im3030, im3031, im3032, im3033, im3034, im3035, im3036, im3037, im3038, im3039, im3040, im3041, im3042⟩ := id hI3009
              refine lv_iconst (v := 0) hx hb dX9_unit_268 (by decide) ?_
              rw [hQ]
              exact W.zret (v := 0) hx hb hr (by decide) (fun t ht hW => ⟨⟨0, 0, rfl, rfl, ⟨i_faultKind, x2955, x2956, x2957, x2958, x3004, i_within, i_piled, x2948, z3005, f_eWhat, f_eSign, J3006, L2959, by rw [ht]; exact hP, hD, hI3009, (ob_1 zc_0), (ob_11 zc_0), (fun _ => SPleaf hp11 rfl (ob_235 zc_0) f3008 (ob_236 hp6 hp8 f3007) (ob_237 hp5 hp7 hp8) (ob_238 hp2 hp4 hp7) (ob_239 im6) (ob_233 hp6) (ob_240 f2697 f2927) (ob_241 f2697)), (ob_215 hp5 hp7 hp8), (ob_216 hp2 hp4 hp7), (ob_87 f2960), (ob_242 im17 hp2 hp3 hp4 hp5 hp6 hp7 hp8 hp9 f2697 f2923 f2927 f2962 f3007 zc_0 f2949)⟩⟩, hS.F ht⟩) hS.2.2 dX9_unit_269
            · skip
              have f3043 : r_2696.toInt = 0 := qi_eq c_2926 rfl zc_0
              have f3044 : r_2696.toInt = (0 : Int) := (ob_218 f3043)
              refine lv_aload_n hx hb dX9_unit_109 rfl (lv_at hl 5 rfl) ?_
              refine gM_X9_191_0 hx hb hG hown hK hP dX9_unit_110 ?_
              refine lv_iconst (v := 4) hx hb dX9_unit_113 (by decide) ?_
              refine lv_icmp_eq (tgt := 121) hx hb dX9_unit_114 (by decide) (fun c_3045 => ?_) (fun c_3045 => ?_)
              · skip
                have f3046 : i_token.toInt = 4 := qi_eq c_3045 rfl zc_4
                have f3047 : i_token.toInt ≠ (3 : Int) := (ob_219 f3046)
                have f3048 : r_2684.toInt = (0 : Int) := (ob_165 f2686 f2687 f2689)
                have f3049 : i_token.toInt ≠ (5 : Int) := (ob_220 f3046)
                have f3050 : r_2691.toInt = (0 : Int) := (ob_221 f2692 f3046 zc_40)
                have f3051 : (4 : Int) ≤ i_token.toInt := (ob_222 f3046)
                have f3052 : i_token.toInt ≤ (4 : Int) := (ob_223 f3046 f3051)
                refine lv_iload hx hb dX9_unit_121 (lv_at hl 0 rfl) ?_
                refine lv_if_ne (tgt := 143) hx hb dX9_unit_123 (by decide) (fun c_3053 => absurd (by decide) c_3053) (fun c_3053 => ?_)
                refine lv_iload_n hx hb dX9_unit_126 rfl (lv_at hl 3 rfl) ?_
                refine lv_if_ne (tgt := 134) hx hb dX9_unit_127 (by decide) (fun c_3054 => absurd (by decide) c_3054) (fun c_3054 => ?_)
                refine lv_iload_n hx hb dX9_unit_130 rfl (lv_at hl 2 rfl) ?_
                refine lv_if_eq (tgt := 147) hx hb dX9_unit_131 (by decide) (fun c_3055 => ?_) (fun c_3055 => ((ob_243 (qi_ne c_3055 rfl zc_0) f2693 f2694 f3050)).elim)
                have f3056 : r_2691.toInt = 0 := qi_eq c_3055 rfl zc_0
                refine lv_aload_n hx hb dX9_unit_147 rfl (lv_at hl 5 rfl) ?_
                refine va_calli (va_runV (As := []) (rest := []) ⟨hx, hb, hml, hown, hG⟩ (kX9_isGood l dC dI r ct i_taped i_size i_faultKind i_at i_end i_token i_number i_bank i_rb i_codes i_within i_piled i_unitsInRule i_askHouse i_askTune i_acts i_undone i_laid i_knowns i_time f_text f_tunes f_houses f_hums f_told f_many f_ruleFrom f_ruleTo f_code f_eWhat f_eSign f_all f_kept f_was f_sTune f_boxAll J L H2695.size hI) (cwV 0 hG (goodV gw1401 gw1403 gw61 gw138 gw1404) rfl rfl rfl hd_X9_isGood ⟨(Nat.le_of_ble_eq_true rfl), (Nat.le_of_ble_eq_true rfl)⟩) ⟨fbR, va_recv hK hP (ci := 8) (q0 := 0) rfl rfl, pR_in hP hK⟩ rfl rfl hl.1 rfl (lv_room (Nat.le_of_ble_eq_true rfl)) dX9_unit_148 ⟨(Nat.le_of_ble_eq_true rfl), (Nat.le_of_ble_eq_true rfl)⟩) hS (fun q hq h => absurd hq (Nat.not_lt.mpr h)) (fun q h => hA q (Nat.le_trans hS.1 h)) (fun r_3058 u_ t_ H3057 locs ht hvm hw hB hz1 hk1 hS => ?_)
                subst hw
                have hP := wk hP hk1
                obtain ⟨f3059, f3060, f3061⟩ := hB
                refine lv_if_ne (tgt := 156) hx hb dX9_unit_151 (by decide) (fun c_3062 => ?_) (fun c_3062 => ((ob_167 (qi_eq c_3062 rfl zc_0) hp10 f3059)).elim)
                have f3063 : r_3058.toInt ≠ 0 := qi_ne c_3062 rfl zc_0
                have f3064 : i_faultKind.toInt = (0 : Int) := (ob_168 im17 hp10)
                have f3065 : r_3058.toInt = (1 : Int) := (ob_169 f3059 f3063)
                have f3066 : (1 : Int) ≤ r_3058.toInt := (ob_170 f3060 f3061 f3065)
                refine lv_aload_n hx hb dX9_unit_156 rfl (lv_at hl 5 rfl) ?_
                refine gM_X9_30_0 hx hb hG hown hK hP dX9_unit_157 ?_
                refine lv_aload_n hx hb dX9_unit_160 rfl (lv_at hl 5 rfl) ?_
                refine gM_X9_240_0 hx hb hG hown hK hP dX9_unit_161 ?_
                refine lv_dup2_11 hx hb dX9_unit_164 rfl rfl ?_
                refine ldM_6 (mm := i_rb.toInt) hx hb hK hP rfl (ob_212 im6) (ob_213 im7) dX9_unit_165 (fun x3067 => ?_)
                refine lv_iload_n hx hb dX9_unit_166 rfl (lv_at hl 3 rfl) ?_
                refine lv_if_eq (tgt := 174) hx hb dX9_unit_167 (by decide) (fun c_3068 => ?_) (fun c_3068 => absurd (by decide) c_3068)
                refine lv_iconst (v := 1) hx hb dX9_unit_174 (by decide) ?_
                refine lv_iadd hx hb dX9_unit_175 ?_
                refine lv_topi (fun x3069 ex3069 => ?_)
                refine stM_6 (mm := i_rb.toInt) hx hb hK hP hD hS rfl (ob_212 im6) (ob_213 im7) dX9_unit_176 (fun J3071 H3070 locs hP hD hS => ?_)
                refine lv_aload_n hx hb dX9_unit_177 rfl (lv_at hl 5 rfl) ?_
                refine lv_dup hx hb dX9_unit_178 rfl ?_
                refine gM_X9_290_0 hx hb hG hown hK hP dX9_unit_179 ?_
                refine lv_iload_n hx hb dX9_unit_182 rfl (lv_at hl 3 rfl) ?_
                refine lv_if_eq (tgt := 190) hx hb dX9_unit_183 (by decide) (fun c_3072 => ?_) (fun c_3072 => absurd (by decide) c_3072)
                refine lv_iconst (v := 1) hx hb dX9_unit_190 (by decide) ?_
                refine lv_iadd hx hb dX9_unit_191 ?_
                refine lv_topi (fun x3073 ex3073 => ?_)
                have f3074 : x3073.toInt = i_unitsInRule.toInt + 1 := (ob_84 (qi_add ex3073 rfl zc_1 (ob_82 hp1) (ob_229 hp2)))
                refine pM_X9_290_0 hx hb hG hown hK hP hD hS dX9_unit_192 (fun H3075 locs hP hD hS => ?_)
                refine lv_iload hx hb dX9_unit_195 (lv_at hl 1 rfl) ?_
                refine lv_if_ne (tgt := 207) hx hb dX9_unit_197 (by decide) (fun c_3076 => ((ob_244 (qi_ne c_3076 rfl zc_0) f3043 f3044)).elim) (fun c_3076 => ?_)
                have f3077 : r_2696.toInt = 0 := qi_eq c_3076 rfl zc_0
                refine lv_aload_n hx hb dX9_unit_200 rfl (lv_at hl 5 rfl) ?_
                refine gM_X9_209_0 hx hb hG hown hK hP dX9_unit_201 ?_
                refine lv_goto (tgt := 208) hx hb dX9_unit_204 (by decide) ?_
                refine lv_istore (lv' := [(6, .int i_number), (5, .int 0), (4, .int r_2696), (3, .int r_2691), (2, .int 0), (1, .int 1), (0, .ref (r 0))]) hx hb dX9_unit_208 hl (by decide) rfl (fun ls hl => ?_)
                refine lv_aload_n hx hb dX9_unit_210 rfl (lv_at hl 6 rfl) ?_
                have hFc := frA hD hS hA
                refine va_callv (va_runV (As := []) (rest := []) ⟨hx, hb, hml, hown, hG⟩ (kX9_goOn l dC dI r ct i_taped i_size i_faultKind i_at i_end i_token i_number i_bank i_rb i_codes i_within i_piled x3073 i_askHouse i_askTune i_acts i_undone i_laid i_knowns i_time f_text f_tunes f_houses f_hums f_told f_many f_ruleFrom f_ruleTo f_code f_eWhat f_eSign f_all f_kept f_was f_sTune f_boxAll J3071 L H3075.size hI) (cwV 0 hG (goodV gw1362 gw1364 gw59 gw138 gw1365) rfl rfl rfl hd_X9_goOn ⟨(Nat.le_of_ble_eq_true rfl), (Nat.le_of_ble_eq_true rfl)⟩) ⟨fbW, va_recv hK hP (ci := 8) (q0 := 0) rfl rfl, pW_in hP hK hD⟩ rfl rfl hl.1 rfl (lv_room (Nat.le_of_ble_eq_true rfl)) dX9_unit_211 ⟨(Nat.le_of_ble_eq_true rfl), (Nat.le_of_ble_eq_true rfl)⟩) hS (fun q _ h => hFc q h) hFc (fun _ t_ H3078 locs ht hvm hw hB hz1 hk1 hS => ?_)
                obtain ⟨x3080, x3081, x3082, x3083, L3084, hP1, hD1, hI3088, f3085, f3086, f3087⟩ := hB
                rw [ht] at hP1
                have hP := hP1
                have hD := dW hFc hD1
                obtain ⟨im3089, im3090, im3091, im3092, im3093, im3094, im3095, im3096, im3097, im3098, im3099, im3100, im3101, im3102, im3103, im3104, im3105, im3106, im3107, im3108, im3109, im3110, im3111, im3112, im3113, im3114, im3115, im3116, im3117, im3118, im3119, im3120, im3121⟩ := id hI3088
                refine lv_iload_n hx hb dX9_unit_214 rfl (lv_at hl 4 rfl) ?_
                refine lv_if_ne (tgt := 222) hx hb dX9_unit_215 (by decide) (fun c_3122 => absurd (by decide) c_3122) (fun c_3122 => ?_)
                refine lv_iload_n hx hb dX9_unit_218 rfl (lv_at hl 3 rfl) ?_
                refine lv_if_eq (tgt := 250) hx hb dX9_unit_219 (by decide) (fun c_3123 => ?_) (fun c_3123 => ((ob_245 (qi_ne c_3123 rfl zc_0) f3050)).elim)
                have f3124 : r_2691.toInt = 0 := qi_eq c_3123 rfl zc_0
                refine lv_aload_n hx hb dX9_unit_250 rfl (lv_at hl 6 rfl) ?_
                refine lv_iload hx hb dX9_unit_251 (lv_at hl 2 rfl) ?_
                refine lv_if_ne (tgt := 261) hx hb dX9_unit_253 (by decide) (fun c_3125 => ((ob_244 (qi_ne c_3125 rfl zc_0) f3043 f3044)).elim) (fun c_3125 => ?_)
                have f3126 : r_2696.toInt = 0 := qi_eq c_3125 rfl zc_0
                refine lv_bipush (v := 110) hx hb dX9_unit_256 (by decide) ?_
                refine lv_goto (tgt := 263) hx hb dX9_unit_258 (by decide) ?_
                refine lv_iload hx hb dX9_unit_263 (lv_at hl 0 rfl) ?_
                have hFc := frA hD hS hA
                refine va_callv (va_runV (As := [.int 110, .int i_number]) (rest := []) ⟨hx, hb, hml, hown, hG⟩ (kX9_emit l dC dI r ct i_taped i_size i_faultKind x3080 x3081 x3082 x3083 i_bank i_rb i_codes i_within i_piled x3073 i_askHouse i_askTune i_acts i_undone i_laid i_knowns i_time f_text f_tunes f_houses f_hums f_told f_many f_ruleFrom f_ruleTo f_code f_eWhat f_eSign f_all f_kept f_was f_sTune f_boxAll J3071 L3084 110 i_number H3078.size hI3088 (ob_232 hp0) (ob_233 hp6) (ob_234 hp2 hp4 hp5 hp8)) (cwV 2 hG (goodV gw1484 gw1486 gw81 gw138 gw1487) rfl rfl rfl hd_X9_emit ⟨(Nat.le_of_ble_eq_true rfl), (Nat.le_of_ble_eq_true rfl)⟩) ⟨fbW, va_recv hK hP (ci := 8) (q0 := 0) rfl rfl, pW_in hP hK hD⟩ rfl rfl hl.1 rfl (lv_room (Nat.le_of_ble_eq_true rfl)) dX9_unit_265 ⟨(Nat.le_of_ble_eq_true rfl), (Nat.le_of_ble_eq_true rfl)⟩) hS (fun q _ h => hFc q h) hFc (fun _ t_ H3127 locs ht hvm hw hB hz1 hk1 hS => ?_)
                obtain ⟨x3129, z3130, J3131, hP1, hD1, hI3134, f3132, f3133⟩ := hB
                rw [ht] at hP1
                have hP := hP1
                have hD := dW hFc hD1
                obtain ⟨im3135, im3136, im3137, im3138, im3139, im3140, im3141, im3142, im3143, im3144, im3145, im3146, im3147, im3148, im3149, im3150, im3151, im3152, im3153, im3154, im3155, im3156, im3157, im3158, im3159, im3160, im3161, im3162, im3163, im3164, im3165, im3166, im3167⟩ := id hI3134
                refine lv_iconst (v := 0) hx hb dX9_unit_268 (by decide) ?_
                rw [hQ]
                exact W.zret (v := 0) hx hb hr (by decide) (fun t ht hW => ⟨⟨0, 0, rfl, rfl, ⟨i_faultKind, x3080, x3081, x3082, x3083, x3129, i_within, i_piled, x3073, z3130, f_eWhat, f_eSign, J3131, L3084, by rw [ht]; exact hP, hD, hI3134, (ob_1 zc_0), (ob_11 zc_0), (fun _ => SPleaf hp11 rfl (ob_235 zc_0) f3133 (ob_236 hp6 hp8 f3132) (ob_237 hp5 hp7 hp8) (ob_238 hp2 hp4 hp7) (ob_239 im6) (ob_233 hp6) (ob_246 zc_110) (ob_247 zc_110)), (ob_215 hp5 hp7 hp8), (ob_216 hp2 hp4 hp7), (ob_87 f3085), (ob_248 im17 hp2 hp3 hp4 hp5 hp6 hp7 hp8 hp9 f2923 f3046 f3087 f3132 zc_0 f3074)⟩⟩, hS.F ht⟩) hS.2.2 dX9_unit_269
              · skip
                have f3168 : i_token.toInt ≠ 4 := qi_ne c_3045 rfl zc_4
                refine lv_iload_n hx hb dX9_unit_117 rfl (lv_at hl 2 rfl) ?_
                refine lv_if_eq (tgt := 143) hx hb dX9_unit_118 (by decide) (fun c_3169 => ?_) (fun c_3169 => ?_)
                · skip
                  have f3170 : r_2691.toInt = 0 := qi_eq c_3169 rfl zc_0
                  refine lv_aload_n hx hb dX9_unit_143 rfl (lv_at hl 5 rfl) ?_
                  have hFc := frA hD hS hA
                  refine va_callv (va_runV (As := []) (rest := []) ⟨hx, hb, hml, hown, hG⟩ (kX9_misplaced l dC dI r ct i_taped i_size i_faultKind i_at i_end i_token i_number i_bank i_rb i_codes i_within i_piled i_unitsInRule i_askHouse i_askTune i_acts i_undone i_laid i_knowns i_time f_text f_tunes f_houses f_hums f_told f_many f_ruleFrom f_ruleTo f_code f_eWhat f_eSign f_all f_kept f_was f_sTune f_boxAll J L H2695.size hI) (cwV 0 hG (goodV gw1420 gw1422 gw65 gw138 gw1423) rfl rfl rfl hd_X9_misplaced ⟨(Nat.le_of_ble_eq_true rfl), (Nat.le_of_ble_eq_true rfl)⟩) ⟨fbW, va_recv hK hP (ci := 8) (q0 := 0) rfl rfl, pW_in hP hK hD⟩ rfl rfl hl.1 rfl (lv_room (Nat.le_of_ble_eq_true rfl)) dX9_unit_144 ⟨(Nat.le_of_ble_eq_true rfl), (Nat.le_of_ble_eq_true rfl)⟩) hS (fun q _ h => hFc q h) hFc (fun _ t_ H3171 locs ht hvm hw hB hz1 hk1 hS => ?_)
                  obtain ⟨x3173, J3174, hP1, hD1, hI3176, f3175⟩ := hB
                  rw [ht] at hP1
                  have hP := hP1
                  have hD := dW hFc hD1
                  obtain ⟨im3177, im3178, im3179, im3180, im3181, im3182, im3183, im3184, im3185, im3186, im3187, im3188, im3189, im3190, im3191, im3192, im3193, im3194, im3195, im3196, im3197, im3198, im3199, im3200, im3201, im3202, im3203, im3204, im3205, im3206, im3207, im3208, im3209⟩ := id hI3176
                  refine lv_aload_n hx hb dX9_unit_147 rfl (lv_at hl 5 rfl) ?_
                  refine va_calli (va_runV (As := []) (rest := []) ⟨hx, hb, hml, hown, hG⟩ (kX9_isGood l dC dI r ct i_taped i_size x3173 i_at i_end i_token i_number i_bank i_rb i_codes i_within i_piled i_unitsInRule i_askHouse i_askTune i_acts i_undone i_laid i_knowns i_time f_text f_tunes f_houses f_hums f_told f_many f_ruleFrom f_ruleTo f_code f_eWhat f_eSign f_all f_kept f_was f_sTune f_boxAll J3174 L H3171.size hI3176) (cwV 0 hG (goodV gw1401 gw1403 gw61 gw138 gw1404) rfl rfl rfl hd_X9_isGood ⟨(Nat.le_of_ble_eq_true rfl), (Nat.le_of_ble_eq_true rfl)⟩) ⟨fbR, va_recv hK hP (ci := 8) (q0 := 0) rfl rfl, pR_in hP hK⟩ rfl rfl hl.1 rfl (lv_room (Nat.le_of_ble_eq_true rfl)) dX9_unit_148 ⟨(Nat.le_of_ble_eq_true rfl), (Nat.le_of_ble_eq_true rfl)⟩) hS (fun q hq h => absurd hq (Nat.not_lt.mpr h)) (fun q h => hA q (Nat.le_trans hS.1 h)) (fun r_3211 u_ t_ H3210 locs ht hvm hw hB hz1 hk1 hS => ?_)
                  subst hw
                  have hP := wk hP hk1
                  obtain ⟨f3212, f3213, f3214⟩ := hB
                  refine lv_if_ne (tgt := 156) hx hb dX9_unit_151 (by decide) (fun c_3215 => ((ob_172 (qi_ne c_3215 rfl zc_0) f3175 f3212)).elim) (fun c_3215 => ?_)
                  have f3216 : r_3211.toInt = 0 := qi_eq c_3215 rfl zc_0
                  have f3217 : x3173.toInt ≠ (0 : Int) := (ob_173 im3194 f3175)
                  have f3218 : (1 : Int) ≤ x3173.toInt := (ob_156 im3194 f3175)
                  have f3219 : r_3211.toInt = (0 : Int) := (ob_165 f3213 f3214 f3216)
                  refine lv_iconst (v := 1) hx hb dX9_unit_154 (by decide) ?_
                  rw [hQ]
                  exact W.zret (v := 1) hx hb hr (by decide) (fun t ht hW => ⟨⟨1, 1, rfl, rfl, ⟨x3173, i_at, i_end, i_token, i_number, i_codes, i_within, i_piled, i_unitsInRule, f_code, f_eWhat, f_eSign, J3174, L, by rw [ht]; exact hP, hD, hI3176, (ob_14 zc_1), (ob_15 zc_1), (fun h => ((ob_214 h im3194 f3175)).elim), (ob_215 hp5 hp7 hp8), (ob_216 hp2 hp4 hp7), (ob_88), (ob_217 f3175 zc_1)⟩⟩, hS.F ht⟩) hS.2.2 dX9_unit_155
                · skip
                  have f3220 : r_2691.toInt ≠ 0 := qi_ne c_3169 rfl zc_0
                  have f3221 : (1 : Int) ≤ r_2691.toInt := (ob_224 f2692 f3220 zc_40)
                  have f3222 : i_token.toInt = (5 : Int) := (ob_225 f2692 f3220 zc_40)
                  have f3223 : (sgz f_text i_size.toInt i_at.toInt) = (40 : Int) := (ob_226 f2692 f3220 zc_40)
                  have f3224 : r_2691.toInt = (1 : Int) := (ob_104 f2693 f2694 f3221)
                  refine lv_iload hx hb dX9_unit_121 (lv_at hl 0 rfl) ?_
                  refine lv_if_ne (tgt := 143) hx hb dX9_unit_123 (by decide) (fun c_3225 => absurd (by decide) c_3225) (fun c_3225 => ?_)
                  refine lv_iload_n hx hb dX9_unit_126 rfl (lv_at hl 3 rfl) ?_
                  refine lv_if_ne (tgt := 134) hx hb dX9_unit_127 (by decide) (fun c_3226 => absurd (by decide) c_3226) (fun c_3226 => ?_)
                  refine lv_iload_n hx hb dX9_unit_130 rfl (lv_at hl 2 rfl) ?_
                  refine lv_if_eq (tgt := 147) hx hb dX9_unit_131 (by decide) (fun c_3227 => ((ob_249 (qi_eq c_3227 rfl zc_0) f3221)).elim) (fun c_3227 => ?_)
                  have f3228 : r_2691.toInt ≠ 0 := qi_ne c_3227 rfl zc_0
                  have f3229 : (1 : Int) ≤ r_2691.toInt := (ob_19 f3221)
                  refine lv_aload_n hx hb dX9_unit_134 rfl (lv_at hl 5 rfl) ?_
                  refine gM_X9_299_0 hx hb hG hown hK hP dX9_unit_135 ?_
                  refine lv_bipush (v := 7) hx hb dX9_unit_138 (by decide) ?_
                  refine lv_icmp_ne (tgt := 147) hx hb dX9_unit_140 (by decide) (fun c_3230 => ?_) (fun c_3230 => ?_)
                  · skip
                    have f3231 : i_within.toInt ≠ 7 := qi_ne c_3230 rfl zc_7
                    have f3232 : i_within.toInt ≤ (6 : Int) := (ob_250 hp4 f3231)
                    refine lv_aload_n hx hb dX9_unit_147 rfl (lv_at hl 5 rfl) ?_
                    refine va_calli (va_runV (As := []) (rest := []) ⟨hx, hb, hml, hown, hG⟩ (kX9_isGood l dC dI r ct i_taped i_size i_faultKind i_at i_end i_token i_number i_bank i_rb i_codes i_within i_piled i_unitsInRule i_askHouse i_askTune i_acts i_undone i_laid i_knowns i_time f_text f_tunes f_houses f_hums f_told f_many f_ruleFrom f_ruleTo f_code f_eWhat f_eSign f_all f_kept f_was f_sTune f_boxAll J L H2695.size hI) (cwV 0 hG (goodV gw1401 gw1403 gw61 gw138 gw1404) rfl rfl rfl hd_X9_isGood ⟨(Nat.le_of_ble_eq_true rfl), (Nat.le_of_ble_eq_true rfl)⟩) ⟨fbR, va_recv hK hP (ci := 8) (q0 := 0) rfl rfl, pR_in hP hK⟩ rfl rfl hl.1 rfl (lv_room (Nat.le_of_ble_eq_true rfl)) dX9_unit_148 ⟨(Nat.le_of_ble_eq_true rfl), (Nat.le_of_ble_eq_true rfl)⟩) hS (fun q hq h => absurd hq (Nat.not_lt.mpr h)) (fun q h => hA q (Nat.le_trans hS.1 h)) (fun r_3234 u_ t_ H3233 locs ht hvm hw hB hz1 hk1 hS => ?_)
                    subst hw
                    have hP := wk hP hk1
                    obtain ⟨f3235, f3236, f3237⟩ := hB
                    refine lv_if_ne (tgt := 156) hx hb dX9_unit_151 (by decide) (fun c_3238 => ?_) (fun c_3238 => ((ob_167 (qi_eq c_3238 rfl zc_0) hp10 f3235)).elim)
                    have f3239 : r_3234.toInt ≠ 0 := qi_ne c_3238 rfl zc_0
                    have f3240 : i_faultKind.toInt = (0 : Int) := (ob_168 im17 hp10)
                    have f3241 : r_3234.toInt = (1 : Int) := (ob_169 f3235 f3239)
                    have f3242 : (1 : Int) ≤ r_3234.toInt := (ob_170 f3236 f3237 f3241)
                    refine lv_aload_n hx hb dX9_unit_156 rfl (lv_at hl 5 rfl) ?_
                    refine gM_X9_30_0 hx hb hG hown hK hP dX9_unit_157 ?_
                    refine lv_aload_n hx hb dX9_unit_160 rfl (lv_at hl 5 rfl) ?_
                    refine gM_X9_240_0 hx hb hG hown hK hP dX9_unit_161 ?_
                    refine lv_dup2_11 hx hb dX9_unit_164 rfl rfl ?_
                    refine ldM_6 (mm := i_rb.toInt) hx hb hK hP rfl (ob_212 im6) (ob_213 im7) dX9_unit_165 (fun x3243 => ?_)
                    refine lv_iload_n hx hb dX9_unit_166 rfl (lv_at hl 3 rfl) ?_
                    refine lv_if_eq (tgt := 174) hx hb dX9_unit_167 (by decide) (fun c_3244 => ?_) (fun c_3244 => absurd (by decide) c_3244)
                    refine lv_iconst (v := 1) hx hb dX9_unit_174 (by decide) ?_
                    refine lv_iadd hx hb dX9_unit_175 ?_
                    refine lv_topi (fun x3245 ex3245 => ?_)
                    refine stM_6 (mm := i_rb.toInt) hx hb hK hP hD hS rfl (ob_212 im6) (ob_213 im7) dX9_unit_176 (fun J3247 H3246 locs hP hD hS => ?_)
                    refine lv_aload_n hx hb dX9_unit_177 rfl (lv_at hl 5 rfl) ?_
                    refine lv_dup hx hb dX9_unit_178 rfl ?_
                    refine gM_X9_290_0 hx hb hG hown hK hP dX9_unit_179 ?_
                    refine lv_iload_n hx hb dX9_unit_182 rfl (lv_at hl 3 rfl) ?_
                    refine lv_if_eq (tgt := 190) hx hb dX9_unit_183 (by decide) (fun c_3248 => ?_) (fun c_3248 => absurd (by decide) c_3248)
                    refine lv_iconst (v := 1) hx hb dX9_unit_190 (by decide) ?_
                    refine lv_iadd hx hb dX9_unit_191 ?_
                    refine lv_topi (fun x3249 ex3249 => ?_)
                    have f3250 : x3249.toInt = i_unitsInRule.toInt + 1 := (ob_84 (qi_add ex3249 rfl zc_1 (ob_82 hp1) (ob_229 hp2)))
                    refine pM_X9_290_0 hx hb hG hown hK hP hD hS dX9_unit_192 (fun H3251 locs hP hD hS => ?_)
                    refine lv_iload hx hb dX9_unit_195 (lv_at hl 1 rfl) ?_
                    refine lv_if_ne (tgt := 207) hx hb dX9_unit_197 (by decide) (fun c_3252 => ((ob_244 (qi_ne c_3252 rfl zc_0) f3043 f3044)).elim) (fun c_3252 => ?_)
                    have f3253 : r_2696.toInt = 0 := qi_eq c_3252 rfl zc_0
                    refine lv_aload_n hx hb dX9_unit_200 rfl (lv_at hl 5 rfl) ?_
                    refine gM_X9_209_0 hx hb hG hown hK hP dX9_unit_201 ?_
                    refine lv_goto (tgt := 208) hx hb dX9_unit_204 (by decide) ?_
                    refine lv_istore (lv' := [(6, .int i_number), (5, .int 0), (4, .int r_2696), (3, .int r_2691), (2, .int 0), (1, .int 1), (0, .ref (r 0))]) hx hb dX9_unit_208 hl (by decide) rfl (fun ls hl => ?_)
                    refine lv_aload_n hx hb dX9_unit_210 rfl (lv_at hl 6 rfl) ?_
                    have hFc := frA hD hS hA
                    refine va_callv (va_runV (As := []) (rest := []) ⟨hx, hb, hml, hown, hG⟩ (kX9_goOn l dC dI r ct i_taped i_size i_faultKind i_at i_end i_token i_number i_bank i_rb i_codes i_within i_piled x3249 i_askHouse i_askTune i_acts i_undone i_laid i_knowns i_time f_text f_tunes f_houses f_hums f_told f_many f_ruleFrom f_ruleTo f_code f_eWhat f_eSign f_all f_kept f_was f_sTune f_boxAll J3247 L H3251.size hI) (cwV 0 hG (goodV gw1362 gw1364 gw59 gw138 gw1365) rfl rfl rfl hd_X9_goOn ⟨(Nat.le_of_ble_eq_true rfl), (Nat.le_of_ble_eq_true rfl)⟩) ⟨fbW, va_recv hK hP (ci := 8) (q0 := 0) rfl rfl, pW_in hP hK hD⟩ rfl rfl hl.1 rfl (lv_room (Nat.le_of_ble_eq_true rfl)) dX9_unit_211 ⟨(Nat.le_of_ble_eq_true rfl), (Nat.le_of_ble_eq_true rfl)⟩) hS (fun q _ h => hFc q h) hFc (fun _ t_ H3254 locs ht hvm hw hB hz1 hk1 hS => ?_)
                    obtain ⟨x3256, x3257, x3258, x3259, L3260, hP1, hD1, hI3264, f3261, f3262, f3263⟩ := hB
                    rw [ht] at hP1
                    have hP := hP1
                    have hD := dW hFc hD1
                    obtain ⟨im3265, im3266, im3267, im3268, im3269, im3270, im3271, im3272, im3273, im3274, im3275, im3276, im3277, im3278, im3279, im3280, im3281, im3282, im3283, im3284, im3285, im3286, im3287, im3288, im3289, im3290, im3291, im3292, im3293, im3294, im3295, im3296, im3297⟩ := id hI3264
                    refine lv_iload_n hx hb dX9_unit_214 rfl (lv_at hl 4 rfl) ?_
                    refine lv_if_ne (tgt := 222) hx hb dX9_unit_215 (by decide) (fun c_3298 => absurd (by decide) c_3298) (fun c_3298 => ?_)
                    refine lv_iload_n hx hb dX9_unit_218 rfl (lv_at hl 3 rfl) ?_
                    refine lv_if_eq (tgt := 250) hx hb dX9_unit_219 (by decide) (fun c_3299 => ((ob_249 (qi_eq c_3299 rfl zc_0) f3221)).elim) (fun c_3299 => ?_)
                    have f3300 : r_2691.toInt ≠ 0 := qi_ne c_3299 rfl zc_0
                    have f3301 : (1 : Int) ≤ r_2691.toInt := (ob_19 f3221)
                    refine lv_aload_n hx hb dX9_unit_222 rfl (lv_at hl 6 rfl) ?_
                    refine lv_iload_n hx hb dX9_unit_223 rfl (lv_at hl 4 rfl) ?_
                    refine lv_if_eq (tgt := 231) hx hb dX9_unit_224 (by decide) (fun c_3302 => ?_) (fun c_3302 => absurd (by decide) c_3302)
                    refine lv_bipush (v := 7) hx hb dX9_unit_231 (by decide) ?_
                    refine lv_bipush (v := 126) hx hb dX9_unit_233 (by decide) ?_
                    have hFc := frA hD hS hA
                    refine va_callv (va_runV (As := [.int 7, .int 126]) (rest := []) ⟨hx, hb, hml, hown, hG⟩ (kX9_pushE l dC dI r ct i_taped i_size i_faultKind x3256 x3257 x3258 x3259 i_bank i_rb i_codes i_within i_piled x3249 i_askHouse i_askTune i_acts i_undone i_laid i_knowns i_time f_text f_tunes f_houses f_hums f_told f_many f_ruleFrom f_ruleTo f_code f_eWhat f_eSign f_all f_kept f_was f_sTune f_boxAll J3247 L3260 7 126 H3254.size hI3264 (ob_215 hp5 hp7 hp8) (ob_251 hp2 hp4 hp7)) (cwV 2 hG (goodV gw1468 gw1470 gw77 gw138 gw1471) rfl rfl rfl hd_X9_pushE ⟨(Nat.le_of_ble_eq_true rfl), (Nat.le_of_ble_eq_true rfl)⟩) ⟨fbW, va_recv hK hP (ci := 8) (q0 := 0) rfl rfl, pW_in hP hK hD⟩ rfl rfl hl.1 rfl (lv_room (Nat.le_of_ble_eq_true rfl)) dX9_unit_235 ⟨(Nat.le_of_ble_eq_true rfl), (Nat.le_of_ble_eq_true rfl)⟩) hS (fun q _ h => hFc q h) hFc (fun _ t_ H3303 locs ht hvm hw hB hz1 hk1 hS => ?_)
                    obtain ⟨x3305, z3306, z3307, hP1, hD1, hI3311, f3308, f3309, f3310⟩ := hB
                    rw [ht] at hP1
                    have hP := hP1
                    have hD := dW hFc hD1
                    obtain ⟨im3312, im3313, im3314, im3315, im3316, im3317, im3318, im3319, im3320, im3321, im3322, im3323, im3324, im3325, im3326, im3327, im3328, im3329, im3330, im3331, im3332, im3333, im3334, im3335, im3336, im3337, im3338, im3339, im3340, im3341, im3342, im3343, im3344⟩ := id hI3311
                    have f3345 : (z3306 ((0 : Int)).toNat).toInt = (f_eWhat ((0 : Int)).toNat).toInt := (by rw [f3309, upd_off (ne0 (ob_252 hp5))])
                    refine lv_aload_n hx hb dX9_unit_238 rfl (lv_at hl 6 rfl) ?_
                    refine lv_dup hx hb dX9_unit_239 rfl ?_
                    refine gM_X9_299_0 hx hb hG hown hK hP dX9_unit_240 ?_
                    refine lv_iconst (v := 1) hx hb dX9_unit_243 (by decide) ?_
                    refine lv_iadd hx hb dX9_unit_244 ?_
                    refine lv_topi (fun x3346 ex3346 => ?_)
                    have f3347 : x3346.toInt = i_within.toInt + 1 := (ob_84 (qi_add ex3346 rfl zc_1 (ob_82 hp3) (ob_253 hp4)))
                    refine pM_X9_299_0 hx hb hG hown hK hP hD hS dX9_unit_245 (fun H3348 locs hP hD hS => ?_)
                    refine lv_iconst (v := 1) hx hb dX9_unit_248 (by decide) ?_
                    rw [hQ]
                    exact W.zret (v := 1) hx hb hr (by decide) (fun t ht hW => ⟨⟨1, 1, rfl, rfl, ⟨i_faultKind, x3256, x3257, x3258, x3259, i_codes, x3346, x3305, x3249, f_code, z3306, z3307, J3247, L3260, by rw [ht]; exact hP, hD, hI3311, (ob_14 zc_1), (ob_15 zc_1), (fun _ => SPpush hp11 f3309 f3310 (ob_252 hp5) (ob_84 f3308) (Or.inl (ob_254 zc_1 f3347 zc_126 zc_7))), (ob_141 hp5 f3308), (ob_255 hp2 hp4 hp7 f3308), (ob_87 f3261), (ob_256 im2 im3 im4 im17 hp2 hp3 hp4 hp5 hp6 hp7 hp8 hp9 f2692 f2923 f3220 f3231 f3263 f3308 f3345 zc_40 zc_1 f3347 f3250)⟩⟩, hS.F ht⟩) hS.2.2 dX9_unit_249
                  · skip
                    have f3349 : i_within.toInt = 7 := qi_eq c_3230 rfl zc_7
                    refine lv_aload_n hx hb dX9_unit_143 rfl (lv_at hl 5 rfl) ?_
                    have hFc := frA hD hS hA
                    refine va_callv (va_runV (As := []) (rest := []) ⟨hx, hb, hml, hown, hG⟩ (kX9_misplaced l dC dI r ct i_taped i_size i_faultKind i_at i_end i_token i_number i_bank i_rb i_codes i_within i_piled i_unitsInRule i_askHouse i_askTune i_acts i_undone i_laid i_knowns i_time f_text f_tunes f_houses f_hums f_told f_many f_ruleFrom f_ruleTo f_code f_eWhat f_eSign f_all f_kept f_was f_sTune f_boxAll J L H2695.size hI) (cwV 0 hG (goodV gw1420 gw1422 gw65 gw138 gw1423) rfl rfl rfl hd_X9_misplaced ⟨(Nat.le_of_ble_eq_true rfl), (Nat.le_of_ble_eq_true rfl)⟩) ⟨fbW, va_recv hK hP (ci := 8) (q0 := 0) rfl rfl, pW_in hP hK hD⟩ rfl rfl hl.1 rfl (lv_room (Nat.le_of_ble_eq_true rfl)) dX9_unit_144 ⟨(Nat.le_of_ble_eq_true rfl), (Nat.le_of_ble_eq_true rfl)⟩) hS (fun q _ h => hFc q h) hFc (fun _ t_ H3350 locs ht hvm hw hB hz1 hk1 hS => ?_)
                    obtain ⟨x3352, J3353, hP1, hD1, hI3355, f3354⟩ := hB
                    rw [ht] at hP1
                    have hP := hP1
                    have hD := dW hFc hD1
                    obtain ⟨im3356, im3357, im3358, im3359, im3360, im3361, im3362, im3363, im3364, im3365, im3366, im3367, im3368, im3369, im3370, im3371, im3372, im3373, im3374, im3375, im3376, im3377, im3378, im3379, im3380, im3381, im3382, im3383, im3384, im3385, im3386, im3387, im3388⟩ := id hI3355
                    refine lv_aload_n hx hb dX9_unit_147 rfl (lv_at hl 5 rfl) ?_
                    refine va_calli (va_runV (As := []) (rest := []) ⟨hx, hb, hml, hown, hG⟩ (kX9_isGood l dC dI r ct i_taped i_size x3352 i_at i_end i_token i_number i_bank i_rb i_codes i_within i_piled i_unitsInRule i_askHouse i_askTune i_acts i_undone i_laid i_knowns i_time f_text f_tunes f_houses f_hums f_told f_many f_ruleFrom f_ruleTo f_code f_eWhat f_eSign f_all f_kept f_was f_sTune f_boxAll J3353 L H3350.size hI3355) (cwV 0 hG (goodV gw1401 gw1403 gw61 gw138 gw1404) rfl rfl rfl hd_X9_isGood ⟨(Nat.le_of_ble_eq_true rfl), (Nat.le_of_ble_eq_true rfl)⟩) ⟨fbR, va_recv hK hP (ci := 8) (q0 := 0) rfl rfl, pR_in hP hK⟩ rfl rfl hl.1 rfl (lv_room (Nat.le_of_ble_eq_true rfl)) dX9_unit_148 ⟨(Nat.le_of_ble_eq_true rfl), (Nat.le_of_ble_eq_true rfl)⟩) hS (fun q hq h => absurd hq (Nat.not_lt.mpr h)) (fun q h => hA q (Nat.le_trans hS.1 h)) (fun r_3390 u_ t_ H3389 locs ht hvm hw hB hz1 hk1 hS => ?_)
                    subst hw
                    have hP := wk hP hk1
                    obtain ⟨f3391, f3392, f3393⟩ := hB
                    refine lv_if_ne (tgt := 156) hx hb dX9_unit_151 (by decide) (fun c_3394 => ((ob_172 (qi_ne c_3394 rfl zc_0) f3354 f3391)).elim) (fun c_3394 => ?_)
                    have f3395 : r_3390.toInt = 0 := qi_eq c_3394 rfl zc_0
                    have f3396 : x3352.toInt ≠ (0 : Int) := (ob_173 im3373 f3354)
                    have f3397 : (1 : Int) ≤ x3352.toInt := (ob_156 im3373 f3354)
                    have f3398 : r_3390.toInt = (0 : Int) := (ob_165 f3392 f3393 f3395)
                    refine lv_iconst (v := 1) hx hb dX9_unit_154 (by decide) ?_
                    rw [hQ]
                    exact W.zret (v := 1) hx hb hr (by decide) (fun t ht hW => ⟨⟨1, 1, rfl, rfl, ⟨x3352, i_at, i_end, i_token, i_number, i_codes, i_within, i_piled, i_unitsInRule, f_code, f_eWhat, f_eSign, J3353, L, by rw [ht]; exact hP, hD, hI3355, (ob_14 zc_1), (ob_15 zc_1), (fun h => ((ob_214 h im3373 f3354)).elim), (ob_215 hp5 hp7 hp8), (ob_216 hp2 hp4 hp7), (ob_88), (ob_217 f3354 zc_1)⟩⟩, hS.F ht⟩) hS.2.2 dX9_unit_155
          · skip
            have f3399 : i_unitsInRule.toInt = 30 := qi_eq c_2922 rfl zc_30
            refine lv_iconst (v := 1) hx hb dX9_unit_93 (by decide) ?_
            refine lv_goto (tgt := 98) hx hb dX9_unit_94 (by decide) ?_
            refine lv_istore (lv' := [(5, .int 1), (4, .int r_2696), (3, .int r_2691), (2, .int 0), (1, .int 1), (0, .ref (r 0))]) hx hb dX9_unit_98 hl (by decide) rfl (fun ls hl => ?_)
            refine lv_iload_n hx hb dX9_unit_100 rfl (lv_at hl 3 rfl) ?_
            refine lv_if_ne (tgt := 126) hx hb dX9_unit_101 (by decide) (fun c_3400 => absurd (by decide) c_3400) (fun c_3400 => ?_)
            refine lv_iload hx hb dX9_unit_104 (lv_at hl 1 rfl) ?_
            refine lv_if_ne (tgt := 121) hx hb dX9_unit_106 (by decide) (fun c_3401 => ?_) (fun c_3401 => ?_)
            · skip
              have f3402 : r_2696.toInt ≠ 0 := qi_ne c_3401 rfl zc_0
              refine lv_iload hx hb dX9_unit_121 (lv_at hl 0 rfl) ?_
              refine lv_if_ne (tgt := 143) hx hb dX9_unit_123 (by decide) (fun c_3403 => ?_) (fun c_3403 => absurd c_3403 (by decide))
              refine lv_aload_n hx hb dX9_unit_143 rfl (lv_at hl 5 rfl) ?_
              have hFc := frA hD hS hA
              refine va_callv (va_runV (As := []) (rest := []) ⟨hx, hb, hml, hown, hG⟩ (kX9_misplaced l dC dI r ct i_taped i_size i_faultKind i_at i_end i_token i_number i_bank i_rb i_codes i_within i_piled i_unitsInRule i_askHouse i_askTune i_acts i_undone i_laid i_knowns i_time f_text f_tunes f_houses f_hums f_told f_many f_ruleFrom f_ruleTo f_code f_eWhat f_eSign f_all f_kept f_was f_sTune f_boxAll J L H2695.size hI) (cwV 0 hG (goodV gw1420 gw1422 gw65 gw138 gw1423) rfl rfl rfl hd_X9_misplaced ⟨(Nat.le_of_ble_eq_true rfl), (Nat.le_of_ble_eq_true rfl)⟩) ⟨fbW, va_recv hK hP (ci := 8) (q0 := 0) rfl rfl, pW_in hP hK hD⟩ rfl rfl hl.1 rfl (lv_room (Nat.le_of_ble_eq_true rfl)) dX9_unit_144 ⟨(Nat.le_of_ble_eq_true rfl), (Nat.le_of_ble_eq_true rfl)⟩) hS (fun q _ h => hFc q h) hFc (fun _ t_ H3404 locs ht hvm hw hB hz1 hk1 hS => ?_)
              obtain ⟨x3406, J3407, hP1, hD1, hI3409, f3408⟩ := hB
              rw [ht] at hP1
              have hP := hP1
              have hD := dW hFc hD1
              obtain ⟨im3410, im3411, im3412, im3413, im3414, im3415, im3416, im3417, im3418, im3419, im3420, im3421, im3422, im3423, im3424, im3425, im3426, im3427, im3428, im3429, im3430, im3431, im3432, im3433, im3434, im3435, im3436, im3437, im3438, im3439, im3440, im3441, im3442⟩ := id hI3409
              refine lv_aload_n hx hb dX9_unit_147 rfl (lv_at hl 5 rfl) ?_
              refine va_calli (va_runV (As := []) (rest := []) ⟨hx, hb, hml, hown, hG⟩ (kX9_isGood l dC dI r ct i_taped i_size x3406 i_at i_end i_token i_number i_bank i_rb i_codes i_within i_piled i_unitsInRule i_askHouse i_askTune i_acts i_undone i_laid i_knowns i_time f_text f_tunes f_houses f_hums f_told f_many f_ruleFrom f_ruleTo f_code f_eWhat f_eSign f_all f_kept f_was f_sTune f_boxAll J3407 L H3404.size hI3409) (cwV 0 hG (goodV gw1401 gw1403 gw61 gw138 gw1404) rfl rfl rfl hd_X9_isGood ⟨(Nat.le_of_ble_eq_true rfl), (Nat.le_of_ble_eq_true rfl)⟩) ⟨fbR, va_recv hK hP (ci := 8) (q0 := 0) rfl rfl, pR_in hP hK⟩ rfl rfl hl.1 rfl (lv_room (Nat.le_of_ble_eq_true rfl)) dX9_unit_148 ⟨(Nat.le_of_ble_eq_true rfl), (Nat.le_of_ble_eq_true rfl)⟩) hS (fun q hq h => absurd hq (Nat.not_lt.mpr h)) (fun q h => hA q (Nat.le_trans hS.1 h)) (fun r_3444 u_ t_ H3443 locs ht hvm hw hB hz1 hk1 hS => ?_)
              subst hw
              have hP := wk hP hk1
              obtain ⟨f3445, f3446, f3447⟩ := hB
              refine lv_if_ne (tgt := 156) hx hb dX9_unit_151 (by decide) (fun c_3448 => ((ob_172 (qi_ne c_3448 rfl zc_0) f3408 f3445)).elim) (fun c_3448 => ?_)
              have f3449 : r_3444.toInt = 0 := qi_eq c_3448 rfl zc_0
              have f3450 : x3406.toInt ≠ (0 : Int) := (ob_173 im3427 f3408)
              have f3451 : (1 : Int) ≤ x3406.toInt := (ob_156 im3427 f3408)
              have f3452 : r_3444.toInt = (0 : Int) := (ob_165 f3446 f3447 f3449)
              refine lv_iconst (v := 1) hx hb dX9_unit_154 (by decide) ?_
              rw [hQ]
              exact W.zret (v := 1) hx hb hr (by decide) (fun t ht hW => ⟨⟨1, 1, rfl, rfl, ⟨x3406, i_at, i_end, i_token, i_number, i_codes, i_within, i_piled, i_unitsInRule, f_code, f_eWhat, f_eSign, J3407, L, by rw [ht]; exact hP, hD, hI3409, (ob_14 zc_1), (ob_15 zc_1), (fun h => ((ob_214 h im3427 f3408)).elim), (ob_215 hp5 hp7 hp8), (ob_216 hp2 hp4 hp7), (ob_88), (ob_217 f3408 zc_1)⟩⟩, hS.F ht⟩) hS.2.2 dX9_unit_155
            · skip
              have f3453 : r_2696.toInt = 0 := qi_eq c_3401 rfl zc_0
              have f3454 : r_2696.toInt = (0 : Int) := (ob_218 f3453)
              refine lv_aload_n hx hb dX9_unit_109 rfl (lv_at hl 5 rfl) ?_
              refine gM_X9_191_0 hx hb hG hown hK hP dX9_unit_110 ?_
              refine lv_iconst (v := 4) hx hb dX9_unit_113 (by decide) ?_
              refine lv_icmp_eq (tgt := 121) hx hb dX9_unit_114 (by decide) (fun c_3455 => ?_) (fun c_3455 => ?_)
              · skip
                have f3456 : i_token.toInt = 4 := qi_eq c_3455 rfl zc_4
                have f3457 : i_token.toInt ≠ (3 : Int) := (ob_219 f3456)
                have f3458 : r_2684.toInt = (0 : Int) := (ob_165 f2686 f2687 f2689)
                have f3459 : i_token.toInt ≠ (5 : Int) := (ob_220 f3456)
                have f3460 : r_2691.toInt = (0 : Int) := (ob_221 f2692 f3456 zc_40)
                have f3461 : (4 : Int) ≤ i_token.toInt := (ob_222 f3456)
                have f3462 : i_token.toInt ≤ (4 : Int) := (ob_223 f3456 f3461)
                refine lv_iload hx hb dX9_unit_121 (lv_at hl 0 rfl) ?_
                refine lv_if_ne (tgt := 143) hx hb dX9_unit_123 (by decide) (fun c_3463 => ?_) (fun c_3463 => absurd c_3463 (by decide))
                refine lv_aload_n hx hb dX9_unit_143 rfl (lv_at hl 5 rfl) ?_
                have hFc := frA hD hS hA
                refine va_callv (va_runV (As := []) (rest := []) ⟨hx, hb, hml, hown, hG⟩ (kX9_misplaced l dC dI r ct i_taped i_size i_faultKind i_at i_end i_token i_number i_bank i_rb i_codes i_within i_piled i_unitsInRule i_askHouse i_askTune i_acts i_undone i_laid i_knowns i_time f_text f_tunes f_houses f_hums f_told f_many f_ruleFrom f_ruleTo f_code f_eWhat f_eSign f_all f_kept f_was f_sTune f_boxAll J L H2695.size hI) (cwV 0 hG (goodV gw1420 gw1422 gw65 gw138 gw1423) rfl rfl rfl hd_X9_misplaced ⟨(Nat.le_of_ble_eq_true rfl), (Nat.le_of_ble_eq_true rfl)⟩) ⟨fbW, va_recv hK hP (ci := 8) (q0 := 0) rfl rfl, pW_in hP hK hD⟩ rfl rfl hl.1 rfl (lv_room (Nat.le_of_ble_eq_true rfl)) dX9_unit_144 ⟨(Nat.le_of_ble_eq_true rfl), (Nat.le_of_ble_eq_true rfl)⟩) hS (fun q _ h => hFc q h) hFc (fun _ t_ H3464 locs ht hvm hw hB hz1 hk1 hS => ?_)
                obtain ⟨x3466, J3467, hP1, hD1, hI3469, f3468⟩ := hB
                rw [ht] at hP1
                have hP := hP1
                have hD := dW hFc hD1
                obtain ⟨im3470, im3471, im3472, im3473, im3474, im3475, im3476, im3477, im3478, im3479, im3480, im3481, im3482, im3483, im3484, im3485, im3486, im3487, im3488, im3489, im3490, im3491, im3492, im3493, im3494, im3495, im3496, im3497, im3498, im3499, im3500, im3501, im3502⟩ := id hI3469
                refine lv_aload_n hx hb dX9_unit_147 rfl (lv_at hl 5 rfl) ?_
                refine va_calli (va_runV (As := []) (rest := []) ⟨hx, hb, hml, hown, hG⟩ (kX9_isGood l dC dI r ct i_taped i_size x3466 i_at i_end i_token i_number i_bank i_rb i_codes i_within i_piled i_unitsInRule i_askHouse i_askTune i_acts i_undone i_laid i_knowns i_time f_text f_tunes f_houses f_hums f_told f_many f_ruleFrom f_ruleTo f_code f_eWhat f_eSign f_all f_kept f_was f_sTune f_boxAll J3467 L H3464.size hI3469) (cwV 0 hG (goodV gw1401 gw1403 gw61 gw138 gw1404) rfl rfl rfl hd_X9_isGood ⟨(Nat.le_of_ble_eq_true rfl), (Nat.le_of_ble_eq_true rfl)⟩) ⟨fbR, va_recv hK hP (ci := 8) (q0 := 0) rfl rfl, pR_in hP hK⟩ rfl rfl hl.1 rfl (lv_room (Nat.le_of_ble_eq_true rfl)) dX9_unit_148 ⟨(Nat.le_of_ble_eq_true rfl), (Nat.le_of_ble_eq_true rfl)⟩) hS (fun q hq h => absurd hq (Nat.not_lt.mpr h)) (fun q h => hA q (Nat.le_trans hS.1 h)) (fun r_3504 u_ t_ H3503 locs ht hvm hw hB hz1 hk1 hS => ?_)
                subst hw
                have hP := wk hP hk1
                obtain ⟨f3505, f3506, f3507⟩ := hB
                refine lv_if_ne (tgt := 156) hx hb dX9_unit_151 (by decide) (fun c_3508 => ((ob_172 (qi_ne c_3508 rfl zc_0) f3468 f3505)).elim) (fun c_3508 => ?_)
                have f3509 : r_3504.toInt = 0 := qi_eq c_3508 rfl zc_0
                have f3510 : x3466.toInt ≠ (0 : Int) := (ob_173 im3487 f3468)
                have f3511 : (1 : Int) ≤ x3466.toInt := (ob_156 im3487 f3468)
                have f3512 : r_3504.toInt = (0 : Int) := (ob_165 f3506 f3507 f3509)
                refine lv_iconst (v := 1) hx hb dX9_unit_154 (by decide) ?_
                rw [hQ]
                exact W.zret (v := 1) hx hb hr (by decide) (fun t ht hW => ⟨⟨1, 1, rfl, rfl, ⟨x3466, i_at, i_end, i_token, i_number, i_codes, i_within, i_piled, i_unitsInRule, f_code, f_eWhat, f_eSign, J3467, L, by rw [ht]; exact hP, hD, hI3469, (ob_14 zc_1), (ob_15 zc_1), (fun h => ((ob_214 h im3487 f3468)).elim), (ob_215 hp5 hp7 hp8), (ob_216 hp2 hp4 hp7), (ob_88), (ob_217 f3468 zc_1)⟩⟩, hS.F ht⟩) hS.2.2 dX9_unit_155
              · skip
                have f3513 : i_token.toInt ≠ 4 := qi_ne c_3455 rfl zc_4
                refine lv_iload_n hx hb dX9_unit_117 rfl (lv_at hl 2 rfl) ?_
                refine lv_if_eq (tgt := 143) hx hb dX9_unit_118 (by decide) (fun c_3514 => ?_) (fun c_3514 => ?_)
                · skip
                  have f3515 : r_2691.toInt = 0 := qi_eq c_3514 rfl zc_0
                  refine lv_aload_n hx hb dX9_unit_143 rfl (lv_at hl 5 rfl) ?_
                  have hFc := frA hD hS hA
                  refine va_callv (va_runV (As := []) (rest := []) ⟨hx, hb, hml, hown, hG⟩ (kX9_misplaced l dC dI r ct i_taped i_size i_faultKind i_at i_end i_token i_number i_bank i_rb i_codes i_within i_piled i_unitsInRule i_askHouse i_askTune i_acts i_undone i_laid i_knowns i_time f_text f_tunes f_houses f_hums f_told f_many f_ruleFrom f_ruleTo f_code f_eWhat f_eSign f_all f_kept f_was f_sTune f_boxAll J L H2695.size hI) (cwV 0 hG (goodV gw1420 gw1422 gw65 gw138 gw1423) rfl rfl rfl hd_X9_misplaced ⟨(Nat.le_of_ble_eq_true rfl), (Nat.le_of_ble_eq_true rfl)⟩) ⟨fbW, va_recv hK hP (ci := 8) (q0 := 0) rfl rfl, pW_in hP hK hD⟩ rfl rfl hl.1 rfl (lv_room (Nat.le_of_ble_eq_true rfl)) dX9_unit_144 ⟨(Nat.le_of_ble_eq_true rfl), (Nat.le_of_ble_eq_true rfl)⟩) hS (fun q _ h => hFc q h) hFc (fun _ t_ H3516 locs ht hvm hw hB hz1 hk1 hS => ?_)
                  obtain ⟨x3518, J3519, hP1, hD1, hI3521, f3520⟩ := hB
                  rw [ht] at hP1
                  have hP := hP1
                  have hD := dW hFc hD1
                  obtain ⟨im3522, im3523, im3524, im3525, im3526, im3527, im3528, im3529, im3530, im3531, im3532, im3533, im3534, im3535, im3536, im3537, im3538, im3539, im3540, im3541, im3542, im3543, im3544, im3545, im3546, im3547, im3548, im3549, im3550, im3551, im3552, im3553, im3554⟩ := id hI3521
                  refine lv_aload_n hx hb dX9_unit_147 rfl (lv_at hl 5 rfl) ?_
                  refine va_calli (va_runV (As := []) (rest := []) ⟨hx, hb, hml, hown, hG⟩ (kX9_isGood l dC dI r ct i_taped i_size x3518 i_at i_end i_token i_number i_bank i_rb i_codes i_within i_piled i_unitsInRule i_askHouse i_askTune i_acts i_undone i_laid i_knowns i_time f_text f_tunes f_houses f_hums f_told f_many f_ruleFrom f_ruleTo f_code f_eWhat f_eSign f_all f_kept f_was f_sTune f_boxAll J3519 L H3516.size hI3521) (cwV 0 hG (goodV gw1401 gw1403 gw61 gw138 gw1404) rfl rfl rfl hd_X9_isGood ⟨(Nat.le_of_ble_eq_true rfl), (Nat.le_of_ble_eq_true rfl)⟩) ⟨fbR, va_recv hK hP (ci := 8) (q0 := 0) rfl rfl, pR_in hP hK⟩ rfl rfl hl.1 rfl (lv_room (Nat.le_of_ble_eq_true rfl)) dX9_unit_148 ⟨(Nat.le_of_ble_eq_true rfl), (Nat.le_of_ble_eq_true rfl)⟩) hS (fun q hq h => absurd hq (Nat.not_lt.mpr h)) (fun q h => hA q (Nat.le_trans hS.1 h)) (fun r_3556 u_ t_ H3555 locs ht hvm hw hB hz1 hk1 hS => ?_)
                  subst hw
                  have hP := wk hP hk1
                  obtain ⟨f3557, f3558, f3559⟩ := hB
                  refine lv_if_ne (tgt := 156) hx hb dX9_unit_151 (by decide) (fun c_3560 => ((ob_172 (qi_ne c_3560 rfl zc_0) f3520 f3557)).elim) (fun c_3560 => ?_)
                  have f3561 : r_3556.toInt = 0 := qi_eq c_3560 rfl zc_0
                  have f3562 : x3518.toInt ≠ (0 : Int) := (ob_173 im3539 f3520)
                  have f3563 : (1 : Int) ≤ x3518.toInt := (ob_156 im3539 f3520)
                  have f3564 : r_3556.toInt = (0 : Int) := (ob_165 f3558 f3559 f3561)
                  refine lv_iconst (v := 1) hx hb dX9_unit_154 (by decide) ?_
                  rw [hQ]
                  exact W.zret (v := 1) hx hb hr (by decide) (fun t ht hW => ⟨⟨1, 1, rfl, rfl, ⟨x3518, i_at, i_end, i_token, i_number, i_codes, i_within, i_piled, i_unitsInRule, f_code, f_eWhat, f_eSign, J3519, L, by rw [ht]; exact hP, hD, hI3521, (ob_14 zc_1), (ob_15 zc_1), (fun h => ((ob_214 h im3539 f3520)).elim), (ob_215 hp5 hp7 hp8), (ob_216 hp2 hp4 hp7), (ob_88), (ob_217 f3520 zc_1)⟩⟩, hS.F ht⟩) hS.2.2 dX9_unit_155
                · skip
                  have f3565 : r_2691.toInt ≠ 0 := qi_ne c_3514 rfl zc_0
                  have f3566 : (1 : Int) ≤ r_2691.toInt := (ob_224 f2692 f3565 zc_40)
                  have f3567 : i_token.toInt = (5 : Int) := (ob_225 f2692 f3565 zc_40)
                  have f3568 : (sgz f_text i_size.toInt i_at.toInt) = (40 : Int) := (ob_226 f2692 f3565 zc_40)
                  have f3569 : r_2691.toInt = (1 : Int) := (ob_104 f2693 f2694 f3566)
                  refine lv_iload hx hb dX9_unit_121 (lv_at hl 0 rfl) ?_
                  refine lv_if_ne (tgt := 143) hx hb dX9_unit_123 (by decide) (fun c_3570 => ?_) (fun c_3570 => absurd c_3570 (by decide))
                  refine lv_aload_n hx hb dX9_unit_143 rfl (lv_at hl 5 rfl) ?_
                  have hFc := frA hD hS hA
                  refine va_callv (va_runV (As := []) (rest := []) ⟨hx, hb, hml, hown, hG⟩ (kX9_misplaced l dC dI r ct i_taped i_size i_faultKind i_at i_end i_token i_number i_bank i_rb i_codes i_within i_piled i_unitsInRule i_askHouse i_askTune i_acts i_undone i_laid i_knowns i_time f_text f_tunes f_houses f_hums f_told f_many f_ruleFrom f_ruleTo f_code f_eWhat f_eSign f_all f_kept f_was f_sTune f_boxAll J L H2695.size hI) (cwV 0 hG (goodV gw1420 gw1422 gw65 gw138 gw1423) rfl rfl rfl hd_X9_misplaced ⟨(Nat.le_of_ble_eq_true rfl), (Nat.le_of_ble_eq_true rfl)⟩) ⟨fbW, va_recv hK hP (ci := 8) (q0 := 0) rfl rfl, pW_in hP hK hD⟩ rfl rfl hl.1 rfl (lv_room (Nat.le_of_ble_eq_true rfl)) dX9_unit_144 ⟨(Nat.le_of_ble_eq_true rfl), (Nat.le_of_ble_eq_true rfl)⟩) hS (fun q _ h => hFc q h) hFc (fun _ t_ H3571 locs ht hvm hw hB hz1 hk1 hS => ?_)
                  obtain ⟨x3573, J3574, hP1, hD1, hI3576, f3575⟩ := hB
                  rw [ht] at hP1
                  have hP := hP1
                  have hD := dW hFc hD1
                  obtain ⟨im3577, im3578, im3579, im3580, im3581, im3582, im3583, im3584, im3585, im3586, im3587, im3588, im3589, im3590, im3591, im3592, im3593, im3594, im3595, im3596, im3597, im3598, im3599, im3600, im3601, im3602, im3603, im3604, im3605, im3606, im3607, im3608, im3609⟩ := id hI3576
                  refine lv_aload_n hx hb dX9_unit_147 rfl (lv_at hl 5 rfl) ?_
                  refine va_calli (va_runV (As := []) (rest := []) ⟨hx, hb, hml, hown, hG⟩ (kX9_isGood l dC dI r ct i_taped i_size x3573 i_at i_end i_token i_number i_bank i_rb i_codes i_within i_piled i_unitsInRule i_askHouse i_askTune i_acts i_undone i_laid i_knowns i_time f_text f_tunes f_houses f_hums f_told f_many f_ruleFrom f_ruleTo f_code f_eWhat f_eSign f_all f_kept f_was f_sTune f_boxAll J3574 L H3571.size hI3576) (cwV 0 hG (goodV gw1401 gw1403 gw61 gw138 gw1404) rfl rfl rfl hd_X9_isGood ⟨(Nat.le_of_ble_eq_true rfl), (Nat.le_of_ble_eq_true rfl)⟩) ⟨fbR, va_recv hK hP (ci := 8) (q0 := 0) rfl rfl, pR_in hP hK⟩ rfl rfl hl.1 rfl (lv_room (Nat.le_of_ble_eq_true rfl)) dX9_unit_148 ⟨(Nat.le_of_ble_eq_true rfl), (Nat.le_of_ble_eq_true rfl)⟩) hS (fun q hq h => absurd hq (Nat.not_lt.mpr h)) (fun q h => hA q (Nat.le_trans hS.1 h)) (fun r_3611 u_ t_ H3610 locs ht hvm hw hB hz1 hk1 hS => ?_)
                  subst hw
                  have hP := wk hP hk1
                  obtain ⟨f3612, f3613, f3614⟩ := hB
                  refine lv_if_ne (tgt := 156) hx hb dX9_unit_151 (by decide) (fun c_3615 => ((ob_172 (qi_ne c_3615 rfl zc_0) f3575 f3612)).elim) (fun c_3615 => ?_)
                  have f3616 : r_3611.toInt = 0 := qi_eq c_3615 rfl zc_0
                  have f3617 : x3573.toInt ≠ (0 : Int) := (ob_173 im3594 f3575)
                  have f3618 : (1 : Int) ≤ x3573.toInt := (ob_156 im3594 f3575)
                  have f3619 : r_3611.toInt = (0 : Int) := (ob_165 f3613 f3614 f3616)
                  refine lv_iconst (v := 1) hx hb dX9_unit_154 (by decide) ?_
                  rw [hQ]
                  exact W.zret (v := 1) hx hb hr (by decide) (fun t ht hW => ⟨⟨1, 1, rfl, rfl, ⟨x3573, i_at, i_end, i_token, i_number, i_codes, i_within, i_piled, i_unitsInRule, f_code, f_eWhat, f_eSign, J3574, L, by rw [ht]; exact hP, hD, hI3576, (ob_14 zc_1), (ob_15 zc_1), (fun h => ((ob_214 h im3594 f3575)).elim), (ob_215 hp5 hp7 hp8), (ob_216 hp2 hp4 hp7), (ob_88), (ob_217 f3575 zc_1)⟩⟩, hS.F ht⟩) hS.2.2 dX9_unit_155
      · skip
        have f3620 : r_2684.toInt ≠ 0 := qi_ne c_2688 rfl zc_0
        have f3621 : (1 : Int) ≤ r_2684.toInt := (ob_197 f2685 f3620)
        have f3622 : i_token.toInt = (3 : Int) := (ob_198 f2685 f3620)
        have f3623 : r_2684.toInt = (1 : Int) := (ob_104 f2686 f2687 f3621)
        refine lv_iconst (v := 1) hx hb dX9_unit_51 (by decide) ?_
        refine lv_goto (tgt := 56) hx hb dX9_unit_52 (by decide) ?_
        refine lv_istore_n (lv' := [(2, .int 1), (1, .int 1), (0, .ref (r 0))]) hx hb dX9_unit_56 rfl hl (by decide) rfl (fun ls hl => ?_)
        refine lv_aload_n hx hb dX9_unit_57 rfl (lv_at hl 2 rfl) ?_
        refine lv_bipush (v := 40) hx hb dX9_unit_58 (by decide) ?_
        refine va_calli (va_runV (As := [.int 40]) (rest := []) ⟨hx, hb, hml, hown, hG⟩ (kX9_isSignHere l dC dI r ct i_taped i_size i_faultKind i_at i_end i_token i_number i_bank i_rb i_codes i_within i_piled i_unitsInRule i_askHouse i_askTune i_acts i_undone i_laid i_knowns i_time f_text f_tunes f_houses f_hums f_told f_many f_ruleFrom f_ruleTo f_code f_eWhat f_eSign f_all f_kept f_was f_sTune f_boxAll J L 40 H2683.size hI) (cwV 1 hG (goodV gw1476 gw1478 gw79 gw138 gw1479) rfl rfl rfl hd_X9_isSignHere ⟨(Nat.le_of_ble_eq_true rfl), (Nat.le_of_ble_eq_true rfl)⟩) ⟨fbR, va_recv hK hP (ci := 8) (q0 := 0) rfl rfl, pR_in hP hK⟩ rfl rfl hl.1 rfl (lv_room (Nat.le_of_ble_eq_true rfl)) dX9_unit_60 ⟨(Nat.le_of_ble_eq_true rfl), (Nat.le_of_ble_eq_true rfl)⟩) hS (fun q hq h => absurd hq (Nat.not_lt.mpr h)) (fun q h => hA q (Nat.le_trans hS.1 h)) (fun r_3625 u_ t_ H3624 locs ht hvm hw hB hz1 hk1 hS => ?_)
        subst hw
        have hP := wk hP hk1
        obtain ⟨f3626, f3627, f3628⟩ := hB
        refine lv_istore_n (lv' := [(3, .int r_3625), (2, .int 1), (1, .int 1), (0, .ref (r 0))]) hx hb dX9_unit_63 rfl hl (by decide) rfl (fun ls hl => ?_)
        refine lv_aload_n hx hb dX9_unit_64 rfl (lv_at hl 3 rfl) ?_
        refine va_calli (va_runV (As := []) (rest := []) ⟨hx, hb, hml, hown, hG⟩ (kX9_wordHere l dC dI r ct i_taped i_size i_faultKind i_at i_end i_token i_number i_bank i_rb i_codes i_within i_piled i_unitsInRule i_askHouse i_askTune i_acts i_undone i_laid i_knowns i_time f_text f_tunes f_houses f_hums f_told f_many f_ruleFrom f_ruleTo f_code f_eWhat f_eSign f_all f_kept f_was f_sTune f_boxAll J L H3624.size hI) (cwV 0 hG (goodV gw1480 gw1482 gw80 gw138 gw1483) rfl rfl rfl hd_X9_wordHere ⟨(Nat.le_of_ble_eq_true rfl), (Nat.le_of_ble_eq_true rfl)⟩) ⟨fbR, va_recv hK hP (ci := 8) (q0 := 0) rfl rfl, pR_in hP hK⟩ rfl rfl hl.1 rfl (lv_room (Nat.le_of_ble_eq_true rfl)) dX9_unit_65 ⟨(Nat.le_of_ble_eq_true rfl), (Nat.le_of_ble_eq_true rfl)⟩) hS (fun q hq h => absurd hq (Nat.not_lt.mpr h)) (fun q h => hA q (Nat.le_trans hS.1 h)) (fun r_3630 u_ t_ H3629 locs ht hvm hw hB hz1 hk1 hS => ?_)
        subst hw
        have hP := wk hP hk1
        have f3631 := hB
        refine lv_istore (lv' := [(4, .int r_3630), (3, .int r_3625), (2, .int 1), (1, .int 1), (0, .ref (r 0))]) hx hb dX9_unit_68 hl (by decide) rfl (fun ls hl => ?_)
        refine lv_aload_n hx hb dX9_unit_70 rfl (lv_at hl 4 rfl) ?_
        refine gM_X9_30_0 hx hb hG hown hK hP dX9_unit_71 ?_
        refine lv_aload_n hx hb dX9_unit_74 rfl (lv_at hl 4 rfl) ?_
        refine gM_X9_240_0 hx hb hG hown hK hP dX9_unit_75 ?_
        refine ldM_6 (mm := i_rb.toInt) hx hb hK hP rfl (ob_212 im6) (ob_213 im7) dX9_unit_78 (fun x3632 => ?_)
        refine lv_bipush (v := 60) hx hb dX9_unit_79 (by decide) ?_
        refine lv_icmp_eq (tgt := 93) hx hb dX9_unit_81 (by decide) (fun c_3633 => ?_) (fun c_3633 => ?_)
        · skip
          have f3634 : x3632.toInt = 60 := qi_eq c_3633 rfl zc_60
          refine lv_iconst (v := 1) hx hb dX9_unit_93 (by decide) ?_
          refine lv_goto (tgt := 98) hx hb dX9_unit_94 (by decide) ?_
          refine lv_istore (lv' := [(5, .int 1), (4, .int r_3630), (3, .int r_3625), (2, .int 1), (1, .int 1), (0, .ref (r 0))]) hx hb dX9_unit_98 hl (by decide) rfl (fun ls hl => ?_)
          refine lv_iload_n hx hb dX9_unit_100 rfl (lv_at hl 3 rfl) ?_
          refine lv_if_ne (tgt := 126) hx hb dX9_unit_101 (by decide) (fun c_3635 => ?_) (fun c_3635 => absurd c_3635 (by decide))
          refine lv_iload_n hx hb dX9_unit_126 rfl (lv_at hl 3 rfl) ?_
          refine lv_if_ne (tgt := 134) hx hb dX9_unit_127 (by decide) (fun c_3636 => ?_) (fun c_3636 => absurd c_3636 (by decide))
          refine lv_aload_n hx hb dX9_unit_134 rfl (lv_at hl 5 rfl) ?_
          refine gM_X9_299_0 hx hb hG hown hK hP dX9_unit_135 ?_
          refine lv_bipush (v := 7) hx hb dX9_unit_138 (by decide) ?_
          refine lv_icmp_ne (tgt := 147) hx hb dX9_unit_140 (by decide) (fun c_3637 => ?_) (fun c_3637 => ?_)
          · skip
            have f3638 : i_within.toInt ≠ 7 := qi_ne c_3637 rfl zc_7
            have f3639 : i_within.toInt ≤ (6 : Int) := (ob_250 hp4 f3638)
            refine lv_aload_n hx hb dX9_unit_147 rfl (lv_at hl 5 rfl) ?_
            refine va_calli (va_runV (As := []) (rest := []) ⟨hx, hb, hml, hown, hG⟩ (kX9_isGood l dC dI r ct i_taped i_size i_faultKind i_at i_end i_token i_number i_bank i_rb i_codes i_within i_piled i_unitsInRule i_askHouse i_askTune i_acts i_undone i_laid i_knowns i_time f_text f_tunes f_houses f_hums f_told f_many f_ruleFrom f_ruleTo f_code f_eWhat f_eSign f_all f_kept f_was f_sTune f_boxAll J L H3629.size hI) (cwV 0 hG (goodV gw1401 gw1403 gw61 gw138 gw1404) rfl rfl rfl hd_X9_isGood ⟨(Nat.le_of_ble_eq_true rfl), (Nat.le_of_ble_eq_true rfl)⟩) ⟨fbR, va_recv hK hP (ci := 8) (q0 := 0) rfl rfl, pR_in hP hK⟩ rfl rfl hl.1 rfl (lv_room (Nat.le_of_ble_eq_true rfl)) dX9_unit_148 ⟨(Nat.le_of_ble_eq_true rfl), (Nat.le_of_ble_eq_true rfl)⟩) hS (fun q hq h => absurd hq (Nat.not_lt.mpr h)) (fun q h => hA q (Nat.le_trans hS.1 h)) (fun r_3641 u_ t_ H3640 locs ht hvm hw hB hz1 hk1 hS => ?_)
            subst hw
            have hP := wk hP hk1
            obtain ⟨f3642, f3643, f3644⟩ := hB
            refine lv_if_ne (tgt := 156) hx hb dX9_unit_151 (by decide) (fun c_3645 => ?_) (fun c_3645 => ((ob_167 (qi_eq c_3645 rfl zc_0) hp10 f3642)).elim)
            have f3646 : r_3641.toInt ≠ 0 := qi_ne c_3645 rfl zc_0
            have f3647 : i_faultKind.toInt = (0 : Int) := (ob_168 im17 hp10)
            have f3648 : r_3641.toInt = (1 : Int) := (ob_169 f3642 f3646)
            have f3649 : (1 : Int) ≤ r_3641.toInt := (ob_170 f3643 f3644 f3648)
            refine lv_aload_n hx hb dX9_unit_156 rfl (lv_at hl 5 rfl) ?_
            refine gM_X9_30_0 hx hb hG hown hK hP dX9_unit_157 ?_
            refine lv_aload_n hx hb dX9_unit_160 rfl (lv_at hl 5 rfl) ?_
            refine gM_X9_240_0 hx hb hG hown hK hP dX9_unit_161 ?_
            refine lv_dup2_11 hx hb dX9_unit_164 rfl rfl ?_
            refine ldM_6 (mm := i_rb.toInt) hx hb hK hP rfl (ob_212 im6) (ob_213 im7) dX9_unit_165 (fun x3650 => ?_)
            refine lv_iload_n hx hb dX9_unit_166 rfl (lv_at hl 3 rfl) ?_
            refine lv_if_eq (tgt := 174) hx hb dX9_unit_167 (by decide) (fun c_3651 => absurd c_3651 (by decide)) (fun c_3651 => ?_)
            refine lv_iconst (v := 0) hx hb dX9_unit_170 (by decide) ?_
            refine lv_goto (tgt := 175) hx hb dX9_unit_171 (by decide) ?_
            refine lv_iadd hx hb dX9_unit_175 ?_
            refine lv_topi (fun x3652 ex3652 => ?_)
            refine stM_6 (mm := i_rb.toInt) hx hb hK hP hD hS rfl (ob_212 im6) (ob_213 im7) dX9_unit_176 (fun J3654 H3653 locs hP hD hS => ?_)
            refine lv_aload_n hx hb dX9_unit_177 rfl (lv_at hl 5 rfl) ?_
            refine lv_dup hx hb dX9_unit_178 rfl ?_
            refine gM_X9_290_0 hx hb hG hown hK hP dX9_unit_179 ?_
            refine lv_iload_n hx hb dX9_unit_182 rfl (lv_at hl 3 rfl) ?_
            refine lv_if_eq (tgt := 190) hx hb dX9_unit_183 (by decide) (fun c_3655 => absurd c_3655 (by decide)) (fun c_3655 => ?_)
            refine lv_iconst (v := 0) hx hb dX9_unit_186 (by decide) ?_
            refine lv_goto (tgt := 191) hx hb dX9_unit_187 (by decide) ?_
            refine lv_iadd hx hb dX9_unit_191 ?_
            refine lv_topi (fun x3656 ex3656 => ?_)
            have f3657 : x3656.toInt = i_unitsInRule.toInt := (ob_259 (qi_add ex3656 rfl zc_0 (ob_257 hp1) (ob_258 hp2)))
            refine pM_X9_290_0 hx hb hG hown hK hP hD hS dX9_unit_192 (fun H3658 locs hP hD hS => ?_)
            refine lv_iload hx hb dX9_unit_195 (lv_at hl 1 rfl) ?_
            refine lv_if_ne (tgt := 207) hx hb dX9_unit_197 (by decide) (fun c_3659 => ?_) (fun c_3659 => ?_)
            · skip
              have f3660 : r_3630.toInt ≠ 0 := qi_ne c_3659 rfl zc_0
              refine lv_iconst (v := 0) hx hb dX9_unit_207 (by decide) ?_
              refine lv_istore (lv' := [(6, .int 0), (5, .int 1), (4, .int r_3630), (3, .int r_3625), (2, .int 1), (1, .int 1), (0, .ref (r 0))]) hx hb dX9_unit_208 hl (by decide) rfl (fun ls hl => ?_)
              refine lv_aload_n hx hb dX9_unit_210 rfl (lv_at hl 6 rfl) ?_
              have hFc := frA hD hS hA
              refine va_callv (va_runV (As := []) (rest := []) ⟨hx, hb, hml, hown, hG⟩ (kX9_goOn l dC dI r ct i_taped i_size i_faultKind i_at i_end i_token i_number i_bank i_rb i_codes i_within i_piled x3656 i_askHouse i_askTune i_acts i_undone i_laid i_knowns i_time f_text f_tunes f_houses f_hums f_told f_many f_ruleFrom f_ruleTo f_code f_eWhat f_eSign f_all f_kept f_was f_sTune f_boxAll J3654 L H3658.size hI) (cwV 0 hG (goodV gw1362 gw1364 gw59 gw138 gw1365) rfl rfl rfl hd_X9_goOn ⟨(Nat.le_of_ble_eq_true rfl), (Nat.le_of_ble_eq_true rfl)⟩) ⟨fbW, va_recv hK hP (ci := 8) (q0 := 0) rfl rfl, pW_in hP hK hD⟩ rfl rfl hl.1 rfl (lv_room (Nat.le_of_ble_eq_true rfl)) dX9_unit_211 ⟨(Nat.le_of_ble_eq_true rfl), (Nat.le_of_ble_eq_true rfl)⟩) hS (fun q _ h => hFc q h) hFc (fun _ t_ H3661 locs ht hvm hw hB hz1 hk1 hS => ?_)
              obtain ⟨x3663, x3664, x3665, x3666, L3667, hP1, hD1, hI3671, f3668, f3669, f3670⟩ := hB
              rw [ht] at hP1
              have hP := hP1
              have hD := dW hFc hD1
              obtain ⟨im3672, im3673, im3674, im3675, im3676, im3677, im3678, im3679, im3680, im3681, im3682, im3683, im3684, im3685, im3686, im3687, im3688, im3689, im3690, im3691, im3692, im3693, im3694, im3695, im3696, im3697, im3698, im3699, im3700, im3701, im3702, im3703, im3704⟩ := id hI3671
              refine lv_iload_n hx hb dX9_unit_214 rfl (lv_at hl 4 rfl) ?_
              refine lv_if_ne (tgt := 222) hx hb dX9_unit_215 (by decide) (fun c_3705 => ?_) (fun c_3705 => absurd c_3705 (by decide))
              refine lv_aload_n hx hb dX9_unit_222 rfl (lv_at hl 6 rfl) ?_
              refine lv_iload_n hx hb dX9_unit_223 rfl (lv_at hl 4 rfl) ?_
              refine lv_if_eq (tgt := 231) hx hb dX9_unit_224 (by decide) (fun c_3706 => absurd c_3706 (by decide)) (fun c_3706 => ?_)
              refine lv_iconst (v := 3) hx hb dX9_unit_227 (by decide) ?_
              refine lv_goto (tgt := 233) hx hb dX9_unit_228 (by decide) ?_
              refine lv_bipush (v := 126) hx hb dX9_unit_233 (by decide) ?_
              have hFc := frA hD hS hA
              refine va_callv (va_runV (As := [.int 3, .int 126]) (rest := []) ⟨hx, hb, hml, hown, hG⟩ (kX9_pushE l dC dI r ct i_taped i_size i_faultKind x3663 x3664 x3665 x3666 i_bank i_rb i_codes i_within i_piled x3656 i_askHouse i_askTune i_acts i_undone i_laid i_knowns i_time f_text f_tunes f_houses f_hums f_told f_many f_ruleFrom f_ruleTo f_code f_eWhat f_eSign f_all f_kept f_was f_sTune f_boxAll J3654 L3667 3 126 H3661.size hI3671 (ob_215 hp5 hp7 hp8) (ob_251 hp2 hp4 hp7)) (cwV 2 hG (goodV gw1468 gw1470 gw77 gw138 gw1471) rfl rfl rfl hd_X9_pushE ⟨(Nat.le_of_ble_eq_true rfl), (Nat.le_of_ble_eq_true rfl)⟩) ⟨fbW, va_recv hK hP (ci := 8) (q0 := 0) rfl rfl, pW_in hP hK hD⟩ rfl rfl hl.1 rfl (lv_room (Nat.le_of_ble_eq_true rfl)) dX9_unit_235 ⟨(Nat.le_of_ble_eq_true rfl), (Nat.le_of_ble_eq_true rfl)⟩) hS (fun q _ h => hFc q h) hFc (fun _ t_ H3707 locs ht hvm hw hB hz1 hk1 hS => ?_)
              obtain ⟨x3709, z3710, z3711, hP1, hD1, hI3715, f3712, f3713, f3714⟩ := hB
              rw [ht] at hP1
              have hP := hP1
              have hD := dW hFc hD1
              obtain ⟨im3716, im3717, im3718, im3719, im3720, im3721, im3722, im3723, im3724, im3725, im3726, im3727, im3728, im3729, im3730, im3731, im3732, im3733, im3734, im3735, im3736, im3737, im3738, im3739, im3740, im3741, im3742, im3743, im3744, im3745, im3746, im3747, im3748⟩ := id hI3715
              have f3749 : (z3710 ((0 : Int)).toNat).toInt = (f_eWhat ((0 : Int)).toNat).toInt := (by rw [f3713, upd_off (ne0 (ob_252 hp5))])
              refine lv_aload_n hx hb dX9_unit_238 rfl (lv_at hl 6 rfl) ?_
              refine lv_dup hx hb dX9_unit_239 rfl ?_
              refine gM_X9_299_0 hx hb hG hown hK hP dX9_unit_240 ?_
              refine lv_iconst (v := 1) hx hb dX9_unit_243 (by decide) ?_
              refine lv_iadd hx hb dX9_unit_244 ?_
              refine lv_topi (fun x3750 ex3750 => ?_)
              have f3751 : x3750.toInt = i_within.toInt + 1 := (ob_84 (qi_add ex3750 rfl zc_1 (ob_82 hp3) (ob_253 hp4)))
              refine pM_X9_299_0 hx hb hG hown hK hP hD hS dX9_unit_245 (fun H3752 locs hP hD hS => ?_)
              refine lv_iconst (v := 1) hx hb dX9_unit_248 (by decide) ?_
              rw [hQ]
              exact W.zret (v := 1) hx hb hr (by decide) (fun t ht hW => ⟨⟨1, 1, rfl, rfl, ⟨i_faultKind, x3663, x3664, x3665, x3666, i_codes, x3750, x3709, x3656, f_code, z3710, z3711, J3654, L3667, by rw [ht]; exact hP, hD, hI3715, (ob_14 zc_1), (ob_15 zc_1), (fun _ => SPpush hp11 f3713 f3714 (ob_252 hp5) (ob_84 f3712) (Or.inl (ob_260 zc_1 f3751 zc_126 zc_3))), (ob_141 hp5 f3712), (ob_255 hp2 hp4 hp7 f3712), (ob_87 f3668), (ob_265 im17 hp2 hp3 hp4 hp5 hp6 hp7 hp8 hp9 f3631 f3638 f3660 f3670 f3712 f3749 zc_1 f3751 f3657)⟩⟩, hS.F ht⟩) hS.2.2 dX9_unit_249
            · skip
              have f3753 : r_3630.toInt = 0 := qi_eq c_3659 rfl zc_0
              have f3754 : r_3630.toInt = (0 : Int) := (ob_218 f3753)
              refine lv_aload_n hx hb dX9_unit_200 rfl (lv_at hl 5 rfl) ?_
              refine gM_X9_209_0 hx hb hG hown hK hP dX9_unit_201 ?_
              refine lv_goto (tgt := 208) hx hb dX9_unit_204 (by decide) ?_
              refine lv_istore (lv' := [(6, .int i_number), (5, .int 1), (4, .int r_3630), (3, .int r_3625), (2, .int 1), (1, .int 1), (0, .ref (r 0))]) hx hb dX9_unit_208 hl (by decide) rfl (fun ls hl => ?_)
              refine lv_aload_n hx hb dX9_unit_210 rfl (lv_at hl 6 rfl) ?_
              have hFc := frA hD hS hA
              refine va_callv (va_runV (As := []) (rest := []) ⟨hx, hb, hml, hown, hG⟩ (kX9_goOn l dC dI r ct i_taped i_size i_faultKind i_at i_end i_token i_number i_bank i_rb i_codes i_within i_piled x3656 i_askHouse i_askTune i_acts i_undone i_laid i_knowns i_time f_text f_tunes f_houses f_hums f_told f_many f_ruleFrom f_ruleTo f_code f_eWhat f_eSign f_all f_kept f_was f_sTune f_boxAll J3654 L H3658.size hI) (cwV 0 hG (goodV gw1362 gw1364 gw59 gw138 gw1365) rfl rfl rfl hd_X9_goOn ⟨(Nat.le_of_ble_eq_true rfl), (Nat.le_of_ble_eq_true rfl)⟩) ⟨fbW, va_recv hK hP (ci := 8) (q0 := 0) rfl rfl, pW_in hP hK hD⟩ rfl rfl hl.1 rfl (lv_room (Nat.le_of_ble_eq_true rfl)) dX9_unit_211 ⟨(Nat.le_of_ble_eq_true rfl), (Nat.le_of_ble_eq_true rfl)⟩) hS (fun q _ h => hFc q h) hFc (fun _ t_ H3755 locs ht hvm hw hB hz1 hk1 hS => ?_)
              obtain ⟨x3757, x3758, x3759, x3760, L3761, hP1, hD1, hI3765, f3762, f3763, f3764⟩ := hB
              rw [ht] at hP1
              have hP := hP1
              have hD := dW hFc hD1
              obtain ⟨im3766, im3767, im3768, im3769, im3770, im3771, im3772, im3773, im3774, im3775, im3776, im3777, im3778, im3779, im3780, im3781, im3782, im3783, im3784, im3785, im3786, im3787, im3788, im3789, im3790, im3791, im3792, im3793, im3794, im3795, im3796, im3797, im3798⟩ := id hI3765
              refine lv_iload_n hx hb dX9_unit_214 rfl (lv_at hl 4 rfl) ?_
              refine lv_if_ne (tgt := 222) hx hb dX9_unit_215 (by decide) (fun c_3799 => ?_) (fun c_3799 => absurd c_3799 (by decide))
              refine lv_aload_n hx hb dX9_unit_222 rfl (lv_at hl 6 rfl) ?_
              refine lv_iload_n hx hb dX9_unit_223 rfl (lv_at hl 4 rfl) ?_
              refine lv_if_eq (tgt := 231) hx hb dX9_unit_224 (by decide) (fun c_3800 => absurd c_3800 (by decide)) (fun c_3800 => ?_)
              refine lv_iconst (v := 3) hx hb dX9_unit_227 (by decide) ?_
              refine lv_goto (tgt := 233) hx hb dX9_unit_228 (by decide) ?_
              refine lv_bipush (v := 126) hx hb dX9_unit_233 (by decide) ?_
              have hFc := frA hD hS hA
              refine va_callv (va_runV (As := [.int 3, .int 126]) (rest := []) ⟨hx, hb, hml, hown, hG⟩ (kX9_pushE l dC dI r ct i_taped i_size i_faultKind x3757 x3758 x3759 x3760 i_bank i_rb i_codes i_within i_piled x3656 i_askHouse i_askTune i_acts i_undone i_laid i_knowns i_time f_text f_tunes f_houses f_hums f_told f_many f_ruleFrom f_ruleTo f_code f_eWhat f_eSign f_all f_kept f_was f_sTune f_boxAll J3654 L3761 3 126 H3755.size hI3765 (ob_215 hp5 hp7 hp8) (ob_251 hp2 hp4 hp7)) (cwV 2 hG (goodV gw1468 gw1470 gw77 gw138 gw1471) rfl rfl rfl hd_X9_pushE ⟨(Nat.le_of_ble_eq_true rfl), (Nat.le_of_ble_eq_true rfl)⟩) ⟨fbW, va_recv hK hP (ci := 8) (q0 := 0) rfl rfl, pW_in hP hK hD⟩ rfl rfl hl.1 rfl (lv_room (Nat.le_of_ble_eq_true rfl)) dX9_unit_235 ⟨(Nat.le_of_ble_eq_true rfl), (Nat.le_of_ble_eq_true rfl)⟩) hS (fun q _ h => hFc q h) hFc (fun _ t_ H3801 locs ht hvm hw hB hz1 hk1 hS => ?_)
              obtain ⟨x3803, z3804, z3805, hP1, hD1, hI3809, f3806, f3807, f3808⟩ := hB
              rw [ht] at hP1
              have hP := hP1
              have hD := dW hFc hD1
              obtain ⟨im3810, im3811, im3812, im3813, im3814, im3815, im3816, im3817, im3818, im3819, im3820, im3821, im3822, im3823, im3824, im3825, im3826, im3827, im3828, im3829, im3830, im3831, im3832, im3833, im3834, im3835, im3836, im3837, im3838, im3839, im3840, im3841, im3842⟩ := id hI3809
              have f3843 : (z3804 ((0 : Int)).toNat).toInt = (f_eWhat ((0 : Int)).toNat).toInt := (by rw [f3807, upd_off (ne0 (ob_252 hp5))])
              refine lv_aload_n hx hb dX9_unit_238 rfl (lv_at hl 6 rfl) ?_
              refine lv_dup hx hb dX9_unit_239 rfl ?_
              refine gM_X9_299_0 hx hb hG hown hK hP dX9_unit_240 ?_
              refine lv_iconst (v := 1) hx hb dX9_unit_243 (by decide) ?_
              refine lv_iadd hx hb dX9_unit_244 ?_
              refine lv_topi (fun x3844 ex3844 => ?_)
              have f3845 : x3844.toInt = i_within.toInt + 1 := (ob_84 (qi_add ex3844 rfl zc_1 (ob_82 hp3) (ob_253 hp4)))
              refine pM_X9_299_0 hx hb hG hown hK hP hD hS dX9_unit_245 (fun H3846 locs hP hD hS => ?_)
              refine lv_iconst (v := 1) hx hb dX9_unit_248 (by decide) ?_
              rw [hQ]
              exact W.zret (v := 1) hx hb hr (by decide) (fun t ht hW => ⟨⟨1, 1, rfl, rfl, ⟨i_faultKind, x3757, x3758, x3759, x3760, i_codes, x3844, x3803, x3656, f_code, z3804, z3805, J3654, L3761, by rw [ht]; exact hP, hD, hI3809, (ob_14 zc_1), (ob_15 zc_1), (fun _ => SPpush hp11 f3807 f3808 (ob_252 hp5) (ob_84 f3806) (Or.inl (ob_260 zc_1 f3845 zc_126 zc_3))), (ob_141 hp5 f3806), (ob_255 hp2 hp4 hp7 f3806), (ob_87 f3762), (ob_266 im17 hp2 hp3 hp4 hp5 hp6 hp7 hp8 hp9 f2685 f3620 f3638 f3753 f3764 f3806 f3843 zc_1 f3845 f3657)⟩⟩, hS.F ht⟩) hS.2.2 dX9_unit_249
          · skip
            have f3847 : i_within.toInt = 7 := qi_eq c_3637 rfl zc_7
            refine lv_aload_n hx hb dX9_unit_143 rfl (lv_at hl 5 rfl) ?_
            have hFc := frA hD hS hA
            refine va_callv (va_runV (As := []) (rest := []) ⟨hx, hb, hml, hown, hG⟩ (kX9_misplaced l dC dI r ct i_taped i_size i_faultKind i_at i_end i_token i_number i_bank i_rb i_codes i_within i_piled i_unitsInRule i_askHouse i_askTune i_acts i_undone i_laid i_knowns i_time f_text f_tunes f_houses f_hums f_told f_many f_ruleFrom f_ruleTo f_code f_eWhat f_eSign f_all f_kept f_was f_sTune f_boxAll J L H3629.size hI) (cwV 0 hG (goodV gw1420 gw1422 gw65 gw138 gw1423) rfl rfl rfl hd_X9_misplaced ⟨(Nat.le_of_ble_eq_true rfl), (Nat.le_of_ble_eq_true rfl)⟩) ⟨fbW, va_recv hK hP (ci := 8) (q0 := 0) rfl rfl, pW_in hP hK hD⟩ rfl rfl hl.1 rfl (lv_room (Nat.le_of_ble_eq_true rfl)) dX9_unit_144 ⟨(Nat.le_of_ble_eq_true rfl), (Nat.le_of_ble_eq_true rfl)⟩) hS (fun q _ h => hFc q h) hFc (fun _ t_ H3848 locs ht hvm hw hB hz1 hk1 hS => ?_)
            obtain ⟨x3850, J3851, hP1, hD1, hI3853, f3852⟩ := hB
            rw [ht] at hP1
            have hP := hP1
            have hD := dW hFc hD1
            obtain ⟨im3854, im3855, im3856, im3857, im3858, im3859, im3860, im3861, im3862, im3863, im3864, im3865, im3866, im3867, im3868, im3869, im3870, im3871, im3872, im3873, im3874, im3875, im3876, im3877, im3878, im3879, im3880, im3881, im3882, im3883, im3884, im3885, im3886⟩ := id hI3853
            refine lv_aload_n hx hb dX9_unit_147 rfl (lv_at hl 5 rfl) ?_
            refine va_calli (va_runV (As := []) (rest := []) ⟨hx, hb, hml, hown, hG⟩ (kX9_isGood l dC dI r ct i_taped i_size x3850 i_at i_end i_token i_number i_bank i_rb i_codes i_within i_piled i_unitsInRule i_askHouse i_askTune i_acts i_undone i_laid i_knowns i_time f_text f_tunes f_houses f_hums f_told f_many f_ruleFrom f_ruleTo f_code f_eWhat f_eSign f_all f_kept f_was f_sTune f_boxAll J3851 L H3848.size hI3853) (cwV 0 hG (goodV gw1401 gw1403 gw61 gw138 gw1404) rfl rfl rfl hd_X9_isGood ⟨(Nat.le_of_ble_eq_true rfl), (Nat.le_of_ble_eq_true rfl)⟩) ⟨fbR, va_recv hK hP (ci := 8) (q0 := 0) rfl rfl, pR_in hP hK⟩ rfl rfl hl.1 rfl (lv_room (Nat.le_of_ble_eq_true rfl)) dX9_unit_148 ⟨(Nat.le_of_ble_eq_true rfl), (Nat.le_of_ble_eq_true rfl)⟩) hS (fun q hq h => absurd hq (Nat.not_lt.mpr h)) (fun q h => hA q (Nat.le_trans hS.1 h)) (fun r_3888 u_ t_ H3887 locs ht hvm hw hB hz1 hk1 hS => ?_)
            subst hw
            have hP := wk hP hk1
            obtain ⟨f3889, f3890, f3891⟩ := hB
            refine lv_if_ne (tgt := 156) hx hb dX9_unit_151 (by decide) (fun c_3892 => ((ob_172 (qi_ne c_3892 rfl zc_0) f3852 f3889)).elim) (fun c_3892 => ?_)
            have f3893 : r_3888.toInt = 0 := qi_eq c_3892 rfl zc_0
            have f3894 : x3850.toInt ≠ (0 : Int) := (ob_173 im3871 f3852)
            have f3895 : (1 : Int) ≤ x3850.toInt := (ob_156 im3871 f3852)
            have f3896 : r_3888.toInt = (0 : Int) := (ob_165 f3890 f3891 f3893)
            refine lv_iconst (v := 1) hx hb dX9_unit_154 (by decide) ?_
            rw [hQ]
            exact W.zret (v := 1) hx hb hr (by decide) (fun t ht hW => ⟨⟨1, 1, rfl, rfl, ⟨x3850, i_at, i_end, i_token, i_number, i_codes, i_within, i_piled, i_unitsInRule, f_code, f_eWhat, f_eSign, J3851, L, by rw [ht]; exact hP, hD, hI3853, (ob_14 zc_1), (ob_15 zc_1), (fun h => ((ob_214 h im3871 f3852)).elim), (ob_215 hp5 hp7 hp8), (ob_216 hp2 hp4 hp7), (ob_88), (ob_217 f3852 zc_1)⟩⟩, hS.F ht⟩) hS.2.2 dX9_unit_155
        · skip
          have f3897 : x3632.toInt ≠ 60 := qi_ne c_3633 rfl zc_60
          refine lv_aload_n hx hb dX9_unit_84 rfl (lv_at hl 4 rfl) ?_
          refine gM_X9_290_0 hx hb hG hown hK hP dX9_unit_85 ?_
          refine lv_bipush (v := 30) hx hb dX9_unit_88 (by decide) ?_
          refine lv_icmp_ne (tgt := 97) hx hb dX9_unit_90 (by decide) (fun c_3898 => ?_) (fun c_3898 => ?_)
          · skip
            have f3899 : i_unitsInRule.toInt ≠ 30 := qi_ne c_3898 rfl zc_30
            have f3900 : i_unitsInRule.toInt ≤ (29 : Int) := (ob_227 hp2 f3899)
            refine lv_iconst (v := 0) hx hb dX9_unit_97 (by decide) ?_
            refine lv_istore (lv' := [(5, .int 0), (4, .int r_3630), (3, .int r_3625), (2, .int 1), (1, .int 1), (0, .ref (r 0))]) hx hb dX9_unit_98 hl (by decide) rfl (fun ls hl => ?_)
            refine lv_iload_n hx hb dX9_unit_100 rfl (lv_at hl 3 rfl) ?_
            refine lv_if_ne (tgt := 126) hx hb dX9_unit_101 (by decide) (fun c_3901 => ?_) (fun c_3901 => absurd c_3901 (by decide))
            refine lv_iload_n hx hb dX9_unit_126 rfl (lv_at hl 3 rfl) ?_
            refine lv_if_ne (tgt := 134) hx hb dX9_unit_127 (by decide) (fun c_3902 => ?_) (fun c_3902 => absurd c_3902 (by decide))
            refine lv_aload_n hx hb dX9_unit_134 rfl (lv_at hl 5 rfl) ?_
            refine gM_X9_299_0 hx hb hG hown hK hP dX9_unit_135 ?_
            refine lv_bipush (v := 7) hx hb dX9_unit_138 (by decide) ?_
            refine lv_icmp_ne (tgt := 147) hx hb dX9_unit_140 (by decide) (fun c_3903 => ?_) (fun c_3903 => ?_)
            · skip
              have f3904 : i_within.toInt ≠ 7 := qi_ne c_3903 rfl zc_7
              have f3905 : i_within.toInt ≤ (6 : Int) := (ob_250 hp4 f3904)
              refine lv_aload_n hx hb dX9_unit_147 rfl (lv_at hl 5 rfl) ?_
              refine va_calli (va_runV (As := []) (rest := []) ⟨hx, hb, hml, hown, hG⟩ (kX9_isGood l dC dI r ct i_taped i_size i_faultKind i_at i_end i_token i_number i_bank i_rb i_codes i_within i_piled i_unitsInRule i_askHouse i_askTune i_acts i_undone i_laid i_knowns i_time f_text f_tunes f_houses f_hums f_told f_many f_ruleFrom f_ruleTo f_code f_eWhat f_eSign f_all f_kept f_was f_sTune f_boxAll J L H3629.size hI) (cwV 0 hG (goodV gw1401 gw1403 gw61 gw138 gw1404) rfl rfl rfl hd_X9_isGood ⟨(Nat.le_of_ble_eq_true rfl), (Nat.le_of_ble_eq_true rfl)⟩) ⟨fbR, va_recv hK hP (ci := 8) (q0 := 0) rfl rfl, pR_in hP hK⟩ rfl rfl hl.1 rfl (lv_room (Nat.le_of_ble_eq_true rfl)) dX9_unit_148 ⟨(Nat.le_of_ble_eq_true rfl), (Nat.le_of_ble_eq_true rfl)⟩) hS (fun q hq h => absurd hq (Nat.not_lt.mpr h)) (fun q h => hA q (Nat.le_trans hS.1 h)) (fun r_3907 u_ t_ H3906 locs ht hvm hw hB hz1 hk1 hS => ?_)
              subst hw
              have hP := wk hP hk1
              obtain ⟨f3908, f3909, f3910⟩ := hB
              refine lv_if_ne (tgt := 156) hx hb dX9_unit_151 (by decide) (fun c_3911 => ?_) (fun c_3911 => ((ob_167 (qi_eq c_3911 rfl zc_0) hp10 f3908)).elim)
              have f3912 : r_3907.toInt ≠ 0 := qi_ne c_3911 rfl zc_0
              have f3913 : i_faultKind.toInt = (0 : Int) := (ob_168 im17 hp10)
              have f3914 : r_3907.toInt = (1 : Int) := (ob_169 f3908 f3912)
              have f3915 : (1 : Int) ≤ r_3907.toInt := (ob_170 f3909 f3910 f3914)
              refine lv_aload_n hx hb dX9_unit_156 rfl (lv_at hl 5 rfl) ?_
              refine gM_X9_30_0 hx hb hG hown hK hP dX9_unit_157 ?_
              refine lv_aload_n hx hb dX9_unit_160 rfl (lv_at hl 5 rfl) ?_
              refine gM_X9_240_0 hx hb hG hown hK hP dX9_unit_161 ?_
              refine lv_dup2_11 hx hb dX9_unit_164 rfl rfl ?_
              refine ldM_6 (mm := i_rb.toInt) hx hb hK hP rfl (ob_212 im6) (ob_213 im7) dX9_unit_165 (fun x3916 => ?_)
              refine lv_iload_n hx hb dX9_unit_166 rfl (lv_at hl 3 rfl) ?_
              refine lv_if_eq (tgt := 174) hx hb dX9_unit_167 (by decide) (fun c_3917 => absurd c_3917 (by decide)) (fun c_3917 => ?_)
              refine lv_iconst (v := 0) hx hb dX9_unit_170 (by decide) ?_
              refine lv_goto (tgt := 175) hx hb dX9_unit_171 (by decide) ?_
              refine lv_iadd hx hb dX9_unit_175 ?_
              refine lv_topi (fun x3918 ex3918 => ?_)
              refine stM_6 (mm := i_rb.toInt) hx hb hK hP hD hS rfl (ob_212 im6) (ob_213 im7) dX9_unit_176 (fun J3920 H3919 locs hP hD hS => ?_)
              refine lv_aload_n hx hb dX9_unit_177 rfl (lv_at hl 5 rfl) ?_
              refine lv_dup hx hb dX9_unit_178 rfl ?_
              refine gM_X9_290_0 hx hb hG hown hK hP dX9_unit_179 ?_
              refine lv_iload_n hx hb dX9_unit_182 rfl (lv_at hl 3 rfl) ?_
              refine lv_if_eq (tgt := 190) hx hb dX9_unit_183 (by decide) (fun c_3921 => absurd c_3921 (by decide)) (fun c_3921 => ?_)
              refine lv_iconst (v := 0) hx hb dX9_unit_186 (by decide) ?_
              refine lv_goto (tgt := 191) hx hb dX9_unit_187 (by decide) ?_
              refine lv_iadd hx hb dX9_unit_191 ?_
              refine lv_topi (fun x3922 ex3922 => ?_)
              have f3923 : x3922.toInt = i_unitsInRule.toInt := (ob_259 (qi_add ex3922 rfl zc_0 (ob_257 hp1) (ob_258 hp2)))
              refine pM_X9_290_0 hx hb hG hown hK hP hD hS dX9_unit_192 (fun H3924 locs hP hD hS => ?_)
              refine lv_iload hx hb dX9_unit_195 (lv_at hl 1 rfl) ?_
              refine lv_if_ne (tgt := 207) hx hb dX9_unit_197 (by decide) (fun c_3925 => ?_) (fun c_3925 => ?_)
              · skip
                have f3926 : r_3630.toInt ≠ 0 := qi_ne c_3925 rfl zc_0
                refine lv_iconst (v := 0) hx hb dX9_unit_207 (by decide) ?_
                refine lv_istore (lv' := [(6, .int 0), (5, .int 0), (4, .int r_3630), (3, .int r_3625), (2, .int 1), (1, .int 1), (0, .ref (r 0))]) hx hb dX9_unit_208 hl (by decide) rfl (fun ls hl => ?_)
                refine lv_aload_n hx hb dX9_unit_210 rfl (lv_at hl 6 rfl) ?_
                have hFc := frA hD hS hA
                refine va_callv (va_runV (As := []) (rest := []) ⟨hx, hb, hml, hown, hG⟩ (kX9_goOn l dC dI r ct i_taped i_size i_faultKind i_at i_end i_token i_number i_bank i_rb i_codes i_within i_piled x3922 i_askHouse i_askTune i_acts i_undone i_laid i_knowns i_time f_text f_tunes f_houses f_hums f_told f_many f_ruleFrom f_ruleTo f_code f_eWhat f_eSign f_all f_kept f_was f_sTune f_boxAll J3920 L H3924.size hI) (cwV 0 hG (goodV gw1362 gw1364 gw59 gw138 gw1365) rfl rfl rfl hd_X9_goOn ⟨(Nat.le_of_ble_eq_true rfl), (Nat.le_of_ble_eq_true rfl)⟩) ⟨fbW, va_recv hK hP (ci := 8) (q0 := 0) rfl rfl, pW_in hP hK hD⟩ rfl rfl hl.1 rfl (lv_room (Nat.le_of_ble_eq_true rfl)) dX9_unit_211 ⟨(Nat.le_of_ble_eq_true rfl), (Nat.le_of_ble_eq_true rfl)⟩) hS (fun q _ h => hFc q h) hFc (fun _ t_ H3927 locs ht hvm hw hB hz1 hk1 hS => ?_)
                obtain ⟨x3929, x3930, x3931, x3932, L3933, hP1, hD1, hI3937, f3934, f3935, f3936⟩ := hB
                rw [ht] at hP1
                have hP := hP1
                have hD := dW hFc hD1
                obtain ⟨im3938, im3939, im3940, im3941, im3942, im3943, im3944, im3945, im3946, im3947, im3948, im3949, im3950, im3951, im3952, im3953, im3954, im3955, im3956, im3957, im3958, im3959, im3960, im3961, im3962, im3963, im3964, im3965, im3966, im3967, im3968, im3969, im3970⟩ := id hI3937
                refine lv_iload_n hx hb dX9_unit_214 rfl (lv_at hl 4 rfl) ?_
                refine lv_if_ne (tgt := 222) hx hb dX9_unit_215 (by decide) (fun c_3971 => ?_) (fun c_3971 => absurd c_3971 (by decide))
                refine lv_aload_n hx hb dX9_unit_222 rfl (lv_at hl 6 rfl) ?_
                refine lv_iload_n hx hb dX9_unit_223 rfl (lv_at hl 4 rfl) ?_
                refine lv_if_eq (tgt := 231) hx hb dX9_unit_224 (by decide) (fun c_3972 => absurd c_3972 (by decide)) (fun c_3972 => ?_)
                refine lv_iconst (v := 3) hx hb dX9_unit_227 (by decide) ?_
                refine lv_goto (tgt := 233) hx hb dX9_unit_228 (by decide) ?_
                refine lv_bipush (v := 126) hx hb dX9_unit_233 (by decide) ?_
                have hFc := frA hD hS hA
                refine va_callv (va_runV (As := [.int 3, .int 126]) (rest := []) ⟨hx, hb, hml, hown, hG⟩ (kX9_pushE l dC dI r ct i_taped i_size i_faultKind x3929 x3930 x3931 x3932 i_bank i_rb i_codes i_within i_piled x3922 i_askHouse i_askTune i_acts i_undone i_laid i_knowns i_time f_text f_tunes f_houses f_hums f_told f_many f_ruleFrom f_ruleTo f_code f_eWhat f_eSign f_all f_kept f_was f_sTune f_boxAll J3920 L3933 3 126 H3927.size hI3937 (ob_215 hp5 hp7 hp8) (ob_251 hp2 hp4 hp7)) (cwV 2 hG (goodV gw1468 gw1470 gw77 gw138 gw1471) rfl rfl rfl hd_X9_pushE ⟨(Nat.le_of_ble_eq_true rfl), (Nat.le_of_ble_eq_true rfl)⟩) ⟨fbW, va_recv hK hP (ci := 8) (q0 := 0) rfl rfl, pW_in hP hK hD⟩ rfl rfl hl.1 rfl (lv_room (Nat.le_of_ble_eq_true rfl)) dX9_unit_235 ⟨(Nat.le_of_ble_eq_true rfl), (Nat.le_of_ble_eq_true rfl)⟩) hS (fun q _ h => hFc q h) hFc (fun _ t_ H3973 locs ht hvm hw hB hz1 hk1 hS => ?_)
                obtain ⟨x3975, z3976, z3977, hP1, hD1, hI3981, f3978, f3979, f3980⟩ := hB
                rw [ht] at hP1
                have hP := hP1
                have hD := dW hFc hD1
                obtain ⟨im3982, im3983, im3984, im3985, im3986, im3987, im3988, im3989, im3990, im3991, im3992, im3993, im3994, im3995, im3996, im3997, im3998, im3999, im4000, im4001, im4002, im4003, im4004, im4005, im4006, im4007, im4008, im4009, im4010, im4011, im4012, im4013, im4014⟩ := id hI3981
                have f4015 : (z3976 ((0 : Int)).toNat).toInt = (f_eWhat ((0 : Int)).toNat).toInt := (by rw [f3979, upd_off (ne0 (ob_252 hp5))])
                refine lv_aload_n hx hb dX9_unit_238 rfl (lv_at hl 6 rfl) ?_
                refine lv_dup hx hb dX9_unit_239 rfl ?_
                refine gM_X9_299_0 hx hb hG hown hK hP dX9_unit_240 ?_
                refine lv_iconst (v := 1) hx hb dX9_unit_243 (by decide) ?_
                refine lv_iadd hx hb dX9_unit_244 ?_
                refine lv_topi (fun x4016 ex4016 => ?_)
                have f4017 : x4016.toInt = i_within.toInt + 1 := (ob_84 (qi_add ex4016 rfl zc_1 (ob_82 hp3) (ob_253 hp4)))
                refine pM_X9_299_0 hx hb hG hown hK hP hD hS dX9_unit_245 (fun H4018 locs hP hD hS => ?_)
                refine lv_iconst (v := 1) hx hb dX9_unit_248 (by decide) ?_
                rw [hQ]
                exact W.zret (v := 1) hx hb hr (by decide) (fun t ht hW => ⟨⟨1, 1, rfl, rfl, ⟨i_faultKind, x3929, x3930, x3931, x3932, i_codes, x4016, x3975, x3922, f_code, z3976, z3977, J3920, L3933, by rw [ht]; exact hP, hD, hI3981, (ob_14 zc_1), (ob_15 zc_1), (fun _ => SPpush hp11 f3979 f3980 (ob_252 hp5) (ob_84 f3978) (Or.inl (ob_260 zc_1 f4017 zc_126 zc_3))), (ob_141 hp5 f3978), (ob_255 hp2 hp4 hp7 f3978), (ob_87 f3934), (ob_265 im17 hp2 hp3 hp4 hp5 hp6 hp7 hp8 hp9 f3631 f3904 f3926 f3936 f3978 f4015 zc_1 f4017 f3923)⟩⟩, hS.F ht⟩) hS.2.2 dX9_unit_249
              · skip
                have f4019 : r_3630.toInt = 0 := qi_eq c_3925 rfl zc_0
                have f4020 : r_3630.toInt = (0 : Int) := (ob_218 f4019)
                refine lv_aload_n hx hb dX9_unit_200 rfl (lv_at hl 5 rfl) ?_
                refine gM_X9_209_0 hx hb hG hown hK hP dX9_unit_201 ?_
                refine lv_goto (tgt := 208) hx hb dX9_unit_204 (by decide) ?_
                refine lv_istore (lv' := [(6, .int i_number), (5, .int 0), (4, .int r_3630), (3, .int r_3625), (2, .int 1), (1, .int 1), (0, .ref (r 0))]) hx hb dX9_unit_208 hl (by decide) rfl (fun ls hl => ?_)
                refine lv_aload_n hx hb dX9_unit_210 rfl (lv_at hl 6 rfl) ?_
                have hFc := frA hD hS hA
                refine va_callv (va_runV (As := []) (rest := []) ⟨hx, hb, hml, hown, hG⟩ (kX9_goOn l dC dI r ct i_taped i_size i_faultKind i_at i_end i_token i_number i_bank i_rb i_codes i_within i_piled x3922 i_askHouse i_askTune i_acts i_undone i_laid i_knowns i_time f_text f_tunes f_houses f_hums f_told f_many f_ruleFrom f_ruleTo f_code f_eWhat f_eSign f_all f_kept f_was f_sTune f_boxAll J3920 L H3924.size hI) (cwV 0 hG (goodV gw1362 gw1364 gw59 gw138 gw1365) rfl rfl rfl hd_X9_goOn ⟨(Nat.le_of_ble_eq_true rfl), (Nat.le_of_ble_eq_true rfl)⟩) ⟨fbW, va_recv hK hP (ci := 8) (q0 := 0) rfl rfl, pW_in hP hK hD⟩ rfl rfl hl.1 rfl (lv_room (Nat.le_of_ble_eq_true rfl)) dX9_unit_211 ⟨(Nat.le_of_ble_eq_true rfl), (Nat.le_of_ble_eq_true rfl)⟩) hS (fun q _ h => hFc q h) hFc (fun _ t_ H4021 locs ht hvm hw hB hz1 hk1 hS => ?_)
                obtain ⟨x4023, x4024, x4025, x4026, L4027, hP1, hD1, hI4031, f4028, f4029, f4030⟩ := hB
                rw [ht] at hP1
                have hP := hP1
                have hD := dW hFc hD1
                obtain ⟨im4032, im4033, im4034, im4035, im4036, im4037, im4038, im4039, im4040, im4041, im4042, im4043, im4044, im4045, im4046, im4047, im4048, im4049, im4050, im4051, im4052, im4053, im4054, im4055, im4056, im4057, im4058, im4059, im4060, im4061, im4062, im4063, im4064⟩ := id hI4031
                refine lv_iload_n hx hb dX9_unit_214 rfl (lv_at hl 4 rfl) ?_
                refine lv_if_ne (tgt := 222) hx hb dX9_unit_215 (by decide) (fun c_4065 => ?_) (fun c_4065 => absurd c_4065 (by decide))
                refine lv_aload_n hx hb dX9_unit_222 rfl (lv_at hl 6 rfl) ?_
                refine lv_iload_n hx hb dX9_unit_223 rfl (lv_at hl 4 rfl) ?_
                refine lv_if_eq (tgt := 231) hx hb dX9_unit_224 (by decide) (fun c_4066 => absurd c_4066 (by decide)) (fun c_4066 => ?_)
                refine lv_iconst (v := 3) hx hb dX9_unit_227 (by decide) ?_
                refine lv_goto (tgt := 233) hx hb dX9_unit_228 (by decide) ?_
                refine lv_bipush (v := 126) hx hb dX9_unit_233 (by decide) ?_
                have hFc := frA hD hS hA
                refine va_callv (va_runV (As := [.int 3, .int 126]) (rest := []) ⟨hx, hb, hml, hown, hG⟩ (kX9_pushE l dC dI r ct i_taped i_size i_faultKind x4023 x4024 x4025 x4026 i_bank i_rb i_codes i_within i_piled x3922 i_askHouse i_askTune i_acts i_undone i_laid i_knowns i_time f_text f_tunes f_houses f_hums f_told f_many f_ruleFrom f_ruleTo f_code f_eWhat f_eSign f_all f_kept f_was f_sTune f_boxAll J3920 L4027 3 126 H4021.size hI4031 (ob_215 hp5 hp7 hp8) (ob_251 hp2 hp4 hp7)) (cwV 2 hG (goodV gw1468 gw1470 gw77 gw138 gw1471) rfl rfl rfl hd_X9_pushE ⟨(Nat.le_of_ble_eq_true rfl), (Nat.le_of_ble_eq_true rfl)⟩) ⟨fbW, va_recv hK hP (ci := 8) (q0 := 0) rfl rfl, pW_in hP hK hD⟩ rfl rfl hl.1 rfl (lv_room (Nat.le_of_ble_eq_true rfl)) dX9_unit_235 ⟨(Nat.le_of_ble_eq_true rfl), (Nat.le_of_ble_eq_true rfl)⟩) hS (fun q _ h => hFc q h) hFc (fun _ t_ H4067 locs ht hvm hw hB hz1 hk1 hS => ?_)
                obtain ⟨x4069, z4070, z4071, hP1, hD1, hI4075, f4072, f4073, f4074⟩ := hB
                rw [ht] at hP1
                have hP := hP1
                have hD := dW hFc hD1
                obtain ⟨im4076, im4077, im4078, im4079, im4080, im4081, im4082, im4083, im4084, im4085, im4086, im4087, im4088, im4089, im4090, im4091, im4092, im4093, im4094, im4095, im4096, im4097, im4098, im4099, im4100, im4101, im4102, im4103, im4104, im4105, im4106, im4107, im4108⟩ := id hI4075
                have f4109 : (z4070 ((0 : Int)).toNat).toInt = (f_eWhat ((0 : Int)).toNat).toInt := (by rw [f4073, upd_off (ne0 (ob_252 hp5))])
                refine lv_aload_n hx hb dX9_unit_238 rfl (lv_at hl 6 rfl) ?_
                refine lv_dup hx hb dX9_unit_239 rfl ?_
                refine gM_X9_299_0 hx hb hG hown hK hP dX9_unit_240 ?_
                refine lv_iconst (v := 1) hx hb dX9_unit_243 (by decide) ?_
                refine lv_iadd hx hb dX9_unit_244 ?_
                refine lv_topi (fun x4110 ex4110 => ?_)
                have f4111 : x4110.toInt = i_within.toInt + 1 := (ob_84 (qi_add ex4110 rfl zc_1 (ob_82 hp3) (ob_253 hp4)))
                refine pM_X9_299_0 hx hb hG hown hK hP hD hS dX9_unit_245 (fun H4112 locs hP hD hS => ?_)
                refine lv_iconst (v := 1) hx hb dX9_unit_248 (by decide) ?_
                rw [hQ]
                exact W.zret (v := 1) hx hb hr (by decide) (fun t ht hW => ⟨⟨1, 1, rfl, rfl, ⟨i_faultKind, x4023, x4024, x4025, x4026, i_codes, x4110, x4069, x3922, f_code, z4070, z4071, J3920, L4027, by rw [ht]; exact hP, hD, hI4075, (ob_14 zc_1), (ob_15 zc_1), (fun _ => SPpush hp11 f4073 f4074 (ob_252 hp5) (ob_84 f4072) (Or.inl (ob_260 zc_1 f4111 zc_126 zc_3))), (ob_141 hp5 f4072), (ob_255 hp2 hp4 hp7 f4072), (ob_87 f4028), (ob_266 im17 hp2 hp3 hp4 hp5 hp6 hp7 hp8 hp9 f2685 f3620 f3904 f4019 f4030 f4072 f4109 zc_1 f4111 f3923)⟩⟩, hS.F ht⟩) hS.2.2 dX9_unit_249
            · skip
              have f4113 : i_within.toInt = 7 := qi_eq c_3903 rfl zc_7
              refine lv_aload_n hx hb dX9_unit_143 rfl (lv_at hl 5 rfl) ?_
              have hFc := frA hD hS hA
              refine va_callv (va_runV (As := []) (rest := []) ⟨hx, hb, hml, hown, hG⟩ (kX9_misplaced l dC dI r ct i_taped i_size i_faultKind i_at i_end i_token i_number i_bank i_rb i_codes i_within i_piled i_unitsInRule i_askHouse i_askTune i_acts i_undone i_laid i_knowns i_time f_text f_tunes f_houses f_hums f_told f_many f_ruleFrom f_ruleTo f_code f_eWhat f_eSign f_all f_kept f_was f_sTune f_boxAll J L H3629.size hI) (cwV 0 hG (goodV gw1420 gw1422 gw65 gw138 gw1423) rfl rfl rfl hd_X9_misplaced ⟨(Nat.le_of_ble_eq_true rfl), (Nat.le_of_ble_eq_true rfl)⟩) ⟨fbW, va_recv hK hP (ci := 8) (q0 := 0) rfl rfl, pW_in hP hK hD⟩ rfl rfl hl.1 rfl (lv_room (Nat.le_of_ble_eq_true rfl)) dX9_unit_144 ⟨(Nat.le_of_ble_eq_true rfl), (Nat.le_of_ble_eq_true rfl)⟩) hS (fun q _ h => hFc q h) hFc (fun _ t_ H4114 locs ht hvm hw hB hz1 hk1 hS => ?_)
              obtain ⟨x4116, J4117, hP1, hD1, hI4119, f4118⟩ := hB
              rw [ht] at hP1
              have hP := hP1
              have hD := dW hFc hD1
              obtain ⟨im4120, im4121, im4122, im4123, im4124, im4125, im4126, im4127, im4128, im4129, im4130, im4131, im4132, im4133, im4134, im4135, im4136, im4137, im4138, im4139, im4140, im4141, im4142, im4143, im4144, im4145, im4146, im4147, im4148, im4149, im4150, im4151, im4152⟩ := id hI4119
              refine lv_aload_n hx hb dX9_unit_147 rfl (lv_at hl 5 rfl) ?_
              refine va_calli (va_runV (As := []) (rest := []) ⟨hx, hb, hml, hown, hG⟩ (kX9_isGood l dC dI r ct i_taped i_size x4116 i_at i_end i_token i_number i_bank i_rb i_codes i_within i_piled i_unitsInRule i_askHouse i_askTune i_acts i_undone i_laid i_knowns i_time f_text f_tunes f_houses f_hums f_told f_many f_ruleFrom f_ruleTo f_code f_eWhat f_eSign f_all f_kept f_was f_sTune f_boxAll J4117 L H4114.size hI4119) (cwV 0 hG (goodV gw1401 gw1403 gw61 gw138 gw1404) rfl rfl rfl hd_X9_isGood ⟨(Nat.le_of_ble_eq_true rfl), (Nat.le_of_ble_eq_true rfl)⟩) ⟨fbR, va_recv hK hP (ci := 8) (q0 := 0) rfl rfl, pR_in hP hK⟩ rfl rfl hl.1 rfl (lv_room (Nat.le_of_ble_eq_true rfl)) dX9_unit_148 ⟨(Nat.le_of_ble_eq_true rfl), (Nat.le_of_ble_eq_true rfl)⟩) hS (fun q hq h => absurd hq (Nat.not_lt.mpr h)) (fun q h => hA q (Nat.le_trans hS.1 h)) (fun r_4154 u_ t_ H4153 locs ht hvm hw hB hz1 hk1 hS => ?_)
              subst hw
              have hP := wk hP hk1
              obtain ⟨f4155, f4156, f4157⟩ := hB
              refine lv_if_ne (tgt := 156) hx hb dX9_unit_151 (by decide) (fun c_4158 => ((ob_172 (qi_ne c_4158 rfl zc_0) f4118 f4155)).elim) (fun c_4158 => ?_)
              have f4159 : r_4154.toInt = 0 := qi_eq c_4158 rfl zc_0
              have f4160 : x4116.toInt ≠ (0 : Int) := (ob_173 im4137 f4118)
              have f4161 : (1 : Int) ≤ x4116.toInt := (ob_156 im4137 f4118)
              have f4162 : r_4154.toInt = (0 : Int) := (ob_165 f4156 f4157 f4159)
              refine lv_iconst (v := 1) hx hb dX9_unit_154 (by decide) ?_
              rw [hQ]
              exact W.zret (v := 1) hx hb hr (by decide) (fun t ht hW => ⟨⟨1, 1, rfl, rfl, ⟨x4116, i_at, i_end, i_token, i_number, i_codes, i_within, i_piled, i_unitsInRule, f_code, f_eWhat, f_eSign, J4117, L, by rw [ht]; exact hP, hD, hI4119, (ob_14 zc_1), (ob_15 zc_1), (fun h => ((ob_214 h im4137 f4118)).elim), (ob_215 hp5 hp7 hp8), (ob_216 hp2 hp4 hp7), (ob_88), (ob_217 f4118 zc_1)⟩⟩, hS.F ht⟩) hS.2.2 dX9_unit_155
          · skip
            have f4163 : i_unitsInRule.toInt = 30 := qi_eq c_3898 rfl zc_30
            refine lv_iconst (v := 1) hx hb dX9_unit_93 (by decide) ?_
            refine lv_goto (tgt := 98) hx hb dX9_unit_94 (by decide) ?_
            refine lv_istore (lv' := [(5, .int 1), (4, .int r_3630), (3, .int r_3625), (2, .int 1), (1, .int 1), (0, .ref (r 0))]) hx hb dX9_unit_98 hl (by decide) rfl (fun ls hl => ?_)
            refine lv_iload_n hx hb dX9_unit_100 rfl (lv_at hl 3 rfl) ?_
            refine lv_if_ne (tgt := 126) hx hb dX9_unit_101 (by decide) (fun c_4164 => ?_) (fun c_4164 => absurd c_4164 (by decide))
            refine lv_iload_n hx hb dX9_unit_126 rfl (lv_at hl 3 rfl) ?_
            refine lv_if_ne (tgt := 134) hx hb dX9_unit_127 (by decide) (fun c_4165 => ?_) (fun c_4165 => absurd c_4165 (by decide))
            refine lv_aload_n hx hb dX9_unit_134 rfl (lv_at hl 5 rfl) ?_
            refine gM_X9_299_0 hx hb hG hown hK hP dX9_unit_135 ?_
            refine lv_bipush (v := 7) hx hb dX9_unit_138 (by decide) ?_
            refine lv_icmp_ne (tgt := 147) hx hb dX9_unit_140 (by decide) (fun c_4166 => ?_) (fun c_4166 => ?_)
            · skip
              have f4167 : i_within.toInt ≠ 7 := qi_ne c_4166 rfl zc_7
              have f4168 : i_within.toInt ≤ (6 : Int) := (ob_250 hp4 f4167)
              refine lv_aload_n hx hb dX9_unit_147 rfl (lv_at hl 5 rfl) ?_
              refine va_calli (va_runV (As := []) (rest := []) ⟨hx, hb, hml, hown, hG⟩ (kX9_isGood l dC dI r ct i_taped i_size i_faultKind i_at i_end i_token i_number i_bank i_rb i_codes i_within i_piled i_unitsInRule i_askHouse i_askTune i_acts i_undone i_laid i_knowns i_time f_text f_tunes f_houses f_hums f_told f_many f_ruleFrom f_ruleTo f_code f_eWhat f_eSign f_all f_kept f_was f_sTune f_boxAll J L H3629.size hI) (cwV 0 hG (goodV gw1401 gw1403 gw61 gw138 gw1404) rfl rfl rfl hd_X9_isGood ⟨(Nat.le_of_ble_eq_true rfl), (Nat.le_of_ble_eq_true rfl)⟩) ⟨fbR, va_recv hK hP (ci := 8) (q0 := 0) rfl rfl, pR_in hP hK⟩ rfl rfl hl.1 rfl (lv_room (Nat.le_of_ble_eq_true rfl)) dX9_unit_148 ⟨(Nat.le_of_ble_eq_true rfl), (Nat.le_of_ble_eq_true rfl)⟩) hS (fun q hq h => absurd hq (Nat.not_lt.mpr h)) (fun q h => hA q (Nat.le_trans hS.1 h)) (fun r_4170 u_ t_ H4169 locs ht hvm hw hB hz1 hk1 hS => ?_)
              subst hw
              have hP := wk hP hk1
              obtain ⟨f4171, f4172, f4173⟩ := hB
              refine lv_if_ne (tgt := 156) hx hb dX9_unit_151 (by decide) (fun c_4174 => ?_) (fun c_4174 => ((ob_167 (qi_eq c_4174 rfl zc_0) hp10 f4171)).elim)
              have f4175 : r_4170.toInt ≠ 0 := qi_ne c_4174 rfl zc_0
              have f4176 : i_faultKind.toInt = (0 : Int) := (ob_168 im17 hp10)
              have f4177 : r_4170.toInt = (1 : Int) := (ob_169 f4171 f4175)
              have f4178 : (1 : Int) ≤ r_4170.toInt := (ob_170 f4172 f4173 f4177)
              refine lv_aload_n hx hb dX9_unit_156 rfl (lv_at hl 5 rfl) ?_
              refine gM_X9_30_0 hx hb hG hown hK hP dX9_unit_157 ?_
              refine lv_aload_n hx hb dX9_unit_160 rfl (lv_at hl 5 rfl) ?_
              refine gM_X9_240_0 hx hb hG hown hK hP dX9_unit_161 ?_
              refine lv_dup2_11 hx hb dX9_unit_164 rfl rfl ?_
              refine ldM_6 (mm := i_rb.toInt) hx hb hK hP rfl (ob_212 im6) (ob_213 im7) dX9_unit_165 (fun x4179 => ?_)
              refine lv_iload_n hx hb dX9_unit_166 rfl (lv_at hl 3 rfl) ?_
              refine lv_if_eq (tgt := 174) hx hb dX9_unit_167 (by decide) (fun c_4180 => absurd c_4180 (by decide)) (fun c_4180 => ?_)
              refine lv_iconst (v := 0) hx hb dX9_unit_170 (by decide) ?_
              refine lv_goto (tgt := 175) hx hb dX9_unit_171 (by decide) ?_
              refine lv_iadd hx hb dX9_unit_175 ?_
              refine lv_topi (fun x4181 ex4181 => ?_)
              refine stM_6 (mm := i_rb.toInt) hx hb hK hP hD hS rfl (ob_212 im6) (ob_213 im7) dX9_unit_176 (fun J4183 H4182 locs hP hD hS => ?_)
              refine lv_aload_n hx hb dX9_unit_177 rfl (lv_at hl 5 rfl) ?_
              refine lv_dup hx hb dX9_unit_178 rfl ?_
              refine gM_X9_290_0 hx hb hG hown hK hP dX9_unit_179 ?_
              refine lv_iload_n hx hb dX9_unit_182 rfl (lv_at hl 3 rfl) ?_
              refine lv_if_eq (tgt := 190) hx hb dX9_unit_183 (by decide) (fun c_4184 => absurd c_4184 (by decide)) (fun c_4184 => ?_)
              refine lv_iconst (v := 0) hx hb dX9_unit_186 (by decide) ?_
              refine lv_goto (tgt := 191) hx hb dX9_unit_187 (by decide) ?_
              refine lv_iadd hx hb dX9_unit_191 ?_
              refine lv_topi (fun x4185 ex4185 => ?_)
              have f4186 : x4185.toInt = i_unitsInRule.toInt := (ob_259 (qi_add ex4185 rfl zc_0 (ob_257 hp1) (ob_258 hp2)))
              refine pM_X9_290_0 hx hb hG hown hK hP hD hS dX9_unit_192 (fun H4187 locs hP hD hS => ?_)
              refine lv_iload hx hb dX9_unit_195 (lv_at hl 1 rfl) ?_
              refine lv_if_ne (tgt := 207) hx hb dX9_unit_197 (by decide) (fun c_4188 => ?_) (fun c_4188 => ?_)
              · skip
                have f4189 : r_3630.toInt ≠ 0 := qi_ne c_4188 rfl zc_0
                refine lv_iconst (v := 0) hx hb dX9_unit_207 (by decide) ?_
                refine lv_istore (lv' := [(6, .int 0), (5, .int 1), (4, .int r_3630), (3, .int r_3625), (2, .int 1), (1, .int 1), (0, .ref (r 0))]) hx hb dX9_unit_208 hl (by decide) rfl (fun ls hl => ?_)
                refine lv_aload_n hx hb dX9_unit_210 rfl (lv_at hl 6 rfl) ?_
                have hFc := frA hD hS hA
                refine va_callv (va_runV (As := []) (rest := []) ⟨hx, hb, hml, hown, hG⟩ (kX9_goOn l dC dI r ct i_taped i_size i_faultKind i_at i_end i_token i_number i_bank i_rb i_codes i_within i_piled x4185 i_askHouse i_askTune i_acts i_undone i_laid i_knowns i_time f_text f_tunes f_houses f_hums f_told f_many f_ruleFrom f_ruleTo f_code f_eWhat f_eSign f_all f_kept f_was f_sTune f_boxAll J4183 L H4187.size hI) (cwV 0 hG (goodV gw1362 gw1364 gw59 gw138 gw1365) rfl rfl rfl hd_X9_goOn ⟨(Nat.le_of_ble_eq_true rfl), (Nat.le_of_ble_eq_true rfl)⟩) ⟨fbW, va_recv hK hP (ci := 8) (q0 := 0) rfl rfl, pW_in hP hK hD⟩ rfl rfl hl.1 rfl (lv_room (Nat.le_of_ble_eq_true rfl)) dX9_unit_211 ⟨(Nat.le_of_ble_eq_true rfl), (Nat.le_of_ble_eq_true rfl)⟩) hS (fun q _ h => hFc q h) hFc (fun _ t_ H4190 locs ht hvm hw hB hz1 hk1 hS => ?_)
                obtain ⟨x4192, x4193, x4194, x4195, L4196, hP1, hD1, hI4200, f4197, f4198, f4199⟩ := hB
                rw [ht] at hP1
                have hP := hP1
                have hD := dW hFc hD1
                obtain ⟨im4201, im4202, im4203, im4204, im4205, im4206, im4207, im4208, im4209, im4210, im4211, im4212, im4213, im4214, im4215, im4216, im4217, im4218, im4219, im4220, im4221, im4222, im4223, im4224, im4225, im4226, im4227, im4228, im4229, im4230, im4231, im4232, im4233⟩ := id hI4200
                refine lv_iload_n hx hb dX9_unit_214 rfl (lv_at hl 4 rfl) ?_
                refine lv_if_ne (tgt := 222) hx hb dX9_unit_215 (by decide) (fun c_4234 => ?_) (fun c_4234 => absurd c_4234 (by decide))
                refine lv_aload_n hx hb dX9_unit_222 rfl (lv_at hl 6 rfl) ?_
                refine lv_iload_n hx hb dX9_unit_223 rfl (lv_at hl 4 rfl) ?_
                refine lv_if_eq (tgt := 231) hx hb dX9_unit_224 (by decide) (fun c_4235 => absurd c_4235 (by decide)) (fun c_4235 => ?_)
                refine lv_iconst (v := 3) hx hb dX9_unit_227 (by decide) ?_
                refine lv_goto (tgt := 233) hx hb dX9_unit_228 (by decide) ?_
                refine lv_bipush (v := 126) hx hb dX9_unit_233 (by decide) ?_
                have hFc := frA hD hS hA
                refine va_callv (va_runV (As := [.int 3, .int 126]) (rest := []) ⟨hx, hb, hml, hown, hG⟩ (kX9_pushE l dC dI r ct i_taped i_size i_faultKind x4192 x4193 x4194 x4195 i_bank i_rb i_codes i_within i_piled x4185 i_askHouse i_askTune i_acts i_undone i_laid i_knowns i_time f_text f_tunes f_houses f_hums f_told f_many f_ruleFrom f_ruleTo f_code f_eWhat f_eSign f_all f_kept f_was f_sTune f_boxAll J4183 L4196 3 126 H4190.size hI4200 (ob_215 hp5 hp7 hp8) (ob_251 hp2 hp4 hp7)) (cwV 2 hG (goodV gw1468 gw1470 gw77 gw138 gw1471) rfl rfl rfl hd_X9_pushE ⟨(Nat.le_of_ble_eq_true rfl), (Nat.le_of_ble_eq_true rfl)⟩) ⟨fbW, va_recv hK hP (ci := 8) (q0 := 0) rfl rfl, pW_in hP hK hD⟩ rfl rfl hl.1 rfl (lv_room (Nat.le_of_ble_eq_true rfl)) dX9_unit_235 ⟨(Nat.le_of_ble_eq_true rfl), (Nat.le_of_ble_eq_true rfl)⟩) hS (fun q _ h => hFc q h) hFc (fun _ t_ H4236 locs ht hvm hw hB hz1 hk1 hS => ?_)
                obtain ⟨x4238, z4239, z4240, hP1, hD1, hI4244, f4241, f4242, f4243⟩ := hB
                rw [ht] at hP1
                have hP := hP1
                have hD := dW hFc hD1
                obtain ⟨im4245, im4246, im4247, im4248, im4249, im4250, im4251, im4252, im4253, im4254, im4255, im4256, im4257, im4258, im4259, im4260, im4261, im4262, im4263, im4264, im4265, im4266, im4267, im4268, im4269, im4270, im4271, im4272, im4273, im4274, im4275, im4276, im4277⟩ := id hI4244
                have f4278 : (z4239 ((0 : Int)).toNat).toInt = (f_eWhat ((0 : Int)).toNat).toInt := (by rw [f4242, upd_off (ne0 (ob_252 hp5))])
                refine lv_aload_n hx hb dX9_unit_238 rfl (lv_at hl 6 rfl) ?_
                refine lv_dup hx hb dX9_unit_239 rfl ?_
                refine gM_X9_299_0 hx hb hG hown hK hP dX9_unit_240 ?_
                refine lv_iconst (v := 1) hx hb dX9_unit_243 (by decide) ?_
                refine lv_iadd hx hb dX9_unit_244 ?_
                refine lv_topi (fun x4279 ex4279 => ?_)
                have f4280 : x4279.toInt = i_within.toInt + 1 := (ob_84 (qi_add ex4279 rfl zc_1 (ob_82 hp3) (ob_253 hp4)))
                refine pM_X9_299_0 hx hb hG hown hK hP hD hS dX9_unit_245 (fun H4281 locs hP hD hS => ?_)
                refine lv_iconst (v := 1) hx hb dX9_unit_248 (by decide) ?_
                rw [hQ]
                exact W.zret (v := 1) hx hb hr (by decide) (fun t ht hW => ⟨⟨1, 1, rfl, rfl, ⟨i_faultKind, x4192, x4193, x4194, x4195, i_codes, x4279, x4238, x4185, f_code, z4239, z4240, J4183, L4196, by rw [ht]; exact hP, hD, hI4244, (ob_14 zc_1), (ob_15 zc_1), (fun _ => SPpush hp11 f4242 f4243 (ob_252 hp5) (ob_84 f4241) (Or.inl (ob_260 zc_1 f4280 zc_126 zc_3))), (ob_141 hp5 f4241), (ob_255 hp2 hp4 hp7 f4241), (ob_87 f4197), (ob_265 im17 hp2 hp3 hp4 hp5 hp6 hp7 hp8 hp9 f3631 f4167 f4189 f4199 f4241 f4278 zc_1 f4280 f4186)⟩⟩, hS.F ht⟩) hS.2.2 dX9_unit_249
              · skip
                have f4282 : r_3630.toInt = 0 := qi_eq c_4188 rfl zc_0
                have f4283 : r_3630.toInt = (0 : Int) := (ob_218 f4282)
                refine lv_aload_n hx hb dX9_unit_200 rfl (lv_at hl 5 rfl) ?_
                refine gM_X9_209_0 hx hb hG hown hK hP dX9_unit_201 ?_
                refine lv_goto (tgt := 208) hx hb dX9_unit_204 (by decide) ?_
                refine lv_istore (lv' := [(6, .int i_number), (5, .int 1), (4, .int r_3630), (3, .int r_3625), (2, .int 1), (1, .int 1), (0, .ref (r 0))]) hx hb dX9_unit_208 hl (by decide) rfl (fun ls hl => ?_)
                refine lv_aload_n hx hb dX9_unit_210 rfl (lv_at hl 6 rfl) ?_
                have hFc := frA hD hS hA
                refine va_callv (va_runV (As := []) (rest := []) ⟨hx, hb, hml, hown, hG⟩ (kX9_goOn l dC dI r ct i_taped i_size i_faultKind i_at i_end i_token i_number i_bank i_rb i_codes i_within i_piled x4185 i_askHouse i_askTune i_acts i_undone i_laid i_knowns i_time f_text f_tunes f_houses f_hums f_told f_many f_ruleFrom f_ruleTo f_code f_eWhat f_eSign f_all f_kept f_was f_sTune f_boxAll J4183 L H4187.size hI) (cwV 0 hG (goodV gw1362 gw1364 gw59 gw138 gw1365) rfl rfl rfl hd_X9_goOn ⟨(Nat.le_of_ble_eq_true rfl), (Nat.le_of_ble_eq_true rfl)⟩) ⟨fbW, va_recv hK hP (ci := 8) (q0 := 0) rfl rfl, pW_in hP hK hD⟩ rfl rfl hl.1 rfl (lv_room (Nat.le_of_ble_eq_true rfl)) dX9_unit_211 ⟨(Nat.le_of_ble_eq_true rfl), (Nat.le_of_ble_eq_true rfl)⟩) hS (fun q _ h => hFc q h) hFc (fun _ t_ H4284 locs ht hvm hw hB hz1 hk1 hS => ?_)
                obtain ⟨x4286, x4287, x4288, x4289, L4290, hP1, hD1, hI4294, f4291, f4292, f4293⟩ := hB
                rw [ht] at hP1
                have hP := hP1
                have hD := dW hFc hD1
                obtain ⟨im4295, im4296, im4297, im4298, im4299, im4300, im4301, im4302, im4303, im4304, im4305, im4306, im4307, im4308, im4309, im4310, im4311, im4312, im4313, im4314, im4315, im4316, im4317, im4318, im4319, im4320, im4321, im4322, im4323, im4324, im4325, im4326, im4327⟩ := id hI4294
                refine lv_iload_n hx hb dX9_unit_214 rfl (lv_at hl 4 rfl) ?_
                refine lv_if_ne (tgt := 222) hx hb dX9_unit_215 (by decide) (fun c_4328 => ?_) (fun c_4328 => absurd c_4328 (by decide))
                refine lv_aload_n hx hb dX9_unit_222 rfl (lv_at hl 6 rfl) ?_
                refine lv_iload_n hx hb dX9_unit_223 rfl (lv_at hl 4 rfl) ?_
                refine lv_if_eq (tgt := 231) hx hb dX9_unit_224 (by decide) (fun c_4329 => absurd c_4329 (by decide)) (fun c_4329 => ?_)
                refine lv_iconst (v := 3) hx hb dX9_unit_227 (by decide) ?_
                refine lv_goto (tgt := 233) hx hb dX9_unit_228 (by decide) ?_
                refine lv_bipush (v := 126) hx hb dX9_unit_233 (by decide) ?_
                have hFc := frA hD hS hA
                refine va_callv (va_runV (As := [.int 3, .int 126]) (rest := []) ⟨hx, hb, hml, hown, hG⟩ (kX9_pushE l dC dI r ct i_taped i_size i_faultKind x4286 x4287 x4288 x4289 i_bank i_rb i_codes i_within i_piled x4185 i_askHouse i_askTune i_acts i_undone i_laid i_knowns i_time f_text f_tunes f_houses f_hums f_told f_many f_ruleFrom f_ruleTo f_code f_eWhat f_eSign f_all f_kept f_was f_sTune f_boxAll J4183 L4290 3 126 H4284.size hI4294 (ob_215 hp5 hp7 hp8) (ob_251 hp2 hp4 hp7)) (cwV 2 hG (goodV gw1468 gw1470 gw77 gw138 gw1471) rfl rfl rfl hd_X9_pushE ⟨(Nat.le_of_ble_eq_true rfl), (Nat.le_of_ble_eq_true rfl)⟩) ⟨fbW, va_recv hK hP (ci := 8) (q0 := 0) rfl rfl, pW_in hP hK hD⟩ rfl rfl hl.1 rfl (lv_room (Nat.le_of_ble_eq_true rfl)) dX9_unit_235 ⟨(Nat.le_of_ble_eq_true rfl), (Nat.le_of_ble_eq_true rfl)⟩) hS (fun q _ h => hFc q h) hFc (fun _ t_ H4330 locs ht hvm hw hB hz1 hk1 hS => ?_)
                obtain ⟨x4332, z4333, z4334, hP1, hD1, hI4338, f4335, f4336, f4337⟩ := hB
                rw [ht] at hP1
                have hP := hP1
                have hD := dW hFc hD1
                obtain ⟨im4339, im4340, im4341, im4342, im4343, im4344, im4345, im4346, im4347, im4348, im4349, im4350, im4351, im4352, im4353, im4354, im4355, im4356, im4357, im4358, im4359, im4360, im4361, im4362, im4363, im4364, im4365, im4366, im4367, im4368, im4369, im4370, im4371⟩ := id hI4338
                have f4372 : (z4333 ((0 : Int)).toNat).toInt = (f_eWhat ((0 : Int)).toNat).toInt := (by rw [f4336, upd_off (ne0 (ob_252 hp5))])
                refine lv_aload_n hx hb dX9_unit_238 rfl (lv_at hl 6 rfl) ?_
                refine lv_dup hx hb dX9_unit_239 rfl ?_
                refine gM_X9_299_0 hx hb hG hown hK hP dX9_unit_240 ?_
                refine lv_iconst (v := 1) hx hb dX9_unit_243 (by decide) ?_
                refine lv_iadd hx hb dX9_unit_244 ?_
                refine lv_topi (fun x4373 ex4373 => ?_)
                have f4374 : x4373.toInt = i_within.toInt + 1 := (ob_84 (qi_add ex4373 rfl zc_1 (ob_82 hp3) (ob_253 hp4)))
                refine pM_X9_299_0 hx hb hG hown hK hP hD hS dX9_unit_245 (fun H4375 locs hP hD hS => ?_)
                refine lv_iconst (v := 1) hx hb dX9_unit_248 (by decide) ?_
                rw [hQ]
                exact W.zret (v := 1) hx hb hr (by decide) (fun t ht hW => ⟨⟨1, 1, rfl, rfl, ⟨i_faultKind, x4286, x4287, x4288, x4289, i_codes, x4373, x4332, x4185, f_code, z4333, z4334, J4183, L4290, by rw [ht]; exact hP, hD, hI4338, (ob_14 zc_1), (ob_15 zc_1), (fun _ => SPpush hp11 f4336 f4337 (ob_252 hp5) (ob_84 f4335) (Or.inl (ob_260 zc_1 f4374 zc_126 zc_3))), (ob_141 hp5 f4335), (ob_255 hp2 hp4 hp7 f4335), (ob_87 f4291), (ob_266 im17 hp2 hp3 hp4 hp5 hp6 hp7 hp8 hp9 f2685 f3620 f4167 f4282 f4293 f4335 f4372 zc_1 f4374 f4186)⟩⟩, hS.F ht⟩) hS.2.2 dX9_unit_249
            · skip
              have f4376 : i_within.toInt = 7 := qi_eq c_4166 rfl zc_7
              refine lv_aload_n hx hb dX9_unit_143 rfl (lv_at hl 5 rfl) ?_
              have hFc := frA hD hS hA
              refine va_callv (va_runV (As := []) (rest := []) ⟨hx, hb, hml, hown, hG⟩ (kX9_misplaced l dC dI r ct i_taped i_size i_faultKind i_at i_end i_token i_number i_bank i_rb i_codes i_within i_piled i_unitsInRule i_askHouse i_askTune i_acts i_undone i_laid i_knowns i_time f_text f_tunes f_houses f_hums f_told f_many f_ruleFrom f_ruleTo f_code f_eWhat f_eSign f_all f_kept f_was f_sTune f_boxAll J L H3629.size hI) (cwV 0 hG (goodV gw1420 gw1422 gw65 gw138 gw1423) rfl rfl rfl hd_X9_misplaced ⟨(Nat.le_of_ble_eq_true rfl), (Nat.le_of_ble_eq_true rfl)⟩) ⟨fbW, va_recv hK hP (ci := 8) (q0 := 0) rfl rfl, pW_in hP hK hD⟩ rfl rfl hl.1 rfl (lv_room (Nat.le_of_ble_eq_true rfl)) dX9_unit_144 ⟨(Nat.le_of_ble_eq_true rfl), (Nat.le_of_ble_eq_true rfl)⟩) hS (fun q _ h => hFc q h) hFc (fun _ t_ H4377 locs ht hvm hw hB hz1 hk1 hS => ?_)
              obtain ⟨x4379, J4380, hP1, hD1, hI4382, f4381⟩ := hB
              rw [ht] at hP1
              have hP := hP1
              have hD := dW hFc hD1
              obtain ⟨im4383, im4384, im4385, im4386, im4387, im4388, im4389, im4390, im4391, im4392, im4393, im4394, im4395, im4396, im4397, im4398, im4399, im4400, im4401, im4402, im4403, im4404, im4405, im4406, im4407, im4408, im4409, im4410, im4411, im4412, im4413, im4414, im4415⟩ := id hI4382
              refine lv_aload_n hx hb dX9_unit_147 rfl (lv_at hl 5 rfl) ?_
              refine va_calli (va_runV (As := []) (rest := []) ⟨hx, hb, hml, hown, hG⟩ (kX9_isGood l dC dI r ct i_taped i_size x4379 i_at i_end i_token i_number i_bank i_rb i_codes i_within i_piled i_unitsInRule i_askHouse i_askTune i_acts i_undone i_laid i_knowns i_time f_text f_tunes f_houses f_hums f_told f_many f_ruleFrom f_ruleTo f_code f_eWhat f_eSign f_all f_kept f_was f_sTune f_boxAll J4380 L H4377.size hI4382) (cwV 0 hG (goodV gw1401 gw1403 gw61 gw138 gw1404) rfl rfl rfl hd_X9_isGood ⟨(Nat.le_of_ble_eq_true rfl), (Nat.le_of_ble_eq_true rfl)⟩) ⟨fbR, va_recv hK hP (ci := 8) (q0 := 0) rfl rfl, pR_in hP hK⟩ rfl rfl hl.1 rfl (lv_room (Nat.le_of_ble_eq_true rfl)) dX9_unit_148 ⟨(Nat.le_of_ble_eq_true rfl), (Nat.le_of_ble_eq_true rfl)⟩) hS (fun q hq h => absurd hq (Nat.not_lt.mpr h)) (fun q h => hA q (Nat.le_trans hS.1 h)) (fun r_4417 u_ t_ H4416 locs ht hvm hw hB hz1 hk1 hS => ?_)
              subst hw
              have hP := wk hP hk1
              obtain ⟨f4418, f4419, f4420⟩ := hB
              refine lv_if_ne (tgt := 156) hx hb dX9_unit_151 (by decide) (fun c_4421 => ((ob_172 (qi_ne c_4421 rfl zc_0) f4381 f4418)).elim) (fun c_4421 => ?_)
              have f4422 : r_4417.toInt = 0 := qi_eq c_4421 rfl zc_0
              have f4423 : x4379.toInt ≠ (0 : Int) := (ob_173 im4400 f4381)
              have f4424 : (1 : Int) ≤ x4379.toInt := (ob_156 im4400 f4381)
              have f4425 : r_4417.toInt = (0 : Int) := (ob_165 f4419 f4420 f4422)
              refine lv_iconst (v := 1) hx hb dX9_unit_154 (by decide) ?_
              rw [hQ]
              exact W.zret (v := 1) hx hb hr (by decide) (fun t ht hW => ⟨⟨1, 1, rfl, rfl, ⟨x4379, i_at, i_end, i_token, i_number, i_codes, i_within, i_piled, i_unitsInRule, f_code, f_eWhat, f_eSign, J4380, L, by rw [ht]; exact hP, hD, hI4382, (ob_14 zc_1), (ob_15 zc_1), (fun h => ((ob_214 h im4400 f4381)).elim), (ob_215 hp5 hp7 hp8), (ob_216 hp2 hp4 hp7), (ob_88), (ob_217 f4381 zc_1)⟩⟩, hS.F ht⟩) hS.2.2 dX9_unit_155
