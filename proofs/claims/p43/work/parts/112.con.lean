set_option maxHeartbeats 4000000 in
set_option maxRecDepth 100000 in
theorem kX9_fill (l : Launch) (dC : Nat → ClassId) (dI : Nat → Nat → Nat) (r : Nat → Nat) (ct : Nat → ClassId) (i_taped i_size i_faultKind i_at i_end i_token i_number i_bank i_rb i_codes i_within i_piled i_unitsInRule i_askHouse i_askTune i_acts i_undone i_laid i_knowns i_time : Int32) (f_text f_tunes f_houses f_hums f_told f_many f_ruleFrom f_ruleTo f_code f_eWhat f_eSign f_all f_kept f_was f_sTune f_boxAll : Nat → Int32) (J : Nat → Nat → Int32) (L : Nat → Nat → Int64) (p0 p1 : Int32) (sz : Nat) (hI : (IM i_taped i_size i_faultKind i_at i_end i_bank i_rb i_acts i_undone i_laid i_knowns i_time f_tunes f_houses f_hums f_told f_many f_ruleFrom f_ruleTo f_code f_all f_kept f_was f_sTune f_boxAll)) : Met l yX9_fill (.code yX9_fill cX9_fill 3 (some .int) :: GW) { frames := 6, cells := 0, slots := 0, locals := 223 } (va_Pc [.ref (r 0), .int p0, .int p1] (pW (dC, dI) (WM r ct i_taped i_size i_faultKind i_at i_end i_token i_number i_bank i_rb i_codes i_within i_piled i_unitsInRule i_askHouse i_askTune i_acts i_undone i_laid i_knowns i_time f_text f_tunes f_houses f_hums f_told f_many f_ruleFrom f_ruleTo f_code f_eWhat f_eSign f_all f_kept f_was f_sTune f_boxAll J L) (TM ct) sz)) (va_Qi (fun (r0 : Int32) (u : Int32) => r0 = u) (fun (u : Int32) (t : State) => ∃ (n_i_acts n_i_undone : Int32) (n_f_all n_f_was : Nat → Int32), va_P (dC, dI) vwCl (WM r ct i_taped i_size i_faultKind i_at i_end i_token i_number i_bank i_rb i_codes i_within i_piled i_unitsInRule i_askHouse i_askTune n_i_acts n_i_undone i_laid i_knowns i_time f_text f_tunes f_houses f_hums f_told f_many f_ruleFrom f_ruleTo f_code f_eWhat f_eSign n_f_all f_kept n_f_was f_sTune f_boxAll J L) t.heap ∧ va_D (va_A (WM r ct i_taped i_size i_faultKind i_at i_end i_token i_number i_bank i_rb i_codes i_within i_piled i_unitsInRule i_askHouse i_askTune i_acts i_undone i_laid i_knowns i_time f_text f_tunes f_houses f_hums f_told f_many f_ruleFrom f_ruleTo f_code f_eWhat f_eSign f_all f_kept f_was f_sTune f_boxAll J L) sz) (WM r ct i_taped i_size i_faultKind i_at i_end i_token i_number i_bank i_rb i_codes i_within i_piled i_unitsInRule i_askHouse i_askTune n_i_acts n_i_undone i_laid i_knowns i_time f_text f_tunes f_houses f_hums f_told f_many f_ruleFrom f_ruleTo f_code f_eWhat f_eSign n_f_all f_kept n_f_was f_sTune f_boxAll J L) ∧ (IM i_taped i_size i_faultKind i_at i_end i_bank i_rb n_i_acts n_i_undone i_laid i_knowns i_time f_tunes f_houses f_hums f_told f_many f_ruleFrom f_ruleTo f_code n_f_all f_kept n_f_was f_sTune f_boxAll)) (va_A (WM r ct i_taped i_size i_faultKind i_at i_end i_token i_number i_bank i_rb i_codes i_within i_piled i_unitsInRule i_askHouse i_askTune i_acts i_undone i_laid i_knowns i_time f_text f_tunes f_houses f_hums f_told f_many f_ruleFrom f_ruleTo f_code f_eWhat f_eSign f_all f_kept f_was f_sTune f_boxAll J L) sz)) 0 0 (va_A (WM r ct i_taped i_size i_faultKind i_at i_end i_token i_number i_bank i_rb i_codes i_within i_piled i_unitsInRule i_askHouse i_askTune i_acts i_undone i_laid i_knowns i_time f_text f_tunes f_houses f_hums f_told f_many f_ruleFrom f_ruleTo f_code f_eWhat f_eSign f_all f_kept f_was f_sTune f_boxAll J L) sz) := by
  refine Met.ofW (cc := cX9_fill) (maxL := 3) (ret := (some .int)) (by decide) rfl ?_
  intro p e s m args below meth c0 s₁ B hml hv
  obtain ⟨rfl, hsz, hP, hK, hD0⟩ := hv
  have hx := B.exec
  have hb := B.bytes
  have hr := B.returns
  have hts := atoms_spec (ws := .code yX9_fill cX9_fill 3 (some .int) :: GW) B.pre
  have hG : ∀ w ∈ GW, w.before _ s = true := fun w h => hts w (List.mem_cons_of_mem _ h)
  have hown : s.vm.findClass RX9 = some m.cls := findClass_of_methodNamed B.named
  subst hsz
  have hD := hD0.self (sz := s.heap.size)
  generalize hAe : va_A (WM r ct i_taped i_size i_faultKind i_at i_end i_token i_number i_bank i_rb i_codes i_within i_piled i_unitsInRule i_askHouse i_askTune i_acts i_undone i_laid i_knowns i_time f_text f_tunes f_houses f_hums f_told f_many f_ruleFrom f_ruleTo f_code f_eWhat f_eSign f_all f_kept f_was f_sTune f_boxAll J L) s.heap.size = A at hD ⊢
  have hA : ∀ q : Nat, s.heap.size ≤ q → A q := fun q h => by rw [← hAe]; exact Or.inr h
  have hS : va_S A s.heap s.heap [] := va_S.rf
  have hP : va_P (dC, dI) vwCl (WM r ct i_taped i_size i_faultKind i_at i_end i_token i_number i_bank i_rb i_codes i_within i_piled i_unitsInRule i_askHouse i_askTune i_acts i_undone i_laid i_knowns i_time f_text f_tunes f_houses f_hums f_told f_many f_ruleFrom f_ruleTo f_code f_eWhat f_eSign f_all f_kept f_was f_sTune f_boxAll J L) s.heap := hP
  have hl := lv_entry ([.ref (r 0), .int p0, .int p1]) (n := 3) (Nat.le_of_ble_eq_true rfl)
  rw [lg_entry_eq]
  generalize (lg_sl ([.ref (r 0), .int p0, .int p1]) ++ List.replicate (3 - (lg_sl ([.ref (r 0), .int p0, .int p1])).length) Slot.unset).toArray = ls at hl ⊢
  have hl : lv_has ls 3 [(0, .ref (r 0)), (1, .int p0), (2, .int p1)] := hl
  refine nameQ (fun Q hQ => ?_)
  obtain ⟨ie0, ie1, ie2, ie3, ie4, ie5, ie6, ie7, ie8, ie9, ie10, ie11, ie12, ie13, ie14, ie15, ie16, ie17, ie18, ie19, ie20, ie21, ie22, ie23, ie24, ie25, ie26, ie27, ie28, ie29, ie30, ie31, ie32⟩ := id hI
  have f1 : 0 ≤ (f_tunes (i_bank.toInt).toNat).toInt ∧ (f_tunes (i_bank.toInt).toNat).toInt ≤ 5 := ie21 (i_bank.toInt)
  have f2 : 0 ≤ (f_houses (i_bank.toInt).toNat).toInt ∧ (f_houses (i_bank.toInt).toNat).toInt ≤ 4 := ie22 (i_bank.toInt)
  refine lv_aload_n hx hb dX9_fill_0 rfl (lv_at hl 0 rfl) ?_
  refine lv_iload_n hx hb dX9_fill_1 rfl (lv_at hl 1 rfl) ?_
  refine va_calli (va_runV (As := [.int p0]) (rest := []) ⟨hx, hb, hml, hown, hG⟩ (kX9_isHouse l dC dI r ct i_taped i_size i_faultKind i_at i_end i_token i_number i_bank i_rb i_codes i_within i_piled i_unitsInRule i_askHouse i_askTune i_acts i_undone i_laid i_knowns i_time f_text f_tunes f_houses f_hums f_told f_many f_ruleFrom f_ruleTo f_code f_eWhat f_eSign f_all f_kept f_was f_sTune f_boxAll J L p0 s.heap.size hI) (cwV 1 hG (goodV gw1542 gw1544 gw90 gw138 gw1545) rfl rfl rfl hd_X9_isHouse ⟨(Nat.le_of_ble_eq_true rfl), (Nat.le_of_ble_eq_true rfl)⟩) ⟨fbR, va_recv hK hP (ci := 8) (q0 := 0) rfl rfl, pR_in hP hK⟩ rfl rfl hl.1 rfl (lv_room (Nat.le_of_ble_eq_true rfl)) dX9_fill_2 ⟨(Nat.le_of_ble_eq_true rfl), (Nat.le_of_ble_eq_true rfl)⟩) hS (fun q hq h => absurd hq (Nat.not_lt.mpr h)) (fun q h => hA q (Nat.le_trans hS.1 h)) (fun r_4 u_ t_ H3 locs ht hvm hw hB hz1 hk1 hS => ?_)
  subst hw
  have hP := wk hP hk1
  obtain ⟨f5, f6, f7, f8, f9⟩ := hB
  refine lv_if_eq (tgt := 33) hx hb dX9_fill_5 (by decide) (fun c_10 => ?_) (fun c_10 => ?_)
  · skip
    have f11 : r_4.toInt = 0 := qi_eq c_10 rfl zc_0
    refine lv_iconst (v := (-1)) hx hb dX9_fill_33 (by decide) ?_
    rw [hQ]
    exact W.iret (v := (-1)) hx hb hr (fun t ht hW => ⟨⟨(-1), (-1), rfl, rfl, ⟨i_acts, i_undone, f_all, f_was, by rw [ht]; exact hP, hD, hI⟩⟩, hS.F ht⟩) hS.2.2 dX9_fill_34
  · skip
    have f12 : r_4.toInt ≠ 0 := qi_ne c_10 rfl zc_0
    have f13 : (0 : Int) ≤ p0.toInt := (ob_1090 f5 f12)
    have f14 : p0.toInt + 1 ≤ (f_houses (i_bank.toInt).toNat).toInt := (ob_1091 f5 f12)
    have f15 : r_4.toInt = (1 : Int) := (ob_1092 f5 f12)
    have f16 : (1 : Int) ≤ r_4.toInt := (ob_395 f15)
    refine lv_iload_n hx hb dX9_fill_8 rfl (lv_at hl 2 rfl) ?_
    refine lv_iconst (v := 1) hx hb dX9_fill_9 (by decide) ?_
    refine lv_bipush (v := 50) hx hb dX9_fill_10 (by decide) ?_
    refine va_calli (va_runS (As := [.int p1, .int 1, .int 50]) (rest := []) ⟨hx, hb, hml, hown, hG⟩ (kX9_isIn l dC dI p1 1 50 H3.size) (va_cwS 3 hG (goodS gw1516 gw1517 gw138 gw1518) rfl rfl rfl hd_X9_isIn ⟨(Nat.le_of_ble_eq_true rfl), (Nat.le_of_ble_eq_true rfl)⟩) ⟨fbR, pR_in emptyP (emptyK hK)⟩ rfl rfl hl.1 rfl (lv_room (Nat.le_of_ble_eq_true rfl)) dX9_fill_12 ⟨(Nat.le_of_ble_eq_true rfl), (Nat.le_of_ble_eq_true rfl)⟩) hS (fun q hq h => absurd hq (Nat.not_lt.mpr h)) (fun q h => hA q (Nat.le_trans hS.1 h)) (fun r_18 u_ t_ H17 locs ht hvm hw hB hz1 hk1 hS => ?_)
    subst hw
    have hP := wk hP hk1
    obtain ⟨f19, f20, f21⟩ := hB
    refine lv_if_eq (tgt := 33) hx hb dX9_fill_15 (by decide) (fun c_22 => ?_) (fun c_22 => ?_)
    · skip
      have f23 : r_18.toInt = 0 := qi_eq c_22 rfl zc_0
      refine lv_iconst (v := (-1)) hx hb dX9_fill_33 (by decide) ?_
      rw [hQ]
      exact W.iret (v := (-1)) hx hb hr (fun t ht hW => ⟨⟨(-1), (-1), rfl, rfl, ⟨i_acts, i_undone, f_all, f_was, by rw [ht]; exact hP, hD, hI⟩⟩, hS.F ht⟩) hS.2.2 dX9_fill_34
    · skip
      have f24 : r_18.toInt ≠ 0 := qi_ne c_22 rfl zc_0
      have f25 : (1 : Int) ≤ p1.toInt := (ob_1208 f19 f24 zc_50 zc_1)
      have f26 : p1.toInt ≤ (50 : Int) := (ob_1209 f19 f24 zc_50 zc_1)
      have f27 : r_18.toInt = (1 : Int) := (ob_1210 f19 f24 zc_50 zc_1)
      have f28 : (1 : Int) ≤ r_18.toInt := (ob_162 f20 f21 f27)
      refine lv_aload_n hx hb dX9_fill_18 rfl (lv_at hl 0 rfl) ?_
      refine gM_X9_88_0 hx hb hG hown hK hP dX9_fill_19 ?_
      refine lv_bipush (v := 20) hx hb dX9_fill_22 (by decide) ?_
      refine lv_iload_n hx hb dX9_fill_24 rfl (lv_at hl 1 rfl) ?_
      refine lv_iadd hx hb dX9_fill_25 ?_
      refine lv_topi (fun x29 ex29 => ?_)
      have f30 : x29.toInt = p0.toInt + 20 := (ob_784 (qi_add ex29 zc_20 rfl (ob_921 f13 f14) (ob_1105 f2 f14)))
      refine ldM_25 (mm := p0.toInt + 20) hx hb hK hP f30 (ob_923 f13 f14) (ob_1106 f2 f14) dX9_fill_26 ?_
      refine lv_sipush (v := 999) hx hb dX9_fill_27 (by decide) ?_
      refine lv_icmp_ne (tgt := 35) hx hb dX9_fill_30 (by decide) (fun c_31 => ?_) (fun c_31 => ?_)
      · skip
        have f32 : (f_all (p0.toInt + 20).toNat).toInt ≠ 999 := qi_ne c_31 rfl zc_999
        refine lv_aload_n hx hb dX9_fill_35 rfl (lv_at hl 0 rfl) ?_
        have hFc := frA hD hS hA
        refine va_callv (va_runV (As := []) (rest := []) ⟨hx, hb, hml, hown, hG⟩ (kX9_keepAct l dC dI r ct i_taped i_size i_faultKind i_at i_end i_token i_number i_bank i_rb i_codes i_within i_piled i_unitsInRule i_askHouse i_askTune i_acts i_undone i_laid i_knowns i_time f_text f_tunes f_houses f_hums f_told f_many f_ruleFrom f_ruleTo f_code f_eWhat f_eSign f_all f_kept f_was f_sTune f_boxAll J L H17.size hI) (cwV 0 hG (goodV gw1684 gw1686 gw107 gw138 gw1687) rfl rfl rfl hd_X9_keepAct ⟨(Nat.le_of_ble_eq_true rfl), (Nat.le_of_ble_eq_true rfl)⟩) ⟨fbW, va_recv hK hP (ci := 8) (q0 := 0) rfl rfl, pW_in hP hK hD⟩ rfl rfl hl.1 rfl (lv_room (Nat.le_of_ble_eq_true rfl)) dX9_fill_36 ⟨(Nat.le_of_ble_eq_true rfl), (Nat.le_of_ble_eq_true rfl)⟩) hS (fun q _ h => hFc q h) hFc (fun _ t_ H33 locs ht hvm hw hB hz1 hk1 hS => ?_)
        obtain ⟨x35, x36, z37, hP1, hD1, hI38⟩ := hB
        rw [ht] at hP1
        have hP := hP1
        have hD := dW hFc hD1
        obtain ⟨im39, im40, im41, im42, im43, im44, im45, im46, im47, im48, im49, im50, im51, im52, im53, im54, im55, im56, im57, im58, im59, im60, im61, im62, im63, im64, im65, im66, im67, im68, im69, im70, im71⟩ := id hI38
        refine lv_aload_n hx hb dX9_fill_39 rfl (lv_at hl 0 rfl) ?_
        refine gM_X9_88_0 hx hb hG hown hK hP dX9_fill_40 ?_
        refine lv_bipush (v := 20) hx hb dX9_fill_43 (by decide) ?_
        refine lv_iload_n hx hb dX9_fill_45 rfl (lv_at hl 1 rfl) ?_
        refine lv_iadd hx hb dX9_fill_46 ?_
        refine lv_topi (fun x72 ex72 => ?_)
        have f73 : x72.toInt = p0.toInt + 20 := (ob_784 (qi_add ex72 zc_20 rfl (ob_921 f13 f14) (ob_1105 f2 f14)))
        refine lv_aload_n hx hb dX9_fill_47 rfl (lv_at hl 0 rfl) ?_
        refine gM_X9_88_0 hx hb hG hown hK hP dX9_fill_48 ?_
        refine lv_bipush (v := 20) hx hb dX9_fill_51 (by decide) ?_
        refine lv_iload_n hx hb dX9_fill_53 rfl (lv_at hl 1 rfl) ?_
        refine lv_iadd hx hb dX9_fill_54 ?_
        refine lv_topi (fun x74 ex74 => ?_)
        have f75 : x74.toInt = p0.toInt + 20 := (ob_784 (qi_add ex74 zc_20 rfl (ob_921 f13 f14) (ob_1105 f2 f14)))
        refine ldM_25 (mm := p0.toInt + 20) hx hb hK hP f75 (ob_923 f13 f14) (ob_1106 f2 f14) dX9_fill_55 ?_
        refine lv_iload_n hx hb dX9_fill_56 rfl (lv_at hl 2 rfl) ?_
        refine lv_iadd hx hb dX9_fill_57 ?_
        refine lv_topi (fun x76 ex76 => ?_)
        refine lv_iconst (v := 0) hx hb dX9_fill_58 (by decide) ?_
        refine lv_sipush (v := 999) hx hb dX9_fill_59 (by decide) ?_
        refine va_calli (va_runS (As := [.int x76, .int 0, .int 999]) (rest := [.int x72, .ref (r 25)]) ⟨hx, hb, hml, hown, hG⟩ (kX9_held l dC dI x76 0 999 H33.size) (va_cwS 3 hG (goodS gw1527 gw1528 gw138 gw1529) rfl rfl rfl hd_X9_held ⟨(Nat.le_of_ble_eq_true rfl), (Nat.le_of_ble_eq_true rfl)⟩) ⟨fbR, pR_in emptyP (emptyK hK)⟩ rfl rfl hl.1 rfl (lv_room (Nat.le_of_ble_eq_true rfl)) dX9_fill_62 ⟨(Nat.le_of_ble_eq_true rfl), (Nat.le_of_ble_eq_true rfl)⟩) hS (fun q hq h => absurd hq (Nat.not_lt.mpr h)) (fun q h => hA q (Nat.le_trans hS.1 h)) (fun r_78 u_ t_ H77 locs ht hvm hw hB hz1 hk1 hS => ?_)
        subst hw
        have hP := wk hP hk1
        have f79 := hB
        refine stM_25 (mm := p0.toInt + 20) hx hb hK hP hD hS f73 (ob_923 f13 f14) (ob_1106 f2 f14) dX9_fill_65 (fun z81 H80 locs ez81 hP hD hS => ?_)
        have g82 : EW z81 := ez81 ▸ EW.updo ie27 (ob_923 f13 f14) (ob_1110 f2 f6 f7 f13 f14 f15 f16)
        refine lv_aload_n hx hb dX9_fill_66 rfl (lv_at hl 0 rfl) ?_
        refine gM_X9_88_0 hx hb hG hown hK hP dX9_fill_67 ?_
        refine lv_bipush (v := 20) hx hb dX9_fill_70 (by decide) ?_
        refine lv_iload_n hx hb dX9_fill_72 rfl (lv_at hl 1 rfl) ?_
        refine lv_iadd hx hb dX9_fill_73 ?_
        refine lv_topi (fun x83 ex83 => ?_)
        have f84 : x83.toInt = p0.toInt + 20 := (ob_784 (qi_add ex83 zc_20 rfl (ob_921 f13 f14) (ob_1105 f2 f14)))
        refine ldM_25 (mm := p0.toInt + 20) hx hb hK hP f84 (ob_923 f13 f14) (ob_1106 f2 f14) dX9_fill_74 ?_
        rw [hQ]
        exact W.iret (v := (z81 (p0.toInt + 20).toNat)) hx hb hr (fun t ht hW => ⟨⟨(z81 (p0.toInt + 20).toNat), (z81 (p0.toInt + 20).toNat), rfl, rfl, ⟨x35, x36, z81, z37, by rw [ht]; exact hP, hD, ⟨ie0, ie1, ie2, ie3, ie4, ie5, ie6, ie7, ie8, ie9, ie10, ie11, ie12, ie13, ie14, ie15, ie16, ie17, im57, im58, im59, ie21, ie22, ie23, ie24, ie25, ie26, g82, ie28, im68, ie30, ie31, ie32⟩⟩⟩, hS.F ht⟩) hS.2.2 dX9_fill_75
      · skip
        have f85 : (f_all (p0.toInt + 20).toNat).toInt = 999 := qi_eq c_31 rfl zc_999
        refine lv_iconst (v := (-1)) hx hb dX9_fill_33 (by decide) ?_
        rw [hQ]
        exact W.iret (v := (-1)) hx hb hr (fun t ht hW => ⟨⟨(-1), (-1), rfl, rfl, ⟨i_acts, i_undone, f_all, f_was, by rw [ht]; exact hP, hD, hI⟩⟩, hS.F ht⟩) hS.2.2 dX9_fill_34
set_option maxHeartbeats 4000000 in
set_option maxRecDepth 100000 in
theorem kX9_undo (l : Launch) (dC : Nat → ClassId) (dI : Nat → Nat → Nat) (r : Nat → Nat) (ct : Nat → ClassId) (i_taped i_size i_faultKind i_at i_end i_token i_number i_bank i_rb i_codes i_within i_piled i_unitsInRule i_askHouse i_askTune i_acts i_undone i_laid i_knowns i_time : Int32) (f_text f_tunes f_houses f_hums f_told f_many f_ruleFrom f_ruleTo f_code f_eWhat f_eSign f_all f_kept f_was f_sTune f_boxAll : Nat → Int32) (J : Nat → Nat → Int32) (L : Nat → Nat → Int64) (sz : Nat) (hI : (IM i_taped i_size i_faultKind i_at i_end i_bank i_rb i_acts i_undone i_laid i_knowns i_time f_tunes f_houses f_hums f_told f_many f_ruleFrom f_ruleTo f_code f_all f_kept f_was f_sTune f_boxAll)) : Met l yX9_undo (.code yX9_undo cX9_undo 1 (some .boolean) :: GW) { frames := 4, cells := 0, slots := 0, locals := 162 } (va_Pc [.ref (r 0)] (pW (dC, dI) (WM r ct i_taped i_size i_faultKind i_at i_end i_token i_number i_bank i_rb i_codes i_within i_piled i_unitsInRule i_askHouse i_askTune i_acts i_undone i_laid i_knowns i_time f_text f_tunes f_houses f_hums f_told f_many f_ruleFrom f_ruleTo f_code f_eWhat f_eSign f_all f_kept f_was f_sTune f_boxAll J L) (TM ct) sz)) (va_Qi (fun (r0 : Int32) (u : Int32) => r0 = u) (fun (u : Int32) (t : State) => ∃ (n_i_acts n_i_undone : Int32) (n_f_all n_f_was : Nat → Int32), va_P (dC, dI) vwCl (WM r ct i_taped i_size i_faultKind i_at i_end i_token i_number i_bank i_rb i_codes i_within i_piled i_unitsInRule i_askHouse i_askTune n_i_acts n_i_undone i_laid i_knowns i_time f_text f_tunes f_houses f_hums f_told f_many f_ruleFrom f_ruleTo f_code f_eWhat f_eSign n_f_all f_kept n_f_was f_sTune f_boxAll J L) t.heap ∧ va_D (va_A (WM r ct i_taped i_size i_faultKind i_at i_end i_token i_number i_bank i_rb i_codes i_within i_piled i_unitsInRule i_askHouse i_askTune i_acts i_undone i_laid i_knowns i_time f_text f_tunes f_houses f_hums f_told f_many f_ruleFrom f_ruleTo f_code f_eWhat f_eSign f_all f_kept f_was f_sTune f_boxAll J L) sz) (WM r ct i_taped i_size i_faultKind i_at i_end i_token i_number i_bank i_rb i_codes i_within i_piled i_unitsInRule i_askHouse i_askTune n_i_acts n_i_undone i_laid i_knowns i_time f_text f_tunes f_houses f_hums f_told f_many f_ruleFrom f_ruleTo f_code f_eWhat f_eSign n_f_all f_kept n_f_was f_sTune f_boxAll J L) ∧ (IM i_taped i_size i_faultKind i_at i_end i_bank i_rb n_i_acts n_i_undone i_laid i_knowns i_time f_tunes f_houses f_hums f_told f_many f_ruleFrom f_ruleTo f_code n_f_all f_kept n_f_was f_sTune f_boxAll)) (va_A (WM r ct i_taped i_size i_faultKind i_at i_end i_token i_number i_bank i_rb i_codes i_within i_piled i_unitsInRule i_askHouse i_askTune i_acts i_undone i_laid i_knowns i_time f_text f_tunes f_houses f_hums f_told f_many f_ruleFrom f_ruleTo f_code f_eWhat f_eSign f_all f_kept f_was f_sTune f_boxAll J L) sz)) 0 0 (va_A (WM r ct i_taped i_size i_faultKind i_at i_end i_token i_number i_bank i_rb i_codes i_within i_piled i_unitsInRule i_askHouse i_askTune i_acts i_undone i_laid i_knowns i_time f_text f_tunes f_houses f_hums f_told f_many f_ruleFrom f_ruleTo f_code f_eWhat f_eSign f_all f_kept f_was f_sTune f_boxAll J L) sz) := by
  refine Met.ofW (cc := cX9_undo) (maxL := 1) (ret := (some .boolean)) (by decide) rfl ?_
  intro p e s m args below meth c0 s₁ B hml hv
  obtain ⟨rfl, hsz, hP, hK, hD0⟩ := hv
  have hx := B.exec
  have hb := B.bytes
  have hr := B.returns
  have hts := atoms_spec (ws := .code yX9_undo cX9_undo 1 (some .boolean) :: GW) B.pre
  have hG : ∀ w ∈ GW, w.before _ s = true := fun w h => hts w (List.mem_cons_of_mem _ h)
  have hown : s.vm.findClass RX9 = some m.cls := findClass_of_methodNamed B.named
  subst hsz
  have hD := hD0.self (sz := s.heap.size)
  generalize hAe : va_A (WM r ct i_taped i_size i_faultKind i_at i_end i_token i_number i_bank i_rb i_codes i_within i_piled i_unitsInRule i_askHouse i_askTune i_acts i_undone i_laid i_knowns i_time f_text f_tunes f_houses f_hums f_told f_many f_ruleFrom f_ruleTo f_code f_eWhat f_eSign f_all f_kept f_was f_sTune f_boxAll J L) s.heap.size = A at hD ⊢
  have hA : ∀ q : Nat, s.heap.size ≤ q → A q := fun q h => by rw [← hAe]; exact Or.inr h
  have hS : va_S A s.heap s.heap [] := va_S.rf
  have hP : va_P (dC, dI) vwCl (WM r ct i_taped i_size i_faultKind i_at i_end i_token i_number i_bank i_rb i_codes i_within i_piled i_unitsInRule i_askHouse i_askTune i_acts i_undone i_laid i_knowns i_time f_text f_tunes f_houses f_hums f_told f_many f_ruleFrom f_ruleTo f_code f_eWhat f_eSign f_all f_kept f_was f_sTune f_boxAll J L) s.heap := hP
  have hl := lv_entry ([.ref (r 0)]) (n := 1) (Nat.le_of_ble_eq_true rfl)
  rw [lg_entry_eq]
  generalize (lg_sl ([.ref (r 0)]) ++ List.replicate (1 - (lg_sl ([.ref (r 0)])).length) Slot.unset).toArray = ls at hl ⊢
  have hl : lv_has ls 1 [(0, .ref (r 0))] := hl
  refine nameQ (fun Q hQ => ?_)
  obtain ⟨ie0, ie1, ie2, ie3, ie4, ie5, ie6, ie7, ie8, ie9, ie10, ie11, ie12, ie13, ie14, ie15, ie16, ie17, ie18, ie19, ie20, ie21, ie22, ie23, ie24, ie25, ie26, ie27, ie28, ie29, ie30, ie31, ie32⟩ := id hI
  have f1 : 0 ≤ (f_tunes (i_bank.toInt).toNat).toInt ∧ (f_tunes (i_bank.toInt).toNat).toInt ≤ 5 := ie21 (i_bank.toInt)
  have f2 : 0 ≤ (f_houses (i_bank.toInt).toNat).toInt ∧ (f_houses (i_bank.toInt).toNat).toInt ≤ 4 := ie22 (i_bank.toInt)
  refine lv_aload_n hx hb dX9_undo_0 rfl (lv_at hl 0 rfl) ?_
  refine gM_X9_364_0 hx hb hG hown hK hP dX9_undo_1 ?_
  refine lv_if_ne (tgt := 9) hx hb dX9_undo_4 (by decide) (fun c_3 => ?_) (fun c_3 => ?_)
  · skip
    have f4 : i_acts.toInt ≠ 0 := qi_ne c_3 rfl zc_0
    have f5 : (1 : Int) ≤ i_acts.toInt := (ob_1211 ie18 ie20 f4)
    refine lv_aload_n hx hb dX9_undo_9 rfl (lv_at hl 0 rfl) ?_
    refine lv_dup hx hb dX9_undo_10 rfl ?_
    refine gM_X9_364_0 hx hb hG hown hK hP dX9_undo_11 ?_
    refine lv_iconst (v := 1) hx hb dX9_undo_14 (by decide) ?_
    refine lv_isub hx hb dX9_undo_15 ?_
    refine lv_topi (fun x6 ex6 => ?_)
    have f7 : x6.toInt = i_acts.toInt + (-1) := (ob_346 (qi_sub ex6 rfl zc_1 (ob_1212 ie18 ie20 f5) (ob_1213 ie19 ie20)))
    refine pM_X9_364_0 hx hb hG hown hK hP hD hS dX9_undo_16 (fun H8 locs hP hD hS => ?_)
    refine lv_aload_n hx hb dX9_undo_19 rfl (lv_at hl 0 rfl) ?_
    refine lv_dup hx hb dX9_undo_20 rfl ?_
    refine gM_X9_367_0 hx hb hG hown hK hP dX9_undo_21 ?_
    refine lv_iconst (v := 1) hx hb dX9_undo_24 (by decide) ?_
    refine lv_iadd hx hb dX9_undo_25 ?_
    refine lv_topi (fun x9 ex9 => ?_)
    have f10 : x9.toInt = i_undone.toInt + 1 := (ob_142 (qi_add ex9 rfl zc_1 (ob_1214 ie19 ie20) (ob_1215 ie18 ie20)))
    refine pM_X9_367_0 hx hb hG hown hK hP hD hS dX9_undo_26 (fun H11 locs hP hD hS => ?_)
    refine lv_aload_n hx hb dX9_undo_29 rfl (lv_at hl 0 rfl) ?_
    have hFc := frA hD hS hA
    refine va_callv (va_runV (As := []) (rest := []) ⟨hx, hb, hml, hown, hG⟩ (kX9_swapAll l dC dI r ct i_taped i_size i_faultKind i_at i_end i_token i_number i_bank i_rb i_codes i_within i_piled i_unitsInRule i_askHouse i_askTune x6 x9 i_laid i_knowns i_time f_text f_tunes f_houses f_hums f_told f_many f_ruleFrom f_ruleTo f_code f_eWhat f_eSign f_all f_kept f_was f_sTune f_boxAll J L H11.size ⟨ie0, ie1, ie2, ie3, ie4, ie5, ie6, ie7, ie8, ie9, ie10, ie11, ie12, ie13, ie14, ie15, ie16, ie17, (ob_1216 ie18 ie20 f5 f7), (ob_1217 ie19 ie20 f10), (ob_1218 ie20 f10 f7), ie21, ie22, ie23, ie24, ie25, ie26, ie27, ie28, ie29, ie30, ie31, ie32⟩) (cwV 0 hG (goodV gw1724 gw1726 gw112 gw138 gw1727) rfl rfl rfl hd_X9_swapAll ⟨(Nat.le_of_ble_eq_true rfl), (Nat.le_of_ble_eq_true rfl)⟩) ⟨fbW, va_recv hK hP (ci := 8) (q0 := 0) rfl rfl, pW_in hP hK hD⟩ rfl rfl hl.1 rfl (lv_room (Nat.le_of_ble_eq_true rfl)) dX9_undo_30 ⟨(Nat.le_of_ble_eq_true rfl), (Nat.le_of_ble_eq_true rfl)⟩) hS (fun q _ h => hFc q h) hFc (fun _ t_ H12 locs ht hvm hw hB hz1 hk1 hS => ?_)
    obtain ⟨z14, z15, hP1, hD1, hI16⟩ := hB
    rw [ht] at hP1
    have hP := hP1
    have hD := dW hFc hD1
    obtain ⟨im17, im18, im19, im20, im21, im22, im23, im24, im25, im26, im27, im28, im29, im30, im31, im32, im33, im34, im35, im36, im37, im38, im39, im40, im41, im42, im43, im44, im45, im46, im47, im48, im49⟩ := id hI16
    refine lv_iconst (v := 1) hx hb dX9_undo_33 (by decide) ?_
    rw [hQ]
    exact W.zret (v := 1) hx hb hr (by decide) (fun t ht hW => ⟨⟨1, 1, rfl, rfl, ⟨x6, x9, z14, z15, by rw [ht]; exact hP, hD, hI16⟩⟩, hS.F ht⟩) hS.2.2 dX9_undo_34
  · skip
    have f50 : i_acts.toInt = 0 := qi_eq c_3 rfl zc_0
    refine lv_iconst (v := 0) hx hb dX9_undo_7 (by decide) ?_
    rw [hQ]
    exact W.zret (v := 0) hx hb hr (by decide) (fun t ht hW => ⟨⟨0, 0, rfl, rfl, ⟨i_acts, i_undone, f_all, f_was, by rw [ht]; exact hP, hD, hI⟩⟩, hS.F ht⟩) hS.2.2 dX9_undo_8
set_option maxHeartbeats 4000000 in
set_option maxRecDepth 100000 in
theorem kX9_redo (l : Launch) (dC : Nat → ClassId) (dI : Nat → Nat → Nat) (r : Nat → Nat) (ct : Nat → ClassId) (i_taped i_size i_faultKind i_at i_end i_token i_number i_bank i_rb i_codes i_within i_piled i_unitsInRule i_askHouse i_askTune i_acts i_undone i_laid i_knowns i_time : Int32) (f_text f_tunes f_houses f_hums f_told f_many f_ruleFrom f_ruleTo f_code f_eWhat f_eSign f_all f_kept f_was f_sTune f_boxAll : Nat → Int32) (J : Nat → Nat → Int32) (L : Nat → Nat → Int64) (sz : Nat) (hI : (IM i_taped i_size i_faultKind i_at i_end i_bank i_rb i_acts i_undone i_laid i_knowns i_time f_tunes f_houses f_hums f_told f_many f_ruleFrom f_ruleTo f_code f_all f_kept f_was f_sTune f_boxAll)) : Met l yX9_redo (.code yX9_redo cX9_redo 1 (some .boolean) :: GW) { frames := 4, cells := 0, slots := 0, locals := 162 } (va_Pc [.ref (r 0)] (pW (dC, dI) (WM r ct i_taped i_size i_faultKind i_at i_end i_token i_number i_bank i_rb i_codes i_within i_piled i_unitsInRule i_askHouse i_askTune i_acts i_undone i_laid i_knowns i_time f_text f_tunes f_houses f_hums f_told f_many f_ruleFrom f_ruleTo f_code f_eWhat f_eSign f_all f_kept f_was f_sTune f_boxAll J L) (TM ct) sz)) (va_Qi (fun (r0 : Int32) (u : Int32) => r0 = u) (fun (u : Int32) (t : State) => ∃ (n_i_acts n_i_undone : Int32) (n_f_all n_f_was : Nat → Int32), va_P (dC, dI) vwCl (WM r ct i_taped i_size i_faultKind i_at i_end i_token i_number i_bank i_rb i_codes i_within i_piled i_unitsInRule i_askHouse i_askTune n_i_acts n_i_undone i_laid i_knowns i_time f_text f_tunes f_houses f_hums f_told f_many f_ruleFrom f_ruleTo f_code f_eWhat f_eSign n_f_all f_kept n_f_was f_sTune f_boxAll J L) t.heap ∧ va_D (va_A (WM r ct i_taped i_size i_faultKind i_at i_end i_token i_number i_bank i_rb i_codes i_within i_piled i_unitsInRule i_askHouse i_askTune i_acts i_undone i_laid i_knowns i_time f_text f_tunes f_houses f_hums f_told f_many f_ruleFrom f_ruleTo f_code f_eWhat f_eSign f_all f_kept f_was f_sTune f_boxAll J L) sz) (WM r ct i_taped i_size i_faultKind i_at i_end i_token i_number i_bank i_rb i_codes i_within i_piled i_unitsInRule i_askHouse i_askTune n_i_acts n_i_undone i_laid i_knowns i_time f_text f_tunes f_houses f_hums f_told f_many f_ruleFrom f_ruleTo f_code f_eWhat f_eSign n_f_all f_kept n_f_was f_sTune f_boxAll J L) ∧ (IM i_taped i_size i_faultKind i_at i_end i_bank i_rb n_i_acts n_i_undone i_laid i_knowns i_time f_tunes f_houses f_hums f_told f_many f_ruleFrom f_ruleTo f_code n_f_all f_kept n_f_was f_sTune f_boxAll)) (va_A (WM r ct i_taped i_size i_faultKind i_at i_end i_token i_number i_bank i_rb i_codes i_within i_piled i_unitsInRule i_askHouse i_askTune i_acts i_undone i_laid i_knowns i_time f_text f_tunes f_houses f_hums f_told f_many f_ruleFrom f_ruleTo f_code f_eWhat f_eSign f_all f_kept f_was f_sTune f_boxAll J L) sz)) 0 0 (va_A (WM r ct i_taped i_size i_faultKind i_at i_end i_token i_number i_bank i_rb i_codes i_within i_piled i_unitsInRule i_askHouse i_askTune i_acts i_undone i_laid i_knowns i_time f_text f_tunes f_houses f_hums f_told f_many f_ruleFrom f_ruleTo f_code f_eWhat f_eSign f_all f_kept f_was f_sTune f_boxAll J L) sz) := by
  refine Met.ofW (cc := cX9_redo) (maxL := 1) (ret := (some .boolean)) (by decide) rfl ?_
  intro p e s m args below meth c0 s₁ B hml hv
  obtain ⟨rfl, hsz, hP, hK, hD0⟩ := hv
  have hx := B.exec
  have hb := B.bytes
  have hr := B.returns
  have hts := atoms_spec (ws := .code yX9_redo cX9_redo 1 (some .boolean) :: GW) B.pre
  have hG : ∀ w ∈ GW, w.before _ s = true := fun w h => hts w (List.mem_cons_of_mem _ h)
  have hown : s.vm.findClass RX9 = some m.cls := findClass_of_methodNamed B.named
  subst hsz
  have hD := hD0.self (sz := s.heap.size)
  generalize hAe : va_A (WM r ct i_taped i_size i_faultKind i_at i_end i_token i_number i_bank i_rb i_codes i_within i_piled i_unitsInRule i_askHouse i_askTune i_acts i_undone i_laid i_knowns i_time f_text f_tunes f_houses f_hums f_told f_many f_ruleFrom f_ruleTo f_code f_eWhat f_eSign f_all f_kept f_was f_sTune f_boxAll J L) s.heap.size = A at hD ⊢
  have hA : ∀ q : Nat, s.heap.size ≤ q → A q := fun q h => by rw [← hAe]; exact Or.inr h
  have hS : va_S A s.heap s.heap [] := va_S.rf
  have hP : va_P (dC, dI) vwCl (WM r ct i_taped i_size i_faultKind i_at i_end i_token i_number i_bank i_rb i_codes i_within i_piled i_unitsInRule i_askHouse i_askTune i_acts i_undone i_laid i_knowns i_time f_text f_tunes f_houses f_hums f_told f_many f_ruleFrom f_ruleTo f_code f_eWhat f_eSign f_all f_kept f_was f_sTune f_boxAll J L) s.heap := hP
  have hl := lv_entry ([.ref (r 0)]) (n := 1) (Nat.le_of_ble_eq_true rfl)
  rw [lg_entry_eq]
  generalize (lg_sl ([.ref (r 0)]) ++ List.replicate (1 - (lg_sl ([.ref (r 0)])).length) Slot.unset).toArray = ls at hl ⊢
  have hl : lv_has ls 1 [(0, .ref (r 0))] := hl
  refine nameQ (fun Q hQ => ?_)
  obtain ⟨ie0, ie1, ie2, ie3, ie4, ie5, ie6, ie7, ie8, ie9, ie10, ie11, ie12, ie13, ie14, ie15, ie16, ie17, ie18, ie19, ie20, ie21, ie22, ie23, ie24, ie25, ie26, ie27, ie28, ie29, ie30, ie31, ie32⟩ := id hI
  have f1 : 0 ≤ (f_tunes (i_bank.toInt).toNat).toInt ∧ (f_tunes (i_bank.toInt).toNat).toInt ≤ 5 := ie21 (i_bank.toInt)
  have f2 : 0 ≤ (f_houses (i_bank.toInt).toNat).toInt ∧ (f_houses (i_bank.toInt).toNat).toInt ≤ 4 := ie22 (i_bank.toInt)
  refine lv_aload_n hx hb dX9_redo_0 rfl (lv_at hl 0 rfl) ?_
  refine gM_X9_367_0 hx hb hG hown hK hP dX9_redo_1 ?_
  refine lv_if_ne (tgt := 9) hx hb dX9_redo_4 (by decide) (fun c_3 => ?_) (fun c_3 => ?_)
  · skip
    have f4 : i_undone.toInt ≠ 0 := qi_ne c_3 rfl zc_0
    have f5 : (1 : Int) ≤ i_undone.toInt := (ob_1219 ie19 ie20 f4)
    refine lv_aload_n hx hb dX9_redo_9 rfl (lv_at hl 0 rfl) ?_
    have hFc := frA hD hS hA
    refine va_callv (va_runV (As := []) (rest := []) ⟨hx, hb, hml, hown, hG⟩ (kX9_swapAll l dC dI r ct i_taped i_size i_faultKind i_at i_end i_token i_number i_bank i_rb i_codes i_within i_piled i_unitsInRule i_askHouse i_askTune i_acts i_undone i_laid i_knowns i_time f_text f_tunes f_houses f_hums f_told f_many f_ruleFrom f_ruleTo f_code f_eWhat f_eSign f_all f_kept f_was f_sTune f_boxAll J L s.heap.size hI) (cwV 0 hG (goodV gw1724 gw1726 gw112 gw138 gw1727) rfl rfl rfl hd_X9_swapAll ⟨(Nat.le_of_ble_eq_true rfl), (Nat.le_of_ble_eq_true rfl)⟩) ⟨fbW, va_recv hK hP (ci := 8) (q0 := 0) rfl rfl, pW_in hP hK hD⟩ rfl rfl hl.1 rfl (lv_room (Nat.le_of_ble_eq_true rfl)) dX9_redo_10 ⟨(Nat.le_of_ble_eq_true rfl), (Nat.le_of_ble_eq_true rfl)⟩) hS (fun q _ h => hFc q h) hFc (fun _ t_ H6 locs ht hvm hw hB hz1 hk1 hS => ?_)
    obtain ⟨z8, z9, hP1, hD1, hI10⟩ := hB
    rw [ht] at hP1
    have hP := hP1
    have hD := dW hFc hD1
    obtain ⟨im11, im12, im13, im14, im15, im16, im17, im18, im19, im20, im21, im22, im23, im24, im25, im26, im27, im28, im29, im30, im31, im32, im33, im34, im35, im36, im37, im38, im39, im40, im41, im42, im43⟩ := id hI10
    refine lv_aload_n hx hb dX9_redo_13 rfl (lv_at hl 0 rfl) ?_
    refine lv_dup hx hb dX9_redo_14 rfl ?_
    refine gM_X9_364_0 hx hb hG hown hK hP dX9_redo_15 ?_
    refine lv_iconst (v := 1) hx hb dX9_redo_18 (by decide) ?_
    refine lv_iadd hx hb dX9_redo_19 ?_
    refine lv_topi (fun x44 ex44 => ?_)
    have f45 : x44.toInt = i_acts.toInt + 1 := (ob_142 (qi_add ex44 rfl zc_1 (ob_1160 ie18 ie20) (ob_1220 ie19 ie20)))
    refine pM_X9_364_0 hx hb hG hown hK hP hD hS dX9_redo_20 (fun H46 locs hP hD hS => ?_)
    refine lv_aload_n hx hb dX9_redo_23 rfl (lv_at hl 0 rfl) ?_
    refine lv_dup hx hb dX9_redo_24 rfl ?_
    refine gM_X9_367_0 hx hb hG hown hK hP dX9_redo_25 ?_
    refine lv_iconst (v := 1) hx hb dX9_redo_28 (by decide) ?_
    refine lv_isub hx hb dX9_redo_29 ?_
    refine lv_topi (fun x47 ex47 => ?_)
    have f48 : x47.toInt = i_undone.toInt + (-1) := (ob_346 (qi_sub ex47 rfl zc_1 (ob_1221 ie19 ie20 f5) (ob_1222 ie18 ie20)))
    refine pM_X9_367_0 hx hb hG hown hK hP hD hS dX9_redo_30 (fun H49 locs hP hD hS => ?_)
    refine lv_iconst (v := 1) hx hb dX9_redo_33 (by decide) ?_
    rw [hQ]
    exact W.zret (v := 1) hx hb hr (by decide) (fun t ht hW => ⟨⟨1, 1, rfl, rfl, ⟨x44, x47, z8, z9, by rw [ht]; exact hP, hD, ⟨ie0, ie1, ie2, ie3, ie4, ie5, ie6, ie7, ie8, ie9, ie10, ie11, ie12, ie13, ie14, ie15, ie16, ie17, (ob_1162 ie18 ie20 f45), (ob_1223 ie19 ie20 f5 f48), (ob_1224 ie20 f48 f45), ie21, ie22, ie23, ie24, ie25, ie26, im38, ie28, im40, ie30, ie31, ie32⟩⟩⟩, hS.F ht⟩) hS.2.2 dX9_redo_34
  · skip
    have f50 : i_undone.toInt = 0 := qi_eq c_3 rfl zc_0
    refine lv_iconst (v := 0) hx hb dX9_redo_7 (by decide) ?_
    rw [hQ]
    exact W.zret (v := 0) hx hb hr (by decide) (fun t ht hW => ⟨⟨0, 0, rfl, rfl, ⟨i_acts, i_undone, f_all, f_was, by rw [ht]; exact hP, hD, hI⟩⟩, hS.F ht⟩) hS.2.2 dX9_redo_8
set_option maxHeartbeats 4000000 in
set_option maxRecDepth 100000 in
theorem kX9_will (l : Launch) (dC : Nat → ClassId) (dI : Nat → Nat → Nat) (r : Nat → Nat) (ct : Nat → ClassId) (i_taped i_size i_faultKind i_at i_end i_token i_number i_bank i_rb i_codes i_within i_piled i_unitsInRule i_askHouse i_askTune i_acts i_undone i_laid i_knowns i_time : Int32) (f_text f_tunes f_houses f_hums f_told f_many f_ruleFrom f_ruleTo f_code f_eWhat f_eSign f_all f_kept f_was f_sTune f_boxAll : Nat → Int32) (J : Nat → Nat → Int32) (L : Nat → Nat → Int64) (p0 p1 p2 : Int32) (sz : Nat) (hI : (IM i_taped i_size i_faultKind i_at i_end i_bank i_rb i_acts i_undone i_laid i_knowns i_time f_tunes f_houses f_hums f_told f_many f_ruleFrom f_ruleTo f_code f_all f_kept f_was f_sTune f_boxAll)) : Met l yX9_will (.code yX9_will cX9_will 6 (some .int) :: GW) { frames := 24, cells := 0, slots := 0, locals := 794 } (va_Pc [.ref (r 0), .int p0, .int p1, .int p2] (pW (dC, dI) (WM r ct i_taped i_size i_faultKind i_at i_end i_token i_number i_bank i_rb i_codes i_within i_piled i_unitsInRule i_askHouse i_askTune i_acts i_undone i_laid i_knowns i_time f_text f_tunes f_houses f_hums f_told f_many f_ruleFrom f_ruleTo f_code f_eWhat f_eSign f_all f_kept f_was f_sTune f_boxAll J L) (TM ct) sz)) (va_Qi (fun (r0 : Int32) (u : Int32) => r0 = u) (fun (u : Int32) (t : State) => ∃ (n_i_askHouse n_i_askTune : Int32) (n_f_all n_f_kept : Nat → Int32) (n_J : Nat → Nat → Int32), va_P (dC, dI) vwCl (WM r ct i_taped i_size i_faultKind i_at i_end i_token i_number i_bank i_rb i_codes i_within i_piled i_unitsInRule n_i_askHouse n_i_askTune i_acts i_undone i_laid i_knowns i_time f_text f_tunes f_houses f_hums f_told f_many f_ruleFrom f_ruleTo f_code f_eWhat f_eSign n_f_all n_f_kept f_was f_sTune f_boxAll n_J L) t.heap ∧ va_D (va_A (WM r ct i_taped i_size i_faultKind i_at i_end i_token i_number i_bank i_rb i_codes i_within i_piled i_unitsInRule i_askHouse i_askTune i_acts i_undone i_laid i_knowns i_time f_text f_tunes f_houses f_hums f_told f_many f_ruleFrom f_ruleTo f_code f_eWhat f_eSign f_all f_kept f_was f_sTune f_boxAll J L) sz) (WM r ct i_taped i_size i_faultKind i_at i_end i_token i_number i_bank i_rb i_codes i_within i_piled i_unitsInRule n_i_askHouse n_i_askTune i_acts i_undone i_laid i_knowns i_time f_text f_tunes f_houses f_hums f_told f_many f_ruleFrom f_ruleTo f_code f_eWhat f_eSign n_f_all n_f_kept f_was f_sTune f_boxAll n_J L) ∧ (IM i_taped i_size i_faultKind i_at i_end i_bank i_rb i_acts i_undone i_laid i_knowns i_time f_tunes f_houses f_hums f_told f_many f_ruleFrom f_ruleTo f_code n_f_all n_f_kept f_was f_sTune f_boxAll)) (va_A (WM r ct i_taped i_size i_faultKind i_at i_end i_token i_number i_bank i_rb i_codes i_within i_piled i_unitsInRule i_askHouse i_askTune i_acts i_undone i_laid i_knowns i_time f_text f_tunes f_houses f_hums f_told f_many f_ruleFrom f_ruleTo f_code f_eWhat f_eSign f_all f_kept f_was f_sTune f_boxAll J L) sz)) 0 0 (va_A (WM r ct i_taped i_size i_faultKind i_at i_end i_token i_number i_bank i_rb i_codes i_within i_piled i_unitsInRule i_askHouse i_askTune i_acts i_undone i_laid i_knowns i_time f_text f_tunes f_houses f_hums f_told f_many f_ruleFrom f_ruleTo f_code f_eWhat f_eSign f_all f_kept f_was f_sTune f_boxAll J L) sz) := by
  refine Met.ofW (cc := cX9_will) (maxL := 6) (ret := (some .int)) (by decide) rfl ?_
  intro p e s m args below meth c0 s₁ B hml hv
  obtain ⟨rfl, hsz, hP, hK, hD0⟩ := hv
  have hx := B.exec
  have hb := B.bytes
  have hr := B.returns
  have hts := atoms_spec (ws := .code yX9_will cX9_will 6 (some .int) :: GW) B.pre
  have hG : ∀ w ∈ GW, w.before _ s = true := fun w h => hts w (List.mem_cons_of_mem _ h)
  have hown : s.vm.findClass RX9 = some m.cls := findClass_of_methodNamed B.named
  subst hsz
  have hD := hD0.self (sz := s.heap.size)
  generalize hAe : va_A (WM r ct i_taped i_size i_faultKind i_at i_end i_token i_number i_bank i_rb i_codes i_within i_piled i_unitsInRule i_askHouse i_askTune i_acts i_undone i_laid i_knowns i_time f_text f_tunes f_houses f_hums f_told f_many f_ruleFrom f_ruleTo f_code f_eWhat f_eSign f_all f_kept f_was f_sTune f_boxAll J L) s.heap.size = A at hD ⊢
  have hA : ∀ q : Nat, s.heap.size ≤ q → A q := fun q h => by rw [← hAe]; exact Or.inr h
  have hS : va_S A s.heap s.heap [] := va_S.rf
  have hP : va_P (dC, dI) vwCl (WM r ct i_taped i_size i_faultKind i_at i_end i_token i_number i_bank i_rb i_codes i_within i_piled i_unitsInRule i_askHouse i_askTune i_acts i_undone i_laid i_knowns i_time f_text f_tunes f_houses f_hums f_told f_many f_ruleFrom f_ruleTo f_code f_eWhat f_eSign f_all f_kept f_was f_sTune f_boxAll J L) s.heap := hP
  have hl := lv_entry ([.ref (r 0), .int p0, .int p1, .int p2]) (n := 6) (Nat.le_of_ble_eq_true rfl)
  rw [lg_entry_eq]
  generalize (lg_sl ([.ref (r 0), .int p0, .int p1, .int p2]) ++ List.replicate (6 - (lg_sl ([.ref (r 0), .int p0, .int p1, .int p2])).length) Slot.unset).toArray = ls at hl ⊢
  have hl : lv_has ls 6 [(0, .ref (r 0)), (1, .int p0), (2, .int p1), (3, .int p2)] := hl
  refine nameQ (fun Q hQ => ?_)
  obtain ⟨ie0, ie1, ie2, ie3, ie4, ie5, ie6, ie7, ie8, ie9, ie10, ie11, ie12, ie13, ie14, ie15, ie16, ie17, ie18, ie19, ie20, ie21, ie22, ie23, ie24, ie25, ie26, ie27, ie28, ie29, ie30, ie31, ie32⟩ := id hI
  have f1 : 0 ≤ (f_tunes (i_bank.toInt).toNat).toInt ∧ (f_tunes (i_bank.toInt).toNat).toInt ≤ 5 := ie21 (i_bank.toInt)
  have f2 : 0 ≤ (f_houses (i_bank.toInt).toNat).toInt ∧ (f_houses (i_bank.toInt).toNat).toInt ≤ 4 := ie22 (i_bank.toInt)
  refine lv_aload_n hx hb dX9_will_0 rfl (lv_at hl 0 rfl) ?_
  refine lv_iload_n hx hb dX9_will_1 rfl (lv_at hl 1 rfl) ?_
  refine va_calli (va_runV (As := [.int p0]) (rest := []) ⟨hx, hb, hml, hown, hG⟩ (kX9_isTune l dC dI r ct i_taped i_size i_faultKind i_at i_end i_token i_number i_bank i_rb i_codes i_within i_piled i_unitsInRule i_askHouse i_askTune i_acts i_undone i_laid i_knowns i_time f_text f_tunes f_houses f_hums f_told f_many f_ruleFrom f_ruleTo f_code f_eWhat f_eSign f_all f_kept f_was f_sTune f_boxAll J L p0 s.heap.size hI) (cwV 1 hG (goodV gw1508 gw1510 gw85 gw138 gw1511) rfl rfl rfl hd_X9_isTune ⟨(Nat.le_of_ble_eq_true rfl), (Nat.le_of_ble_eq_true rfl)⟩) ⟨fbR, va_recv hK hP (ci := 8) (q0 := 0) rfl rfl, pR_in hP hK⟩ rfl rfl hl.1 rfl (lv_room (Nat.le_of_ble_eq_true rfl)) dX9_will_2 ⟨(Nat.le_of_ble_eq_true rfl), (Nat.le_of_ble_eq_true rfl)⟩) hS (fun q hq h => absurd hq (Nat.not_lt.mpr h)) (fun q h => hA q (Nat.le_trans hS.1 h)) (fun r_4 u_ t_ H3 locs ht hvm hw hB hz1 hk1 hS => ?_)
  subst hw
  have hP := wk hP hk1
  obtain ⟨f5, f6, f7, f8, f9⟩ := hB
  refine lv_if_eq (tgt := 27) hx hb dX9_will_5 (by decide) (fun c_10 => ?_) (fun c_10 => ?_)
  · skip
    have f11 : r_4.toInt = 0 := qi_eq c_10 rfl zc_0
    refine lv_bipush (v := (-2)) hx hb dX9_will_27 (by decide) ?_
    rw [hQ]
    exact W.iret (v := (-2)) hx hb hr (fun t ht hW => ⟨⟨(-2), (-2), rfl, rfl, ⟨i_askHouse, i_askTune, f_all, f_kept, J, by rw [ht]; exact hP, hD, hI⟩⟩, hS.F ht⟩) hS.2.2 dX9_will_29
  · skip
    have f12 : r_4.toInt ≠ 0 := qi_ne c_10 rfl zc_0
    have f13 : (0 : Int) ≤ p0.toInt := (ob_1090 f5 f12)
    have f14 : p0.toInt + 1 ≤ (f_tunes (i_bank.toInt).toNat).toInt := (ob_1091 f5 f12)
    have f15 : r_4.toInt = (1 : Int) := (ob_1092 f5 f12)
    have f16 : (1 : Int) ≤ r_4.toInt := (ob_395 f15)
    refine lv_iload_n hx hb dX9_will_8 rfl (lv_at hl 2 rfl) ?_
    refine lv_iconst (v := 0) hx hb dX9_will_9 (by decide) ?_
    refine lv_bipush (v := 60) hx hb dX9_will_10 (by decide) ?_
    refine va_calli (va_runS (As := [.int p1, .int 0, .int 60]) (rest := []) ⟨hx, hb, hml, hown, hG⟩ (kX9_isIn l dC dI p1 0 60 H3.size) (va_cwS 3 hG (goodS gw1516 gw1517 gw138 gw1518) rfl rfl rfl hd_X9_isIn ⟨(Nat.le_of_ble_eq_true rfl), (Nat.le_of_ble_eq_true rfl)⟩) ⟨fbR, pR_in emptyP (emptyK hK)⟩ rfl rfl hl.1 rfl (lv_room (Nat.le_of_ble_eq_true rfl)) dX9_will_12 ⟨(Nat.le_of_ble_eq_true rfl), (Nat.le_of_ble_eq_true rfl)⟩) hS (fun q hq h => absurd hq (Nat.not_lt.mpr h)) (fun q h => hA q (Nat.le_trans hS.1 h)) (fun r_18 u_ t_ H17 locs ht hvm hw hB hz1 hk1 hS => ?_)
    subst hw
    have hP := wk hP hk1
    obtain ⟨f19, f20, f21⟩ := hB
    refine lv_if_eq (tgt := 27) hx hb dX9_will_15 (by decide) (fun c_22 => ?_) (fun c_22 => ?_)
    · skip
      have f23 : r_18.toInt = 0 := qi_eq c_22 rfl zc_0
      refine lv_bipush (v := (-2)) hx hb dX9_will_27 (by decide) ?_
      rw [hQ]
      exact W.iret (v := (-2)) hx hb hr (fun t ht hW => ⟨⟨(-2), (-2), rfl, rfl, ⟨i_askHouse, i_askTune, f_all, f_kept, J, by rw [ht]; exact hP, hD, hI⟩⟩, hS.F ht⟩) hS.2.2 dX9_will_29
    · skip
      have f24 : r_18.toInt ≠ 0 := qi_ne c_22 rfl zc_0
      have f25 : (0 : Int) ≤ p1.toInt := (ob_1225 f19 f24 zc_60 zc_0)
      have f26 : p1.toInt ≤ (60 : Int) := (ob_1226 f19 f24 zc_60 zc_0)
      have f27 : r_18.toInt = (1 : Int) := (ob_1227 f19 f24 zc_60 zc_0)
      have f28 : (1 : Int) ≤ r_18.toInt := (ob_162 f20 f21 f27)
      refine lv_iload_n hx hb dX9_will_18 rfl (lv_at hl 3 rfl) ?_
      refine lv_iconst (v := 0) hx hb dX9_will_19 (by decide) ?_
      refine lv_iconst (v := 1) hx hb dX9_will_20 (by decide) ?_
      refine va_calli (va_runS (As := [.int p2, .int 0, .int 1]) (rest := []) ⟨hx, hb, hml, hown, hG⟩ (kX9_isIn l dC dI p2 0 1 H17.size) (va_cwS 3 hG (goodS gw1516 gw1517 gw138 gw1518) rfl rfl rfl hd_X9_isIn ⟨(Nat.le_of_ble_eq_true rfl), (Nat.le_of_ble_eq_true rfl)⟩) ⟨fbR, pR_in emptyP (emptyK hK)⟩ rfl rfl hl.1 rfl (lv_room (Nat.le_of_ble_eq_true rfl)) dX9_will_21 ⟨(Nat.le_of_ble_eq_true rfl), (Nat.le_of_ble_eq_true rfl)⟩) hS (fun q hq h => absurd hq (Nat.not_lt.mpr h)) (fun q h => hA q (Nat.le_trans hS.1 h)) (fun r_30 u_ t_ H29 locs ht hvm hw hB hz1 hk1 hS => ?_)
      subst hw
      have hP := wk hP hk1
      obtain ⟨f31, f32, f33⟩ := hB
      refine lv_if_ne (tgt := 30) hx hb dX9_will_24 (by decide) (fun c_34 => ?_) (fun c_34 => ?_)
      · skip
        have f35 : r_30.toInt ≠ 0 := qi_ne c_34 rfl zc_0
        have f36 : (0 : Int) ≤ p2.toInt := (ob_1129 f31 f35 zc_1 zc_0)
        have f37 : p2.toInt ≤ (1 : Int) := (ob_1130 f31 f35 zc_1 zc_0)
        have f38 : r_30.toInt = (1 : Int) := (ob_1131 f31 f35 zc_1 zc_0)
        have f39 : (1 : Int) ≤ r_30.toInt := (ob_162 f32 f33 f38)
        refine lv_aload_n hx hb dX9_will_30 rfl (lv_at hl 0 rfl) ?_
        have hFc := frA hD hS hA
        refine va_callv (va_runV (As := []) (rest := []) ⟨hx, hb, hml, hown, hG⟩ (kX9_keepNow l dC dI r ct i_taped i_size i_faultKind i_at i_end i_token i_number i_bank i_rb i_codes i_within i_piled i_unitsInRule i_askHouse i_askTune i_acts i_undone i_laid i_knowns i_time f_text f_tunes f_houses f_hums f_told f_many f_ruleFrom f_ruleTo f_code f_eWhat f_eSign f_all f_kept f_was f_sTune f_boxAll J L H29.size hI) (cwV 0 hG (goodV gw1736 gw1738 gw113 gw138 gw1739) rfl rfl rfl hd_X9_keepNow ⟨(Nat.le_of_ble_eq_true rfl), (Nat.le_of_ble_eq_true rfl)⟩) ⟨fbW, va_recv hK hP (ci := 8) (q0 := 0) rfl rfl, pW_in hP hK hD⟩ rfl rfl hl.1 rfl (lv_room (Nat.le_of_ble_eq_true rfl)) dX9_will_31 ⟨(Nat.le_of_ble_eq_true rfl), (Nat.le_of_ble_eq_true rfl)⟩) hS (fun q _ h => hFc q h) hFc (fun _ t_ H40 locs ht hvm hw hB hz1 hk1 hS => ?_)
        obtain ⟨z42, hP1, hD1, hI43⟩ := hB
        rw [ht] at hP1
        have hP := hP1
        have hD := dW hFc hD1
        obtain ⟨im44, im45, im46, im47, im48, im49, im50, im51, im52, im53, im54, im55, im56, im57, im58, im59, im60, im61, im62, im63, im64, im65, im66, im67, im68, im69, im70, im71, im72, im73, im74, im75, im76⟩ := id hI43
        refine lv_iconst (v := 0) hx hb dX9_will_34 (by decide) ?_
        refine lv_istore (lv' := [(4, .int 0), (0, .ref (r 0)), (1, .int p0), (2, .int p1), (3, .int p2)]) hx hb dX9_will_35 hl (by decide) rfl (fun ls hl => ?_)
        refine lv_iconst (v := 0) hx hb dX9_will_37 (by decide) ?_
        refine lv_istore (lv' := [(5, .int 0), (4, .int 0), (0, .ref (r 0)), (1, .int p0), (2, .int p1), (3, .int p2)]) hx hb dX9_will_38 hl (by decide) rfl (fun ls hl => ?_)
        have L40 : ∀ (N40 : Nat) (y40_4 y40_5 : Int32) (m40_i_askHouse m40_i_askTune : Int32) (m40_f_all : Nat → Int32) (m40_J : Nat → Nat → Int32) (H40 : Heap) (locs : List Loc) (ls : Array Slot) (g40_0 : (0 : Int) ≤ y40_5.toInt) (g40_1 : y40_5.toInt ≤ (60 : Int)) (gi40_all_p : EW m40_f_all) (hP : va_P (dC, dI) vwCl (WM r ct i_taped i_size i_faultKind i_at i_end i_token i_number i_bank i_rb i_codes i_within i_piled i_unitsInRule m40_i_askHouse m40_i_askTune i_acts i_undone i_laid i_knowns i_time f_text f_tunes f_houses f_hums f_told f_many f_ruleFrom f_ruleTo f_code f_eWhat f_eSign m40_f_all z42 f_was f_sTune f_boxAll m40_J L) H40) (hD : va_D A (WM r ct i_taped i_size i_faultKind i_at i_end i_token i_number i_bank i_rb i_codes i_within i_piled i_unitsInRule m40_i_askHouse m40_i_askTune i_acts i_undone i_laid i_knowns i_time f_text f_tunes f_houses f_hums f_told f_many f_ruleFrom f_ruleTo f_code f_eWhat f_eSign m40_f_all z42 f_was f_sTune f_boxAll m40_J L)) (hS : va_S A s.heap H40 locs) (hl : lv_has ls 6 [(0, .ref (r 0)), (1, .int p0), (2, .int p1), (3, .int p2), (4, .int y40_4), (5, .int y40_5)]) (hM : -1 * y40_5.toInt + 60 < (N40 : Int)), W p l e { frames := 24, cells := 0, slots := 0, locals := 794 } s m ([.ref (r 0), .int p0, .int p1, .int p2] : List Value).toArray below meth c0 H40 locs 0 0 Q (F0 m 40 ls []) := by
          intro N40
          induction N40 with
          | zero =>
            intro y40_4 y40_5 m40_i_askHouse m40_i_askTune m40_f_all m40_J H40 locs ls g40_0 g40_1 gi40_all_p hP hD hS hl hM
            exact ((ob_1228 hM g40_0 g40_1)).elim
          | succ N40 ih40 =>
            intro y40_4 y40_5 m40_i_askHouse m40_i_askTune m40_f_all m40_J H40 locs ls g40_0 g40_1 gi40_all_p hP hD hS hl hM
            have hM40 := msucc hM
            refine lv_iload hx hb dX9_will_40 (lv_at hl 5 rfl) ?_
            refine lv_iload_n hx hb dX9_will_42 rfl (lv_at hl 2 rfl) ?_
            refine lv_icmp_ge (tgt := 71) hx hb dX9_will_43 (by decide) (fun c_77 => ?_) (fun c_77 => ?_)
            · skip
              have f78 : p1.toInt ≤ y40_5.toInt := qi_le c_77 rfl rfl
              refine lv_aload_n hx hb dX9_will_71 rfl (lv_at hl 0 rfl) ?_
              refine gM_X9_88_0 hx hb hG hown hK hP dX9_will_72 ?_
              refine lv_iconst (v := 0) hx hb dX9_will_75 (by decide) ?_
              refine lv_iload_n hx hb dX9_will_76 rfl (lv_at hl 1 rfl) ?_
              refine lv_iadd hx hb dX9_will_77 ?_
              refine lv_topi (fun x79 ex79 => ?_)
              have f80 : x79.toInt = p0.toInt := (ob_801 (qi_add ex79 zc_0 rfl (ob_1027 f13 f14) (ob_1095 f1 f14)))
              refine ldM_25 (mm := p0.toInt) hx hb hK hP f80 (ob_1029 f13 f14) (ob_1096 f1 f14) dX9_will_78 ?_
              refine lv_aload_n hx hb dX9_will_79 rfl (lv_at hl 0 rfl) ?_
              refine gM_X9_88_0 hx hb hG hown hK hP dX9_will_80 ?_
              refine lv_iconst (v := 5) hx hb dX9_will_83 (by decide) ?_
              refine lv_iload_n hx hb dX9_will_84 rfl (lv_at hl 1 rfl) ?_
              refine lv_iadd hx hb dX9_will_85 ?_
              refine lv_topi (fun x81 ex81 => ?_)
              have f82 : x81.toInt = p0.toInt + 5 := (ob_1036 (qi_add ex81 zc_5 rfl (ob_1034 f13 f14) (ob_1097 f1 f14)))
              refine ldM_25 (mm := p0.toInt + 5) hx hb hK hP f82 (ob_1037 f13 f14) (ob_1098 f1 f14) dX9_will_86 ?_
              refine lv_bipush (v := 10) hx hb dX9_will_87 (by decide) ?_
              refine lv_imul hx hb dX9_will_89 ?_
              refine lv_topi (fun x83 ex83 => ?_)
              refine lv_iadd hx hb dX9_will_90 ?_
              refine lv_topi (fun x84 ex84 => ?_)
              refine lv_istore (lv' := [(5, .int x84), (0, .ref (r 0)), (1, .int p0), (2, .int p1), (3, .int p2), (4, .int y40_4)]) hx hb dX9_will_91 hl (by decide) rfl (fun ls hl => ?_)
              refine lv_aload_n hx hb dX9_will_93 rfl (lv_at hl 1 rfl) ?_
              have hFc := frA hD hS hA
              refine va_callv (va_runV (As := []) (rest := []) ⟨hx, hb, hml, hown, hG⟩ (kX9_bringBack l dC dI r ct i_taped i_size i_faultKind i_at i_end i_token i_number i_bank i_rb i_codes i_within i_piled i_unitsInRule m40_i_askHouse m40_i_askTune i_acts i_undone i_laid i_knowns i_time f_text f_tunes f_houses f_hums f_told f_many f_ruleFrom f_ruleTo f_code f_eWhat f_eSign m40_f_all z42 f_was f_sTune f_boxAll m40_J L H40.size ⟨ie0, ie1, ie2, ie3, ie4, ie5, ie6, ie7, ie8, ie9, ie10, ie11, ie12, ie13, ie14, ie15, ie16, ie17, ie18, ie19, ie20, ie21, ie22, ie23, ie24, ie25, ie26, gi40_all_p, im72, ie29, ie30, ie31, ie32⟩) (cwV 0 hG (goodV gw1740 gw1742 gw114 gw138 gw1743) rfl rfl rfl hd_X9_bringBack ⟨(Nat.le_of_ble_eq_true rfl), (Nat.le_of_ble_eq_true rfl)⟩) ⟨fbW, va_recv hK hP (ci := 8) (q0 := 0) rfl rfl, pW_in hP hK hD⟩ rfl rfl hl.1 rfl (lv_room (Nat.le_of_ble_eq_true rfl)) dX9_will_94 ⟨(Nat.le_of_ble_eq_true rfl), (Nat.le_of_ble_eq_true rfl)⟩) hS (fun q _ h => hFc q h) hFc (fun _ t_ H85 locs ht hvm hw hB hz1 hk1 hS => ?_)
              obtain ⟨z87, hP1, hD1, hI88⟩ := hB
              rw [ht] at hP1
              have hP := hP1
              have hD := dW hFc hD1
              obtain ⟨im89, im90, im91, im92, im93, im94, im95, im96, im97, im98, im99, im100, im101, im102, im103, im104, im105, im106, im107, im108, im109, im110, im111, im112, im113, im114, im115, im116, im117, im118, im119, im120, im121⟩ := id hI88
              refine lv_iload hx hb dX9_will_97 (lv_at hl 0 rfl) ?_
              rw [hQ]
              exact W.iret (v := x84) hx hb hr (fun t ht hW => ⟨⟨x84, x84, rfl, rfl, ⟨m40_i_askHouse, m40_i_askTune, z87, z42, m40_J, by rw [ht]; exact hP, hD, hI88⟩⟩, hS.F ht⟩) hS.2.2 dX9_will_99
            · skip
              have f122 : y40_5.toInt < p1.toInt := qi_nle c_77 rfl rfl
              refine lv_iload hx hb dX9_will_46 (lv_at hl 4 rfl) ?_
              refine lv_aload_n hx hb dX9_will_48 rfl (lv_at hl 0 rfl) ?_
              refine lv_iload_n hx hb dX9_will_49 rfl (lv_at hl 3 rfl) ?_
              refine lv_iconst (v := 1) hx hb dX9_will_50 (by decide) ?_
              refine lv_icmp_ne (tgt := 58) hx hb dX9_will_51 (by decide) (fun c_123 => ?_) (fun c_123 => ?_)
              · skip
                have f124 : p2.toInt ≠ 1 := qi_ne c_123 rfl zc_1
                have f125 : p2.toInt ≤ (0 : Int) := (ob_1229 f37 f124)
                refine lv_iconst (v := 0) hx hb dX9_will_58 (by decide) ?_
                have hFc := frA hD hS hA
                refine va_calli (va_runV (As := [.int 0]) (rest := [.int y40_4]) ⟨hx, hb, hml, hown, hG⟩ (kX9_goWeek l dC dI r ct i_taped i_size i_faultKind i_at i_end i_token i_number i_bank i_rb i_codes i_within i_piled i_unitsInRule m40_i_askHouse m40_i_askTune i_acts i_undone i_laid i_knowns i_time f_text f_tunes f_houses f_hums f_told f_many f_ruleFrom f_ruleTo f_code f_eWhat f_eSign m40_f_all z42 f_was f_sTune f_boxAll m40_J L 0 H40.size ⟨ie0, ie1, ie2, ie3, ie4, ie5, ie6, ie7, ie8, ie9, ie10, ie11, ie12, ie13, ie14, ie15, ie16, ie17, ie18, ie19, ie20, ie21, ie22, ie23, ie24, ie25, ie26, gi40_all_p, im72, ie29, ie30, ie31, ie32⟩ (ob_1230 zc_0)) (cwV 1 hG (goodV gw1688 gw1690 gw108 gw138 gw1691) rfl rfl rfl hd_X9_goWeek ⟨(Nat.le_of_ble_eq_true rfl), (Nat.le_of_ble_eq_true rfl)⟩) ⟨fbW, va_recv hK hP (ci := 8) (q0 := 0) rfl rfl, pW_in hP hK hD⟩ rfl rfl hl.1 rfl (lv_room (Nat.le_of_ble_eq_true rfl)) dX9_will_59 ⟨(Nat.le_of_ble_eq_true rfl), (Nat.le_of_ble_eq_true rfl)⟩) hS (fun q _ h => hFc q h) hFc (fun r_127 u_ t_ H126 locs ht hvm hw hB hz1 hk1 hS => ?_)
                subst hw
                obtain ⟨x128, x129, z130, J131, hP1, hD1, hI132⟩ := hB
                rw [ht] at hP1
                have hP := hP1
                have hD := dW hFc hD1
                obtain ⟨im133, im134, im135, im136, im137, im138, im139, im140, im141, im142, im143, im144, im145, im146, im147, im148, im149, im150, im151, im152, im153, im154, im155, im156, im157, im158, im159, im160, im161, im162, im163, im164, im165⟩ := id hI132
                refine lv_iadd hx hb dX9_will_62 ?_
                refine lv_topi (fun x166 ex166 => ?_)
                refine lv_istore (lv' := [(4, .int x166), (0, .ref (r 0)), (1, .int p0), (2, .int p1), (3, .int p2), (5, .int y40_5)]) hx hb dX9_will_63 hl (by decide) rfl (fun ls hl => ?_)
                obtain ⟨x167, ex167⟩ : ∃ y : Int32, y = y40_5 + Int32.ofInt 1 := ⟨_, rfl⟩
                have f168 : x167.toInt = y40_5.toInt + 1 := (ob_142 (qi_add ex167 rfl (by decide) (ob_140 g40_0) (ob_1231 g40_1)))
                refine lv_iinc (v := x167) (lv' := [(5, .int x167), (4, .int x166), (0, .ref (r 0)), (1, .int p0), (2, .int p1), (3, .int p2)]) hx hb dX9_will_65 hl (k := 5) rfl ex167.symm (by decide) rfl (fun ls hl => ?_)
                refine lv_goto (tgt := 40) hx hb dX9_will_68 (by decide) ?_
                exact ih40 x166 x167 x128 x129 z130 J131 H126 _ _ (ob_149 g40_0 f168) (ob_1232 f26 f122 f168) im160 hP hD hS (lv_sub hl [2, 3, 4, 5, 1, 0] rfl) (ob_1233 hM40 f168)
              · skip
                have f169 : p2.toInt = 1 := qi_eq c_123 rfl zc_1
                refine lv_iconst (v := 1) hx hb dX9_will_54 (by decide) ?_
                refine lv_goto (tgt := 59) hx hb dX9_will_55 (by decide) ?_
                have hFc := frA hD hS hA
                refine va_calli (va_runV (As := [.int 1]) (rest := [.int y40_4]) ⟨hx, hb, hml, hown, hG⟩ (kX9_goWeek l dC dI r ct i_taped i_size i_faultKind i_at i_end i_token i_number i_bank i_rb i_codes i_within i_piled i_unitsInRule m40_i_askHouse m40_i_askTune i_acts i_undone i_laid i_knowns i_time f_text f_tunes f_houses f_hums f_told f_many f_ruleFrom f_ruleTo f_code f_eWhat f_eSign m40_f_all z42 f_was f_sTune f_boxAll m40_J L 1 H40.size ⟨ie0, ie1, ie2, ie3, ie4, ie5, ie6, ie7, ie8, ie9, ie10, ie11, ie12, ie13, ie14, ie15, ie16, ie17, ie18, ie19, ie20, ie21, ie22, ie23, ie24, ie25, ie26, gi40_all_p, im72, ie29, ie30, ie31, ie32⟩ (ob_1203 zc_1)) (cwV 1 hG (goodV gw1688 gw1690 gw108 gw138 gw1691) rfl rfl rfl hd_X9_goWeek ⟨(Nat.le_of_ble_eq_true rfl), (Nat.le_of_ble_eq_true rfl)⟩) ⟨fbW, va_recv hK hP (ci := 8) (q0 := 0) rfl rfl, pW_in hP hK hD⟩ rfl rfl hl.1 rfl (lv_room (Nat.le_of_ble_eq_true rfl)) dX9_will_59 ⟨(Nat.le_of_ble_eq_true rfl), (Nat.le_of_ble_eq_true rfl)⟩) hS (fun q _ h => hFc q h) hFc (fun r_171 u_ t_ H170 locs ht hvm hw hB hz1 hk1 hS => ?_)
                subst hw
                obtain ⟨x172, x173, z174, J175, hP1, hD1, hI176⟩ := hB
                rw [ht] at hP1
                have hP := hP1
                have hD := dW hFc hD1
                obtain ⟨im177, im178, im179, im180, im181, im182, im183, im184, im185, im186, im187, im188, im189, im190, im191, im192, im193, im194, im195, im196, im197, im198, im199, im200, im201, im202, im203, im204, im205, im206, im207, im208, im209⟩ := id hI176
                refine lv_iadd hx hb dX9_will_62 ?_
                refine lv_topi (fun x210 ex210 => ?_)
                refine lv_istore (lv' := [(4, .int x210), (0, .ref (r 0)), (1, .int p0), (2, .int p1), (3, .int p2), (5, .int y40_5)]) hx hb dX9_will_63 hl (by decide) rfl (fun ls hl => ?_)
                obtain ⟨x211, ex211⟩ : ∃ y : Int32, y = y40_5 + Int32.ofInt 1 := ⟨_, rfl⟩
                have f212 : x211.toInt = y40_5.toInt + 1 := (ob_142 (qi_add ex211 rfl (by decide) (ob_140 g40_0) (ob_1231 g40_1)))
                refine lv_iinc (v := x211) (lv' := [(5, .int x211), (4, .int x210), (0, .ref (r 0)), (1, .int p0), (2, .int p1), (3, .int p2)]) hx hb dX9_will_65 hl (k := 5) rfl ex211.symm (by decide) rfl (fun ls hl => ?_)
                refine lv_goto (tgt := 40) hx hb dX9_will_68 (by decide) ?_
                exact ih40 x210 x211 x172 x173 z174 J175 H170 _ _ (ob_149 g40_0 f212) (ob_1232 f26 f122 f212) im204 hP hD hS (lv_sub hl [2, 3, 4, 5, 1, 0] rfl) (ob_1233 hM40 f212)
        exact L40 (-1 * (0 : Int32).toInt + 60 + 1).toNat 0 0 i_askHouse i_askTune f_all J H40 _ _ (ob_1 zc_0) (ob_1234 zc_0) ie27 hP hD hS (lv_sub hl [2, 3, 4, 5, 1, 0] rfl) (mlt (ob_1235 zc_0))
      · skip
        have f213 : r_30.toInt = 0 := qi_eq c_34 rfl zc_0
        refine lv_bipush (v := (-2)) hx hb dX9_will_27 (by decide) ?_
        rw [hQ]
        exact W.iret (v := (-2)) hx hb hr (fun t ht hW => ⟨⟨(-2), (-2), rfl, rfl, ⟨i_askHouse, i_askTune, f_all, f_kept, J, by rw [ht]; exact hP, hD, hI⟩⟩, hS.F ht⟩) hS.2.2 dX9_will_29
set_option maxHeartbeats 4000000 in
set_option maxRecDepth 100000 in
theorem kX9_purse (l : Launch) (dC : Nat → ClassId) (dI : Nat → Nat → Nat) (r : Nat → Nat) (ct : Nat → ClassId) (i_taped i_size i_faultKind i_at i_end i_token i_number i_bank i_rb i_codes i_within i_piled i_unitsInRule i_askHouse i_askTune i_acts i_undone i_laid i_knowns i_time : Int32) (f_text f_tunes f_houses f_hums f_told f_many f_ruleFrom f_ruleTo f_code f_eWhat f_eSign f_all f_kept f_was f_sTune f_boxAll : Nat → Int32) (J : Nat → Nat → Int32) (L : Nat → Nat → Int64) (p0 p1 : Int32) (sz : Nat) (hI : (IM i_taped i_size i_faultKind i_at i_end i_bank i_rb i_acts i_undone i_laid i_knowns i_time f_tunes f_houses f_hums f_told f_many f_ruleFrom f_ruleTo f_code f_all f_kept f_was f_sTune f_boxAll)) : Met l yX9_purse (.code yX9_purse cX9_purse 5 (some .int) :: GW) { frames := 24, cells := 0, slots := 0, locals := 794 } (va_Pc [.ref (r 0), .int p0, .int p1] (pW (dC, dI) (WM r ct i_taped i_size i_faultKind i_at i_end i_token i_number i_bank i_rb i_codes i_within i_piled i_unitsInRule i_askHouse i_askTune i_acts i_undone i_laid i_knowns i_time f_text f_tunes f_houses f_hums f_told f_many f_ruleFrom f_ruleTo f_code f_eWhat f_eSign f_all f_kept f_was f_sTune f_boxAll J L) (TM ct) sz)) (va_Qi (fun (r0 : Int32) (u : Int32) => r0 = u) (fun (u : Int32) (t : State) => ∃ (n_i_askHouse n_i_askTune : Int32) (n_f_all n_f_kept : Nat → Int32) (n_J : Nat → Nat → Int32), va_P (dC, dI) vwCl (WM r ct i_taped i_size i_faultKind i_at i_end i_token i_number i_bank i_rb i_codes i_within i_piled i_unitsInRule n_i_askHouse n_i_askTune i_acts i_undone i_laid i_knowns i_time f_text f_tunes f_houses f_hums f_told f_many f_ruleFrom f_ruleTo f_code f_eWhat f_eSign n_f_all n_f_kept f_was f_sTune f_boxAll n_J L) t.heap ∧ va_D (va_A (WM r ct i_taped i_size i_faultKind i_at i_end i_token i_number i_bank i_rb i_codes i_within i_piled i_unitsInRule i_askHouse i_askTune i_acts i_undone i_laid i_knowns i_time f_text f_tunes f_houses f_hums f_told f_many f_ruleFrom f_ruleTo f_code f_eWhat f_eSign f_all f_kept f_was f_sTune f_boxAll J L) sz) (WM r ct i_taped i_size i_faultKind i_at i_end i_token i_number i_bank i_rb i_codes i_within i_piled i_unitsInRule n_i_askHouse n_i_askTune i_acts i_undone i_laid i_knowns i_time f_text f_tunes f_houses f_hums f_told f_many f_ruleFrom f_ruleTo f_code f_eWhat f_eSign n_f_all n_f_kept f_was f_sTune f_boxAll n_J L) ∧ (IM i_taped i_size i_faultKind i_at i_end i_bank i_rb i_acts i_undone i_laid i_knowns i_time f_tunes f_houses f_hums f_told f_many f_ruleFrom f_ruleTo f_code n_f_all n_f_kept f_was f_sTune f_boxAll)) (va_A (WM r ct i_taped i_size i_faultKind i_at i_end i_token i_number i_bank i_rb i_codes i_within i_piled i_unitsInRule i_askHouse i_askTune i_acts i_undone i_laid i_knowns i_time f_text f_tunes f_houses f_hums f_told f_many f_ruleFrom f_ruleTo f_code f_eWhat f_eSign f_all f_kept f_was f_sTune f_boxAll J L) sz)) 0 0 (va_A (WM r ct i_taped i_size i_faultKind i_at i_end i_token i_number i_bank i_rb i_codes i_within i_piled i_unitsInRule i_askHouse i_askTune i_acts i_undone i_laid i_knowns i_time f_text f_tunes f_houses f_hums f_told f_many f_ruleFrom f_ruleTo f_code f_eWhat f_eSign f_all f_kept f_was f_sTune f_boxAll J L) sz) := by
  refine Met.ofW (cc := cX9_purse) (maxL := 5) (ret := (some .int)) (by decide) rfl ?_
  intro p e s m args below meth c0 s₁ B hml hv
  obtain ⟨rfl, hsz, hP, hK, hD0⟩ := hv
  have hx := B.exec
  have hb := B.bytes
  have hr := B.returns
  have hts := atoms_spec (ws := .code yX9_purse cX9_purse 5 (some .int) :: GW) B.pre
  have hG : ∀ w ∈ GW, w.before _ s = true := fun w h => hts w (List.mem_cons_of_mem _ h)
  have hown : s.vm.findClass RX9 = some m.cls := findClass_of_methodNamed B.named
  subst hsz
  have hD := hD0.self (sz := s.heap.size)
  generalize hAe : va_A (WM r ct i_taped i_size i_faultKind i_at i_end i_token i_number i_bank i_rb i_codes i_within i_piled i_unitsInRule i_askHouse i_askTune i_acts i_undone i_laid i_knowns i_time f_text f_tunes f_houses f_hums f_told f_many f_ruleFrom f_ruleTo f_code f_eWhat f_eSign f_all f_kept f_was f_sTune f_boxAll J L) s.heap.size = A at hD ⊢
  have hA : ∀ q : Nat, s.heap.size ≤ q → A q := fun q h => by rw [← hAe]; exact Or.inr h
  have hS : va_S A s.heap s.heap [] := va_S.rf
  have hP : va_P (dC, dI) vwCl (WM r ct i_taped i_size i_faultKind i_at i_end i_token i_number i_bank i_rb i_codes i_within i_piled i_unitsInRule i_askHouse i_askTune i_acts i_undone i_laid i_knowns i_time f_text f_tunes f_houses f_hums f_told f_many f_ruleFrom f_ruleTo f_code f_eWhat f_eSign f_all f_kept f_was f_sTune f_boxAll J L) s.heap := hP
  have hl := lv_entry ([.ref (r 0), .int p0, .int p1]) (n := 5) (Nat.le_of_ble_eq_true rfl)
  rw [lg_entry_eq]
  generalize (lg_sl ([.ref (r 0), .int p0, .int p1]) ++ List.replicate (5 - (lg_sl ([.ref (r 0), .int p0, .int p1])).length) Slot.unset).toArray = ls at hl ⊢
  have hl : lv_has ls 5 [(0, .ref (r 0)), (1, .int p0), (2, .int p1)] := hl
  refine nameQ (fun Q hQ => ?_)
  obtain ⟨ie0, ie1, ie2, ie3, ie4, ie5, ie6, ie7, ie8, ie9, ie10, ie11, ie12, ie13, ie14, ie15, ie16, ie17, ie18, ie19, ie20, ie21, ie22, ie23, ie24, ie25, ie26, ie27, ie28, ie29, ie30, ie31, ie32⟩ := id hI
  have f1 : 0 ≤ (f_tunes (i_bank.toInt).toNat).toInt ∧ (f_tunes (i_bank.toInt).toNat).toInt ≤ 5 := ie21 (i_bank.toInt)
  have f2 : 0 ≤ (f_houses (i_bank.toInt).toNat).toInt ∧ (f_houses (i_bank.toInt).toNat).toInt ≤ 4 := ie22 (i_bank.toInt)
  refine lv_aload_n hx hb dX9_purse_0 rfl (lv_at hl 0 rfl) ?_
  refine lv_iload_n hx hb dX9_purse_1 rfl (lv_at hl 1 rfl) ?_
  refine va_calli (va_runV (As := [.int p0]) (rest := []) ⟨hx, hb, hml, hown, hG⟩ (kX9_isHouse l dC dI r ct i_taped i_size i_faultKind i_at i_end i_token i_number i_bank i_rb i_codes i_within i_piled i_unitsInRule i_askHouse i_askTune i_acts i_undone i_laid i_knowns i_time f_text f_tunes f_houses f_hums f_told f_many f_ruleFrom f_ruleTo f_code f_eWhat f_eSign f_all f_kept f_was f_sTune f_boxAll J L p0 s.heap.size hI) (cwV 1 hG (goodV gw1542 gw1544 gw90 gw138 gw1545) rfl rfl rfl hd_X9_isHouse ⟨(Nat.le_of_ble_eq_true rfl), (Nat.le_of_ble_eq_true rfl)⟩) ⟨fbR, va_recv hK hP (ci := 8) (q0 := 0) rfl rfl, pR_in hP hK⟩ rfl rfl hl.1 rfl (lv_room (Nat.le_of_ble_eq_true rfl)) dX9_purse_2 ⟨(Nat.le_of_ble_eq_true rfl), (Nat.le_of_ble_eq_true rfl)⟩) hS (fun q hq h => absurd hq (Nat.not_lt.mpr h)) (fun q h => hA q (Nat.le_trans hS.1 h)) (fun r_4 u_ t_ H3 locs ht hvm hw hB hz1 hk1 hS => ?_)
  subst hw
  have hP := wk hP hk1
  obtain ⟨f5, f6, f7, f8, f9⟩ := hB
  refine lv_if_eq (tgt := 18) hx hb dX9_purse_5 (by decide) (fun c_10 => ?_) (fun c_10 => ?_)
  · skip
    have f11 : r_4.toInt = 0 := qi_eq c_10 rfl zc_0
    refine lv_iconst (v := (-1)) hx hb dX9_purse_18 (by decide) ?_
    rw [hQ]
    exact W.iret (v := (-1)) hx hb hr (fun t ht hW => ⟨⟨(-1), (-1), rfl, rfl, ⟨i_askHouse, i_askTune, f_all, f_kept, J, by rw [ht]; exact hP, hD, hI⟩⟩, hS.F ht⟩) hS.2.2 dX9_purse_19
  · skip
    have f12 : r_4.toInt ≠ 0 := qi_ne c_10 rfl zc_0
    have f13 : (0 : Int) ≤ p0.toInt := (ob_1090 f5 f12)
    have f14 : p0.toInt + 1 ≤ (f_houses (i_bank.toInt).toNat).toInt := (ob_1091 f5 f12)
    have f15 : r_4.toInt = (1 : Int) := (ob_1092 f5 f12)
    have f16 : (1 : Int) ≤ r_4.toInt := (ob_395 f15)
    refine lv_iload_n hx hb dX9_purse_8 rfl (lv_at hl 2 rfl) ?_
    refine lv_iconst (v := 0) hx hb dX9_purse_9 (by decide) ?_
    refine lv_bipush (v := 60) hx hb dX9_purse_10 (by decide) ?_
    refine va_calli (va_runS (As := [.int p1, .int 0, .int 60]) (rest := []) ⟨hx, hb, hml, hown, hG⟩ (kX9_isIn l dC dI p1 0 60 H3.size) (va_cwS 3 hG (goodS gw1516 gw1517 gw138 gw1518) rfl rfl rfl hd_X9_isIn ⟨(Nat.le_of_ble_eq_true rfl), (Nat.le_of_ble_eq_true rfl)⟩) ⟨fbR, pR_in emptyP (emptyK hK)⟩ rfl rfl hl.1 rfl (lv_room (Nat.le_of_ble_eq_true rfl)) dX9_purse_12 ⟨(Nat.le_of_ble_eq_true rfl), (Nat.le_of_ble_eq_true rfl)⟩) hS (fun q hq h => absurd hq (Nat.not_lt.mpr h)) (fun q h => hA q (Nat.le_trans hS.1 h)) (fun r_18 u_ t_ H17 locs ht hvm hw hB hz1 hk1 hS => ?_)
    subst hw
    have hP := wk hP hk1
    obtain ⟨f19, f20, f21⟩ := hB
    refine lv_if_ne (tgt := 20) hx hb dX9_purse_15 (by decide) (fun c_22 => ?_) (fun c_22 => ?_)
    · skip
      have f23 : r_18.toInt ≠ 0 := qi_ne c_22 rfl zc_0
      have f24 : (0 : Int) ≤ p1.toInt := (ob_1225 f19 f23 zc_60 zc_0)
      have f25 : p1.toInt ≤ (60 : Int) := (ob_1226 f19 f23 zc_60 zc_0)
      have f26 : r_18.toInt = (1 : Int) := (ob_1227 f19 f23 zc_60 zc_0)
      have f27 : (1 : Int) ≤ r_18.toInt := (ob_162 f20 f21 f26)
      refine lv_aload_n hx hb dX9_purse_20 rfl (lv_at hl 0 rfl) ?_
      have hFc := frA hD hS hA
      refine va_callv (va_runV (As := []) (rest := []) ⟨hx, hb, hml, hown, hG⟩ (kX9_keepNow l dC dI r ct i_taped i_size i_faultKind i_at i_end i_token i_number i_bank i_rb i_codes i_within i_piled i_unitsInRule i_askHouse i_askTune i_acts i_undone i_laid i_knowns i_time f_text f_tunes f_houses f_hums f_told f_many f_ruleFrom f_ruleTo f_code f_eWhat f_eSign f_all f_kept f_was f_sTune f_boxAll J L H17.size hI) (cwV 0 hG (goodV gw1736 gw1738 gw113 gw138 gw1739) rfl rfl rfl hd_X9_keepNow ⟨(Nat.le_of_ble_eq_true rfl), (Nat.le_of_ble_eq_true rfl)⟩) ⟨fbW, va_recv hK hP (ci := 8) (q0 := 0) rfl rfl, pW_in hP hK hD⟩ rfl rfl hl.1 rfl (lv_room (Nat.le_of_ble_eq_true rfl)) dX9_purse_21 ⟨(Nat.le_of_ble_eq_true rfl), (Nat.le_of_ble_eq_true rfl)⟩) hS (fun q _ h => hFc q h) hFc (fun _ t_ H28 locs ht hvm hw hB hz1 hk1 hS => ?_)
      obtain ⟨z30, hP1, hD1, hI31⟩ := hB
      rw [ht] at hP1
      have hP := hP1
      have hD := dW hFc hD1
      obtain ⟨im32, im33, im34, im35, im36, im37, im38, im39, im40, im41, im42, im43, im44, im45, im46, im47, im48, im49, im50, im51, im52, im53, im54, im55, im56, im57, im58, im59, im60, im61, im62, im63, im64⟩ := id hI31
      refine lv_iconst (v := 0) hx hb dX9_purse_24 (by decide) ?_
      refine lv_istore_n (lv' := [(3, .int 0), (0, .ref (r 0)), (1, .int p0), (2, .int p1)]) hx hb dX9_purse_25 rfl hl (by decide) rfl (fun ls hl => ?_)
      refine lv_iconst (v := 0) hx hb dX9_purse_26 (by decide) ?_
      refine lv_istore (lv' := [(4, .int 0), (3, .int 0), (0, .ref (r 0)), (1, .int p0), (2, .int p1)]) hx hb dX9_purse_27 hl (by decide) rfl (fun ls hl => ?_)
      have L29 : ∀ (N29 : Nat) (y29_3 y29_4 : Int32) (m29_i_askHouse m29_i_askTune : Int32) (m29_f_all : Nat → Int32) (m29_J : Nat → Nat → Int32) (H29 : Heap) (locs : List Loc) (ls : Array Slot) (g29_0 : (0 : Int) ≤ y29_4.toInt) (g29_1 : y29_4.toInt ≤ (60 : Int)) (gi29_all_p : EW m29_f_all) (hP : va_P (dC, dI) vwCl (WM r ct i_taped i_size i_faultKind i_at i_end i_token i_number i_bank i_rb i_codes i_within i_piled i_unitsInRule m29_i_askHouse m29_i_askTune i_acts i_undone i_laid i_knowns i_time f_text f_tunes f_houses f_hums f_told f_many f_ruleFrom f_ruleTo f_code f_eWhat f_eSign m29_f_all z30 f_was f_sTune f_boxAll m29_J L) H29) (hD : va_D A (WM r ct i_taped i_size i_faultKind i_at i_end i_token i_number i_bank i_rb i_codes i_within i_piled i_unitsInRule m29_i_askHouse m29_i_askTune i_acts i_undone i_laid i_knowns i_time f_text f_tunes f_houses f_hums f_told f_many f_ruleFrom f_ruleTo f_code f_eWhat f_eSign m29_f_all z30 f_was f_sTune f_boxAll m29_J L)) (hS : va_S A s.heap H29 locs) (hl : lv_has ls 5 [(0, .ref (r 0)), (1, .int p0), (2, .int p1), (3, .int y29_3), (4, .int y29_4)]) (hM : -1 * y29_4.toInt + 60 < (N29 : Int)), W p l e { frames := 24, cells := 0, slots := 0, locals := 794 } s m ([.ref (r 0), .int p0, .int p1] : List Value).toArray below meth c0 H29 locs 0 0 Q (F0 m 29 ls []) := by
        intro N29
        induction N29 with
        | zero =>
          intro y29_3 y29_4 m29_i_askHouse m29_i_askTune m29_f_all m29_J H29 locs ls g29_0 g29_1 gi29_all_p hP hD hS hl hM
          exact ((ob_1228 hM g29_0 g29_1)).elim
        | succ N29 ih29 =>
          intro y29_3 y29_4 m29_i_askHouse m29_i_askTune m29_f_all m29_J H29 locs ls g29_0 g29_1 gi29_all_p hP hD hS hl hM
          have hM29 := msucc hM
          refine lv_iload hx hb dX9_purse_29 (lv_at hl 4 rfl) ?_
          refine lv_iload_n hx hb dX9_purse_31 rfl (lv_at hl 2 rfl) ?_
          refine lv_icmp_ge (tgt := 49) hx hb dX9_purse_32 (by decide) (fun c_65 => ?_) (fun c_65 => ?_)
          · skip
            have f66 : p1.toInt ≤ y29_4.toInt := qi_le c_65 rfl rfl
            refine lv_aload_n hx hb dX9_purse_49 rfl (lv_at hl 0 rfl) ?_
            refine gM_X9_88_0 hx hb hG hown hK hP dX9_purse_50 ?_
            refine lv_bipush (v := 20) hx hb dX9_purse_53 (by decide) ?_
            refine lv_iload_n hx hb dX9_purse_55 rfl (lv_at hl 1 rfl) ?_
            refine lv_iadd hx hb dX9_purse_56 ?_
            refine lv_topi (fun x67 ex67 => ?_)
            have f68 : x67.toInt = p0.toInt + 20 := (ob_784 (qi_add ex67 zc_20 rfl (ob_921 f13 f14) (ob_1105 f2 f14)))
            refine ldM_25 (mm := p0.toInt + 20) hx hb hK hP f68 (ob_923 f13 f14) (ob_1106 f2 f14) dX9_purse_57 ?_
            refine lv_istore (lv' := [(4, .int (m29_f_all (p0.toInt + 20).toNat)), (0, .ref (r 0)), (1, .int p0), (2, .int p1), (3, .int y29_3)]) hx hb dX9_purse_58 hl (by decide) rfl (fun ls hl => ?_)
            refine lv_aload_n hx hb dX9_purse_60 rfl (lv_at hl 1 rfl) ?_
            have hFc := frA hD hS hA
            refine va_callv (va_runV (As := []) (rest := []) ⟨hx, hb, hml, hown, hG⟩ (kX9_bringBack l dC dI r ct i_taped i_size i_faultKind i_at i_end i_token i_number i_bank i_rb i_codes i_within i_piled i_unitsInRule m29_i_askHouse m29_i_askTune i_acts i_undone i_laid i_knowns i_time f_text f_tunes f_houses f_hums f_told f_many f_ruleFrom f_ruleTo f_code f_eWhat f_eSign m29_f_all z30 f_was f_sTune f_boxAll m29_J L H29.size ⟨ie0, ie1, ie2, ie3, ie4, ie5, ie6, ie7, ie8, ie9, ie10, ie11, ie12, ie13, ie14, ie15, ie16, ie17, ie18, ie19, ie20, ie21, ie22, ie23, ie24, ie25, ie26, gi29_all_p, im60, ie29, ie30, ie31, ie32⟩) (cwV 0 hG (goodV gw1740 gw1742 gw114 gw138 gw1743) rfl rfl rfl hd_X9_bringBack ⟨(Nat.le_of_ble_eq_true rfl), (Nat.le_of_ble_eq_true rfl)⟩) ⟨fbW, va_recv hK hP (ci := 8) (q0 := 0) rfl rfl, pW_in hP hK hD⟩ rfl rfl hl.1 rfl (lv_room (Nat.le_of_ble_eq_true rfl)) dX9_purse_61 ⟨(Nat.le_of_ble_eq_true rfl), (Nat.le_of_ble_eq_true rfl)⟩) hS (fun q _ h => hFc q h) hFc (fun _ t_ H69 locs ht hvm hw hB hz1 hk1 hS => ?_)
            obtain ⟨z71, hP1, hD1, hI72⟩ := hB
            rw [ht] at hP1
            have hP := hP1
            have hD := dW hFc hD1
            obtain ⟨im73, im74, im75, im76, im77, im78, im79, im80, im81, im82, im83, im84, im85, im86, im87, im88, im89, im90, im91, im92, im93, im94, im95, im96, im97, im98, im99, im100, im101, im102, im103, im104, im105⟩ := id hI72
            refine lv_iload hx hb dX9_purse_64 (lv_at hl 0 rfl) ?_
            rw [hQ]
            exact W.iret (v := (m29_f_all (p0.toInt + 20).toNat)) hx hb hr (fun t ht hW => ⟨⟨(m29_f_all (p0.toInt + 20).toNat), (m29_f_all (p0.toInt + 20).toNat), rfl, rfl, ⟨m29_i_askHouse, m29_i_askTune, z71, z30, m29_J, by rw [ht]; exact hP, hD, hI72⟩⟩, hS.F ht⟩) hS.2.2 dX9_purse_66
          · skip
            have f106 : y29_4.toInt < p1.toInt := qi_nle c_65 rfl rfl
            refine lv_iload_n hx hb dX9_purse_35 rfl (lv_at hl 3 rfl) ?_
            refine lv_aload_n hx hb dX9_purse_36 rfl (lv_at hl 0 rfl) ?_
            refine lv_iconst (v := 0) hx hb dX9_purse_37 (by decide) ?_
            have hFc := frA hD hS hA
            refine va_calli (va_runV (As := [.int 0]) (rest := [.int y29_3]) ⟨hx, hb, hml, hown, hG⟩ (kX9_goWeek l dC dI r ct i_taped i_size i_faultKind i_at i_end i_token i_number i_bank i_rb i_codes i_within i_piled i_unitsInRule m29_i_askHouse m29_i_askTune i_acts i_undone i_laid i_knowns i_time f_text f_tunes f_houses f_hums f_told f_many f_ruleFrom f_ruleTo f_code f_eWhat f_eSign m29_f_all z30 f_was f_sTune f_boxAll m29_J L 0 H29.size ⟨ie0, ie1, ie2, ie3, ie4, ie5, ie6, ie7, ie8, ie9, ie10, ie11, ie12, ie13, ie14, ie15, ie16, ie17, ie18, ie19, ie20, ie21, ie22, ie23, ie24, ie25, ie26, gi29_all_p, im60, ie29, ie30, ie31, ie32⟩ (ob_1230 zc_0)) (cwV 1 hG (goodV gw1688 gw1690 gw108 gw138 gw1691) rfl rfl rfl hd_X9_goWeek ⟨(Nat.le_of_ble_eq_true rfl), (Nat.le_of_ble_eq_true rfl)⟩) ⟨fbW, va_recv hK hP (ci := 8) (q0 := 0) rfl rfl, pW_in hP hK hD⟩ rfl rfl hl.1 rfl (lv_room (Nat.le_of_ble_eq_true rfl)) dX9_purse_38 ⟨(Nat.le_of_ble_eq_true rfl), (Nat.le_of_ble_eq_true rfl)⟩) hS (fun q _ h => hFc q h) hFc (fun r_108 u_ t_ H107 locs ht hvm hw hB hz1 hk1 hS => ?_)
            subst hw
            obtain ⟨x109, x110, z111, J112, hP1, hD1, hI113⟩ := hB
            rw [ht] at hP1
            have hP := hP1
            have hD := dW hFc hD1
            obtain ⟨im114, im115, im116, im117, im118, im119, im120, im121, im122, im123, im124, im125, im126, im127, im128, im129, im130, im131, im132, im133, im134, im135, im136, im137, im138, im139, im140, im141, im142, im143, im144, im145, im146⟩ := id hI113
            refine lv_iadd hx hb dX9_purse_41 ?_
            refine lv_topi (fun x147 ex147 => ?_)
            refine lv_istore_n (lv' := [(3, .int x147), (0, .ref (r 0)), (1, .int p0), (2, .int p1), (4, .int y29_4)]) hx hb dX9_purse_42 rfl hl (by decide) rfl (fun ls hl => ?_)
            obtain ⟨x148, ex148⟩ : ∃ y : Int32, y = y29_4 + Int32.ofInt 1 := ⟨_, rfl⟩
            have f149 : x148.toInt = y29_4.toInt + 1 := (ob_142 (qi_add ex148 rfl (by decide) (ob_140 g29_0) (ob_1231 g29_1)))
            refine lv_iinc (v := x148) (lv' := [(4, .int x148), (3, .int x147), (0, .ref (r 0)), (1, .int p0), (2, .int p1)]) hx hb dX9_purse_43 hl (k := 4) rfl ex148.symm (by decide) rfl (fun ls hl => ?_)
            refine lv_goto (tgt := 29) hx hb dX9_purse_46 (by decide) ?_
            exact ih29 x147 x148 x109 x110 z111 J112 H107 _ _ (ob_149 g29_0 f149) (ob_1232 f25 f106 f149) im141 hP hD hS (lv_sub hl [2, 3, 4, 1, 0] rfl) (ob_1233 hM29 f149)
      exact L29 (-1 * (0 : Int32).toInt + 60 + 1).toNat 0 0 i_askHouse i_askTune f_all J H28 _ _ (ob_1 zc_0) (ob_1234 zc_0) ie27 hP hD hS (lv_sub hl [2, 3, 4, 1, 0] rfl) (mlt (ob_1235 zc_0))
    · skip
      have f150 : r_18.toInt = 0 := qi_eq c_22 rfl zc_0
      refine lv_iconst (v := (-1)) hx hb dX9_purse_18 (by decide) ?_
      rw [hQ]
      exact W.iret (v := (-1)) hx hb hr (fun t ht hW => ⟨⟨(-1), (-1), rfl, rfl, ⟨i_askHouse, i_askTune, f_all, f_kept, J, by rw [ht]; exact hP, hD, hI⟩⟩, hS.F ht⟩) hS.2.2 dX9_purse_19
set_option maxHeartbeats 4000000 in
set_option maxRecDepth 100000 in
theorem kX9_lies (l : Launch) (dC : Nat → ClassId) (dI : Nat → Nat → Nat) (r : Nat → Nat) (ct : Nat → ClassId) (i_taped i_size i_faultKind i_at i_end i_token i_number i_bank i_rb i_codes i_within i_piled i_unitsInRule i_askHouse i_askTune i_acts i_undone i_laid i_knowns i_time : Int32) (f_text f_tunes f_houses f_hums f_told f_many f_ruleFrom f_ruleTo f_code f_eWhat f_eSign f_all f_kept f_was f_sTune f_boxAll : Nat → Int32) (J : Nat → Nat → Int32) (L : Nat → Nat → Int64) (p0 : Int32) (sz : Nat) (hI : (IM i_taped i_size i_faultKind i_at i_end i_bank i_rb i_acts i_undone i_laid i_knowns i_time f_tunes f_houses f_hums f_told f_many f_ruleFrom f_ruleTo f_code f_all f_kept f_was f_sTune f_boxAll)) : Met l yX9_lies (.code yX9_lies cX9_lies 2 (some .int) :: GW) { frames := 4, cells := 0, slots := 0, locals := 162 } (va_Pc [.ref (r 0), .int p0] (pR (dC, dI) (WM r ct i_taped i_size i_faultKind i_at i_end i_token i_number i_bank i_rb i_codes i_within i_piled i_unitsInRule i_askHouse i_askTune i_acts i_undone i_laid i_knowns i_time f_text f_tunes f_houses f_hums f_told f_many f_ruleFrom f_ruleTo f_code f_eWhat f_eSign f_all f_kept f_was f_sTune f_boxAll J L) (TM ct) sz)) (va_Qi (fun (r0 : Int32) (u : Int32) => r0 = u) (fun (u : Int32) (t : State) => True) (fun q => sz ≤ q)) 0 0 (fun q => sz ≤ q) := by
  refine Met.ofW (cc := cX9_lies) (maxL := 2) (ret := (some .int)) (by decide) rfl ?_
  intro p e s m args below meth c0 s₁ B hml hv
  obtain ⟨rfl, hsz, hP, hK⟩ := hv
  have hx := B.exec
  have hb := B.bytes
  have hr := B.returns
  have hts := atoms_spec (ws := .code yX9_lies cX9_lies 2 (some .int) :: GW) B.pre
  have hG : ∀ w ∈ GW, w.before _ s = true := fun w h => hts w (List.mem_cons_of_mem _ h)
  have hown : s.vm.findClass RX9 = some m.cls := findClass_of_methodNamed B.named
  subst hsz
  have hS : va_S (fun q => s.heap.size ≤ q) s.heap s.heap [] := va_S.rf
  have hP : va_P (dC, dI) vwCl (WM r ct i_taped i_size i_faultKind i_at i_end i_token i_number i_bank i_rb i_codes i_within i_piled i_unitsInRule i_askHouse i_askTune i_acts i_undone i_laid i_knowns i_time f_text f_tunes f_houses f_hums f_told f_many f_ruleFrom f_ruleTo f_code f_eWhat f_eSign f_all f_kept f_was f_sTune f_boxAll J L) s.heap := hP
  have hl := lv_entry ([.ref (r 0), .int p0]) (n := 2) (Nat.le_of_ble_eq_true rfl)
  rw [lg_entry_eq]
  generalize (lg_sl ([.ref (r 0), .int p0]) ++ List.replicate (2 - (lg_sl ([.ref (r 0), .int p0])).length) Slot.unset).toArray = ls at hl ⊢
  have hl : lv_has ls 2 [(0, .ref (r 0)), (1, .int p0)] := hl
  refine nameQ (fun Q hQ => ?_)
  obtain ⟨ie0, ie1, ie2, ie3, ie4, ie5, ie6, ie7, ie8, ie9, ie10, ie11, ie12, ie13, ie14, ie15, ie16, ie17, ie18, ie19, ie20, ie21, ie22, ie23, ie24, ie25, ie26, ie27, ie28, ie29, ie30, ie31, ie32⟩ := id hI
  have f1 : 0 ≤ (f_tunes (i_bank.toInt).toNat).toInt ∧ (f_tunes (i_bank.toInt).toNat).toInt ≤ 5 := ie21 (i_bank.toInt)
  have f2 : 0 ≤ (f_houses (i_bank.toInt).toNat).toInt ∧ (f_houses (i_bank.toInt).toNat).toInt ≤ 4 := ie22 (i_bank.toInt)
  refine lv_iload_n hx hb dX9_lies_0 rfl (lv_at hl 1 rfl) ?_
  refine lv_iconst (v := 0) hx hb dX9_lies_1 (by decide) ?_
  refine lv_aload_n hx hb dX9_lies_2 rfl (lv_at hl 0 rfl) ?_
  refine gM_X9_373_0 hx hb hG hown hK hP dX9_lies_3 ?_
  refine lv_iconst (v := 1) hx hb dX9_lies_6 (by decide) ?_
  refine lv_isub hx hb dX9_lies_7 ?_
  refine lv_topi (fun x3 ex3 => ?_)
  have f4 : x3.toInt = i_laid.toInt + (-1) := (ob_346 (qi_sub ex3 rfl zc_1 (ob_1236 ie8 ie9) (ob_1237 ie8 ie9)))
  refine va_calli (va_runS (As := [.int p0, .int 0, .int x3]) (rest := []) ⟨hx, hb, hml, hown, hG⟩ (kX9_isIn l dC dI p0 0 x3 s.heap.size) (va_cwS 3 hG (goodS gw1516 gw1517 gw138 gw1518) rfl rfl rfl hd_X9_isIn ⟨(Nat.le_of_ble_eq_true rfl), (Nat.le_of_ble_eq_true rfl)⟩) ⟨fbR, pR_in emptyP (emptyK hK)⟩ rfl rfl hl.1 rfl (lv_room (Nat.le_of_ble_eq_true rfl)) dX9_lies_8 ⟨(Nat.le_of_ble_eq_true rfl), (Nat.le_of_ble_eq_true rfl)⟩) hS (fun q hq h => absurd hq (Nat.not_lt.mpr h)) (fun q h => Nat.le_trans hS.1 h) (fun r_6 u_ t_ H5 locs ht hvm hw hB hz1 hk1 hS => ?_)
  subst hw
  have hP := wk hP hk1
  obtain ⟨f7, f8, f9⟩ := hB
  refine lv_if_eq (tgt := 23) hx hb dX9_lies_11 (by decide) (fun c_10 => ?_) (fun c_10 => ?_)
  · skip
    have f11 : r_6.toInt = 0 := qi_eq c_10 rfl zc_0
    refine lv_bipush (v := (-2)) hx hb dX9_lies_23 (by decide) ?_
    rw [hQ]
    exact W.iret (v := (-2)) hx hb hr (fun t ht hW => ⟨⟨(-2), (-2), rfl, rfl, trivial⟩, hS.F ht⟩) hS.2.2 dX9_lies_25
  · skip
    have f12 : r_6.toInt ≠ 0 := qi_ne c_10 rfl zc_0
    have f13 : (0 : Int) ≤ p0.toInt := (ob_1101 f7 f12 f4 zc_0)
    have f14 : p0.toInt + 1 ≤ i_laid.toInt := (ob_1102 f7 f12 f4 zc_0)
    have f15 : r_6.toInt = (1 : Int) := (ob_1103 f7 f12 f4 zc_0)
    have f16 : (1 : Int) ≤ r_6.toInt := (ob_162 f8 f9 f15)
    refine lv_aload_n hx hb dX9_lies_14 rfl (lv_at hl 0 rfl) ?_
    refine gM_X9_97_0 hx hb hG hown hK hP dX9_lies_15 ?_
    refine lv_iload_n hx hb dX9_lies_18 rfl (lv_at hl 1 rfl) ?_
    refine ldM_28 (mm := p0.toInt) hx hb hK hP rfl (ob_1029 f13 f14) (ob_1238 ie9 f14) dX9_lies_19 (fun x17 => ?_)
    refine lv_goto (tgt := 25) hx hb dX9_lies_20 (by decide) ?_
    rw [hQ]
    exact W.iret (v := x17) hx hb hr (fun t ht hW => ⟨⟨x17, x17, rfl, rfl, trivial⟩, hS.F ht⟩) hS.2.2 dX9_lies_25
set_option maxHeartbeats 4000000 in
set_option maxRecDepth 100000 in
theorem kX9_power_v1 (l : Launch) (dC : Nat → ClassId) (dI : Nat → Nat → Nat) (p0 p1 : Int32) (sz : Nat) (hp0 : (1 : Int) ≤ p0.toInt) (hp1 : p0.toInt ≤ (6 : Int)) (hp2 : (0 : Int) ≤ p1.toInt) (hp3 : p1.toInt ≤ (4 : Int)) : Met l yX9_power (.code yX9_power cX9_power 4 (some .int) :: GW) { frames := 2, cells := 0, slots := 0, locals := 100 } (va_Pc [.int p0, .int p1] (pR (dC, dI) [] [] sz)) (va_Qi (fun (r0 : Int32) (u : Int32) => r0 = u) (fun (u : Int32) (t : State) => (u.toInt = (pw p0.toInt (p1.toInt).toNat)) ∧ ((1 : Int) ≤ (pw p0.toInt (p1.toInt).toNat)) ∧ ((pw p0.toInt (p1.toInt).toNat) ≤ (1296 : Int))) (fun q => sz ≤ q)) 0 0 (fun q => sz ≤ q) := by
  refine Met.ofW (cc := cX9_power) (maxL := 4) (ret := (some .int)) (by decide) rfl ?_
  intro p e s m args below meth c0 s₁ B hml hv
  obtain ⟨rfl, hsz, hP, hK⟩ := hv
  have hx := B.exec
  have hb := B.bytes
  have hr := B.returns
  have hts := atoms_spec (ws := .code yX9_power cX9_power 4 (some .int) :: GW) B.pre
  have hG : ∀ w ∈ GW, w.before _ s = true := fun w h => hts w (List.mem_cons_of_mem _ h)
  have hown : s.vm.findClass RX9 = some m.cls := findClass_of_methodNamed B.named
  subst hsz
  have hS : va_S (fun q => s.heap.size ≤ q) s.heap s.heap [] := va_S.rf
  have hP : va_P (dC, dI) vwCl [] s.heap := hP
  have hl := lv_entry ([.int p0, .int p1]) (n := 4) (Nat.le_of_ble_eq_true rfl)
  rw [lg_entry_eq]
  generalize (lg_sl ([.int p0, .int p1]) ++ List.replicate (4 - (lg_sl ([.int p0, .int p1])).length) Slot.unset).toArray = ls at hl ⊢
  have hl : lv_has ls 4 [(0, .int p0), (1, .int p1)] := hl
  refine nameQ (fun Q hQ => ?_)
  refine lv_iconst (v := 1) hx hb dX9_power_0 (by decide) ?_
  refine lv_istore_n (lv' := [(2, .int 1), (0, .int p0), (1, .int p1)]) hx hb dX9_power_1 rfl hl (by decide) rfl (fun ls hl => ?_)
  refine lv_iconst (v := 0) hx hb dX9_power_2 (by decide) ?_
  refine lv_istore_n (lv' := [(3, .int 0), (2, .int 1), (0, .int p0), (1, .int p1)]) hx hb dX9_power_3 rfl hl (by decide) rfl (fun ls hl => ?_)
  refine lv_iload_n hx hb dX9_power_4 rfl (lv_at hl 0 rfl) ?_
  refine lv_iload_n hx hb dX9_power_5 rfl (lv_at hl 3 rfl) ?_
  refine lv_icmp_ge (tgt := 19) hx hb dX9_power_6 (by decide) (fun c_1 => ?_) (fun c_1 => ?_)
  · skip
    have f2 : p1.toInt ≤ 0 := qi_le c_1 rfl zc_0
    refine lv_iload_n hx hb dX9_power_19 rfl (lv_at hl 1 rfl) ?_
    have f3 : (pw p0.toInt (p1.toInt).toNat) = 1 := pw_0 (ob_985 hp2 hp3 f2)
    rw [hQ]
    exact W.iret (v := 1) hx hb hr (fun t ht hW => ⟨⟨1, 1, rfl, rfl, ⟨(ob_986 f3 zc_1), (ob_218 f3), (ob_1239 f3)⟩⟩, hS.F ht⟩) hS.2.2 dX9_power_20
  · skip
    have f4 : 0 < p1.toInt := qi_nle c_1 rfl zc_0
    refine lv_iload_n hx hb dX9_power_9 rfl (lv_at hl 1 rfl) ?_
    refine lv_iload_n hx hb dX9_power_10 rfl (lv_at hl 2 rfl) ?_
    refine lv_imul hx hb dX9_power_11 ?_
    refine lv_topi (fun x5 ex5 => ?_)
    have f6 : x5.toInt = p0.toInt := (ob_990 (qi_mul ex5 zc_1 rfl (ob_1240 hp0 hp1) (ob_1241 hp0 hp1)))
    refine lv_istore_n (lv' := [(2, .int x5), (3, .int 0), (0, .int p0), (1, .int p1)]) hx hb dX9_power_12 rfl hl (by decide) rfl (fun ls hl => ?_)
    refine lv_iinc (v := 1) (lv' := [(3, .int 1), (2, .int x5), (0, .int p0), (1, .int p1)]) hx hb dX9_power_13 hl (k := 1) rfl (by decide) (by decide) rfl (fun ls hl => ?_)
    refine lv_goto (tgt := 4) hx hb dX9_power_16 (by decide) ?_
    refine lv_iload_n hx hb dX9_power_4 rfl (lv_at hl 0 rfl) ?_
    refine lv_iload_n hx hb dX9_power_5 rfl (lv_at hl 3 rfl) ?_
    refine lv_icmp_ge (tgt := 19) hx hb dX9_power_6 (by decide) (fun c_7 => ?_) (fun c_7 => ?_)
    · skip
      have f8 : p1.toInt ≤ 1 := qi_le c_7 rfl zc_1
      refine lv_iload_n hx hb dX9_power_19 rfl (lv_at hl 1 rfl) ?_
      have f9 : (pw p0.toInt (p1.toInt).toNat) = p0.toInt := pw_1 (ob_991 f4 f8)
      rw [hQ]
      exact W.iret (v := x5) hx hb hr (fun t ht hW => ⟨⟨x5, x5, rfl, rfl, ⟨(ob_1242 hp0 hp1 f9 f6), (ob_1243 hp0 hp1 f9), (ob_1244 hp0 hp1 f9)⟩⟩, hS.F ht⟩) hS.2.2 dX9_power_20
    · skip
      have f10 : 1 < p1.toInt := qi_nle c_7 rfl zc_1
      refine lv_iload_n hx hb dX9_power_9 rfl (lv_at hl 1 rfl) ?_
      refine lv_iload_n hx hb dX9_power_10 rfl (lv_at hl 2 rfl) ?_
      refine lv_imul hx hb dX9_power_11 ?_
      refine lv_topi (fun x11 ex11 => ?_)
      have f12 : 1 * 1 ≤ x11.toInt ∧ x11.toInt ≤ 6 * 6 := qi_mulb ex11 (ob_1245 hp0 hp1 f6) (ob_1246 hp0 hp1 f6) (ob_1247 hp0 hp1) (ob_1248 hp0 hp1) (by decide) (by decide) (by decide)
      have f13 : x11.toInt = (p0.toInt * p0.toInt) := qi_mulx ex11 f6 rfl (ob_1245 hp0 hp1 f6) (ob_1246 hp0 hp1 f6) (ob_1247 hp0 hp1) (ob_1248 hp0 hp1) (by decide) (by decide) (by decide)
      refine lv_istore_n (lv' := [(2, .int x11), (3, .int 1), (0, .int p0), (1, .int p1)]) hx hb dX9_power_12 rfl hl (by decide) rfl (fun ls hl => ?_)
      refine lv_iinc (v := 2) (lv' := [(3, .int 2), (2, .int x11), (0, .int p0), (1, .int p1)]) hx hb dX9_power_13 hl (k := 1) rfl (by decide) (by decide) rfl (fun ls hl => ?_)
      refine lv_goto (tgt := 4) hx hb dX9_power_16 (by decide) ?_
      refine lv_iload_n hx hb dX9_power_4 rfl (lv_at hl 0 rfl) ?_
      refine lv_iload_n hx hb dX9_power_5 rfl (lv_at hl 3 rfl) ?_
      refine lv_icmp_ge (tgt := 19) hx hb dX9_power_6 (by decide) (fun c_14 => ?_) (fun c_14 => ?_)
      · skip
        have f15 : p1.toInt ≤ 2 := qi_le c_14 rfl zc_2
        refine lv_iload_n hx hb dX9_power_19 rfl (lv_at hl 1 rfl) ?_
        have f16 : (pw p0.toInt (p1.toInt).toNat) = (p0.toInt * p0.toInt) := pw_2 (ob_999 f10 f15)
        rw [hQ]
        exact W.iret (v := x11) hx hb hr (fun t ht hW => ⟨⟨x11, x11, rfl, rfl, ⟨(ob_1249 f12 f16 f13), (ob_1250 f12 f16 f13), (ob_1251 f12 f16 f13)⟩⟩, hS.F ht⟩) hS.2.2 dX9_power_20
      · skip
        have f17 : 2 < p1.toInt := qi_nle c_14 rfl zc_2
        refine lv_iload_n hx hb dX9_power_9 rfl (lv_at hl 1 rfl) ?_
        refine lv_iload_n hx hb dX9_power_10 rfl (lv_at hl 2 rfl) ?_
        refine lv_imul hx hb dX9_power_11 ?_
        refine lv_topi (fun x18 ex18 => ?_)
        have f19 : 1 * 1 ≤ x18.toInt ∧ x18.toInt ≤ 36 * 6 := qi_mulb ex18 (ob_1252 f12 f13) (ob_1253 f12 f13) (ob_1247 hp0 hp1) (ob_1248 hp0 hp1) (by decide) (by decide) (by decide)
        have f20 : x18.toInt = ((p0.toInt * p0.toInt) * p0.toInt) := qi_mulx ex18 f13 rfl (ob_1252 f12 f13) (ob_1253 f12 f13) (ob_1247 hp0 hp1) (ob_1248 hp0 hp1) (by decide) (by decide) (by decide)
        refine lv_istore_n (lv' := [(2, .int x18), (3, .int 2), (0, .int p0), (1, .int p1)]) hx hb dX9_power_12 rfl hl (by decide) rfl (fun ls hl => ?_)
        refine lv_iinc (v := 3) (lv' := [(3, .int 3), (2, .int x18), (0, .int p0), (1, .int p1)]) hx hb dX9_power_13 hl (k := 1) rfl (by decide) (by decide) rfl (fun ls hl => ?_)
        refine lv_goto (tgt := 4) hx hb dX9_power_16 (by decide) ?_
        refine lv_iload_n hx hb dX9_power_4 rfl (lv_at hl 0 rfl) ?_
        refine lv_iload_n hx hb dX9_power_5 rfl (lv_at hl 3 rfl) ?_
        refine lv_icmp_ge (tgt := 19) hx hb dX9_power_6 (by decide) (fun c_21 => ?_) (fun c_21 => ?_)
        · skip
          have f22 : p1.toInt ≤ 3 := qi_le c_21 rfl zc_3
          refine lv_iload_n hx hb dX9_power_19 rfl (lv_at hl 1 rfl) ?_
          have f23 : (pw p0.toInt (p1.toInt).toNat) = ((p0.toInt * p0.toInt) * p0.toInt) := pw_3 (ob_1005 f17 f22)
          rw [hQ]
          exact W.iret (v := x18) hx hb hr (fun t ht hW => ⟨⟨x18, x18, rfl, rfl, ⟨(ob_1254 f19 f23 f20), (ob_1255 f19 f23 f20), (ob_1256 f19 f23 f20)⟩⟩, hS.F ht⟩) hS.2.2 dX9_power_20
        · skip
          have f24 : 3 < p1.toInt := qi_nle c_21 rfl zc_3
          refine lv_iload_n hx hb dX9_power_9 rfl (lv_at hl 1 rfl) ?_
          refine lv_iload_n hx hb dX9_power_10 rfl (lv_at hl 2 rfl) ?_
          refine lv_imul hx hb dX9_power_11 ?_
          refine lv_topi (fun x25 ex25 => ?_)
          have f26 : 1 * 1 ≤ x25.toInt ∧ x25.toInt ≤ 216 * 6 := qi_mulb ex25 (ob_1257 f19 f20) (ob_1258 f19 f20) (ob_1247 hp0 hp1) (ob_1248 hp0 hp1) (by decide) (by decide) (by decide)
          have f27 : x25.toInt = (((p0.toInt * p0.toInt) * p0.toInt) * p0.toInt) := qi_mulx ex25 f20 rfl (ob_1257 f19 f20) (ob_1258 f19 f20) (ob_1247 hp0 hp1) (ob_1248 hp0 hp1) (by decide) (by decide) (by decide)
          refine lv_istore_n (lv' := [(2, .int x25), (3, .int 3), (0, .int p0), (1, .int p1)]) hx hb dX9_power_12 rfl hl (by decide) rfl (fun ls hl => ?_)
          refine lv_iinc (v := 4) (lv' := [(3, .int 4), (2, .int x25), (0, .int p0), (1, .int p1)]) hx hb dX9_power_13 hl (k := 1) rfl (by decide) (by decide) rfl (fun ls hl => ?_)
          refine lv_goto (tgt := 4) hx hb dX9_power_16 (by decide) ?_
          refine lv_iload_n hx hb dX9_power_4 rfl (lv_at hl 0 rfl) ?_
          refine lv_iload_n hx hb dX9_power_5 rfl (lv_at hl 3 rfl) ?_
          refine lv_icmp_ge (tgt := 19) hx hb dX9_power_6 (by decide) (fun c_28 => ?_) (fun c_28 => ((ob_1011 (qi_nle c_28 rfl zc_4) hp3)).elim)
          have f29 : p1.toInt ≤ 4 := qi_le c_28 rfl zc_4
          refine lv_iload_n hx hb dX9_power_19 rfl (lv_at hl 1 rfl) ?_
          have f30 : (pw p0.toInt (p1.toInt).toNat) = (((p0.toInt * p0.toInt) * p0.toInt) * p0.toInt) := pw_4 (ob_1012 hp3 f24)
          rw [hQ]
          exact W.iret (v := x25) hx hb hr (fun t ht hW => ⟨⟨x25, x25, rfl, rfl, ⟨(ob_1259 f26 f30 f27), (ob_1260 f26 f30 f27), (ob_1261 f26 f30 f27)⟩⟩, hS.F ht⟩) hS.2.2 dX9_power_20
set_option maxHeartbeats 4000000 in
set_option maxRecDepth 100000 in
theorem kX9_digit (l : Launch) (dC : Nat → ClassId) (dI : Nat → Nat → Nat) (r : Nat → Nat) (ct : Nat → ClassId) (i_taped i_size i_faultKind i_at i_end i_token i_number i_bank i_rb i_codes i_within i_piled i_unitsInRule i_askHouse i_askTune i_acts i_undone i_laid i_knowns i_time : Int32) (f_text f_tunes f_houses f_hums f_told f_many f_ruleFrom f_ruleTo f_code f_eWhat f_eSign f_all f_kept f_was f_sTune f_boxAll : Nat → Int32) (J : Nat → Nat → Int32) (L : Nat → Nat → Int64) (p0 p1 p2 : Int32) (sz : Nat) (hI : (IM i_taped i_size i_faultKind i_at i_end i_bank i_rb i_acts i_undone i_laid i_knowns i_time f_tunes f_houses f_hums f_told f_many f_ruleFrom f_ruleTo f_code f_all f_kept f_was f_sTune f_boxAll)) (hp0 : (1 : Int) ≤ p1.toInt) (hp1 : p1.toInt ≤ (6 : Int)) (hp2 : (0 : Int) ≤ p2.toInt) (hp3 : p2.toInt + 1 ≤ (f_houses (i_bank.toInt).toNat).toInt) : Met l yX9_digit (.code yX9_digit cX9_digit 4 (some .int) :: GW) { frames := 4, cells := 0, slots := 0, locals := 163 } (va_Pc [.ref (r 0), .int p0, .int p1, .int p2] (pR (dC, dI) (WM r ct i_taped i_size i_faultKind i_at i_end i_token i_number i_bank i_rb i_codes i_within i_piled i_unitsInRule i_askHouse i_askTune i_acts i_undone i_laid i_knowns i_time f_text f_tunes f_houses f_hums f_told f_many f_ruleFrom f_ruleTo f_code f_eWhat f_eSign f_all f_kept f_was f_sTune f_boxAll J L) (TM ct) sz)) (va_Qi (fun (r0 : Int32) (u : Int32) => r0 = u) (fun (u : Int32) (t : State) => True) (fun q => sz ≤ q)) 0 0 (fun q => sz ≤ q) := by
  refine Met.ofW (cc := cX9_digit) (maxL := 4) (ret := (some .int)) (by decide) rfl ?_
  intro p e s m args below meth c0 s₁ B hml hv
  obtain ⟨rfl, hsz, hP, hK⟩ := hv
  have hx := B.exec
  have hb := B.bytes
  have hr := B.returns
  have hts := atoms_spec (ws := .code yX9_digit cX9_digit 4 (some .int) :: GW) B.pre
  have hG : ∀ w ∈ GW, w.before _ s = true := fun w h => hts w (List.mem_cons_of_mem _ h)
  have hown : s.vm.findClass RX9 = some m.cls := findClass_of_methodNamed B.named
  subst hsz
  have hS : va_S (fun q => s.heap.size ≤ q) s.heap s.heap [] := va_S.rf
  have hP : va_P (dC, dI) vwCl (WM r ct i_taped i_size i_faultKind i_at i_end i_token i_number i_bank i_rb i_codes i_within i_piled i_unitsInRule i_askHouse i_askTune i_acts i_undone i_laid i_knowns i_time f_text f_tunes f_houses f_hums f_told f_many f_ruleFrom f_ruleTo f_code f_eWhat f_eSign f_all f_kept f_was f_sTune f_boxAll J L) s.heap := hP
  have hl := lv_entry ([.ref (r 0), .int p0, .int p1, .int p2]) (n := 4) (Nat.le_of_ble_eq_true rfl)
  rw [lg_entry_eq]
  generalize (lg_sl ([.ref (r 0), .int p0, .int p1, .int p2]) ++ List.replicate (4 - (lg_sl ([.ref (r 0), .int p0, .int p1, .int p2])).length) Slot.unset).toArray = ls at hl ⊢
  have hl : lv_has ls 4 [(0, .ref (r 0)), (1, .int p0), (2, .int p1), (3, .int p2)] := hl
  refine nameQ (fun Q hQ => ?_)
  obtain ⟨ie0, ie1, ie2, ie3, ie4, ie5, ie6, ie7, ie8, ie9, ie10, ie11, ie12, ie13, ie14, ie15, ie16, ie17, ie18, ie19, ie20, ie21, ie22, ie23, ie24, ie25, ie26, ie27, ie28, ie29, ie30, ie31, ie32⟩ := id hI
  have f1 : 0 ≤ (f_tunes (i_bank.toInt).toNat).toInt ∧ (f_tunes (i_bank.toInt).toNat).toInt ≤ 5 := ie21 (i_bank.toInt)
  have f2 : 0 ≤ (f_houses (i_bank.toInt).toNat).toInt ∧ (f_houses (i_bank.toInt).toNat).toInt ≤ 4 := ie22 (i_bank.toInt)
  refine lv_iload_n hx hb dX9_digit_0 rfl (lv_at hl 1 rfl) ?_
  refine lv_iload_n hx hb dX9_digit_1 rfl (lv_at hl 2 rfl) ?_
  refine lv_aload_n hx hb dX9_digit_2 rfl (lv_at hl 0 rfl) ?_
  refine va_calli (va_runV (As := []) (rest := [.int p1, .int p0]) ⟨hx, hb, hml, hown, hG⟩ (kX9_homes l dC dI r ct i_taped i_size i_faultKind i_at i_end i_token i_number i_bank i_rb i_codes i_within i_piled i_unitsInRule i_askHouse i_askTune i_acts i_undone i_laid i_knowns i_time f_text f_tunes f_houses f_hums f_told f_many f_ruleFrom f_ruleTo f_code f_eWhat f_eSign f_all f_kept f_was f_sTune f_boxAll J L s.heap.size hI) (cwV 0 hG (goodV gw1167 gw1169 gw58 gw138 gw1170) rfl rfl rfl hd_X9_homes ⟨(Nat.le_of_ble_eq_true rfl), (Nat.le_of_ble_eq_true rfl)⟩) ⟨fbR, va_recv hK hP (ci := 8) (q0 := 0) rfl rfl, pR_in hP hK⟩ rfl rfl hl.1 rfl (lv_room (Nat.le_of_ble_eq_true rfl)) dX9_digit_3 ⟨(Nat.le_of_ble_eq_true rfl), (Nat.le_of_ble_eq_true rfl)⟩) hS (fun q hq h => absurd hq (Nat.not_lt.mpr h)) (fun q h => Nat.le_trans hS.1 h) (fun r_4 u_ t_ H3 locs ht hvm hw hB hz1 hk1 hS => ?_)
  subst hw
  have hP := wk hP hk1
  have f5 := hB
  have f6 : r_4.toInt = (f_houses (i_bank.toInt).toNat).toInt := (ob_6 f5)
  refine lv_iconst (v := 1) hx hb dX9_digit_6 (by decide) ?_
  refine lv_isub hx hb dX9_digit_7 ?_
  refine lv_topi (fun x7 ex7 => ?_)
  have f8 : x7.toInt = (f_houses (i_bank.toInt).toNat).toInt + (-1) := (ob_1018 (qi_sub ex7 rfl zc_1 (ob_1262 f2 hp3 f6) (ob_1263 f2 hp3 f6)) f6)
  refine lv_iload_n hx hb dX9_digit_8 rfl (lv_at hl 3 rfl) ?_
  refine lv_isub hx hb dX9_digit_9 ?_
  refine lv_topi (fun x9 ex9 => ?_)
  have f10 : x9.toInt = (f_houses (i_bank.toInt).toNat).toInt + -1 * p2.toInt + (-1) := (ob_1121 (qi_sub ex9 rfl rfl (ob_1264 f2 hp2 hp3 f8) (ob_1265 f2 hp2 hp3 f8)) f8)
  refine va_calli (va_runS (As := [.int p1, .int x9]) (rest := [.int p0]) ⟨hx, hb, hml, hown, hG⟩ (kX9_power_v1 l dC dI p1 x9 H3.size (ob_1266 hp0 hp1) (ob_1267 hp0 hp1) (ob_1268 f2 hp2 hp3 f10) (ob_1269 f2 hp2 hp3 f10)) (va_cwS 2 hG (goodS gw1756 gw1757 gw138 gw1758) rfl rfl rfl hd_X9_power ⟨(Nat.le_of_ble_eq_true rfl), (Nat.le_of_ble_eq_true rfl)⟩) ⟨fbR, pR_in emptyP (emptyK hK)⟩ rfl rfl hl.1 rfl (lv_room (Nat.le_of_ble_eq_true rfl)) dX9_digit_10 ⟨(Nat.le_of_ble_eq_true rfl), (Nat.le_of_ble_eq_true rfl)⟩) hS (fun q hq h => absurd hq (Nat.not_lt.mpr h)) (fun q h => Nat.le_trans hS.1 h) (fun r_12 u_ t_ H11 locs ht hvm hw hB hz1 hk1 hS => ?_)
  subst hw
  have hP := wk hP hk1
  obtain ⟨f13, f14, f15⟩ := hB
  have f16 : (pw p1.toInt (x9.toInt).toNat) = (pw p1.toInt (((f_houses (i_bank.toInt).toNat).toInt + -1 * p2.toInt + (-1))).toNat) := by rw [f10]
  have f17 : r_12.toInt = (pw p1.toInt (((f_houses (i_bank.toInt).toNat).toInt + -1 * p2.toInt + (-1))).toNat) := (ob_1270 f13 f16)
  refine lv_idiv hx hb dX9_digit_13 (qi_nz (ob_1271 f16 f14 f15 f17)) ?_
  refine lv_topi (fun x18 ex18 => ?_)
  refine lv_iload_n hx hb dX9_digit_14 rfl (lv_at hl 2 rfl) ?_
  refine lv_irem hx hb dX9_digit_15 (qi_nz (ob_1247 hp0 hp1)) ?_
  refine lv_topi (fun x19 ex19 => ?_)
  rw [hQ]
  exact W.iret (v := x19) hx hb hr (fun t ht hW => ⟨⟨x19, x19, rfl, rfl, trivial⟩, hS.F ht⟩) hS.2.2 dX9_digit_16
set_option maxHeartbeats 4000000 in
set_option maxRecDepth 100000 in
theorem kX9_digit_v1 (l : Launch) (dC : Nat → ClassId) (dI : Nat → Nat → Nat) (r : Nat → Nat) (ct : Nat → ClassId) (i_taped i_size i_faultKind i_at i_end i_token i_number i_bank i_rb i_codes i_within i_piled i_unitsInRule i_askHouse i_askTune i_acts i_undone i_laid i_knowns i_time : Int32) (f_text f_tunes f_houses f_hums f_told f_many f_ruleFrom f_ruleTo f_code f_eWhat f_eSign f_all f_kept f_was f_sTune f_boxAll : Nat → Int32) (J : Nat → Nat → Int32) (L : Nat → Nat → Int64) (p0 p1 p2 : Int32) (sz : Nat) (hI : (IM i_taped i_size i_faultKind i_at i_end i_bank i_rb i_acts i_undone i_laid i_knowns i_time f_tunes f_houses f_hums f_told f_many f_ruleFrom f_ruleTo f_code f_all f_kept f_was f_sTune f_boxAll)) (hp0 : (1 : Int) ≤ p1.toInt) (hp1 : p1.toInt ≤ (6 : Int)) (hp2 : (0 : Int) ≤ p2.toInt) (hp3 : p2.toInt + 1 ≤ (f_houses (i_bank.toInt).toNat).toInt) (hp4 : (0 : Int) ≤ p0.toInt) : Met l yX9_digit (.code yX9_digit cX9_digit 4 (some .int) :: GW) { frames := 4, cells := 0, slots := 0, locals := 163 } (va_Pc [.ref (r 0), .int p0, .int p1, .int p2] (pR (dC, dI) (WM r ct i_taped i_size i_faultKind i_at i_end i_token i_number i_bank i_rb i_codes i_within i_piled i_unitsInRule i_askHouse i_askTune i_acts i_undone i_laid i_knowns i_time f_text f_tunes f_houses f_hums f_told f_many f_ruleFrom f_ruleTo f_code f_eWhat f_eSign f_all f_kept f_was f_sTune f_boxAll J L) (TM ct) sz)) (va_Qi (fun (r0 : Int32) (u : Int32) => r0 = u) (fun (u : Int32) (t : State) => (u.toInt = ((p0.toInt / (pw p1.toInt (((f_houses (i_bank.toInt).toNat).toInt + -1 * p2.toInt + (-1))).toNat)) % p1.toInt)) ∧ ((0 : Int) ≤ ((p0.toInt / (pw p1.toInt (((f_houses (i_bank.toInt).toNat).toInt + -1 * p2.toInt + (-1))).toNat)) % p1.toInt)) ∧ (((p0.toInt / (pw p1.toInt (((f_houses (i_bank.toInt).toNat).toInt + -1 * p2.toInt + (-1))).toNat)) % p1.toInt) + 1 ≤ p1.toInt) ∧ (((p0.toInt / (pw p1.toInt (((f_houses (i_bank.toInt).toNat).toInt + -1 * p2.toInt + (-1))).toNat)) % p1.toInt) ≤ (p0.toInt / (pw p1.toInt (((f_houses (i_bank.toInt).toNat).toInt + -1 * p2.toInt + (-1))).toNat)))) (fun q => sz ≤ q)) 0 0 (fun q => sz ≤ q) := by
  refine Met.ofW (cc := cX9_digit) (maxL := 4) (ret := (some .int)) (by decide) rfl ?_
  intro p e s m args below meth c0 s₁ B hml hv
  obtain ⟨rfl, hsz, hP, hK⟩ := hv
  have hx := B.exec
  have hb := B.bytes
  have hr := B.returns
  have hts := atoms_spec (ws := .code yX9_digit cX9_digit 4 (some .int) :: GW) B.pre
  have hG : ∀ w ∈ GW, w.before _ s = true := fun w h => hts w (List.mem_cons_of_mem _ h)
  have hown : s.vm.findClass RX9 = some m.cls := findClass_of_methodNamed B.named
  subst hsz
  have hS : va_S (fun q => s.heap.size ≤ q) s.heap s.heap [] := va_S.rf
  have hP : va_P (dC, dI) vwCl (WM r ct i_taped i_size i_faultKind i_at i_end i_token i_number i_bank i_rb i_codes i_within i_piled i_unitsInRule i_askHouse i_askTune i_acts i_undone i_laid i_knowns i_time f_text f_tunes f_houses f_hums f_told f_many f_ruleFrom f_ruleTo f_code f_eWhat f_eSign f_all f_kept f_was f_sTune f_boxAll J L) s.heap := hP
  have hl := lv_entry ([.ref (r 0), .int p0, .int p1, .int p2]) (n := 4) (Nat.le_of_ble_eq_true rfl)
  rw [lg_entry_eq]
  generalize (lg_sl ([.ref (r 0), .int p0, .int p1, .int p2]) ++ List.replicate (4 - (lg_sl ([.ref (r 0), .int p0, .int p1, .int p2])).length) Slot.unset).toArray = ls at hl ⊢
  have hl : lv_has ls 4 [(0, .ref (r 0)), (1, .int p0), (2, .int p1), (3, .int p2)] := hl
  refine nameQ (fun Q hQ => ?_)
  obtain ⟨ie0, ie1, ie2, ie3, ie4, ie5, ie6, ie7, ie8, ie9, ie10, ie11, ie12, ie13, ie14, ie15, ie16, ie17, ie18, ie19, ie20, ie21, ie22, ie23, ie24, ie25, ie26, ie27, ie28, ie29, ie30, ie31, ie32⟩ := id hI
  have f1 : 0 ≤ (f_tunes (i_bank.toInt).toNat).toInt ∧ (f_tunes (i_bank.toInt).toNat).toInt ≤ 5 := ie21 (i_bank.toInt)
  have f2 : 0 ≤ (f_houses (i_bank.toInt).toNat).toInt ∧ (f_houses (i_bank.toInt).toNat).toInt ≤ 4 := ie22 (i_bank.toInt)
  refine lv_iload_n hx hb dX9_digit_0 rfl (lv_at hl 1 rfl) ?_
  refine lv_iload_n hx hb dX9_digit_1 rfl (lv_at hl 2 rfl) ?_
  refine lv_aload_n hx hb dX9_digit_2 rfl (lv_at hl 0 rfl) ?_
  refine va_calli (va_runV (As := []) (rest := [.int p1, .int p0]) ⟨hx, hb, hml, hown, hG⟩ (kX9_homes l dC dI r ct i_taped i_size i_faultKind i_at i_end i_token i_number i_bank i_rb i_codes i_within i_piled i_unitsInRule i_askHouse i_askTune i_acts i_undone i_laid i_knowns i_time f_text f_tunes f_houses f_hums f_told f_many f_ruleFrom f_ruleTo f_code f_eWhat f_eSign f_all f_kept f_was f_sTune f_boxAll J L s.heap.size hI) (cwV 0 hG (goodV gw1167 gw1169 gw58 gw138 gw1170) rfl rfl rfl hd_X9_homes ⟨(Nat.le_of_ble_eq_true rfl), (Nat.le_of_ble_eq_true rfl)⟩) ⟨fbR, va_recv hK hP (ci := 8) (q0 := 0) rfl rfl, pR_in hP hK⟩ rfl rfl hl.1 rfl (lv_room (Nat.le_of_ble_eq_true rfl)) dX9_digit_3 ⟨(Nat.le_of_ble_eq_true rfl), (Nat.le_of_ble_eq_true rfl)⟩) hS (fun q hq h => absurd hq (Nat.not_lt.mpr h)) (fun q h => Nat.le_trans hS.1 h) (fun r_4 u_ t_ H3 locs ht hvm hw hB hz1 hk1 hS => ?_)
  subst hw
  have hP := wk hP hk1
  have f5 := hB
  have f6 : r_4.toInt = (f_houses (i_bank.toInt).toNat).toInt := (ob_6 f5)
  refine lv_iconst (v := 1) hx hb dX9_digit_6 (by decide) ?_
  refine lv_isub hx hb dX9_digit_7 ?_
  refine lv_topi (fun x7 ex7 => ?_)
  have f8 : x7.toInt = (f_houses (i_bank.toInt).toNat).toInt + (-1) := (ob_1018 (qi_sub ex7 rfl zc_1 (ob_1262 f2 hp3 f6) (ob_1263 f2 hp3 f6)) f6)
  refine lv_iload_n hx hb dX9_digit_8 rfl (lv_at hl 3 rfl) ?_
  refine lv_isub hx hb dX9_digit_9 ?_
  refine lv_topi (fun x9 ex9 => ?_)
  have f10 : x9.toInt = (f_houses (i_bank.toInt).toNat).toInt + -1 * p2.toInt + (-1) := (ob_1121 (qi_sub ex9 rfl rfl (ob_1264 f2 hp2 hp3 f8) (ob_1265 f2 hp2 hp3 f8)) f8)
  refine va_calli (va_runS (As := [.int p1, .int x9]) (rest := [.int p0]) ⟨hx, hb, hml, hown, hG⟩ (kX9_power_v1 l dC dI p1 x9 H3.size (ob_1266 hp0 hp1) (ob_1267 hp0 hp1) (ob_1268 f2 hp2 hp3 f10) (ob_1269 f2 hp2 hp3 f10)) (va_cwS 2 hG (goodS gw1756 gw1757 gw138 gw1758) rfl rfl rfl hd_X9_power ⟨(Nat.le_of_ble_eq_true rfl), (Nat.le_of_ble_eq_true rfl)⟩) ⟨fbR, pR_in emptyP (emptyK hK)⟩ rfl rfl hl.1 rfl (lv_room (Nat.le_of_ble_eq_true rfl)) dX9_digit_10 ⟨(Nat.le_of_ble_eq_true rfl), (Nat.le_of_ble_eq_true rfl)⟩) hS (fun q hq h => absurd hq (Nat.not_lt.mpr h)) (fun q h => Nat.le_trans hS.1 h) (fun r_12 u_ t_ H11 locs ht hvm hw hB hz1 hk1 hS => ?_)
  subst hw
  have hP := wk hP hk1
  obtain ⟨f13, f14, f15⟩ := hB
  have f16 : (pw p1.toInt (x9.toInt).toNat) = (pw p1.toInt (((f_houses (i_bank.toInt).toNat).toInt + -1 * p2.toInt + (-1))).toNat) := by rw [f10]
  have f17 : r_12.toInt = (pw p1.toInt (((f_houses (i_bank.toInt).toNat).toInt + -1 * p2.toInt + (-1))).toNat) := (ob_1270 f13 f16)
  refine lv_idiv hx hb dX9_digit_13 (qi_nz (ob_1271 f16 f14 f15 f17)) ?_
  refine lv_topi (fun x18 ex18 => ?_)
  have f19 : 0 ≤ x18.toInt ∧ x18.toInt ≤ p0.toInt := qi_div ex18 rfl rfl (ob_350 hp4) (ob_1271 f16 f14 f15 f17)
  have f20 : x18.toInt = (p0.toInt / (pw p1.toInt (((f_houses (i_bank.toInt).toNat).toInt + -1 * p2.toInt + (-1))).toNat)) := divnn ex18 rfl f17 (ob_1272 hp4 f19) (ob_1273 f16 f14 f15)
  refine lv_iload_n hx hb dX9_digit_14 rfl (lv_at hl 2 rfl) ?_
  refine lv_irem hx hb dX9_digit_15 (qi_nz (ob_1247 hp0 hp1)) ?_
  refine lv_topi (fun x21 ex21 => ?_)
  have f22 : 0 ≤ x21.toInt ∧ x21.toInt < p1.toInt ∧ x21.toInt ≤ x18.toInt := qi_rem ex21 rfl rfl (ob_1274 f19 f20) (ob_1247 hp0 hp1)
  have f23 : x21.toInt = ((p0.toInt / (pw p1.toInt (((f_houses (i_bank.toInt).toNat).toInt + -1 * p2.toInt + (-1))).toNat)) % p1.toInt) := remnn ex21 f20 rfl (ob_1275 f19 f22 f20) (ob_1276 hp0 hp1 f22 f20)
  rw [hQ]
  exact W.iret (v := x21) hx hb hr (fun t ht hW => ⟨⟨x21, x21, rfl, rfl, ⟨(ob_6 f23), (ob_1277 f22 f20 f23), (ob_1278 hp0 hp1 f22 f20 f23), (ob_1279 f19 f22 f20 f23)⟩⟩, hS.F ht⟩) hS.2.2 dX9_digit_16
set_option maxHeartbeats 4000000 in
set_option maxRecDepth 100000 in
theorem kX9_isRound (l : Launch) (dC : Nat → ClassId) (dI : Nat → Nat → Nat) (r : Nat → Nat) (ct : Nat → ClassId) (i_taped i_size i_faultKind i_at i_end i_token i_number i_bank i_rb i_codes i_within i_piled i_unitsInRule i_askHouse i_askTune i_acts i_undone i_laid i_knowns i_time : Int32) (f_text f_tunes f_houses f_hums f_told f_many f_ruleFrom f_ruleTo f_code f_eWhat f_eSign f_all f_kept f_was f_sTune f_boxAll : Nat → Int32) (J : Nat → Nat → Int32) (L : Nat → Nat → Int64) (p0 : Int32) (sz : Nat) (hI : (IM i_taped i_size i_faultKind i_at i_end i_bank i_rb i_acts i_undone i_laid i_knowns i_time f_tunes f_houses f_hums f_told f_many f_ruleFrom f_ruleTo f_code f_all f_kept f_was f_sTune f_boxAll)) (hp0 : (0 : Int) ≤ p0.toInt) : Met l yX9_isRound (.code yX9_isRound cX9_isRound 5 (some .boolean) :: GW) { frames := 22, cells := 0, slots := 0, locals := 729 } (va_Pc [.ref (r 0), .int p0] (pW (dC, dI) (WM r ct i_taped i_size i_faultKind i_at i_end i_token i_number i_bank i_rb i_codes i_within i_piled i_unitsInRule i_askHouse i_askTune i_acts i_undone i_laid i_knowns i_time f_text f_tunes f_houses f_hums f_told f_many f_ruleFrom f_ruleTo f_code f_eWhat f_eSign f_all f_kept f_was f_sTune f_boxAll J L) (TM ct) sz)) (va_Qi (fun (r0 : Int32) (u : Int32) => r0 = u) (fun (u : Int32) (t : State) => ∃ (n_i_askHouse n_i_askTune : Int32) (n_J : Nat → Nat → Int32), va_P (dC, dI) vwCl (WM r ct i_taped i_size i_faultKind i_at i_end i_token i_number i_bank i_rb i_codes i_within i_piled i_unitsInRule n_i_askHouse n_i_askTune i_acts i_undone i_laid i_knowns i_time f_text f_tunes f_houses f_hums f_told f_many f_ruleFrom f_ruleTo f_code f_eWhat f_eSign f_all f_kept f_was f_sTune f_boxAll n_J L) t.heap ∧ va_D (va_A (WM r ct i_taped i_size i_faultKind i_at i_end i_token i_number i_bank i_rb i_codes i_within i_piled i_unitsInRule i_askHouse i_askTune i_acts i_undone i_laid i_knowns i_time f_text f_tunes f_houses f_hums f_told f_many f_ruleFrom f_ruleTo f_code f_eWhat f_eSign f_all f_kept f_was f_sTune f_boxAll J L) sz) (WM r ct i_taped i_size i_faultKind i_at i_end i_token i_number i_bank i_rb i_codes i_within i_piled i_unitsInRule n_i_askHouse n_i_askTune i_acts i_undone i_laid i_knowns i_time f_text f_tunes f_houses f_hums f_told f_many f_ruleFrom f_ruleTo f_code f_eWhat f_eSign f_all f_kept f_was f_sTune f_boxAll n_J L) ∧ (IM i_taped i_size i_faultKind i_at i_end i_bank i_rb i_acts i_undone i_laid i_knowns i_time f_tunes f_houses f_hums f_told f_many f_ruleFrom f_ruleTo f_code f_all f_kept f_was f_sTune f_boxAll) ∧ (((u.toInt = (1 : Int))) ∨ ((u.toInt = (0 : Int)))) ∧ ((0 : Int) ≤ u.toInt) ∧ (u.toInt ≤ (1 : Int))) (va_A (WM r ct i_taped i_size i_faultKind i_at i_end i_token i_number i_bank i_rb i_codes i_within i_piled i_unitsInRule i_askHouse i_askTune i_acts i_undone i_laid i_knowns i_time f_text f_tunes f_houses f_hums f_told f_many f_ruleFrom f_ruleTo f_code f_eWhat f_eSign f_all f_kept f_was f_sTune f_boxAll J L) sz)) 0 0 (va_A (WM r ct i_taped i_size i_faultKind i_at i_end i_token i_number i_bank i_rb i_codes i_within i_piled i_unitsInRule i_askHouse i_askTune i_acts i_undone i_laid i_knowns i_time f_text f_tunes f_houses f_hums f_told f_many f_ruleFrom f_ruleTo f_code f_eWhat f_eSign f_all f_kept f_was f_sTune f_boxAll J L) sz) := by
  refine Met.ofW (cc := cX9_isRound) (maxL := 5) (ret := (some .boolean)) (by decide) rfl ?_
  intro p e s m args below meth c0 s₁ B hml hv
  obtain ⟨rfl, hsz, hP, hK, hD0⟩ := hv
  have hx := B.exec
  have hb := B.bytes
  have hr := B.returns
  have hts := atoms_spec (ws := .code yX9_isRound cX9_isRound 5 (some .boolean) :: GW) B.pre
  have hG : ∀ w ∈ GW, w.before _ s = true := fun w h => hts w (List.mem_cons_of_mem _ h)
  have hown : s.vm.findClass RX9 = some m.cls := findClass_of_methodNamed B.named
  subst hsz
  have hD := hD0.self (sz := s.heap.size)
  generalize hAe : va_A (WM r ct i_taped i_size i_faultKind i_at i_end i_token i_number i_bank i_rb i_codes i_within i_piled i_unitsInRule i_askHouse i_askTune i_acts i_undone i_laid i_knowns i_time f_text f_tunes f_houses f_hums f_told f_many f_ruleFrom f_ruleTo f_code f_eWhat f_eSign f_all f_kept f_was f_sTune f_boxAll J L) s.heap.size = A at hD ⊢
  have hA : ∀ q : Nat, s.heap.size ≤ q → A q := fun q h => by rw [← hAe]; exact Or.inr h
  have hS : va_S A s.heap s.heap [] := va_S.rf
  have hP : va_P (dC, dI) vwCl (WM r ct i_taped i_size i_faultKind i_at i_end i_token i_number i_bank i_rb i_codes i_within i_piled i_unitsInRule i_askHouse i_askTune i_acts i_undone i_laid i_knowns i_time f_text f_tunes f_houses f_hums f_told f_many f_ruleFrom f_ruleTo f_code f_eWhat f_eSign f_all f_kept f_was f_sTune f_boxAll J L) s.heap := hP
  have hl := lv_entry ([.ref (r 0), .int p0]) (n := 5) (Nat.le_of_ble_eq_true rfl)
  rw [lg_entry_eq]
  generalize (lg_sl ([.ref (r 0), .int p0]) ++ List.replicate (5 - (lg_sl ([.ref (r 0), .int p0])).length) Slot.unset).toArray = ls at hl ⊢
  have hl : lv_has ls 5 [(0, .ref (r 0)), (1, .int p0)] := hl
  refine nameQ (fun Q hQ => ?_)
  obtain ⟨ie0, ie1, ie2, ie3, ie4, ie5, ie6, ie7, ie8, ie9, ie10, ie11, ie12, ie13, ie14, ie15, ie16, ie17, ie18, ie19, ie20, ie21, ie22, ie23, ie24, ie25, ie26, ie27, ie28, ie29, ie30, ie31, ie32⟩ := id hI
  have f1 : 0 ≤ (f_tunes (i_bank.toInt).toNat).toInt ∧ (f_tunes (i_bank.toInt).toNat).toInt ≤ 5 := ie21 (i_bank.toInt)
  have f2 : 0 ≤ (f_houses (i_bank.toInt).toNat).toInt ∧ (f_houses (i_bank.toInt).toNat).toInt ≤ 4 := ie22 (i_bank.toInt)
  refine lv_iconst (v := 0) hx hb dX9_isRound_0 (by decide) ?_
  refine lv_istore_n (lv' := [(2, .int 0), (0, .ref (r 0)), (1, .int p0)]) hx hb dX9_isRound_1 rfl hl (by decide) rfl (fun ls hl => ?_)
  refine lv_iconst (v := 0) hx hb dX9_isRound_2 (by decide) ?_
  refine lv_istore_n (lv' := [(3, .int 0), (2, .int 0), (0, .ref (r 0)), (1, .int p0)]) hx hb dX9_isRound_3 rfl hl (by decide) rfl (fun ls hl => ?_)
  have L4 : ∀ (N4 : Nat) (y4_2 y4_3 : Int32) (m4_i_askHouse m4_i_askTune : Int32) (m4_J : Nat → Nat → Int32) (H4 : Heap) (locs : List Loc) (ls : Array Slot) (g4_0 : (0 : Int) ≤ y4_3.toInt) (g4_1 : y4_3.toInt ≤ (4 : Int)) (hP : va_P (dC, dI) vwCl (WM r ct i_taped i_size i_faultKind i_at i_end i_token i_number i_bank i_rb i_codes i_within i_piled i_unitsInRule m4_i_askHouse m4_i_askTune i_acts i_undone i_laid i_knowns i_time f_text f_tunes f_houses f_hums f_told f_many f_ruleFrom f_ruleTo f_code f_eWhat f_eSign f_all f_kept f_was f_sTune f_boxAll m4_J L) H4) (hD : va_D A (WM r ct i_taped i_size i_faultKind i_at i_end i_token i_number i_bank i_rb i_codes i_within i_piled i_unitsInRule m4_i_askHouse m4_i_askTune i_acts i_undone i_laid i_knowns i_time f_text f_tunes f_houses f_hums f_told f_many f_ruleFrom f_ruleTo f_code f_eWhat f_eSign f_all f_kept f_was f_sTune f_boxAll m4_J L)) (hS : va_S A s.heap H4 locs) (hl : lv_has ls 5 [(0, .ref (r 0)), (1, .int p0), (2, .int y4_2), (3, .int y4_3)]) (hM : -1 * y4_3.toInt + 4 < (N4 : Int)), W p l e { frames := 22, cells := 0, slots := 0, locals := 729 } s m ([.ref (r 0), .int p0] : List Value).toArray below meth c0 H4 locs 0 0 Q (F0 m 4 ls []) := by
    intro N4
    induction N4 with
    | zero =>
      intro y4_2 y4_3 m4_i_askHouse m4_i_askTune m4_J H4 locs ls g4_0 g4_1 hP hD hS hl hM
      exact ((ob_778 hM g4_0 g4_1)).elim
    | succ N4 ih4 =>
      intro y4_2 y4_3 m4_i_askHouse m4_i_askTune m4_J H4 locs ls g4_0 g4_1 hP hD hS hl hM
      have hM4 := msucc hM
      refine lv_iload_n hx hb dX9_isRound_4 rfl (lv_at hl 3 rfl) ?_
      refine lv_aload_n hx hb dX9_isRound_5 rfl (lv_at hl 0 rfl) ?_
      refine va_calli (va_runV (As := []) (rest := [.int y4_3]) ⟨hx, hb, hml, hown, hG⟩ (kX9_homes l dC dI r ct i_taped i_size i_faultKind i_at i_end i_token i_number i_bank i_rb i_codes i_within i_piled i_unitsInRule m4_i_askHouse m4_i_askTune i_acts i_undone i_laid i_knowns i_time f_text f_tunes f_houses f_hums f_told f_many f_ruleFrom f_ruleTo f_code f_eWhat f_eSign f_all f_kept f_was f_sTune f_boxAll m4_J L H4.size hI) (cwV 0 hG (goodV gw1167 gw1169 gw58 gw138 gw1170) rfl rfl rfl hd_X9_homes ⟨(Nat.le_of_ble_eq_true rfl), (Nat.le_of_ble_eq_true rfl)⟩) ⟨fbR, va_recv hK hP (ci := 8) (q0 := 0) rfl rfl, pR_in hP hK⟩ rfl rfl hl.1 rfl (lv_room (Nat.le_of_ble_eq_true rfl)) dX9_isRound_6 ⟨(Nat.le_of_ble_eq_true rfl), (Nat.le_of_ble_eq_true rfl)⟩) hS (fun q hq h => absurd hq (Nat.not_lt.mpr h)) (fun q h => hA q (Nat.le_trans hS.1 h)) (fun r_4 u_ t_ H3 locs ht hvm hw hB hz1 hk1 hS => ?_)
      subst hw
      have hP := wk hP hk1
      have f5 := hB
      have f6 : r_4.toInt = (f_houses (i_bank.toInt).toNat).toInt := (ob_6 f5)
      refine lv_icmp_ge (tgt := 89) hx hb dX9_isRound_9 (by decide) (fun c_7 => ?_) (fun c_7 => ?_)
      · skip
        have f8 : r_4.toInt ≤ y4_3.toInt := qi_le c_7 rfl rfl
        refine lv_iconst (v := 1) hx hb dX9_isRound_89 (by decide) ?_
        rw [hQ]
        exact W.zret (v := 1) hx hb hr (by decide) (fun t ht hW => ⟨⟨1, 1, rfl, rfl, ⟨m4_i_askHouse, m4_i_askTune, m4_J, by rw [ht]; exact hP, hD, hI, (ob_1280 zc_1), (ob_14 zc_1), (ob_15 zc_1)⟩⟩, hS.F ht⟩) hS.2.2 dX9_isRound_90
      · skip
        have f9 : y4_3.toInt < r_4.toInt := qi_nle c_7 rfl rfl
        refine lv_aload_n hx hb dX9_isRound_12 rfl (lv_at hl 0 rfl) ?_
        refine lv_iload_n hx hb dX9_isRound_13 rfl (lv_at hl 1 rfl) ?_
        refine lv_aload_n hx hb dX9_isRound_14 rfl (lv_at hl 0 rfl) ?_
        refine va_calli (va_runV (As := []) (rest := [.int p0, .ref (r 0)]) ⟨hx, hb, hml, hown, hG⟩ (kX9_songs l dC dI r ct i_taped i_size i_faultKind i_at i_end i_token i_number i_bank i_rb i_codes i_within i_piled i_unitsInRule m4_i_askHouse m4_i_askTune i_acts i_undone i_laid i_knowns i_time f_text f_tunes f_houses f_hums f_told f_many f_ruleFrom f_ruleTo f_code f_eWhat f_eSign f_all f_kept f_was f_sTune f_boxAll m4_J L H3.size hI) (cwV 0 hG (goodV gw1512 gw1514 gw86 gw138 gw1515) rfl rfl rfl hd_X9_songs ⟨(Nat.le_of_ble_eq_true rfl), (Nat.le_of_ble_eq_true rfl)⟩) ⟨fbR, va_recv hK hP (ci := 8) (q0 := 0) rfl rfl, pR_in hP hK⟩ rfl rfl hl.1 rfl (lv_room (Nat.le_of_ble_eq_true rfl)) dX9_isRound_15 ⟨(Nat.le_of_ble_eq_true rfl), (Nat.le_of_ble_eq_true rfl)⟩) hS (fun q hq h => absurd hq (Nat.not_lt.mpr h)) (fun q h => hA q (Nat.le_trans hS.1 h)) (fun r_11 u_ t_ H10 locs ht hvm hw hB hz1 hk1 hS => ?_)
        subst hw
        have hP := wk hP hk1
        have f12 := hB
        have f13 : r_11.toInt = (f_tunes (i_bank.toInt).toNat).toInt := (ob_6 f12)
        refine lv_iconst (v := 1) hx hb dX9_isRound_18 (by decide) ?_
        refine lv_iadd hx hb dX9_isRound_19 ?_
        refine lv_topi (fun x14 ex14 => ?_)
        have f15 : x14.toInt = (f_tunes (i_bank.toInt).toNat).toInt + 1 := (ob_1283 (qi_add ex14 rfl zc_1 (ob_1281 f1 f13) (ob_1282 f1 f13)) f13)
        refine lv_iload_n hx hb dX9_isRound_20 rfl (lv_at hl 3 rfl) ?_
        refine va_calli (va_runV (As := [.int p0, .int x14, .int y4_3]) (rest := []) ⟨hx, hb, hml, hown, hG⟩ (kX9_digit_v1 l dC dI r ct i_taped i_size i_faultKind i_at i_end i_token i_number i_bank i_rb i_codes i_within i_piled i_unitsInRule m4_i_askHouse m4_i_askTune i_acts i_undone i_laid i_knowns i_time f_text f_tunes f_houses f_hums f_told f_many f_ruleFrom f_ruleTo f_code f_eWhat f_eSign f_all f_kept f_was f_sTune f_boxAll m4_J L p0 x14 y4_3 H10.size hI (ob_1284 f1 f15) (ob_1285 f1 f15) (ob_139 g4_0) (ob_1054 f9 f6) (ob_139 hp0)) (cwV 3 hG (goodV gw1763 gw1765 gw116 gw138 gw1766) rfl rfl rfl hd_X9_digit ⟨(Nat.le_of_ble_eq_true rfl), (Nat.le_of_ble_eq_true rfl)⟩) ⟨fbR, va_recv hK hP (ci := 8) (q0 := 0) rfl rfl, pR_in hP hK⟩ rfl rfl hl.1 rfl (lv_room (Nat.le_of_ble_eq_true rfl)) dX9_isRound_21 ⟨(Nat.le_of_ble_eq_true rfl), (Nat.le_of_ble_eq_true rfl)⟩) hS (fun q hq h => absurd hq (Nat.not_lt.mpr h)) (fun q h => hA q (Nat.le_trans hS.1 h)) (fun r_17 u_ t_ H16 locs ht hvm hw hB hz1 hk1 hS => ?_)
        subst hw
        have hP := wk hP hk1
        obtain ⟨f18, f19, f20, f21⟩ := hB
        have f22 : ((p0.toInt / (pw x14.toInt (((f_houses (i_bank.toInt).toNat).toInt + -1 * y4_3.toInt + (-1))).toNat)) % x14.toInt) = ((p0.toInt / (pw ((f_tunes (i_bank.toInt).toNat).toInt + 1) (((f_houses (i_bank.toInt).toNat).toInt + -1 * y4_3.toInt + (-1))).toNat)) % ((f_tunes (i_bank.toInt).toNat).toInt + 1)) := by rw [f15]
        have f23 : r_17.toInt = ((p0.toInt / (pw ((f_tunes (i_bank.toInt).toNat).toInt + 1) (((f_houses (i_bank.toInt).toNat).toInt + -1 * y4_3.toInt + (-1))).toNat)) % ((f_tunes (i_bank.toInt).toNat).toInt + 1)) := (ob_1270 f18 f22)
        refine lv_istore (lv' := [(4, .int r_17), (0, .ref (r 0)), (1, .int p0), (2, .int y4_2), (3, .int y4_3)]) hx hb dX9_isRound_24 hl (by decide) rfl (fun ls hl => ?_)
        refine lv_iload hx hb dX9_isRound_26 (lv_at hl 0 rfl) ?_
        refine lv_aload_n hx hb dX9_isRound_28 rfl (lv_at hl 1 rfl) ?_
        refine va_calli (va_runV (As := []) (rest := [.int r_17]) ⟨hx, hb, hml, hown, hG⟩ (kX9_songs l dC dI r ct i_taped i_size i_faultKind i_at i_end i_token i_number i_bank i_rb i_codes i_within i_piled i_unitsInRule m4_i_askHouse m4_i_askTune i_acts i_undone i_laid i_knowns i_time f_text f_tunes f_houses f_hums f_told f_many f_ruleFrom f_ruleTo f_code f_eWhat f_eSign f_all f_kept f_was f_sTune f_boxAll m4_J L H16.size hI) (cwV 0 hG (goodV gw1512 gw1514 gw86 gw138 gw1515) rfl rfl rfl hd_X9_songs ⟨(Nat.le_of_ble_eq_true rfl), (Nat.le_of_ble_eq_true rfl)⟩) ⟨fbR, va_recv hK hP (ci := 8) (q0 := 0) rfl rfl, pR_in hP hK⟩ rfl rfl hl.1 rfl (lv_room (Nat.le_of_ble_eq_true rfl)) dX9_isRound_29 ⟨(Nat.le_of_ble_eq_true rfl), (Nat.le_of_ble_eq_true rfl)⟩) hS (fun q hq h => absurd hq (Nat.not_lt.mpr h)) (fun q h => hA q (Nat.le_trans hS.1 h)) (fun r_25 u_ t_ H24 locs ht hvm hw hB hz1 hk1 hS => ?_)
        subst hw
        have hP := wk hP hk1
        have f26 := hB
        have f27 : r_25.toInt = (f_tunes (i_bank.toInt).toNat).toInt := (ob_1286 f26 f22)
        refine lv_icmp_ne (tgt := 38) hx hb dX9_isRound_32 (by decide) (fun c_28 => ?_) (fun c_28 => ?_)
        · skip
          have f29 : r_17.toInt ≠ r_25.toInt := qi_ne c_28 rfl rfl
          have f30 : ((p0.toInt / (pw ((f_tunes (i_bank.toInt).toNat).toInt + 1) (((f_houses (i_bank.toInt).toNat).toInt + -1 * y4_3.toInt + (-1))).toNat)) % ((f_tunes (i_bank.toInt).toNat).toInt + 1)) + 1 ≤ (f_tunes (i_bank.toInt).toNat).toInt := (ob_1287 f22 f20 f29 f27 f23 f15)
          refine lv_iload_n hx hb dX9_isRound_38 rfl (lv_at hl 3 rfl) ?_
          refine lv_iload hx hb dX9_isRound_39 (lv_at hl 0 rfl) ?_
          refine va_calli (va_runS (As := [.int y4_2, .int r_17]) (rest := []) ⟨hx, hb, hml, hown, hG⟩ (kX9_bit l dC dI y4_2 r_17 H24.size) (va_cwS 2 hG (goodS gw1417 gw1418 gw138 gw1419) rfl rfl rfl hd_X9_bit ⟨(Nat.le_of_ble_eq_true rfl), (Nat.le_of_ble_eq_true rfl)⟩) ⟨fbR, pR_in emptyP (emptyK hK)⟩ rfl rfl hl.1 rfl (lv_room (Nat.le_of_ble_eq_true rfl)) dX9_isRound_41 ⟨(Nat.le_of_ble_eq_true rfl), (Nat.le_of_ble_eq_true rfl)⟩) hS (fun q hq h => absurd hq (Nat.not_lt.mpr h)) (fun q h => hA q (Nat.le_trans hS.1 h)) (fun r_32 u_ t_ H31 locs ht hvm hw hB hz1 hk1 hS => ?_)
          subst hw
          have hP := wk hP hk1
          obtain ⟨f33, f34, f35, f36⟩ := hB
          refine lv_if_ne (tgt := 74) hx hb dX9_isRound_44 (by decide) (fun c_37 => ?_) (fun c_37 => ?_)
          · skip
            have f38 : r_32.toInt ≠ 0 := qi_ne c_37 rfl zc_0
            have f39 : (1 : Int) ≤ r_32.toInt := (ob_157 f33 f34 f38)
            refine lv_iconst (v := 0) hx hb dX9_isRound_74 (by decide) ?_
            rw [hQ]
            exact W.zret (v := 0) hx hb hr (by decide) (fun t ht hW => ⟨⟨0, 0, rfl, rfl, ⟨m4_i_askHouse, m4_i_askTune, m4_J, by rw [ht]; exact hP, hD, hI, (ob_1288 zc_0), (ob_1 zc_0), (ob_11 zc_0)⟩⟩, hS.F ht⟩) hS.2.2 dX9_isRound_75
          · skip
            have f40 : r_32.toInt = 0 := qi_eq c_37 rfl zc_0
            refine lv_aload_n hx hb dX9_isRound_47 rfl (lv_at hl 1 rfl) ?_
            refine lv_iload hx hb dX9_isRound_48 (lv_at hl 0 rfl) ?_
            refine va_calli (va_runV (As := [.int r_17]) (rest := []) ⟨hx, hb, hml, hown, hG⟩ (kX9_isOnCart l dC dI r ct i_taped i_size i_faultKind i_at i_end i_token i_number i_bank i_rb i_codes i_within i_piled i_unitsInRule m4_i_askHouse m4_i_askTune i_acts i_undone i_laid i_knowns i_time f_text f_tunes f_houses f_hums f_told f_many f_ruleFrom f_ruleTo f_code f_eWhat f_eSign f_all f_kept f_was f_sTune f_boxAll m4_J L r_17 H31.size hI (ob_1289 f22 f19 f23) (ob_1290 f30 f23)) (cwV 1 hG (goodV gw1704 gw1706 gw111 gw138 gw1707) rfl rfl rfl hd_X9_isOnCart ⟨(Nat.le_of_ble_eq_true rfl), (Nat.le_of_ble_eq_true rfl)⟩) ⟨fbR, va_recv hK hP (ci := 8) (q0 := 0) rfl rfl, pR_in hP hK⟩ rfl rfl hl.1 rfl (lv_room (Nat.le_of_ble_eq_true rfl)) dX9_isRound_50 ⟨(Nat.le_of_ble_eq_true rfl), (Nat.le_of_ble_eq_true rfl)⟩) hS (fun q hq h => absurd hq (Nat.not_lt.mpr h)) (fun q h => hA q (Nat.le_trans hS.1 h)) (fun r_42 u_ t_ H41 locs ht hvm hw hB hz1 hk1 hS => ?_)
            subst hw
            have hP := wk hP hk1
            obtain ⟨f43, f44, f45⟩ := hB
            refine lv_if_eq (tgt := 74) hx hb dX9_isRound_53 (by decide) (fun c_46 => ?_) (fun c_46 => ?_)
            · skip
              have f47 : r_42.toInt = 0 := qi_eq c_46 rfl zc_0
              have f48 : (f_all (r_17.toInt).toNat).toInt + 1 ≠ (0 : Int) := (ob_1204 f43 f47)
              have f49 : r_42.toInt = (0 : Int) := (ob_226 f44 f45 f47)
              refine lv_iconst (v := 0) hx hb dX9_isRound_74 (by decide) ?_
              rw [hQ]
              exact W.zret (v := 0) hx hb hr (by decide) (fun t ht hW => ⟨⟨0, 0, rfl, rfl, ⟨m4_i_askHouse, m4_i_askTune, m4_J, by rw [ht]; exact hP, hD, hI, (ob_1288 zc_0), (ob_1 zc_0), (ob_11 zc_0)⟩⟩, hS.F ht⟩) hS.2.2 dX9_isRound_75
            · skip
              have f50 : r_42.toInt ≠ 0 := qi_ne c_46 rfl zc_0
              have f51 : (f_all (r_17.toInt).toNat).toInt + 1 = (0 : Int) := (ob_1205 f43 f50)
              have f52 : r_42.toInt = (1 : Int) := (ob_1206 f43 f50)
              have f53 : (1 : Int) ≤ r_42.toInt := (ob_162 f44 f45 f52)
              refine lv_aload_n hx hb dX9_isRound_56 rfl (lv_at hl 1 rfl) ?_
              refine lv_iload_n hx hb dX9_isRound_57 rfl (lv_at hl 4 rfl) ?_
              refine va_calli (va_runV (As := [.int y4_3]) (rest := []) ⟨hx, hb, hml, hown, hG⟩ (kX9_triedBy l dC dI r ct i_taped i_size i_faultKind i_at i_end i_token i_number i_bank i_rb i_codes i_within i_piled i_unitsInRule m4_i_askHouse m4_i_askTune i_acts i_undone i_laid i_knowns i_time f_text f_tunes f_houses f_hums f_told f_many f_ruleFrom f_ruleTo f_code f_eWhat f_eSign f_all f_kept f_was f_sTune f_boxAll m4_J L y4_3 H41.size hI) (cwV 1 hG (goodV gw1550 gw1552 gw92 gw138 gw1553) rfl rfl rfl hd_X9_triedBy ⟨(Nat.le_of_ble_eq_true rfl), (Nat.le_of_ble_eq_true rfl)⟩) ⟨fbR, va_recv hK hP (ci := 8) (q0 := 0) rfl rfl, pR_in hP hK⟩ rfl rfl hl.1 rfl (lv_room (Nat.le_of_ble_eq_true rfl)) dX9_isRound_58 ⟨(Nat.le_of_ble_eq_true rfl), (Nat.le_of_ble_eq_true rfl)⟩) hS (fun q hq h => absurd hq (Nat.not_lt.mpr h)) (fun q h => hA q (Nat.le_trans hS.1 h)) (fun r_55 u_ t_ H54 locs ht hvm hw hB hz1 hk1 hS => ?_)
              subst hw
              have hP := wk hP hk1
              obtain ⟨f56, f57, f58⟩ := hB
              have f59 : r_55.toInt = (trb f_all y4_3.toInt (f_tunes (i_bank.toInt).toNat).toInt (6 - ((0 : Int32).toInt)).toNat ((0 : Int32).toInt)) := (ob_1286 f58 f22)
              refine lv_if_ge (tgt := 74) hx hb dX9_isRound_61 (by decide) (fun c_60 => ?_) (fun c_60 => ?_)
              · skip
                have f61 : 0 ≤ r_55.toInt := qi_le c_60 zc_0 rfl
                refine lv_iconst (v := 0) hx hb dX9_isRound_74 (by decide) ?_
                rw [hQ]
                exact W.zret (v := 0) hx hb hr (by decide) (fun t ht hW => ⟨⟨0, 0, rfl, rfl, ⟨m4_i_askHouse, m4_i_askTune, m4_J, by rw [ht]; exact hP, hD, hI, (ob_1288 zc_0), (ob_1 zc_0), (ob_11 zc_0)⟩⟩, hS.F ht⟩) hS.2.2 dX9_isRound_75
              · skip
                have f62 : r_55.toInt < 0 := qi_nle c_60 zc_0 rfl
                refine lv_aload_n hx hb dX9_isRound_64 rfl (lv_at hl 1 rfl) ?_
                refine lv_iload_n hx hb dX9_isRound_65 rfl (lv_at hl 4 rfl) ?_
                refine lv_iload hx hb dX9_isRound_66 (lv_at hl 0 rfl) ?_
                have hFc := frA hD hS hA
                refine va_calli (va_runV (As := [.int y4_3, .int r_17]) (rest := []) ⟨hx, hb, hml, hown, hG⟩ (kX9_doesTake l dC dI r ct i_taped i_size i_faultKind i_at i_end i_token i_number i_bank i_rb i_codes i_within i_piled i_unitsInRule m4_i_askHouse m4_i_askTune i_acts i_undone i_laid i_knowns i_time f_text f_tunes f_houses f_hums f_told f_many f_ruleFrom f_ruleTo f_code f_eWhat f_eSign f_all f_kept f_was f_sTune f_boxAll m4_J L y4_3 r_17 H54.size hI (ob_139 g4_0) (ob_1054 f9 f6) (ob_1289 f22 f19 f23) (ob_1290 f30 f23)) (cwV 2 hG (goodV gw1610 gw1612 gw104 gw138 gw1613) rfl rfl rfl hd_X9_doesTake ⟨(Nat.le_of_ble_eq_true rfl), (Nat.le_of_ble_eq_true rfl)⟩) ⟨fbW, va_recv hK hP (ci := 8) (q0 := 0) rfl rfl, pW_in hP hK hD⟩ rfl rfl hl.1 rfl (lv_room (Nat.le_of_ble_eq_true rfl)) dX9_isRound_68 ⟨(Nat.le_of_ble_eq_true rfl), (Nat.le_of_ble_eq_true rfl)⟩) hS (fun q _ h => hFc q h) hFc (fun r_64 u_ t_ H63 locs ht hvm hw hB hz1 hk1 hS => ?_)
                subst hw
                obtain ⟨x65, x66, J67, hP1, hD1, hI71, f68, f69, f70⟩ := hB
                rw [ht] at hP1
                have hP := hP1
                have hD := dW hFc hD1
                obtain ⟨im72, im73, im74, im75, im76, im77, im78, im79, im80, im81, im82, im83, im84, im85, im86, im87, im88, im89, im90, im91, im92, im93, im94, im95, im96, im97, im98, im99, im100, im101, im102, im103, im104⟩ := id hI71
                refine lv_if_ne (tgt := 76) hx hb dX9_isRound_71 (by decide) (fun c_105 => ?_) (fun c_105 => ?_)
                · skip
                  have f106 : r_64.toInt ≠ 0 := qi_ne c_105 rfl zc_0
                  have f107 : r_64.toInt = (1 : Int) := (ob_592 f68 f106)
                  have f108 : (1 : Int) ≤ r_64.toInt := (ob_162 f69 f70 f107)
                  refine lv_iload_n hx hb dX9_isRound_76 rfl (lv_at hl 3 rfl) ?_
                  refine lv_iconst (v := 1) hx hb dX9_isRound_77 (by decide) ?_
                  refine lv_iload hx hb dX9_isRound_78 (lv_at hl 0 rfl) ?_
                  refine lv_ishl hx hb dX9_isRound_80 ?_
                  refine lv_topi (fun x109 ex109 => ?_)
                  refine lv_ior hx hb dX9_isRound_81 ?_
                  refine lv_topi (fun x110 ex110 => ?_)
                  refine lv_istore_n (lv' := [(2, .int x110), (4, .int r_17), (0, .ref (r 0)), (1, .int p0), (3, .int y4_3)]) hx hb dX9_isRound_82 rfl hl (by decide) rfl (fun ls hl => ?_)
                  obtain ⟨x111, ex111⟩ : ∃ y : Int32, y = y4_3 + Int32.ofInt 1 := ⟨_, rfl⟩
                  have f112 : x111.toInt = y4_3.toInt + 1 := (ob_142 (qi_add ex111 rfl (by decide) (ob_140 g4_0) (ob_794 g4_1)))
                  refine lv_iinc (v := x111) (lv' := [(3, .int x111), (2, .int x110), (4, .int r_17), (0, .ref (r 0)), (1, .int p0)]) hx hb dX9_isRound_83 hl (k := 4) rfl ex111.symm (by decide) rfl (fun ls hl => ?_)
                  refine lv_goto (tgt := 4) hx hb dX9_isRound_86 (by decide) ?_
                  exact ih4 x110 x111 x65 x66 J67 H63 _ _ (ob_149 g4_0 f112) (ob_795 f2 f9 f6 f112) hP hD hS (lv_sub hl [3, 4, 1, 0] rfl) (ob_796 hM4 f112)
                · skip
                  have f113 : r_64.toInt = 0 := qi_eq c_105 rfl zc_0
                  have f114 : r_64.toInt = (0 : Int) := (ob_226 f69 f70 f113)
                  refine lv_iconst (v := 0) hx hb dX9_isRound_74 (by decide) ?_
                  rw [hQ]
                  exact W.zret (v := 0) hx hb hr (by decide) (fun t ht hW => ⟨⟨0, 0, rfl, rfl, ⟨x65, x66, J67, by rw [ht]; exact hP, hD, hI71, (ob_1288 zc_0), (ob_1 zc_0), (ob_11 zc_0)⟩⟩, hS.F ht⟩) hS.2.2 dX9_isRound_75
        · skip
          have f115 : r_17.toInt = r_25.toInt := qi_eq c_28 rfl rfl
          refine lv_goto (tgt := 83) hx hb dX9_isRound_35 (by decide) ?_
          obtain ⟨x116, ex116⟩ : ∃ y : Int32, y = y4_3 + Int32.ofInt 1 := ⟨_, rfl⟩
          have f117 : x116.toInt = y4_3.toInt + 1 := (ob_142 (qi_add ex116 rfl (by decide) (ob_140 g4_0) (ob_794 g4_1)))
          refine lv_iinc (v := x116) (lv' := [(3, .int x116), (4, .int r_17), (0, .ref (r 0)), (1, .int p0), (2, .int y4_2)]) hx hb dX9_isRound_83 hl (k := 4) rfl ex116.symm (by decide) rfl (fun ls hl => ?_)
          refine lv_goto (tgt := 4) hx hb dX9_isRound_86 (by decide) ?_
          exact ih4 y4_2 x116 m4_i_askHouse m4_i_askTune m4_J H24 _ _ (ob_149 g4_0 f117) (ob_795 f2 f9 f6 f117) hP hD hS (lv_sub hl [2, 3, 4, 0] rfl) (ob_796 hM4 f117)
  exact L4 (-1 * (0 : Int32).toInt + 4 + 1).toNat 0 0 i_askHouse i_askTune J s.heap _ _ (ob_1 zc_0) (ob_797 zc_0) hP hD hS (lv_sub hl [2, 3, 1, 0] rfl) (mlt (ob_798 zc_0))
