set_option maxHeartbeats 4000000 in
set_option maxRecDepth 100000 in
theorem kX9_homes (l : Launch) (dC : Nat → ClassId) (dI : Nat → Nat → Nat) (r : Nat → Nat) (ct : Nat → ClassId) (i_taped i_size i_faultKind i_at i_end i_token i_number i_bank i_rb i_codes i_within i_piled i_unitsInRule i_askHouse i_askTune i_acts i_undone i_laid i_knowns i_time : Int32) (f_text f_tunes f_houses f_hums f_told f_many f_ruleFrom f_ruleTo f_code f_eWhat f_eSign f_all f_kept f_was f_sTune f_boxAll : Nat → Int32) (J : Nat → Nat → Int32) (L : Nat → Nat → Int64) (sz : Nat) (hI : (IM i_taped i_size i_faultKind i_at i_end i_bank i_rb i_acts i_undone i_laid i_knowns i_time f_tunes f_houses f_hums f_told f_many f_ruleFrom f_ruleTo f_code f_all f_kept f_was f_sTune f_boxAll)) : Met l yX9_homes (.code yX9_homes cX9_homes 1 (some .int) :: GW) { frames := 2, cells := 0, slots := 0, locals := 100 } (va_Pc [.ref (r 0)] (pR (dC, dI) (WM r ct i_taped i_size i_faultKind i_at i_end i_token i_number i_bank i_rb i_codes i_within i_piled i_unitsInRule i_askHouse i_askTune i_acts i_undone i_laid i_knowns i_time f_text f_tunes f_houses f_hums f_told f_many f_ruleFrom f_ruleTo f_code f_eWhat f_eSign f_all f_kept f_was f_sTune f_boxAll J L) (TM ct) sz)) (va_Qi (fun (r0 : Int32) (u : Int32) => r0 = u) (fun (u : Int32) (t : State) => (u.toInt = (f_houses (i_bank.toInt).toNat).toInt)) (fun q => sz ≤ q)) 0 0 (fun q => sz ≤ q) := by
  refine Met.ofW (cc := cX9_homes) (maxL := 1) (ret := (some .int)) (by decide) rfl ?_
  intro p e s m args below meth c0 s₁ B hml hv
  obtain ⟨rfl, hsz, hP, hK⟩ := hv
  have hx := B.exec
  have hb := B.bytes
  have hr := B.returns
  have hts := atoms_spec (ws := .code yX9_homes cX9_homes 1 (some .int) :: GW) B.pre
  have hG : ∀ w ∈ GW, w.before _ s = true := fun w h => hts w (List.mem_cons_of_mem _ h)
  have hown : s.vm.findClass RX9 = some m.cls := findClass_of_methodNamed B.named
  subst hsz
  have hS : va_S (fun q => s.heap.size ≤ q) s.heap s.heap [] := va_S.rf
  have hP : va_P (dC, dI) vwCl (WM r ct i_taped i_size i_faultKind i_at i_end i_token i_number i_bank i_rb i_codes i_within i_piled i_unitsInRule i_askHouse i_askTune i_acts i_undone i_laid i_knowns i_time f_text f_tunes f_houses f_hums f_told f_many f_ruleFrom f_ruleTo f_code f_eWhat f_eSign f_all f_kept f_was f_sTune f_boxAll J L) s.heap := hP
  have hl := lv_entry ([.ref (r 0)]) (n := 1) (Nat.le_of_ble_eq_true rfl)
  rw [lg_entry_eq]
  generalize (lg_sl ([.ref (r 0)]) ++ List.replicate (1 - (lg_sl ([.ref (r 0)])).length) Slot.unset).toArray = ls at hl ⊢
  have hl : lv_has ls 1 [(0, .ref (r 0))] := hl
  refine nameQ (fun Q hQ => ?_)
  obtain ⟨im0, im1, im2, im3, im4, im5, im6, im7, im8, im9, im10, im11, im12, im13, im14, im15, im16, im17, im18, im19, im20, im21, im22, im23, im24, im25, im26, im27, im28, im29, im30, im31⟩ := id hI
  have f1 : 0 ≤ (f_tunes (i_bank.toInt).toNat).toInt ∧ (f_tunes (i_bank.toInt).toNat).toInt ≤ 5 := im21 (i_bank.toInt)
  have f2 : 0 ≤ (f_houses (i_bank.toInt).toNat).toInt ∧ (f_houses (i_bank.toInt).toNat).toInt ≤ 4 := im22 (i_bank.toInt)
  refine lv_aload_n hx hb dX9_homes_0 rfl (lv_at hl 0 rfl) ?_
  refine gM_X9_27_0 hx hb hG hown hK hP dX9_homes_1 ?_
  refine lv_aload_n hx hb dX9_homes_4 rfl (lv_at hl 0 rfl) ?_
  refine gM_X9_249_0 hx hb hG hown hK hP dX9_homes_5 ?_
  refine ldM_5 (mm := i_bank.toInt) hx hb hK hP rfl (ob_351 im4 im5) (ob_352 im4 im5) dX9_homes_8 ?_
  rw [hQ]
  exact W.iret (v := (f_houses (i_bank.toInt).toNat)) hx hb hr (fun t ht hW => ⟨⟨(f_houses (i_bank.toInt).toNat), (f_houses (i_bank.toInt).toNat), rfl, rfl, (ob_438)⟩, hS.F ht⟩) hS.2.2 dX9_homes_9
set_option maxHeartbeats 4000000 in
set_option maxRecDepth 100000 in
theorem kX9_isTune (l : Launch) (dC : Nat → ClassId) (dI : Nat → Nat → Nat) (r : Nat → Nat) (ct : Nat → ClassId) (i_taped i_size i_faultKind i_at i_end i_token i_number i_bank i_rb i_codes i_within i_piled i_unitsInRule i_askHouse i_askTune i_acts i_undone i_laid i_knowns i_time : Int32) (f_text f_tunes f_houses f_hums f_told f_many f_ruleFrom f_ruleTo f_code f_eWhat f_eSign f_all f_kept f_was f_sTune f_boxAll : Nat → Int32) (J : Nat → Nat → Int32) (L : Nat → Nat → Int64) (p0 : Int32) (sz : Nat) (hI : (IM i_taped i_size i_faultKind i_at i_end i_bank i_rb i_acts i_undone i_laid i_knowns i_time f_tunes f_houses f_hums f_told f_many f_ruleFrom f_ruleTo f_code f_all f_kept f_was f_sTune f_boxAll)) : Met l yX9_isTune (.code yX9_isTune cX9_isTune 2 (some .boolean) :: GW) { frames := 4, cells := 0, slots := 0, locals := 162 } (va_Pc [.ref (r 0), .int p0] (pR (dC, dI) (WM r ct i_taped i_size i_faultKind i_at i_end i_token i_number i_bank i_rb i_codes i_within i_piled i_unitsInRule i_askHouse i_askTune i_acts i_undone i_laid i_knowns i_time f_text f_tunes f_houses f_hums f_told f_many f_ruleFrom f_ruleTo f_code f_eWhat f_eSign f_all f_kept f_was f_sTune f_boxAll J L) (TM ct) sz)) (va_Qi (fun (r0 : Int32) (u : Int32) => r0 = u) (fun (u : Int32) (t : State) => (((p0.toInt + 1 ≤ 0) ∧ (u.toInt = 0)) ∨ ((0 ≤ p0.toInt) ∧ ((f_tunes (i_bank.toInt).toNat).toInt ≤ p0.toInt) ∧ (u.toInt = 0)) ∨ ((0 ≤ p0.toInt) ∧ (p0.toInt + 1 ≤ (f_tunes (i_bank.toInt).toNat).toInt) ∧ (u.toInt = 1))) ∧ (0 ≤ u.toInt) ∧ (u.toInt ≤ 1) ∧ (0 ≤ u.toInt) ∧ (u.toInt ≤ 1)) (fun q => sz ≤ q)) 0 0 (fun q => sz ≤ q) := by
  refine Met.ofW (cc := cX9_isTune) (maxL := 2) (ret := (some .boolean)) (by decide) rfl ?_
  intro p e s m args below meth c0 s₁ B hml hv
  obtain ⟨rfl, hsz, hP, hK⟩ := hv
  have hx := B.exec
  have hb := B.bytes
  have hr := B.returns
  have hts := atoms_spec (ws := .code yX9_isTune cX9_isTune 2 (some .boolean) :: GW) B.pre
  have hG : ∀ w ∈ GW, w.before _ s = true := fun w h => hts w (List.mem_cons_of_mem _ h)
  have hown : s.vm.findClass RX9 = some m.cls := findClass_of_methodNamed B.named
  subst hsz
  have hS : va_S (fun q => s.heap.size ≤ q) s.heap s.heap [] := va_S.rf
  have hP : va_P (dC, dI) vwCl (WM r ct i_taped i_size i_faultKind i_at i_end i_token i_number i_bank i_rb i_codes i_within i_piled i_unitsInRule i_askHouse i_askTune i_acts i_undone i_laid i_knowns i_time f_text f_tunes f_houses f_hums f_told f_many f_ruleFrom f_ruleTo f_code f_eWhat f_eSign f_all f_kept f_was f_sTune f_boxAll J L) s.heap := hP
  have hl := lv_entry ([.ref (r 0), .int p0]) (n := 2) (Nat.le_of_ble_eq_true rfl)
  rw [lg_entry_eq]
  generalize (lg_sl ([.ref (r 0), .int p0]) ++ List.replicate (2 - (lg_sl ([.ref (r 0), .int p0])).length) Slot.unset).toArray = ls at hl ⊢
  have hl : lv_has ls 2 [(0, .ref (r 0)), (1, .int p0)] := hl
  refine nameQ (fun Q hQ => ?_)
  obtain ⟨im0, im1, im2, im3, im4, im5, im6, im7, im8, im9, im10, im11, im12, im13, im14, im15, im16, im17, im18, im19, im20, im21, im22, im23, im24, im25, im26, im27, im28, im29, im30, im31⟩ := id hI
  have f1 : 0 ≤ (f_tunes (i_bank.toInt).toNat).toInt ∧ (f_tunes (i_bank.toInt).toNat).toInt ≤ 5 := im21 (i_bank.toInt)
  have f2 : 0 ≤ (f_houses (i_bank.toInt).toNat).toInt ∧ (f_houses (i_bank.toInt).toNat).toInt ≤ 4 := im22 (i_bank.toInt)
  refine lv_iload_n hx hb dX9_isTune_0 rfl (lv_at hl 1 rfl) ?_
  refine lv_iconst (v := 0) hx hb dX9_isTune_1 (by decide) ?_
  refine lv_aload_n hx hb dX9_isTune_2 rfl (lv_at hl 0 rfl) ?_
  refine va_calli (va_runV (As := []) (rest := [.int 0, .int p0]) ⟨hx, hb, hml, hown, hG⟩ (kX9_songs l dC dI r ct i_taped i_size i_faultKind i_at i_end i_token i_number i_bank i_rb i_codes i_within i_piled i_unitsInRule i_askHouse i_askTune i_acts i_undone i_laid i_knowns i_time f_text f_tunes f_houses f_hums f_told f_many f_ruleFrom f_ruleTo f_code f_eWhat f_eSign f_all f_kept f_was f_sTune f_boxAll J L s.heap.size hI) (cwV 0 hG (goodV gw1512 gw1514 gw86 gw138 gw1515) rfl rfl rfl hd_X9_songs ⟨(Nat.le_of_ble_eq_true rfl), (Nat.le_of_ble_eq_true rfl)⟩) ⟨fbR, va_recv hK hP (ci := 8) (q0 := 0) rfl rfl, pR_in hP hK⟩ rfl rfl hl.1 rfl (lv_room (Nat.le_of_ble_eq_true rfl)) dX9_isTune_3 ⟨(Nat.le_of_ble_eq_true rfl), (Nat.le_of_ble_eq_true rfl)⟩) hS (fun q hq h => absurd hq (Nat.not_lt.mpr h)) (fun q h => Nat.le_trans hS.1 h) (fun r_4 u_ t_ H3 locs ht hvm hw hB hz1 hk1 hS => ?_)
  subst hw
  have hP := wk hP hk1
  have f5 := hB
  have f6 : r_4.toInt = (f_tunes (i_bank.toInt).toNat).toInt := (ob_6 f5)
  refine lv_iconst (v := 1) hx hb dX9_isTune_6 (by decide) ?_
  refine lv_isub hx hb dX9_isTune_7 ?_
  refine lv_topi (fun x7 ex7 => ?_)
  have f8 : x7.toInt = (f_tunes (i_bank.toInt).toNat).toInt + (-1) := (ob_441 (qi_sub ex7 rfl zc_1 (ob_439 f1 f6) (ob_440 f1 f6)) f6)
  refine va_calli (va_runS (As := [.int p0, .int 0, .int x7]) (rest := []) ⟨hx, hb, hml, hown, hG⟩ (kX9_isIn l dC dI p0 0 x7 H3.size) (va_cwS 3 hG (goodS gw1516 gw1517 gw138 gw1518) rfl rfl rfl hd_X9_isIn ⟨(Nat.le_of_ble_eq_true rfl), (Nat.le_of_ble_eq_true rfl)⟩) ⟨fbR, pR_in emptyP (emptyK hK)⟩ rfl rfl hl.1 rfl (lv_room (Nat.le_of_ble_eq_true rfl)) dX9_isTune_8 ⟨(Nat.le_of_ble_eq_true rfl), (Nat.le_of_ble_eq_true rfl)⟩) hS (fun q hq h => absurd hq (Nat.not_lt.mpr h)) (fun q h => Nat.le_trans hS.1 h) (fun r_10 u_ t_ H9 locs ht hvm hw hB hz1 hk1 hS => ?_)
  subst hw
  have hP := wk hP hk1
  obtain ⟨f11, f12, f13⟩ := hB
  rw [hQ]
  exact W.zret (v := r_10) hx hb hr (zn (ob_351 f12 f13) (ob_443 f12 f13)) (fun t ht hW => ⟨⟨r_10, r_10, rfl, rfl, ⟨(ob_442 f11 f8 zc_0), (ob_351 f12 f13), (ob_443 f12 f13), (ob_351 f12 f13), (ob_443 f12 f13)⟩⟩, hS.F ht⟩) hS.2.2 dX9_isTune_11
set_option maxHeartbeats 4000000 in
set_option maxRecDepth 100000 in
theorem kX9_isHouse (l : Launch) (dC : Nat → ClassId) (dI : Nat → Nat → Nat) (r : Nat → Nat) (ct : Nat → ClassId) (i_taped i_size i_faultKind i_at i_end i_token i_number i_bank i_rb i_codes i_within i_piled i_unitsInRule i_askHouse i_askTune i_acts i_undone i_laid i_knowns i_time : Int32) (f_text f_tunes f_houses f_hums f_told f_many f_ruleFrom f_ruleTo f_code f_eWhat f_eSign f_all f_kept f_was f_sTune f_boxAll : Nat → Int32) (J : Nat → Nat → Int32) (L : Nat → Nat → Int64) (p0 : Int32) (sz : Nat) (hI : (IM i_taped i_size i_faultKind i_at i_end i_bank i_rb i_acts i_undone i_laid i_knowns i_time f_tunes f_houses f_hums f_told f_many f_ruleFrom f_ruleTo f_code f_all f_kept f_was f_sTune f_boxAll)) : Met l yX9_isHouse (.code yX9_isHouse cX9_isHouse 2 (some .boolean) :: GW) { frames := 4, cells := 0, slots := 0, locals := 162 } (va_Pc [.ref (r 0), .int p0] (pR (dC, dI) (WM r ct i_taped i_size i_faultKind i_at i_end i_token i_number i_bank i_rb i_codes i_within i_piled i_unitsInRule i_askHouse i_askTune i_acts i_undone i_laid i_knowns i_time f_text f_tunes f_houses f_hums f_told f_many f_ruleFrom f_ruleTo f_code f_eWhat f_eSign f_all f_kept f_was f_sTune f_boxAll J L) (TM ct) sz)) (va_Qi (fun (r0 : Int32) (u : Int32) => r0 = u) (fun (u : Int32) (t : State) => (((p0.toInt + 1 ≤ 0) ∧ (u.toInt = 0)) ∨ ((0 ≤ p0.toInt) ∧ ((f_houses (i_bank.toInt).toNat).toInt ≤ p0.toInt) ∧ (u.toInt = 0)) ∨ ((0 ≤ p0.toInt) ∧ (p0.toInt + 1 ≤ (f_houses (i_bank.toInt).toNat).toInt) ∧ (u.toInt = 1))) ∧ (0 ≤ u.toInt) ∧ (u.toInt ≤ 1) ∧ (0 ≤ u.toInt) ∧ (u.toInt ≤ 1)) (fun q => sz ≤ q)) 0 0 (fun q => sz ≤ q) := by
  refine Met.ofW (cc := cX9_isHouse) (maxL := 2) (ret := (some .boolean)) (by decide) rfl ?_
  intro p e s m args below meth c0 s₁ B hml hv
  obtain ⟨rfl, hsz, hP, hK⟩ := hv
  have hx := B.exec
  have hb := B.bytes
  have hr := B.returns
  have hts := atoms_spec (ws := .code yX9_isHouse cX9_isHouse 2 (some .boolean) :: GW) B.pre
  have hG : ∀ w ∈ GW, w.before _ s = true := fun w h => hts w (List.mem_cons_of_mem _ h)
  have hown : s.vm.findClass RX9 = some m.cls := findClass_of_methodNamed B.named
  subst hsz
  have hS : va_S (fun q => s.heap.size ≤ q) s.heap s.heap [] := va_S.rf
  have hP : va_P (dC, dI) vwCl (WM r ct i_taped i_size i_faultKind i_at i_end i_token i_number i_bank i_rb i_codes i_within i_piled i_unitsInRule i_askHouse i_askTune i_acts i_undone i_laid i_knowns i_time f_text f_tunes f_houses f_hums f_told f_many f_ruleFrom f_ruleTo f_code f_eWhat f_eSign f_all f_kept f_was f_sTune f_boxAll J L) s.heap := hP
  have hl := lv_entry ([.ref (r 0), .int p0]) (n := 2) (Nat.le_of_ble_eq_true rfl)
  rw [lg_entry_eq]
  generalize (lg_sl ([.ref (r 0), .int p0]) ++ List.replicate (2 - (lg_sl ([.ref (r 0), .int p0])).length) Slot.unset).toArray = ls at hl ⊢
  have hl : lv_has ls 2 [(0, .ref (r 0)), (1, .int p0)] := hl
  refine nameQ (fun Q hQ => ?_)
  obtain ⟨im0, im1, im2, im3, im4, im5, im6, im7, im8, im9, im10, im11, im12, im13, im14, im15, im16, im17, im18, im19, im20, im21, im22, im23, im24, im25, im26, im27, im28, im29, im30, im31⟩ := id hI
  have f1 : 0 ≤ (f_tunes (i_bank.toInt).toNat).toInt ∧ (f_tunes (i_bank.toInt).toNat).toInt ≤ 5 := im21 (i_bank.toInt)
  have f2 : 0 ≤ (f_houses (i_bank.toInt).toNat).toInt ∧ (f_houses (i_bank.toInt).toNat).toInt ≤ 4 := im22 (i_bank.toInt)
  refine lv_iload_n hx hb dX9_isHouse_0 rfl (lv_at hl 1 rfl) ?_
  refine lv_iconst (v := 0) hx hb dX9_isHouse_1 (by decide) ?_
  refine lv_aload_n hx hb dX9_isHouse_2 rfl (lv_at hl 0 rfl) ?_
  refine va_calli (va_runV (As := []) (rest := [.int 0, .int p0]) ⟨hx, hb, hml, hown, hG⟩ (kX9_homes l dC dI r ct i_taped i_size i_faultKind i_at i_end i_token i_number i_bank i_rb i_codes i_within i_piled i_unitsInRule i_askHouse i_askTune i_acts i_undone i_laid i_knowns i_time f_text f_tunes f_houses f_hums f_told f_many f_ruleFrom f_ruleTo f_code f_eWhat f_eSign f_all f_kept f_was f_sTune f_boxAll J L s.heap.size hI) (cwV 0 hG (goodV gw1167 gw1169 gw58 gw138 gw1170) rfl rfl rfl hd_X9_homes ⟨(Nat.le_of_ble_eq_true rfl), (Nat.le_of_ble_eq_true rfl)⟩) ⟨fbR, va_recv hK hP (ci := 8) (q0 := 0) rfl rfl, pR_in hP hK⟩ rfl rfl hl.1 rfl (lv_room (Nat.le_of_ble_eq_true rfl)) dX9_isHouse_3 ⟨(Nat.le_of_ble_eq_true rfl), (Nat.le_of_ble_eq_true rfl)⟩) hS (fun q hq h => absurd hq (Nat.not_lt.mpr h)) (fun q h => Nat.le_trans hS.1 h) (fun r_4 u_ t_ H3 locs ht hvm hw hB hz1 hk1 hS => ?_)
  subst hw
  have hP := wk hP hk1
  have f5 := hB
  have f6 : r_4.toInt = (f_houses (i_bank.toInt).toNat).toInt := (ob_6 f5)
  refine lv_iconst (v := 1) hx hb dX9_isHouse_6 (by decide) ?_
  refine lv_isub hx hb dX9_isHouse_7 ?_
  refine lv_topi (fun x7 ex7 => ?_)
  have f8 : x7.toInt = (f_houses (i_bank.toInt).toNat).toInt + (-1) := (ob_441 (qi_sub ex7 rfl zc_1 (ob_444 f2 f6) (ob_445 f2 f6)) f6)
  refine va_calli (va_runS (As := [.int p0, .int 0, .int x7]) (rest := []) ⟨hx, hb, hml, hown, hG⟩ (kX9_isIn l dC dI p0 0 x7 H3.size) (va_cwS 3 hG (goodS gw1516 gw1517 gw138 gw1518) rfl rfl rfl hd_X9_isIn ⟨(Nat.le_of_ble_eq_true rfl), (Nat.le_of_ble_eq_true rfl)⟩) ⟨fbR, pR_in emptyP (emptyK hK)⟩ rfl rfl hl.1 rfl (lv_room (Nat.le_of_ble_eq_true rfl)) dX9_isHouse_8 ⟨(Nat.le_of_ble_eq_true rfl), (Nat.le_of_ble_eq_true rfl)⟩) hS (fun q hq h => absurd hq (Nat.not_lt.mpr h)) (fun q h => Nat.le_trans hS.1 h) (fun r_10 u_ t_ H9 locs ht hvm hw hB hz1 hk1 hS => ?_)
  subst hw
  have hP := wk hP hk1
  obtain ⟨f11, f12, f13⟩ := hB
  rw [hQ]
  exact W.zret (v := r_10) hx hb hr (zn (ob_351 f12 f13) (ob_443 f12 f13)) (fun t ht hW => ⟨⟨r_10, r_10, rfl, rfl, ⟨(ob_442 f11 f8 zc_0), (ob_351 f12 f13), (ob_443 f12 f13), (ob_351 f12 f13), (ob_443 f12 f13)⟩⟩, hS.F ht⟩) hS.2.2 dX9_isHouse_11
set_option maxHeartbeats 4000000 in
set_option maxRecDepth 100000 in
theorem kX9_isNote (l : Launch) (dC : Nat → ClassId) (dI : Nat → Nat → Nat) (p0 : Int32) (sz : Nat) : Met l yX9_isNote (.code yX9_isNote cX9_isNote 1 (some .boolean) :: GW) { frames := 2, cells := 0, slots := 0, locals := 100 } (va_Pc [.int p0] (pR (dC, dI) [] [] sz)) (va_Qi (fun (r0 : Int32) (u : Int32) => r0 = u) (fun (u : Int32) (t : State) => (((p0.toInt + 1 ≤ 0) ∧ (u.toInt = 0)) ∨ ((0 ≤ p0.toInt) ∧ (7 ≤ p0.toInt) ∧ (u.toInt = 0)) ∨ ((0 ≤ p0.toInt) ∧ (p0.toInt ≤ 6) ∧ (u.toInt = 1))) ∧ (0 ≤ u.toInt) ∧ (u.toInt ≤ 1)) (fun q => sz ≤ q)) 0 0 (fun q => sz ≤ q) := by
  refine Met.ofW (cc := cX9_isNote) (maxL := 1) (ret := (some .boolean)) (by decide) rfl ?_
  intro p e s m args below meth c0 s₁ B hml hv
  obtain ⟨rfl, hsz, hP, hK⟩ := hv
  have hx := B.exec
  have hb := B.bytes
  have hr := B.returns
  have hts := atoms_spec (ws := .code yX9_isNote cX9_isNote 1 (some .boolean) :: GW) B.pre
  have hG : ∀ w ∈ GW, w.before _ s = true := fun w h => hts w (List.mem_cons_of_mem _ h)
  have hown : s.vm.findClass RX9 = some m.cls := findClass_of_methodNamed B.named
  subst hsz
  have hS : va_S (fun q => s.heap.size ≤ q) s.heap s.heap [] := va_S.rf
  have hP : va_P (dC, dI) vwCl [] s.heap := hP
  have hl := lv_entry ([.int p0]) (n := 1) (Nat.le_of_ble_eq_true rfl)
  rw [lg_entry_eq]
  generalize (lg_sl ([.int p0]) ++ List.replicate (1 - (lg_sl ([.int p0])).length) Slot.unset).toArray = ls at hl ⊢
  have hl : lv_has ls 1 [(0, .int p0)] := hl
  refine nameQ (fun Q hQ => ?_)
  refine lv_iload_n hx hb dX9_isNote_0 rfl (lv_at hl 0 rfl) ?_
  refine lv_if_lt (tgt := 14) hx hb dX9_isNote_1 (by decide) (fun c_1 => ?_) (fun c_1 => ?_)
  · skip
    have f2 : p0.toInt < 0 := qi_lt c_1 rfl zc_0
    refine lv_iconst (v := 0) hx hb dX9_isNote_14 (by decide) ?_
    rw [hQ]
    exact W.zret (v := 0) hx hb hr (by decide) (fun t ht hW => ⟨⟨0, 0, rfl, rfl, ⟨(ob_446 f2 zc_0), (ob_1 zc_0), (ob_11 zc_0)⟩⟩, hS.F ht⟩) hS.2.2 dX9_isNote_15
  · skip
    have f3 : 0 ≤ p0.toInt := qi_nlt c_1 rfl zc_0
    refine lv_iload_n hx hb dX9_isNote_4 rfl (lv_at hl 0 rfl) ?_
    refine lv_bipush (v := 7) hx hb dX9_isNote_5 (by decide) ?_
    refine lv_icmp_ge (tgt := 14) hx hb dX9_isNote_7 (by decide) (fun c_4 => ?_) (fun c_4 => ?_)
    · skip
      have f5 : 7 ≤ p0.toInt := qi_le c_4 zc_7 rfl
      refine lv_iconst (v := 0) hx hb dX9_isNote_14 (by decide) ?_
      rw [hQ]
      exact W.zret (v := 0) hx hb hr (by decide) (fun t ht hW => ⟨⟨0, 0, rfl, rfl, ⟨(ob_447 f3 f5 zc_0), (ob_1 zc_0), (ob_11 zc_0)⟩⟩, hS.F ht⟩) hS.2.2 dX9_isNote_15
    · skip
      have f6 : p0.toInt < 7 := qi_nle c_4 zc_7 rfl
      refine lv_iconst (v := 1) hx hb dX9_isNote_10 (by decide) ?_
      refine lv_goto (tgt := 15) hx hb dX9_isNote_11 (by decide) ?_
      rw [hQ]
      exact W.zret (v := 1) hx hb hr (by decide) (fun t ht hW => ⟨⟨1, 1, rfl, rfl, ⟨(ob_448 f3 f6 zc_1), (ob_14 zc_1), (ob_15 zc_1)⟩⟩, hS.F ht⟩) hS.2.2 dX9_isNote_15
set_option maxHeartbeats 4000000 in
set_option maxRecDepth 100000 in
theorem kX9_placeOf (l : Launch) (dC : Nat → ClassId) (dI : Nat → Nat → Nat) (r : Nat → Nat) (ct : Nat → ClassId) (i_taped i_size i_faultKind i_at i_end i_token i_number i_bank i_rb i_codes i_within i_piled i_unitsInRule i_askHouse i_askTune i_acts i_undone i_laid i_knowns i_time : Int32) (f_text f_tunes f_houses f_hums f_told f_many f_ruleFrom f_ruleTo f_code f_eWhat f_eSign f_all f_kept f_was f_sTune f_boxAll : Nat → Int32) (J : Nat → Nat → Int32) (L : Nat → Nat → Int64) (p0 : Int32) (sz : Nat) (hI : (IM i_taped i_size i_faultKind i_at i_end i_bank i_rb i_acts i_undone i_laid i_knowns i_time f_tunes f_houses f_hums f_told f_many f_ruleFrom f_ruleTo f_code f_all f_kept f_was f_sTune f_boxAll)) (hp0 : 0 ≤ p0.toInt) (hp1 : p0.toInt + 1 ≤ (f_houses (i_bank.toInt).toNat).toInt) : Met l yX9_placeOf (.code yX9_placeOf cX9_placeOf 2 (some .int) :: GW) { frames := 2, cells := 0, slots := 0, locals := 100 } (va_Pc [.ref (r 0), .int p0] (pR (dC, dI) (WM r ct i_taped i_size i_faultKind i_at i_end i_token i_number i_bank i_rb i_codes i_within i_piled i_unitsInRule i_askHouse i_askTune i_acts i_undone i_laid i_knowns i_time f_text f_tunes f_houses f_hums f_told f_many f_ruleFrom f_ruleTo f_code f_eWhat f_eSign f_all f_kept f_was f_sTune f_boxAll J L) (TM ct) sz)) (va_Qi (fun (r0 : Int32) (u : Int32) => r0 = u) (fun (u : Int32) (t : State) => True) (fun q => sz ≤ q)) 0 0 (fun q => sz ≤ q) := by
  refine Met.ofW (cc := cX9_placeOf) (maxL := 2) (ret := (some .int)) (by decide) rfl ?_
  intro p e s m args below meth c0 s₁ B hml hv
  obtain ⟨rfl, hsz, hP, hK⟩ := hv
  have hx := B.exec
  have hb := B.bytes
  have hr := B.returns
  have hts := atoms_spec (ws := .code yX9_placeOf cX9_placeOf 2 (some .int) :: GW) B.pre
  have hG : ∀ w ∈ GW, w.before _ s = true := fun w h => hts w (List.mem_cons_of_mem _ h)
  have hown : s.vm.findClass RX9 = some m.cls := findClass_of_methodNamed B.named
  subst hsz
  have hS : va_S (fun q => s.heap.size ≤ q) s.heap s.heap [] := va_S.rf
  have hP : va_P (dC, dI) vwCl (WM r ct i_taped i_size i_faultKind i_at i_end i_token i_number i_bank i_rb i_codes i_within i_piled i_unitsInRule i_askHouse i_askTune i_acts i_undone i_laid i_knowns i_time f_text f_tunes f_houses f_hums f_told f_many f_ruleFrom f_ruleTo f_code f_eWhat f_eSign f_all f_kept f_was f_sTune f_boxAll J L) s.heap := hP
  have hl := lv_entry ([.ref (r 0), .int p0]) (n := 2) (Nat.le_of_ble_eq_true rfl)
  rw [lg_entry_eq]
  generalize (lg_sl ([.ref (r 0), .int p0]) ++ List.replicate (2 - (lg_sl ([.ref (r 0), .int p0])).length) Slot.unset).toArray = ls at hl ⊢
  have hl : lv_has ls 2 [(0, .ref (r 0)), (1, .int p0)] := hl
  refine nameQ (fun Q hQ => ?_)
  obtain ⟨im0, im1, im2, im3, im4, im5, im6, im7, im8, im9, im10, im11, im12, im13, im14, im15, im16, im17, im18, im19, im20, im21, im22, im23, im24, im25, im26, im27, im28, im29, im30, im31⟩ := id hI
  have f1 : 0 ≤ (f_tunes (i_bank.toInt).toNat).toInt ∧ (f_tunes (i_bank.toInt).toNat).toInt ≤ 5 := im21 (i_bank.toInt)
  have f2 : 0 ≤ (f_houses (i_bank.toInt).toNat).toInt ∧ (f_houses (i_bank.toInt).toNat).toInt ≤ 4 := im22 (i_bank.toInt)
  refine lv_aload_n hx hb dX9_placeOf_0 rfl (lv_at hl 0 rfl) ?_
  refine gM_X9_51_0 hx hb hG hown hK hP dX9_placeOf_1 ?_
  refine lv_iconst (v := 4) hx hb dX9_placeOf_4 (by decide) ?_
  refine lv_aload_n hx hb dX9_placeOf_5 rfl (lv_at hl 0 rfl) ?_
  refine gM_X9_249_0 hx hb hG hown hK hP dX9_placeOf_6 ?_
  refine lv_imul hx hb dX9_placeOf_9 ?_
  refine lv_topi (fun x3 ex3 => ?_)
  have f4 : x3.toInt = 4 * i_bank.toInt := (ob_300 (qi_mul ex3 zc_4 rfl (ob_298 im4 im5) (ob_299 im4 im5)))
  refine lv_iload_n hx hb dX9_placeOf_10 rfl (lv_at hl 1 rfl) ?_
  refine lv_iadd hx hb dX9_placeOf_11 ?_
  refine lv_topi (fun x5 ex5 => ?_)
  have f6 : x5.toInt = p0.toInt + 4 * i_bank.toInt := (ob_303 (qi_add ex5 rfl rfl (ob_301 im4 hp0 f4) (ob_302 im5 f2 hp1 f4)) f4)
  refine ldM_13 (mm := p0.toInt + 4 * i_bank.toInt) hx hb hK hP f6 (ob_449 im4 hp0) (ob_450 im5 f2 hp1) dX9_placeOf_12 (fun x7 => ?_)
  rw [hQ]
  exact W.iret (v := x7) hx hb hr (fun t ht hW => ⟨⟨x7, x7, rfl, rfl, trivial⟩, hS.F ht⟩) hS.2.2 dX9_placeOf_13
set_option maxHeartbeats 4000000 in
set_option maxRecDepth 100000 in
theorem kX9_layTold (l : Launch) (dC : Nat → ClassId) (dI : Nat → Nat → Nat) (r : Nat → Nat) (ct : Nat → ClassId) (i_taped i_size i_faultKind i_at i_end i_token i_number i_bank i_rb i_codes i_within i_piled i_unitsInRule i_askHouse i_askTune i_acts i_undone i_laid i_knowns i_time : Int32) (f_text f_tunes f_houses f_hums f_told f_many f_ruleFrom f_ruleTo f_code f_eWhat f_eSign f_all f_kept f_was f_sTune f_boxAll : Nat → Int32) (J : Nat → Nat → Int32) (L : Nat → Nat → Int64) (sz : Nat) (hI : (IM i_taped i_size i_faultKind i_at i_end i_bank i_rb i_acts i_undone i_laid i_knowns i_time f_tunes f_houses f_hums f_told f_many f_ruleFrom f_ruleTo f_code f_all f_kept f_was f_sTune f_boxAll)) : Met l yX9_layTold (.code yX9_layTold cX9_layTold 2 none :: GW) { frames := 4, cells := 0, slots := 0, locals := 160 } (va_Pc [.ref (r 0)] (pW (dC, dI) (WM r ct i_taped i_size i_faultKind i_at i_end i_token i_number i_bank i_rb i_codes i_within i_piled i_unitsInRule i_askHouse i_askTune i_acts i_undone i_laid i_knowns i_time f_text f_tunes f_houses f_hums f_told f_many f_ruleFrom f_ruleTo f_code f_eWhat f_eSign f_all f_kept f_was f_sTune f_boxAll J L) (TM ct) sz)) (va_Qv (fun _ : Unit => True) (fun (_ : Unit) (t : State) => ∃ (n_f_all : Nat → Int32), va_P (dC, dI) vwCl (WM r ct i_taped i_size i_faultKind i_at i_end i_token i_number i_bank i_rb i_codes i_within i_piled i_unitsInRule i_askHouse i_askTune i_acts i_undone i_laid i_knowns i_time f_text f_tunes f_houses f_hums f_told f_many f_ruleFrom f_ruleTo f_code f_eWhat f_eSign n_f_all f_kept f_was f_sTune f_boxAll J L) t.heap ∧ va_D (va_A (WM r ct i_taped i_size i_faultKind i_at i_end i_token i_number i_bank i_rb i_codes i_within i_piled i_unitsInRule i_askHouse i_askTune i_acts i_undone i_laid i_knowns i_time f_text f_tunes f_houses f_hums f_told f_many f_ruleFrom f_ruleTo f_code f_eWhat f_eSign f_all f_kept f_was f_sTune f_boxAll J L) sz) (WM r ct i_taped i_size i_faultKind i_at i_end i_token i_number i_bank i_rb i_codes i_within i_piled i_unitsInRule i_askHouse i_askTune i_acts i_undone i_laid i_knowns i_time f_text f_tunes f_houses f_hums f_told f_many f_ruleFrom f_ruleTo f_code f_eWhat f_eSign n_f_all f_kept f_was f_sTune f_boxAll J L) ∧ (IM i_taped i_size i_faultKind i_at i_end i_bank i_rb i_acts i_undone i_laid i_knowns i_time f_tunes f_houses f_hums f_told f_many f_ruleFrom f_ruleTo f_code n_f_all f_kept f_was f_sTune f_boxAll)) (va_A (WM r ct i_taped i_size i_faultKind i_at i_end i_token i_number i_bank i_rb i_codes i_within i_piled i_unitsInRule i_askHouse i_askTune i_acts i_undone i_laid i_knowns i_time f_text f_tunes f_houses f_hums f_told f_many f_ruleFrom f_ruleTo f_code f_eWhat f_eSign f_all f_kept f_was f_sTune f_boxAll J L) sz)) 0 0 (va_A (WM r ct i_taped i_size i_faultKind i_at i_end i_token i_number i_bank i_rb i_codes i_within i_piled i_unitsInRule i_askHouse i_askTune i_acts i_undone i_laid i_knowns i_time f_text f_tunes f_houses f_hums f_told f_many f_ruleFrom f_ruleTo f_code f_eWhat f_eSign f_all f_kept f_was f_sTune f_boxAll J L) sz) := by
  refine Met.ofW (cc := cX9_layTold) (maxL := 2) (ret := none) (by decide) rfl ?_
  intro p e s m args below meth c0 s₁ B hml hv
  obtain ⟨rfl, hsz, hP, hK, hD0⟩ := hv
  have hx := B.exec
  have hb := B.bytes
  have hr := B.returns
  have hts := atoms_spec (ws := .code yX9_layTold cX9_layTold 2 none :: GW) B.pre
  have hG : ∀ w ∈ GW, w.before _ s = true := fun w h => hts w (List.mem_cons_of_mem _ h)
  have hown : s.vm.findClass RX9 = some m.cls := findClass_of_methodNamed B.named
  subst hsz
  have hD := hD0.self (sz := s.heap.size)
  generalize hAe : va_A (WM r ct i_taped i_size i_faultKind i_at i_end i_token i_number i_bank i_rb i_codes i_within i_piled i_unitsInRule i_askHouse i_askTune i_acts i_undone i_laid i_knowns i_time f_text f_tunes f_houses f_hums f_told f_many f_ruleFrom f_ruleTo f_code f_eWhat f_eSign f_all f_kept f_was f_sTune f_boxAll J L) s.heap.size = A at hD ⊢
  have hA : ∀ q : Nat, s.heap.size ≤ q → A q := fun q h => by rw [← hAe]; exact Or.inr h
  have hS : va_S A s.heap s.heap [] := va_S.rf
  have hP : va_P (dC, dI) vwCl (WM r ct i_taped i_size i_faultKind i_at i_end i_token i_number i_bank i_rb i_codes i_within i_piled i_unitsInRule i_askHouse i_askTune i_acts i_undone i_laid i_knowns i_time f_text f_tunes f_houses f_hums f_told f_many f_ruleFrom f_ruleTo f_code f_eWhat f_eSign f_all f_kept f_was f_sTune f_boxAll J L) s.heap := hP
  have hl := lv_entry ([.ref (r 0)]) (n := 2) (Nat.le_of_ble_eq_true rfl)
  rw [lg_entry_eq]
  generalize (lg_sl ([.ref (r 0)]) ++ List.replicate (2 - (lg_sl ([.ref (r 0)])).length) Slot.unset).toArray = ls at hl ⊢
  have hl : lv_has ls 2 [(0, .ref (r 0))] := hl
  refine nameQ (fun Q hQ => ?_)
  obtain ⟨im0, im1, im2, im3, im4, im5, im6, im7, im8, im9, im10, im11, im12, im13, im14, im15, im16, im17, im18, im19, im20, im21, im22, im23, im24, im25, im26, im27, im28, im29, im30, im31⟩ := id hI
  have f1 : 0 ≤ (f_tunes (i_bank.toInt).toNat).toInt ∧ (f_tunes (i_bank.toInt).toNat).toInt ≤ 5 := im21 (i_bank.toInt)
  have f2 : 0 ≤ (f_houses (i_bank.toInt).toNat).toInt ∧ (f_houses (i_bank.toInt).toNat).toInt ≤ 4 := im22 (i_bank.toInt)
  refine lv_iconst (v := 0) hx hb dX9_layTold_0 (by decide) ?_
  refine lv_istore_n (lv' := [(1, .int 0), (0, .ref (r 0))]) hx hb dX9_layTold_1 rfl hl (by decide) rfl (fun ls hl => ?_)
  have L2 : ∀ (N2 : Nat) (y2_1 : Int32) (m2_f_all : Nat → Int32) (H2 : Heap) (locs : List Loc) (ls : Array Slot) (g2_0 : 0 ≤ y2_1.toInt) (g2_1 : y2_1.toInt ≤ 26) (gi2_all_p : EW m2_f_all) (hP : va_P (dC, dI) vwCl (WM r ct i_taped i_size i_faultKind i_at i_end i_token i_number i_bank i_rb i_codes i_within i_piled i_unitsInRule i_askHouse i_askTune i_acts i_undone i_laid i_knowns i_time f_text f_tunes f_houses f_hums f_told f_many f_ruleFrom f_ruleTo f_code f_eWhat f_eSign m2_f_all f_kept f_was f_sTune f_boxAll J L) H2) (hD : va_D A (WM r ct i_taped i_size i_faultKind i_at i_end i_token i_number i_bank i_rb i_codes i_within i_piled i_unitsInRule i_askHouse i_askTune i_acts i_undone i_laid i_knowns i_time f_text f_tunes f_houses f_hums f_told f_many f_ruleFrom f_ruleTo f_code f_eWhat f_eSign m2_f_all f_kept f_was f_sTune f_boxAll J L)) (hS : va_S A s.heap H2 locs) (hl : lv_has ls 2 [(0, .ref (r 0)), (1, .int y2_1)]) (hM : -1 * y2_1.toInt + 26 < (N2 : Int)), W p l e { frames := 4, cells := 0, slots := 0, locals := 160 } s m ([.ref (r 0)] : List Value).toArray below meth c0 H2 locs 0 0 Q (F0 m 2 ls []) := by
    intro N2
    induction N2 with
    | zero =>
      intro y2_1 m2_f_all H2 locs ls g2_0 g2_1 gi2_all_p hP hD hS hl hM
      exact ((ob_451 hM g2_0 g2_1)).elim
    | succ N2 ih2 =>
      intro y2_1 m2_f_all H2 locs ls g2_0 g2_1 gi2_all_p hP hD hS hl hM
      have hM2 := msucc hM
      refine lv_iload_n hx hb dX9_layTold_2 rfl (lv_at hl 1 rfl) ?_
      refine lv_bipush (v := 26) hx hb dX9_layTold_3 (by decide) ?_
      refine lv_icmp_ge (tgt := 21) hx hb dX9_layTold_5 (by decide) (fun c_3 => ?_) (fun c_3 => ?_)
      · skip
        have f4 : 26 ≤ y2_1.toInt := qi_le c_3 zc_26 rfl
        refine lv_iconst (v := 0) hx hb dX9_layTold_21 (by decide) ?_
        refine lv_istore_n (lv' := [(1, .int 0), (0, .ref (r 0))]) hx hb dX9_layTold_22 rfl hl (by decide) rfl (fun ls hl => ?_)
        have L23 : ∀ (N23 : Nat) (y23_1 : Int32) (m23_f_all : Nat → Int32) (H23 : Heap) (locs : List Loc) (ls : Array Slot) (g23_0 : 0 ≤ y23_1.toInt) (g23_1 : y23_1.toInt ≤ 5) (gi23_all_p : EW m23_f_all) (hP : va_P (dC, dI) vwCl (WM r ct i_taped i_size i_faultKind i_at i_end i_token i_number i_bank i_rb i_codes i_within i_piled i_unitsInRule i_askHouse i_askTune i_acts i_undone i_laid i_knowns i_time f_text f_tunes f_houses f_hums f_told f_many f_ruleFrom f_ruleTo f_code f_eWhat f_eSign m23_f_all f_kept f_was f_sTune f_boxAll J L) H23) (hD : va_D A (WM r ct i_taped i_size i_faultKind i_at i_end i_token i_number i_bank i_rb i_codes i_within i_piled i_unitsInRule i_askHouse i_askTune i_acts i_undone i_laid i_knowns i_time f_text f_tunes f_houses f_hums f_told f_many f_ruleFrom f_ruleTo f_code f_eWhat f_eSign m23_f_all f_kept f_was f_sTune f_boxAll J L)) (hS : va_S A s.heap H23 locs) (hl : lv_has ls 2 [(0, .ref (r 0)), (1, .int y23_1)]) (hM : -1 * y23_1.toInt + 5 < (N23 : Int)), W p l e { frames := 4, cells := 0, slots := 0, locals := 160 } s m ([.ref (r 0)] : List Value).toArray below meth c0 H23 locs 0 0 Q (F0 m 23 ls []) := by
          intro N23
          induction N23 with
          | zero =>
            intro y23_1 m23_f_all H23 locs ls g23_0 g23_1 gi23_all_p hP hD hS hl hM
            exact ((ob_452 hM g23_0 g23_1)).elim
          | succ N23 ih23 =>
            intro y23_1 m23_f_all H23 locs ls g23_0 g23_1 gi23_all_p hP hD hS hl hM
            have hM23 := msucc hM
            refine lv_iload_n hx hb dX9_layTold_23 rfl (lv_at hl 1 rfl) ?_
            refine lv_iconst (v := 5) hx hb dX9_layTold_24 (by decide) ?_
            refine lv_icmp_ge (tgt := 43) hx hb dX9_layTold_25 (by decide) (fun c_5 => ?_) (fun c_5 => ?_)
            · skip
              have f6 : 5 ≤ y23_1.toInt := qi_le c_5 zc_5 rfl
              refine lv_iconst (v := 0) hx hb dX9_layTold_43 (by decide) ?_
              refine lv_istore_n (lv' := [(1, .int 0), (0, .ref (r 0))]) hx hb dX9_layTold_44 rfl hl (by decide) rfl (fun ls hl => ?_)
              have L45 : ∀ (N45 : Nat) (y45_1 : Int32) (m45_f_all : Nat → Int32) (H45 : Heap) (locs : List Loc) (ls : Array Slot) (g45_0 : 0 ≤ y45_1.toInt) (g45_1 : y45_1.toInt ≤ 4) (gi45_all_p : EW m45_f_all) (hP : va_P (dC, dI) vwCl (WM r ct i_taped i_size i_faultKind i_at i_end i_token i_number i_bank i_rb i_codes i_within i_piled i_unitsInRule i_askHouse i_askTune i_acts i_undone i_laid i_knowns i_time f_text f_tunes f_houses f_hums f_told f_many f_ruleFrom f_ruleTo f_code f_eWhat f_eSign m45_f_all f_kept f_was f_sTune f_boxAll J L) H45) (hD : va_D A (WM r ct i_taped i_size i_faultKind i_at i_end i_token i_number i_bank i_rb i_codes i_within i_piled i_unitsInRule i_askHouse i_askTune i_acts i_undone i_laid i_knowns i_time f_text f_tunes f_houses f_hums f_told f_many f_ruleFrom f_ruleTo f_code f_eWhat f_eSign m45_f_all f_kept f_was f_sTune f_boxAll J L)) (hS : va_S A s.heap H45 locs) (hl : lv_has ls 2 [(0, .ref (r 0)), (1, .int y45_1)]) (hM : -1 * y45_1.toInt + 4 < (N45 : Int)), W p l e { frames := 4, cells := 0, slots := 0, locals := 160 } s m ([.ref (r 0)] : List Value).toArray below meth c0 H45 locs 0 0 Q (F0 m 45 ls []) := by
                intro N45
                induction N45 with
                | zero =>
                  intro y45_1 m45_f_all H45 locs ls g45_0 g45_1 gi45_all_p hP hD hS hl hM
                  exact ((ob_453 hM g45_0 g45_1)).elim
                | succ N45 ih45 =>
                  intro y45_1 m45_f_all H45 locs ls g45_0 g45_1 gi45_all_p hP hD hS hl hM
                  have hM45 := msucc hM
                  refine lv_iload_n hx hb dX9_layTold_45 rfl (lv_at hl 1 rfl) ?_
                  refine lv_aload_n hx hb dX9_layTold_46 rfl (lv_at hl 0 rfl) ?_
                  refine va_calli (va_runV (As := []) (rest := [.int y45_1]) ⟨hx, hb, hml, hown, hG⟩ (kX9_homes l dC dI r ct i_taped i_size i_faultKind i_at i_end i_token i_number i_bank i_rb i_codes i_within i_piled i_unitsInRule i_askHouse i_askTune i_acts i_undone i_laid i_knowns i_time f_text f_tunes f_houses f_hums f_told f_many f_ruleFrom f_ruleTo f_code f_eWhat f_eSign m45_f_all f_kept f_was f_sTune f_boxAll J L H45.size ⟨im0, im1, im2, im3, im4, im5, im6, im7, im8, im9, im10, im11, im12, im13, im14, im15, im16, im17, im18, im19, im20, im21, im22, im23, im24, im25, gi45_all_p, im27, im28, im29, im30, im31⟩) (cwV 0 hG (goodV gw1167 gw1169 gw58 gw138 gw1170) rfl rfl rfl hd_X9_homes ⟨(Nat.le_of_ble_eq_true rfl), (Nat.le_of_ble_eq_true rfl)⟩) ⟨fbR, va_recv hK hP (ci := 8) (q0 := 0) rfl rfl, pR_in hP hK⟩ rfl rfl hl.1 rfl (lv_room (Nat.le_of_ble_eq_true rfl)) dX9_layTold_47 ⟨(Nat.le_of_ble_eq_true rfl), (Nat.le_of_ble_eq_true rfl)⟩) hS (fun q hq h => absurd hq (Nat.not_lt.mpr h)) (fun q h => hA q (Nat.le_trans hS.1 h)) (fun r_8 u_ t_ H7 locs ht hvm hw hB hz1 hk1 hS => ?_)
                  subst hw
                  have hP := wk hP hk1
                  have f9 := hB
                  have f10 : r_8.toInt = (f_houses (i_bank.toInt).toNat).toInt := (ob_6 f9)
                  refine lv_icmp_ge (tgt := 81) hx hb dX9_layTold_50 (by decide) (fun c_11 => ?_) (fun c_11 => ?_)
                  · skip
                    have f12 : r_8.toInt ≤ y45_1.toInt := qi_le c_11 rfl rfl
                    refine lv_aload_n hx hb dX9_layTold_81 rfl (lv_at hl 0 rfl) ?_
                    refine gM_X9_88_0 hx hb hG hown hK hP dX9_layTold_82 ?_
                    refine lv_bipush (v := 25) hx hb dX9_layTold_85 (by decide) ?_
                    refine lv_aload_n hx hb dX9_layTold_87 rfl (lv_at hl 0 rfl) ?_
                    refine gM_X9_36_0 hx hb hG hown hK hP dX9_layTold_88 ?_
                    refine lv_aload_n hx hb dX9_layTold_91 rfl (lv_at hl 0 rfl) ?_
                    refine gM_X9_249_0 hx hb hG hown hK hP dX9_layTold_92 ?_
                    refine ldM_8 (mm := i_bank.toInt) hx hb hK hP rfl (ob_351 im4 im5) (ob_352 im4 im5) dX9_layTold_95 (fun x13 => ?_)
                    refine stM_25 (mm := 25) hx hb hK hP hD hS zc_25 (ob_454) (ob_455) dX9_layTold_96 (fun z15 H14 locs ez15 hP hD hS => ?_)
                    have g16 : EW z15 := ez15 ▸ EW.updo gi45_all_p (ob_454) (ob_456)
                    rw [hQ]
                    exact W.vret hx hb hr (fun t ht hW => ⟨⟨(), rfl, trivial, ⟨z15, by rw [ht]; exact hP, hD, ⟨im0, im1, im2, im3, im4, im5, im6, im7, im8, im9, im10, im11, im12, im13, im14, im15, im16, im17, im18, im19, im20, im21, im22, im23, im24, im25, g16, im27, im28, im29, im30, im31⟩⟩⟩, hS.F ht⟩) hS.2.2 dX9_layTold_97
                  · skip
                    have f17 : y45_1.toInt < r_8.toInt := qi_nle c_11 rfl rfl
                    refine lv_aload_n hx hb dX9_layTold_53 rfl (lv_at hl 0 rfl) ?_
                    refine gM_X9_88_0 hx hb hG hown hK hP dX9_layTold_54 ?_
                    refine lv_bipush (v := 20) hx hb dX9_layTold_57 (by decide) ?_
                    refine lv_iload_n hx hb dX9_layTold_59 rfl (lv_at hl 1 rfl) ?_
                    refine lv_iadd hx hb dX9_layTold_60 ?_
                    refine lv_topi (fun x18 ex18 => ?_)
                    have f19 : x18.toInt = y45_1.toInt + 20 := (ob_348 (qi_add ex18 zc_20 rfl (ob_457 g45_0) (ob_458 g45_1)))
                    refine lv_aload_n hx hb dX9_layTold_61 rfl (lv_at hl 0 rfl) ?_
                    refine gM_X9_54_0 hx hb hG hown hK hP dX9_layTold_62 ?_
                    refine lv_iconst (v := 4) hx hb dX9_layTold_65 (by decide) ?_
                    refine lv_aload_n hx hb dX9_layTold_66 rfl (lv_at hl 0 rfl) ?_
                    refine gM_X9_249_0 hx hb hG hown hK hP dX9_layTold_67 ?_
                    refine lv_imul hx hb dX9_layTold_70 ?_
                    refine lv_topi (fun x20 ex20 => ?_)
                    have f21 : x20.toInt = 4 * i_bank.toInt := (ob_300 (qi_mul ex20 zc_4 rfl (ob_298 im4 im5) (ob_299 im4 im5)))
                    refine lv_iload_n hx hb dX9_layTold_71 rfl (lv_at hl 1 rfl) ?_
                    refine lv_iadd hx hb dX9_layTold_72 ?_
                    refine lv_topi (fun x22 ex22 => ?_)
                    have f23 : x22.toInt = y45_1.toInt + 4 * i_bank.toInt := (ob_303 (qi_add ex22 rfl rfl (ob_301 im4 g45_0 f21) (ob_459 im5 g45_1 f21)) f21)
                    refine ldM_14 (mm := y45_1.toInt + 4 * i_bank.toInt) hx hb hK hP f23 (ob_449 im4 g45_0) (ob_460 im5 f2 f17 f10) dX9_layTold_73 (fun x24 => ?_)
                    refine stM_25 (mm := y45_1.toInt + 20) hx hb hK hP hD hS f19 (ob_461 g45_0) (ob_462 g45_1) dX9_layTold_74 (fun z26 H25 locs ez26 hP hD hS => ?_)
                    have g27 : EW z26 := ez26 ▸ EW.updo gi45_all_p (ob_461 g45_0) (ob_463 f2 g45_0 g45_1 hM45 f17 f10)
                    obtain ⟨x28, ex28⟩ : ∃ y : Int32, y = y45_1 + Int32.ofInt 1 := ⟨_, rfl⟩
                    have f29 : x28.toInt = y45_1.toInt + 1 := (ob_84 (qi_add ex28 rfl (by decide) (ob_82 g45_0) (ob_464 g45_1)))
                    refine lv_iinc (v := x28) (lv' := [(1, .int x28), (0, .ref (r 0))]) hx hb dX9_layTold_75 hl (k := 1) rfl ex28.symm (by decide) rfl (fun ls hl => ?_)
                    refine lv_goto (tgt := 45) hx hb dX9_layTold_78 (by decide) ?_
                    exact ih45 x28 z26 H25 _ _ (ob_92 g45_0 f29) (ob_465 f2 f17 f10 f29) g27 hP hD hS (lv_sub hl [1, 0] rfl) (ob_466 hM45 f29)
              exact L45 (-1 * (0 : Int32).toInt + 4 + 1).toNat 0 m23_f_all H23 _ _ (ob_1 zc_0) (ob_467 zc_0) gi23_all_p hP hD hS (lv_sub hl [1, 0] rfl) (mlt (ob_468 zc_0))
            · skip
              have f30 : y23_1.toInt < 5 := qi_nle c_5 zc_5 rfl
              refine lv_aload_n hx hb dX9_layTold_28 rfl (lv_at hl 0 rfl) ?_
              refine gM_X9_88_0 hx hb hG hown hK hP dX9_layTold_29 ?_
              refine lv_iconst (v := 0) hx hb dX9_layTold_32 (by decide) ?_
              refine lv_iload_n hx hb dX9_layTold_33 rfl (lv_at hl 1 rfl) ?_
              refine lv_iadd hx hb dX9_layTold_34 ?_
              refine lv_topi (fun x31 ex31 => ?_)
              have f32 : x31.toInt = y23_1.toInt := (ob_471 (qi_add ex31 zc_0 rfl (ob_469 g23_0) (ob_470 g23_1)))
              refine lv_iconst (v := (-1)) hx hb dX9_layTold_35 (by decide) ?_
              refine stM_25 (mm := y23_1.toInt) hx hb hK hP hD hS f32 (ob_81 g23_0) (ob_472 g23_1) dX9_layTold_36 (fun z34 H33 locs ez34 hP hD hS => ?_)
              have g35 : EW z34 := ez34 ▸ EW.updo gi23_all_p (ob_81 g23_0) (ob_473 g23_0 g23_1 hM23 f30)
              obtain ⟨x36, ex36⟩ : ∃ y : Int32, y = y23_1 + Int32.ofInt 1 := ⟨_, rfl⟩
              have f37 : x36.toInt = y23_1.toInt + 1 := (ob_84 (qi_add ex36 rfl (by decide) (ob_82 g23_0) (ob_474 g23_1)))
              refine lv_iinc (v := x36) (lv' := [(1, .int x36), (0, .ref (r 0))]) hx hb dX9_layTold_37 hl (k := 1) rfl ex36.symm (by decide) rfl (fun ls hl => ?_)
              refine lv_goto (tgt := 23) hx hb dX9_layTold_40 (by decide) ?_
              exact ih23 x36 z34 H33 _ _ (ob_92 g23_0 f37) (ob_475 f30 f37) g35 hP hD hS (lv_sub hl [1, 0] rfl) (ob_476 hM23 f37)
        exact L23 (-1 * (0 : Int32).toInt + 5 + 1).toNat 0 m2_f_all H2 _ _ (ob_1 zc_0) (ob_477 zc_0) gi2_all_p hP hD hS (lv_sub hl [1, 0] rfl) (mlt (ob_478 zc_0))
      · skip
        have f38 : y2_1.toInt < 26 := qi_nle c_3 zc_26 rfl
        refine lv_aload_n hx hb dX9_layTold_8 rfl (lv_at hl 0 rfl) ?_
        refine gM_X9_88_0 hx hb hG hown hK hP dX9_layTold_9 ?_
        refine lv_iload_n hx hb dX9_layTold_12 rfl (lv_at hl 1 rfl) ?_
        refine lv_iconst (v := 0) hx hb dX9_layTold_13 (by decide) ?_
        refine stM_25 (mm := y2_1.toInt) hx hb hK hP hD hS rfl (ob_81 g2_0) (ob_479 f38) dX9_layTold_14 (fun z40 H39 locs ez40 hP hD hS => ?_)
        have g41 : EW z40 := ez40 ▸ EW.updi gi2_all_p (by decide) (by decide)
        obtain ⟨x42, ex42⟩ : ∃ y : Int32, y = y2_1 + Int32.ofInt 1 := ⟨_, rfl⟩
        have f43 : x42.toInt = y2_1.toInt + 1 := (ob_84 (qi_add ex42 rfl (by decide) (ob_82 g2_0) (ob_480 g2_1)))
        refine lv_iinc (v := x42) (lv' := [(1, .int x42), (0, .ref (r 0))]) hx hb dX9_layTold_15 hl (k := 1) rfl ex42.symm (by decide) rfl (fun ls hl => ?_)
        refine lv_goto (tgt := 2) hx hb dX9_layTold_18 (by decide) ?_
        exact ih2 x42 z40 H39 _ _ (ob_92 g2_0 f43) (ob_481 f38 f43) g41 hP hD hS (lv_sub hl [1, 0] rfl) (ob_482 hM2 f43)
  exact L2 (-1 * (0 : Int32).toInt + 26 + 1).toNat 0 f_all s.heap _ _ (ob_1 zc_0) (ob_483 zc_0) im26 hP hD hS (lv_sub hl [1, 0] rfl) (mlt (ob_484 zc_0))
set_option maxHeartbeats 4000000 in
set_option maxRecDepth 100000 in
theorem kX9_startAnew (l : Launch) (dC : Nat → ClassId) (dI : Nat → Nat → Nat) (r : Nat → Nat) (ct : Nat → ClassId) (i_taped i_size i_faultKind i_at i_end i_token i_number i_bank i_rb i_codes i_within i_piled i_unitsInRule i_askHouse i_askTune i_acts i_undone i_laid i_knowns i_time : Int32) (f_text f_tunes f_houses f_hums f_told f_many f_ruleFrom f_ruleTo f_code f_eWhat f_eSign f_all f_kept f_was f_sTune f_boxAll : Nat → Int32) (J : Nat → Nat → Int32) (L : Nat → Nat → Int64) (sz : Nat) (hI : (IM i_taped i_size i_faultKind i_at i_end i_bank i_rb i_acts i_undone i_laid i_knowns i_time f_tunes f_houses f_hums f_told f_many f_ruleFrom f_ruleTo f_code f_all f_kept f_was f_sTune f_boxAll)) : Met l yX9_startAnew (.code yX9_startAnew cX9_startAnew 2 none :: GW) { frames := 6, cells := 0, slots := 0, locals := 221 } (va_Pc [.ref (r 0)] (pW (dC, dI) (WM r ct i_taped i_size i_faultKind i_at i_end i_token i_number i_bank i_rb i_codes i_within i_piled i_unitsInRule i_askHouse i_askTune i_acts i_undone i_laid i_knowns i_time f_text f_tunes f_houses f_hums f_told f_many f_ruleFrom f_ruleTo f_code f_eWhat f_eSign f_all f_kept f_was f_sTune f_boxAll J L) (TM ct) sz)) (va_Qv (fun _ : Unit => True) (fun (_ : Unit) (t : State) => ∃ (n_i_acts n_i_undone n_i_laid n_i_knowns : Int32) (n_f_all : Nat → Int32) (n_J : Nat → Nat → Int32), va_P (dC, dI) vwCl (WM r ct i_taped i_size i_faultKind i_at i_end i_token i_number i_bank i_rb i_codes i_within i_piled i_unitsInRule i_askHouse i_askTune n_i_acts n_i_undone n_i_laid n_i_knowns i_time f_text f_tunes f_houses f_hums f_told f_many f_ruleFrom f_ruleTo f_code f_eWhat f_eSign n_f_all f_kept f_was f_sTune f_boxAll n_J L) t.heap ∧ va_D (va_A (WM r ct i_taped i_size i_faultKind i_at i_end i_token i_number i_bank i_rb i_codes i_within i_piled i_unitsInRule i_askHouse i_askTune i_acts i_undone i_laid i_knowns i_time f_text f_tunes f_houses f_hums f_told f_many f_ruleFrom f_ruleTo f_code f_eWhat f_eSign f_all f_kept f_was f_sTune f_boxAll J L) sz) (WM r ct i_taped i_size i_faultKind i_at i_end i_token i_number i_bank i_rb i_codes i_within i_piled i_unitsInRule i_askHouse i_askTune n_i_acts n_i_undone n_i_laid n_i_knowns i_time f_text f_tunes f_houses f_hums f_told f_many f_ruleFrom f_ruleTo f_code f_eWhat f_eSign n_f_all f_kept f_was f_sTune f_boxAll n_J L) ∧ (IM i_taped i_size i_faultKind i_at i_end i_bank i_rb n_i_acts n_i_undone n_i_laid n_i_knowns i_time f_tunes f_houses f_hums f_told f_many f_ruleFrom f_ruleTo f_code n_f_all f_kept f_was f_sTune f_boxAll)) (va_A (WM r ct i_taped i_size i_faultKind i_at i_end i_token i_number i_bank i_rb i_codes i_within i_piled i_unitsInRule i_askHouse i_askTune i_acts i_undone i_laid i_knowns i_time f_text f_tunes f_houses f_hums f_told f_many f_ruleFrom f_ruleTo f_code f_eWhat f_eSign f_all f_kept f_was f_sTune f_boxAll J L) sz)) 0 0 (va_A (WM r ct i_taped i_size i_faultKind i_at i_end i_token i_number i_bank i_rb i_codes i_within i_piled i_unitsInRule i_askHouse i_askTune i_acts i_undone i_laid i_knowns i_time f_text f_tunes f_houses f_hums f_told f_many f_ruleFrom f_ruleTo f_code f_eWhat f_eSign f_all f_kept f_was f_sTune f_boxAll J L) sz) := by
  refine Met.ofW (cc := cX9_startAnew) (maxL := 2) (ret := none) (by decide) rfl ?_
  intro p e s m args below meth c0 s₁ B hml hv
  obtain ⟨rfl, hsz, hP, hK, hD0⟩ := hv
  have hx := B.exec
  have hb := B.bytes
  have hr := B.returns
  have hts := atoms_spec (ws := .code yX9_startAnew cX9_startAnew 2 none :: GW) B.pre
  have hG : ∀ w ∈ GW, w.before _ s = true := fun w h => hts w (List.mem_cons_of_mem _ h)
  have hown : s.vm.findClass RX9 = some m.cls := findClass_of_methodNamed B.named
  subst hsz
  have hD := hD0.self (sz := s.heap.size)
  generalize hAe : va_A (WM r ct i_taped i_size i_faultKind i_at i_end i_token i_number i_bank i_rb i_codes i_within i_piled i_unitsInRule i_askHouse i_askTune i_acts i_undone i_laid i_knowns i_time f_text f_tunes f_houses f_hums f_told f_many f_ruleFrom f_ruleTo f_code f_eWhat f_eSign f_all f_kept f_was f_sTune f_boxAll J L) s.heap.size = A at hD ⊢
  have hA : ∀ q : Nat, s.heap.size ≤ q → A q := fun q h => by rw [← hAe]; exact Or.inr h
  have hS : va_S A s.heap s.heap [] := va_S.rf
  have hP : va_P (dC, dI) vwCl (WM r ct i_taped i_size i_faultKind i_at i_end i_token i_number i_bank i_rb i_codes i_within i_piled i_unitsInRule i_askHouse i_askTune i_acts i_undone i_laid i_knowns i_time f_text f_tunes f_houses f_hums f_told f_many f_ruleFrom f_ruleTo f_code f_eWhat f_eSign f_all f_kept f_was f_sTune f_boxAll J L) s.heap := hP
  have hl := lv_entry ([.ref (r 0)]) (n := 2) (Nat.le_of_ble_eq_true rfl)
  rw [lg_entry_eq]
  generalize (lg_sl ([.ref (r 0)]) ++ List.replicate (2 - (lg_sl ([.ref (r 0)])).length) Slot.unset).toArray = ls at hl ⊢
  have hl : lv_has ls 2 [(0, .ref (r 0))] := hl
  refine nameQ (fun Q hQ => ?_)
  obtain ⟨im0, im1, im2, im3, im4, im5, im6, im7, im8, im9, im10, im11, im12, im13, im14, im15, im16, im17, im18, im19, im20, im21, im22, im23, im24, im25, im26, im27, im28, im29, im30, im31⟩ := id hI
  have f1 : 0 ≤ (f_tunes (i_bank.toInt).toNat).toInt ∧ (f_tunes (i_bank.toInt).toNat).toInt ≤ 5 := im21 (i_bank.toInt)
  have f2 : 0 ≤ (f_houses (i_bank.toInt).toNat).toInt ∧ (f_houses (i_bank.toInt).toNat).toInt ≤ 4 := im22 (i_bank.toInt)
  refine lv_aload_n hx hb dX9_startAnew_0 rfl (lv_at hl 0 rfl) ?_
  have hFc := frA hD hS hA
  refine va_callv (va_runV (As := []) (rest := []) ⟨hx, hb, hml, hown, hG⟩ (kX9_layTold l dC dI r ct i_taped i_size i_faultKind i_at i_end i_token i_number i_bank i_rb i_codes i_within i_piled i_unitsInRule i_askHouse i_askTune i_acts i_undone i_laid i_knowns i_time f_text f_tunes f_houses f_hums f_told f_many f_ruleFrom f_ruleTo f_code f_eWhat f_eSign f_all f_kept f_was f_sTune f_boxAll J L s.heap.size hI) (cwV 0 hG (goodV gw1163 gw1165 gw57 gw138 gw1166) rfl rfl rfl hd_X9_layTold ⟨(Nat.le_of_ble_eq_true rfl), (Nat.le_of_ble_eq_true rfl)⟩) ⟨fbW, va_recv hK hP (ci := 8) (q0 := 0) rfl rfl, pW_in hP hK hD⟩ rfl rfl hl.1 rfl (lv_room (Nat.le_of_ble_eq_true rfl)) dX9_startAnew_1 ⟨(Nat.le_of_ble_eq_true rfl), (Nat.le_of_ble_eq_true rfl)⟩) hS (fun q _ h => hFc q h) hFc (fun _ t_ H3 locs ht hvm hw hB hz1 hk1 hS => ?_)
  obtain ⟨z5, hP1, hD1, hI6⟩ := hB
  rw [ht] at hP1
  have hP := hP1
  have hD := dW hFc hD1
  obtain ⟨im7, im8, im9, im10, im11, im12, im13, im14, im15, im16, im17, im18, im19, im20, im21, im22, im23, im24, im25, im26, im27, im28, im29, im30, im31, im32, im33, im34, im35, im36, im37, im38⟩ := id hI6
  refine lv_aload_n hx hb dX9_startAnew_4 rfl (lv_at hl 0 rfl) ?_
  refine lv_iconst (v := 0) hx hb dX9_startAnew_5 (by decide) ?_
  refine pM_X9_364_0 hx hb hG hown hK hP hD hS dX9_startAnew_6 (fun H39 locs hP hD hS => ?_)
  refine lv_aload_n hx hb dX9_startAnew_9 rfl (lv_at hl 0 rfl) ?_
  refine lv_iconst (v := 0) hx hb dX9_startAnew_10 (by decide) ?_
  refine pM_X9_367_0 hx hb hG hown hK hP hD hS dX9_startAnew_11 (fun H40 locs hP hD hS => ?_)
  refine lv_aload_n hx hb dX9_startAnew_14 rfl (lv_at hl 0 rfl) ?_
  refine lv_iconst (v := 0) hx hb dX9_startAnew_15 (by decide) ?_
  refine pM_X9_370_0 hx hb hG hown hK hP hD hS dX9_startAnew_16 (fun H41 locs hP hD hS => ?_)
  refine lv_aload_n hx hb dX9_startAnew_19 rfl (lv_at hl 0 rfl) ?_
  refine lv_iconst (v := 0) hx hb dX9_startAnew_20 (by decide) ?_
  refine pM_X9_373_0 hx hb hG hown hK hP hD hS dX9_startAnew_21 (fun H42 locs hP hD hS => ?_)
  refine lv_iconst (v := 0) hx hb dX9_startAnew_24 (by decide) ?_
  refine lv_istore_n (lv' := [(1, .int 0), (0, .ref (r 0))]) hx hb dX9_startAnew_25 rfl hl (by decide) rfl (fun ls hl => ?_)
  have L26 : ∀ (N26 : Nat) (y26_1 : Int32) (m26_J : Nat → Nat → Int32) (H26 : Heap) (locs : List Loc) (ls : Array Slot) (g26_0 : 0 ≤ y26_1.toInt) (g26_1 : y26_1.toInt ≤ 3) (hP : va_P (dC, dI) vwCl (WM r ct i_taped i_size i_faultKind i_at i_end i_token i_number i_bank i_rb i_codes i_within i_piled i_unitsInRule i_askHouse i_askTune 0 0 0 0 i_time f_text f_tunes f_houses f_hums f_told f_many f_ruleFrom f_ruleTo f_code f_eWhat f_eSign z5 f_kept f_was f_sTune f_boxAll m26_J L) H26) (hD : va_D A (WM r ct i_taped i_size i_faultKind i_at i_end i_token i_number i_bank i_rb i_codes i_within i_piled i_unitsInRule i_askHouse i_askTune 0 0 0 0 i_time f_text f_tunes f_houses f_hums f_told f_many f_ruleFrom f_ruleTo f_code f_eWhat f_eSign z5 f_kept f_was f_sTune f_boxAll m26_J L)) (hS : va_S A s.heap H26 locs) (hl : lv_has ls 2 [(0, .ref (r 0)), (1, .int y26_1)]) (hM : -1 * y26_1.toInt + 3 < (N26 : Int)), W p l e { frames := 6, cells := 0, slots := 0, locals := 221 } s m ([.ref (r 0)] : List Value).toArray below meth c0 H26 locs 0 0 Q (F0 m 26 ls []) := by
    intro N26
    induction N26 with
    | zero =>
      intro y26_1 m26_J H26 locs ls g26_0 g26_1 hP hD hS hl hM
      exact ((ob_485 hM g26_0 g26_1)).elim
    | succ N26 ih26 =>
      intro y26_1 m26_J H26 locs ls g26_0 g26_1 hP hD hS hl hM
      have hM26 := msucc hM
      refine lv_iload_n hx hb dX9_startAnew_26 rfl (lv_at hl 1 rfl) ?_
      refine lv_iconst (v := 3) hx hb dX9_startAnew_27 (by decide) ?_
      refine lv_icmp_ge (tgt := 44) hx hb dX9_startAnew_28 (by decide) (fun c_43 => ?_) (fun c_43 => ?_)
      · skip
        have f44 : 3 ≤ y26_1.toInt := qi_le c_43 zc_3 rfl
        rw [hQ]
        exact W.vret hx hb hr (fun t ht hW => ⟨⟨(), rfl, trivial, ⟨0, 0, 0, 0, z5, m26_J, by rw [ht]; exact hP, hD, ⟨im0, im1, im2, im3, im4, im5, im6, im7, (ob_1 zc_0), (ob_467 zc_0), (ob_1 zc_0), (ob_486 zc_0), im12, im13, im14, im15, im16, im17, (ob_1 zc_0), (ob_1 zc_0), (ob_487 zc_0), im21, im22, im23, im24, im25, im33, im27, im28, im29, im30, im31⟩⟩⟩, hS.F ht⟩) hS.2.2 dX9_startAnew_44
      · skip
        have f45 : y26_1.toInt < 3 := qi_nle c_43 zc_3 rfl
        refine lv_aload_n hx hb dX9_startAnew_31 rfl (lv_at hl 0 rfl) ?_
        refine gM_X9_128_0 hx hb hG hown hK hP dX9_startAnew_32 ?_
        refine lv_iload_n hx hb dX9_startAnew_35 rfl (lv_at hl 1 rfl) ?_
        refine lv_iconst (v := 0) hx hb dX9_startAnew_36 (by decide) ?_
        refine stM_38 (mm := y26_1.toInt) hx hb hK hP hD hS rfl (ob_81 g26_0) (ob_488 f45) dX9_startAnew_37 (fun J47 H46 locs hP hD hS => ?_)
        obtain ⟨x48, ex48⟩ : ∃ y : Int32, y = y26_1 + Int32.ofInt 1 := ⟨_, rfl⟩
        have f49 : x48.toInt = y26_1.toInt + 1 := (ob_84 (qi_add ex48 rfl (by decide) (ob_82 g26_0) (ob_489 g26_1)))
        refine lv_iinc (v := x48) (lv' := [(1, .int x48), (0, .ref (r 0))]) hx hb dX9_startAnew_38 hl (k := 1) rfl ex48.symm (by decide) rfl (fun ls hl => ?_)
        refine lv_goto (tgt := 26) hx hb dX9_startAnew_41 (by decide) ?_
        exact ih26 x48 J47 H46 _ _ (ob_92 g26_0 f49) (ob_490 f45 f49) hP hD hS (lv_sub hl [1, 0] rfl) (ob_491 hM26 f49)
  exact L26 (-1 * (0 : Int32).toInt + 3 + 1).toNat 0 J H42 _ _ (ob_1 zc_0) (ob_492 zc_0) hP hD hS (lv_sub hl [1, 0] rfl) (mlt (ob_493 zc_0))
set_option maxHeartbeats 4000000 in
set_option maxRecDepth 100000 in
theorem kX9_keepNow (l : Launch) (dC : Nat → ClassId) (dI : Nat → Nat → Nat) (r : Nat → Nat) (ct : Nat → ClassId) (i_taped i_size i_faultKind i_at i_end i_token i_number i_bank i_rb i_codes i_within i_piled i_unitsInRule i_askHouse i_askTune i_acts i_undone i_laid i_knowns i_time : Int32) (f_text f_tunes f_houses f_hums f_told f_many f_ruleFrom f_ruleTo f_code f_eWhat f_eSign f_all f_kept f_was f_sTune f_boxAll : Nat → Int32) (J : Nat → Nat → Int32) (L : Nat → Nat → Int64) (sz : Nat) (hI : (IM i_taped i_size i_faultKind i_at i_end i_bank i_rb i_acts i_undone i_laid i_knowns i_time f_tunes f_houses f_hums f_told f_many f_ruleFrom f_ruleTo f_code f_all f_kept f_was f_sTune f_boxAll)) : Met l yX9_keepNow (.code yX9_keepNow cX9_keepNow 2 none :: GW) { frames := 2, cells := 0, slots := 0, locals := 100 } (va_Pc [.ref (r 0)] (pW (dC, dI) (WM r ct i_taped i_size i_faultKind i_at i_end i_token i_number i_bank i_rb i_codes i_within i_piled i_unitsInRule i_askHouse i_askTune i_acts i_undone i_laid i_knowns i_time f_text f_tunes f_houses f_hums f_told f_many f_ruleFrom f_ruleTo f_code f_eWhat f_eSign f_all f_kept f_was f_sTune f_boxAll J L) (TM ct) sz)) (va_Qv (fun _ : Unit => True) (fun (_ : Unit) (t : State) => ∃ (n_f_kept : Nat → Int32), va_P (dC, dI) vwCl (WM r ct i_taped i_size i_faultKind i_at i_end i_token i_number i_bank i_rb i_codes i_within i_piled i_unitsInRule i_askHouse i_askTune i_acts i_undone i_laid i_knowns i_time f_text f_tunes f_houses f_hums f_told f_many f_ruleFrom f_ruleTo f_code f_eWhat f_eSign f_all n_f_kept f_was f_sTune f_boxAll J L) t.heap ∧ va_D (va_A (WM r ct i_taped i_size i_faultKind i_at i_end i_token i_number i_bank i_rb i_codes i_within i_piled i_unitsInRule i_askHouse i_askTune i_acts i_undone i_laid i_knowns i_time f_text f_tunes f_houses f_hums f_told f_many f_ruleFrom f_ruleTo f_code f_eWhat f_eSign f_all f_kept f_was f_sTune f_boxAll J L) sz) (WM r ct i_taped i_size i_faultKind i_at i_end i_token i_number i_bank i_rb i_codes i_within i_piled i_unitsInRule i_askHouse i_askTune i_acts i_undone i_laid i_knowns i_time f_text f_tunes f_houses f_hums f_told f_many f_ruleFrom f_ruleTo f_code f_eWhat f_eSign f_all n_f_kept f_was f_sTune f_boxAll J L) ∧ (IM i_taped i_size i_faultKind i_at i_end i_bank i_rb i_acts i_undone i_laid i_knowns i_time f_tunes f_houses f_hums f_told f_many f_ruleFrom f_ruleTo f_code f_all n_f_kept f_was f_sTune f_boxAll)) (va_A (WM r ct i_taped i_size i_faultKind i_at i_end i_token i_number i_bank i_rb i_codes i_within i_piled i_unitsInRule i_askHouse i_askTune i_acts i_undone i_laid i_knowns i_time f_text f_tunes f_houses f_hums f_told f_many f_ruleFrom f_ruleTo f_code f_eWhat f_eSign f_all f_kept f_was f_sTune f_boxAll J L) sz)) 0 0 (va_A (WM r ct i_taped i_size i_faultKind i_at i_end i_token i_number i_bank i_rb i_codes i_within i_piled i_unitsInRule i_askHouse i_askTune i_acts i_undone i_laid i_knowns i_time f_text f_tunes f_houses f_hums f_told f_many f_ruleFrom f_ruleTo f_code f_eWhat f_eSign f_all f_kept f_was f_sTune f_boxAll J L) sz) := by
  refine Met.ofW (cc := cX9_keepNow) (maxL := 2) (ret := none) (by decide) rfl ?_
  intro p e s m args below meth c0 s₁ B hml hv
  obtain ⟨rfl, hsz, hP, hK, hD0⟩ := hv
  have hx := B.exec
  have hb := B.bytes
  have hr := B.returns
  have hts := atoms_spec (ws := .code yX9_keepNow cX9_keepNow 2 none :: GW) B.pre
  have hG : ∀ w ∈ GW, w.before _ s = true := fun w h => hts w (List.mem_cons_of_mem _ h)
  have hown : s.vm.findClass RX9 = some m.cls := findClass_of_methodNamed B.named
  subst hsz
  have hD := hD0.self (sz := s.heap.size)
  generalize hAe : va_A (WM r ct i_taped i_size i_faultKind i_at i_end i_token i_number i_bank i_rb i_codes i_within i_piled i_unitsInRule i_askHouse i_askTune i_acts i_undone i_laid i_knowns i_time f_text f_tunes f_houses f_hums f_told f_many f_ruleFrom f_ruleTo f_code f_eWhat f_eSign f_all f_kept f_was f_sTune f_boxAll J L) s.heap.size = A at hD ⊢
  have hA : ∀ q : Nat, s.heap.size ≤ q → A q := fun q h => by rw [← hAe]; exact Or.inr h
  have hS : va_S A s.heap s.heap [] := va_S.rf
  have hP : va_P (dC, dI) vwCl (WM r ct i_taped i_size i_faultKind i_at i_end i_token i_number i_bank i_rb i_codes i_within i_piled i_unitsInRule i_askHouse i_askTune i_acts i_undone i_laid i_knowns i_time f_text f_tunes f_houses f_hums f_told f_many f_ruleFrom f_ruleTo f_code f_eWhat f_eSign f_all f_kept f_was f_sTune f_boxAll J L) s.heap := hP
  have hl := lv_entry ([.ref (r 0)]) (n := 2) (Nat.le_of_ble_eq_true rfl)
  rw [lg_entry_eq]
  generalize (lg_sl ([.ref (r 0)]) ++ List.replicate (2 - (lg_sl ([.ref (r 0)])).length) Slot.unset).toArray = ls at hl ⊢
  have hl : lv_has ls 2 [(0, .ref (r 0))] := hl
  refine nameQ (fun Q hQ => ?_)
  obtain ⟨im0, im1, im2, im3, im4, im5, im6, im7, im8, im9, im10, im11, im12, im13, im14, im15, im16, im17, im18, im19, im20, im21, im22, im23, im24, im25, im26, im27, im28, im29, im30, im31⟩ := id hI
  have f1 : 0 ≤ (f_tunes (i_bank.toInt).toNat).toInt ∧ (f_tunes (i_bank.toInt).toNat).toInt ≤ 5 := im21 (i_bank.toInt)
  have f2 : 0 ≤ (f_houses (i_bank.toInt).toNat).toInt ∧ (f_houses (i_bank.toInt).toNat).toInt ≤ 4 := im22 (i_bank.toInt)
  refine lv_iconst (v := 0) hx hb dX9_keepNow_0 (by decide) ?_
  refine lv_istore_n (lv' := [(1, .int 0), (0, .ref (r 0))]) hx hb dX9_keepNow_1 rfl hl (by decide) rfl (fun ls hl => ?_)
  have L2 : ∀ (N2 : Nat) (y2_1 : Int32) (m2_f_kept : Nat → Int32) (H2 : Heap) (locs : List Loc) (ls : Array Slot) (g2_0 : 0 ≤ y2_1.toInt) (g2_1 : y2_1.toInt ≤ 26) (gi2_kept_p : EW m2_f_kept) (hP : va_P (dC, dI) vwCl (WM r ct i_taped i_size i_faultKind i_at i_end i_token i_number i_bank i_rb i_codes i_within i_piled i_unitsInRule i_askHouse i_askTune i_acts i_undone i_laid i_knowns i_time f_text f_tunes f_houses f_hums f_told f_many f_ruleFrom f_ruleTo f_code f_eWhat f_eSign f_all m2_f_kept f_was f_sTune f_boxAll J L) H2) (hD : va_D A (WM r ct i_taped i_size i_faultKind i_at i_end i_token i_number i_bank i_rb i_codes i_within i_piled i_unitsInRule i_askHouse i_askTune i_acts i_undone i_laid i_knowns i_time f_text f_tunes f_houses f_hums f_told f_many f_ruleFrom f_ruleTo f_code f_eWhat f_eSign f_all m2_f_kept f_was f_sTune f_boxAll J L)) (hS : va_S A s.heap H2 locs) (hl : lv_has ls 2 [(0, .ref (r 0)), (1, .int y2_1)]) (hM : -1 * y2_1.toInt + 26 < (N2 : Int)), W p l e { frames := 2, cells := 0, slots := 0, locals := 100 } s m ([.ref (r 0)] : List Value).toArray below meth c0 H2 locs 0 0 Q (F0 m 2 ls []) := by
    intro N2
    induction N2 with
    | zero =>
      intro y2_1 m2_f_kept H2 locs ls g2_0 g2_1 gi2_kept_p hP hD hS hl hM
      exact ((ob_451 hM g2_0 g2_1)).elim
    | succ N2 ih2 =>
      intro y2_1 m2_f_kept H2 locs ls g2_0 g2_1 gi2_kept_p hP hD hS hl hM
      have hM2 := msucc hM
      refine lv_iload_n hx hb dX9_keepNow_2 rfl (lv_at hl 1 rfl) ?_
      refine lv_bipush (v := 26) hx hb dX9_keepNow_3 (by decide) ?_
      refine lv_icmp_ge (tgt := 26) hx hb dX9_keepNow_5 (by decide) (fun c_3 => ?_) (fun c_3 => ?_)
      · skip
        have f4 : 26 ≤ y2_1.toInt := qi_le c_3 zc_26 rfl
        rw [hQ]
        exact W.vret hx hb hr (fun t ht hW => ⟨⟨(), rfl, trivial, ⟨m2_f_kept, by rw [ht]; exact hP, hD, ⟨im0, im1, im2, im3, im4, im5, im6, im7, im8, im9, im10, im11, im12, im13, im14, im15, im16, im17, im18, im19, im20, im21, im22, im23, im24, im25, im26, gi2_kept_p, im28, im29, im30, im31⟩⟩⟩, hS.F ht⟩) hS.2.2 dX9_keepNow_26
      · skip
        have f5 : y2_1.toInt < 26 := qi_nle c_3 zc_26 rfl
        refine lv_aload_n hx hb dX9_keepNow_8 rfl (lv_at hl 0 rfl) ?_
        refine gM_X9_91_0 hx hb hG hown hK hP dX9_keepNow_9 ?_
        refine lv_iload_n hx hb dX9_keepNow_12 rfl (lv_at hl 1 rfl) ?_
        refine lv_aload_n hx hb dX9_keepNow_13 rfl (lv_at hl 0 rfl) ?_
        refine gM_X9_88_0 hx hb hG hown hK hP dX9_keepNow_14 ?_
        refine lv_iload_n hx hb dX9_keepNow_17 rfl (lv_at hl 1 rfl) ?_
        refine ldM_25 (mm := y2_1.toInt) hx hb hK hP rfl (ob_81 g2_0) (ob_479 f5) dX9_keepNow_18 ?_
        refine stM_26 (mm := y2_1.toInt) hx hb hK hP hD hS rfl (ob_81 g2_0) (ob_479 f5) dX9_keepNow_19 (fun z7 H6 locs ez7 hP hD hS => ?_)
        have g8 : EW z7 := ez7 ▸ EW.updc gi2_kept_p im26 (ob_81 g2_0) (ob_81 g2_0) (ob_494)
        obtain ⟨x9, ex9⟩ : ∃ y : Int32, y = y2_1 + Int32.ofInt 1 := ⟨_, rfl⟩
        have f10 : x9.toInt = y2_1.toInt + 1 := (ob_84 (qi_add ex9 rfl (by decide) (ob_82 g2_0) (ob_480 g2_1)))
        refine lv_iinc (v := x9) (lv' := [(1, .int x9), (0, .ref (r 0))]) hx hb dX9_keepNow_20 hl (k := 1) rfl ex9.symm (by decide) rfl (fun ls hl => ?_)
        refine lv_goto (tgt := 2) hx hb dX9_keepNow_23 (by decide) ?_
        exact ih2 x9 z7 H6 _ _ (ob_92 g2_0 f10) (ob_481 f5 f10) g8 hP hD hS (lv_sub hl [1, 0] rfl) (ob_482 hM2 f10)
  exact L2 (-1 * (0 : Int32).toInt + 26 + 1).toNat 0 f_kept s.heap _ _ (ob_1 zc_0) (ob_483 zc_0) im27 hP hD hS (lv_sub hl [1, 0] rfl) (mlt (ob_484 zc_0))
set_option maxHeartbeats 4000000 in
set_option maxRecDepth 100000 in
theorem kX9_bringBack (l : Launch) (dC : Nat → ClassId) (dI : Nat → Nat → Nat) (r : Nat → Nat) (ct : Nat → ClassId) (i_taped i_size i_faultKind i_at i_end i_token i_number i_bank i_rb i_codes i_within i_piled i_unitsInRule i_askHouse i_askTune i_acts i_undone i_laid i_knowns i_time : Int32) (f_text f_tunes f_houses f_hums f_told f_many f_ruleFrom f_ruleTo f_code f_eWhat f_eSign f_all f_kept f_was f_sTune f_boxAll : Nat → Int32) (J : Nat → Nat → Int32) (L : Nat → Nat → Int64) (sz : Nat) (hI : (IM i_taped i_size i_faultKind i_at i_end i_bank i_rb i_acts i_undone i_laid i_knowns i_time f_tunes f_houses f_hums f_told f_many f_ruleFrom f_ruleTo f_code f_all f_kept f_was f_sTune f_boxAll)) : Met l yX9_bringBack (.code yX9_bringBack cX9_bringBack 2 none :: GW) { frames := 2, cells := 0, slots := 0, locals := 100 } (va_Pc [.ref (r 0)] (pW (dC, dI) (WM r ct i_taped i_size i_faultKind i_at i_end i_token i_number i_bank i_rb i_codes i_within i_piled i_unitsInRule i_askHouse i_askTune i_acts i_undone i_laid i_knowns i_time f_text f_tunes f_houses f_hums f_told f_many f_ruleFrom f_ruleTo f_code f_eWhat f_eSign f_all f_kept f_was f_sTune f_boxAll J L) (TM ct) sz)) (va_Qv (fun _ : Unit => True) (fun (_ : Unit) (t : State) => ∃ (n_f_all : Nat → Int32), va_P (dC, dI) vwCl (WM r ct i_taped i_size i_faultKind i_at i_end i_token i_number i_bank i_rb i_codes i_within i_piled i_unitsInRule i_askHouse i_askTune i_acts i_undone i_laid i_knowns i_time f_text f_tunes f_houses f_hums f_told f_many f_ruleFrom f_ruleTo f_code f_eWhat f_eSign n_f_all f_kept f_was f_sTune f_boxAll J L) t.heap ∧ va_D (va_A (WM r ct i_taped i_size i_faultKind i_at i_end i_token i_number i_bank i_rb i_codes i_within i_piled i_unitsInRule i_askHouse i_askTune i_acts i_undone i_laid i_knowns i_time f_text f_tunes f_houses f_hums f_told f_many f_ruleFrom f_ruleTo f_code f_eWhat f_eSign f_all f_kept f_was f_sTune f_boxAll J L) sz) (WM r ct i_taped i_size i_faultKind i_at i_end i_token i_number i_bank i_rb i_codes i_within i_piled i_unitsInRule i_askHouse i_askTune i_acts i_undone i_laid i_knowns i_time f_text f_tunes f_houses f_hums f_told f_many f_ruleFrom f_ruleTo f_code f_eWhat f_eSign n_f_all f_kept f_was f_sTune f_boxAll J L) ∧ (IM i_taped i_size i_faultKind i_at i_end i_bank i_rb i_acts i_undone i_laid i_knowns i_time f_tunes f_houses f_hums f_told f_many f_ruleFrom f_ruleTo f_code n_f_all f_kept f_was f_sTune f_boxAll)) (va_A (WM r ct i_taped i_size i_faultKind i_at i_end i_token i_number i_bank i_rb i_codes i_within i_piled i_unitsInRule i_askHouse i_askTune i_acts i_undone i_laid i_knowns i_time f_text f_tunes f_houses f_hums f_told f_many f_ruleFrom f_ruleTo f_code f_eWhat f_eSign f_all f_kept f_was f_sTune f_boxAll J L) sz)) 0 0 (va_A (WM r ct i_taped i_size i_faultKind i_at i_end i_token i_number i_bank i_rb i_codes i_within i_piled i_unitsInRule i_askHouse i_askTune i_acts i_undone i_laid i_knowns i_time f_text f_tunes f_houses f_hums f_told f_many f_ruleFrom f_ruleTo f_code f_eWhat f_eSign f_all f_kept f_was f_sTune f_boxAll J L) sz) := by
  refine Met.ofW (cc := cX9_bringBack) (maxL := 2) (ret := none) (by decide) rfl ?_
  intro p e s m args below meth c0 s₁ B hml hv
  obtain ⟨rfl, hsz, hP, hK, hD0⟩ := hv
  have hx := B.exec
  have hb := B.bytes
  have hr := B.returns
  have hts := atoms_spec (ws := .code yX9_bringBack cX9_bringBack 2 none :: GW) B.pre
  have hG : ∀ w ∈ GW, w.before _ s = true := fun w h => hts w (List.mem_cons_of_mem _ h)
  have hown : s.vm.findClass RX9 = some m.cls := findClass_of_methodNamed B.named
  subst hsz
  have hD := hD0.self (sz := s.heap.size)
  generalize hAe : va_A (WM r ct i_taped i_size i_faultKind i_at i_end i_token i_number i_bank i_rb i_codes i_within i_piled i_unitsInRule i_askHouse i_askTune i_acts i_undone i_laid i_knowns i_time f_text f_tunes f_houses f_hums f_told f_many f_ruleFrom f_ruleTo f_code f_eWhat f_eSign f_all f_kept f_was f_sTune f_boxAll J L) s.heap.size = A at hD ⊢
  have hA : ∀ q : Nat, s.heap.size ≤ q → A q := fun q h => by rw [← hAe]; exact Or.inr h
  have hS : va_S A s.heap s.heap [] := va_S.rf
  have hP : va_P (dC, dI) vwCl (WM r ct i_taped i_size i_faultKind i_at i_end i_token i_number i_bank i_rb i_codes i_within i_piled i_unitsInRule i_askHouse i_askTune i_acts i_undone i_laid i_knowns i_time f_text f_tunes f_houses f_hums f_told f_many f_ruleFrom f_ruleTo f_code f_eWhat f_eSign f_all f_kept f_was f_sTune f_boxAll J L) s.heap := hP
  have hl := lv_entry ([.ref (r 0)]) (n := 2) (Nat.le_of_ble_eq_true rfl)
  rw [lg_entry_eq]
  generalize (lg_sl ([.ref (r 0)]) ++ List.replicate (2 - (lg_sl ([.ref (r 0)])).length) Slot.unset).toArray = ls at hl ⊢
  have hl : lv_has ls 2 [(0, .ref (r 0))] := hl
  refine nameQ (fun Q hQ => ?_)
  obtain ⟨im0, im1, im2, im3, im4, im5, im6, im7, im8, im9, im10, im11, im12, im13, im14, im15, im16, im17, im18, im19, im20, im21, im22, im23, im24, im25, im26, im27, im28, im29, im30, im31⟩ := id hI
  have f1 : 0 ≤ (f_tunes (i_bank.toInt).toNat).toInt ∧ (f_tunes (i_bank.toInt).toNat).toInt ≤ 5 := im21 (i_bank.toInt)
  have f2 : 0 ≤ (f_houses (i_bank.toInt).toNat).toInt ∧ (f_houses (i_bank.toInt).toNat).toInt ≤ 4 := im22 (i_bank.toInt)
  refine lv_iconst (v := 0) hx hb dX9_bringBack_0 (by decide) ?_
  refine lv_istore_n (lv' := [(1, .int 0), (0, .ref (r 0))]) hx hb dX9_bringBack_1 rfl hl (by decide) rfl (fun ls hl => ?_)
  have L2 : ∀ (N2 : Nat) (y2_1 : Int32) (m2_f_all : Nat → Int32) (H2 : Heap) (locs : List Loc) (ls : Array Slot) (g2_0 : 0 ≤ y2_1.toInt) (g2_1 : y2_1.toInt ≤ 26) (gi2_all_p : EW m2_f_all) (hP : va_P (dC, dI) vwCl (WM r ct i_taped i_size i_faultKind i_at i_end i_token i_number i_bank i_rb i_codes i_within i_piled i_unitsInRule i_askHouse i_askTune i_acts i_undone i_laid i_knowns i_time f_text f_tunes f_houses f_hums f_told f_many f_ruleFrom f_ruleTo f_code f_eWhat f_eSign m2_f_all f_kept f_was f_sTune f_boxAll J L) H2) (hD : va_D A (WM r ct i_taped i_size i_faultKind i_at i_end i_token i_number i_bank i_rb i_codes i_within i_piled i_unitsInRule i_askHouse i_askTune i_acts i_undone i_laid i_knowns i_time f_text f_tunes f_houses f_hums f_told f_many f_ruleFrom f_ruleTo f_code f_eWhat f_eSign m2_f_all f_kept f_was f_sTune f_boxAll J L)) (hS : va_S A s.heap H2 locs) (hl : lv_has ls 2 [(0, .ref (r 0)), (1, .int y2_1)]) (hM : -1 * y2_1.toInt + 26 < (N2 : Int)), W p l e { frames := 2, cells := 0, slots := 0, locals := 100 } s m ([.ref (r 0)] : List Value).toArray below meth c0 H2 locs 0 0 Q (F0 m 2 ls []) := by
    intro N2
    induction N2 with
    | zero =>
      intro y2_1 m2_f_all H2 locs ls g2_0 g2_1 gi2_all_p hP hD hS hl hM
      exact ((ob_451 hM g2_0 g2_1)).elim
    | succ N2 ih2 =>
      intro y2_1 m2_f_all H2 locs ls g2_0 g2_1 gi2_all_p hP hD hS hl hM
      have hM2 := msucc hM
      refine lv_iload_n hx hb dX9_bringBack_2 rfl (lv_at hl 1 rfl) ?_
      refine lv_bipush (v := 26) hx hb dX9_bringBack_3 (by decide) ?_
      refine lv_icmp_ge (tgt := 26) hx hb dX9_bringBack_5 (by decide) (fun c_3 => ?_) (fun c_3 => ?_)
      · skip
        have f4 : 26 ≤ y2_1.toInt := qi_le c_3 zc_26 rfl
        rw [hQ]
        exact W.vret hx hb hr (fun t ht hW => ⟨⟨(), rfl, trivial, ⟨m2_f_all, by rw [ht]; exact hP, hD, ⟨im0, im1, im2, im3, im4, im5, im6, im7, im8, im9, im10, im11, im12, im13, im14, im15, im16, im17, im18, im19, im20, im21, im22, im23, im24, im25, gi2_all_p, im27, im28, im29, im30, im31⟩⟩⟩, hS.F ht⟩) hS.2.2 dX9_bringBack_26
      · skip
        have f5 : y2_1.toInt < 26 := qi_nle c_3 zc_26 rfl
        refine lv_aload_n hx hb dX9_bringBack_8 rfl (lv_at hl 0 rfl) ?_
        refine gM_X9_88_0 hx hb hG hown hK hP dX9_bringBack_9 ?_
        refine lv_iload_n hx hb dX9_bringBack_12 rfl (lv_at hl 1 rfl) ?_
        refine lv_aload_n hx hb dX9_bringBack_13 rfl (lv_at hl 0 rfl) ?_
        refine gM_X9_91_0 hx hb hG hown hK hP dX9_bringBack_14 ?_
        refine lv_iload_n hx hb dX9_bringBack_17 rfl (lv_at hl 1 rfl) ?_
        refine ldM_26 (mm := y2_1.toInt) hx hb hK hP rfl (ob_81 g2_0) (ob_479 f5) dX9_bringBack_18 ?_
        refine stM_25 (mm := y2_1.toInt) hx hb hK hP hD hS rfl (ob_81 g2_0) (ob_479 f5) dX9_bringBack_19 (fun z7 H6 locs ez7 hP hD hS => ?_)
        have g8 : EW z7 := ez7 ▸ EW.updc gi2_all_p im27 (ob_81 g2_0) (ob_81 g2_0) (ob_494)
        obtain ⟨x9, ex9⟩ : ∃ y : Int32, y = y2_1 + Int32.ofInt 1 := ⟨_, rfl⟩
        have f10 : x9.toInt = y2_1.toInt + 1 := (ob_84 (qi_add ex9 rfl (by decide) (ob_82 g2_0) (ob_480 g2_1)))
        refine lv_iinc (v := x9) (lv' := [(1, .int x9), (0, .ref (r 0))]) hx hb dX9_bringBack_20 hl (k := 1) rfl ex9.symm (by decide) rfl (fun ls hl => ?_)
        refine lv_goto (tgt := 2) hx hb dX9_bringBack_23 (by decide) ?_
        exact ih2 x9 z7 H6 _ _ (ob_92 g2_0 f10) (ob_481 f5 f10) g8 hP hD hS (lv_sub hl [1, 0] rfl) (ob_482 hM2 f10)
  exact L2 (-1 * (0 : Int32).toInt + 26 + 1).toNat 0 f_all s.heap _ _ (ob_1 zc_0) (ob_483 zc_0) im26 hP hD hS (lv_sub hl [1, 0] rfl) (mlt (ob_484 zc_0))
set_option maxHeartbeats 4000000 in
set_option maxRecDepth 100000 in
theorem kX9_isOnCart (l : Launch) (dC : Nat → ClassId) (dI : Nat → Nat → Nat) (r : Nat → Nat) (ct : Nat → ClassId) (i_taped i_size i_faultKind i_at i_end i_token i_number i_bank i_rb i_codes i_within i_piled i_unitsInRule i_askHouse i_askTune i_acts i_undone i_laid i_knowns i_time : Int32) (f_text f_tunes f_houses f_hums f_told f_many f_ruleFrom f_ruleTo f_code f_eWhat f_eSign f_all f_kept f_was f_sTune f_boxAll : Nat → Int32) (J : Nat → Nat → Int32) (L : Nat → Nat → Int64) (p0 : Int32) (sz : Nat) (hI : (IM i_taped i_size i_faultKind i_at i_end i_bank i_rb i_acts i_undone i_laid i_knowns i_time f_tunes f_houses f_hums f_told f_many f_ruleFrom f_ruleTo f_code f_all f_kept f_was f_sTune f_boxAll)) (hp0 : 0 ≤ p0.toInt) (hp1 : p0.toInt + 1 ≤ (f_tunes (i_bank.toInt).toNat).toInt) : Met l yX9_isOnCart (.code yX9_isOnCart cX9_isOnCart 2 (some .boolean) :: GW) { frames := 2, cells := 0, slots := 0, locals := 100 } (va_Pc [.ref (r 0), .int p0] (pR (dC, dI) (WM r ct i_taped i_size i_faultKind i_at i_end i_token i_number i_bank i_rb i_codes i_within i_piled i_unitsInRule i_askHouse i_askTune i_acts i_undone i_laid i_knowns i_time f_text f_tunes f_houses f_hums f_told f_many f_ruleFrom f_ruleTo f_code f_eWhat f_eSign f_all f_kept f_was f_sTune f_boxAll J L) (TM ct) sz)) (va_Qi (fun (r0 : Int32) (u : Int32) => r0 = u) (fun (u : Int32) (t : State) => ((((f_all (p0.toInt).toNat).toInt + 1 ≠ 0) ∧ (u.toInt = 0)) ∨ (((f_all (p0.toInt).toNat).toInt + 1 = 0) ∧ (u.toInt = 1))) ∧ (0 ≤ u.toInt) ∧ (u.toInt ≤ 1)) (fun q => sz ≤ q)) 0 0 (fun q => sz ≤ q) := by
  refine Met.ofW (cc := cX9_isOnCart) (maxL := 2) (ret := (some .boolean)) (by decide) rfl ?_
  intro p e s m args below meth c0 s₁ B hml hv
  obtain ⟨rfl, hsz, hP, hK⟩ := hv
  have hx := B.exec
  have hb := B.bytes
  have hr := B.returns
  have hts := atoms_spec (ws := .code yX9_isOnCart cX9_isOnCart 2 (some .boolean) :: GW) B.pre
  have hG : ∀ w ∈ GW, w.before _ s = true := fun w h => hts w (List.mem_cons_of_mem _ h)
  have hown : s.vm.findClass RX9 = some m.cls := findClass_of_methodNamed B.named
  subst hsz
  have hS : va_S (fun q => s.heap.size ≤ q) s.heap s.heap [] := va_S.rf
  have hP : va_P (dC, dI) vwCl (WM r ct i_taped i_size i_faultKind i_at i_end i_token i_number i_bank i_rb i_codes i_within i_piled i_unitsInRule i_askHouse i_askTune i_acts i_undone i_laid i_knowns i_time f_text f_tunes f_houses f_hums f_told f_many f_ruleFrom f_ruleTo f_code f_eWhat f_eSign f_all f_kept f_was f_sTune f_boxAll J L) s.heap := hP
  have hl := lv_entry ([.ref (r 0), .int p0]) (n := 2) (Nat.le_of_ble_eq_true rfl)
  rw [lg_entry_eq]
  generalize (lg_sl ([.ref (r 0), .int p0]) ++ List.replicate (2 - (lg_sl ([.ref (r 0), .int p0])).length) Slot.unset).toArray = ls at hl ⊢
  have hl : lv_has ls 2 [(0, .ref (r 0)), (1, .int p0)] := hl
  refine nameQ (fun Q hQ => ?_)
  obtain ⟨im0, im1, im2, im3, im4, im5, im6, im7, im8, im9, im10, im11, im12, im13, im14, im15, im16, im17, im18, im19, im20, im21, im22, im23, im24, im25, im26, im27, im28, im29, im30, im31⟩ := id hI
  have f1 : 0 ≤ (f_tunes (i_bank.toInt).toNat).toInt ∧ (f_tunes (i_bank.toInt).toNat).toInt ≤ 5 := im21 (i_bank.toInt)
  have f2 : 0 ≤ (f_houses (i_bank.toInt).toNat).toInt ∧ (f_houses (i_bank.toInt).toNat).toInt ≤ 4 := im22 (i_bank.toInt)
  refine lv_aload_n hx hb dX9_isOnCart_0 rfl (lv_at hl 0 rfl) ?_
  refine gM_X9_88_0 hx hb hG hown hK hP dX9_isOnCart_1 ?_
  refine lv_iconst (v := 0) hx hb dX9_isOnCart_4 (by decide) ?_
  refine lv_iload_n hx hb dX9_isOnCart_5 rfl (lv_at hl 1 rfl) ?_
  refine lv_iadd hx hb dX9_isOnCart_6 ?_
  refine lv_topi (fun x3 ex3 => ?_)
  have f4 : x3.toInt = p0.toInt := (ob_471 (qi_add ex3 zc_0 rfl (ob_495 hp0 hp1) (ob_496 f1 hp0 hp1)))
  refine ldM_25 (mm := p0.toInt) hx hb hK hP f4 (ob_288 hp0 hp1) (ob_497 f1 hp0 hp1) dX9_isOnCart_7 ?_
  refine lv_iconst (v := (-1)) hx hb dX9_isOnCart_8 (by decide) ?_
  refine lv_icmp_ne (tgt := 16) hx hb dX9_isOnCart_9 (by decide) (fun c_5 => ?_) (fun c_5 => ?_)
  · skip
    have f6 : (f_all (p0.toInt).toNat).toInt ≠ (-1) := qi_ne c_5 rfl zc_m1
    refine lv_iconst (v := 0) hx hb dX9_isOnCart_16 (by decide) ?_
    rw [hQ]
    exact W.zret (v := 0) hx hb hr (by decide) (fun t ht hW => ⟨⟨0, 0, rfl, rfl, ⟨(ob_498 f6 zc_0), (ob_1 zc_0), (ob_11 zc_0)⟩⟩, hS.F ht⟩) hS.2.2 dX9_isOnCart_17
  · skip
    have f7 : (f_all (p0.toInt).toNat).toInt = (-1) := qi_eq c_5 rfl zc_m1
    refine lv_iconst (v := 1) hx hb dX9_isOnCart_12 (by decide) ?_
    refine lv_goto (tgt := 17) hx hb dX9_isOnCart_13 (by decide) ?_
    rw [hQ]
    exact W.zret (v := 1) hx hb hr (by decide) (fun t ht hW => ⟨⟨1, 1, rfl, rfl, ⟨(ob_499 f7 zc_1), (ob_14 zc_1), (ob_15 zc_1)⟩⟩, hS.F ht⟩) hS.2.2 dX9_isOnCart_17
set_option maxHeartbeats 4000000 in
set_option maxRecDepth 100000 in
theorem kX9_isTried (l : Launch) (dC : Nat → ClassId) (dI : Nat → Nat → Nat) (r : Nat → Nat) (ct : Nat → ClassId) (i_taped i_size i_faultKind i_at i_end i_token i_number i_bank i_rb i_codes i_within i_piled i_unitsInRule i_askHouse i_askTune i_acts i_undone i_laid i_knowns i_time : Int32) (f_text f_tunes f_houses f_hums f_told f_many f_ruleFrom f_ruleTo f_code f_eWhat f_eSign f_all f_kept f_was f_sTune f_boxAll : Nat → Int32) (J : Nat → Nat → Int32) (L : Nat → Nat → Int64) (p0 : Int32) (sz : Nat) (hI : (IM i_taped i_size i_faultKind i_at i_end i_bank i_rb i_acts i_undone i_laid i_knowns i_time f_tunes f_houses f_hums f_told f_many f_ruleFrom f_ruleTo f_code f_all f_kept f_was f_sTune f_boxAll)) (hp0 : 0 ≤ p0.toInt) (hp1 : p0.toInt + 1 ≤ (f_tunes (i_bank.toInt).toNat).toInt) : Met l yX9_isTried (.code yX9_isTried cX9_isTried 2 (some .boolean) :: GW) { frames := 2, cells := 0, slots := 0, locals := 100 } (va_Pc [.ref (r 0), .int p0] (pR (dC, dI) (WM r ct i_taped i_size i_faultKind i_at i_end i_token i_number i_bank i_rb i_codes i_within i_piled i_unitsInRule i_askHouse i_askTune i_acts i_undone i_laid i_knowns i_time f_text f_tunes f_houses f_hums f_told f_many f_ruleFrom f_ruleTo f_code f_eWhat f_eSign f_all f_kept f_was f_sTune f_boxAll J L) (TM ct) sz)) (va_Qi (fun (r0 : Int32) (u : Int32) => r0 = u) (fun (u : Int32) (t : State) => ((((f_all (p0.toInt).toNat).toInt + 1 ≤ 0) ∧ (u.toInt = 0)) ∨ ((0 ≤ (f_all (p0.toInt).toNat).toInt) ∧ ((f_all (p0.toInt + 5).toNat).toInt ≠ 0) ∧ (u.toInt = 0)) ∨ ((0 ≤ (f_all (p0.toInt).toNat).toInt) ∧ ((f_all (p0.toInt + 5).toNat).toInt = 0) ∧ (u.toInt = 1))) ∧ (0 ≤ u.toInt) ∧ (u.toInt ≤ 1)) (fun q => sz ≤ q)) 0 0 (fun q => sz ≤ q) := by
  refine Met.ofW (cc := cX9_isTried) (maxL := 2) (ret := (some .boolean)) (by decide) rfl ?_
  intro p e s m args below meth c0 s₁ B hml hv
  obtain ⟨rfl, hsz, hP, hK⟩ := hv
  have hx := B.exec
  have hb := B.bytes
  have hr := B.returns
  have hts := atoms_spec (ws := .code yX9_isTried cX9_isTried 2 (some .boolean) :: GW) B.pre
  have hG : ∀ w ∈ GW, w.before _ s = true := fun w h => hts w (List.mem_cons_of_mem _ h)
  have hown : s.vm.findClass RX9 = some m.cls := findClass_of_methodNamed B.named
  subst hsz
  have hS : va_S (fun q => s.heap.size ≤ q) s.heap s.heap [] := va_S.rf
  have hP : va_P (dC, dI) vwCl (WM r ct i_taped i_size i_faultKind i_at i_end i_token i_number i_bank i_rb i_codes i_within i_piled i_unitsInRule i_askHouse i_askTune i_acts i_undone i_laid i_knowns i_time f_text f_tunes f_houses f_hums f_told f_many f_ruleFrom f_ruleTo f_code f_eWhat f_eSign f_all f_kept f_was f_sTune f_boxAll J L) s.heap := hP
  have hl := lv_entry ([.ref (r 0), .int p0]) (n := 2) (Nat.le_of_ble_eq_true rfl)
  rw [lg_entry_eq]
  generalize (lg_sl ([.ref (r 0), .int p0]) ++ List.replicate (2 - (lg_sl ([.ref (r 0), .int p0])).length) Slot.unset).toArray = ls at hl ⊢
  have hl : lv_has ls 2 [(0, .ref (r 0)), (1, .int p0)] := hl
  refine nameQ (fun Q hQ => ?_)
  obtain ⟨im0, im1, im2, im3, im4, im5, im6, im7, im8, im9, im10, im11, im12, im13, im14, im15, im16, im17, im18, im19, im20, im21, im22, im23, im24, im25, im26, im27, im28, im29, im30, im31⟩ := id hI
  have f1 : 0 ≤ (f_tunes (i_bank.toInt).toNat).toInt ∧ (f_tunes (i_bank.toInt).toNat).toInt ≤ 5 := im21 (i_bank.toInt)
  have f2 : 0 ≤ (f_houses (i_bank.toInt).toNat).toInt ∧ (f_houses (i_bank.toInt).toNat).toInt ≤ 4 := im22 (i_bank.toInt)
  refine lv_aload_n hx hb dX9_isTried_0 rfl (lv_at hl 0 rfl) ?_
  refine gM_X9_88_0 hx hb hG hown hK hP dX9_isTried_1 ?_
  refine lv_iconst (v := 0) hx hb dX9_isTried_4 (by decide) ?_
  refine lv_iload_n hx hb dX9_isTried_5 rfl (lv_at hl 1 rfl) ?_
  refine lv_iadd hx hb dX9_isTried_6 ?_
  refine lv_topi (fun x3 ex3 => ?_)
  have f4 : x3.toInt = p0.toInt := (ob_471 (qi_add ex3 zc_0 rfl (ob_495 hp0 hp1) (ob_496 f1 hp0 hp1)))
  refine ldM_25 (mm := p0.toInt) hx hb hK hP f4 (ob_288 hp0 hp1) (ob_497 f1 hp0 hp1) dX9_isTried_7 ?_
  refine lv_if_lt (tgt := 26) hx hb dX9_isTried_8 (by decide) (fun c_5 => ?_) (fun c_5 => ?_)
  · skip
    have f6 : (f_all (p0.toInt).toNat).toInt < 0 := qi_lt c_5 rfl zc_0
    refine lv_iconst (v := 0) hx hb dX9_isTried_26 (by decide) ?_
    rw [hQ]
    exact W.zret (v := 0) hx hb hr (by decide) (fun t ht hW => ⟨⟨0, 0, rfl, rfl, ⟨(ob_500 f6 zc_0), (ob_1 zc_0), (ob_11 zc_0)⟩⟩, hS.F ht⟩) hS.2.2 dX9_isTried_27
  · skip
    have f7 : 0 ≤ (f_all (p0.toInt).toNat).toInt := qi_nlt c_5 rfl zc_0
    refine lv_aload_n hx hb dX9_isTried_11 rfl (lv_at hl 0 rfl) ?_
    refine gM_X9_88_0 hx hb hG hown hK hP dX9_isTried_12 ?_
    refine lv_iconst (v := 5) hx hb dX9_isTried_15 (by decide) ?_
    refine lv_iload_n hx hb dX9_isTried_16 rfl (lv_at hl 1 rfl) ?_
    refine lv_iadd hx hb dX9_isTried_17 ?_
    refine lv_topi (fun x8 ex8 => ?_)
    have f9 : x8.toInt = p0.toInt + 5 := (ob_503 (qi_add ex8 zc_5 rfl (ob_501 hp0 hp1) (ob_502 f1 hp0 hp1)))
    refine ldM_25 (mm := p0.toInt + 5) hx hb hK hP f9 (ob_504 hp0 hp1) (ob_505 f1 hp0 hp1) dX9_isTried_18 ?_
    refine lv_if_ne (tgt := 26) hx hb dX9_isTried_19 (by decide) (fun c_10 => ?_) (fun c_10 => ?_)
    · skip
      have f11 : (f_all (p0.toInt + 5).toNat).toInt ≠ 0 := qi_ne c_10 rfl zc_0
      refine lv_iconst (v := 0) hx hb dX9_isTried_26 (by decide) ?_
      rw [hQ]
      exact W.zret (v := 0) hx hb hr (by decide) (fun t ht hW => ⟨⟨0, 0, rfl, rfl, ⟨(ob_506 f7 f11 zc_0), (ob_1 zc_0), (ob_11 zc_0)⟩⟩, hS.F ht⟩) hS.2.2 dX9_isTried_27
    · skip
      have f12 : (f_all (p0.toInt + 5).toNat).toInt = 0 := qi_eq c_10 rfl zc_0
      refine lv_iconst (v := 1) hx hb dX9_isTried_22 (by decide) ?_
      refine lv_goto (tgt := 27) hx hb dX9_isTried_23 (by decide) ?_
      rw [hQ]
      exact W.zret (v := 1) hx hb hr (by decide) (fun t ht hW => ⟨⟨1, 1, rfl, rfl, ⟨(ob_507 f7 f12 zc_1), (ob_14 zc_1), (ob_15 zc_1)⟩⟩, hS.F ht⟩) hS.2.2 dX9_isTried_27
set_option maxHeartbeats 4000000 in
set_option maxRecDepth 100000 in
theorem kX9_triedBy (l : Launch) (dC : Nat → ClassId) (dI : Nat → Nat → Nat) (r : Nat → Nat) (ct : Nat → ClassId) (i_taped i_size i_faultKind i_at i_end i_token i_number i_bank i_rb i_codes i_within i_piled i_unitsInRule i_askHouse i_askTune i_acts i_undone i_laid i_knowns i_time : Int32) (f_text f_tunes f_houses f_hums f_told f_many f_ruleFrom f_ruleTo f_code f_eWhat f_eSign f_all f_kept f_was f_sTune f_boxAll : Nat → Int32) (J : Nat → Nat → Int32) (L : Nat → Nat → Int64) (p0 : Int32) (sz : Nat) (hI : (IM i_taped i_size i_faultKind i_at i_end i_bank i_rb i_acts i_undone i_laid i_knowns i_time f_tunes f_houses f_hums f_told f_many f_ruleFrom f_ruleTo f_code f_all f_kept f_was f_sTune f_boxAll)) : Met l yX9_triedBy (.code yX9_triedBy cX9_triedBy 3 (some .int) :: GW) { frames := 4, cells := 0, slots := 0, locals := 160 } (va_Pc [.ref (r 0), .int p0] (pR (dC, dI) (WM r ct i_taped i_size i_faultKind i_at i_end i_token i_number i_bank i_rb i_codes i_within i_piled i_unitsInRule i_askHouse i_askTune i_acts i_undone i_laid i_knowns i_time f_text f_tunes f_houses f_hums f_told f_many f_ruleFrom f_ruleTo f_code f_eWhat f_eSign f_all f_kept f_was f_sTune f_boxAll J L) (TM ct) sz)) (va_Qi (fun (r0 : Int32) (u : Int32) => r0 = u) (fun (u : Int32) (t : State) => (0 ≤ u.toInt + 1) ∧ (u.toInt + 1 ≤ (f_tunes (i_bank.toInt).toNat).toInt) ∧ (u.toInt = (trb f_all p0.toInt (f_tunes (i_bank.toInt).toNat).toInt (6 - (0 : Int32).toInt).toNat (0 : Int32).toInt))) (fun q => sz ≤ q)) 0 0 (fun q => sz ≤ q) := by
  refine Met.ofW (cc := cX9_triedBy) (maxL := 3) (ret := (some .int)) (by decide) rfl ?_
  intro p e s m args below meth c0 s₁ B hml hv
  obtain ⟨rfl, hsz, hP, hK⟩ := hv
  have hx := B.exec
  have hb := B.bytes
  have hr := B.returns
  have hts := atoms_spec (ws := .code yX9_triedBy cX9_triedBy 3 (some .int) :: GW) B.pre
  have hG : ∀ w ∈ GW, w.before _ s = true := fun w h => hts w (List.mem_cons_of_mem _ h)
  have hown : s.vm.findClass RX9 = some m.cls := findClass_of_methodNamed B.named
  subst hsz
  have hS : va_S (fun q => s.heap.size ≤ q) s.heap s.heap [] := va_S.rf
  have hP : va_P (dC, dI) vwCl (WM r ct i_taped i_size i_faultKind i_at i_end i_token i_number i_bank i_rb i_codes i_within i_piled i_unitsInRule i_askHouse i_askTune i_acts i_undone i_laid i_knowns i_time f_text f_tunes f_houses f_hums f_told f_many f_ruleFrom f_ruleTo f_code f_eWhat f_eSign f_all f_kept f_was f_sTune f_boxAll J L) s.heap := hP
  have hl := lv_entry ([.ref (r 0), .int p0]) (n := 3) (Nat.le_of_ble_eq_true rfl)
  rw [lg_entry_eq]
  generalize (lg_sl ([.ref (r 0), .int p0]) ++ List.replicate (3 - (lg_sl ([.ref (r 0), .int p0])).length) Slot.unset).toArray = ls at hl ⊢
  have hl : lv_has ls 3 [(0, .ref (r 0)), (1, .int p0)] := hl
  refine nameQ (fun Q hQ => ?_)
  obtain ⟨im0, im1, im2, im3, im4, im5, im6, im7, im8, im9, im10, im11, im12, im13, im14, im15, im16, im17, im18, im19, im20, im21, im22, im23, im24, im25, im26, im27, im28, im29, im30, im31⟩ := id hI
  have f1 : 0 ≤ (f_tunes (i_bank.toInt).toNat).toInt ∧ (f_tunes (i_bank.toInt).toNat).toInt ≤ 5 := im21 (i_bank.toInt)
  have f2 : 0 ≤ (f_houses (i_bank.toInt).toNat).toInt ∧ (f_houses (i_bank.toInt).toNat).toInt ≤ 4 := im22 (i_bank.toInt)
  refine lv_iconst (v := 0) hx hb dX9_triedBy_0 (by decide) ?_
  refine lv_istore_n (lv' := [(2, .int 0), (0, .ref (r 0)), (1, .int p0)]) hx hb dX9_triedBy_1 rfl hl (by decide) rfl (fun ls hl => ?_)
  have L2 : ∀ (N2 : Nat) (y2_2 : Int32) (H2 : Heap) (locs : List Loc) (ls : Array Slot) (g2_0 : 0 ≤ y2_2.toInt) (g2_1 : y2_2.toInt ≤ 5) (g2_2 : (trb f_all p0.toInt (f_tunes (i_bank.toInt).toNat).toInt (6 - (0 : Int32).toInt).toNat (0 : Int32).toInt) = (trb f_all p0.toInt (f_tunes (i_bank.toInt).toNat).toInt (6 - y2_2.toInt).toNat y2_2.toInt)) (hP : va_P (dC, dI) vwCl (WM r ct i_taped i_size i_faultKind i_at i_end i_token i_number i_bank i_rb i_codes i_within i_piled i_unitsInRule i_askHouse i_askTune i_acts i_undone i_laid i_knowns i_time f_text f_tunes f_houses f_hums f_told f_many f_ruleFrom f_ruleTo f_code f_eWhat f_eSign f_all f_kept f_was f_sTune f_boxAll J L) H2) (hS : va_S (fun q => s.heap.size ≤ q) s.heap H2 locs) (hl : lv_has ls 3 [(0, .ref (r 0)), (1, .int p0), (2, .int y2_2)]) (hM : -1 * y2_2.toInt + 5 < (N2 : Int)), W p l e { frames := 4, cells := 0, slots := 0, locals := 160 } s m ([.ref (r 0), .int p0] : List Value).toArray below meth c0 H2 locs 0 0 Q (F0 m 2 ls []) := by
    intro N2
    induction N2 with
    | zero =>
      intro y2_2 H2 locs ls g2_0 g2_1 g2_2 hP hS hl hM
      exact ((ob_452 hM g2_0 g2_1)).elim
    | succ N2 ih2 =>
      intro y2_2 H2 locs ls g2_0 g2_1 g2_2 hP hS hl hM
      have hM2 := msucc hM
      refine lv_iload_n hx hb dX9_triedBy_2 rfl (lv_at hl 2 rfl) ?_
      refine lv_aload_n hx hb dX9_triedBy_3 rfl (lv_at hl 0 rfl) ?_
      refine va_calli (va_runV (As := []) (rest := [.int y2_2]) ⟨hx, hb, hml, hown, hG⟩ (kX9_songs l dC dI r ct i_taped i_size i_faultKind i_at i_end i_token i_number i_bank i_rb i_codes i_within i_piled i_unitsInRule i_askHouse i_askTune i_acts i_undone i_laid i_knowns i_time f_text f_tunes f_houses f_hums f_told f_many f_ruleFrom f_ruleTo f_code f_eWhat f_eSign f_all f_kept f_was f_sTune f_boxAll J L H2.size hI) (cwV 0 hG (goodV gw1512 gw1514 gw86 gw138 gw1515) rfl rfl rfl hd_X9_songs ⟨(Nat.le_of_ble_eq_true rfl), (Nat.le_of_ble_eq_true rfl)⟩) ⟨fbR, va_recv hK hP (ci := 8) (q0 := 0) rfl rfl, pR_in hP hK⟩ rfl rfl hl.1 rfl (lv_room (Nat.le_of_ble_eq_true rfl)) dX9_triedBy_4 ⟨(Nat.le_of_ble_eq_true rfl), (Nat.le_of_ble_eq_true rfl)⟩) hS (fun q hq h => absurd hq (Nat.not_lt.mpr h)) (fun q h => Nat.le_trans hS.1 h) (fun r_4 u_ t_ H3 locs ht hvm hw hB hz1 hk1 hS => ?_)
      subst hw
      have hP := wk hP hk1
      have f5 := hB
      have f6 : r_4.toInt = (f_tunes (i_bank.toInt).toNat).toInt := (ob_6 f5)
      refine lv_icmp_ge (tgt := 41) hx hb dX9_triedBy_7 (by decide) (fun c_7 => ?_) (fun c_7 => ?_)
      · skip
        have f8 : r_4.toInt ≤ y2_2.toInt := qi_le c_7 rfl rfl
        have f9 : (trb f_all p0.toInt (f_tunes (i_bank.toInt).toNat).toInt (6 - y2_2.toInt).toNat y2_2.toInt) = -1 := trb_end (ob_508 f8 f6)
        refine lv_iconst (v := (-1)) hx hb dX9_triedBy_41 (by decide) ?_
        rw [hQ]
        exact W.iret (v := (-1)) hx hb hr (fun t ht hW => ⟨⟨(-1), (-1), rfl, rfl, ⟨(ob_509 zc_m1), (ob_510 f1 f8 f6 zc_m1), (ob_511 g2_2 f9 zc_m1)⟩⟩, hS.F ht⟩) hS.2.2 dX9_triedBy_42
      · skip
        have f10 : y2_2.toInt < r_4.toInt := qi_nle c_7 rfl rfl
        refine lv_aload_n hx hb dX9_triedBy_10 rfl (lv_at hl 0 rfl) ?_
        refine gM_X9_88_0 hx hb hG hown hK hP dX9_triedBy_11 ?_
        refine lv_iconst (v := 0) hx hb dX9_triedBy_14 (by decide) ?_
        refine lv_iload_n hx hb dX9_triedBy_15 rfl (lv_at hl 2 rfl) ?_
        refine lv_iadd hx hb dX9_triedBy_16 ?_
        refine lv_topi (fun x11 ex11 => ?_)
        have f12 : x11.toInt = y2_2.toInt := (ob_471 (qi_add ex11 zc_0 rfl (ob_469 g2_0) (ob_470 g2_1)))
        refine ldM_25 (mm := y2_2.toInt) hx hb hK hP f12 (ob_81 g2_0) (ob_472 g2_1) dX9_triedBy_17 ?_
        refine lv_iload_n hx hb dX9_triedBy_18 rfl (lv_at hl 1 rfl) ?_
        refine lv_icmp_ne (tgt := 35) hx hb dX9_triedBy_19 (by decide) (fun c_13 => ?_) (fun c_13 => ?_)
        · skip
          have f14 : (f_all (y2_2.toInt).toNat).toInt ≠ p0.toInt := qi_ne c_13 rfl rfl
          have f15 : (trb f_all p0.toInt (f_tunes (i_bank.toInt).toNat).toInt (6 - y2_2.toInt).toNat y2_2.toInt) = (trb f_all p0.toInt (f_tunes (i_bank.toInt).toNat).toInt (6 - y2_2.toInt + 1).toNat y2_2.toInt + 1) := trb_m1 (ob_81 g2_0) (ob_512 g2_1) (ob_513 f10 f6) f14
          obtain ⟨x16, ex16⟩ : ∃ y : Int32, y = y2_2 + Int32.ofInt 1 := ⟨_, rfl⟩
          have f17 : x16.toInt = y2_2.toInt + 1 := (ob_84 (qi_add ex16 rfl (by decide) (ob_82 g2_0) (ob_474 g2_1)))
          refine lv_iinc (v := x16) (lv' := [(2, .int x16), (0, .ref (r 0)), (1, .int p0)]) hx hb dX9_triedBy_35 hl (k := 2) rfl ex16.symm (by decide) rfl (fun ls hl => ?_)
          have f18 : (trb f_all p0.toInt (f_tunes (i_bank.toInt).toNat).toInt (6 - x16.toInt).toNat x16.toInt) = (trb f_all p0.toInt (f_tunes (i_bank.toInt).toNat).toInt (6 - y2_2.toInt + 1).toNat y2_2.toInt + 1) := by rw [f17]
          refine lv_goto (tgt := 2) hx hb dX9_triedBy_38 (by decide) ?_
          exact ih2 x16 H3 _ _ (ob_92 g2_0 f17) (ob_514 f1 f10 f6 f17) (ob_515 g2_2 f15 f18) hP hS (lv_sub hl [1, 2, 0] rfl) (ob_476 hM2 f17)
        · skip
          have f19 : (f_all (y2_2.toInt).toNat).toInt = p0.toInt := qi_eq c_13 rfl rfl
          refine lv_aload_n hx hb dX9_triedBy_22 rfl (lv_at hl 0 rfl) ?_
          refine gM_X9_88_0 hx hb hG hown hK hP dX9_triedBy_23 ?_
          refine lv_iconst (v := 5) hx hb dX9_triedBy_26 (by decide) ?_
          refine lv_iload_n hx hb dX9_triedBy_27 rfl (lv_at hl 2 rfl) ?_
          refine lv_iadd hx hb dX9_triedBy_28 ?_
          refine lv_topi (fun x20 ex20 => ?_)
          have f21 : x20.toInt = y2_2.toInt + 5 := (ob_503 (qi_add ex20 zc_5 rfl (ob_516 g2_0) (ob_517 g2_1)))
          refine ldM_25 (mm := y2_2.toInt + 5) hx hb hK hP f21 (ob_518 g2_0) (ob_519 g2_1) dX9_triedBy_29 ?_
          refine lv_if_ne (tgt := 35) hx hb dX9_triedBy_30 (by decide) (fun c_22 => ?_) (fun c_22 => ?_)
          · skip
            have f23 : (f_all (y2_2.toInt + 5).toNat).toInt ≠ 0 := qi_ne c_22 rfl zc_0
            have f24 : (trb f_all p0.toInt (f_tunes (i_bank.toInt).toNat).toInt (6 - y2_2.toInt).toNat y2_2.toInt) = (trb f_all p0.toInt (f_tunes (i_bank.toInt).toNat).toInt (6 - y2_2.toInt + 1).toNat y2_2.toInt + 1) := trb_m2 (ob_81 g2_0) (ob_512 g2_1) (ob_513 f10 f6) f23
            obtain ⟨x25, ex25⟩ : ∃ y : Int32, y = y2_2 + Int32.ofInt 1 := ⟨_, rfl⟩
            have f26 : x25.toInt = y2_2.toInt + 1 := (ob_84 (qi_add ex25 rfl (by decide) (ob_82 g2_0) (ob_474 g2_1)))
            refine lv_iinc (v := x25) (lv' := [(2, .int x25), (0, .ref (r 0)), (1, .int p0)]) hx hb dX9_triedBy_35 hl (k := 2) rfl ex25.symm (by decide) rfl (fun ls hl => ?_)
            have f27 : (trb f_all p0.toInt (f_tunes (i_bank.toInt).toNat).toInt (6 - x25.toInt).toNat x25.toInt) = (trb f_all p0.toInt (f_tunes (i_bank.toInt).toNat).toInt (6 - y2_2.toInt + 1).toNat y2_2.toInt + 1) := by rw [f26]
            refine lv_goto (tgt := 2) hx hb dX9_triedBy_38 (by decide) ?_
            exact ih2 x25 H3 _ _ (ob_92 g2_0 f26) (ob_514 f1 f10 f6 f26) (ob_515 g2_2 f24 f27) hP hS (lv_sub hl [1, 2, 0] rfl) (ob_476 hM2 f26)
          · skip
            have f28 : (f_all (y2_2.toInt + 5).toNat).toInt = 0 := qi_eq c_22 rfl zc_0
            have f29 : (trb f_all p0.toInt (f_tunes (i_bank.toInt).toNat).toInt (6 - y2_2.toInt).toNat y2_2.toInt) = y2_2.toInt := trb_hit (ob_81 g2_0) (ob_512 g2_1) (ob_513 f10 f6) f19 f28
            refine lv_iload_n hx hb dX9_triedBy_33 rfl (lv_at hl 2 rfl) ?_
            rw [hQ]
            exact W.iret (v := y2_2) hx hb hr (fun t ht hW => ⟨⟨y2_2, y2_2, rfl, rfl, ⟨(ob_520 g2_0), (ob_521 f10 f6), (ob_522 g2_2 f29)⟩⟩, hS.F ht⟩) hS.2.2 dX9_triedBy_34
  exact L2 (-1 * (0 : Int32).toInt + 5 + 1).toNat 0 s.heap _ _ (ob_1 zc_0) (ob_477 zc_0) (ob_438) hP hS (lv_sub hl [1, 2, 0] rfl) (mlt (ob_478 zc_0))
set_option maxHeartbeats 4000000 in
set_option maxRecDepth 100000 in
theorem kX9_gladBy (l : Launch) (dC : Nat → ClassId) (dI : Nat → Nat → Nat) (r : Nat → Nat) (ct : Nat → ClassId) (i_taped i_size i_faultKind i_at i_end i_token i_number i_bank i_rb i_codes i_within i_piled i_unitsInRule i_askHouse i_askTune i_acts i_undone i_laid i_knowns i_time : Int32) (f_text f_tunes f_houses f_hums f_told f_many f_ruleFrom f_ruleTo f_code f_eWhat f_eSign f_all f_kept f_was f_sTune f_boxAll : Nat → Int32) (J : Nat → Nat → Int32) (L : Nat → Nat → Int64) (p0 p1 p2 : Int32) (sz : Nat) (hI : (IM i_taped i_size i_faultKind i_at i_end i_bank i_rb i_acts i_undone i_laid i_knowns i_time f_tunes f_houses f_hums f_told f_many f_ruleFrom f_ruleTo f_code f_all f_kept f_was f_sTune f_boxAll)) (hp0 : 0 ≤ p0.toInt) (hp1 : p0.toInt + 1 ≤ (f_houses (i_bank.toInt).toNat).toInt) (hp2 : 0 ≤ p1.toInt) (hp3 : p1.toInt + 1 ≤ (f_tunes (i_bank.toInt).toNat).toInt) : Met l yX9_gladBy (.code yX9_gladBy cX9_gladBy 5 (some .int) :: GW) { frames := 18, cells := 0, slots := 0, locals := 603 } (va_Pc [.ref (r 0), .int p0, .int p1, .int p2] (pW (dC, dI) (WM r ct i_taped i_size i_faultKind i_at i_end i_token i_number i_bank i_rb i_codes i_within i_piled i_unitsInRule i_askHouse i_askTune i_acts i_undone i_laid i_knowns i_time f_text f_tunes f_houses f_hums f_told f_many f_ruleFrom f_ruleTo f_code f_eWhat f_eSign f_all f_kept f_was f_sTune f_boxAll J L) (TM ct) sz)) (va_Qi (fun (r0 : Int32) (u : Int32) => r0 = u) (fun (u : Int32) (t : State) => ∃ (n_i_askHouse n_i_askTune : Int32) (n_J : Nat → Nat → Int32), va_P (dC, dI) vwCl (WM r ct i_taped i_size i_faultKind i_at i_end i_token i_number i_bank i_rb i_codes i_within i_piled i_unitsInRule n_i_askHouse n_i_askTune i_acts i_undone i_laid i_knowns i_time f_text f_tunes f_houses f_hums f_told f_many f_ruleFrom f_ruleTo f_code f_eWhat f_eSign f_all f_kept f_was f_sTune f_boxAll n_J L) t.heap ∧ va_D (va_A (WM r ct i_taped i_size i_faultKind i_at i_end i_token i_number i_bank i_rb i_codes i_within i_piled i_unitsInRule i_askHouse i_askTune i_acts i_undone i_laid i_knowns i_time f_text f_tunes f_houses f_hums f_told f_many f_ruleFrom f_ruleTo f_code f_eWhat f_eSign f_all f_kept f_was f_sTune f_boxAll J L) sz) (WM r ct i_taped i_size i_faultKind i_at i_end i_token i_number i_bank i_rb i_codes i_within i_piled i_unitsInRule n_i_askHouse n_i_askTune i_acts i_undone i_laid i_knowns i_time f_text f_tunes f_houses f_hums f_told f_many f_ruleFrom f_ruleTo f_code f_eWhat f_eSign f_all f_kept f_was f_sTune f_boxAll n_J L) ∧ (IM i_taped i_size i_faultKind i_at i_end i_bank i_rb i_acts i_undone i_laid i_knowns i_time f_tunes f_houses f_hums f_told f_many f_ruleFrom f_ruleTo f_code f_all f_kept f_was f_sTune f_boxAll) ∧ ((True))) (va_A (WM r ct i_taped i_size i_faultKind i_at i_end i_token i_number i_bank i_rb i_codes i_within i_piled i_unitsInRule i_askHouse i_askTune i_acts i_undone i_laid i_knowns i_time f_text f_tunes f_houses f_hums f_told f_many f_ruleFrom f_ruleTo f_code f_eWhat f_eSign f_all f_kept f_was f_sTune f_boxAll J L) sz)) 0 0 (va_A (WM r ct i_taped i_size i_faultKind i_at i_end i_token i_number i_bank i_rb i_codes i_within i_piled i_unitsInRule i_askHouse i_askTune i_acts i_undone i_laid i_knowns i_time f_text f_tunes f_houses f_hums f_told f_many f_ruleFrom f_ruleTo f_code f_eWhat f_eSign f_all f_kept f_was f_sTune f_boxAll J L) sz) := by
  refine Met.ofW (cc := cX9_gladBy) (maxL := 5) (ret := (some .int)) (by decide) rfl ?_
  intro p e s m args below meth c0 s₁ B hml hv
  obtain ⟨rfl, hsz, hP, hK, hD0⟩ := hv
  have hx := B.exec
  have hb := B.bytes
  have hr := B.returns
  have hts := atoms_spec (ws := .code yX9_gladBy cX9_gladBy 5 (some .int) :: GW) B.pre
  have hG : ∀ w ∈ GW, w.before _ s = true := fun w h => hts w (List.mem_cons_of_mem _ h)
  have hown : s.vm.findClass RX9 = some m.cls := findClass_of_methodNamed B.named
  subst hsz
  have hD := hD0.self (sz := s.heap.size)
  generalize hAe : va_A (WM r ct i_taped i_size i_faultKind i_at i_end i_token i_number i_bank i_rb i_codes i_within i_piled i_unitsInRule i_askHouse i_askTune i_acts i_undone i_laid i_knowns i_time f_text f_tunes f_houses f_hums f_told f_many f_ruleFrom f_ruleTo f_code f_eWhat f_eSign f_all f_kept f_was f_sTune f_boxAll J L) s.heap.size = A at hD ⊢
  have hA : ∀ q : Nat, s.heap.size ≤ q → A q := fun q h => by rw [← hAe]; exact Or.inr h
  have hS : va_S A s.heap s.heap [] := va_S.rf
  have hP : va_P (dC, dI) vwCl (WM r ct i_taped i_size i_faultKind i_at i_end i_token i_number i_bank i_rb i_codes i_within i_piled i_unitsInRule i_askHouse i_askTune i_acts i_undone i_laid i_knowns i_time f_text f_tunes f_houses f_hums f_told f_many f_ruleFrom f_ruleTo f_code f_eWhat f_eSign f_all f_kept f_was f_sTune f_boxAll J L) s.heap := hP
  have hl := lv_entry ([.ref (r 0), .int p0, .int p1, .int p2]) (n := 5) (Nat.le_of_ble_eq_true rfl)
  rw [lg_entry_eq]
  generalize (lg_sl ([.ref (r 0), .int p0, .int p1, .int p2]) ++ List.replicate (5 - (lg_sl ([.ref (r 0), .int p0, .int p1, .int p2])).length) Slot.unset).toArray = ls at hl ⊢
  have hl : lv_has ls 5 [(0, .ref (r 0)), (1, .int p0), (2, .int p1), (3, .int p2)] := hl
  refine nameQ (fun Q hQ => ?_)
  obtain ⟨im0, im1, im2, im3, im4, im5, im6, im7, im8, im9, im10, im11, im12, im13, im14, im15, im16, im17, im18, im19, im20, im21, im22, im23, im24, im25, im26, im27, im28, im29, im30, im31⟩ := id hI
  have f1 : 0 ≤ (f_tunes (i_bank.toInt).toNat).toInt ∧ (f_tunes (i_bank.toInt).toNat).toInt ≤ 5 := im21 (i_bank.toInt)
  have f2 : 0 ≤ (f_houses (i_bank.toInt).toNat).toInt ∧ (f_houses (i_bank.toInt).toNat).toInt ≤ 4 := im22 (i_bank.toInt)
  refine lv_aload_n hx hb dX9_gladBy_0 rfl (lv_at hl 0 rfl) ?_
  refine lv_iload_n hx hb dX9_gladBy_1 rfl (lv_at hl 1 rfl) ?_
  refine pM_X9_324_0 hx hb hG hown hK hP hD hS dX9_gladBy_2 (fun H3 locs hP hD hS => ?_)
  refine lv_aload_n hx hb dX9_gladBy_5 rfl (lv_at hl 0 rfl) ?_
  refine lv_iload_n hx hb dX9_gladBy_6 rfl (lv_at hl 2 rfl) ?_
  refine pM_X9_327_0 hx hb hG hown hK hP hD hS dX9_gladBy_7 (fun H4 locs hP hD hS => ?_)
  refine lv_aload_n hx hb dX9_gladBy_10 rfl (lv_at hl 0 rfl) ?_
  refine lv_iload_n hx hb dX9_gladBy_11 rfl (lv_at hl 3 rfl) ?_
  refine pM_X9_339_0 hx hb hG hown hK hP hD hS dX9_gladBy_12 (fun J6 H5 locs hP hD hS => ?_)
  refine lv_aload_n hx hb dX9_gladBy_15 rfl (lv_at hl 0 rfl) ?_
  refine gM_X9_39_0 hx hb hG hown hK hP dX9_gladBy_16 ?_
  refine lv_aload_n hx hb dX9_gladBy_19 rfl (lv_at hl 0 rfl) ?_
  refine gM_X9_249_0 hx hb hG hown hK hP dX9_gladBy_20 ?_
  refine ldM_9 (mm := i_bank.toInt) hx hb hK hP rfl (ob_351 im4 im5) (ob_352 im4 im5) dX9_gladBy_23 ?_
  refine lv_iconst (v := 1) hx hb dX9_gladBy_24 (by decide) ?_
  refine va_calli (va_runS (As := [.int (f_told (i_bank.toInt).toNat), .int 1]) (rest := []) ⟨hx, hb, hml, hown, hG⟩ (kX9_bit l dC dI (f_told (i_bank.toInt).toNat) 1 H5.size) (va_cwS 2 hG (goodS gw1417 gw1418 gw138 gw1419) rfl rfl rfl hd_X9_bit ⟨(Nat.le_of_ble_eq_true rfl), (Nat.le_of_ble_eq_true rfl)⟩) ⟨fbR, pR_in emptyP (emptyK hK)⟩ rfl rfl hl.1 rfl (lv_room (Nat.le_of_ble_eq_true rfl)) dX9_gladBy_25 ⟨(Nat.le_of_ble_eq_true rfl), (Nat.le_of_ble_eq_true rfl)⟩) hS (fun q hq h => absurd hq (Nat.not_lt.mpr h)) (fun q h => hA q (Nat.le_trans hS.1 h)) (fun r_8 u_ t_ H7 locs ht hvm hw hB hz1 hk1 hS => ?_)
  subst hw
  have hP := wk hP hk1
  obtain ⟨f9, f10, f11⟩ := hB
  refine lv_if_eq (tgt := 38) hx hb dX9_gladBy_28 (by decide) (fun c_12 => ?_) (fun c_12 => ?_)
  · skip
    have f13 : r_8.toInt = 0 := qi_eq c_12 rfl zc_0
    refine lv_aload_n hx hb dX9_gladBy_38 rfl (lv_at hl 0 rfl) ?_
    refine lv_iload_n hx hb dX9_gladBy_39 rfl (lv_at hl 1 rfl) ?_
    refine lv_iload_n hx hb dX9_gladBy_40 rfl (lv_at hl 2 rfl) ?_
    refine va_calli (va_runV (As := [.int p0, .int p1]) (rest := []) ⟨hx, hb, hml, hown, hG⟩ (kX9_sameOf l dC dI r ct i_taped i_size i_faultKind i_at i_end i_token i_number i_bank i_rb i_codes i_within i_piled i_unitsInRule p0 p1 i_acts i_undone i_laid i_knowns i_time f_text f_tunes f_houses f_hums f_told f_many f_ruleFrom f_ruleTo f_code f_eWhat f_eSign f_all f_kept f_was f_sTune f_boxAll J6 L p0 p1 H7.size hI (ob_288 hp0 hp1) (ob_314 f2 hp0 hp1) (ob_288 hp2 hp3) (ob_289 f1 hp2 hp3)) (cwV 2 hG (goodV gw1578 gw1580 gw98 gw138 gw1581) rfl rfl rfl hd_X9_sameOf ⟨(Nat.le_of_ble_eq_true rfl), (Nat.le_of_ble_eq_true rfl)⟩) ⟨fbR, va_recv hK hP (ci := 8) (q0 := 0) rfl rfl, pR_in hP hK⟩ rfl rfl hl.1 rfl (lv_room (Nat.le_of_ble_eq_true rfl)) dX9_gladBy_41 ⟨(Nat.le_of_ble_eq_true rfl), (Nat.le_of_ble_eq_true rfl)⟩) hS (fun q hq h => absurd hq (Nat.not_lt.mpr h)) (fun q h => hA q (Nat.le_trans hS.1 h)) (fun r_15 u_ t_ H14 locs ht hvm hw hB hz1 hk1 hS => ?_)
    subst hw
    have hP := wk hP hk1
    refine lv_aload_n hx hb dX9_gladBy_44 rfl (lv_at hl 0 rfl) ?_
    refine lv_iload_n hx hb dX9_gladBy_45 rfl (lv_at hl 1 rfl) ?_
    refine lv_iload_n hx hb dX9_gladBy_46 rfl (lv_at hl 2 rfl) ?_
    refine va_calli (va_runV (As := [.int p0, .int p1]) (rest := [.int r_15]) ⟨hx, hb, hml, hown, hG⟩ (kX9_turnOf l dC dI r ct i_taped i_size i_faultKind i_at i_end i_token i_number i_bank i_rb i_codes i_within i_piled i_unitsInRule p0 p1 i_acts i_undone i_laid i_knowns i_time f_text f_tunes f_houses f_hums f_told f_many f_ruleFrom f_ruleTo f_code f_eWhat f_eSign f_all f_kept f_was f_sTune f_boxAll J6 L p0 p1 H14.size hI (ob_288 hp0 hp1) (ob_314 f2 hp0 hp1) (ob_288 hp2 hp3) (ob_289 f1 hp2 hp3)) (cwV 2 hG (goodV gw1586 gw1588 gw100 gw138 gw1589) rfl rfl rfl hd_X9_turnOf ⟨(Nat.le_of_ble_eq_true rfl), (Nat.le_of_ble_eq_true rfl)⟩) ⟨fbR, va_recv hK hP (ci := 8) (q0 := 0) rfl rfl, pR_in hP hK⟩ rfl rfl hl.1 rfl (lv_room (Nat.le_of_ble_eq_true rfl)) dX9_gladBy_47 ⟨(Nat.le_of_ble_eq_true rfl), (Nat.le_of_ble_eq_true rfl)⟩) hS (fun q hq h => absurd hq (Nat.not_lt.mpr h)) (fun q h => hA q (Nat.le_trans hS.1 h)) (fun r_17 u_ t_ H16 locs ht hvm hw hB hz1 hk1 hS => ?_)
    subst hw
    have hP := wk hP hk1
    obtain ⟨f18, f19, f20⟩ := hB
    refine lv_iconst (v := 3) hx hb dX9_gladBy_50 (by decide) ?_
    refine lv_imul hx hb dX9_gladBy_51 ?_
    refine lv_topi (fun x21 ex21 => ?_)
    have f22 : x21.toInt = 3 * r_17.toInt := (ob_525 (qi_mul ex21 rfl zc_3 (ob_523 f19 f20) (ob_524 f19 f20)))
    refine lv_iadd hx hb dX9_gladBy_52 ?_
    refine lv_topi (fun x23 ex23 => ?_)
    refine lv_aload_n hx hb dX9_gladBy_53 rfl (lv_at hl 0 rfl) ?_
    refine gM_X9_88_0 hx hb hG hown hK hP dX9_gladBy_54 ?_
    refine lv_bipush (v := 10) hx hb dX9_gladBy_57 (by decide) ?_
    refine lv_iload_n hx hb dX9_gladBy_59 rfl (lv_at hl 2 rfl) ?_
    refine lv_iadd hx hb dX9_gladBy_60 ?_
    refine lv_topi (fun x24 ex24 => ?_)
    have f25 : x24.toInt = p1.toInt + 10 := (ob_267 (qi_add ex24 zc_10 rfl (ob_265 hp2 hp3) (ob_342 f1 hp2 hp3)))
    refine ldM_25 (mm := p1.toInt + 10) hx hb hK hP f25 (ob_268 hp2 hp3) (ob_343 f1 hp2 hp3) dX9_gladBy_61 ?_
    have f26 : 0 ≤ (f_all (p1.toInt + 10).toNat).toInt ∧ (f_all (p1.toInt + 10).toNat).toInt ≤ 99 := im26 (p1.toInt + 10) (ob_268 hp2 hp3) (ob_344 f1 hp2 hp3) (ob_345 f1 hp2 hp3)
    refine lv_isub hx hb dX9_gladBy_62 ?_
    refine lv_topi (fun x27 ex27 => ?_)
    refine lv_istore (lv' := [(4, .int x27), (0, .ref (r 0)), (1, .int p0), (2, .int p1), (3, .int p2)]) hx hb dX9_gladBy_63 hl (by decide) rfl (fun ls hl => ?_)
    refine lv_iload hx hb dX9_gladBy_65 (lv_at hl 0 rfl) ?_
    refine lv_sipush (v := (-9999)) hx hb dX9_gladBy_67 (by decide) ?_
    refine lv_sipush (v := 9999) hx hb dX9_gladBy_70 (by decide) ?_
    refine va_calli (va_runS (As := [.int x27, .int (-9999), .int 9999]) (rest := []) ⟨hx, hb, hml, hown, hG⟩ (kX9_held l dC dI x27 (-9999) 9999 H16.size) (va_cwS 3 hG (goodS gw1527 gw1528 gw138 gw1529) rfl rfl rfl hd_X9_held ⟨(Nat.le_of_ble_eq_true rfl), (Nat.le_of_ble_eq_true rfl)⟩) ⟨fbR, pR_in emptyP (emptyK hK)⟩ rfl rfl hl.1 rfl (lv_room (Nat.le_of_ble_eq_true rfl)) dX9_gladBy_73 ⟨(Nat.le_of_ble_eq_true rfl), (Nat.le_of_ble_eq_true rfl)⟩) hS (fun q hq h => absurd hq (Nat.not_lt.mpr h)) (fun q h => hA q (Nat.le_trans hS.1 h)) (fun r_29 u_ t_ H28 locs ht hvm hw hB hz1 hk1 hS => ?_)
    subst hw
    have hP := wk hP hk1
    have f30 := hB
    rw [hQ]
    exact W.iret (v := r_29) hx hb hr (fun t ht hW => ⟨⟨r_29, r_29, rfl, rfl, ⟨p0, p1, J6, by rw [ht]; exact hP, hD, hI, (ob_526)⟩⟩, hS.F ht⟩) hS.2.2 dX9_gladBy_76
  · skip
    have f31 : r_8.toInt ≠ 0 := qi_ne c_12 rfl zc_0
    have f32 : 1 ≤ r_8.toInt := (ob_100 f9 f10 f31)
    refine lv_aload_n hx hb dX9_gladBy_31 rfl (lv_at hl 0 rfl) ?_
    have hFc := frA hD hS hA
    refine va_calli (va_runV (As := []) (rest := []) ⟨hx, hb, hml, hown, hG⟩ (kX9_comes l dC dI r ct i_taped i_size i_faultKind i_at i_end i_token i_number i_bank i_rb i_codes i_within i_piled i_unitsInRule p0 p1 i_acts i_undone i_laid i_knowns i_time f_text f_tunes f_houses f_hums f_told f_many f_ruleFrom f_ruleTo f_code f_eWhat f_eSign f_all f_kept f_was f_sTune f_boxAll J6 L H7.size hI (ob_288 hp0 hp1) (ob_314 f2 hp0 hp1) (ob_288 hp2 hp3) (ob_289 f1 hp2 hp3) (im31 (f11 (ob_105 f9 f10 f32))).2.2) (cwV 0 hG (goodV gw1570 gw1572 gw96 gw138 gw1573) rfl rfl rfl hd_X9_comes ⟨(Nat.le_of_ble_eq_true rfl), (Nat.le_of_ble_eq_true rfl)⟩) ⟨fbW, va_recv hK hP (ci := 8) (q0 := 0) rfl rfl, pW_in hP hK hD⟩ rfl rfl hl.1 rfl (lv_room (Nat.le_of_ble_eq_true rfl)) dX9_gladBy_32 ⟨(Nat.le_of_ble_eq_true rfl), (Nat.le_of_ble_eq_true rfl)⟩) hS (fun q _ h => hFc q h) hFc (fun r_34 u_ t_ H33 locs ht hvm hw hB hz1 hk1 hS => ?_)
    subst hw
    obtain ⟨J35, hP1, hD1, hI36⟩ := hB
    rw [ht] at hP1
    have hP := hP1
    have hD := dW hFc hD1
    obtain ⟨im37, im38, im39, im40, im41, im42, im43, im44, im45, im46, im47, im48, im49, im50, im51, im52, im53, im54, im55, im56, im57, im58, im59, im60, im61, im62, im63, im64, im65, im66, im67, im68⟩ := id hI36
    refine lv_goto (tgt := 63) hx hb dX9_gladBy_35 (by decide) ?_
    refine lv_istore (lv' := [(4, .int r_34), (0, .ref (r 0)), (1, .int p0), (2, .int p1), (3, .int p2)]) hx hb dX9_gladBy_63 hl (by decide) rfl (fun ls hl => ?_)
    refine lv_iload hx hb dX9_gladBy_65 (lv_at hl 0 rfl) ?_
    refine lv_sipush (v := (-9999)) hx hb dX9_gladBy_67 (by decide) ?_
    refine lv_sipush (v := 9999) hx hb dX9_gladBy_70 (by decide) ?_
    refine va_calli (va_runS (As := [.int r_34, .int (-9999), .int 9999]) (rest := []) ⟨hx, hb, hml, hown, hG⟩ (kX9_held l dC dI r_34 (-9999) 9999 H33.size) (va_cwS 3 hG (goodS gw1527 gw1528 gw138 gw1529) rfl rfl rfl hd_X9_held ⟨(Nat.le_of_ble_eq_true rfl), (Nat.le_of_ble_eq_true rfl)⟩) ⟨fbR, pR_in emptyP (emptyK hK)⟩ rfl rfl hl.1 rfl (lv_room (Nat.le_of_ble_eq_true rfl)) dX9_gladBy_73 ⟨(Nat.le_of_ble_eq_true rfl), (Nat.le_of_ble_eq_true rfl)⟩) hS (fun q hq h => absurd hq (Nat.not_lt.mpr h)) (fun q h => hA q (Nat.le_trans hS.1 h)) (fun r_70 u_ t_ H69 locs ht hvm hw hB hz1 hk1 hS => ?_)
    subst hw
    have hP := wk hP hk1
    have f71 := hB
    rw [hQ]
    exact W.iret (v := r_70) hx hb hr (fun t ht hW => ⟨⟨r_70, r_70, rfl, rfl, ⟨p0, p1, J35, by rw [ht]; exact hP, hD, hI36, (ob_526)⟩⟩, hS.F ht⟩) hS.2.2 dX9_gladBy_76
set_option maxHeartbeats 4000000 in
set_option maxRecDepth 100000 in
theorem kX9_gladNow (l : Launch) (dC : Nat → ClassId) (dI : Nat → Nat → Nat) (r : Nat → Nat) (ct : Nat → ClassId) (i_taped i_size i_faultKind i_at i_end i_token i_number i_bank i_rb i_codes i_within i_piled i_unitsInRule i_askHouse i_askTune i_acts i_undone i_laid i_knowns i_time : Int32) (f_text f_tunes f_houses f_hums f_told f_many f_ruleFrom f_ruleTo f_code f_eWhat f_eSign f_all f_kept f_was f_sTune f_boxAll : Nat → Int32) (J : Nat → Nat → Int32) (L : Nat → Nat → Int64) (p0 p1 : Int32) (sz : Nat) (hI : (IM i_taped i_size i_faultKind i_at i_end i_bank i_rb i_acts i_undone i_laid i_knowns i_time f_tunes f_houses f_hums f_told f_many f_ruleFrom f_ruleTo f_code f_all f_kept f_was f_sTune f_boxAll)) (hp0 : 0 ≤ p0.toInt) (hp1 : p0.toInt + 1 ≤ (f_houses (i_bank.toInt).toNat).toInt) (hp2 : 0 ≤ p1.toInt) (hp3 : p1.toInt + 1 ≤ (f_tunes (i_bank.toInt).toNat).toInt) : Met l yX9_gladNow (.code yX9_gladNow cX9_gladNow 3 (some .int) :: GW) { frames := 20, cells := 0, slots := 0, locals := 667 } (va_Pc [.ref (r 0), .int p0, .int p1] (pW (dC, dI) (WM r ct i_taped i_size i_faultKind i_at i_end i_token i_number i_bank i_rb i_codes i_within i_piled i_unitsInRule i_askHouse i_askTune i_acts i_undone i_laid i_knowns i_time f_text f_tunes f_houses f_hums f_told f_many f_ruleFrom f_ruleTo f_code f_eWhat f_eSign f_all f_kept f_was f_sTune f_boxAll J L) (TM ct) sz)) (va_Qi (fun (r0 : Int32) (u : Int32) => r0 = u) (fun (u : Int32) (t : State) => ∃ (n_i_askHouse n_i_askTune : Int32) (n_J : Nat → Nat → Int32), va_P (dC, dI) vwCl (WM r ct i_taped i_size i_faultKind i_at i_end i_token i_number i_bank i_rb i_codes i_within i_piled i_unitsInRule n_i_askHouse n_i_askTune i_acts i_undone i_laid i_knowns i_time f_text f_tunes f_houses f_hums f_told f_many f_ruleFrom f_ruleTo f_code f_eWhat f_eSign f_all f_kept f_was f_sTune f_boxAll n_J L) t.heap ∧ va_D (va_A (WM r ct i_taped i_size i_faultKind i_at i_end i_token i_number i_bank i_rb i_codes i_within i_piled i_unitsInRule i_askHouse i_askTune i_acts i_undone i_laid i_knowns i_time f_text f_tunes f_houses f_hums f_told f_many f_ruleFrom f_ruleTo f_code f_eWhat f_eSign f_all f_kept f_was f_sTune f_boxAll J L) sz) (WM r ct i_taped i_size i_faultKind i_at i_end i_token i_number i_bank i_rb i_codes i_within i_piled i_unitsInRule n_i_askHouse n_i_askTune i_acts i_undone i_laid i_knowns i_time f_text f_tunes f_houses f_hums f_told f_many f_ruleFrom f_ruleTo f_code f_eWhat f_eSign f_all f_kept f_was f_sTune f_boxAll n_J L) ∧ (IM i_taped i_size i_faultKind i_at i_end i_bank i_rb i_acts i_undone i_laid i_knowns i_time f_tunes f_houses f_hums f_told f_many f_ruleFrom f_ruleTo f_code f_all f_kept f_was f_sTune f_boxAll) ∧ ((True))) (va_A (WM r ct i_taped i_size i_faultKind i_at i_end i_token i_number i_bank i_rb i_codes i_within i_piled i_unitsInRule i_askHouse i_askTune i_acts i_undone i_laid i_knowns i_time f_text f_tunes f_houses f_hums f_told f_many f_ruleFrom f_ruleTo f_code f_eWhat f_eSign f_all f_kept f_was f_sTune f_boxAll J L) sz)) 0 0 (va_A (WM r ct i_taped i_size i_faultKind i_at i_end i_token i_number i_bank i_rb i_codes i_within i_piled i_unitsInRule i_askHouse i_askTune i_acts i_undone i_laid i_knowns i_time f_text f_tunes f_houses f_hums f_told f_many f_ruleFrom f_ruleTo f_code f_eWhat f_eSign f_all f_kept f_was f_sTune f_boxAll J L) sz) := by
  refine Met.ofW (cc := cX9_gladNow) (maxL := 3) (ret := (some .int)) (by decide) rfl ?_
  intro p e s m args below meth c0 s₁ B hml hv
  obtain ⟨rfl, hsz, hP, hK, hD0⟩ := hv
  have hx := B.exec
  have hb := B.bytes
  have hr := B.returns
  have hts := atoms_spec (ws := .code yX9_gladNow cX9_gladNow 3 (some .int) :: GW) B.pre
  have hG : ∀ w ∈ GW, w.before _ s = true := fun w h => hts w (List.mem_cons_of_mem _ h)
  have hown : s.vm.findClass RX9 = some m.cls := findClass_of_methodNamed B.named
  subst hsz
  have hD := hD0.self (sz := s.heap.size)
  generalize hAe : va_A (WM r ct i_taped i_size i_faultKind i_at i_end i_token i_number i_bank i_rb i_codes i_within i_piled i_unitsInRule i_askHouse i_askTune i_acts i_undone i_laid i_knowns i_time f_text f_tunes f_houses f_hums f_told f_many f_ruleFrom f_ruleTo f_code f_eWhat f_eSign f_all f_kept f_was f_sTune f_boxAll J L) s.heap.size = A at hD ⊢
  have hA : ∀ q : Nat, s.heap.size ≤ q → A q := fun q h => by rw [← hAe]; exact Or.inr h
  have hS : va_S A s.heap s.heap [] := va_S.rf
  have hP : va_P (dC, dI) vwCl (WM r ct i_taped i_size i_faultKind i_at i_end i_token i_number i_bank i_rb i_codes i_within i_piled i_unitsInRule i_askHouse i_askTune i_acts i_undone i_laid i_knowns i_time f_text f_tunes f_houses f_hums f_told f_many f_ruleFrom f_ruleTo f_code f_eWhat f_eSign f_all f_kept f_was f_sTune f_boxAll J L) s.heap := hP
  have hl := lv_entry ([.ref (r 0), .int p0, .int p1]) (n := 3) (Nat.le_of_ble_eq_true rfl)
  rw [lg_entry_eq]
  generalize (lg_sl ([.ref (r 0), .int p0, .int p1]) ++ List.replicate (3 - (lg_sl ([.ref (r 0), .int p0, .int p1])).length) Slot.unset).toArray = ls at hl ⊢
  have hl : lv_has ls 3 [(0, .ref (r 0)), (1, .int p0), (2, .int p1)] := hl
  refine nameQ (fun Q hQ => ?_)
  obtain ⟨im0, im1, im2, im3, im4, im5, im6, im7, im8, im9, im10, im11, im12, im13, im14, im15, im16, im17, im18, im19, im20, im21, im22, im23, im24, im25, im26, im27, im28, im29, im30, im31⟩ := id hI
  have f1 : 0 ≤ (f_tunes (i_bank.toInt).toNat).toInt ∧ (f_tunes (i_bank.toInt).toNat).toInt ≤ 5 := im21 (i_bank.toInt)
  have f2 : 0 ≤ (f_houses (i_bank.toInt).toNat).toInt ∧ (f_houses (i_bank.toInt).toNat).toInt ≤ 4 := im22 (i_bank.toInt)
  refine lv_aload_n hx hb dX9_gladNow_0 rfl (lv_at hl 0 rfl) ?_
  refine lv_iload_n hx hb dX9_gladNow_1 rfl (lv_at hl 1 rfl) ?_
  refine lv_iload_n hx hb dX9_gladNow_2 rfl (lv_at hl 2 rfl) ?_
  refine lv_aload_n hx hb dX9_gladNow_3 rfl (lv_at hl 0 rfl) ?_
  refine lv_iload_n hx hb dX9_gladNow_4 rfl (lv_at hl 1 rfl) ?_
  refine va_calli (va_runV (As := [.int p0]) (rest := [.int p1, .int p0, .ref (r 0)]) ⟨hx, hb, hml, hown, hG⟩ (kX9_triedBy l dC dI r ct i_taped i_size i_faultKind i_at i_end i_token i_number i_bank i_rb i_codes i_within i_piled i_unitsInRule i_askHouse i_askTune i_acts i_undone i_laid i_knowns i_time f_text f_tunes f_houses f_hums f_told f_many f_ruleFrom f_ruleTo f_code f_eWhat f_eSign f_all f_kept f_was f_sTune f_boxAll J L p0 s.heap.size hI) (cwV 1 hG (goodV gw1550 gw1552 gw92 gw138 gw1553) rfl rfl rfl hd_X9_triedBy ⟨(Nat.le_of_ble_eq_true rfl), (Nat.le_of_ble_eq_true rfl)⟩) ⟨fbR, va_recv hK hP (ci := 8) (q0 := 0) rfl rfl, pR_in hP hK⟩ rfl rfl hl.1 rfl (lv_room (Nat.le_of_ble_eq_true rfl)) dX9_gladNow_5 ⟨(Nat.le_of_ble_eq_true rfl), (Nat.le_of_ble_eq_true rfl)⟩) hS (fun q hq h => absurd hq (Nat.not_lt.mpr h)) (fun q h => hA q (Nat.le_trans hS.1 h)) (fun r_4 u_ t_ H3 locs ht hvm hw hB hz1 hk1 hS => ?_)
  subst hw
  have hP := wk hP hk1
  obtain ⟨f5, f6, f7⟩ := hB
  have f8 : r_4.toInt = (trb f_all p0.toInt (f_tunes (i_bank.toInt).toNat).toInt (6 - (0 : Int32).toInt).toNat (0 : Int32).toInt) := (ob_6 f7)
  refine lv_iload_n hx hb dX9_gladNow_8 rfl (lv_at hl 2 rfl) ?_
  refine lv_icmp_ne (tgt := 24) hx hb dX9_gladNow_9 (by decide) (fun c_9 => ?_) (fun c_9 => ?_)
  · skip
    have f10 : r_4.toInt ≠ p1.toInt := qi_ne c_9 rfl rfl
    refine lv_iconst (v := 0) hx hb dX9_gladNow_24 (by decide) ?_
    have hFc := frA hD hS hA
    refine va_calli (va_runV (As := [.int p0, .int p1, .int 0]) (rest := []) ⟨hx, hb, hml, hown, hG⟩ (kX9_gladBy l dC dI r ct i_taped i_size i_faultKind i_at i_end i_token i_number i_bank i_rb i_codes i_within i_piled i_unitsInRule i_askHouse i_askTune i_acts i_undone i_laid i_knowns i_time f_text f_tunes f_houses f_hums f_told f_many f_ruleFrom f_ruleTo f_code f_eWhat f_eSign f_all f_kept f_was f_sTune f_boxAll J L p0 p1 0 H3.size hI (ob_288 hp0 hp1) (ob_314 f2 hp0 hp1) (ob_288 hp2 hp3) (ob_527 hp3)) (cwV 3 hG (goodV gw1566 gw1568 gw95 gw138 gw1569) rfl rfl rfl hd_X9_gladBy ⟨(Nat.le_of_ble_eq_true rfl), (Nat.le_of_ble_eq_true rfl)⟩) ⟨fbW, va_recv hK hP (ci := 8) (q0 := 0) rfl rfl, pW_in hP hK hD⟩ rfl rfl hl.1 rfl (lv_room (Nat.le_of_ble_eq_true rfl)) dX9_gladNow_25 ⟨(Nat.le_of_ble_eq_true rfl), (Nat.le_of_ble_eq_true rfl)⟩) hS (fun q _ h => hFc q h) hFc (fun r_12 u_ t_ H11 locs ht hvm hw hB hz1 hk1 hS => ?_)
    subst hw
    obtain ⟨x13, x14, J15, hP1, hD1, hI17, f16⟩ := hB
    rw [ht] at hP1
    have hP := hP1
    have hD := dW hFc hD1
    obtain ⟨im18, im19, im20, im21, im22, im23, im24, im25, im26, im27, im28, im29, im30, im31, im32, im33, im34, im35, im36, im37, im38, im39, im40, im41, im42, im43, im44, im45, im46, im47, im48, im49⟩ := id hI17
    rw [hQ]
    exact W.iret (v := r_12) hx hb hr (fun t ht hW => ⟨⟨r_12, r_12, rfl, rfl, ⟨x13, x14, J15, by rw [ht]; exact hP, hD, hI17, (ob_526)⟩⟩, hS.F ht⟩) hS.2.2 dX9_gladNow_28
  · skip
    have f50 : r_4.toInt = p1.toInt := qi_eq c_9 rfl rfl
    refine lv_aload_n hx hb dX9_gladNow_12 rfl (lv_at hl 0 rfl) ?_
    refine gM_X9_88_0 hx hb hG hown hK hP dX9_gladNow_13 ?_
    refine lv_bipush (v := 15) hx hb dX9_gladNow_16 (by decide) ?_
    refine lv_iload_n hx hb dX9_gladNow_18 rfl (lv_at hl 2 rfl) ?_
    refine lv_iadd hx hb dX9_gladNow_19 ?_
    refine lv_topi (fun x51 ex51 => ?_)
    have f52 : x51.toInt = p1.toInt + 15 := (ob_530 (qi_add ex51 zc_15 rfl (ob_528 hp2 hp3 f50 f8) (ob_529 f1 hp3)))
    refine ldM_25 (mm := p1.toInt + 15) hx hb hK hP f52 (ob_531 hp2 hp3 f50 f8) (ob_532 f1 hp3) dX9_gladNow_20 ?_
    refine lv_goto (tgt := 25) hx hb dX9_gladNow_21 (by decide) ?_
    have hFc := frA hD hS hA
    refine va_calli (va_runV (As := [.int p0, .int p1, .int (f_all (p1.toInt + 15).toNat)]) (rest := []) ⟨hx, hb, hml, hown, hG⟩ (kX9_gladBy l dC dI r ct i_taped i_size i_faultKind i_at i_end i_token i_number i_bank i_rb i_codes i_within i_piled i_unitsInRule i_askHouse i_askTune i_acts i_undone i_laid i_knowns i_time f_text f_tunes f_houses f_hums f_told f_many f_ruleFrom f_ruleTo f_code f_eWhat f_eSign f_all f_kept f_was f_sTune f_boxAll J L p0 p1 (f_all (p1.toInt + 15).toNat) H3.size hI (ob_288 hp0 hp1) (ob_314 f2 hp0 hp1) (ob_533 hp2 hp3 f50 f8) (ob_527 hp3)) (cwV 3 hG (goodV gw1566 gw1568 gw95 gw138 gw1569) rfl rfl rfl hd_X9_gladBy ⟨(Nat.le_of_ble_eq_true rfl), (Nat.le_of_ble_eq_true rfl)⟩) ⟨fbW, va_recv hK hP (ci := 8) (q0 := 0) rfl rfl, pW_in hP hK hD⟩ rfl rfl hl.1 rfl (lv_room (Nat.le_of_ble_eq_true rfl)) dX9_gladNow_25 ⟨(Nat.le_of_ble_eq_true rfl), (Nat.le_of_ble_eq_true rfl)⟩) hS (fun q _ h => hFc q h) hFc (fun r_54 u_ t_ H53 locs ht hvm hw hB hz1 hk1 hS => ?_)
    subst hw
    obtain ⟨x55, x56, J57, hP1, hD1, hI59, f58⟩ := hB
    rw [ht] at hP1
    have hP := hP1
    have hD := dW hFc hD1
    obtain ⟨im60, im61, im62, im63, im64, im65, im66, im67, im68, im69, im70, im71, im72, im73, im74, im75, im76, im77, im78, im79, im80, im81, im82, im83, im84, im85, im86, im87, im88, im89, im90, im91⟩ := id hI59
    rw [hQ]
    exact W.iret (v := r_54) hx hb hr (fun t ht hW => ⟨⟨r_54, r_54, rfl, rfl, ⟨x55, x56, J57, by rw [ht]; exact hP, hD, hI59, (ob_526)⟩⟩, hS.F ht⟩) hS.2.2 dX9_gladNow_28
set_option maxHeartbeats 4000000 in
set_option maxRecDepth 100000 in
theorem kX9_doesTake (l : Launch) (dC : Nat → ClassId) (dI : Nat → Nat → Nat) (r : Nat → Nat) (ct : Nat → ClassId) (i_taped i_size i_faultKind i_at i_end i_token i_number i_bank i_rb i_codes i_within i_piled i_unitsInRule i_askHouse i_askTune i_acts i_undone i_laid i_knowns i_time : Int32) (f_text f_tunes f_houses f_hums f_told f_many f_ruleFrom f_ruleTo f_code f_eWhat f_eSign f_all f_kept f_was f_sTune f_boxAll : Nat → Int32) (J : Nat → Nat → Int32) (L : Nat → Nat → Int64) (p0 p1 : Int32) (sz : Nat) (hI : (IM i_taped i_size i_faultKind i_at i_end i_bank i_rb i_acts i_undone i_laid i_knowns i_time f_tunes f_houses f_hums f_told f_many f_ruleFrom f_ruleTo f_code f_all f_kept f_was f_sTune f_boxAll)) (hp0 : 0 ≤ p0.toInt) (hp1 : p0.toInt + 1 ≤ (f_houses (i_bank.toInt).toNat).toInt) (hp2 : 0 ≤ p1.toInt) (hp3 : p1.toInt + 1 ≤ (f_tunes (i_bank.toInt).toNat).toInt) : Met l yX9_doesTake (.code yX9_doesTake cX9_doesTake 3 (some .boolean) :: GW) { frames := 20, cells := 0, slots := 0, locals := 667 } (va_Pc [.ref (r 0), .int p0, .int p1] (pW (dC, dI) (WM r ct i_taped i_size i_faultKind i_at i_end i_token i_number i_bank i_rb i_codes i_within i_piled i_unitsInRule i_askHouse i_askTune i_acts i_undone i_laid i_knowns i_time f_text f_tunes f_houses f_hums f_told f_many f_ruleFrom f_ruleTo f_code f_eWhat f_eSign f_all f_kept f_was f_sTune f_boxAll J L) (TM ct) sz)) (va_Qi (fun (r0 : Int32) (u : Int32) => r0 = u) (fun (u : Int32) (t : State) => ∃ (n_i_askHouse n_i_askTune : Int32) (n_J : Nat → Nat → Int32), va_P (dC, dI) vwCl (WM r ct i_taped i_size i_faultKind i_at i_end i_token i_number i_bank i_rb i_codes i_within i_piled i_unitsInRule n_i_askHouse n_i_askTune i_acts i_undone i_laid i_knowns i_time f_text f_tunes f_houses f_hums f_told f_many f_ruleFrom f_ruleTo f_code f_eWhat f_eSign f_all f_kept f_was f_sTune f_boxAll n_J L) t.heap ∧ va_D (va_A (WM r ct i_taped i_size i_faultKind i_at i_end i_token i_number i_bank i_rb i_codes i_within i_piled i_unitsInRule i_askHouse i_askTune i_acts i_undone i_laid i_knowns i_time f_text f_tunes f_houses f_hums f_told f_many f_ruleFrom f_ruleTo f_code f_eWhat f_eSign f_all f_kept f_was f_sTune f_boxAll J L) sz) (WM r ct i_taped i_size i_faultKind i_at i_end i_token i_number i_bank i_rb i_codes i_within i_piled i_unitsInRule n_i_askHouse n_i_askTune i_acts i_undone i_laid i_knowns i_time f_text f_tunes f_houses f_hums f_told f_many f_ruleFrom f_ruleTo f_code f_eWhat f_eSign f_all f_kept f_was f_sTune f_boxAll n_J L) ∧ (IM i_taped i_size i_faultKind i_at i_end i_bank i_rb i_acts i_undone i_laid i_knowns i_time f_tunes f_houses f_hums f_told f_many f_ruleFrom f_ruleTo f_code f_all f_kept f_was f_sTune f_boxAll) ∧ (((u.toInt = 0)) ∨ ((u.toInt = 1))) ∧ (0 ≤ u.toInt) ∧ (u.toInt ≤ 1)) (va_A (WM r ct i_taped i_size i_faultKind i_at i_end i_token i_number i_bank i_rb i_codes i_within i_piled i_unitsInRule i_askHouse i_askTune i_acts i_undone i_laid i_knowns i_time f_text f_tunes f_houses f_hums f_told f_many f_ruleFrom f_ruleTo f_code f_eWhat f_eSign f_all f_kept f_was f_sTune f_boxAll J L) sz)) 0 0 (va_A (WM r ct i_taped i_size i_faultKind i_at i_end i_token i_number i_bank i_rb i_codes i_within i_piled i_unitsInRule i_askHouse i_askTune i_acts i_undone i_laid i_knowns i_time f_text f_tunes f_houses f_hums f_told f_many f_ruleFrom f_ruleTo f_code f_eWhat f_eSign f_all f_kept f_was f_sTune f_boxAll J L) sz) := by
  refine Met.ofW (cc := cX9_doesTake) (maxL := 3) (ret := (some .boolean)) (by decide) rfl ?_
  intro p e s m args below meth c0 s₁ B hml hv
  obtain ⟨rfl, hsz, hP, hK, hD0⟩ := hv
  have hx := B.exec
  have hb := B.bytes
  have hr := B.returns
  have hts := atoms_spec (ws := .code yX9_doesTake cX9_doesTake 3 (some .boolean) :: GW) B.pre
  have hG : ∀ w ∈ GW, w.before _ s = true := fun w h => hts w (List.mem_cons_of_mem _ h)
  have hown : s.vm.findClass RX9 = some m.cls := findClass_of_methodNamed B.named
  subst hsz
  have hD := hD0.self (sz := s.heap.size)
  generalize hAe : va_A (WM r ct i_taped i_size i_faultKind i_at i_end i_token i_number i_bank i_rb i_codes i_within i_piled i_unitsInRule i_askHouse i_askTune i_acts i_undone i_laid i_knowns i_time f_text f_tunes f_houses f_hums f_told f_many f_ruleFrom f_ruleTo f_code f_eWhat f_eSign f_all f_kept f_was f_sTune f_boxAll J L) s.heap.size = A at hD ⊢
  have hA : ∀ q : Nat, s.heap.size ≤ q → A q := fun q h => by rw [← hAe]; exact Or.inr h
  have hS : va_S A s.heap s.heap [] := va_S.rf
  have hP : va_P (dC, dI) vwCl (WM r ct i_taped i_size i_faultKind i_at i_end i_token i_number i_bank i_rb i_codes i_within i_piled i_unitsInRule i_askHouse i_askTune i_acts i_undone i_laid i_knowns i_time f_text f_tunes f_houses f_hums f_told f_many f_ruleFrom f_ruleTo f_code f_eWhat f_eSign f_all f_kept f_was f_sTune f_boxAll J L) s.heap := hP
  have hl := lv_entry ([.ref (r 0), .int p0, .int p1]) (n := 3) (Nat.le_of_ble_eq_true rfl)
  rw [lg_entry_eq]
  generalize (lg_sl ([.ref (r 0), .int p0, .int p1]) ++ List.replicate (3 - (lg_sl ([.ref (r 0), .int p0, .int p1])).length) Slot.unset).toArray = ls at hl ⊢
  have hl : lv_has ls 3 [(0, .ref (r 0)), (1, .int p0), (2, .int p1)] := hl
  refine nameQ (fun Q hQ => ?_)
  obtain ⟨im0, im1, im2, im3, im4, im5, im6, im7, im8, im9, im10, im11, im12, im13, im14, im15, im16, im17, im18, im19, im20, im21, im22, im23, im24, im25, im26, im27, im28, im29, im30, im31⟩ := id hI
  have f1 : 0 ≤ (f_tunes (i_bank.toInt).toNat).toInt ∧ (f_tunes (i_bank.toInt).toNat).toInt ≤ 5 := im21 (i_bank.toInt)
  have f2 : 0 ≤ (f_houses (i_bank.toInt).toNat).toInt ∧ (f_houses (i_bank.toInt).toNat).toInt ≤ 4 := im22 (i_bank.toInt)
  refine lv_aload_n hx hb dX9_doesTake_0 rfl (lv_at hl 0 rfl) ?_
  refine gM_X9_88_0 hx hb hG hown hK hP dX9_doesTake_1 ?_
  refine lv_bipush (v := 20) hx hb dX9_doesTake_4 (by decide) ?_
  refine lv_iload_n hx hb dX9_doesTake_6 rfl (lv_at hl 1 rfl) ?_
  refine lv_iadd hx hb dX9_doesTake_7 ?_
  refine lv_topi (fun x3 ex3 => ?_)
  have f4 : x3.toInt = p0.toInt + 20 := (ob_348 (qi_add ex3 zc_20 rfl (ob_346 hp0 hp1) (ob_347 f2 hp0 hp1)))
  refine ldM_25 (mm := p0.toInt + 20) hx hb hK hP f4 (ob_349 hp0 hp1) (ob_350 f2 hp0 hp1) dX9_doesTake_8 ?_
  refine lv_aload_n hx hb dX9_doesTake_9 rfl (lv_at hl 0 rfl) ?_
  refine lv_iload_n hx hb dX9_doesTake_10 rfl (lv_at hl 2 rfl) ?_
  refine va_calli (va_runV (As := [.int p1]) (rest := [.int (f_all (p0.toInt + 20).toNat)]) ⟨hx, hb, hml, hown, hG⟩ (kX9_priceOf l dC dI r ct i_taped i_size i_faultKind i_at i_end i_token i_number i_bank i_rb i_codes i_within i_piled i_unitsInRule i_askHouse i_askTune i_acts i_undone i_laid i_knowns i_time f_text f_tunes f_houses f_hums f_told f_many f_ruleFrom f_ruleTo f_code f_eWhat f_eSign f_all f_kept f_was f_sTune f_boxAll J L p1 s.heap.size hI (ob_288 hp2 hp3) (ob_289 f1 hp2 hp3)) (cwV 1 hG (goodV gw1519 gw1521 gw87 gw138 gw1522) rfl rfl rfl hd_X9_priceOf ⟨(Nat.le_of_ble_eq_true rfl), (Nat.le_of_ble_eq_true rfl)⟩) ⟨fbR, va_recv hK hP (ci := 8) (q0 := 0) rfl rfl, pR_in hP hK⟩ rfl rfl hl.1 rfl (lv_room (Nat.le_of_ble_eq_true rfl)) dX9_doesTake_11 ⟨(Nat.le_of_ble_eq_true rfl), (Nat.le_of_ble_eq_true rfl)⟩) hS (fun q hq h => absurd hq (Nat.not_lt.mpr h)) (fun q h => hA q (Nat.le_trans hS.1 h)) (fun r_6 u_ t_ H5 locs ht hvm hw hB hz1 hk1 hS => ?_)
  subst hw
  have hP := wk hP hk1
  refine lv_icmp_lt (tgt := 39) hx hb dX9_doesTake_14 (by decide) (fun c_7 => ?_) (fun c_7 => ?_)
  · skip
    have f8 : (f_all (p0.toInt + 20).toNat).toInt < r_6.toInt := qi_lt c_7 rfl rfl
    refine lv_iconst (v := 0) hx hb dX9_doesTake_39 (by decide) ?_
    rw [hQ]
    exact W.zret (v := 0) hx hb hr (by decide) (fun t ht hW => ⟨⟨0, 0, rfl, rfl, ⟨i_askHouse, i_askTune, J, by rw [ht]; exact hP, hD, hI, (ob_324 zc_0), (ob_1 zc_0), (ob_11 zc_0)⟩⟩, hS.F ht⟩) hS.2.2 dX9_doesTake_40
  · skip
    have f9 : r_6.toInt ≤ (f_all (p0.toInt + 20).toNat).toInt := qi_nlt c_7 rfl rfl
    refine lv_aload_n hx hb dX9_doesTake_17 rfl (lv_at hl 0 rfl) ?_
    refine lv_iload_n hx hb dX9_doesTake_18 rfl (lv_at hl 1 rfl) ?_
    refine lv_iload_n hx hb dX9_doesTake_19 rfl (lv_at hl 2 rfl) ?_
    refine lv_aload_n hx hb dX9_doesTake_20 rfl (lv_at hl 0 rfl) ?_
    refine gM_X9_20_0 hx hb hG hown hK hP dX9_doesTake_21 ?_
    refine lv_aload_n hx hb dX9_doesTake_24 rfl (lv_at hl 0 rfl) ?_
    refine gM_X9_249_0 hx hb hG hown hK hP dX9_doesTake_25 ?_
    refine ldM_3 (mm := i_bank.toInt) hx hb hK hP rfl (ob_351 im4 im5) (ob_352 im4 im5) dX9_doesTake_28 (fun x10 => ?_)
    have hFc := frA hD hS hA
    refine va_calli (va_runV (As := [.int p0, .int p1, .int x10]) (rest := []) ⟨hx, hb, hml, hown, hG⟩ (kX9_gladBy l dC dI r ct i_taped i_size i_faultKind i_at i_end i_token i_number i_bank i_rb i_codes i_within i_piled i_unitsInRule i_askHouse i_askTune i_acts i_undone i_laid i_knowns i_time f_text f_tunes f_houses f_hums f_told f_many f_ruleFrom f_ruleTo f_code f_eWhat f_eSign f_all f_kept f_was f_sTune f_boxAll J L p0 p1 x10 H5.size hI (ob_288 hp0 hp1) (ob_314 f2 hp0 hp1) (ob_288 hp2 hp3) (ob_289 f1 hp2 hp3)) (cwV 3 hG (goodV gw1566 gw1568 gw95 gw138 gw1569) rfl rfl rfl hd_X9_gladBy ⟨(Nat.le_of_ble_eq_true rfl), (Nat.le_of_ble_eq_true rfl)⟩) ⟨fbW, va_recv hK hP (ci := 8) (q0 := 0) rfl rfl, pW_in hP hK hD⟩ rfl rfl hl.1 rfl (lv_room (Nat.le_of_ble_eq_true rfl)) dX9_doesTake_29 ⟨(Nat.le_of_ble_eq_true rfl), (Nat.le_of_ble_eq_true rfl)⟩) hS (fun q _ h => hFc q h) hFc (fun r_12 u_ t_ H11 locs ht hvm hw hB hz1 hk1 hS => ?_)
    subst hw
    obtain ⟨x13, x14, J15, hP1, hD1, hI17, f16⟩ := hB
    rw [ht] at hP1
    have hP := hP1
    have hD := dW hFc hD1
    obtain ⟨im18, im19, im20, im21, im22, im23, im24, im25, im26, im27, im28, im29, im30, im31, im32, im33, im34, im35, im36, im37, im38, im39, im40, im41, im42, im43, im44, im45, im46, im47, im48, im49⟩ := id hI17
    refine lv_if_le (tgt := 39) hx hb dX9_doesTake_32 (by decide) (fun c_50 => ?_) (fun c_50 => ?_)
    · skip
      have f51 : r_12.toInt ≤ 0 := qi_le c_50 rfl zc_0
      refine lv_iconst (v := 0) hx hb dX9_doesTake_39 (by decide) ?_
      rw [hQ]
      exact W.zret (v := 0) hx hb hr (by decide) (fun t ht hW => ⟨⟨0, 0, rfl, rfl, ⟨x13, x14, J15, by rw [ht]; exact hP, hD, hI17, (ob_324 zc_0), (ob_1 zc_0), (ob_11 zc_0)⟩⟩, hS.F ht⟩) hS.2.2 dX9_doesTake_40
    · skip
      have f52 : 0 < r_12.toInt := qi_nle c_50 rfl zc_0
      refine lv_iconst (v := 1) hx hb dX9_doesTake_35 (by decide) ?_
      refine lv_goto (tgt := 40) hx hb dX9_doesTake_36 (by decide) ?_
      rw [hQ]
      exact W.zret (v := 1) hx hb hr (by decide) (fun t ht hW => ⟨⟨1, 1, rfl, rfl, ⟨x13, x14, J15, by rw [ht]; exact hP, hD, hI17, (ob_332 zc_1), (ob_14 zc_1), (ob_15 zc_1)⟩⟩, hS.F ht⟩) hS.2.2 dX9_doesTake_40
set_option maxHeartbeats 4000000 in
set_option maxRecDepth 100000 in
theorem kX9_takenBy (l : Launch) (dC : Nat → ClassId) (dI : Nat → Nat → Nat) (r : Nat → Nat) (ct : Nat → ClassId) (i_taped i_size i_faultKind i_at i_end i_token i_number i_bank i_rb i_codes i_within i_piled i_unitsInRule i_askHouse i_askTune i_acts i_undone i_laid i_knowns i_time : Int32) (f_text f_tunes f_houses f_hums f_told f_many f_ruleFrom f_ruleTo f_code f_eWhat f_eSign f_all f_kept f_was f_sTune f_boxAll : Nat → Int32) (J : Nat → Nat → Int32) (L : Nat → Nat → Int64) (p0 : Int32) (sz : Nat) (hI : (IM i_taped i_size i_faultKind i_at i_end i_bank i_rb i_acts i_undone i_laid i_knowns i_time f_tunes f_houses f_hums f_told f_many f_ruleFrom f_ruleTo f_code f_all f_kept f_was f_sTune f_boxAll)) (hp0 : 0 ≤ p0.toInt) (hp1 : p0.toInt + 1 ≤ (f_houses (i_bank.toInt).toNat).toInt) : Met l yX9_takenBy (.code yX9_takenBy cX9_takenBy 4 (some .int) :: GW) { frames := 22, cells := 0, slots := 0, locals := 729 } (va_Pc [.ref (r 0), .int p0] (pW (dC, dI) (WM r ct i_taped i_size i_faultKind i_at i_end i_token i_number i_bank i_rb i_codes i_within i_piled i_unitsInRule i_askHouse i_askTune i_acts i_undone i_laid i_knowns i_time f_text f_tunes f_houses f_hums f_told f_many f_ruleFrom f_ruleTo f_code f_eWhat f_eSign f_all f_kept f_was f_sTune f_boxAll J L) (TM ct) sz)) (va_Qi (fun (r0 : Int32) (u : Int32) => r0 = u) (fun (u : Int32) (t : State) => ∃ (n_i_askHouse n_i_askTune : Int32) (n_J : Nat → Nat → Int32), va_P (dC, dI) vwCl (WM r ct i_taped i_size i_faultKind i_at i_end i_token i_number i_bank i_rb i_codes i_within i_piled i_unitsInRule n_i_askHouse n_i_askTune i_acts i_undone i_laid i_knowns i_time f_text f_tunes f_houses f_hums f_told f_many f_ruleFrom f_ruleTo f_code f_eWhat f_eSign f_all f_kept f_was f_sTune f_boxAll n_J L) t.heap ∧ va_D (va_A (WM r ct i_taped i_size i_faultKind i_at i_end i_token i_number i_bank i_rb i_codes i_within i_piled i_unitsInRule i_askHouse i_askTune i_acts i_undone i_laid i_knowns i_time f_text f_tunes f_houses f_hums f_told f_many f_ruleFrom f_ruleTo f_code f_eWhat f_eSign f_all f_kept f_was f_sTune f_boxAll J L) sz) (WM r ct i_taped i_size i_faultKind i_at i_end i_token i_number i_bank i_rb i_codes i_within i_piled i_unitsInRule n_i_askHouse n_i_askTune i_acts i_undone i_laid i_knowns i_time f_text f_tunes f_houses f_hums f_told f_many f_ruleFrom f_ruleTo f_code f_eWhat f_eSign f_all f_kept f_was f_sTune f_boxAll n_J L) ∧ (IM i_taped i_size i_faultKind i_at i_end i_bank i_rb i_acts i_undone i_laid i_knowns i_time f_tunes f_houses f_hums f_told f_many f_ruleFrom f_ruleTo f_code f_all f_kept f_was f_sTune f_boxAll)) (va_A (WM r ct i_taped i_size i_faultKind i_at i_end i_token i_number i_bank i_rb i_codes i_within i_piled i_unitsInRule i_askHouse i_askTune i_acts i_undone i_laid i_knowns i_time f_text f_tunes f_houses f_hums f_told f_many f_ruleFrom f_ruleTo f_code f_eWhat f_eSign f_all f_kept f_was f_sTune f_boxAll J L) sz)) 0 0 (va_A (WM r ct i_taped i_size i_faultKind i_at i_end i_token i_number i_bank i_rb i_codes i_within i_piled i_unitsInRule i_askHouse i_askTune i_acts i_undone i_laid i_knowns i_time f_text f_tunes f_houses f_hums f_told f_many f_ruleFrom f_ruleTo f_code f_eWhat f_eSign f_all f_kept f_was f_sTune f_boxAll J L) sz) := by
  refine Met.ofW (cc := cX9_takenBy) (maxL := 4) (ret := (some .int)) (by decide) rfl ?_
  intro p e s m args below meth c0 s₁ B hml hv
  obtain ⟨rfl, hsz, hP, hK, hD0⟩ := hv
  have hx := B.exec
  have hb := B.bytes
  have hr := B.returns
  have hts := atoms_spec (ws := .code yX9_takenBy cX9_takenBy 4 (some .int) :: GW) B.pre
  have hG : ∀ w ∈ GW, w.before _ s = true := fun w h => hts w (List.mem_cons_of_mem _ h)
  have hown : s.vm.findClass RX9 = some m.cls := findClass_of_methodNamed B.named
  subst hsz
  have hD := hD0.self (sz := s.heap.size)
  generalize hAe : va_A (WM r ct i_taped i_size i_faultKind i_at i_end i_token i_number i_bank i_rb i_codes i_within i_piled i_unitsInRule i_askHouse i_askTune i_acts i_undone i_laid i_knowns i_time f_text f_tunes f_houses f_hums f_told f_many f_ruleFrom f_ruleTo f_code f_eWhat f_eSign f_all f_kept f_was f_sTune f_boxAll J L) s.heap.size = A at hD ⊢
  have hA : ∀ q : Nat, s.heap.size ≤ q → A q := fun q h => by rw [← hAe]; exact Or.inr h
  have hS : va_S A s.heap s.heap [] := va_S.rf
  have hP : va_P (dC, dI) vwCl (WM r ct i_taped i_size i_faultKind i_at i_end i_token i_number i_bank i_rb i_codes i_within i_piled i_unitsInRule i_askHouse i_askTune i_acts i_undone i_laid i_knowns i_time f_text f_tunes f_houses f_hums f_told f_many f_ruleFrom f_ruleTo f_code f_eWhat f_eSign f_all f_kept f_was f_sTune f_boxAll J L) s.heap := hP
  have hl := lv_entry ([.ref (r 0), .int p0]) (n := 4) (Nat.le_of_ble_eq_true rfl)
  rw [lg_entry_eq]
  generalize (lg_sl ([.ref (r 0), .int p0]) ++ List.replicate (4 - (lg_sl ([.ref (r 0), .int p0])).length) Slot.unset).toArray = ls at hl ⊢
  have hl : lv_has ls 4 [(0, .ref (r 0)), (1, .int p0)] := hl
  refine nameQ (fun Q hQ => ?_)
  obtain ⟨im0, im1, im2, im3, im4, im5, im6, im7, im8, im9, im10, im11, im12, im13, im14, im15, im16, im17, im18, im19, im20, im21, im22, im23, im24, im25, im26, im27, im28, im29, im30, im31⟩ := id hI
  have f1 : 0 ≤ (f_tunes (i_bank.toInt).toNat).toInt ∧ (f_tunes (i_bank.toInt).toNat).toInt ≤ 5 := im21 (i_bank.toInt)
  have f2 : 0 ≤ (f_houses (i_bank.toInt).toNat).toInt ∧ (f_houses (i_bank.toInt).toNat).toInt ≤ 4 := im22 (i_bank.toInt)
  refine lv_iconst (v := 0) hx hb dX9_takenBy_0 (by decide) ?_
  refine lv_istore_n (lv' := [(2, .int 0), (0, .ref (r 0)), (1, .int p0)]) hx hb dX9_takenBy_1 rfl hl (by decide) rfl (fun ls hl => ?_)
  refine lv_iconst (v := 0) hx hb dX9_takenBy_2 (by decide) ?_
  refine lv_istore_n (lv' := [(3, .int 0), (2, .int 0), (0, .ref (r 0)), (1, .int p0)]) hx hb dX9_takenBy_3 rfl hl (by decide) rfl (fun ls hl => ?_)
  have L4 : ∀ (N4 : Nat) (y4_2 y4_3 : Int32) (m4_i_askHouse m4_i_askTune : Int32) (m4_J : Nat → Nat → Int32) (H4 : Heap) (locs : List Loc) (ls : Array Slot) (g4_0 : 0 ≤ y4_3.toInt) (g4_1 : y4_3.toInt ≤ 5) (hP : va_P (dC, dI) vwCl (WM r ct i_taped i_size i_faultKind i_at i_end i_token i_number i_bank i_rb i_codes i_within i_piled i_unitsInRule m4_i_askHouse m4_i_askTune i_acts i_undone i_laid i_knowns i_time f_text f_tunes f_houses f_hums f_told f_many f_ruleFrom f_ruleTo f_code f_eWhat f_eSign f_all f_kept f_was f_sTune f_boxAll m4_J L) H4) (hD : va_D A (WM r ct i_taped i_size i_faultKind i_at i_end i_token i_number i_bank i_rb i_codes i_within i_piled i_unitsInRule m4_i_askHouse m4_i_askTune i_acts i_undone i_laid i_knowns i_time f_text f_tunes f_houses f_hums f_told f_many f_ruleFrom f_ruleTo f_code f_eWhat f_eSign f_all f_kept f_was f_sTune f_boxAll m4_J L)) (hS : va_S A s.heap H4 locs) (hl : lv_has ls 4 [(0, .ref (r 0)), (1, .int p0), (2, .int y4_2), (3, .int y4_3)]) (hM : -1 * y4_3.toInt + 5 < (N4 : Int)), W p l e { frames := 22, cells := 0, slots := 0, locals := 729 } s m ([.ref (r 0), .int p0] : List Value).toArray below meth c0 H4 locs 0 0 Q (F0 m 4 ls []) := by
    intro N4
    induction N4 with
    | zero =>
      intro y4_2 y4_3 m4_i_askHouse m4_i_askTune m4_J H4 locs ls g4_0 g4_1 hP hD hS hl hM
      exact ((ob_452 hM g4_0 g4_1)).elim
    | succ N4 ih4 =>
      intro y4_2 y4_3 m4_i_askHouse m4_i_askTune m4_J H4 locs ls g4_0 g4_1 hP hD hS hl hM
      have hM4 := msucc hM
      refine lv_iload_n hx hb dX9_takenBy_4 rfl (lv_at hl 3 rfl) ?_
      refine lv_aload_n hx hb dX9_takenBy_5 rfl (lv_at hl 0 rfl) ?_
      refine va_calli (va_runV (As := []) (rest := [.int y4_3]) ⟨hx, hb, hml, hown, hG⟩ (kX9_songs l dC dI r ct i_taped i_size i_faultKind i_at i_end i_token i_number i_bank i_rb i_codes i_within i_piled i_unitsInRule m4_i_askHouse m4_i_askTune i_acts i_undone i_laid i_knowns i_time f_text f_tunes f_houses f_hums f_told f_many f_ruleFrom f_ruleTo f_code f_eWhat f_eSign f_all f_kept f_was f_sTune f_boxAll m4_J L H4.size hI) (cwV 0 hG (goodV gw1512 gw1514 gw86 gw138 gw1515) rfl rfl rfl hd_X9_songs ⟨(Nat.le_of_ble_eq_true rfl), (Nat.le_of_ble_eq_true rfl)⟩) ⟨fbR, va_recv hK hP (ci := 8) (q0 := 0) rfl rfl, pR_in hP hK⟩ rfl rfl hl.1 rfl (lv_room (Nat.le_of_ble_eq_true rfl)) dX9_takenBy_6 ⟨(Nat.le_of_ble_eq_true rfl), (Nat.le_of_ble_eq_true rfl)⟩) hS (fun q hq h => absurd hq (Nat.not_lt.mpr h)) (fun q h => hA q (Nat.le_trans hS.1 h)) (fun r_4 u_ t_ H3 locs ht hvm hw hB hz1 hk1 hS => ?_)
      subst hw
      have hP := wk hP hk1
      have f5 := hB
      have f6 : r_4.toInt = (f_tunes (i_bank.toInt).toNat).toInt := (ob_6 f5)
      refine lv_icmp_ge (tgt := 33) hx hb dX9_takenBy_9 (by decide) (fun c_7 => ?_) (fun c_7 => ?_)
      · skip
        have f8 : r_4.toInt ≤ y4_3.toInt := qi_le c_7 rfl rfl
        refine lv_iload_n hx hb dX9_takenBy_33 rfl (lv_at hl 2 rfl) ?_
        rw [hQ]
        exact W.iret (v := y4_2) hx hb hr (fun t ht hW => ⟨⟨y4_2, y4_2, rfl, rfl, ⟨m4_i_askHouse, m4_i_askTune, m4_J, by rw [ht]; exact hP, hD, hI⟩⟩, hS.F ht⟩) hS.2.2 dX9_takenBy_34
      · skip
        have f9 : y4_3.toInt < r_4.toInt := qi_nle c_7 rfl rfl
        refine lv_aload_n hx hb dX9_takenBy_12 rfl (lv_at hl 0 rfl) ?_
        refine lv_iload_n hx hb dX9_takenBy_13 rfl (lv_at hl 1 rfl) ?_
        refine lv_iload_n hx hb dX9_takenBy_14 rfl (lv_at hl 3 rfl) ?_
        have hFc := frA hD hS hA
        refine va_calli (va_runV (As := [.int p0, .int y4_3]) (rest := []) ⟨hx, hb, hml, hown, hG⟩ (kX9_doesTake l dC dI r ct i_taped i_size i_faultKind i_at i_end i_token i_number i_bank i_rb i_codes i_within i_piled i_unitsInRule m4_i_askHouse m4_i_askTune i_acts i_undone i_laid i_knowns i_time f_text f_tunes f_houses f_hums f_told f_many f_ruleFrom f_ruleTo f_code f_eWhat f_eSign f_all f_kept f_was f_sTune f_boxAll m4_J L p0 y4_3 H3.size hI (ob_288 hp0 hp1) (ob_314 f2 hp0 hp1) (ob_81 g4_0) (ob_521 f9 f6)) (cwV 2 hG (goodV gw1610 gw1612 gw104 gw138 gw1613) rfl rfl rfl hd_X9_doesTake ⟨(Nat.le_of_ble_eq_true rfl), (Nat.le_of_ble_eq_true rfl)⟩) ⟨fbW, va_recv hK hP (ci := 8) (q0 := 0) rfl rfl, pW_in hP hK hD⟩ rfl rfl hl.1 rfl (lv_room (Nat.le_of_ble_eq_true rfl)) dX9_takenBy_15 ⟨(Nat.le_of_ble_eq_true rfl), (Nat.le_of_ble_eq_true rfl)⟩) hS (fun q _ h => hFc q h) hFc (fun r_11 u_ t_ H10 locs ht hvm hw hB hz1 hk1 hS => ?_)
        subst hw
        obtain ⟨x12, x13, J14, hP1, hD1, hI18, f15, f16, f17⟩ := hB
        rw [ht] at hP1
        have hP := hP1
        have hD := dW hFc hD1
        obtain ⟨im19, im20, im21, im22, im23, im24, im25, im26, im27, im28, im29, im30, im31, im32, im33, im34, im35, im36, im37, im38, im39, im40, im41, im42, im43, im44, im45, im46, im47, im48, im49, im50⟩ := id hI18
        refine lv_if_eq (tgt := 27) hx hb dX9_takenBy_18 (by decide) (fun c_51 => ?_) (fun c_51 => ?_)
        · skip
          have f52 : r_11.toInt = 0 := qi_eq c_51 rfl zc_0
          have f53 : r_11.toInt = 0 := (ob_166 f16 f17 f52)
          obtain ⟨x54, ex54⟩ : ∃ y : Int32, y = y4_3 + Int32.ofInt 1 := ⟨_, rfl⟩
          have f55 : x54.toInt = y4_3.toInt + 1 := (ob_84 (qi_add ex54 rfl (by decide) (ob_82 g4_0) (ob_474 g4_1)))
          refine lv_iinc (v := x54) (lv' := [(3, .int x54), (0, .ref (r 0)), (1, .int p0), (2, .int y4_2)]) hx hb dX9_takenBy_27 hl (k := 3) rfl ex54.symm (by decide) rfl (fun ls hl => ?_)
          refine lv_goto (tgt := 4) hx hb dX9_takenBy_30 (by decide) ?_
          exact ih4 y4_2 x54 x12 x13 J14 H10 _ _ (ob_92 g4_0 f55) (ob_514 f1 f9 f6 f55) hP hD hS (lv_sub hl [1, 2, 3, 0] rfl) (ob_476 hM4 f55)
        · skip
          have f56 : r_11.toInt ≠ 0 := qi_ne c_51 rfl zc_0
          have f57 : 1 ≤ r_11.toInt := (ob_340 f15 f56)
          have f58 : r_11.toInt = 1 := (ob_105 f16 f17 f57)
          refine lv_iload_n hx hb dX9_takenBy_21 rfl (lv_at hl 2 rfl) ?_
          refine lv_iconst (v := 1) hx hb dX9_takenBy_22 (by decide) ?_
          refine lv_iload_n hx hb dX9_takenBy_23 rfl (lv_at hl 3 rfl) ?_
          refine lv_ishl hx hb dX9_takenBy_24 ?_
          refine lv_topi (fun x59 ex59 => ?_)
          refine lv_ior hx hb dX9_takenBy_25 ?_
          refine lv_topi (fun x60 ex60 => ?_)
          refine lv_istore_n (lv' := [(2, .int x60), (0, .ref (r 0)), (1, .int p0), (3, .int y4_3)]) hx hb dX9_takenBy_26 rfl hl (by decide) rfl (fun ls hl => ?_)
          obtain ⟨x61, ex61⟩ : ∃ y : Int32, y = y4_3 + Int32.ofInt 1 := ⟨_, rfl⟩
          have f62 : x61.toInt = y4_3.toInt + 1 := (ob_84 (qi_add ex61 rfl (by decide) (ob_82 g4_0) (ob_474 g4_1)))
          refine lv_iinc (v := x61) (lv' := [(3, .int x61), (2, .int x60), (0, .ref (r 0)), (1, .int p0)]) hx hb dX9_takenBy_27 hl (k := 3) rfl ex61.symm (by decide) rfl (fun ls hl => ?_)
          refine lv_goto (tgt := 4) hx hb dX9_takenBy_30 (by decide) ?_
          exact ih4 x60 x61 x12 x13 J14 H10 _ _ (ob_92 g4_0 f62) (ob_514 f1 f9 f6 f62) hP hD hS (lv_sub hl [2, 3, 1, 0] rfl) (ob_476 hM4 f62)
  exact L4 (-1 * (0 : Int32).toInt + 5 + 1).toNat 0 0 i_askHouse i_askTune J s.heap _ _ (ob_1 zc_0) (ob_477 zc_0) hP hD hS (lv_sub hl [2, 3, 1, 0] rfl) (mlt (ob_478 zc_0))
