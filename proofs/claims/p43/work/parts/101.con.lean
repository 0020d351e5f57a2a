set_option maxHeartbeats 4000000 in
set_option maxRecDepth 100000 in
theorem kX9_misplaced (l : Launch) (dC : Nat → ClassId) (dI : Nat → Nat → Nat) (r : Nat → Nat) (ct : Nat → ClassId) (i_taped i_size i_faultKind i_at i_end i_token i_number i_bank i_rb i_codes i_within i_piled i_unitsInRule i_askHouse i_askTune i_acts i_undone i_laid i_knowns i_time : Int32) (f_text f_tunes f_houses f_hums f_told f_many f_ruleFrom f_ruleTo f_code f_eWhat f_eSign f_all f_kept f_was f_sTune f_boxAll : Nat → Int32) (J : Nat → Nat → Int32) (L : Nat → Nat → Int64) (sz : Nat) (hI : (IM i_taped i_size i_faultKind i_at i_end i_bank i_rb i_acts i_undone i_laid i_knowns i_time f_tunes f_houses f_hums f_told f_many f_ruleFrom f_ruleTo f_code f_all f_kept f_was f_sTune f_boxAll)) : Met l yX9_misplaced (.code yX9_misplaced cX9_misplaced 1 none :: GW) { frames := 4, cells := 0, slots := 0, locals := 162 } (va_Pc [.ref (r 0)] (pW (dC, dI) (WM r ct i_taped i_size i_faultKind i_at i_end i_token i_number i_bank i_rb i_codes i_within i_piled i_unitsInRule i_askHouse i_askTune i_acts i_undone i_laid i_knowns i_time f_text f_tunes f_houses f_hums f_told f_many f_ruleFrom f_ruleTo f_code f_eWhat f_eSign f_all f_kept f_was f_sTune f_boxAll J L) (TM ct) sz)) (va_Qv (fun _ : Unit => True) (fun (_ : Unit) (t : State) => ∃ (n_i_faultKind : Int32) (n_J : Nat → Nat → Int32), va_P (dC, dI) vwCl (WM r ct i_taped i_size n_i_faultKind i_at i_end i_token i_number i_bank i_rb i_codes i_within i_piled i_unitsInRule i_askHouse i_askTune i_acts i_undone i_laid i_knowns i_time f_text f_tunes f_houses f_hums f_told f_many f_ruleFrom f_ruleTo f_code f_eWhat f_eSign f_all f_kept f_was f_sTune f_boxAll n_J L) t.heap ∧ va_D (va_A (WM r ct i_taped i_size i_faultKind i_at i_end i_token i_number i_bank i_rb i_codes i_within i_piled i_unitsInRule i_askHouse i_askTune i_acts i_undone i_laid i_knowns i_time f_text f_tunes f_houses f_hums f_told f_many f_ruleFrom f_ruleTo f_code f_eWhat f_eSign f_all f_kept f_was f_sTune f_boxAll J L) sz) (WM r ct i_taped i_size n_i_faultKind i_at i_end i_token i_number i_bank i_rb i_codes i_within i_piled i_unitsInRule i_askHouse i_askTune i_acts i_undone i_laid i_knowns i_time f_text f_tunes f_houses f_hums f_told f_many f_ruleFrom f_ruleTo f_code f_eWhat f_eSign f_all f_kept f_was f_sTune f_boxAll n_J L) ∧ (IM i_taped i_size n_i_faultKind i_at i_end i_bank i_rb i_acts i_undone i_laid i_knowns i_time f_tunes f_houses f_hums f_told f_many f_ruleFrom f_ruleTo f_code f_all f_kept f_was f_sTune f_boxAll) ∧ ((1 : Int) ≤ n_i_faultKind.toInt)) (va_A (WM r ct i_taped i_size i_faultKind i_at i_end i_token i_number i_bank i_rb i_codes i_within i_piled i_unitsInRule i_askHouse i_askTune i_acts i_undone i_laid i_knowns i_time f_text f_tunes f_houses f_hums f_told f_many f_ruleFrom f_ruleTo f_code f_eWhat f_eSign f_all f_kept f_was f_sTune f_boxAll J L) sz)) 0 0 (va_A (WM r ct i_taped i_size i_faultKind i_at i_end i_token i_number i_bank i_rb i_codes i_within i_piled i_unitsInRule i_askHouse i_askTune i_acts i_undone i_laid i_knowns i_time f_text f_tunes f_houses f_hums f_told f_many f_ruleFrom f_ruleTo f_code f_eWhat f_eSign f_all f_kept f_was f_sTune f_boxAll J L) sz) := by
  refine Met.ofW (cc := cX9_misplaced) (maxL := 1) (ret := none) (by decide) rfl ?_
  intro p e s m args below meth c0 s₁ B hml hv
  obtain ⟨rfl, hsz, hP, hK, hD0⟩ := hv
  have hx := B.exec
  have hb := B.bytes
  have hr := B.returns
  have hts := atoms_spec (ws := .code yX9_misplaced cX9_misplaced 1 none :: GW) B.pre
  have hG : ∀ w ∈ GW, w.before _ s = true := fun w h => hts w (List.mem_cons_of_mem _ h)
  have hown : s.vm.findClass RX9 = some m.cls := findClass_of_methodNamed B.named
  subst hsz
  have hD := hD0.self (sz := s.heap.size)
  generalize hAe : va_A (WM r ct i_taped i_size i_faultKind i_at i_end i_token i_number i_bank i_rb i_codes i_within i_piled i_unitsInRule i_askHouse i_askTune i_acts i_undone i_laid i_knowns i_time f_text f_tunes f_houses f_hums f_told f_many f_ruleFrom f_ruleTo f_code f_eWhat f_eSign f_all f_kept f_was f_sTune f_boxAll J L) s.heap.size = A at hD ⊢
  have hA : ∀ q : Nat, s.heap.size ≤ q → A q := fun q h => by rw [← hAe]; exact Or.inr h
  have hS : va_S A s.heap s.heap [] := va_S.rf
  have hP : va_P (dC, dI) vwCl (WM r ct i_taped i_size i_faultKind i_at i_end i_token i_number i_bank i_rb i_codes i_within i_piled i_unitsInRule i_askHouse i_askTune i_acts i_undone i_laid i_knowns i_time f_text f_tunes f_houses f_hums f_told f_many f_ruleFrom f_ruleTo f_code f_eWhat f_eSign f_all f_kept f_was f_sTune f_boxAll J L) s.heap := hP
  have hl := lv_entry ([.ref (r 0)]) (n := 1) (Nat.le_of_ble_eq_true rfl)
  rw [lg_entry_eq]
  generalize (lg_sl ([.ref (r 0)]) ++ List.replicate (1 - (lg_sl ([.ref (r 0)])).length) Slot.unset).toArray = ls at hl ⊢
  have hl : lv_has ls 1 [(0, .ref (r 0))] := hl
  refine nameQ (fun Q hQ => ?_)
  obtain ⟨ie0, ie1, ie2, ie3, ie4, ie5, ie6, ie7, ie8, ie9, ie10, ie11, ie12, ie13, ie14, ie15, ie16, ie17, ie18, ie19, ie20, ie21, ie22, ie23, ie24, ie25, ie26, ie27, ie28, ie29, ie30, ie31, ie32⟩ := id hI
  have f1 : 0 ≤ (f_tunes (i_bank.toInt).toNat).toInt ∧ (f_tunes (i_bank.toInt).toNat).toInt ≤ 5 := ie21 (i_bank.toInt)
  have f2 : 0 ≤ (f_houses (i_bank.toInt).toNat).toInt ∧ (f_houses (i_bank.toInt).toNat).toInt ≤ 4 := ie22 (i_bank.toInt)
  refine lv_aload_n hx hb dX9_misplaced_0 rfl (lv_at hl 0 rfl) ?_
  refine lv_aload_n hx hb dX9_misplaced_1 rfl (lv_at hl 0 rfl) ?_
  refine gM_X9_191_0 hx hb hG hown hK hP dX9_misplaced_2 ?_
  refine lv_iconst (v := 1) hx hb dX9_misplaced_5 (by decide) ?_
  refine lv_icmp_ne (tgt := 13) hx hb dX9_misplaced_6 (by decide) (fun c_3 => ?_) (fun c_3 => ?_)
  · skip
    have f4 : i_token.toInt ≠ 1 := qi_ne c_3 rfl zc_1
    refine lv_iconst (v := 2) hx hb dX9_misplaced_13 (by decide) ?_
    refine lv_aload_n hx hb dX9_misplaced_14 rfl (lv_at hl 0 rfl) ?_
    refine gM_X9_184_0 hx hb hG hown hK hP dX9_misplaced_15 ?_
    have hFc := frA hD hS hA
    refine va_callv (va_runV (As := [.int 2, .int i_at]) (rest := []) ⟨hx, hb, hml, hown, hG⟩ (kX9_fails l dC dI r ct i_taped i_size i_faultKind i_at i_end i_token i_number i_bank i_rb i_codes i_within i_piled i_unitsInRule i_askHouse i_askTune i_acts i_undone i_laid i_knowns i_time f_text f_tunes f_houses f_hums f_told f_many f_ruleFrom f_ruleTo f_code f_eWhat f_eSign f_all f_kept f_was f_sTune f_boxAll J L 2 i_at s.heap.size hI (ob_216 zc_2)) (cwV 2 hG (goodV gw1424 gw1426 gw66 gw138 gw1427) rfl rfl rfl hd_X9_fails ⟨(Nat.le_of_ble_eq_true rfl), (Nat.le_of_ble_eq_true rfl)⟩) ⟨fbW, va_recv hK hP (ci := 8) (q0 := 0) rfl rfl, pW_in hP hK hD⟩ rfl rfl hl.1 rfl (lv_room (Nat.le_of_ble_eq_true rfl)) dX9_misplaced_18 ⟨(Nat.le_of_ble_eq_true rfl), (Nat.le_of_ble_eq_true rfl)⟩) hS (fun q _ h => hFc q h) hFc (fun _ t_ H5 locs ht hvm hw hB hz1 hk1 hS => ?_)
    obtain ⟨x7, J8, hP1, hD1, hI10, f9⟩ := hB
    rw [ht] at hP1
    have hP := hP1
    have hD := dW hFc hD1
    obtain ⟨im11, im12, im13, im14, im15, im16, im17, im18, im19, im20, im21, im22, im23, im24, im25, im26, im27, im28, im29, im30, im31, im32, im33, im34, im35, im36, im37, im38, im39, im40, im41, im42, im43⟩ := id hI10
    rw [hQ]
    exact W.vret hx hb hr (fun t ht hW => ⟨⟨(), rfl, trivial, ⟨x7, J8, by rw [ht]; exact hP, hD, hI10, (ob_217 im28 f9)⟩⟩, hS.F ht⟩) hS.2.2 dX9_misplaced_21
  · skip
    have f44 : i_token.toInt = 1 := qi_eq c_3 rfl zc_1
    refine lv_iconst (v := 1) hx hb dX9_misplaced_9 (by decide) ?_
    refine lv_goto (tgt := 14) hx hb dX9_misplaced_10 (by decide) ?_
    refine lv_aload_n hx hb dX9_misplaced_14 rfl (lv_at hl 0 rfl) ?_
    refine gM_X9_184_0 hx hb hG hown hK hP dX9_misplaced_15 ?_
    have hFc := frA hD hS hA
    refine va_callv (va_runV (As := [.int 1, .int i_at]) (rest := []) ⟨hx, hb, hml, hown, hG⟩ (kX9_fails l dC dI r ct i_taped i_size i_faultKind i_at i_end i_token i_number i_bank i_rb i_codes i_within i_piled i_unitsInRule i_askHouse i_askTune i_acts i_undone i_laid i_knowns i_time f_text f_tunes f_houses f_hums f_told f_many f_ruleFrom f_ruleTo f_code f_eWhat f_eSign f_all f_kept f_was f_sTune f_boxAll J L 1 i_at s.heap.size hI (ob_218 zc_1)) (cwV 2 hG (goodV gw1424 gw1426 gw66 gw138 gw1427) rfl rfl rfl hd_X9_fails ⟨(Nat.le_of_ble_eq_true rfl), (Nat.le_of_ble_eq_true rfl)⟩) ⟨fbW, va_recv hK hP (ci := 8) (q0 := 0) rfl rfl, pW_in hP hK hD⟩ rfl rfl hl.1 rfl (lv_room (Nat.le_of_ble_eq_true rfl)) dX9_misplaced_18 ⟨(Nat.le_of_ble_eq_true rfl), (Nat.le_of_ble_eq_true rfl)⟩) hS (fun q _ h => hFc q h) hFc (fun _ t_ H45 locs ht hvm hw hB hz1 hk1 hS => ?_)
    obtain ⟨x47, J48, hP1, hD1, hI50, f49⟩ := hB
    rw [ht] at hP1
    have hP := hP1
    have hD := dW hFc hD1
    obtain ⟨im51, im52, im53, im54, im55, im56, im57, im58, im59, im60, im61, im62, im63, im64, im65, im66, im67, im68, im69, im70, im71, im72, im73, im74, im75, im76, im77, im78, im79, im80, im81, im82, im83⟩ := id hI50
    rw [hQ]
    exact W.vret hx hb hr (fun t ht hW => ⟨⟨(), rfl, trivial, ⟨x47, J48, by rw [ht]; exact hP, hD, hI50, (ob_217 im68 f49)⟩⟩, hS.F ht⟩) hS.2.2 dX9_misplaced_21
set_option maxHeartbeats 4000000 in
set_option maxRecDepth 100000 in
theorem kX9_must (l : Launch) (dC : Nat → ClassId) (dI : Nat → Nat → Nat) (r : Nat → Nat) (ct : Nat → ClassId) (i_taped i_size i_faultKind i_at i_end i_token i_number i_bank i_rb i_codes i_within i_piled i_unitsInRule i_askHouse i_askTune i_acts i_undone i_laid i_knowns i_time : Int32) (f_text f_tunes f_houses f_hums f_told f_many f_ruleFrom f_ruleTo f_code f_eWhat f_eSign f_all f_kept f_was f_sTune f_boxAll : Nat → Int32) (J : Nat → Nat → Int32) (L : Nat → Nat → Int64) (p0 : Int32) (sz : Nat) (hI : (IM i_taped i_size i_faultKind i_at i_end i_bank i_rb i_acts i_undone i_laid i_knowns i_time f_tunes f_houses f_hums f_told f_many f_ruleFrom f_ruleTo f_code f_all f_kept f_was f_sTune f_boxAll)) (hz_p0 : 0 ≤ p0.toInt ∧ p0.toInt ≤ 1) : Met l yX9_must (.code yX9_must cX9_must 2 none :: GW) { frames := 6, cells := 0, slots := 0, locals := 224 } (va_Pc [.ref (r 0), .int p0] (pW (dC, dI) (WM r ct i_taped i_size i_faultKind i_at i_end i_token i_number i_bank i_rb i_codes i_within i_piled i_unitsInRule i_askHouse i_askTune i_acts i_undone i_laid i_knowns i_time f_text f_tunes f_houses f_hums f_told f_many f_ruleFrom f_ruleTo f_code f_eWhat f_eSign f_all f_kept f_was f_sTune f_boxAll J L) (TM ct) sz)) (va_Qv (fun _ : Unit => True) (fun (_ : Unit) (t : State) => ∃ (n_i_faultKind n_i_at n_i_end n_i_token n_i_number : Int32) (n_J : Nat → Nat → Int32) (n_L : Nat → Nat → Int64), va_P (dC, dI) vwCl (WM r ct i_taped i_size n_i_faultKind n_i_at n_i_end n_i_token n_i_number i_bank i_rb i_codes i_within i_piled i_unitsInRule i_askHouse i_askTune i_acts i_undone i_laid i_knowns i_time f_text f_tunes f_houses f_hums f_told f_many f_ruleFrom f_ruleTo f_code f_eWhat f_eSign f_all f_kept f_was f_sTune f_boxAll n_J n_L) t.heap ∧ va_D (va_A (WM r ct i_taped i_size i_faultKind i_at i_end i_token i_number i_bank i_rb i_codes i_within i_piled i_unitsInRule i_askHouse i_askTune i_acts i_undone i_laid i_knowns i_time f_text f_tunes f_houses f_hums f_told f_many f_ruleFrom f_ruleTo f_code f_eWhat f_eSign f_all f_kept f_was f_sTune f_boxAll J L) sz) (WM r ct i_taped i_size n_i_faultKind n_i_at n_i_end n_i_token n_i_number i_bank i_rb i_codes i_within i_piled i_unitsInRule i_askHouse i_askTune i_acts i_undone i_laid i_knowns i_time f_text f_tunes f_houses f_hums f_told f_many f_ruleFrom f_ruleTo f_code f_eWhat f_eSign f_all f_kept f_was f_sTune f_boxAll n_J n_L) ∧ (IM i_taped i_size n_i_faultKind n_i_at n_i_end i_bank i_rb i_acts i_undone i_laid i_knowns i_time f_tunes f_houses f_hums f_told f_many f_ruleFrom f_ruleTo f_code f_all f_kept f_was f_sTune f_boxAll) ∧ (i_end.toInt ≤ n_i_end.toInt) ∧ (((1 : Int) ≤ n_i_faultKind.toInt) ∨ ((n_i_faultKind.toInt = (0 : Int)) ∧ (i_faultKind.toInt = (0 : Int)) ∧ (p0.toInt = (1 : Int)) ∧ ((n_i_token.toInt = (0 : Int)) ∨ (i_end.toInt + 1 ≤ n_i_end.toInt))))) (va_A (WM r ct i_taped i_size i_faultKind i_at i_end i_token i_number i_bank i_rb i_codes i_within i_piled i_unitsInRule i_askHouse i_askTune i_acts i_undone i_laid i_knowns i_time f_text f_tunes f_houses f_hums f_told f_many f_ruleFrom f_ruleTo f_code f_eWhat f_eSign f_all f_kept f_was f_sTune f_boxAll J L) sz)) 0 0 (va_A (WM r ct i_taped i_size i_faultKind i_at i_end i_token i_number i_bank i_rb i_codes i_within i_piled i_unitsInRule i_askHouse i_askTune i_acts i_undone i_laid i_knowns i_time f_text f_tunes f_houses f_hums f_told f_many f_ruleFrom f_ruleTo f_code f_eWhat f_eSign f_all f_kept f_was f_sTune f_boxAll J L) sz) := by
  refine Met.ofW (cc := cX9_must) (maxL := 2) (ret := none) (by decide) rfl ?_
  intro p e s m args below meth c0 s₁ B hml hv
  obtain ⟨rfl, hsz, hP, hK, hD0⟩ := hv
  have hx := B.exec
  have hb := B.bytes
  have hr := B.returns
  have hts := atoms_spec (ws := .code yX9_must cX9_must 2 none :: GW) B.pre
  have hG : ∀ w ∈ GW, w.before _ s = true := fun w h => hts w (List.mem_cons_of_mem _ h)
  have hown : s.vm.findClass RX9 = some m.cls := findClass_of_methodNamed B.named
  subst hsz
  have hD := hD0.self (sz := s.heap.size)
  generalize hAe : va_A (WM r ct i_taped i_size i_faultKind i_at i_end i_token i_number i_bank i_rb i_codes i_within i_piled i_unitsInRule i_askHouse i_askTune i_acts i_undone i_laid i_knowns i_time f_text f_tunes f_houses f_hums f_told f_many f_ruleFrom f_ruleTo f_code f_eWhat f_eSign f_all f_kept f_was f_sTune f_boxAll J L) s.heap.size = A at hD ⊢
  have hA : ∀ q : Nat, s.heap.size ≤ q → A q := fun q h => by rw [← hAe]; exact Or.inr h
  have hS : va_S A s.heap s.heap [] := va_S.rf
  have hP : va_P (dC, dI) vwCl (WM r ct i_taped i_size i_faultKind i_at i_end i_token i_number i_bank i_rb i_codes i_within i_piled i_unitsInRule i_askHouse i_askTune i_acts i_undone i_laid i_knowns i_time f_text f_tunes f_houses f_hums f_told f_many f_ruleFrom f_ruleTo f_code f_eWhat f_eSign f_all f_kept f_was f_sTune f_boxAll J L) s.heap := hP
  have hl := lv_entry ([.ref (r 0), .int p0]) (n := 2) (Nat.le_of_ble_eq_true rfl)
  rw [lg_entry_eq]
  generalize (lg_sl ([.ref (r 0), .int p0]) ++ List.replicate (2 - (lg_sl ([.ref (r 0), .int p0])).length) Slot.unset).toArray = ls at hl ⊢
  have hl : lv_has ls 2 [(0, .ref (r 0)), (1, .int p0)] := hl
  refine nameQ (fun Q hQ => ?_)
  obtain ⟨ie0, ie1, ie2, ie3, ie4, ie5, ie6, ie7, ie8, ie9, ie10, ie11, ie12, ie13, ie14, ie15, ie16, ie17, ie18, ie19, ie20, ie21, ie22, ie23, ie24, ie25, ie26, ie27, ie28, ie29, ie30, ie31, ie32⟩ := id hI
  have f1 : 0 ≤ (f_tunes (i_bank.toInt).toNat).toInt ∧ (f_tunes (i_bank.toInt).toNat).toInt ≤ 5 := ie21 (i_bank.toInt)
  have f2 : 0 ≤ (f_houses (i_bank.toInt).toNat).toInt ∧ (f_houses (i_bank.toInt).toNat).toInt ≤ 4 := ie22 (i_bank.toInt)
  refine lv_aload_n hx hb dX9_must_0 rfl (lv_at hl 0 rfl) ?_
  refine va_calli (va_runV (As := []) (rest := []) ⟨hx, hb, hml, hown, hG⟩ (kX9_isGood l dC dI r ct i_taped i_size i_faultKind i_at i_end i_token i_number i_bank i_rb i_codes i_within i_piled i_unitsInRule i_askHouse i_askTune i_acts i_undone i_laid i_knowns i_time f_text f_tunes f_houses f_hums f_told f_many f_ruleFrom f_ruleTo f_code f_eWhat f_eSign f_all f_kept f_was f_sTune f_boxAll J L s.heap.size hI) (cwV 0 hG (goodV gw1401 gw1403 gw61 gw138 gw1404) rfl rfl rfl hd_X9_isGood ⟨(Nat.le_of_ble_eq_true rfl), (Nat.le_of_ble_eq_true rfl)⟩) ⟨fbR, va_recv hK hP (ci := 8) (q0 := 0) rfl rfl, pR_in hP hK⟩ rfl rfl hl.1 rfl (lv_room (Nat.le_of_ble_eq_true rfl)) dX9_must_1 ⟨(Nat.le_of_ble_eq_true rfl), (Nat.le_of_ble_eq_true rfl)⟩) hS (fun q hq h => absurd hq (Nat.not_lt.mpr h)) (fun q h => hA q (Nat.le_trans hS.1 h)) (fun r_4 u_ t_ H3 locs ht hvm hw hB hz1 hk1 hS => ?_)
  subst hw
  have hP := wk hP hk1
  obtain ⟨f5, f6, f7⟩ := hB
  refine lv_if_ne (tgt := 8) hx hb dX9_must_4 (by decide) (fun c_8 => ?_) (fun c_8 => ?_)
  · skip
    have f9 : r_4.toInt ≠ 0 := qi_ne c_8 rfl zc_0
    have f10 : i_faultKind.toInt = (0 : Int) := (ob_219 f5 f9)
    have f11 : r_4.toInt = (1 : Int) := (ob_220 f5 f9)
    have f12 : (1 : Int) ≤ r_4.toInt := (ob_162 f6 f7 f11)
    refine lv_iload_n hx hb dX9_must_8 rfl (lv_at hl 1 rfl) ?_
    refine lv_if_eq (tgt := 19) hx hb dX9_must_9 (by decide) (fun c_13 => ?_) (fun c_13 => ?_)
    · skip
      have f14 : p0.toInt = 0 := qi_eq c_13 rfl zc_0
      refine lv_aload_n hx hb dX9_must_19 rfl (lv_at hl 0 rfl) ?_
      have hFc := frA hD hS hA
      refine va_callv (va_runV (As := []) (rest := []) ⟨hx, hb, hml, hown, hG⟩ (kX9_misplaced l dC dI r ct i_taped i_size i_faultKind i_at i_end i_token i_number i_bank i_rb i_codes i_within i_piled i_unitsInRule i_askHouse i_askTune i_acts i_undone i_laid i_knowns i_time f_text f_tunes f_houses f_hums f_told f_many f_ruleFrom f_ruleTo f_code f_eWhat f_eSign f_all f_kept f_was f_sTune f_boxAll J L H3.size hI) (cwV 0 hG (goodV gw1420 gw1422 gw65 gw138 gw1423) rfl rfl rfl hd_X9_misplaced ⟨(Nat.le_of_ble_eq_true rfl), (Nat.le_of_ble_eq_true rfl)⟩) ⟨fbW, va_recv hK hP (ci := 8) (q0 := 0) rfl rfl, pW_in hP hK hD⟩ rfl rfl hl.1 rfl (lv_room (Nat.le_of_ble_eq_true rfl)) dX9_must_20 ⟨(Nat.le_of_ble_eq_true rfl), (Nat.le_of_ble_eq_true rfl)⟩) hS (fun q _ h => hFc q h) hFc (fun _ t_ H15 locs ht hvm hw hB hz1 hk1 hS => ?_)
      obtain ⟨x17, J18, hP1, hD1, hI20, f19⟩ := hB
      rw [ht] at hP1
      have hP := hP1
      have hD := dW hFc hD1
      obtain ⟨im21, im22, im23, im24, im25, im26, im27, im28, im29, im30, im31, im32, im33, im34, im35, im36, im37, im38, im39, im40, im41, im42, im43, im44, im45, im46, im47, im48, im49, im50, im51, im52, im53⟩ := id hI20
      rw [hQ]
      exact W.vret hx hb hr (fun t ht hW => ⟨⟨(), rfl, trivial, ⟨x17, i_at, i_end, i_token, i_number, J18, L, by rw [ht]; exact hP, hD, hI20, (ob_146), (ob_221 f19)⟩⟩, hS.F ht⟩) hS.2.2 dX9_must_23
    · skip
      have f54 : p0.toInt ≠ 0 := qi_ne c_13 rfl zc_0
      have f55 : (1 : Int) ≤ p0.toInt := (ob_222 hz_p0 f54)
      refine lv_aload_n hx hb dX9_must_12 rfl (lv_at hl 0 rfl) ?_
      have hFc := frA hD hS hA
      refine va_callv (va_runV (As := []) (rest := []) ⟨hx, hb, hml, hown, hG⟩ (kX9_goOn l dC dI r ct i_taped i_size i_faultKind i_at i_end i_token i_number i_bank i_rb i_codes i_within i_piled i_unitsInRule i_askHouse i_askTune i_acts i_undone i_laid i_knowns i_time f_text f_tunes f_houses f_hums f_told f_many f_ruleFrom f_ruleTo f_code f_eWhat f_eSign f_all f_kept f_was f_sTune f_boxAll J L H3.size hI) (cwV 0 hG (goodV gw1362 gw1364 gw59 gw138 gw1365) rfl rfl rfl hd_X9_goOn ⟨(Nat.le_of_ble_eq_true rfl), (Nat.le_of_ble_eq_true rfl)⟩) ⟨fbW, va_recv hK hP (ci := 8) (q0 := 0) rfl rfl, pW_in hP hK hD⟩ rfl rfl hl.1 rfl (lv_room (Nat.le_of_ble_eq_true rfl)) dX9_must_13 ⟨(Nat.le_of_ble_eq_true rfl), (Nat.le_of_ble_eq_true rfl)⟩) hS (fun q _ h => hFc q h) hFc (fun _ t_ H56 locs ht hvm hw hB hz1 hk1 hS => ?_)
      obtain ⟨x58, x59, x60, x61, L62, hP1, hD1, hI66, f63, f64, f65⟩ := hB
      rw [ht] at hP1
      have hP := hP1
      have hD := dW hFc hD1
      obtain ⟨im67, im68, im69, im70, im71, im72, im73, im74, im75, im76, im77, im78, im79, im80, im81, im82, im83, im84, im85, im86, im87, im88, im89, im90, im91, im92, im93, im94, im95, im96, im97, im98, im99⟩ := id hI66
      refine lv_goto (tgt := 23) hx hb dX9_must_16 (by decide) ?_
      rw [hQ]
      exact W.vret hx hb hr (fun t ht hW => ⟨⟨(), rfl, trivial, ⟨i_faultKind, x58, x59, x60, x61, J, L62, by rw [ht]; exact hP, hD, hI66, (ob_145 f63), (ob_223 ie17 hz_p0 f54 f65)⟩⟩, hS.F ht⟩) hS.2.2 dX9_must_23
  · skip
    have f100 : r_4.toInt = 0 := qi_eq c_8 rfl zc_0
    have f101 : i_faultKind.toInt ≠ (0 : Int) := (ob_224 f5 f100)
    have f102 : (1 : Int) ≤ i_faultKind.toInt := (ob_225 ie17 f5 f101)
    have f103 : r_4.toInt = (0 : Int) := (ob_226 f6 f7 f100)
    rw [hQ]
    exact W.vret hx hb hr (fun t ht hW => ⟨⟨(), rfl, trivial, ⟨i_faultKind, i_at, i_end, i_token, i_number, J, L, by rw [ht]; exact hP, hD, hI, (ob_146), (ob_227 ie17 hz_p0 f102)⟩⟩, hS.F ht⟩) hS.2.2 dX9_must_7
set_option maxHeartbeats 4000000 in
set_option maxRecDepth 100000 in
theorem kX9_numeral (l : Launch) (dC : Nat → ClassId) (dI : Nat → Nat → Nat) (r : Nat → Nat) (ct : Nat → ClassId) (i_taped i_size i_faultKind i_at i_end i_token i_number i_bank i_rb i_codes i_within i_piled i_unitsInRule i_askHouse i_askTune i_acts i_undone i_laid i_knowns i_time : Int32) (f_text f_tunes f_houses f_hums f_told f_many f_ruleFrom f_ruleTo f_code f_eWhat f_eSign f_all f_kept f_was f_sTune f_boxAll : Nat → Int32) (J : Nat → Nat → Int32) (L : Nat → Nat → Int64) (p0 p1 : Int32) (sz : Nat) (hI : (IM i_taped i_size i_faultKind i_at i_end i_bank i_rb i_acts i_undone i_laid i_knowns i_time f_tunes f_houses f_hums f_told f_many f_ruleFrom f_ruleTo f_code f_all f_kept f_was f_sTune f_boxAll)) (hp0 : p0.toInt ≤ p1.toInt) : Met l yX9_numeral (.code yX9_numeral cX9_numeral 4 (some .int) :: GW) { frames := 6, cells := 0, slots := 0, locals := 224 } (va_Pc [.ref (r 0), .int p0, .int p1] (pW (dC, dI) (WM r ct i_taped i_size i_faultKind i_at i_end i_token i_number i_bank i_rb i_codes i_within i_piled i_unitsInRule i_askHouse i_askTune i_acts i_undone i_laid i_knowns i_time f_text f_tunes f_houses f_hums f_told f_many f_ruleFrom f_ruleTo f_code f_eWhat f_eSign f_all f_kept f_was f_sTune f_boxAll J L) (TM ct) sz)) (va_Qi (fun (r0 : Int32) (u : Int32) => r0 = u) (fun (u : Int32) (t : State) => ∃ (n_i_faultKind n_i_at n_i_end n_i_token n_i_number : Int32) (n_J : Nat → Nat → Int32) (n_L : Nat → Nat → Int64), va_P (dC, dI) vwCl (WM r ct i_taped i_size n_i_faultKind n_i_at n_i_end n_i_token n_i_number i_bank i_rb i_codes i_within i_piled i_unitsInRule i_askHouse i_askTune i_acts i_undone i_laid i_knowns i_time f_text f_tunes f_houses f_hums f_told f_many f_ruleFrom f_ruleTo f_code f_eWhat f_eSign f_all f_kept f_was f_sTune f_boxAll n_J n_L) t.heap ∧ va_D (va_A (WM r ct i_taped i_size i_faultKind i_at i_end i_token i_number i_bank i_rb i_codes i_within i_piled i_unitsInRule i_askHouse i_askTune i_acts i_undone i_laid i_knowns i_time f_text f_tunes f_houses f_hums f_told f_many f_ruleFrom f_ruleTo f_code f_eWhat f_eSign f_all f_kept f_was f_sTune f_boxAll J L) sz) (WM r ct i_taped i_size n_i_faultKind n_i_at n_i_end n_i_token n_i_number i_bank i_rb i_codes i_within i_piled i_unitsInRule i_askHouse i_askTune i_acts i_undone i_laid i_knowns i_time f_text f_tunes f_houses f_hums f_told f_many f_ruleFrom f_ruleTo f_code f_eWhat f_eSign f_all f_kept f_was f_sTune f_boxAll n_J n_L) ∧ (IM i_taped i_size n_i_faultKind n_i_at n_i_end i_bank i_rb i_acts i_undone i_laid i_knowns i_time f_tunes f_houses f_hums f_told f_many f_ruleFrom f_ruleTo f_code f_all f_kept f_was f_sTune f_boxAll) ∧ (p0.toInt ≤ u.toInt) ∧ (u.toInt ≤ p1.toInt) ∧ (i_end.toInt ≤ n_i_end.toInt) ∧ (((1 : Int) ≤ n_i_faultKind.toInt) ∨ ((n_i_faultKind.toInt = (0 : Int)) ∧ (i_faultKind.toInt = (0 : Int)) ∧ ((n_i_token.toInt = (0 : Int)) ∨ (i_end.toInt + 1 ≤ n_i_end.toInt))))) (va_A (WM r ct i_taped i_size i_faultKind i_at i_end i_token i_number i_bank i_rb i_codes i_within i_piled i_unitsInRule i_askHouse i_askTune i_acts i_undone i_laid i_knowns i_time f_text f_tunes f_houses f_hums f_told f_many f_ruleFrom f_ruleTo f_code f_eWhat f_eSign f_all f_kept f_was f_sTune f_boxAll J L) sz)) 0 0 (va_A (WM r ct i_taped i_size i_faultKind i_at i_end i_token i_number i_bank i_rb i_codes i_within i_piled i_unitsInRule i_askHouse i_askTune i_acts i_undone i_laid i_knowns i_time f_text f_tunes f_houses f_hums f_told f_many f_ruleFrom f_ruleTo f_code f_eWhat f_eSign f_all f_kept f_was f_sTune f_boxAll J L) sz) := by
  refine Met.ofW (cc := cX9_numeral) (maxL := 4) (ret := (some .int)) (by decide) rfl ?_
  intro p e s m args below meth c0 s₁ B hml hv
  obtain ⟨rfl, hsz, hP, hK, hD0⟩ := hv
  have hx := B.exec
  have hb := B.bytes
  have hr := B.returns
  have hts := atoms_spec (ws := .code yX9_numeral cX9_numeral 4 (some .int) :: GW) B.pre
  have hG : ∀ w ∈ GW, w.before _ s = true := fun w h => hts w (List.mem_cons_of_mem _ h)
  have hown : s.vm.findClass RX9 = some m.cls := findClass_of_methodNamed B.named
  subst hsz
  have hD := hD0.self (sz := s.heap.size)
  generalize hAe : va_A (WM r ct i_taped i_size i_faultKind i_at i_end i_token i_number i_bank i_rb i_codes i_within i_piled i_unitsInRule i_askHouse i_askTune i_acts i_undone i_laid i_knowns i_time f_text f_tunes f_houses f_hums f_told f_many f_ruleFrom f_ruleTo f_code f_eWhat f_eSign f_all f_kept f_was f_sTune f_boxAll J L) s.heap.size = A at hD ⊢
  have hA : ∀ q : Nat, s.heap.size ≤ q → A q := fun q h => by rw [← hAe]; exact Or.inr h
  have hS : va_S A s.heap s.heap [] := va_S.rf
  have hP : va_P (dC, dI) vwCl (WM r ct i_taped i_size i_faultKind i_at i_end i_token i_number i_bank i_rb i_codes i_within i_piled i_unitsInRule i_askHouse i_askTune i_acts i_undone i_laid i_knowns i_time f_text f_tunes f_houses f_hums f_told f_many f_ruleFrom f_ruleTo f_code f_eWhat f_eSign f_all f_kept f_was f_sTune f_boxAll J L) s.heap := hP
  have hl := lv_entry ([.ref (r 0), .int p0, .int p1]) (n := 4) (Nat.le_of_ble_eq_true rfl)
  rw [lg_entry_eq]
  generalize (lg_sl ([.ref (r 0), .int p0, .int p1]) ++ List.replicate (4 - (lg_sl ([.ref (r 0), .int p0, .int p1])).length) Slot.unset).toArray = ls at hl ⊢
  have hl : lv_has ls 4 [(0, .ref (r 0)), (1, .int p0), (2, .int p1)] := hl
  refine nameQ (fun Q hQ => ?_)
  obtain ⟨ie0, ie1, ie2, ie3, ie4, ie5, ie6, ie7, ie8, ie9, ie10, ie11, ie12, ie13, ie14, ie15, ie16, ie17, ie18, ie19, ie20, ie21, ie22, ie23, ie24, ie25, ie26, ie27, ie28, ie29, ie30, ie31, ie32⟩ := id hI
  have f1 : 0 ≤ (f_tunes (i_bank.toInt).toNat).toInt ∧ (f_tunes (i_bank.toInt).toNat).toInt ≤ 5 := ie21 (i_bank.toInt)
  have f2 : 0 ≤ (f_houses (i_bank.toInt).toNat).toInt ∧ (f_houses (i_bank.toInt).toNat).toInt ≤ 4 := ie22 (i_bank.toInt)
  refine lv_aload_n hx hb dX9_numeral_0 rfl (lv_at hl 0 rfl) ?_
  refine va_calli (va_runV (As := []) (rest := []) ⟨hx, hb, hml, hown, hG⟩ (kX9_isGood l dC dI r ct i_taped i_size i_faultKind i_at i_end i_token i_number i_bank i_rb i_codes i_within i_piled i_unitsInRule i_askHouse i_askTune i_acts i_undone i_laid i_knowns i_time f_text f_tunes f_houses f_hums f_told f_many f_ruleFrom f_ruleTo f_code f_eWhat f_eSign f_all f_kept f_was f_sTune f_boxAll J L s.heap.size hI) (cwV 0 hG (goodV gw1401 gw1403 gw61 gw138 gw1404) rfl rfl rfl hd_X9_isGood ⟨(Nat.le_of_ble_eq_true rfl), (Nat.le_of_ble_eq_true rfl)⟩) ⟨fbR, va_recv hK hP (ci := 8) (q0 := 0) rfl rfl, pR_in hP hK⟩ rfl rfl hl.1 rfl (lv_room (Nat.le_of_ble_eq_true rfl)) dX9_numeral_1 ⟨(Nat.le_of_ble_eq_true rfl), (Nat.le_of_ble_eq_true rfl)⟩) hS (fun q hq h => absurd hq (Nat.not_lt.mpr h)) (fun q h => hA q (Nat.le_trans hS.1 h)) (fun r_4 u_ t_ H3 locs ht hvm hw hB hz1 hk1 hS => ?_)
  subst hw
  have hP := wk hP hk1
  obtain ⟨f5, f6, f7⟩ := hB
  refine lv_if_ne (tgt := 9) hx hb dX9_numeral_4 (by decide) (fun c_8 => ?_) (fun c_8 => ?_)
  · skip
    have f9 : r_4.toInt ≠ 0 := qi_ne c_8 rfl zc_0
    have f10 : i_faultKind.toInt = (0 : Int) := (ob_219 f5 f9)
    have f11 : r_4.toInt = (1 : Int) := (ob_220 f5 f9)
    have f12 : (1 : Int) ≤ r_4.toInt := (ob_162 f6 f7 f11)
    refine lv_aload_n hx hb dX9_numeral_9 rfl (lv_at hl 0 rfl) ?_
    refine gM_X9_191_0 hx hb hG hown hK hP dX9_numeral_10 ?_
    refine lv_iconst (v := 4) hx hb dX9_numeral_13 (by decide) ?_
    refine lv_icmp_eq (tgt := 21) hx hb dX9_numeral_14 (by decide) (fun c_13 => ?_) (fun c_13 => ?_)
    · skip
      have f14 : i_token.toInt = 4 := qi_eq c_13 rfl zc_4
      refine lv_aload_n hx hb dX9_numeral_21 rfl (lv_at hl 0 rfl) ?_
      refine va_calli (va_runV (As := []) (rest := []) ⟨hx, hb, hml, hown, hG⟩ (kX9_isGood l dC dI r ct i_taped i_size i_faultKind i_at i_end i_token i_number i_bank i_rb i_codes i_within i_piled i_unitsInRule i_askHouse i_askTune i_acts i_undone i_laid i_knowns i_time f_text f_tunes f_houses f_hums f_told f_many f_ruleFrom f_ruleTo f_code f_eWhat f_eSign f_all f_kept f_was f_sTune f_boxAll J L H3.size hI) (cwV 0 hG (goodV gw1401 gw1403 gw61 gw138 gw1404) rfl rfl rfl hd_X9_isGood ⟨(Nat.le_of_ble_eq_true rfl), (Nat.le_of_ble_eq_true rfl)⟩) ⟨fbR, va_recv hK hP (ci := 8) (q0 := 0) rfl rfl, pR_in hP hK⟩ rfl rfl hl.1 rfl (lv_room (Nat.le_of_ble_eq_true rfl)) dX9_numeral_22 ⟨(Nat.le_of_ble_eq_true rfl), (Nat.le_of_ble_eq_true rfl)⟩) hS (fun q hq h => absurd hq (Nat.not_lt.mpr h)) (fun q h => hA q (Nat.le_trans hS.1 h)) (fun r_16 u_ t_ H15 locs ht hvm hw hB hz1 hk1 hS => ?_)
      subst hw
      have hP := wk hP hk1
      obtain ⟨f17, f18, f19⟩ := hB
      refine lv_if_eq (tgt := 53) hx hb dX9_numeral_25 (by decide) (fun c_20 => ((ob_228 (qi_eq c_20 rfl zc_0) f10 f17)).elim) (fun c_20 => ?_)
      have f21 : r_16.toInt ≠ 0 := qi_ne c_20 rfl zc_0
      have f22 : i_faultKind.toInt = (0 : Int) := (ob_229 ie17 f10)
      have f23 : r_16.toInt = (1 : Int) := (ob_220 f17 f21)
      have f24 : (1 : Int) ≤ r_16.toInt := (ob_162 f18 f19 f23)
      refine lv_aload_n hx hb dX9_numeral_28 rfl (lv_at hl 0 rfl) ?_
      refine gM_X9_209_0 hx hb hG hown hK hP dX9_numeral_29 ?_
      refine lv_iload_n hx hb dX9_numeral_32 rfl (lv_at hl 1 rfl) ?_
      refine lv_icmp_lt (tgt := 44) hx hb dX9_numeral_33 (by decide) (fun c_25 => ?_) (fun c_25 => ?_)
      · skip
        have f26 : i_number.toInt < p0.toInt := qi_lt c_25 rfl rfl
        refine lv_aload_n hx hb dX9_numeral_44 rfl (lv_at hl 0 rfl) ?_
        refine lv_iconst (v := 4) hx hb dX9_numeral_45 (by decide) ?_
        refine lv_aload_n hx hb dX9_numeral_46 rfl (lv_at hl 0 rfl) ?_
        refine gM_X9_184_0 hx hb hG hown hK hP dX9_numeral_47 ?_
        have hFc := frA hD hS hA
        refine va_callv (va_runV (As := [.int 4, .int i_at]) (rest := []) ⟨hx, hb, hml, hown, hG⟩ (kX9_fails l dC dI r ct i_taped i_size i_faultKind i_at i_end i_token i_number i_bank i_rb i_codes i_within i_piled i_unitsInRule i_askHouse i_askTune i_acts i_undone i_laid i_knowns i_time f_text f_tunes f_houses f_hums f_told f_many f_ruleFrom f_ruleTo f_code f_eWhat f_eSign f_all f_kept f_was f_sTune f_boxAll J L 4 i_at H15.size hI (ob_230 zc_4)) (cwV 2 hG (goodV gw1424 gw1426 gw66 gw138 gw1427) rfl rfl rfl hd_X9_fails ⟨(Nat.le_of_ble_eq_true rfl), (Nat.le_of_ble_eq_true rfl)⟩) ⟨fbW, va_recv hK hP (ci := 8) (q0 := 0) rfl rfl, pW_in hP hK hD⟩ rfl rfl hl.1 rfl (lv_room (Nat.le_of_ble_eq_true rfl)) dX9_numeral_50 ⟨(Nat.le_of_ble_eq_true rfl), (Nat.le_of_ble_eq_true rfl)⟩) hS (fun q _ h => hFc q h) hFc (fun _ t_ H27 locs ht hvm hw hB hz1 hk1 hS => ?_)
        obtain ⟨x29, J30, hP1, hD1, hI32, f31⟩ := hB
        rw [ht] at hP1
        have hP := hP1
        have hD := dW hFc hD1
        obtain ⟨im33, im34, im35, im36, im37, im38, im39, im40, im41, im42, im43, im44, im45, im46, im47, im48, im49, im50, im51, im52, im53, im54, im55, im56, im57, im58, im59, im60, im61, im62, im63, im64, im65⟩ := id hI32
        refine lv_aload_n hx hb dX9_numeral_53 rfl (lv_at hl 0 rfl) ?_
        refine gM_X9_209_0 hx hb hG hown hK hP dX9_numeral_54 ?_
        refine lv_istore_n (lv' := [(3, .int i_number), (0, .ref (r 0)), (1, .int p0), (2, .int p1)]) hx hb dX9_numeral_57 rfl hl (by decide) rfl (fun ls hl => ?_)
        refine lv_aload_n hx hb dX9_numeral_58 rfl (lv_at hl 1 rfl) ?_
        refine va_calli (va_runV (As := []) (rest := []) ⟨hx, hb, hml, hown, hG⟩ (kX9_isGood l dC dI r ct i_taped i_size x29 i_at i_end i_token i_number i_bank i_rb i_codes i_within i_piled i_unitsInRule i_askHouse i_askTune i_acts i_undone i_laid i_knowns i_time f_text f_tunes f_houses f_hums f_told f_many f_ruleFrom f_ruleTo f_code f_eWhat f_eSign f_all f_kept f_was f_sTune f_boxAll J30 L H27.size hI32) (cwV 0 hG (goodV gw1401 gw1403 gw61 gw138 gw1404) rfl rfl rfl hd_X9_isGood ⟨(Nat.le_of_ble_eq_true rfl), (Nat.le_of_ble_eq_true rfl)⟩) ⟨fbR, va_recv hK hP (ci := 8) (q0 := 0) rfl rfl, pR_in hP hK⟩ rfl rfl hl.1 rfl (lv_room (Nat.le_of_ble_eq_true rfl)) dX9_numeral_59 ⟨(Nat.le_of_ble_eq_true rfl), (Nat.le_of_ble_eq_true rfl)⟩) hS (fun q hq h => absurd hq (Nat.not_lt.mpr h)) (fun q h => hA q (Nat.le_trans hS.1 h)) (fun r_67 u_ t_ H66 locs ht hvm hw hB hz1 hk1 hS => ?_)
        subst hw
        have hP := wk hP hk1
        obtain ⟨f68, f69, f70⟩ := hB
        refine lv_if_eq (tgt := 69) hx hb dX9_numeral_62 (by decide) (fun c_71 => ?_) (fun c_71 => ((ob_231 (qi_ne c_71 rfl zc_0) f31 f68)).elim)
        have f72 : r_67.toInt = 0 := qi_eq c_71 rfl zc_0
        have f73 : x29.toInt ≠ (0 : Int) := (ob_232 im50 f31)
        have f74 : (1 : Int) ≤ x29.toInt := (ob_217 im50 f31)
        have f75 : r_67.toInt = (0 : Int) := (ob_226 f69 f70 f72)
        refine lv_aload_n hx hb dX9_numeral_69 rfl (lv_at hl 1 rfl) ?_
        refine va_calli (va_runV (As := []) (rest := []) ⟨hx, hb, hml, hown, hG⟩ (kX9_isGood l dC dI r ct i_taped i_size x29 i_at i_end i_token i_number i_bank i_rb i_codes i_within i_piled i_unitsInRule i_askHouse i_askTune i_acts i_undone i_laid i_knowns i_time f_text f_tunes f_houses f_hums f_told f_many f_ruleFrom f_ruleTo f_code f_eWhat f_eSign f_all f_kept f_was f_sTune f_boxAll J30 L H66.size hI32) (cwV 0 hG (goodV gw1401 gw1403 gw61 gw138 gw1404) rfl rfl rfl hd_X9_isGood ⟨(Nat.le_of_ble_eq_true rfl), (Nat.le_of_ble_eq_true rfl)⟩) ⟨fbR, va_recv hK hP (ci := 8) (q0 := 0) rfl rfl, pR_in hP hK⟩ rfl rfl hl.1 rfl (lv_room (Nat.le_of_ble_eq_true rfl)) dX9_numeral_70 ⟨(Nat.le_of_ble_eq_true rfl), (Nat.le_of_ble_eq_true rfl)⟩) hS (fun q hq h => absurd hq (Nat.not_lt.mpr h)) (fun q h => hA q (Nat.le_trans hS.1 h)) (fun r_77 u_ t_ H76 locs ht hvm hw hB hz1 hk1 hS => ?_)
        subst hw
        have hP := wk hP hk1
        obtain ⟨f78, f79, f80⟩ := hB
        refine lv_if_eq (tgt := 80) hx hb dX9_numeral_73 (by decide) (fun c_81 => ?_) (fun c_81 => ((ob_231 (qi_ne c_81 rfl zc_0) f31 f78)).elim)
        have f82 : r_77.toInt = 0 := qi_eq c_81 rfl zc_0
        have f83 : x29.toInt ≠ (0 : Int) := (ob_232 im50 f31)
        have f84 : (1 : Int) ≤ x29.toInt := (ob_217 im50 f31)
        have f85 : r_77.toInt = (0 : Int) := (ob_226 f79 f80 f82)
        refine lv_iload_n hx hb dX9_numeral_80 rfl (lv_at hl 2 rfl) ?_
        rw [hQ]
        exact W.iret (v := p0) hx hb hr (fun t ht hW => ⟨⟨p0, p0, rfl, rfl, ⟨x29, i_at, i_end, i_token, i_number, J30, L, by rw [ht]; exact hP, hD, hI32, (ob_146), (ob_233 hp0 f26), (ob_146), (ob_234 f31)⟩⟩, hS.F ht⟩) hS.2.2 dX9_numeral_81
      · skip
        have f86 : p0.toInt ≤ i_number.toInt := qi_nlt c_25 rfl rfl
        refine lv_aload_n hx hb dX9_numeral_36 rfl (lv_at hl 0 rfl) ?_
        refine gM_X9_209_0 hx hb hG hown hK hP dX9_numeral_37 ?_
        refine lv_iload_n hx hb dX9_numeral_40 rfl (lv_at hl 2 rfl) ?_
        refine lv_icmp_le (tgt := 53) hx hb dX9_numeral_41 (by decide) (fun c_87 => ?_) (fun c_87 => ?_)
        · skip
          have f88 : i_number.toInt ≤ p1.toInt := qi_le c_87 rfl rfl
          refine lv_aload_n hx hb dX9_numeral_53 rfl (lv_at hl 0 rfl) ?_
          refine gM_X9_209_0 hx hb hG hown hK hP dX9_numeral_54 ?_
          refine lv_istore_n (lv' := [(3, .int i_number), (0, .ref (r 0)), (1, .int p0), (2, .int p1)]) hx hb dX9_numeral_57 rfl hl (by decide) rfl (fun ls hl => ?_)
          refine lv_aload_n hx hb dX9_numeral_58 rfl (lv_at hl 1 rfl) ?_
          refine va_calli (va_runV (As := []) (rest := []) ⟨hx, hb, hml, hown, hG⟩ (kX9_isGood l dC dI r ct i_taped i_size i_faultKind i_at i_end i_token i_number i_bank i_rb i_codes i_within i_piled i_unitsInRule i_askHouse i_askTune i_acts i_undone i_laid i_knowns i_time f_text f_tunes f_houses f_hums f_told f_many f_ruleFrom f_ruleTo f_code f_eWhat f_eSign f_all f_kept f_was f_sTune f_boxAll J L H15.size hI) (cwV 0 hG (goodV gw1401 gw1403 gw61 gw138 gw1404) rfl rfl rfl hd_X9_isGood ⟨(Nat.le_of_ble_eq_true rfl), (Nat.le_of_ble_eq_true rfl)⟩) ⟨fbR, va_recv hK hP (ci := 8) (q0 := 0) rfl rfl, pR_in hP hK⟩ rfl rfl hl.1 rfl (lv_room (Nat.le_of_ble_eq_true rfl)) dX9_numeral_59 ⟨(Nat.le_of_ble_eq_true rfl), (Nat.le_of_ble_eq_true rfl)⟩) hS (fun q hq h => absurd hq (Nat.not_lt.mpr h)) (fun q h => hA q (Nat.le_trans hS.1 h)) (fun r_90 u_ t_ H89 locs ht hvm hw hB hz1 hk1 hS => ?_)
          subst hw
          have hP := wk hP hk1
          obtain ⟨f91, f92, f93⟩ := hB
          refine lv_if_eq (tgt := 69) hx hb dX9_numeral_62 (by decide) (fun c_94 => ((ob_228 (qi_eq c_94 rfl zc_0) f10 f91)).elim) (fun c_94 => ?_)
          have f95 : r_90.toInt ≠ 0 := qi_ne c_94 rfl zc_0
          have f96 : i_faultKind.toInt = (0 : Int) := (ob_229 ie17 f10)
          have f97 : r_90.toInt = (1 : Int) := (ob_220 f91 f95)
          have f98 : (1 : Int) ≤ r_90.toInt := (ob_162 f92 f93 f97)
          refine lv_aload_n hx hb dX9_numeral_65 rfl (lv_at hl 1 rfl) ?_
          have hFc := frA hD hS hA
          refine va_callv (va_runV (As := []) (rest := []) ⟨hx, hb, hml, hown, hG⟩ (kX9_goOn l dC dI r ct i_taped i_size i_faultKind i_at i_end i_token i_number i_bank i_rb i_codes i_within i_piled i_unitsInRule i_askHouse i_askTune i_acts i_undone i_laid i_knowns i_time f_text f_tunes f_houses f_hums f_told f_many f_ruleFrom f_ruleTo f_code f_eWhat f_eSign f_all f_kept f_was f_sTune f_boxAll J L H89.size hI) (cwV 0 hG (goodV gw1362 gw1364 gw59 gw138 gw1365) rfl rfl rfl hd_X9_goOn ⟨(Nat.le_of_ble_eq_true rfl), (Nat.le_of_ble_eq_true rfl)⟩) ⟨fbW, va_recv hK hP (ci := 8) (q0 := 0) rfl rfl, pW_in hP hK hD⟩ rfl rfl hl.1 rfl (lv_room (Nat.le_of_ble_eq_true rfl)) dX9_numeral_66 ⟨(Nat.le_of_ble_eq_true rfl), (Nat.le_of_ble_eq_true rfl)⟩) hS (fun q _ h => hFc q h) hFc (fun _ t_ H99 locs ht hvm hw hB hz1 hk1 hS => ?_)
          obtain ⟨x101, x102, x103, x104, L105, hP1, hD1, hI109, f106, f107, f108⟩ := hB
          rw [ht] at hP1
          have hP := hP1
          have hD := dW hFc hD1
          obtain ⟨im110, im111, im112, im113, im114, im115, im116, im117, im118, im119, im120, im121, im122, im123, im124, im125, im126, im127, im128, im129, im130, im131, im132, im133, im134, im135, im136, im137, im138, im139, im140, im141, im142⟩ := id hI109
          refine lv_aload_n hx hb dX9_numeral_69 rfl (lv_at hl 1 rfl) ?_
          refine va_calli (va_runV (As := []) (rest := []) ⟨hx, hb, hml, hown, hG⟩ (kX9_isGood l dC dI r ct i_taped i_size i_faultKind x101 x102 x103 x104 i_bank i_rb i_codes i_within i_piled i_unitsInRule i_askHouse i_askTune i_acts i_undone i_laid i_knowns i_time f_text f_tunes f_houses f_hums f_told f_many f_ruleFrom f_ruleTo f_code f_eWhat f_eSign f_all f_kept f_was f_sTune f_boxAll J L105 H99.size hI109) (cwV 0 hG (goodV gw1401 gw1403 gw61 gw138 gw1404) rfl rfl rfl hd_X9_isGood ⟨(Nat.le_of_ble_eq_true rfl), (Nat.le_of_ble_eq_true rfl)⟩) ⟨fbR, va_recv hK hP (ci := 8) (q0 := 0) rfl rfl, pR_in hP hK⟩ rfl rfl hl.1 rfl (lv_room (Nat.le_of_ble_eq_true rfl)) dX9_numeral_70 ⟨(Nat.le_of_ble_eq_true rfl), (Nat.le_of_ble_eq_true rfl)⟩) hS (fun q hq h => absurd hq (Nat.not_lt.mpr h)) (fun q h => hA q (Nat.le_trans hS.1 h)) (fun r_144 u_ t_ H143 locs ht hvm hw hB hz1 hk1 hS => ?_)
          subst hw
          have hP := wk hP hk1
          obtain ⟨f145, f146, f147⟩ := hB
          refine lv_if_eq (tgt := 80) hx hb dX9_numeral_73 (by decide) (fun c_148 => ((ob_228 (qi_eq c_148 rfl zc_0) f10 f145)).elim) (fun c_148 => ?_)
          have f149 : r_144.toInt ≠ 0 := qi_ne c_148 rfl zc_0
          have f150 : i_faultKind.toInt = (0 : Int) := (ob_235 f10)
          have f151 : r_144.toInt = (1 : Int) := (ob_220 f145 f149)
          have f152 : (1 : Int) ≤ r_144.toInt := (ob_162 f146 f147 f151)
          refine lv_iload_n hx hb dX9_numeral_76 rfl (lv_at hl 0 rfl) ?_
          refine lv_goto (tgt := 81) hx hb dX9_numeral_77 (by decide) ?_
          rw [hQ]
          exact W.iret (v := i_number) hx hb hr (fun t ht hW => ⟨⟨i_number, i_number, rfl, rfl, ⟨i_faultKind, x101, x102, x103, x104, J, L105, by rw [ht]; exact hP, hD, hI109, (ob_236 hp0 f86 f88), (ob_237 hp0 f86 f88), (ob_145 f106), (ob_238 ie17 f108)⟩⟩, hS.F ht⟩) hS.2.2 dX9_numeral_81
        · skip
          have f153 : p1.toInt < i_number.toInt := qi_nle c_87 rfl rfl
          refine lv_aload_n hx hb dX9_numeral_44 rfl (lv_at hl 0 rfl) ?_
          refine lv_iconst (v := 4) hx hb dX9_numeral_45 (by decide) ?_
          refine lv_aload_n hx hb dX9_numeral_46 rfl (lv_at hl 0 rfl) ?_
          refine gM_X9_184_0 hx hb hG hown hK hP dX9_numeral_47 ?_
          have hFc := frA hD hS hA
          refine va_callv (va_runV (As := [.int 4, .int i_at]) (rest := []) ⟨hx, hb, hml, hown, hG⟩ (kX9_fails l dC dI r ct i_taped i_size i_faultKind i_at i_end i_token i_number i_bank i_rb i_codes i_within i_piled i_unitsInRule i_askHouse i_askTune i_acts i_undone i_laid i_knowns i_time f_text f_tunes f_houses f_hums f_told f_many f_ruleFrom f_ruleTo f_code f_eWhat f_eSign f_all f_kept f_was f_sTune f_boxAll J L 4 i_at H15.size hI (ob_230 zc_4)) (cwV 2 hG (goodV gw1424 gw1426 gw66 gw138 gw1427) rfl rfl rfl hd_X9_fails ⟨(Nat.le_of_ble_eq_true rfl), (Nat.le_of_ble_eq_true rfl)⟩) ⟨fbW, va_recv hK hP (ci := 8) (q0 := 0) rfl rfl, pW_in hP hK hD⟩ rfl rfl hl.1 rfl (lv_room (Nat.le_of_ble_eq_true rfl)) dX9_numeral_50 ⟨(Nat.le_of_ble_eq_true rfl), (Nat.le_of_ble_eq_true rfl)⟩) hS (fun q _ h => hFc q h) hFc (fun _ t_ H154 locs ht hvm hw hB hz1 hk1 hS => ?_)
          obtain ⟨x156, J157, hP1, hD1, hI159, f158⟩ := hB
          rw [ht] at hP1
          have hP := hP1
          have hD := dW hFc hD1
          obtain ⟨im160, im161, im162, im163, im164, im165, im166, im167, im168, im169, im170, im171, im172, im173, im174, im175, im176, im177, im178, im179, im180, im181, im182, im183, im184, im185, im186, im187, im188, im189, im190, im191, im192⟩ := id hI159
          refine lv_aload_n hx hb dX9_numeral_53 rfl (lv_at hl 0 rfl) ?_
          refine gM_X9_209_0 hx hb hG hown hK hP dX9_numeral_54 ?_
          refine lv_istore_n (lv' := [(3, .int i_number), (0, .ref (r 0)), (1, .int p0), (2, .int p1)]) hx hb dX9_numeral_57 rfl hl (by decide) rfl (fun ls hl => ?_)
          refine lv_aload_n hx hb dX9_numeral_58 rfl (lv_at hl 1 rfl) ?_
          refine va_calli (va_runV (As := []) (rest := []) ⟨hx, hb, hml, hown, hG⟩ (kX9_isGood l dC dI r ct i_taped i_size x156 i_at i_end i_token i_number i_bank i_rb i_codes i_within i_piled i_unitsInRule i_askHouse i_askTune i_acts i_undone i_laid i_knowns i_time f_text f_tunes f_houses f_hums f_told f_many f_ruleFrom f_ruleTo f_code f_eWhat f_eSign f_all f_kept f_was f_sTune f_boxAll J157 L H154.size hI159) (cwV 0 hG (goodV gw1401 gw1403 gw61 gw138 gw1404) rfl rfl rfl hd_X9_isGood ⟨(Nat.le_of_ble_eq_true rfl), (Nat.le_of_ble_eq_true rfl)⟩) ⟨fbR, va_recv hK hP (ci := 8) (q0 := 0) rfl rfl, pR_in hP hK⟩ rfl rfl hl.1 rfl (lv_room (Nat.le_of_ble_eq_true rfl)) dX9_numeral_59 ⟨(Nat.le_of_ble_eq_true rfl), (Nat.le_of_ble_eq_true rfl)⟩) hS (fun q hq h => absurd hq (Nat.not_lt.mpr h)) (fun q h => hA q (Nat.le_trans hS.1 h)) (fun r_194 u_ t_ H193 locs ht hvm hw hB hz1 hk1 hS => ?_)
          subst hw
          have hP := wk hP hk1
          obtain ⟨f195, f196, f197⟩ := hB
          refine lv_if_eq (tgt := 69) hx hb dX9_numeral_62 (by decide) (fun c_198 => ?_) (fun c_198 => ((ob_231 (qi_ne c_198 rfl zc_0) f158 f195)).elim)
          have f199 : r_194.toInt = 0 := qi_eq c_198 rfl zc_0
          have f200 : x156.toInt ≠ (0 : Int) := (ob_232 im177 f158)
          have f201 : (1 : Int) ≤ x156.toInt := (ob_217 im177 f158)
          have f202 : r_194.toInt = (0 : Int) := (ob_226 f196 f197 f199)
          refine lv_aload_n hx hb dX9_numeral_69 rfl (lv_at hl 1 rfl) ?_
          refine va_calli (va_runV (As := []) (rest := []) ⟨hx, hb, hml, hown, hG⟩ (kX9_isGood l dC dI r ct i_taped i_size x156 i_at i_end i_token i_number i_bank i_rb i_codes i_within i_piled i_unitsInRule i_askHouse i_askTune i_acts i_undone i_laid i_knowns i_time f_text f_tunes f_houses f_hums f_told f_many f_ruleFrom f_ruleTo f_code f_eWhat f_eSign f_all f_kept f_was f_sTune f_boxAll J157 L H193.size hI159) (cwV 0 hG (goodV gw1401 gw1403 gw61 gw138 gw1404) rfl rfl rfl hd_X9_isGood ⟨(Nat.le_of_ble_eq_true rfl), (Nat.le_of_ble_eq_true rfl)⟩) ⟨fbR, va_recv hK hP (ci := 8) (q0 := 0) rfl rfl, pR_in hP hK⟩ rfl rfl hl.1 rfl (lv_room (Nat.le_of_ble_eq_true rfl)) dX9_numeral_70 ⟨(Nat.le_of_ble_eq_true rfl), (Nat.le_of_ble_eq_true rfl)⟩) hS (fun q hq h => absurd hq (Nat.not_lt.mpr h)) (fun q h => hA q (Nat.le_trans hS.1 h)) (fun r_204 u_ t_ H203 locs ht hvm hw hB hz1 hk1 hS => ?_)
          subst hw
          have hP := wk hP hk1
          obtain ⟨f205, f206, f207⟩ := hB
          refine lv_if_eq (tgt := 80) hx hb dX9_numeral_73 (by decide) (fun c_208 => ?_) (fun c_208 => ((ob_231 (qi_ne c_208 rfl zc_0) f158 f205)).elim)
          have f209 : r_204.toInt = 0 := qi_eq c_208 rfl zc_0
          have f210 : x156.toInt ≠ (0 : Int) := (ob_232 im177 f158)
          have f211 : (1 : Int) ≤ x156.toInt := (ob_217 im177 f158)
          have f212 : r_204.toInt = (0 : Int) := (ob_226 f206 f207 f209)
          refine lv_iload_n hx hb dX9_numeral_80 rfl (lv_at hl 2 rfl) ?_
          rw [hQ]
          exact W.iret (v := p0) hx hb hr (fun t ht hW => ⟨⟨p0, p0, rfl, rfl, ⟨x156, i_at, i_end, i_token, i_number, J157, L, by rw [ht]; exact hP, hD, hI159, (ob_146), (ob_239 hp0 f86 f153), (ob_146), (ob_234 f158)⟩⟩, hS.F ht⟩) hS.2.2 dX9_numeral_81
    · skip
      have f213 : i_token.toInt ≠ 4 := qi_ne c_13 rfl zc_4
      refine lv_aload_n hx hb dX9_numeral_17 rfl (lv_at hl 0 rfl) ?_
      have hFc := frA hD hS hA
      refine va_callv (va_runV (As := []) (rest := []) ⟨hx, hb, hml, hown, hG⟩ (kX9_misplaced l dC dI r ct i_taped i_size i_faultKind i_at i_end i_token i_number i_bank i_rb i_codes i_within i_piled i_unitsInRule i_askHouse i_askTune i_acts i_undone i_laid i_knowns i_time f_text f_tunes f_houses f_hums f_told f_many f_ruleFrom f_ruleTo f_code f_eWhat f_eSign f_all f_kept f_was f_sTune f_boxAll J L H3.size hI) (cwV 0 hG (goodV gw1420 gw1422 gw65 gw138 gw1423) rfl rfl rfl hd_X9_misplaced ⟨(Nat.le_of_ble_eq_true rfl), (Nat.le_of_ble_eq_true rfl)⟩) ⟨fbW, va_recv hK hP (ci := 8) (q0 := 0) rfl rfl, pW_in hP hK hD⟩ rfl rfl hl.1 rfl (lv_room (Nat.le_of_ble_eq_true rfl)) dX9_numeral_18 ⟨(Nat.le_of_ble_eq_true rfl), (Nat.le_of_ble_eq_true rfl)⟩) hS (fun q _ h => hFc q h) hFc (fun _ t_ H214 locs ht hvm hw hB hz1 hk1 hS => ?_)
      obtain ⟨x216, J217, hP1, hD1, hI219, f218⟩ := hB
      rw [ht] at hP1
      have hP := hP1
      have hD := dW hFc hD1
      obtain ⟨im220, im221, im222, im223, im224, im225, im226, im227, im228, im229, im230, im231, im232, im233, im234, im235, im236, im237, im238, im239, im240, im241, im242, im243, im244, im245, im246, im247, im248, im249, im250, im251, im252⟩ := id hI219
      refine lv_aload_n hx hb dX9_numeral_21 rfl (lv_at hl 0 rfl) ?_
      refine va_calli (va_runV (As := []) (rest := []) ⟨hx, hb, hml, hown, hG⟩ (kX9_isGood l dC dI r ct i_taped i_size x216 i_at i_end i_token i_number i_bank i_rb i_codes i_within i_piled i_unitsInRule i_askHouse i_askTune i_acts i_undone i_laid i_knowns i_time f_text f_tunes f_houses f_hums f_told f_many f_ruleFrom f_ruleTo f_code f_eWhat f_eSign f_all f_kept f_was f_sTune f_boxAll J217 L H214.size hI219) (cwV 0 hG (goodV gw1401 gw1403 gw61 gw138 gw1404) rfl rfl rfl hd_X9_isGood ⟨(Nat.le_of_ble_eq_true rfl), (Nat.le_of_ble_eq_true rfl)⟩) ⟨fbR, va_recv hK hP (ci := 8) (q0 := 0) rfl rfl, pR_in hP hK⟩ rfl rfl hl.1 rfl (lv_room (Nat.le_of_ble_eq_true rfl)) dX9_numeral_22 ⟨(Nat.le_of_ble_eq_true rfl), (Nat.le_of_ble_eq_true rfl)⟩) hS (fun q hq h => absurd hq (Nat.not_lt.mpr h)) (fun q h => hA q (Nat.le_trans hS.1 h)) (fun r_254 u_ t_ H253 locs ht hvm hw hB hz1 hk1 hS => ?_)
      subst hw
      have hP := wk hP hk1
      obtain ⟨f255, f256, f257⟩ := hB
      refine lv_if_eq (tgt := 53) hx hb dX9_numeral_25 (by decide) (fun c_258 => ?_) (fun c_258 => ((ob_231 (qi_ne c_258 rfl zc_0) f218 f255)).elim)
      have f259 : r_254.toInt = 0 := qi_eq c_258 rfl zc_0
      have f260 : x216.toInt ≠ (0 : Int) := (ob_232 im237 f218)
      have f261 : (1 : Int) ≤ x216.toInt := (ob_217 im237 f218)
      have f262 : r_254.toInt = (0 : Int) := (ob_226 f256 f257 f259)
      refine lv_aload_n hx hb dX9_numeral_53 rfl (lv_at hl 0 rfl) ?_
      refine gM_X9_209_0 hx hb hG hown hK hP dX9_numeral_54 ?_
      refine lv_istore_n (lv' := [(3, .int i_number), (0, .ref (r 0)), (1, .int p0), (2, .int p1)]) hx hb dX9_numeral_57 rfl hl (by decide) rfl (fun ls hl => ?_)
      refine lv_aload_n hx hb dX9_numeral_58 rfl (lv_at hl 1 rfl) ?_
      refine va_calli (va_runV (As := []) (rest := []) ⟨hx, hb, hml, hown, hG⟩ (kX9_isGood l dC dI r ct i_taped i_size x216 i_at i_end i_token i_number i_bank i_rb i_codes i_within i_piled i_unitsInRule i_askHouse i_askTune i_acts i_undone i_laid i_knowns i_time f_text f_tunes f_houses f_hums f_told f_many f_ruleFrom f_ruleTo f_code f_eWhat f_eSign f_all f_kept f_was f_sTune f_boxAll J217 L H253.size hI219) (cwV 0 hG (goodV gw1401 gw1403 gw61 gw138 gw1404) rfl rfl rfl hd_X9_isGood ⟨(Nat.le_of_ble_eq_true rfl), (Nat.le_of_ble_eq_true rfl)⟩) ⟨fbR, va_recv hK hP (ci := 8) (q0 := 0) rfl rfl, pR_in hP hK⟩ rfl rfl hl.1 rfl (lv_room (Nat.le_of_ble_eq_true rfl)) dX9_numeral_59 ⟨(Nat.le_of_ble_eq_true rfl), (Nat.le_of_ble_eq_true rfl)⟩) hS (fun q hq h => absurd hq (Nat.not_lt.mpr h)) (fun q h => hA q (Nat.le_trans hS.1 h)) (fun r_264 u_ t_ H263 locs ht hvm hw hB hz1 hk1 hS => ?_)
      subst hw
      have hP := wk hP hk1
      obtain ⟨f265, f266, f267⟩ := hB
      refine lv_if_eq (tgt := 69) hx hb dX9_numeral_62 (by decide) (fun c_268 => ?_) (fun c_268 => ((ob_231 (qi_ne c_268 rfl zc_0) f218 f265)).elim)
      have f269 : r_264.toInt = 0 := qi_eq c_268 rfl zc_0
      have f270 : x216.toInt ≠ (0 : Int) := (ob_232 im237 f218)
      have f271 : (1 : Int) ≤ x216.toInt := (ob_217 im237 f218)
      have f272 : r_264.toInt = (0 : Int) := (ob_226 f266 f267 f269)
      refine lv_aload_n hx hb dX9_numeral_69 rfl (lv_at hl 1 rfl) ?_
      refine va_calli (va_runV (As := []) (rest := []) ⟨hx, hb, hml, hown, hG⟩ (kX9_isGood l dC dI r ct i_taped i_size x216 i_at i_end i_token i_number i_bank i_rb i_codes i_within i_piled i_unitsInRule i_askHouse i_askTune i_acts i_undone i_laid i_knowns i_time f_text f_tunes f_houses f_hums f_told f_many f_ruleFrom f_ruleTo f_code f_eWhat f_eSign f_all f_kept f_was f_sTune f_boxAll J217 L H263.size hI219) (cwV 0 hG (goodV gw1401 gw1403 gw61 gw138 gw1404) rfl rfl rfl hd_X9_isGood ⟨(Nat.le_of_ble_eq_true rfl), (Nat.le_of_ble_eq_true rfl)⟩) ⟨fbR, va_recv hK hP (ci := 8) (q0 := 0) rfl rfl, pR_in hP hK⟩ rfl rfl hl.1 rfl (lv_room (Nat.le_of_ble_eq_true rfl)) dX9_numeral_70 ⟨(Nat.le_of_ble_eq_true rfl), (Nat.le_of_ble_eq_true rfl)⟩) hS (fun q hq h => absurd hq (Nat.not_lt.mpr h)) (fun q h => hA q (Nat.le_trans hS.1 h)) (fun r_274 u_ t_ H273 locs ht hvm hw hB hz1 hk1 hS => ?_)
      subst hw
      have hP := wk hP hk1
      obtain ⟨f275, f276, f277⟩ := hB
      refine lv_if_eq (tgt := 80) hx hb dX9_numeral_73 (by decide) (fun c_278 => ?_) (fun c_278 => ((ob_231 (qi_ne c_278 rfl zc_0) f218 f275)).elim)
      have f279 : r_274.toInt = 0 := qi_eq c_278 rfl zc_0
      have f280 : x216.toInt ≠ (0 : Int) := (ob_240 f218)
      have f281 : (1 : Int) ≤ x216.toInt := (ob_19 f218)
      have f282 : r_274.toInt = (0 : Int) := (ob_226 f276 f277 f279)
      refine lv_iload_n hx hb dX9_numeral_80 rfl (lv_at hl 2 rfl) ?_
      rw [hQ]
      exact W.iret (v := p0) hx hb hr (fun t ht hW => ⟨⟨p0, p0, rfl, rfl, ⟨x216, i_at, i_end, i_token, i_number, J217, L, by rw [ht]; exact hP, hD, hI219, (ob_146), (ob_145 hp0), (ob_146), (ob_234 f218)⟩⟩, hS.F ht⟩) hS.2.2 dX9_numeral_81
  · skip
    have f283 : r_4.toInt = 0 := qi_eq c_8 rfl zc_0
    have f284 : i_faultKind.toInt ≠ (0 : Int) := (ob_224 f5 f283)
    have f285 : (1 : Int) ≤ i_faultKind.toInt := (ob_225 ie17 f5 f284)
    have f286 : r_4.toInt = (0 : Int) := (ob_226 f6 f7 f283)
    refine lv_iload_n hx hb dX9_numeral_7 rfl (lv_at hl 1 rfl) ?_
    rw [hQ]
    exact W.iret (v := p0) hx hb hr (fun t ht hW => ⟨⟨p0, p0, rfl, rfl, ⟨i_faultKind, i_at, i_end, i_token, i_number, J, L, by rw [ht]; exact hP, hD, hI, (ob_146), (ob_145 hp0), (ob_146), (ob_241 ie17 f285)⟩⟩, hS.F ht⟩) hS.2.2 dX9_numeral_8
set_option maxHeartbeats 4000000 in
set_option maxRecDepth 100000 in
theorem kX9_after (l : Launch) (dC : Nat → ClassId) (dI : Nat → Nat → Nat) (r : Nat → Nat) (ct : Nat → ClassId) (i_taped i_size i_faultKind i_at i_end i_token i_number i_bank i_rb i_codes i_within i_piled i_unitsInRule i_askHouse i_askTune i_acts i_undone i_laid i_knowns i_time : Int32) (f_text f_tunes f_houses f_hums f_told f_many f_ruleFrom f_ruleTo f_code f_eWhat f_eSign f_all f_kept f_was f_sTune f_boxAll : Nat → Int32) (J : Nat → Nat → Int32) (L : Nat → Nat → Int64) (p1 p2 : Int32) (p0 : Int64) (sz : Nat) (hI : (IM i_taped i_size i_faultKind i_at i_end i_bank i_rb i_acts i_undone i_laid i_knowns i_time f_tunes f_houses f_hums f_told f_many f_ruleFrom f_ruleTo f_code f_all f_kept f_was f_sTune f_boxAll)) (hp0 : p1.toInt ≤ p2.toInt) : Met l yX9_after (.code yX9_after cX9_after 5 (some .int) :: GW) { frames := 8, cells := 0, slots := 0, locals := 287 } (va_Pc [.ref (r 0), .long p0, .int p1, .int p2] (pW (dC, dI) (WM r ct i_taped i_size i_faultKind i_at i_end i_token i_number i_bank i_rb i_codes i_within i_piled i_unitsInRule i_askHouse i_askTune i_acts i_undone i_laid i_knowns i_time f_text f_tunes f_houses f_hums f_told f_many f_ruleFrom f_ruleTo f_code f_eWhat f_eSign f_all f_kept f_was f_sTune f_boxAll J L) (TM ct) sz)) (va_Qi (fun (r0 : Int32) (u : Int32) => r0 = u) (fun (u : Int32) (t : State) => ∃ (n_i_faultKind n_i_at n_i_end n_i_token n_i_number : Int32) (n_J : Nat → Nat → Int32) (n_L : Nat → Nat → Int64), va_P (dC, dI) vwCl (WM r ct i_taped i_size n_i_faultKind n_i_at n_i_end n_i_token n_i_number i_bank i_rb i_codes i_within i_piled i_unitsInRule i_askHouse i_askTune i_acts i_undone i_laid i_knowns i_time f_text f_tunes f_houses f_hums f_told f_many f_ruleFrom f_ruleTo f_code f_eWhat f_eSign f_all f_kept f_was f_sTune f_boxAll n_J n_L) t.heap ∧ va_D (va_A (WM r ct i_taped i_size i_faultKind i_at i_end i_token i_number i_bank i_rb i_codes i_within i_piled i_unitsInRule i_askHouse i_askTune i_acts i_undone i_laid i_knowns i_time f_text f_tunes f_houses f_hums f_told f_many f_ruleFrom f_ruleTo f_code f_eWhat f_eSign f_all f_kept f_was f_sTune f_boxAll J L) sz) (WM r ct i_taped i_size n_i_faultKind n_i_at n_i_end n_i_token n_i_number i_bank i_rb i_codes i_within i_piled i_unitsInRule i_askHouse i_askTune i_acts i_undone i_laid i_knowns i_time f_text f_tunes f_houses f_hums f_told f_many f_ruleFrom f_ruleTo f_code f_eWhat f_eSign f_all f_kept f_was f_sTune f_boxAll n_J n_L) ∧ (IM i_taped i_size n_i_faultKind n_i_at n_i_end i_bank i_rb i_acts i_undone i_laid i_knowns i_time f_tunes f_houses f_hums f_told f_many f_ruleFrom f_ruleTo f_code f_all f_kept f_was f_sTune f_boxAll) ∧ (p1.toInt ≤ u.toInt) ∧ (u.toInt ≤ p2.toInt) ∧ (i_end.toInt ≤ n_i_end.toInt) ∧ (((1 : Int) ≤ n_i_faultKind.toInt) ∨ ((n_i_faultKind.toInt = (0 : Int)) ∧ (i_faultKind.toInt = (0 : Int)) ∧ ((n_i_token.toInt = (0 : Int)) ∨ (i_end.toInt + 1 ≤ n_i_end.toInt))))) (va_A (WM r ct i_taped i_size i_faultKind i_at i_end i_token i_number i_bank i_rb i_codes i_within i_piled i_unitsInRule i_askHouse i_askTune i_acts i_undone i_laid i_knowns i_time f_text f_tunes f_houses f_hums f_told f_many f_ruleFrom f_ruleTo f_code f_eWhat f_eSign f_all f_kept f_was f_sTune f_boxAll J L) sz)) 0 0 (va_A (WM r ct i_taped i_size i_faultKind i_at i_end i_token i_number i_bank i_rb i_codes i_within i_piled i_unitsInRule i_askHouse i_askTune i_acts i_undone i_laid i_knowns i_time f_text f_tunes f_houses f_hums f_told f_many f_ruleFrom f_ruleTo f_code f_eWhat f_eSign f_all f_kept f_was f_sTune f_boxAll J L) sz) := by
  refine Met.ofW (cc := cX9_after) (maxL := 5) (ret := (some .int)) (by decide) rfl ?_
  intro p e s m args below meth c0 s₁ B hml hv
  obtain ⟨rfl, hsz, hP, hK, hD0⟩ := hv
  have hx := B.exec
  have hb := B.bytes
  have hr := B.returns
  have hts := atoms_spec (ws := .code yX9_after cX9_after 5 (some .int) :: GW) B.pre
  have hG : ∀ w ∈ GW, w.before _ s = true := fun w h => hts w (List.mem_cons_of_mem _ h)
  have hown : s.vm.findClass RX9 = some m.cls := findClass_of_methodNamed B.named
  subst hsz
  have hD := hD0.self (sz := s.heap.size)
  generalize hAe : va_A (WM r ct i_taped i_size i_faultKind i_at i_end i_token i_number i_bank i_rb i_codes i_within i_piled i_unitsInRule i_askHouse i_askTune i_acts i_undone i_laid i_knowns i_time f_text f_tunes f_houses f_hums f_told f_many f_ruleFrom f_ruleTo f_code f_eWhat f_eSign f_all f_kept f_was f_sTune f_boxAll J L) s.heap.size = A at hD ⊢
  have hA : ∀ q : Nat, s.heap.size ≤ q → A q := fun q h => by rw [← hAe]; exact Or.inr h
  have hS : va_S A s.heap s.heap [] := va_S.rf
  have hP : va_P (dC, dI) vwCl (WM r ct i_taped i_size i_faultKind i_at i_end i_token i_number i_bank i_rb i_codes i_within i_piled i_unitsInRule i_askHouse i_askTune i_acts i_undone i_laid i_knowns i_time f_text f_tunes f_houses f_hums f_told f_many f_ruleFrom f_ruleTo f_code f_eWhat f_eSign f_all f_kept f_was f_sTune f_boxAll J L) s.heap := hP
  have hl := lv_entry ([.ref (r 0), .long p0, .int p1, .int p2]) (n := 5) (Nat.le_of_ble_eq_true rfl)
  rw [lg_entry_eq]
  generalize (lg_sl ([.ref (r 0), .long p0, .int p1, .int p2]) ++ List.replicate (5 - (lg_sl ([.ref (r 0), .long p0, .int p1, .int p2])).length) Slot.unset).toArray = ls at hl ⊢
  have hl : lv_has ls 5 [(0, .ref (r 0)), (1, .long p0), (3, .int p1), (4, .int p2)] := hl
  refine nameQ (fun Q hQ => ?_)
  obtain ⟨ie0, ie1, ie2, ie3, ie4, ie5, ie6, ie7, ie8, ie9, ie10, ie11, ie12, ie13, ie14, ie15, ie16, ie17, ie18, ie19, ie20, ie21, ie22, ie23, ie24, ie25, ie26, ie27, ie28, ie29, ie30, ie31, ie32⟩ := id hI
  have f1 : 0 ≤ (f_tunes (i_bank.toInt).toNat).toInt ∧ (f_tunes (i_bank.toInt).toNat).toInt ≤ 5 := ie21 (i_bank.toInt)
  have f2 : 0 ≤ (f_houses (i_bank.toInt).toNat).toInt ∧ (f_houses (i_bank.toInt).toNat).toInt ≤ 4 := ie22 (i_bank.toInt)
  refine lv_aload_n hx hb dX9_after_0 rfl (lv_at hl 0 rfl) ?_
  refine lv_aload_n hx hb dX9_after_1 rfl (lv_at hl 0 rfl) ?_
  refine lv_lload_n hx hb dX9_after_2 rfl (lv_at hl 1 rfl) ?_
  refine va_calli (va_runV (As := [.long p0]) (rest := [.ref (r 0)]) ⟨hx, hb, hml, hown, hG⟩ (kX9_isWord l dC dI r ct i_taped i_size i_faultKind i_at i_end i_token i_number i_bank i_rb i_codes i_within i_piled i_unitsInRule i_askHouse i_askTune i_acts i_undone i_laid i_knowns i_time f_text f_tunes f_houses f_hums f_told f_many f_ruleFrom f_ruleTo f_code f_eWhat f_eSign f_all f_kept f_was f_sTune f_boxAll J L p0 s.heap.size hI) (cwV 1 hG (goodV gw1413 gw1415 gw64 gw138 gw1416) rfl rfl rfl hd_X9_isWord ⟨(Nat.le_of_ble_eq_true rfl), (Nat.le_of_ble_eq_true rfl)⟩) ⟨fbR, va_recv hK hP (ci := 8) (q0 := 0) rfl rfl, pR_in hP hK⟩ rfl rfl hl.1 rfl (lv_room (Nat.le_of_ble_eq_true rfl)) dX9_after_3 ⟨(Nat.le_of_ble_eq_true rfl), (Nat.le_of_ble_eq_true rfl)⟩) hS (fun q hq h => absurd hq (Nat.not_lt.mpr h)) (fun q h => hA q (Nat.le_trans hS.1 h)) (fun r_4 u_ t_ H3 locs ht hvm hw hB hz1 hk1 hS => ?_)
  subst hw
  have hP := wk hP hk1
  obtain ⟨f5, f6, f7⟩ := hB
  have hFc := frA hD hS hA
  refine va_callv (va_runV (As := [.int r_4]) (rest := []) ⟨hx, hb, hml, hown, hG⟩ (kX9_must l dC dI r ct i_taped i_size i_faultKind i_at i_end i_token i_number i_bank i_rb i_codes i_within i_piled i_unitsInRule i_askHouse i_askTune i_acts i_undone i_laid i_knowns i_time f_text f_tunes f_houses f_hums f_told f_many f_ruleFrom f_ruleTo f_code f_eWhat f_eSign f_all f_kept f_was f_sTune f_boxAll J L r_4 H3.size hI (ob_242 f6 f7)) (cwV 1 hG (goodV gw1452 gw1454 gw73 gw138 gw1455) rfl rfl rfl hd_X9_must ⟨(Nat.le_of_ble_eq_true rfl), (Nat.le_of_ble_eq_true rfl)⟩) ⟨fbW, va_recv hK hP (ci := 8) (q0 := 0) rfl rfl, pW_in hP hK hD⟩ rfl rfl hl.1 rfl (lv_room (Nat.le_of_ble_eq_true rfl)) dX9_after_6 ⟨(Nat.le_of_ble_eq_true rfl), (Nat.le_of_ble_eq_true rfl)⟩) hS (fun q _ h => hFc q h) hFc (fun _ t_ H8 locs ht hvm hw hB hz1 hk1 hS => ?_)
  obtain ⟨x10, x11, x12, x13, x14, J15, L16, hP1, hD1, hI19, f17, f18⟩ := hB
  rw [ht] at hP1
  have hP := hP1
  have hD := dW hFc hD1
  obtain ⟨im20, im21, im22, im23, im24, im25, im26, im27, im28, im29, im30, im31, im32, im33, im34, im35, im36, im37, im38, im39, im40, im41, im42, im43, im44, im45, im46, im47, im48, im49, im50, im51, im52⟩ := id hI19
  refine lv_aload_n hx hb dX9_after_9 rfl (lv_at hl 0 rfl) ?_
  refine lv_iload_n hx hb dX9_after_10 rfl (lv_at hl 2 rfl) ?_
  refine lv_iload hx hb dX9_after_11 (lv_at hl 3 rfl) ?_
  have hFc := frA hD hS hA
  refine va_calli (va_runV (As := [.int p1, .int p2]) (rest := []) ⟨hx, hb, hml, hown, hG⟩ (kX9_numeral l dC dI r ct i_taped i_size x10 x11 x12 x13 x14 i_bank i_rb i_codes i_within i_piled i_unitsInRule i_askHouse i_askTune i_acts i_undone i_laid i_knowns i_time f_text f_tunes f_houses f_hums f_told f_many f_ruleFrom f_ruleTo f_code f_eWhat f_eSign f_all f_kept f_was f_sTune f_boxAll J15 L16 p1 p2 H8.size hI19 (ob_145 hp0)) (cwV 2 hG (goodV gw1432 gw1434 gw68 gw138 gw1435) rfl rfl rfl hd_X9_numeral ⟨(Nat.le_of_ble_eq_true rfl), (Nat.le_of_ble_eq_true rfl)⟩) ⟨fbW, va_recv hK hP (ci := 8) (q0 := 0) rfl rfl, pW_in hP hK hD⟩ rfl rfl hl.1 rfl (lv_room (Nat.le_of_ble_eq_true rfl)) dX9_after_13 ⟨(Nat.le_of_ble_eq_true rfl), (Nat.le_of_ble_eq_true rfl)⟩) hS (fun q _ h => hFc q h) hFc (fun r_54 u_ t_ H53 locs ht hvm hw hB hz1 hk1 hS => ?_)
  subst hw
  obtain ⟨x55, x56, x57, x58, x59, J60, L61, hP1, hD1, hI66, f62, f63, f64, f65⟩ := hB
  rw [ht] at hP1
  have hP := hP1
  have hD := dW hFc hD1
  obtain ⟨im67, im68, im69, im70, im71, im72, im73, im74, im75, im76, im77, im78, im79, im80, im81, im82, im83, im84, im85, im86, im87, im88, im89, im90, im91, im92, im93, im94, im95, im96, im97, im98, im99⟩ := id hI66
  rw [hQ]
  exact W.iret (v := r_54) hx hb hr (fun t ht hW => ⟨⟨r_54, r_54, rfl, rfl, ⟨x55, x56, x57, x58, x59, J60, L61, by rw [ht]; exact hP, hD, hI66, (ob_236 hp0 f62 f63), (ob_237 hp0 f62 f63), (ob_166 f17 f64), (ob_243 f17 f18 f65)⟩⟩, hS.F ht⟩) hS.2.2 dX9_after_16
set_option maxHeartbeats 4000000 in
set_option maxRecDepth 100000 in
theorem kX9_clearBank (l : Launch) (dC : Nat → ClassId) (dI : Nat → Nat → Nat) (r : Nat → Nat) (ct : Nat → ClassId) (i_taped i_size i_faultKind i_at i_end i_token i_number i_bank i_rb i_codes i_within i_piled i_unitsInRule i_askHouse i_askTune i_acts i_undone i_laid i_knowns i_time : Int32) (f_text f_tunes f_houses f_hums f_told f_many f_ruleFrom f_ruleTo f_code f_eWhat f_eSign f_all f_kept f_was f_sTune f_boxAll : Nat → Int32) (J : Nat → Nat → Int32) (L : Nat → Nat → Int64) (sz : Nat) (hI : (IM i_taped i_size i_faultKind i_at i_end i_bank i_rb i_acts i_undone i_laid i_knowns i_time f_tunes f_houses f_hums f_told f_many f_ruleFrom f_ruleTo f_code f_all f_kept f_was f_sTune f_boxAll)) (hp0 : i_rb.toInt + i_bank.toInt = (1 : Int)) : Met l yX9_clearBank (.code yX9_clearBank cX9_clearBank 1 none :: GW) { frames := 2, cells := 0, slots := 0, locals := 100 } (va_Pc [.ref (r 0)] (pW (dC, dI) (WM r ct i_taped i_size i_faultKind i_at i_end i_token i_number i_bank i_rb i_codes i_within i_piled i_unitsInRule i_askHouse i_askTune i_acts i_undone i_laid i_knowns i_time f_text f_tunes f_houses f_hums f_told f_many f_ruleFrom f_ruleTo f_code f_eWhat f_eSign f_all f_kept f_was f_sTune f_boxAll J L) (TM ct) sz)) (va_Qv (fun _ : Unit => True) (fun (_ : Unit) (t : State) => ∃ (n_i_codes : Int32) (n_f_tunes n_f_houses n_f_hums n_f_told : Nat → Int32) (n_J : Nat → Nat → Int32), va_P (dC, dI) vwCl (WM r ct i_taped i_size i_faultKind i_at i_end i_token i_number i_bank i_rb n_i_codes i_within i_piled i_unitsInRule i_askHouse i_askTune i_acts i_undone i_laid i_knowns i_time f_text n_f_tunes n_f_houses n_f_hums n_f_told f_many f_ruleFrom f_ruleTo f_code f_eWhat f_eSign f_all f_kept f_was f_sTune f_boxAll n_J L) t.heap ∧ va_D (va_A (WM r ct i_taped i_size i_faultKind i_at i_end i_token i_number i_bank i_rb i_codes i_within i_piled i_unitsInRule i_askHouse i_askTune i_acts i_undone i_laid i_knowns i_time f_text f_tunes f_houses f_hums f_told f_many f_ruleFrom f_ruleTo f_code f_eWhat f_eSign f_all f_kept f_was f_sTune f_boxAll J L) sz) (WM r ct i_taped i_size i_faultKind i_at i_end i_token i_number i_bank i_rb n_i_codes i_within i_piled i_unitsInRule i_askHouse i_askTune i_acts i_undone i_laid i_knowns i_time f_text n_f_tunes n_f_houses n_f_hums n_f_told f_many f_ruleFrom f_ruleTo f_code f_eWhat f_eSign f_all f_kept f_was f_sTune f_boxAll n_J L) ∧ (IM i_taped i_size i_faultKind i_at i_end i_bank i_rb i_acts i_undone i_laid i_knowns i_time n_f_tunes n_f_houses n_f_hums n_f_told f_many f_ruleFrom f_ruleTo f_code f_all f_kept f_was f_sTune f_boxAll) ∧ (n_i_codes.toInt = 560 * i_rb.toInt) ∧ (M7 i_rb n_f_tunes f_many) ∧ (RU i_rb n_f_told f_ruleFrom f_ruleTo f_code) ∧ ((¬ BT (n_f_told (i_rb.toInt).toNat) 1 → n_i_codes.toInt = 560 * i_rb.toInt))) (va_A (WM r ct i_taped i_size i_faultKind i_at i_end i_token i_number i_bank i_rb i_codes i_within i_piled i_unitsInRule i_askHouse i_askTune i_acts i_undone i_laid i_knowns i_time f_text f_tunes f_houses f_hums f_told f_many f_ruleFrom f_ruleTo f_code f_eWhat f_eSign f_all f_kept f_was f_sTune f_boxAll J L) sz)) 0 0 (va_A (WM r ct i_taped i_size i_faultKind i_at i_end i_token i_number i_bank i_rb i_codes i_within i_piled i_unitsInRule i_askHouse i_askTune i_acts i_undone i_laid i_knowns i_time f_text f_tunes f_houses f_hums f_told f_many f_ruleFrom f_ruleTo f_code f_eWhat f_eSign f_all f_kept f_was f_sTune f_boxAll J L) sz) := by
  refine Met.ofW (cc := cX9_clearBank) (maxL := 1) (ret := none) (by decide) rfl ?_
  intro p e s m args below meth c0 s₁ B hml hv
  obtain ⟨rfl, hsz, hP, hK, hD0⟩ := hv
  have hx := B.exec
  have hb := B.bytes
  have hr := B.returns
  have hts := atoms_spec (ws := .code yX9_clearBank cX9_clearBank 1 none :: GW) B.pre
  have hG : ∀ w ∈ GW, w.before _ s = true := fun w h => hts w (List.mem_cons_of_mem _ h)
  have hown : s.vm.findClass RX9 = some m.cls := findClass_of_methodNamed B.named
  subst hsz
  have hD := hD0.self (sz := s.heap.size)
  generalize hAe : va_A (WM r ct i_taped i_size i_faultKind i_at i_end i_token i_number i_bank i_rb i_codes i_within i_piled i_unitsInRule i_askHouse i_askTune i_acts i_undone i_laid i_knowns i_time f_text f_tunes f_houses f_hums f_told f_many f_ruleFrom f_ruleTo f_code f_eWhat f_eSign f_all f_kept f_was f_sTune f_boxAll J L) s.heap.size = A at hD ⊢
  have hA : ∀ q : Nat, s.heap.size ≤ q → A q := fun q h => by rw [← hAe]; exact Or.inr h
  have hS : va_S A s.heap s.heap [] := va_S.rf
  have hP : va_P (dC, dI) vwCl (WM r ct i_taped i_size i_faultKind i_at i_end i_token i_number i_bank i_rb i_codes i_within i_piled i_unitsInRule i_askHouse i_askTune i_acts i_undone i_laid i_knowns i_time f_text f_tunes f_houses f_hums f_told f_many f_ruleFrom f_ruleTo f_code f_eWhat f_eSign f_all f_kept f_was f_sTune f_boxAll J L) s.heap := hP
  have hl := lv_entry ([.ref (r 0)]) (n := 1) (Nat.le_of_ble_eq_true rfl)
  rw [lg_entry_eq]
  generalize (lg_sl ([.ref (r 0)]) ++ List.replicate (1 - (lg_sl ([.ref (r 0)])).length) Slot.unset).toArray = ls at hl ⊢
  have hl : lv_has ls 1 [(0, .ref (r 0))] := hl
  refine nameQ (fun Q hQ => ?_)
  obtain ⟨ie0, ie1, ie2, ie3, ie4, ie5, ie6, ie7, ie8, ie9, ie10, ie11, ie12, ie13, ie14, ie15, ie16, ie17, ie18, ie19, ie20, ie21, ie22, ie23, ie24, ie25, ie26, ie27, ie28, ie29, ie30, ie31, ie32⟩ := id hI
  have f1 : 0 ≤ (f_tunes (i_bank.toInt).toNat).toInt ∧ (f_tunes (i_bank.toInt).toNat).toInt ≤ 5 := ie21 (i_bank.toInt)
  have f2 : 0 ≤ (f_houses (i_bank.toInt).toNat).toInt ∧ (f_houses (i_bank.toInt).toNat).toInt ≤ 4 := ie22 (i_bank.toInt)
  refine lv_aload_n hx hb dX9_clearBank_0 rfl (lv_at hl 0 rfl) ?_
  refine gM_X9_20_0 hx hb hG hown hK hP dX9_clearBank_1 ?_
  refine lv_aload_n hx hb dX9_clearBank_4 rfl (lv_at hl 0 rfl) ?_
  refine gM_X9_240_0 hx hb hG hown hK hP dX9_clearBank_5 ?_
  refine lv_iconst (v := 1) hx hb dX9_clearBank_8 (by decide) ?_
  refine stM_3 (mm := i_rb.toInt) hx hb hK hP hD hS rfl (ob_244 ie6 ie7 hp0) (ob_245 ie6 ie7 hp0) dX9_clearBank_9 (fun J4 H3 locs hP hD hS => ?_)
  refine lv_aload_n hx hb dX9_clearBank_10 rfl (lv_at hl 0 rfl) ?_
  refine gM_X9_24_0 hx hb hG hown hK hP dX9_clearBank_11 ?_
  refine lv_aload_n hx hb dX9_clearBank_14 rfl (lv_at hl 0 rfl) ?_
  refine gM_X9_240_0 hx hb hG hown hK hP dX9_clearBank_15 ?_
  refine lv_iconst (v := 0) hx hb dX9_clearBank_18 (by decide) ?_
  refine stM_4 (mm := i_rb.toInt) hx hb hK hP hD hS rfl (ob_244 ie6 ie7 hp0) (ob_245 ie6 ie7 hp0) dX9_clearBank_19 (fun z6 H5 locs ez6 hP hD hS => ?_)
  have g7 : EB 0 5 z6 := ez6 ▸ EB_upd ie21 (by decide) (by decide)
  refine lv_aload_n hx hb dX9_clearBank_20 rfl (lv_at hl 0 rfl) ?_
  refine gM_X9_27_0 hx hb hG hown hK hP dX9_clearBank_21 ?_
  refine lv_aload_n hx hb dX9_clearBank_24 rfl (lv_at hl 0 rfl) ?_
  refine gM_X9_240_0 hx hb hG hown hK hP dX9_clearBank_25 ?_
  refine lv_iconst (v := 0) hx hb dX9_clearBank_28 (by decide) ?_
  refine stM_5 (mm := i_rb.toInt) hx hb hK hP hD hS rfl (ob_244 ie6 ie7 hp0) (ob_245 ie6 ie7 hp0) dX9_clearBank_29 (fun z9 H8 locs ez9 hP hD hS => ?_)
  have g10 : EB 0 4 z9 := ez9 ▸ EB_upd ie22 (by decide) (by decide)
  refine lv_aload_n hx hb dX9_clearBank_30 rfl (lv_at hl 0 rfl) ?_
  refine gM_X9_30_0 hx hb hG hown hK hP dX9_clearBank_31 ?_
  refine lv_aload_n hx hb dX9_clearBank_34 rfl (lv_at hl 0 rfl) ?_
  refine gM_X9_240_0 hx hb hG hown hK hP dX9_clearBank_35 ?_
  refine lv_iconst (v := 0) hx hb dX9_clearBank_38 (by decide) ?_
  refine stM_6 (mm := i_rb.toInt) hx hb hK hP hD hS rfl (ob_244 ie6 ie7 hp0) (ob_245 ie6 ie7 hp0) dX9_clearBank_39 (fun J12 H11 locs hP hD hS => ?_)
  refine lv_aload_n hx hb dX9_clearBank_40 rfl (lv_at hl 0 rfl) ?_
  refine gM_X9_33_0 hx hb hG hown hK hP dX9_clearBank_41 ?_
  refine lv_aload_n hx hb dX9_clearBank_44 rfl (lv_at hl 0 rfl) ?_
  refine gM_X9_240_0 hx hb hG hown hK hP dX9_clearBank_45 ?_
  refine lv_iconst (v := 0) hx hb dX9_clearBank_48 (by decide) ?_
  refine stM_7 (mm := i_rb.toInt) hx hb hK hP hD hS rfl (ob_244 ie6 ie7 hp0) (ob_245 ie6 ie7 hp0) dX9_clearBank_49 (fun z14 H13 locs ez14 hP hD hS => ?_)
  have g15 : EB 0 100 z14 := ez14 ▸ EB_upd ie24 (by decide) (by decide)
  refine lv_aload_n hx hb dX9_clearBank_50 rfl (lv_at hl 0 rfl) ?_
  refine gM_X9_36_0 hx hb hG hown hK hP dX9_clearBank_51 ?_
  refine lv_aload_n hx hb dX9_clearBank_54 rfl (lv_at hl 0 rfl) ?_
  refine gM_X9_240_0 hx hb hG hown hK hP dX9_clearBank_55 ?_
  refine lv_iconst (v := 0) hx hb dX9_clearBank_58 (by decide) ?_
  refine stM_8 (mm := i_rb.toInt) hx hb hK hP hD hS rfl (ob_244 ie6 ie7 hp0) (ob_245 ie6 ie7 hp0) dX9_clearBank_59 (fun J17 H16 locs hP hD hS => ?_)
  refine lv_aload_n hx hb dX9_clearBank_60 rfl (lv_at hl 0 rfl) ?_
  refine gM_X9_39_0 hx hb hG hown hK hP dX9_clearBank_61 ?_
  refine lv_aload_n hx hb dX9_clearBank_64 rfl (lv_at hl 0 rfl) ?_
  refine gM_X9_240_0 hx hb hG hown hK hP dX9_clearBank_65 ?_
  refine lv_iconst (v := 0) hx hb dX9_clearBank_68 (by decide) ?_
  refine stM_9 (mm := i_rb.toInt) hx hb hK hP hD hS rfl (ob_244 ie6 ie7 hp0) (ob_245 ie6 ie7 hp0) dX9_clearBank_69 (fun z19 H18 locs ez19 hP hD hS => ?_)
  have g20 : EB 0 15 z19 := ez19 ▸ EB_upd ie25 (by decide) (by decide)
  refine lv_aload_n hx hb dX9_clearBank_70 rfl (lv_at hl 0 rfl) ?_
  refine lv_sipush (v := 560) hx hb dX9_clearBank_71 (by decide) ?_
  refine lv_aload_n hx hb dX9_clearBank_74 rfl (lv_at hl 0 rfl) ?_
  refine gM_X9_240_0 hx hb hG hown hK hP dX9_clearBank_75 ?_
  refine lv_imul hx hb dX9_clearBank_78 ?_
  refine lv_topi (fun x21 ex21 => ?_)
  have f22 : x21.toInt = 560 * i_rb.toInt := (ob_248 (qi_mul ex21 zc_560 rfl (ob_246 ie6 ie7 hp0) (ob_247 ie6 ie7 hp0)))
  refine pM_X9_243_0 hx hb hG hown hK hP hD hS dX9_clearBank_79 (fun H23 locs hP hD hS => ?_)
  rw [hQ]
  exact W.vret hx hb hr (fun t ht hW => ⟨⟨(), rfl, trivial, ⟨x21, z6, z9, z14, z19, J17, by rw [ht]; exact hP, hD, ⟨ie0, ie1, ie2, ie3, ie4, ie5, ie6, ie7, ie8, ie9, ie10, ie11, ie12, ie13, ie14, ie15, ie16, ie17, ie18, ie19, ie20, g7, g10, ie23, g15, g20, ie26, ie27, ie28, ie29, ie30, (M7_tunes ie31 ez6 (ob_244 ie6 ie7 hp0) (ob_249 ie4 ie5 hp0) (ob_250 hp0)), (RU_told ie32 ez19 (ob_244 ie6 ie7 hp0) (ob_249 ie4 ie5 hp0) (ob_250 hp0))⟩, (ob_248 f22), (M7_zero ez6 zc_0), (RU_zero ez19), (fun _ => (ob_248 f22))⟩⟩, hS.F ht⟩) hS.2.2 dX9_clearBank_82
set_option maxHeartbeats 4000000 in
set_option maxRecDepth 100000 in
theorem kX9_bit (l : Launch) (dC : Nat → ClassId) (dI : Nat → Nat → Nat) (p0 p1 : Int32) (sz : Nat) : Met l yX9_bit (.code yX9_bit cX9_bit 2 (some .boolean) :: GW) { frames := 2, cells := 0, slots := 0, locals := 100 } (va_Pc [.int p0, .int p1] (pR (dC, dI) [] [] sz)) (va_Qi (fun (r0 : Int32) (u : Int32) => r0 = u) (fun (u : Int32) (t : State) => ((0 : Int) ≤ u.toInt) ∧ (u.toInt ≤ (1 : Int)) ∧ (u.toInt = 1 → BT p0 p1) ∧ (u.toInt = 0 → ¬ BT p0 p1)) (fun q => sz ≤ q)) 0 0 (fun q => sz ≤ q) := by
  refine Met.ofW (cc := cX9_bit) (maxL := 2) (ret := (some .boolean)) (by decide) rfl ?_
  intro p e s m args below meth c0 s₁ B hml hv
  obtain ⟨rfl, hsz, hP, hK⟩ := hv
  have hx := B.exec
  have hb := B.bytes
  have hr := B.returns
  have hts := atoms_spec (ws := .code yX9_bit cX9_bit 2 (some .boolean) :: GW) B.pre
  have hG : ∀ w ∈ GW, w.before _ s = true := fun w h => hts w (List.mem_cons_of_mem _ h)
  have hown : s.vm.findClass RX9 = some m.cls := findClass_of_methodNamed B.named
  subst hsz
  have hS : va_S (fun q => s.heap.size ≤ q) s.heap s.heap [] := va_S.rf
  have hP : va_P (dC, dI) vwCl [] s.heap := hP
  have hl := lv_entry ([.int p0, .int p1]) (n := 2) (Nat.le_of_ble_eq_true rfl)
  rw [lg_entry_eq]
  generalize (lg_sl ([.int p0, .int p1]) ++ List.replicate (2 - (lg_sl ([.int p0, .int p1])).length) Slot.unset).toArray = ls at hl ⊢
  have hl : lv_has ls 2 [(0, .int p0), (1, .int p1)] := hl
  refine nameQ (fun Q hQ => ?_)
  refine lv_iload_n hx hb dX9_bit_0 rfl (lv_at hl 0 rfl) ?_
  refine lv_iload_n hx hb dX9_bit_1 rfl (lv_at hl 1 rfl) ?_
  refine lv_ishr hx hb dX9_bit_2 ?_
  refine lv_topi (fun x1 ex1 => ?_)
  refine lv_iconst (v := 1) hx hb dX9_bit_3 (by decide) ?_
  refine lv_iand hx hb dX9_bit_4 ?_
  refine lv_topi (fun x2 ex2 => ?_)
  refine lv_iconst (v := 1) hx hb dX9_bit_5 (by decide) ?_
  refine lv_icmp_ne (tgt := 13) hx hb dX9_bit_6 (by decide) (fun c_3 => ?_) (fun c_3 => ?_)
  · skip
    have f4 : x2.toInt ≠ 1 := qi_ne c_3 rfl zc_1
    refine lv_iconst (v := 0) hx hb dX9_bit_13 (by decide) ?_
    rw [hQ]
    exact W.zret (v := 0) hx hb hr (by decide) (fun t ht hW => ⟨⟨0, 0, rfl, rfl, ⟨(ob_1 zc_0), (ob_11 zc_0), (fun h => absurd h (by decide)), (fun _ => (by unfold BT; rw [← ex1, ← ex2]; exact toN1 f4))⟩⟩, hS.F ht⟩) hS.2.2 dX9_bit_14
  · skip
    have f5 : x2.toInt = 1 := qi_eq c_3 rfl zc_1
    refine lv_iconst (v := 1) hx hb dX9_bit_9 (by decide) ?_
    refine lv_goto (tgt := 14) hx hb dX9_bit_10 (by decide) ?_
    rw [hQ]
    exact W.zret (v := 1) hx hb hr (by decide) (fun t ht hW => ⟨⟨1, 1, rfl, rfl, ⟨(ob_14 zc_1), (ob_15 zc_1), (fun _ => (by unfold BT; rw [← ex1, ← ex2]; exact toI1 f5)), (fun h => absurd h (by decide))⟩⟩, hS.F ht⟩) hS.2.2 dX9_bit_14
set_option maxHeartbeats 4000000 in
set_option maxRecDepth 100000 in
theorem kX9_isFull (l : Launch) (dC : Nat → ClassId) (dI : Nat → Nat → Nat) (r : Nat → Nat) (ct : Nat → ClassId) (i_taped i_size i_faultKind i_at i_end i_token i_number i_bank i_rb i_codes i_within i_piled i_unitsInRule i_askHouse i_askTune i_acts i_undone i_laid i_knowns i_time : Int32) (f_text f_tunes f_houses f_hums f_told f_many f_ruleFrom f_ruleTo f_code f_eWhat f_eSign f_all f_kept f_was f_sTune f_boxAll : Nat → Int32) (J : Nat → Nat → Int32) (L : Nat → Nat → Int64) (sz : Nat) (hI : (IM i_taped i_size i_faultKind i_at i_end i_bank i_rb i_acts i_undone i_laid i_knowns i_time f_tunes f_houses f_hums f_told f_many f_ruleFrom f_ruleTo f_code f_all f_kept f_was f_sTune f_boxAll)) (hp0 : i_token.toInt = (3 : Int)) : Met l yX9_isFull (.code yX9_isFull cX9_isFull 1 (some .boolean) :: GW) { frames := 4, cells := 0, slots := 0, locals := 162 } (va_Pc [.ref (r 0)] (pR (dC, dI) (WM r ct i_taped i_size i_faultKind i_at i_end i_token i_number i_bank i_rb i_codes i_within i_piled i_unitsInRule i_askHouse i_askTune i_acts i_undone i_laid i_knowns i_time f_text f_tunes f_houses f_hums f_told f_many f_ruleFrom f_ruleTo f_code f_eWhat f_eSign f_all f_kept f_was f_sTune f_boxAll J L) (TM ct) sz)) (va_Qi (fun (r0 : Int32) (u : Int32) => r0 = u) (fun (u : Int32) (t : State) => ((0 : Int) ≤ u.toInt) ∧ (u.toInt ≤ (1 : Int)) ∧ ((u.toInt = (0 : Int)) → (((L 0 0).toInt = (1953853029 : Int)) → ((f_tunes (i_rb.toInt).toNat).toInt ≤ (4 : Int)))) ∧ ((u.toInt = (0 : Int)) → (((L 0 0).toInt = (448546567013 : Int)) → ((f_houses (i_rb.toInt).toNat).toInt ≤ (3 : Int)))) ∧ ((u.toInt = 0 → (L 0 0).toInt = 1735156068 → ¬ BT (f_told (i_rb.toInt).toNat) 1))) (fun q => sz ≤ q)) 0 0 (fun q => sz ≤ q) := by
  refine Met.ofW (cc := cX9_isFull) (maxL := 1) (ret := (some .boolean)) (by decide) rfl ?_
  intro p e s m args below meth c0 s₁ B hml hv
  obtain ⟨rfl, hsz, hP, hK⟩ := hv
  have hx := B.exec
  have hb := B.bytes
  have hr := B.returns
  have hts := atoms_spec (ws := .code yX9_isFull cX9_isFull 1 (some .boolean) :: GW) B.pre
  have hG : ∀ w ∈ GW, w.before _ s = true := fun w h => hts w (List.mem_cons_of_mem _ h)
  have hown : s.vm.findClass RX9 = some m.cls := findClass_of_methodNamed B.named
  subst hsz
  have hS : va_S (fun q => s.heap.size ≤ q) s.heap s.heap [] := va_S.rf
  have hP : va_P (dC, dI) vwCl (WM r ct i_taped i_size i_faultKind i_at i_end i_token i_number i_bank i_rb i_codes i_within i_piled i_unitsInRule i_askHouse i_askTune i_acts i_undone i_laid i_knowns i_time f_text f_tunes f_houses f_hums f_told f_many f_ruleFrom f_ruleTo f_code f_eWhat f_eSign f_all f_kept f_was f_sTune f_boxAll J L) s.heap := hP
  have hl := lv_entry ([.ref (r 0)]) (n := 1) (Nat.le_of_ble_eq_true rfl)
  rw [lg_entry_eq]
  generalize (lg_sl ([.ref (r 0)]) ++ List.replicate (1 - (lg_sl ([.ref (r 0)])).length) Slot.unset).toArray = ls at hl ⊢
  have hl : lv_has ls 1 [(0, .ref (r 0))] := hl
  refine nameQ (fun Q hQ => ?_)
  obtain ⟨ie0, ie1, ie2, ie3, ie4, ie5, ie6, ie7, ie8, ie9, ie10, ie11, ie12, ie13, ie14, ie15, ie16, ie17, ie18, ie19, ie20, ie21, ie22, ie23, ie24, ie25, ie26, ie27, ie28, ie29, ie30, ie31, ie32⟩ := id hI
  have f1 : 0 ≤ (f_tunes (i_bank.toInt).toNat).toInt ∧ (f_tunes (i_bank.toInt).toNat).toInt ≤ 5 := ie21 (i_bank.toInt)
  have f2 : 0 ≤ (f_houses (i_bank.toInt).toNat).toInt ∧ (f_houses (i_bank.toInt).toNat).toInt ≤ 4 := ie22 (i_bank.toInt)
  refine lv_aload_n hx hb dX9_isFull_0 rfl (lv_at hl 0 rfl) ?_
  refine lv_ldc2 (v := 7021235455869215084) hx hb hown (hG _ gw1376) dX9_isFull_1 ?_
  refine va_calli (va_runV (As := [.long (7021235455869215084 : Int64)]) (rest := []) ⟨hx, hb, hml, hown, hG⟩ (kX9_isWord l dC dI r ct i_taped i_size i_faultKind i_at i_end i_token i_number i_bank i_rb i_codes i_within i_piled i_unitsInRule i_askHouse i_askTune i_acts i_undone i_laid i_knowns i_time f_text f_tunes f_houses f_hums f_told f_many f_ruleFrom f_ruleTo f_code f_eWhat f_eSign f_all f_kept f_was f_sTune f_boxAll J L (7021235455869215084 : Int64) s.heap.size hI) (cwV 1 hG (goodV gw1413 gw1415 gw64 gw138 gw1416) rfl rfl rfl hd_X9_isWord ⟨(Nat.le_of_ble_eq_true rfl), (Nat.le_of_ble_eq_true rfl)⟩) ⟨fbR, va_recv hK hP (ci := 8) (q0 := 0) rfl rfl, pR_in hP hK⟩ rfl rfl hl.1 rfl (lv_room (Nat.le_of_ble_eq_true rfl)) dX9_isFull_4 ⟨(Nat.le_of_ble_eq_true rfl), (Nat.le_of_ble_eq_true rfl)⟩) hS (fun q hq h => absurd hq (Nat.not_lt.mpr h)) (fun q h => Nat.le_trans hS.1 h) (fun r_4 u_ t_ H3 locs ht hvm hw hB hz1 hk1 hS => ?_)
  subst hw
  have hP := wk hP hk1
  obtain ⟨f5, f6, f7⟩ := hB
  refine lv_if_eq (tgt := 24) hx hb dX9_isFull_7 (by decide) (fun c_8 => ?_) (fun c_8 => ?_)
  · skip
    have f9 : r_4.toInt = 0 := qi_eq c_8 rfl zc_0
    have f10 : i_token.toInt = (3 : Int) := (ob_251 hp0)
    have f11 : (L 0 0).toInt ≠ (7021235455869215084 : Int) := (ob_252 hp0 f5 f9 zl_7021235455869215084)
    have f12 : r_4.toInt = (0 : Int) := (ob_226 f6 f7 f9)
    refine lv_aload_n hx hb dX9_isFull_24 rfl (lv_at hl 0 rfl) ?_
    refine lv_ldc2 (v := 1953853029) hx hb hown (hG _ gw1377) dX9_isFull_25 ?_
    refine va_calli (va_runV (As := [.long (1953853029 : Int64)]) (rest := []) ⟨hx, hb, hml, hown, hG⟩ (kX9_isWord l dC dI r ct i_taped i_size i_faultKind i_at i_end i_token i_number i_bank i_rb i_codes i_within i_piled i_unitsInRule i_askHouse i_askTune i_acts i_undone i_laid i_knowns i_time f_text f_tunes f_houses f_hums f_told f_many f_ruleFrom f_ruleTo f_code f_eWhat f_eSign f_all f_kept f_was f_sTune f_boxAll J L (1953853029 : Int64) H3.size hI) (cwV 1 hG (goodV gw1413 gw1415 gw64 gw138 gw1416) rfl rfl rfl hd_X9_isWord ⟨(Nat.le_of_ble_eq_true rfl), (Nat.le_of_ble_eq_true rfl)⟩) ⟨fbR, va_recv hK hP (ci := 8) (q0 := 0) rfl rfl, pR_in hP hK⟩ rfl rfl hl.1 rfl (lv_room (Nat.le_of_ble_eq_true rfl)) dX9_isFull_28 ⟨(Nat.le_of_ble_eq_true rfl), (Nat.le_of_ble_eq_true rfl)⟩) hS (fun q hq h => absurd hq (Nat.not_lt.mpr h)) (fun q h => Nat.le_trans hS.1 h) (fun r_14 u_ t_ H13 locs ht hvm hw hB hz1 hk1 hS => ?_)
    subst hw
    have hP := wk hP hk1
    obtain ⟨f15, f16, f17⟩ := hB
    refine lv_if_eq (tgt := 53) hx hb dX9_isFull_31 (by decide) (fun c_18 => ?_) (fun c_18 => ?_)
    · skip
      have f19 : r_14.toInt = 0 := qi_eq c_18 rfl zc_0
      have f20 : i_token.toInt = (3 : Int) := (ob_251 hp0)
      have f21 : (L 0 0).toInt ≠ (1953853029 : Int) := (ob_253 hp0 f15 f19 zl_1953853029)
      have f22 : r_14.toInt = (0 : Int) := (ob_226 f16 f17 f19)
      refine lv_aload_n hx hb dX9_isFull_53 rfl (lv_at hl 0 rfl) ?_
      refine lv_ldc2 (v := 448546567013) hx hb hown (hG _ gw1380) dX9_isFull_54 ?_
      refine va_calli (va_runV (As := [.long (448546567013 : Int64)]) (rest := []) ⟨hx, hb, hml, hown, hG⟩ (kX9_isWord l dC dI r ct i_taped i_size i_faultKind i_at i_end i_token i_number i_bank i_rb i_codes i_within i_piled i_unitsInRule i_askHouse i_askTune i_acts i_undone i_laid i_knowns i_time f_text f_tunes f_houses f_hums f_told f_many f_ruleFrom f_ruleTo f_code f_eWhat f_eSign f_all f_kept f_was f_sTune f_boxAll J L (448546567013 : Int64) H13.size hI) (cwV 1 hG (goodV gw1413 gw1415 gw64 gw138 gw1416) rfl rfl rfl hd_X9_isWord ⟨(Nat.le_of_ble_eq_true rfl), (Nat.le_of_ble_eq_true rfl)⟩) ⟨fbR, va_recv hK hP (ci := 8) (q0 := 0) rfl rfl, pR_in hP hK⟩ rfl rfl hl.1 rfl (lv_room (Nat.le_of_ble_eq_true rfl)) dX9_isFull_57 ⟨(Nat.le_of_ble_eq_true rfl), (Nat.le_of_ble_eq_true rfl)⟩) hS (fun q hq h => absurd hq (Nat.not_lt.mpr h)) (fun q h => Nat.le_trans hS.1 h) (fun r_24 u_ t_ H23 locs ht hvm hw hB hz1 hk1 hS => ?_)
      subst hw
      have hP := wk hP hk1
      obtain ⟨f25, f26, f27⟩ := hB
      refine lv_if_eq (tgt := 82) hx hb dX9_isFull_60 (by decide) (fun c_28 => ?_) (fun c_28 => ?_)
      · skip
        have f29 : r_24.toInt = 0 := qi_eq c_28 rfl zc_0
        have f30 : i_token.toInt = (3 : Int) := (ob_251 hp0)
        have f31 : (L 0 0).toInt ≠ (448546567013 : Int) := (ob_254 hp0 f25 f29 zl_448546567013)
        have f32 : r_24.toInt = (0 : Int) := (ob_226 f26 f27 f29)
        refine lv_aload_n hx hb dX9_isFull_82 rfl (lv_at hl 0 rfl) ?_
        refine lv_ldc2 (v := 1735156068) hx hb hown (hG _ gw1384) dX9_isFull_83 ?_
        refine va_calli (va_runV (As := [.long (1735156068 : Int64)]) (rest := []) ⟨hx, hb, hml, hown, hG⟩ (kX9_isWord l dC dI r ct i_taped i_size i_faultKind i_at i_end i_token i_number i_bank i_rb i_codes i_within i_piled i_unitsInRule i_askHouse i_askTune i_acts i_undone i_laid i_knowns i_time f_text f_tunes f_houses f_hums f_told f_many f_ruleFrom f_ruleTo f_code f_eWhat f_eSign f_all f_kept f_was f_sTune f_boxAll J L (1735156068 : Int64) H23.size hI) (cwV 1 hG (goodV gw1413 gw1415 gw64 gw138 gw1416) rfl rfl rfl hd_X9_isWord ⟨(Nat.le_of_ble_eq_true rfl), (Nat.le_of_ble_eq_true rfl)⟩) ⟨fbR, va_recv hK hP (ci := 8) (q0 := 0) rfl rfl, pR_in hP hK⟩ rfl rfl hl.1 rfl (lv_room (Nat.le_of_ble_eq_true rfl)) dX9_isFull_86 ⟨(Nat.le_of_ble_eq_true rfl), (Nat.le_of_ble_eq_true rfl)⟩) hS (fun q hq h => absurd hq (Nat.not_lt.mpr h)) (fun q h => Nat.le_trans hS.1 h) (fun r_34 u_ t_ H33 locs ht hvm hw hB hz1 hk1 hS => ?_)
        subst hw
        have hP := wk hP hk1
        obtain ⟨f35, f36, f37⟩ := hB
        refine lv_if_eq (tgt := 106) hx hb dX9_isFull_89 (by decide) (fun c_38 => ?_) (fun c_38 => ?_)
        · skip
          have f39 : r_34.toInt = 0 := qi_eq c_38 rfl zc_0
          have f40 : i_token.toInt = (3 : Int) := (ob_251 hp0)
          have f41 : (L 0 0).toInt ≠ (1735156068 : Int) := (ob_255 hp0 f35 f39 zl_1735156068)
          have f42 : r_34.toInt = (0 : Int) := (ob_226 f36 f37 f39)
          refine lv_aload_n hx hb dX9_isFull_106 rfl (lv_at hl 0 rfl) ?_
          refine lv_ldc2 (v := 1752526195) hx hb hown (hG _ gw1385) dX9_isFull_107 ?_
          refine va_calli (va_runV (As := [.long (1752526195 : Int64)]) (rest := []) ⟨hx, hb, hml, hown, hG⟩ (kX9_isWord l dC dI r ct i_taped i_size i_faultKind i_at i_end i_token i_number i_bank i_rb i_codes i_within i_piled i_unitsInRule i_askHouse i_askTune i_acts i_undone i_laid i_knowns i_time f_text f_tunes f_houses f_hums f_told f_many f_ruleFrom f_ruleTo f_code f_eWhat f_eSign f_all f_kept f_was f_sTune f_boxAll J L (1752526195 : Int64) H33.size hI) (cwV 1 hG (goodV gw1413 gw1415 gw64 gw138 gw1416) rfl rfl rfl hd_X9_isWord ⟨(Nat.le_of_ble_eq_true rfl), (Nat.le_of_ble_eq_true rfl)⟩) ⟨fbR, va_recv hK hP (ci := 8) (q0 := 0) rfl rfl, pR_in hP hK⟩ rfl rfl hl.1 rfl (lv_room (Nat.le_of_ble_eq_true rfl)) dX9_isFull_110 ⟨(Nat.le_of_ble_eq_true rfl), (Nat.le_of_ble_eq_true rfl)⟩) hS (fun q hq h => absurd hq (Nat.not_lt.mpr h)) (fun q h => Nat.le_trans hS.1 h) (fun r_44 u_ t_ H43 locs ht hvm hw hB hz1 hk1 hS => ?_)
          subst hw
          have hP := wk hP hk1
          obtain ⟨f45, f46, f47⟩ := hB
          refine lv_if_eq (tgt := 130) hx hb dX9_isFull_113 (by decide) (fun c_48 => ?_) (fun c_48 => ?_)
          · skip
            have f49 : r_44.toInt = 0 := qi_eq c_48 rfl zc_0
            have f50 : i_token.toInt = (3 : Int) := (ob_251 hp0)
            have f51 : (L 0 0).toInt ≠ (1752526195 : Int) := (ob_256 hp0 f45 f49 zl_1752526195)
            have f52 : r_44.toInt = (0 : Int) := (ob_226 f46 f47 f49)
            refine lv_aload_n hx hb dX9_isFull_130 rfl (lv_at hl 0 rfl) ?_
            refine lv_ldc2 (v := 1685217655) hx hb hown (hG _ gw1386) dX9_isFull_131 ?_
            refine va_calli (va_runV (As := [.long (1685217655 : Int64)]) (rest := []) ⟨hx, hb, hml, hown, hG⟩ (kX9_isWord l dC dI r ct i_taped i_size i_faultKind i_at i_end i_token i_number i_bank i_rb i_codes i_within i_piled i_unitsInRule i_askHouse i_askTune i_acts i_undone i_laid i_knowns i_time f_text f_tunes f_houses f_hums f_told f_many f_ruleFrom f_ruleTo f_code f_eWhat f_eSign f_all f_kept f_was f_sTune f_boxAll J L (1685217655 : Int64) H43.size hI) (cwV 1 hG (goodV gw1413 gw1415 gw64 gw138 gw1416) rfl rfl rfl hd_X9_isWord ⟨(Nat.le_of_ble_eq_true rfl), (Nat.le_of_ble_eq_true rfl)⟩) ⟨fbR, va_recv hK hP (ci := 8) (q0 := 0) rfl rfl, pR_in hP hK⟩ rfl rfl hl.1 rfl (lv_room (Nat.le_of_ble_eq_true rfl)) dX9_isFull_134 ⟨(Nat.le_of_ble_eq_true rfl), (Nat.le_of_ble_eq_true rfl)⟩) hS (fun q hq h => absurd hq (Nat.not_lt.mpr h)) (fun q h => Nat.le_trans hS.1 h) (fun r_54 u_ t_ H53 locs ht hvm hw hB hz1 hk1 hS => ?_)
            subst hw
            have hP := wk hP hk1
            obtain ⟨f55, f56, f57⟩ := hB
            refine lv_if_eq (tgt := 156) hx hb dX9_isFull_137 (by decide) (fun c_58 => ?_) (fun c_58 => ?_)
            · skip
              have f59 : r_54.toInt = 0 := qi_eq c_58 rfl zc_0
              have f60 : i_token.toInt = (3 : Int) := (ob_251 hp0)
              have f61 : (L 0 0).toInt ≠ (1685217655 : Int) := (ob_257 hp0 f55 f59 zl_1685217655)
              have f62 : r_54.toInt = (0 : Int) := (ob_226 f56 f57 f59)
              refine lv_iconst (v := 1) hx hb dX9_isFull_156 (by decide) ?_
              refine lv_goto (tgt := 161) hx hb dX9_isFull_157 (by decide) ?_
              rw [hQ]
              exact W.zret (v := 1) hx hb hr (by decide) (fun t ht hW => ⟨⟨1, 1, rfl, rfl, ⟨(ob_14 zc_1), (ob_15 zc_1), (ob_258 zc_1), (ob_259 zc_1), (fun h1 h2 => ((ob_260 h1 h2 zc_1)).elim)⟩⟩, hS.F ht⟩) hS.2.2 dX9_isFull_161
            · skip
              have f63 : r_54.toInt ≠ 0 := qi_ne c_58 rfl zc_0
              have f64 : i_token.toInt = (3 : Int) := (ob_251 hp0)
              have f65 : (L 0 0).toInt = (1685217655 : Int) := (ob_261 f55 f63 zl_1685217655)
              have f66 : r_54.toInt = (1 : Int) := (ob_262 f55 f63 zl_1685217655)
              have f67 : (1 : Int) ≤ r_54.toInt := (ob_162 f56 f57 f66)
              refine lv_aload_n hx hb dX9_isFull_140 rfl (lv_at hl 0 rfl) ?_
              refine gM_X9_39_0 hx hb hG hown hK hP dX9_isFull_141 ?_
              refine lv_aload_n hx hb dX9_isFull_144 rfl (lv_at hl 0 rfl) ?_
              refine gM_X9_240_0 hx hb hG hown hK hP dX9_isFull_145 ?_
              refine ldM_9 (mm := i_rb.toInt) hx hb hK hP rfl (ob_263 ie6 ie7) (ob_264 ie6 ie7) dX9_isFull_148 ?_
              have f68 : 0 ≤ (f_told (i_rb.toInt).toNat).toInt ∧ (f_told (i_rb.toInt).toNat).toInt ≤ 15 := ie25 (i_rb.toInt)
              refine lv_iconst (v := 3) hx hb dX9_isFull_149 (by decide) ?_
              refine va_calli (va_runS (As := [.int (f_told (i_rb.toInt).toNat), .int 3]) (rest := []) ⟨hx, hb, hml, hown, hG⟩ (kX9_bit l dC dI (f_told (i_rb.toInt).toNat) 3 H53.size) (va_cwS 2 hG (goodS gw1417 gw1418 gw138 gw1419) rfl rfl rfl hd_X9_bit ⟨(Nat.le_of_ble_eq_true rfl), (Nat.le_of_ble_eq_true rfl)⟩) ⟨fbR, pR_in emptyP (emptyK hK)⟩ rfl rfl hl.1 rfl (lv_room (Nat.le_of_ble_eq_true rfl)) dX9_isFull_150 ⟨(Nat.le_of_ble_eq_true rfl), (Nat.le_of_ble_eq_true rfl)⟩) hS (fun q hq h => absurd hq (Nat.not_lt.mpr h)) (fun q h => Nat.le_trans hS.1 h) (fun r_70 u_ t_ H69 locs ht hvm hw hB hz1 hk1 hS => ?_)
              subst hw
              have hP := wk hP hk1
              obtain ⟨f71, f72, f73, f74⟩ := hB
              refine lv_if_eq (tgt := 160) hx hb dX9_isFull_153 (by decide) (fun c_75 => ?_) (fun c_75 => ?_)
              · skip
                have f76 : r_70.toInt = 0 := qi_eq c_75 rfl zc_0
                refine lv_iconst (v := 0) hx hb dX9_isFull_160 (by decide) ?_
                rw [hQ]
                exact W.zret (v := 0) hx hb hr (by decide) (fun t ht hW => ⟨⟨0, 0, rfl, rfl, ⟨(ob_1 zc_0), (ob_11 zc_0), (ob_265 f65 zc_0), (ob_266 f65 zc_0), (fun h1 h2 => ((ob_267 h1 h2 hp0 f35 f39 zl_1735156068)).elim)⟩⟩, hS.F ht⟩) hS.2.2 dX9_isFull_161
              · skip
                have f77 : r_70.toInt ≠ 0 := qi_ne c_75 rfl zc_0
                have f78 : (1 : Int) ≤ r_70.toInt := (ob_157 f71 f72 f77)
                refine lv_iconst (v := 1) hx hb dX9_isFull_156 (by decide) ?_
                refine lv_goto (tgt := 161) hx hb dX9_isFull_157 (by decide) ?_
                rw [hQ]
                exact W.zret (v := 1) hx hb hr (by decide) (fun t ht hW => ⟨⟨1, 1, rfl, rfl, ⟨(ob_14 zc_1), (ob_15 zc_1), (ob_268 f65 zc_1), (ob_269 f65 zc_1), (fun h1 h2 => ((ob_260 h1 h2 zc_1)).elim)⟩⟩, hS.F ht⟩) hS.2.2 dX9_isFull_161
          · skip
            have f79 : r_44.toInt ≠ 0 := qi_ne c_48 rfl zc_0
            have f80 : i_token.toInt = (3 : Int) := (ob_251 hp0)
            have f81 : (L 0 0).toInt = (1752526195 : Int) := (ob_270 f45 f79 zl_1752526195)
            have f82 : r_44.toInt = (1 : Int) := (ob_271 f45 f79 zl_1752526195)
            have f83 : (1 : Int) ≤ r_44.toInt := (ob_162 f46 f47 f82)
            refine lv_aload_n hx hb dX9_isFull_116 rfl (lv_at hl 0 rfl) ?_
            refine gM_X9_39_0 hx hb hG hown hK hP dX9_isFull_117 ?_
            refine lv_aload_n hx hb dX9_isFull_120 rfl (lv_at hl 0 rfl) ?_
            refine gM_X9_240_0 hx hb hG hown hK hP dX9_isFull_121 ?_
            refine ldM_9 (mm := i_rb.toInt) hx hb hK hP rfl (ob_263 ie6 ie7) (ob_264 ie6 ie7) dX9_isFull_124 ?_
            have f84 : 0 ≤ (f_told (i_rb.toInt).toNat).toInt ∧ (f_told (i_rb.toInt).toNat).toInt ≤ 15 := ie25 (i_rb.toInt)
            refine lv_iconst (v := 2) hx hb dX9_isFull_125 (by decide) ?_
            refine va_calli (va_runS (As := [.int (f_told (i_rb.toInt).toNat), .int 2]) (rest := []) ⟨hx, hb, hml, hown, hG⟩ (kX9_bit l dC dI (f_told (i_rb.toInt).toNat) 2 H43.size) (va_cwS 2 hG (goodS gw1417 gw1418 gw138 gw1419) rfl rfl rfl hd_X9_bit ⟨(Nat.le_of_ble_eq_true rfl), (Nat.le_of_ble_eq_true rfl)⟩) ⟨fbR, pR_in emptyP (emptyK hK)⟩ rfl rfl hl.1 rfl (lv_room (Nat.le_of_ble_eq_true rfl)) dX9_isFull_126 ⟨(Nat.le_of_ble_eq_true rfl), (Nat.le_of_ble_eq_true rfl)⟩) hS (fun q hq h => absurd hq (Nat.not_lt.mpr h)) (fun q h => Nat.le_trans hS.1 h) (fun r_86 u_ t_ H85 locs ht hvm hw hB hz1 hk1 hS => ?_)
            subst hw
            have hP := wk hP hk1
            obtain ⟨f87, f88, f89, f90⟩ := hB
            rw [hQ]
            exact W.zret (v := r_86) hx hb hr (zn (ob_263 f87 f88) (ob_276 f87 f88)) (fun t ht hW => ⟨⟨r_86, r_86, rfl, rfl, ⟨(ob_272 f87 f88), (ob_273 f87 f88), (ob_274 f81 f87 f88), (ob_275 f81 f87 f88), (fun h1 h2 => ((ob_267 h1 h2 hp0 f35 f39 zl_1735156068)).elim)⟩⟩, hS.F ht⟩) hS.2.2 dX9_isFull_129
        · skip
          have f91 : r_34.toInt ≠ 0 := qi_ne c_38 rfl zc_0
          have f92 : i_token.toInt = (3 : Int) := (ob_251 hp0)
          have f93 : (L 0 0).toInt = (1735156068 : Int) := (ob_277 f35 f91 zl_1735156068)
          have f94 : r_34.toInt = (1 : Int) := (ob_278 f35 f91 zl_1735156068)
          have f95 : (1 : Int) ≤ r_34.toInt := (ob_162 f36 f37 f94)
          refine lv_aload_n hx hb dX9_isFull_92 rfl (lv_at hl 0 rfl) ?_
          refine gM_X9_39_0 hx hb hG hown hK hP dX9_isFull_93 ?_
          refine lv_aload_n hx hb dX9_isFull_96 rfl (lv_at hl 0 rfl) ?_
          refine gM_X9_240_0 hx hb hG hown hK hP dX9_isFull_97 ?_
          refine ldM_9 (mm := i_rb.toInt) hx hb hK hP rfl (ob_263 ie6 ie7) (ob_264 ie6 ie7) dX9_isFull_100 ?_
          have f96 : 0 ≤ (f_told (i_rb.toInt).toNat).toInt ∧ (f_told (i_rb.toInt).toNat).toInt ≤ 15 := ie25 (i_rb.toInt)
          refine lv_iconst (v := 1) hx hb dX9_isFull_101 (by decide) ?_
          refine va_calli (va_runS (As := [.int (f_told (i_rb.toInt).toNat), .int 1]) (rest := []) ⟨hx, hb, hml, hown, hG⟩ (kX9_bit l dC dI (f_told (i_rb.toInt).toNat) 1 H33.size) (va_cwS 2 hG (goodS gw1417 gw1418 gw138 gw1419) rfl rfl rfl hd_X9_bit ⟨(Nat.le_of_ble_eq_true rfl), (Nat.le_of_ble_eq_true rfl)⟩) ⟨fbR, pR_in emptyP (emptyK hK)⟩ rfl rfl hl.1 rfl (lv_room (Nat.le_of_ble_eq_true rfl)) dX9_isFull_102 ⟨(Nat.le_of_ble_eq_true rfl), (Nat.le_of_ble_eq_true rfl)⟩) hS (fun q hq h => absurd hq (Nat.not_lt.mpr h)) (fun q h => Nat.le_trans hS.1 h) (fun r_98 u_ t_ H97 locs ht hvm hw hB hz1 hk1 hS => ?_)
          subst hw
          have hP := wk hP hk1
          obtain ⟨f99, f100, f101, f102⟩ := hB
          rw [hQ]
          exact W.zret (v := r_98) hx hb hr (zn (ob_263 f99 f100) (ob_276 f99 f100)) (fun t ht hW => ⟨⟨r_98, r_98, rfl, rfl, ⟨(ob_272 f99 f100), (ob_273 f99 f100), (ob_279 f93 f99 f100), (ob_280 f93 f99 f100), (fun h1 _ => f102 h1)⟩⟩, hS.F ht⟩) hS.2.2 dX9_isFull_105
      · skip
        have f103 : r_24.toInt ≠ 0 := qi_ne c_28 rfl zc_0
        have f104 : i_token.toInt = (3 : Int) := (ob_251 hp0)
        have f105 : (L 0 0).toInt = (448546567013 : Int) := (ob_281 f25 f103 zl_448546567013)
        have f106 : r_24.toInt = (1 : Int) := (ob_282 f25 f103 zl_448546567013)
        have f107 : (1 : Int) ≤ r_24.toInt := (ob_162 f26 f27 f106)
        refine lv_aload_n hx hb dX9_isFull_63 rfl (lv_at hl 0 rfl) ?_
        refine gM_X9_27_0 hx hb hG hown hK hP dX9_isFull_64 ?_
        refine lv_aload_n hx hb dX9_isFull_67 rfl (lv_at hl 0 rfl) ?_
        refine gM_X9_240_0 hx hb hG hown hK hP dX9_isFull_68 ?_
        refine ldM_5 (mm := i_rb.toInt) hx hb hK hP rfl (ob_263 ie6 ie7) (ob_264 ie6 ie7) dX9_isFull_71 ?_
        have f108 : 0 ≤ (f_houses (i_rb.toInt).toNat).toInt ∧ (f_houses (i_rb.toInt).toNat).toInt ≤ 4 := ie22 (i_rb.toInt)
        refine lv_iconst (v := 4) hx hb dX9_isFull_72 (by decide) ?_
        refine lv_icmp_ne (tgt := 80) hx hb dX9_isFull_73 (by decide) (fun c_109 => ?_) (fun c_109 => ?_)
        · skip
          have f110 : (f_houses (i_rb.toInt).toNat).toInt ≠ 4 := qi_ne c_109 rfl zc_4
          have f111 : (f_houses (i_rb.toInt).toNat).toInt ≤ (3 : Int) := (ob_283 f108 f110)
          refine lv_iconst (v := 0) hx hb dX9_isFull_80 (by decide) ?_
          rw [hQ]
          exact W.zret (v := 0) hx hb hr (by decide) (fun t ht hW => ⟨⟨0, 0, rfl, rfl, ⟨(ob_1 zc_0), (ob_11 zc_0), (ob_284 f105 zc_0), (ob_285 f105 f108 f111 zc_0), (fun h1 h2 => ((ob_286 h1 h2 f25 f103 zl_448546567013)).elim)⟩⟩, hS.F ht⟩) hS.2.2 dX9_isFull_81
        · skip
          have f112 : (f_houses (i_rb.toInt).toNat).toInt = 4 := qi_eq c_109 rfl zc_4
          refine lv_iconst (v := 1) hx hb dX9_isFull_76 (by decide) ?_
          refine lv_goto (tgt := 81) hx hb dX9_isFull_77 (by decide) ?_
          rw [hQ]
          exact W.zret (v := 1) hx hb hr (by decide) (fun t ht hW => ⟨⟨1, 1, rfl, rfl, ⟨(ob_14 zc_1), (ob_15 zc_1), (ob_287 f105 zc_1), (ob_288 f105 f108 f112 zc_1), (fun h1 h2 => ((ob_260 h1 h2 zc_1)).elim)⟩⟩, hS.F ht⟩) hS.2.2 dX9_isFull_81
    · skip
      have f113 : r_14.toInt ≠ 0 := qi_ne c_18 rfl zc_0
      have f114 : i_token.toInt = (3 : Int) := (ob_251 hp0)
      have f115 : (L 0 0).toInt = (1953853029 : Int) := (ob_289 f15 f113 zl_1953853029)
      have f116 : r_14.toInt = (1 : Int) := (ob_290 f15 f113 zl_1953853029)
      have f117 : (1 : Int) ≤ r_14.toInt := (ob_162 f16 f17 f116)
      refine lv_aload_n hx hb dX9_isFull_34 rfl (lv_at hl 0 rfl) ?_
      refine gM_X9_24_0 hx hb hG hown hK hP dX9_isFull_35 ?_
      refine lv_aload_n hx hb dX9_isFull_38 rfl (lv_at hl 0 rfl) ?_
      refine gM_X9_240_0 hx hb hG hown hK hP dX9_isFull_39 ?_
      refine ldM_4 (mm := i_rb.toInt) hx hb hK hP rfl (ob_263 ie6 ie7) (ob_264 ie6 ie7) dX9_isFull_42 ?_
      have f118 : 0 ≤ (f_tunes (i_rb.toInt).toNat).toInt ∧ (f_tunes (i_rb.toInt).toNat).toInt ≤ 5 := ie21 (i_rb.toInt)
      refine lv_iconst (v := 5) hx hb dX9_isFull_43 (by decide) ?_
      refine lv_icmp_ne (tgt := 51) hx hb dX9_isFull_44 (by decide) (fun c_119 => ?_) (fun c_119 => ?_)
      · skip
        have f120 : (f_tunes (i_rb.toInt).toNat).toInt ≠ 5 := qi_ne c_119 rfl zc_5
        have f121 : (f_tunes (i_rb.toInt).toNat).toInt ≤ (4 : Int) := (ob_291 f118 f120)
        refine lv_iconst (v := 0) hx hb dX9_isFull_51 (by decide) ?_
        rw [hQ]
        exact W.zret (v := 0) hx hb hr (by decide) (fun t ht hW => ⟨⟨0, 0, rfl, rfl, ⟨(ob_1 zc_0), (ob_11 zc_0), (ob_292 f115 f118 f121 zc_0), (ob_293 f115 zc_0), (fun h1 h2 => ((ob_294 h1 h2 f15 f113 zl_1953853029)).elim)⟩⟩, hS.F ht⟩) hS.2.2 dX9_isFull_52
      · skip
        have f122 : (f_tunes (i_rb.toInt).toNat).toInt = 5 := qi_eq c_119 rfl zc_5
        refine lv_iconst (v := 1) hx hb dX9_isFull_47 (by decide) ?_
        refine lv_goto (tgt := 52) hx hb dX9_isFull_48 (by decide) ?_
        rw [hQ]
        exact W.zret (v := 1) hx hb hr (by decide) (fun t ht hW => ⟨⟨1, 1, rfl, rfl, ⟨(ob_14 zc_1), (ob_15 zc_1), (ob_295 f115 f118 f122 zc_1), (ob_296 f115 zc_1), (fun h1 h2 => ((ob_260 h1 h2 zc_1)).elim)⟩⟩, hS.F ht⟩) hS.2.2 dX9_isFull_52
  · skip
    have f123 : r_4.toInt ≠ 0 := qi_ne c_8 rfl zc_0
    have f124 : i_token.toInt = (3 : Int) := (ob_251 hp0)
    have f125 : (L 0 0).toInt = (7021235455869215084 : Int) := (ob_297 f5 f123 zl_7021235455869215084)
    have f126 : r_4.toInt = (1 : Int) := (ob_298 f5 f123 zl_7021235455869215084)
    have f127 : (1 : Int) ≤ r_4.toInt := (ob_162 f6 f7 f126)
    refine lv_aload_n hx hb dX9_isFull_10 rfl (lv_at hl 0 rfl) ?_
    refine gM_X9_39_0 hx hb hG hown hK hP dX9_isFull_11 ?_
    refine lv_aload_n hx hb dX9_isFull_14 rfl (lv_at hl 0 rfl) ?_
    refine gM_X9_240_0 hx hb hG hown hK hP dX9_isFull_15 ?_
    refine ldM_9 (mm := i_rb.toInt) hx hb hK hP rfl (ob_263 ie6 ie7) (ob_264 ie6 ie7) dX9_isFull_18 ?_
    have f128 : 0 ≤ (f_told (i_rb.toInt).toNat).toInt ∧ (f_told (i_rb.toInt).toNat).toInt ≤ 15 := ie25 (i_rb.toInt)
    refine lv_iconst (v := 0) hx hb dX9_isFull_19 (by decide) ?_
    refine va_calli (va_runS (As := [.int (f_told (i_rb.toInt).toNat), .int 0]) (rest := []) ⟨hx, hb, hml, hown, hG⟩ (kX9_bit l dC dI (f_told (i_rb.toInt).toNat) 0 H3.size) (va_cwS 2 hG (goodS gw1417 gw1418 gw138 gw1419) rfl rfl rfl hd_X9_bit ⟨(Nat.le_of_ble_eq_true rfl), (Nat.le_of_ble_eq_true rfl)⟩) ⟨fbR, pR_in emptyP (emptyK hK)⟩ rfl rfl hl.1 rfl (lv_room (Nat.le_of_ble_eq_true rfl)) dX9_isFull_20 ⟨(Nat.le_of_ble_eq_true rfl), (Nat.le_of_ble_eq_true rfl)⟩) hS (fun q hq h => absurd hq (Nat.not_lt.mpr h)) (fun q h => Nat.le_trans hS.1 h) (fun r_130 u_ t_ H129 locs ht hvm hw hB hz1 hk1 hS => ?_)
    subst hw
    have hP := wk hP hk1
    obtain ⟨f131, f132, f133, f134⟩ := hB
    rw [hQ]
    exact W.zret (v := r_130) hx hb hr (zn (ob_263 f131 f132) (ob_276 f131 f132)) (fun t ht hW => ⟨⟨r_130, r_130, rfl, rfl, ⟨(ob_272 f131 f132), (ob_273 f131 f132), (ob_299 f125 f131 f132), (ob_300 f125 f131 f132), (fun h1 h2 => ((ob_301 h1 h2 f5 f123 zl_7021235455869215084)).elim)⟩⟩, hS.F ht⟩) hS.2.2 dX9_isFull_23
set_option maxHeartbeats 4000000 in
set_option maxRecDepth 100000 in
theorem kX9_once (l : Launch) (dC : Nat → ClassId) (dI : Nat → Nat → Nat) (r : Nat → Nat) (ct : Nat → ClassId) (i_taped i_size i_faultKind i_at i_end i_token i_number i_bank i_rb i_codes i_within i_piled i_unitsInRule i_askHouse i_askTune i_acts i_undone i_laid i_knowns i_time : Int32) (f_text f_tunes f_houses f_hums f_told f_many f_ruleFrom f_ruleTo f_code f_eWhat f_eSign f_all f_kept f_was f_sTune f_boxAll : Nat → Int32) (J : Nat → Nat → Int32) (L : Nat → Nat → Int64) (p1 p2 : Int32) (sz : Nat) (hI : (IM i_taped i_size i_faultKind i_at i_end i_bank i_rb i_acts i_undone i_laid i_knowns i_time f_tunes f_houses f_hums f_told f_many f_ruleFrom f_ruleTo f_code f_all f_kept f_was f_sTune f_boxAll)) (hp0 : i_rb.toInt + i_bank.toInt = (1 : Int)) (hp1 : p1.toInt ≤ p2.toInt) (hp2 : (i_faultKind.toInt = 0 → RU i_rb f_told f_ruleFrom f_ruleTo f_code)) (hp3 : (¬ BT (f_told (i_rb.toInt).toNat) 1 → i_codes.toInt = 560 * i_rb.toInt)) : Met l yX9_once (.code yX9_once cX9_once 4 (some .int) :: GW) { frames := 8, cells := 0, slots := 0, locals := 287 } (va_Pc [.ref (r 0), .int 3, .int p1, .int p2] (pW (dC, dI) (WM r ct i_taped i_size i_faultKind i_at i_end i_token i_number i_bank i_rb i_codes i_within i_piled i_unitsInRule i_askHouse i_askTune i_acts i_undone i_laid i_knowns i_time f_text f_tunes f_houses f_hums f_told f_many f_ruleFrom f_ruleTo f_code f_eWhat f_eSign f_all f_kept f_was f_sTune f_boxAll J L) (TM ct) sz)) (va_Qi (fun (r0 : Int32) (u : Int32) => r0 = u) (fun (u : Int32) (t : State) => ∃ (n_i_faultKind n_i_at n_i_end n_i_token n_i_number : Int32) (n_f_told : Nat → Int32) (n_J : Nat → Nat → Int32) (n_L : Nat → Nat → Int64), va_P (dC, dI) vwCl (WM r ct i_taped i_size n_i_faultKind n_i_at n_i_end n_i_token n_i_number i_bank i_rb i_codes i_within i_piled i_unitsInRule i_askHouse i_askTune i_acts i_undone i_laid i_knowns i_time f_text f_tunes f_houses f_hums n_f_told f_many f_ruleFrom f_ruleTo f_code f_eWhat f_eSign f_all f_kept f_was f_sTune f_boxAll n_J n_L) t.heap ∧ va_D (va_A (WM r ct i_taped i_size i_faultKind i_at i_end i_token i_number i_bank i_rb i_codes i_within i_piled i_unitsInRule i_askHouse i_askTune i_acts i_undone i_laid i_knowns i_time f_text f_tunes f_houses f_hums f_told f_many f_ruleFrom f_ruleTo f_code f_eWhat f_eSign f_all f_kept f_was f_sTune f_boxAll J L) sz) (WM r ct i_taped i_size n_i_faultKind n_i_at n_i_end n_i_token n_i_number i_bank i_rb i_codes i_within i_piled i_unitsInRule i_askHouse i_askTune i_acts i_undone i_laid i_knowns i_time f_text f_tunes f_houses f_hums n_f_told f_many f_ruleFrom f_ruleTo f_code f_eWhat f_eSign f_all f_kept f_was f_sTune f_boxAll n_J n_L) ∧ (IM i_taped i_size n_i_faultKind n_i_at n_i_end i_bank i_rb i_acts i_undone i_laid i_knowns i_time f_tunes f_houses f_hums n_f_told f_many f_ruleFrom f_ruleTo f_code f_all f_kept f_was f_sTune f_boxAll) ∧ (p1.toInt ≤ u.toInt) ∧ (u.toInt ≤ p2.toInt) ∧ (i_end.toInt ≤ n_i_end.toInt) ∧ (((1 : Int) ≤ n_i_faultKind.toInt) ∨ ((n_i_faultKind.toInt = (0 : Int)) ∧ (i_faultKind.toInt = (0 : Int)) ∧ ((n_i_token.toInt = (0 : Int)) ∨ (i_end.toInt + 1 ≤ n_i_end.toInt)))) ∧ ((n_i_faultKind.toInt = 0 → RU i_rb n_f_told f_ruleFrom f_ruleTo f_code)) ∧ ((¬ BT (n_f_told (i_rb.toInt).toNat) 1 → i_codes.toInt = 560 * i_rb.toInt))) (va_A (WM r ct i_taped i_size i_faultKind i_at i_end i_token i_number i_bank i_rb i_codes i_within i_piled i_unitsInRule i_askHouse i_askTune i_acts i_undone i_laid i_knowns i_time f_text f_tunes f_houses f_hums f_told f_many f_ruleFrom f_ruleTo f_code f_eWhat f_eSign f_all f_kept f_was f_sTune f_boxAll J L) sz)) 0 0 (va_A (WM r ct i_taped i_size i_faultKind i_at i_end i_token i_number i_bank i_rb i_codes i_within i_piled i_unitsInRule i_askHouse i_askTune i_acts i_undone i_laid i_knowns i_time f_text f_tunes f_houses f_hums f_told f_many f_ruleFrom f_ruleTo f_code f_eWhat f_eSign f_all f_kept f_was f_sTune f_boxAll J L) sz) := by
  refine Met.ofW (cc := cX9_once) (maxL := 4) (ret := (some .int)) (by decide) rfl ?_
  intro p e s m args below meth c0 s₁ B hml hv
  obtain ⟨rfl, hsz, hP, hK, hD0⟩ := hv
  have hx := B.exec
  have hb := B.bytes
  have hr := B.returns
  have hts := atoms_spec (ws := .code yX9_once cX9_once 4 (some .int) :: GW) B.pre
  have hG : ∀ w ∈ GW, w.before _ s = true := fun w h => hts w (List.mem_cons_of_mem _ h)
  have hown : s.vm.findClass RX9 = some m.cls := findClass_of_methodNamed B.named
  subst hsz
  have hD := hD0.self (sz := s.heap.size)
  generalize hAe : va_A (WM r ct i_taped i_size i_faultKind i_at i_end i_token i_number i_bank i_rb i_codes i_within i_piled i_unitsInRule i_askHouse i_askTune i_acts i_undone i_laid i_knowns i_time f_text f_tunes f_houses f_hums f_told f_many f_ruleFrom f_ruleTo f_code f_eWhat f_eSign f_all f_kept f_was f_sTune f_boxAll J L) s.heap.size = A at hD ⊢
  have hA : ∀ q : Nat, s.heap.size ≤ q → A q := fun q h => by rw [← hAe]; exact Or.inr h
  have hS : va_S A s.heap s.heap [] := va_S.rf
  have hP : va_P (dC, dI) vwCl (WM r ct i_taped i_size i_faultKind i_at i_end i_token i_number i_bank i_rb i_codes i_within i_piled i_unitsInRule i_askHouse i_askTune i_acts i_undone i_laid i_knowns i_time f_text f_tunes f_houses f_hums f_told f_many f_ruleFrom f_ruleTo f_code f_eWhat f_eSign f_all f_kept f_was f_sTune f_boxAll J L) s.heap := hP
  have hl := lv_entry ([.ref (r 0), .int 3, .int p1, .int p2]) (n := 4) (Nat.le_of_ble_eq_true rfl)
  rw [lg_entry_eq]
  generalize (lg_sl ([.ref (r 0), .int 3, .int p1, .int p2]) ++ List.replicate (4 - (lg_sl ([.ref (r 0), .int 3, .int p1, .int p2])).length) Slot.unset).toArray = ls at hl ⊢
  have hl : lv_has ls 4 [(0, .ref (r 0)), (1, .int 3), (2, .int p1), (3, .int p2)] := hl
  refine nameQ (fun Q hQ => ?_)
  obtain ⟨ie0, ie1, ie2, ie3, ie4, ie5, ie6, ie7, ie8, ie9, ie10, ie11, ie12, ie13, ie14, ie15, ie16, ie17, ie18, ie19, ie20, ie21, ie22, ie23, ie24, ie25, ie26, ie27, ie28, ie29, ie30, ie31, ie32⟩ := id hI
  have f1 : 0 ≤ (f_tunes (i_bank.toInt).toNat).toInt ∧ (f_tunes (i_bank.toInt).toNat).toInt ≤ 5 := ie21 (i_bank.toInt)
  have f2 : 0 ≤ (f_houses (i_bank.toInt).toNat).toInt ∧ (f_houses (i_bank.toInt).toNat).toInt ≤ 4 := ie22 (i_bank.toInt)
  refine lv_aload_n hx hb dX9_once_0 rfl (lv_at hl 0 rfl) ?_
  refine gM_X9_39_0 hx hb hG hown hK hP dX9_once_1 ?_
  refine lv_aload_n hx hb dX9_once_4 rfl (lv_at hl 0 rfl) ?_
  refine gM_X9_240_0 hx hb hG hown hK hP dX9_once_5 ?_
  refine lv_dup2_11 hx hb dX9_once_8 rfl rfl ?_
  refine ldM_9 (mm := i_rb.toInt) hx hb hK hP rfl (ob_244 ie6 ie7 hp0) (ob_245 ie6 ie7 hp0) dX9_once_9 ?_
  have f3 : 0 ≤ (f_told (i_rb.toInt).toNat).toInt ∧ (f_told (i_rb.toInt).toNat).toInt ≤ 15 := ie25 (i_rb.toInt)
  refine lv_iconst (v := 1) hx hb dX9_once_10 (by decide) ?_
  refine lv_iload_n hx hb dX9_once_11 rfl (lv_at hl 1 rfl) ?_
  refine lv_ishl hx hb dX9_once_12 ?_
  refine wt_c (v := 8) (by decide) ?_
  refine lv_ior hx hb dX9_once_13 ?_
  refine lv_topi (fun x4 ex4 => ?_)
  have o5 := or8 ex4 (ob_302 f3) (ob_303 f3)
  refine stM_9 (mm := i_rb.toInt) hx hb hK hP hD hS rfl (ob_244 ie6 ie7 hp0) (ob_245 ie6 ie7 hp0) dX9_once_14 (fun z7 H6 locs ez7 hP hD hS => ?_)
  have g8 : EB 0 15 z7 := ez7 ▸ EB_upd ie25 (ob_302 o5.1) (ob_303 o5.1)
  refine lv_aload_n hx hb dX9_once_15 rfl (lv_at hl 0 rfl) ?_
  refine lv_iload_n hx hb dX9_once_16 rfl (lv_at hl 2 rfl) ?_
  refine lv_iload_n hx hb dX9_once_17 rfl (lv_at hl 3 rfl) ?_
  have hFc := frA hD hS hA
  refine va_calli (va_runV (As := [.int p1, .int p2]) (rest := []) ⟨hx, hb, hml, hown, hG⟩ (kX9_numeral l dC dI r ct i_taped i_size i_faultKind i_at i_end i_token i_number i_bank i_rb i_codes i_within i_piled i_unitsInRule i_askHouse i_askTune i_acts i_undone i_laid i_knowns i_time f_text f_tunes f_houses f_hums z7 f_many f_ruleFrom f_ruleTo f_code f_eWhat f_eSign f_all f_kept f_was f_sTune f_boxAll J L p1 p2 H6.size ⟨ie0, ie1, ie2, ie3, ie4, ie5, ie6, ie7, ie8, ie9, ie10, ie11, ie12, ie13, ie14, ie15, ie16, ie17, ie18, ie19, ie20, ie21, ie22, ie23, ie24, g8, ie26, ie27, ie28, ie29, ie30, ie31, (RU_told ie32 ez7 (ob_244 ie6 ie7 hp0) (ob_249 ie4 ie5 hp0) (ob_250 hp0))⟩ (ob_145 hp1)) (cwV 2 hG (goodV gw1432 gw1434 gw68 gw138 gw1435) rfl rfl rfl hd_X9_numeral ⟨(Nat.le_of_ble_eq_true rfl), (Nat.le_of_ble_eq_true rfl)⟩) ⟨fbW, va_recv hK hP (ci := 8) (q0 := 0) rfl rfl, pW_in hP hK hD⟩ rfl rfl hl.1 rfl (lv_room (Nat.le_of_ble_eq_true rfl)) dX9_once_18 ⟨(Nat.le_of_ble_eq_true rfl), (Nat.le_of_ble_eq_true rfl)⟩) hS (fun q _ h => hFc q h) hFc (fun r_10 u_ t_ H9 locs ht hvm hw hB hz1 hk1 hS => ?_)
  subst hw
  obtain ⟨x11, x12, x13, x14, x15, J16, L17, hP1, hD1, hI22, f18, f19, f20, f21⟩ := hB
  rw [ht] at hP1
  have hP := hP1
  have hD := dW hFc hD1
  obtain ⟨im23, im24, im25, im26, im27, im28, im29, im30, im31, im32, im33, im34, im35, im36, im37, im38, im39, im40, im41, im42, im43, im44, im45, im46, im47, im48, im49, im50, im51, im52, im53, im54, im55⟩ := id hI22
  rw [hQ]
  exact W.iret (v := r_10) hx hb hr (fun t ht hW => ⟨⟨r_10, r_10, rfl, rfl, ⟨x11, x12, x13, x14, x15, z7, J16, L17, by rw [ht]; exact hP, hD, hI22, (ob_236 hp1 f18 f19), (ob_237 hp1 f18 f19), (ob_145 f20), (ob_304 f21), (fun h => RU_or (hp2 (ob_305 f21 h)) ez7 o5.2.1), (RC_or hp3 ez7 o5.2.2)⟩⟩, hS.F ht⟩) hS.2.2 dX9_once_21
set_option maxHeartbeats 4000000 in
set_option maxRecDepth 100000 in
theorem kX9_once_v1 (l : Launch) (dC : Nat → ClassId) (dI : Nat → Nat → Nat) (r : Nat → Nat) (ct : Nat → ClassId) (i_taped i_size i_faultKind i_at i_end i_token i_number i_bank i_rb i_codes i_within i_piled i_unitsInRule i_askHouse i_askTune i_acts i_undone i_laid i_knowns i_time : Int32) (f_text f_tunes f_houses f_hums f_told f_many f_ruleFrom f_ruleTo f_code f_eWhat f_eSign f_all f_kept f_was f_sTune f_boxAll : Nat → Int32) (J : Nat → Nat → Int32) (L : Nat → Nat → Int64) (p1 p2 : Int32) (sz : Nat) (hI : (IM i_taped i_size i_faultKind i_at i_end i_bank i_rb i_acts i_undone i_laid i_knowns i_time f_tunes f_houses f_hums f_told f_many f_ruleFrom f_ruleTo f_code f_all f_kept f_was f_sTune f_boxAll)) (hp0 : i_rb.toInt + i_bank.toInt = (1 : Int)) (hp1 : p1.toInt ≤ p2.toInt) (hp2 : (i_faultKind.toInt = 0 → RU i_rb f_told f_ruleFrom f_ruleTo f_code)) (hp3 : (¬ BT (f_told (i_rb.toInt).toNat) 1 → i_codes.toInt = 560 * i_rb.toInt)) : Met l yX9_once (.code yX9_once cX9_once 4 (some .int) :: GW) { frames := 8, cells := 0, slots := 0, locals := 287 } (va_Pc [.ref (r 0), .int 2, .int p1, .int p2] (pW (dC, dI) (WM r ct i_taped i_size i_faultKind i_at i_end i_token i_number i_bank i_rb i_codes i_within i_piled i_unitsInRule i_askHouse i_askTune i_acts i_undone i_laid i_knowns i_time f_text f_tunes f_houses f_hums f_told f_many f_ruleFrom f_ruleTo f_code f_eWhat f_eSign f_all f_kept f_was f_sTune f_boxAll J L) (TM ct) sz)) (va_Qi (fun (r0 : Int32) (u : Int32) => r0 = u) (fun (u : Int32) (t : State) => ∃ (n_i_faultKind n_i_at n_i_end n_i_token n_i_number : Int32) (n_f_told : Nat → Int32) (n_J : Nat → Nat → Int32) (n_L : Nat → Nat → Int64), va_P (dC, dI) vwCl (WM r ct i_taped i_size n_i_faultKind n_i_at n_i_end n_i_token n_i_number i_bank i_rb i_codes i_within i_piled i_unitsInRule i_askHouse i_askTune i_acts i_undone i_laid i_knowns i_time f_text f_tunes f_houses f_hums n_f_told f_many f_ruleFrom f_ruleTo f_code f_eWhat f_eSign f_all f_kept f_was f_sTune f_boxAll n_J n_L) t.heap ∧ va_D (va_A (WM r ct i_taped i_size i_faultKind i_at i_end i_token i_number i_bank i_rb i_codes i_within i_piled i_unitsInRule i_askHouse i_askTune i_acts i_undone i_laid i_knowns i_time f_text f_tunes f_houses f_hums f_told f_many f_ruleFrom f_ruleTo f_code f_eWhat f_eSign f_all f_kept f_was f_sTune f_boxAll J L) sz) (WM r ct i_taped i_size n_i_faultKind n_i_at n_i_end n_i_token n_i_number i_bank i_rb i_codes i_within i_piled i_unitsInRule i_askHouse i_askTune i_acts i_undone i_laid i_knowns i_time f_text f_tunes f_houses f_hums n_f_told f_many f_ruleFrom f_ruleTo f_code f_eWhat f_eSign f_all f_kept f_was f_sTune f_boxAll n_J n_L) ∧ (IM i_taped i_size n_i_faultKind n_i_at n_i_end i_bank i_rb i_acts i_undone i_laid i_knowns i_time f_tunes f_houses f_hums n_f_told f_many f_ruleFrom f_ruleTo f_code f_all f_kept f_was f_sTune f_boxAll) ∧ (p1.toInt ≤ u.toInt) ∧ (u.toInt ≤ p2.toInt) ∧ (i_end.toInt ≤ n_i_end.toInt) ∧ (((1 : Int) ≤ n_i_faultKind.toInt) ∨ ((n_i_faultKind.toInt = (0 : Int)) ∧ (i_faultKind.toInt = (0 : Int)) ∧ ((n_i_token.toInt = (0 : Int)) ∨ (i_end.toInt + 1 ≤ n_i_end.toInt)))) ∧ ((n_i_faultKind.toInt = 0 → RU i_rb n_f_told f_ruleFrom f_ruleTo f_code)) ∧ ((¬ BT (n_f_told (i_rb.toInt).toNat) 1 → i_codes.toInt = 560 * i_rb.toInt))) (va_A (WM r ct i_taped i_size i_faultKind i_at i_end i_token i_number i_bank i_rb i_codes i_within i_piled i_unitsInRule i_askHouse i_askTune i_acts i_undone i_laid i_knowns i_time f_text f_tunes f_houses f_hums f_told f_many f_ruleFrom f_ruleTo f_code f_eWhat f_eSign f_all f_kept f_was f_sTune f_boxAll J L) sz)) 0 0 (va_A (WM r ct i_taped i_size i_faultKind i_at i_end i_token i_number i_bank i_rb i_codes i_within i_piled i_unitsInRule i_askHouse i_askTune i_acts i_undone i_laid i_knowns i_time f_text f_tunes f_houses f_hums f_told f_many f_ruleFrom f_ruleTo f_code f_eWhat f_eSign f_all f_kept f_was f_sTune f_boxAll J L) sz) := by
  refine Met.ofW (cc := cX9_once) (maxL := 4) (ret := (some .int)) (by decide) rfl ?_
  intro p e s m args below meth c0 s₁ B hml hv
  obtain ⟨rfl, hsz, hP, hK, hD0⟩ := hv
  have hx := B.exec
  have hb := B.bytes
  have hr := B.returns
  have hts := atoms_spec (ws := .code yX9_once cX9_once 4 (some .int) :: GW) B.pre
  have hG : ∀ w ∈ GW, w.before _ s = true := fun w h => hts w (List.mem_cons_of_mem _ h)
  have hown : s.vm.findClass RX9 = some m.cls := findClass_of_methodNamed B.named
  subst hsz
  have hD := hD0.self (sz := s.heap.size)
  generalize hAe : va_A (WM r ct i_taped i_size i_faultKind i_at i_end i_token i_number i_bank i_rb i_codes i_within i_piled i_unitsInRule i_askHouse i_askTune i_acts i_undone i_laid i_knowns i_time f_text f_tunes f_houses f_hums f_told f_many f_ruleFrom f_ruleTo f_code f_eWhat f_eSign f_all f_kept f_was f_sTune f_boxAll J L) s.heap.size = A at hD ⊢
  have hA : ∀ q : Nat, s.heap.size ≤ q → A q := fun q h => by rw [← hAe]; exact Or.inr h
  have hS : va_S A s.heap s.heap [] := va_S.rf
  have hP : va_P (dC, dI) vwCl (WM r ct i_taped i_size i_faultKind i_at i_end i_token i_number i_bank i_rb i_codes i_within i_piled i_unitsInRule i_askHouse i_askTune i_acts i_undone i_laid i_knowns i_time f_text f_tunes f_houses f_hums f_told f_many f_ruleFrom f_ruleTo f_code f_eWhat f_eSign f_all f_kept f_was f_sTune f_boxAll J L) s.heap := hP
  have hl := lv_entry ([.ref (r 0), .int 2, .int p1, .int p2]) (n := 4) (Nat.le_of_ble_eq_true rfl)
  rw [lg_entry_eq]
  generalize (lg_sl ([.ref (r 0), .int 2, .int p1, .int p2]) ++ List.replicate (4 - (lg_sl ([.ref (r 0), .int 2, .int p1, .int p2])).length) Slot.unset).toArray = ls at hl ⊢
  have hl : lv_has ls 4 [(0, .ref (r 0)), (1, .int 2), (2, .int p1), (3, .int p2)] := hl
  refine nameQ (fun Q hQ => ?_)
  obtain ⟨ie0, ie1, ie2, ie3, ie4, ie5, ie6, ie7, ie8, ie9, ie10, ie11, ie12, ie13, ie14, ie15, ie16, ie17, ie18, ie19, ie20, ie21, ie22, ie23, ie24, ie25, ie26, ie27, ie28, ie29, ie30, ie31, ie32⟩ := id hI
  have f1 : 0 ≤ (f_tunes (i_bank.toInt).toNat).toInt ∧ (f_tunes (i_bank.toInt).toNat).toInt ≤ 5 := ie21 (i_bank.toInt)
  have f2 : 0 ≤ (f_houses (i_bank.toInt).toNat).toInt ∧ (f_houses (i_bank.toInt).toNat).toInt ≤ 4 := ie22 (i_bank.toInt)
  refine lv_aload_n hx hb dX9_once_0 rfl (lv_at hl 0 rfl) ?_
  refine gM_X9_39_0 hx hb hG hown hK hP dX9_once_1 ?_
  refine lv_aload_n hx hb dX9_once_4 rfl (lv_at hl 0 rfl) ?_
  refine gM_X9_240_0 hx hb hG hown hK hP dX9_once_5 ?_
  refine lv_dup2_11 hx hb dX9_once_8 rfl rfl ?_
  refine ldM_9 (mm := i_rb.toInt) hx hb hK hP rfl (ob_244 ie6 ie7 hp0) (ob_245 ie6 ie7 hp0) dX9_once_9 ?_
  have f3 : 0 ≤ (f_told (i_rb.toInt).toNat).toInt ∧ (f_told (i_rb.toInt).toNat).toInt ≤ 15 := ie25 (i_rb.toInt)
  refine lv_iconst (v := 1) hx hb dX9_once_10 (by decide) ?_
  refine lv_iload_n hx hb dX9_once_11 rfl (lv_at hl 1 rfl) ?_
  refine lv_ishl hx hb dX9_once_12 ?_
  refine wt_c (v := 4) (by decide) ?_
  refine lv_ior hx hb dX9_once_13 ?_
  refine lv_topi (fun x4 ex4 => ?_)
  have o5 := or4 ex4 (ob_302 f3) (ob_303 f3)
  refine stM_9 (mm := i_rb.toInt) hx hb hK hP hD hS rfl (ob_244 ie6 ie7 hp0) (ob_245 ie6 ie7 hp0) dX9_once_14 (fun z7 H6 locs ez7 hP hD hS => ?_)
  have g8 : EB 0 15 z7 := ez7 ▸ EB_upd ie25 (ob_302 o5.1) (ob_303 o5.1)
  refine lv_aload_n hx hb dX9_once_15 rfl (lv_at hl 0 rfl) ?_
  refine lv_iload_n hx hb dX9_once_16 rfl (lv_at hl 2 rfl) ?_
  refine lv_iload_n hx hb dX9_once_17 rfl (lv_at hl 3 rfl) ?_
  have hFc := frA hD hS hA
  refine va_calli (va_runV (As := [.int p1, .int p2]) (rest := []) ⟨hx, hb, hml, hown, hG⟩ (kX9_numeral l dC dI r ct i_taped i_size i_faultKind i_at i_end i_token i_number i_bank i_rb i_codes i_within i_piled i_unitsInRule i_askHouse i_askTune i_acts i_undone i_laid i_knowns i_time f_text f_tunes f_houses f_hums z7 f_many f_ruleFrom f_ruleTo f_code f_eWhat f_eSign f_all f_kept f_was f_sTune f_boxAll J L p1 p2 H6.size ⟨ie0, ie1, ie2, ie3, ie4, ie5, ie6, ie7, ie8, ie9, ie10, ie11, ie12, ie13, ie14, ie15, ie16, ie17, ie18, ie19, ie20, ie21, ie22, ie23, ie24, g8, ie26, ie27, ie28, ie29, ie30, ie31, (RU_told ie32 ez7 (ob_244 ie6 ie7 hp0) (ob_249 ie4 ie5 hp0) (ob_250 hp0))⟩ (ob_145 hp1)) (cwV 2 hG (goodV gw1432 gw1434 gw68 gw138 gw1435) rfl rfl rfl hd_X9_numeral ⟨(Nat.le_of_ble_eq_true rfl), (Nat.le_of_ble_eq_true rfl)⟩) ⟨fbW, va_recv hK hP (ci := 8) (q0 := 0) rfl rfl, pW_in hP hK hD⟩ rfl rfl hl.1 rfl (lv_room (Nat.le_of_ble_eq_true rfl)) dX9_once_18 ⟨(Nat.le_of_ble_eq_true rfl), (Nat.le_of_ble_eq_true rfl)⟩) hS (fun q _ h => hFc q h) hFc (fun r_10 u_ t_ H9 locs ht hvm hw hB hz1 hk1 hS => ?_)
  subst hw
  obtain ⟨x11, x12, x13, x14, x15, J16, L17, hP1, hD1, hI22, f18, f19, f20, f21⟩ := hB
  rw [ht] at hP1
  have hP := hP1
  have hD := dW hFc hD1
  obtain ⟨im23, im24, im25, im26, im27, im28, im29, im30, im31, im32, im33, im34, im35, im36, im37, im38, im39, im40, im41, im42, im43, im44, im45, im46, im47, im48, im49, im50, im51, im52, im53, im54, im55⟩ := id hI22
  rw [hQ]
  exact W.iret (v := r_10) hx hb hr (fun t ht hW => ⟨⟨r_10, r_10, rfl, rfl, ⟨x11, x12, x13, x14, x15, z7, J16, L17, by rw [ht]; exact hP, hD, hI22, (ob_236 hp1 f18 f19), (ob_237 hp1 f18 f19), (ob_145 f20), (ob_304 f21), (fun h => RU_or (hp2 (ob_305 f21 h)) ez7 o5.2.1), (RC_or hp3 ez7 o5.2.2)⟩⟩, hS.F ht⟩) hS.2.2 dX9_once_21
set_option maxHeartbeats 4000000 in
set_option maxRecDepth 100000 in
theorem kX9_pushE (l : Launch) (dC : Nat → ClassId) (dI : Nat → Nat → Nat) (r : Nat → Nat) (ct : Nat → ClassId) (i_taped i_size i_faultKind i_at i_end i_token i_number i_bank i_rb i_codes i_within i_piled i_unitsInRule i_askHouse i_askTune i_acts i_undone i_laid i_knowns i_time : Int32) (f_text f_tunes f_houses f_hums f_told f_many f_ruleFrom f_ruleTo f_code f_eWhat f_eSign f_all f_kept f_was f_sTune f_boxAll : Nat → Int32) (J : Nat → Nat → Int32) (L : Nat → Nat → Int64) (p0 p1 : Int32) (sz : Nat) (hI : (IM i_taped i_size i_faultKind i_at i_end i_bank i_rb i_acts i_undone i_laid i_knowns i_time f_tunes f_houses f_hums f_told f_many f_ruleFrom f_ruleTo f_code f_all f_kept f_was f_sTune f_boxAll)) (hp0 : (0 : Int) ≤ i_piled.toInt) (hp1 : i_piled.toInt ≤ (89 : Int)) : Met l yX9_pushE (.code yX9_pushE cX9_pushE 3 none :: GW) { frames := 2, cells := 0, slots := 0, locals := 100 } (va_Pc [.ref (r 0), .int p0, .int p1] (pW (dC, dI) (WM r ct i_taped i_size i_faultKind i_at i_end i_token i_number i_bank i_rb i_codes i_within i_piled i_unitsInRule i_askHouse i_askTune i_acts i_undone i_laid i_knowns i_time f_text f_tunes f_houses f_hums f_told f_many f_ruleFrom f_ruleTo f_code f_eWhat f_eSign f_all f_kept f_was f_sTune f_boxAll J L) (TM ct) sz)) (va_Qv (fun _ : Unit => True) (fun (_ : Unit) (t : State) => ∃ (n_i_piled : Int32) (n_f_eWhat n_f_eSign : Nat → Int32), va_P (dC, dI) vwCl (WM r ct i_taped i_size i_faultKind i_at i_end i_token i_number i_bank i_rb i_codes i_within n_i_piled i_unitsInRule i_askHouse i_askTune i_acts i_undone i_laid i_knowns i_time f_text f_tunes f_houses f_hums f_told f_many f_ruleFrom f_ruleTo f_code n_f_eWhat n_f_eSign f_all f_kept f_was f_sTune f_boxAll J L) t.heap ∧ va_D (va_A (WM r ct i_taped i_size i_faultKind i_at i_end i_token i_number i_bank i_rb i_codes i_within i_piled i_unitsInRule i_askHouse i_askTune i_acts i_undone i_laid i_knowns i_time f_text f_tunes f_houses f_hums f_told f_many f_ruleFrom f_ruleTo f_code f_eWhat f_eSign f_all f_kept f_was f_sTune f_boxAll J L) sz) (WM r ct i_taped i_size i_faultKind i_at i_end i_token i_number i_bank i_rb i_codes i_within n_i_piled i_unitsInRule i_askHouse i_askTune i_acts i_undone i_laid i_knowns i_time f_text f_tunes f_houses f_hums f_told f_many f_ruleFrom f_ruleTo f_code n_f_eWhat n_f_eSign f_all f_kept f_was f_sTune f_boxAll J L) ∧ (IM i_taped i_size i_faultKind i_at i_end i_bank i_rb i_acts i_undone i_laid i_knowns i_time f_tunes f_houses f_hums f_told f_many f_ruleFrom f_ruleTo f_code f_all f_kept f_was f_sTune f_boxAll) ∧ (n_i_piled.toInt = i_piled.toInt + 1) ∧ (n_f_eWhat = upd f_eWhat (i_piled.toInt).toNat p0) ∧ (n_f_eSign = upd f_eSign (i_piled.toInt).toNat p1)) (va_A (WM r ct i_taped i_size i_faultKind i_at i_end i_token i_number i_bank i_rb i_codes i_within i_piled i_unitsInRule i_askHouse i_askTune i_acts i_undone i_laid i_knowns i_time f_text f_tunes f_houses f_hums f_told f_many f_ruleFrom f_ruleTo f_code f_eWhat f_eSign f_all f_kept f_was f_sTune f_boxAll J L) sz)) 0 0 (va_A (WM r ct i_taped i_size i_faultKind i_at i_end i_token i_number i_bank i_rb i_codes i_within i_piled i_unitsInRule i_askHouse i_askTune i_acts i_undone i_laid i_knowns i_time f_text f_tunes f_houses f_hums f_told f_many f_ruleFrom f_ruleTo f_code f_eWhat f_eSign f_all f_kept f_was f_sTune f_boxAll J L) sz) := by
  refine Met.ofW (cc := cX9_pushE) (maxL := 3) (ret := none) (by decide) rfl ?_
  intro p e s m args below meth c0 s₁ B hml hv
  obtain ⟨rfl, hsz, hP, hK, hD0⟩ := hv
  have hx := B.exec
  have hb := B.bytes
  have hr := B.returns
  have hts := atoms_spec (ws := .code yX9_pushE cX9_pushE 3 none :: GW) B.pre
  have hG : ∀ w ∈ GW, w.before _ s = true := fun w h => hts w (List.mem_cons_of_mem _ h)
  have hown : s.vm.findClass RX9 = some m.cls := findClass_of_methodNamed B.named
  subst hsz
  have hD := hD0.self (sz := s.heap.size)
  generalize hAe : va_A (WM r ct i_taped i_size i_faultKind i_at i_end i_token i_number i_bank i_rb i_codes i_within i_piled i_unitsInRule i_askHouse i_askTune i_acts i_undone i_laid i_knowns i_time f_text f_tunes f_houses f_hums f_told f_many f_ruleFrom f_ruleTo f_code f_eWhat f_eSign f_all f_kept f_was f_sTune f_boxAll J L) s.heap.size = A at hD ⊢
  have hA : ∀ q : Nat, s.heap.size ≤ q → A q := fun q h => by rw [← hAe]; exact Or.inr h
  have hS : va_S A s.heap s.heap [] := va_S.rf
  have hP : va_P (dC, dI) vwCl (WM r ct i_taped i_size i_faultKind i_at i_end i_token i_number i_bank i_rb i_codes i_within i_piled i_unitsInRule i_askHouse i_askTune i_acts i_undone i_laid i_knowns i_time f_text f_tunes f_houses f_hums f_told f_many f_ruleFrom f_ruleTo f_code f_eWhat f_eSign f_all f_kept f_was f_sTune f_boxAll J L) s.heap := hP
  have hl := lv_entry ([.ref (r 0), .int p0, .int p1]) (n := 3) (Nat.le_of_ble_eq_true rfl)
  rw [lg_entry_eq]
  generalize (lg_sl ([.ref (r 0), .int p0, .int p1]) ++ List.replicate (3 - (lg_sl ([.ref (r 0), .int p0, .int p1])).length) Slot.unset).toArray = ls at hl ⊢
  have hl : lv_has ls 3 [(0, .ref (r 0)), (1, .int p0), (2, .int p1)] := hl
  refine nameQ (fun Q hQ => ?_)
  obtain ⟨ie0, ie1, ie2, ie3, ie4, ie5, ie6, ie7, ie8, ie9, ie10, ie11, ie12, ie13, ie14, ie15, ie16, ie17, ie18, ie19, ie20, ie21, ie22, ie23, ie24, ie25, ie26, ie27, ie28, ie29, ie30, ie31, ie32⟩ := id hI
  have f1 : 0 ≤ (f_tunes (i_bank.toInt).toNat).toInt ∧ (f_tunes (i_bank.toInt).toNat).toInt ≤ 5 := ie21 (i_bank.toInt)
  have f2 : 0 ≤ (f_houses (i_bank.toInt).toNat).toInt ∧ (f_houses (i_bank.toInt).toNat).toInt ≤ 4 := ie22 (i_bank.toInt)
  refine lv_aload_n hx hb dX9_pushE_0 rfl (lv_at hl 0 rfl) ?_
  refine gM_X9_79_0 hx hb hG hown hK hP dX9_pushE_1 ?_
  refine lv_aload_n hx hb dX9_pushE_4 rfl (lv_at hl 0 rfl) ?_
  refine gM_X9_296_0 hx hb hG hown hK hP dX9_pushE_5 ?_
  refine lv_iload_n hx hb dX9_pushE_8 rfl (lv_at hl 1 rfl) ?_
  refine stM_22 (mm := i_piled.toInt) hx hb hK hP hD hS rfl (ob_306 hp0 hp1) (ob_307 hp0 hp1) dX9_pushE_9 (fun z4 H3 locs ez4 hP hD hS => ?_)
  refine lv_aload_n hx hb dX9_pushE_10 rfl (lv_at hl 0 rfl) ?_
  refine gM_X9_82_0 hx hb hG hown hK hP dX9_pushE_11 ?_
  refine lv_aload_n hx hb dX9_pushE_14 rfl (lv_at hl 0 rfl) ?_
  refine gM_X9_296_0 hx hb hG hown hK hP dX9_pushE_15 ?_
  refine lv_iload_n hx hb dX9_pushE_18 rfl (lv_at hl 2 rfl) ?_
  refine stM_23 (mm := i_piled.toInt) hx hb hK hP hD hS rfl (ob_306 hp0 hp1) (ob_307 hp0 hp1) dX9_pushE_19 (fun z6 H5 locs ez6 hP hD hS => ?_)
  refine lv_aload_n hx hb dX9_pushE_20 rfl (lv_at hl 0 rfl) ?_
  refine lv_dup hx hb dX9_pushE_21 rfl ?_
  refine gM_X9_296_0 hx hb hG hown hK hP dX9_pushE_22 ?_
  refine lv_iconst (v := 1) hx hb dX9_pushE_25 (by decide) ?_
  refine lv_iadd hx hb dX9_pushE_26 ?_
  refine lv_topi (fun x7 ex7 => ?_)
  have f8 : x7.toInt = i_piled.toInt + 1 := (ob_142 (qi_add ex7 rfl zc_1 (ob_308 hp0 hp1) (ob_309 hp0 hp1)))
  refine pM_X9_296_0 hx hb hG hown hK hP hD hS dX9_pushE_27 (fun H9 locs hP hD hS => ?_)
  rw [hQ]
  exact W.vret hx hb hr (fun t ht hW => ⟨⟨(), rfl, trivial, ⟨x7, z4, z6, by rw [ht]; exact hP, hD, hI, (ob_142 f8), ez4, ez6⟩⟩, hS.F ht⟩) hS.2.2 dX9_pushE_30
set_option maxHeartbeats 4000000 in
set_option maxRecDepth 100000 in
theorem kX9_wordHere (l : Launch) (dC : Nat → ClassId) (dI : Nat → Nat → Nat) (r : Nat → Nat) (ct : Nat → ClassId) (i_taped i_size i_faultKind i_at i_end i_token i_number i_bank i_rb i_codes i_within i_piled i_unitsInRule i_askHouse i_askTune i_acts i_undone i_laid i_knowns i_time : Int32) (f_text f_tunes f_houses f_hums f_told f_many f_ruleFrom f_ruleTo f_code f_eWhat f_eSign f_all f_kept f_was f_sTune f_boxAll : Nat → Int32) (J : Nat → Nat → Int32) (L : Nat → Nat → Int64) (sz : Nat) (hI : (IM i_taped i_size i_faultKind i_at i_end i_bank i_rb i_acts i_undone i_laid i_knowns i_time f_tunes f_houses f_hums f_told f_many f_ruleFrom f_ruleTo f_code f_all f_kept f_was f_sTune f_boxAll)) : Met l yX9_wordHere (.code yX9_wordHere cX9_wordHere 1 (some .int) :: GW) { frames := 4, cells := 0, slots := 0, locals := 162 } (va_Pc [.ref (r 0)] (pR (dC, dI) (WM r ct i_taped i_size i_faultKind i_at i_end i_token i_number i_bank i_rb i_codes i_within i_piled i_unitsInRule i_askHouse i_askTune i_acts i_undone i_laid i_knowns i_time f_text f_tunes f_houses f_hums f_told f_many f_ruleFrom f_ruleTo f_code f_eWhat f_eSign f_all f_kept f_was f_sTune f_boxAll J L) (TM ct) sz)) (va_Qi (fun (r0 : Int32) (u : Int32) => r0 = u) (fun (u : Int32) (t : State) => ((u.toInt = (0 : Int)) ∨ (((97 : Int) ≤ u.toInt) ∧ (u.toInt ≤ (122 : Int)) ∧ (i_token.toInt = (3 : Int))))) (fun q => sz ≤ q)) 0 0 (fun q => sz ≤ q) := by
  refine Met.ofW (cc := cX9_wordHere) (maxL := 1) (ret := (some .int)) (by decide) rfl ?_
  intro p e s m args below meth c0 s₁ B hml hv
  obtain ⟨rfl, hsz, hP, hK⟩ := hv
  have hx := B.exec
  have hb := B.bytes
  have hr := B.returns
  have hts := atoms_spec (ws := .code yX9_wordHere cX9_wordHere 1 (some .int) :: GW) B.pre
  have hG : ∀ w ∈ GW, w.before _ s = true := fun w h => hts w (List.mem_cons_of_mem _ h)
  have hown : s.vm.findClass RX9 = some m.cls := findClass_of_methodNamed B.named
  subst hsz
  have hS : va_S (fun q => s.heap.size ≤ q) s.heap s.heap [] := va_S.rf
  have hP : va_P (dC, dI) vwCl (WM r ct i_taped i_size i_faultKind i_at i_end i_token i_number i_bank i_rb i_codes i_within i_piled i_unitsInRule i_askHouse i_askTune i_acts i_undone i_laid i_knowns i_time f_text f_tunes f_houses f_hums f_told f_many f_ruleFrom f_ruleTo f_code f_eWhat f_eSign f_all f_kept f_was f_sTune f_boxAll J L) s.heap := hP
  have hl := lv_entry ([.ref (r 0)]) (n := 1) (Nat.le_of_ble_eq_true rfl)
  rw [lg_entry_eq]
  generalize (lg_sl ([.ref (r 0)]) ++ List.replicate (1 - (lg_sl ([.ref (r 0)])).length) Slot.unset).toArray = ls at hl ⊢
  have hl : lv_has ls 1 [(0, .ref (r 0))] := hl
  refine nameQ (fun Q hQ => ?_)
  obtain ⟨ie0, ie1, ie2, ie3, ie4, ie5, ie6, ie7, ie8, ie9, ie10, ie11, ie12, ie13, ie14, ie15, ie16, ie17, ie18, ie19, ie20, ie21, ie22, ie23, ie24, ie25, ie26, ie27, ie28, ie29, ie30, ie31, ie32⟩ := id hI
  have f1 : 0 ≤ (f_tunes (i_bank.toInt).toNat).toInt ∧ (f_tunes (i_bank.toInt).toNat).toInt ≤ 5 := ie21 (i_bank.toInt)
  have f2 : 0 ≤ (f_houses (i_bank.toInt).toNat).toInt ∧ (f_houses (i_bank.toInt).toNat).toInt ≤ 4 := ie22 (i_bank.toInt)
  refine lv_aload_n hx hb dX9_wordHere_0 rfl (lv_at hl 0 rfl) ?_
  refine lv_ldc2 (v := 1935764837) hx hb hown (hG _ gw1387) dX9_wordHere_1 ?_
  refine va_calli (va_runV (As := [.long (1935764837 : Int64)]) (rest := []) ⟨hx, hb, hml, hown, hG⟩ (kX9_isWord l dC dI r ct i_taped i_size i_faultKind i_at i_end i_token i_number i_bank i_rb i_codes i_within i_piled i_unitsInRule i_askHouse i_askTune i_acts i_undone i_laid i_knowns i_time f_text f_tunes f_houses f_hums f_told f_many f_ruleFrom f_ruleTo f_code f_eWhat f_eSign f_all f_kept f_was f_sTune f_boxAll J L (1935764837 : Int64) s.heap.size hI) (cwV 1 hG (goodV gw1413 gw1415 gw64 gw138 gw1416) rfl rfl rfl hd_X9_isWord ⟨(Nat.le_of_ble_eq_true rfl), (Nat.le_of_ble_eq_true rfl)⟩) ⟨fbR, va_recv hK hP (ci := 8) (q0 := 0) rfl rfl, pR_in hP hK⟩ rfl rfl hl.1 rfl (lv_room (Nat.le_of_ble_eq_true rfl)) dX9_wordHere_4 ⟨(Nat.le_of_ble_eq_true rfl), (Nat.le_of_ble_eq_true rfl)⟩) hS (fun q hq h => absurd hq (Nat.not_lt.mpr h)) (fun q h => Nat.le_trans hS.1 h) (fun r_4 u_ t_ H3 locs ht hvm hw hB hz1 hk1 hS => ?_)
  subst hw
  have hP := wk hP hk1
  obtain ⟨f5, f6, f7⟩ := hB
  refine lv_if_eq (tgt := 13) hx hb dX9_wordHere_7 (by decide) (fun c_8 => ?_) (fun c_8 => ?_)
  · skip
    have f9 : r_4.toInt = 0 := qi_eq c_8 rfl zc_0
    refine lv_aload_n hx hb dX9_wordHere_13 rfl (lv_at hl 0 rfl) ?_
    refine lv_ldc2 (v := 1953854062) hx hb hown (hG _ gw1388) dX9_wordHere_14 ?_
    refine va_calli (va_runV (As := [.long (1953854062 : Int64)]) (rest := []) ⟨hx, hb, hml, hown, hG⟩ (kX9_isWord l dC dI r ct i_taped i_size i_faultKind i_at i_end i_token i_number i_bank i_rb i_codes i_within i_piled i_unitsInRule i_askHouse i_askTune i_acts i_undone i_laid i_knowns i_time f_text f_tunes f_houses f_hums f_told f_many f_ruleFrom f_ruleTo f_code f_eWhat f_eSign f_all f_kept f_was f_sTune f_boxAll J L (1953854062 : Int64) H3.size hI) (cwV 1 hG (goodV gw1413 gw1415 gw64 gw138 gw1416) rfl rfl rfl hd_X9_isWord ⟨(Nat.le_of_ble_eq_true rfl), (Nat.le_of_ble_eq_true rfl)⟩) ⟨fbR, va_recv hK hP (ci := 8) (q0 := 0) rfl rfl, pR_in hP hK⟩ rfl rfl hl.1 rfl (lv_room (Nat.le_of_ble_eq_true rfl)) dX9_wordHere_17 ⟨(Nat.le_of_ble_eq_true rfl), (Nat.le_of_ble_eq_true rfl)⟩) hS (fun q hq h => absurd hq (Nat.not_lt.mpr h)) (fun q h => Nat.le_trans hS.1 h) (fun r_11 u_ t_ H10 locs ht hvm hw hB hz1 hk1 hS => ?_)
    subst hw
    have hP := wk hP hk1
    obtain ⟨f12, f13, f14⟩ := hB
    refine lv_if_eq (tgt := 26) hx hb dX9_wordHere_20 (by decide) (fun c_15 => ?_) (fun c_15 => ?_)
    · skip
      have f16 : r_11.toInt = 0 := qi_eq c_15 rfl zc_0
      refine lv_aload_n hx hb dX9_wordHere_26 rfl (lv_at hl 0 rfl) ?_
      refine lv_ldc2 (v := 1819242087) hx hb hown (hG _ gw1389) dX9_wordHere_27 ?_
      refine va_calli (va_runV (As := [.long (1819242087 : Int64)]) (rest := []) ⟨hx, hb, hml, hown, hG⟩ (kX9_isWord l dC dI r ct i_taped i_size i_faultKind i_at i_end i_token i_number i_bank i_rb i_codes i_within i_piled i_unitsInRule i_askHouse i_askTune i_acts i_undone i_laid i_knowns i_time f_text f_tunes f_houses f_hums f_told f_many f_ruleFrom f_ruleTo f_code f_eWhat f_eSign f_all f_kept f_was f_sTune f_boxAll J L (1819242087 : Int64) H10.size hI) (cwV 1 hG (goodV gw1413 gw1415 gw64 gw138 gw1416) rfl rfl rfl hd_X9_isWord ⟨(Nat.le_of_ble_eq_true rfl), (Nat.le_of_ble_eq_true rfl)⟩) ⟨fbR, va_recv hK hP (ci := 8) (q0 := 0) rfl rfl, pR_in hP hK⟩ rfl rfl hl.1 rfl (lv_room (Nat.le_of_ble_eq_true rfl)) dX9_wordHere_30 ⟨(Nat.le_of_ble_eq_true rfl), (Nat.le_of_ble_eq_true rfl)⟩) hS (fun q hq h => absurd hq (Nat.not_lt.mpr h)) (fun q h => Nat.le_trans hS.1 h) (fun r_18 u_ t_ H17 locs ht hvm hw hB hz1 hk1 hS => ?_)
      subst hw
      have hP := wk hP hk1
      obtain ⟨f19, f20, f21⟩ := hB
      refine lv_if_eq (tgt := 39) hx hb dX9_wordHere_33 (by decide) (fun c_22 => ?_) (fun c_22 => ?_)
      · skip
        have f23 : r_18.toInt = 0 := qi_eq c_22 rfl zc_0
        refine lv_aload_n hx hb dX9_wordHere_39 rfl (lv_at hl 0 rfl) ?_
        refine lv_ldc2 (v := 2003792494) hx hb hown (hG _ gw1390) dX9_wordHere_40 ?_
        refine va_calli (va_runV (As := [.long (2003792494 : Int64)]) (rest := []) ⟨hx, hb, hml, hown, hG⟩ (kX9_isWord l dC dI r ct i_taped i_size i_faultKind i_at i_end i_token i_number i_bank i_rb i_codes i_within i_piled i_unitsInRule i_askHouse i_askTune i_acts i_undone i_laid i_knowns i_time f_text f_tunes f_houses f_hums f_told f_many f_ruleFrom f_ruleTo f_code f_eWhat f_eSign f_all f_kept f_was f_sTune f_boxAll J L (2003792494 : Int64) H17.size hI) (cwV 1 hG (goodV gw1413 gw1415 gw64 gw138 gw1416) rfl rfl rfl hd_X9_isWord ⟨(Nat.le_of_ble_eq_true rfl), (Nat.le_of_ble_eq_true rfl)⟩) ⟨fbR, va_recv hK hP (ci := 8) (q0 := 0) rfl rfl, pR_in hP hK⟩ rfl rfl hl.1 rfl (lv_room (Nat.le_of_ble_eq_true rfl)) dX9_wordHere_43 ⟨(Nat.le_of_ble_eq_true rfl), (Nat.le_of_ble_eq_true rfl)⟩) hS (fun q hq h => absurd hq (Nat.not_lt.mpr h)) (fun q h => Nat.le_trans hS.1 h) (fun r_25 u_ t_ H24 locs ht hvm hw hB hz1 hk1 hS => ?_)
        subst hw
        have hP := wk hP hk1
        obtain ⟨f26, f27, f28⟩ := hB
        refine lv_if_eq (tgt := 52) hx hb dX9_wordHere_46 (by decide) (fun c_29 => ?_) (fun c_29 => ?_)
        · skip
          have f30 : r_25.toInt = 0 := qi_eq c_29 rfl zc_0
          refine lv_aload_n hx hb dX9_wordHere_52 rfl (lv_at hl 0 rfl) ?_
          refine lv_ldc2 (v := 512802253683) hx hb hown (hG _ gw1391) dX9_wordHere_53 ?_
          refine va_calli (va_runV (As := [.long (512802253683 : Int64)]) (rest := []) ⟨hx, hb, hml, hown, hG⟩ (kX9_isWord l dC dI r ct i_taped i_size i_faultKind i_at i_end i_token i_number i_bank i_rb i_codes i_within i_piled i_unitsInRule i_askHouse i_askTune i_acts i_undone i_laid i_knowns i_time f_text f_tunes f_houses f_hums f_told f_many f_ruleFrom f_ruleTo f_code f_eWhat f_eSign f_all f_kept f_was f_sTune f_boxAll J L (512802253683 : Int64) H24.size hI) (cwV 1 hG (goodV gw1413 gw1415 gw64 gw138 gw1416) rfl rfl rfl hd_X9_isWord ⟨(Nat.le_of_ble_eq_true rfl), (Nat.le_of_ble_eq_true rfl)⟩) ⟨fbR, va_recv hK hP (ci := 8) (q0 := 0) rfl rfl, pR_in hP hK⟩ rfl rfl hl.1 rfl (lv_room (Nat.le_of_ble_eq_true rfl)) dX9_wordHere_56 ⟨(Nat.le_of_ble_eq_true rfl), (Nat.le_of_ble_eq_true rfl)⟩) hS (fun q hq h => absurd hq (Nat.not_lt.mpr h)) (fun q h => Nat.le_trans hS.1 h) (fun r_32 u_ t_ H31 locs ht hvm hw hB hz1 hk1 hS => ?_)
          subst hw
          have hP := wk hP hk1
          obtain ⟨f33, f34, f35⟩ := hB
          refine lv_if_eq (tgt := 65) hx hb dX9_wordHere_59 (by decide) (fun c_36 => ?_) (fun c_36 => ?_)
          · skip
            have f37 : r_32.toInt = 0 := qi_eq c_36 rfl zc_0
            refine lv_aload_n hx hb dX9_wordHere_65 rfl (lv_at hl 0 rfl) ?_
            refine lv_ldc2 (v := 482955846501) hx hb hown (hG _ gw1378) dX9_wordHere_66 ?_
            refine va_calli (va_runV (As := [.long (482955846501 : Int64)]) (rest := []) ⟨hx, hb, hml, hown, hG⟩ (kX9_isWord l dC dI r ct i_taped i_size i_faultKind i_at i_end i_token i_number i_bank i_rb i_codes i_within i_piled i_unitsInRule i_askHouse i_askTune i_acts i_undone i_laid i_knowns i_time f_text f_tunes f_houses f_hums f_told f_many f_ruleFrom f_ruleTo f_code f_eWhat f_eSign f_all f_kept f_was f_sTune f_boxAll J L (482955846501 : Int64) H31.size hI) (cwV 1 hG (goodV gw1413 gw1415 gw64 gw138 gw1416) rfl rfl rfl hd_X9_isWord ⟨(Nat.le_of_ble_eq_true rfl), (Nat.le_of_ble_eq_true rfl)⟩) ⟨fbR, va_recv hK hP (ci := 8) (q0 := 0) rfl rfl, pR_in hP hK⟩ rfl rfl hl.1 rfl (lv_room (Nat.le_of_ble_eq_true rfl)) dX9_wordHere_69 ⟨(Nat.le_of_ble_eq_true rfl), (Nat.le_of_ble_eq_true rfl)⟩) hS (fun q hq h => absurd hq (Nat.not_lt.mpr h)) (fun q h => Nat.le_trans hS.1 h) (fun r_39 u_ t_ H38 locs ht hvm hw hB hz1 hk1 hS => ?_)
            subst hw
            have hP := wk hP hk1
            obtain ⟨f40, f41, f42⟩ := hB
            refine lv_if_eq (tgt := 78) hx hb dX9_wordHere_72 (by decide) (fun c_43 => ?_) (fun c_43 => ?_)
            · skip
              have f44 : r_39.toInt = 0 := qi_eq c_43 rfl zc_0
              refine lv_aload_n hx hb dX9_wordHere_78 rfl (lv_at hl 0 rfl) ?_
              refine lv_ldc2 (v := 483006772069) hx hb hown (hG _ gw1382) dX9_wordHere_79 ?_
              refine va_calli (va_runV (As := [.long (483006772069 : Int64)]) (rest := []) ⟨hx, hb, hml, hown, hG⟩ (kX9_isWord l dC dI r ct i_taped i_size i_faultKind i_at i_end i_token i_number i_bank i_rb i_codes i_within i_piled i_unitsInRule i_askHouse i_askTune i_acts i_undone i_laid i_knowns i_time f_text f_tunes f_houses f_hums f_told f_many f_ruleFrom f_ruleTo f_code f_eWhat f_eSign f_all f_kept f_was f_sTune f_boxAll J L (483006772069 : Int64) H38.size hI) (cwV 1 hG (goodV gw1413 gw1415 gw64 gw138 gw1416) rfl rfl rfl hd_X9_isWord ⟨(Nat.le_of_ble_eq_true rfl), (Nat.le_of_ble_eq_true rfl)⟩) ⟨fbR, va_recv hK hP (ci := 8) (q0 := 0) rfl rfl, pR_in hP hK⟩ rfl rfl hl.1 rfl (lv_room (Nat.le_of_ble_eq_true rfl)) dX9_wordHere_82 ⟨(Nat.le_of_ble_eq_true rfl), (Nat.le_of_ble_eq_true rfl)⟩) hS (fun q hq h => absurd hq (Nat.not_lt.mpr h)) (fun q h => Nat.le_trans hS.1 h) (fun r_46 u_ t_ H45 locs ht hvm hw hB hz1 hk1 hS => ?_)
              subst hw
              have hP := wk hP hk1
              obtain ⟨f47, f48, f49⟩ := hB
              refine lv_if_eq (tgt := 93) hx hb dX9_wordHere_85 (by decide) (fun c_50 => ?_) (fun c_50 => ?_)
              · skip
                have f51 : r_46.toInt = 0 := qi_eq c_50 rfl zc_0
                refine lv_iconst (v := 0) hx hb dX9_wordHere_93 (by decide) ?_
                rw [hQ]
                exact W.iret (v := 0) hx hb hr (fun t ht hW => ⟨⟨0, 0, rfl, rfl, (ob_310 zc_0)⟩, hS.F ht⟩) hS.2.2 dX9_wordHere_94
              · skip
                have f52 : r_46.toInt ≠ 0 := qi_ne c_50 rfl zc_0
                have f53 : i_token.toInt = (3 : Int) := (ob_311 f47 f52 zl_483006772069)
                have f54 : (L 0 0).toInt = (483006772069 : Int) := (ob_312 f47 f52 zl_483006772069)
                have f55 : r_46.toInt = (1 : Int) := (ob_313 f47 f52 zl_483006772069)
                have f56 : (1 : Int) ≤ r_46.toInt := (ob_162 f48 f49 f55)
                refine lv_bipush (v := 117) hx hb dX9_wordHere_88 (by decide) ?_
                refine lv_goto (tgt := 94) hx hb dX9_wordHere_90 (by decide) ?_
                rw [hQ]
                exact W.iret (v := 117) hx hb hr (fun t ht hW => ⟨⟨117, 117, rfl, rfl, (ob_314 f53 zc_117)⟩, hS.F ht⟩) hS.2.2 dX9_wordHere_94
            · skip
              have f57 : r_39.toInt ≠ 0 := qi_ne c_43 rfl zc_0
              have f58 : i_token.toInt = (3 : Int) := (ob_315 f40 f57 zl_482955846501)
              have f59 : (L 0 0).toInt = (482955846501 : Int) := (ob_316 f40 f57 zl_482955846501)
              have f60 : r_39.toInt = (1 : Int) := (ob_317 f40 f57 zl_482955846501)
              have f61 : (1 : Int) ≤ r_39.toInt := (ob_162 f41 f42 f60)
              refine lv_bipush (v := 112) hx hb dX9_wordHere_75 (by decide) ?_
              rw [hQ]
              exact W.iret (v := 112) hx hb hr (fun t ht hW => ⟨⟨112, 112, rfl, rfl, (ob_318 f58 zc_112)⟩, hS.F ht⟩) hS.2.2 dX9_wordHere_77
          · skip
            have f62 : r_32.toInt ≠ 0 := qi_ne c_36 rfl zc_0
            have f63 : i_token.toInt = (3 : Int) := (ob_319 f33 f62 zl_512802253683)
            have f64 : (L 0 0).toInt = (512802253683 : Int) := (ob_320 f33 f62 zl_512802253683)
            have f65 : r_32.toInt = (1 : Int) := (ob_321 f33 f62 zl_512802253683)
            have f66 : (1 : Int) ≤ r_32.toInt := (ob_162 f34 f35 f65)
            refine lv_bipush (v := 119) hx hb dX9_wordHere_62 (by decide) ?_
            rw [hQ]
            exact W.iret (v := 119) hx hb hr (fun t ht hW => ⟨⟨119, 119, rfl, rfl, (ob_322 f63 zc_119)⟩, hS.F ht⟩) hS.2.2 dX9_wordHere_64
        · skip
          have f67 : r_25.toInt ≠ 0 := qi_ne c_29 rfl zc_0
          have f68 : i_token.toInt = (3 : Int) := (ob_323 f26 f67 zl_2003792494)
          have f69 : (L 0 0).toInt = (2003792494 : Int) := (ob_324 f26 f67 zl_2003792494)
          have f70 : r_25.toInt = (1 : Int) := (ob_325 f26 f67 zl_2003792494)
          have f71 : (1 : Int) ≤ r_25.toInt := (ob_162 f27 f28 f70)
          refine lv_bipush (v := 111) hx hb dX9_wordHere_49 (by decide) ?_
          rw [hQ]
          exact W.iret (v := 111) hx hb hr (fun t ht hW => ⟨⟨111, 111, rfl, rfl, (ob_326 f68 zc_111)⟩, hS.F ht⟩) hS.2.2 dX9_wordHere_51
      · skip
        have f72 : r_18.toInt ≠ 0 := qi_ne c_22 rfl zc_0
        have f73 : i_token.toInt = (3 : Int) := (ob_327 f19 f72 zl_1819242087)
        have f74 : (L 0 0).toInt = (1819242087 : Int) := (ob_328 f19 f72 zl_1819242087)
        have f75 : r_18.toInt = (1 : Int) := (ob_329 f19 f72 zl_1819242087)
        have f76 : (1 : Int) ≤ r_18.toInt := (ob_162 f20 f21 f75)
        refine lv_bipush (v := 108) hx hb dX9_wordHere_36 (by decide) ?_
        rw [hQ]
        exact W.iret (v := 108) hx hb hr (fun t ht hW => ⟨⟨108, 108, rfl, rfl, (ob_330 f73 zc_108)⟩, hS.F ht⟩) hS.2.2 dX9_wordHere_38
    · skip
      have f77 : r_11.toInt ≠ 0 := qi_ne c_15 rfl zc_0
      have f78 : i_token.toInt = (3 : Int) := (ob_331 f12 f77 zl_1953854062)
      have f79 : (L 0 0).toInt = (1953854062 : Int) := (ob_332 f12 f77 zl_1953854062)
      have f80 : r_11.toInt = (1 : Int) := (ob_333 f12 f77 zl_1953854062)
      have f81 : (1 : Int) ≤ r_11.toInt := (ob_162 f13 f14 f80)
      refine lv_bipush (v := 116) hx hb dX9_wordHere_23 (by decide) ?_
      rw [hQ]
      exact W.iret (v := 116) hx hb hr (fun t ht hW => ⟨⟨116, 116, rfl, rfl, (ob_334 f78 zc_116)⟩, hS.F ht⟩) hS.2.2 dX9_wordHere_25
  · skip
    have f82 : r_4.toInt ≠ 0 := qi_ne c_8 rfl zc_0
    have f83 : i_token.toInt = (3 : Int) := (ob_335 f5 f82 zl_1935764837)
    have f84 : (L 0 0).toInt = (1935764837 : Int) := (ob_336 f5 f82 zl_1935764837)
    have f85 : r_4.toInt = (1 : Int) := (ob_337 f5 f82 zl_1935764837)
    have f86 : (1 : Int) ≤ r_4.toInt := (ob_162 f6 f7 f85)
    refine lv_bipush (v := 115) hx hb dX9_wordHere_10 (by decide) ?_
    rw [hQ]
    exact W.iret (v := 115) hx hb hr (fun t ht hW => ⟨⟨115, 115, rfl, rfl, (ob_338 f83 zc_115)⟩, hS.F ht⟩) hS.2.2 dX9_wordHere_12
