set_option maxHeartbeats 4000000 in
set_option maxRecDepth 100000 in
theorem kX9_misplaced (l : Launch) (dC : Nat → ClassId) (dI : Nat → Nat → Nat) (r : Nat → Nat) (ct : Nat → ClassId) (i_taped i_size i_faultKind i_at i_end i_token i_number i_bank i_rb i_codes i_within i_piled i_unitsInRule i_askHouse i_askTune i_acts i_undone i_laid i_knowns i_time : Int32) (f_text f_tunes f_houses f_hums f_told f_many f_ruleFrom f_ruleTo f_code f_eWhat f_eSign f_all f_kept f_was f_sTune f_boxAll : Nat → Int32) (J : Nat → Nat → Int32) (L : Nat → Nat → Int64) (sz : Nat) (hI : (IM i_taped i_size i_faultKind i_at i_end i_bank i_rb i_acts i_undone i_laid i_knowns i_time f_tunes f_houses f_hums f_told f_many f_ruleFrom f_ruleTo f_code f_all f_kept f_was f_sTune f_boxAll)) : Met l yX9_misplaced (.code yX9_misplaced cX9_misplaced 1 none :: GW) { frames := 4, cells := 0, slots := 0, locals := 162 } (va_Pc [.ref (r 0)] (pW (dC, dI) (WM r ct i_taped i_size i_faultKind i_at i_end i_token i_number i_bank i_rb i_codes i_within i_piled i_unitsInRule i_askHouse i_askTune i_acts i_undone i_laid i_knowns i_time f_text f_tunes f_houses f_hums f_told f_many f_ruleFrom f_ruleTo f_code f_eWhat f_eSign f_all f_kept f_was f_sTune f_boxAll J L) (TM ct) sz)) (va_Qv (fun _ : Unit => True) (fun (_ : Unit) (t : State) => ∃ (n_i_faultKind : Int32) (n_J : Nat → Nat → Int32), va_P (dC, dI) vwCl (WM r ct i_taped i_size n_i_faultKind i_at i_end i_token i_number i_bank i_rb i_codes i_within i_piled i_unitsInRule i_askHouse i_askTune i_acts i_undone i_laid i_knowns i_time f_text f_tunes f_houses f_hums f_told f_many f_ruleFrom f_ruleTo f_code f_eWhat f_eSign f_all f_kept f_was f_sTune f_boxAll n_J L) t.heap ∧ va_D (va_A (WM r ct i_taped i_size i_faultKind i_at i_end i_token i_number i_bank i_rb i_codes i_within i_piled i_unitsInRule i_askHouse i_askTune i_acts i_undone i_laid i_knowns i_time f_text f_tunes f_houses f_hums f_told f_many f_ruleFrom f_ruleTo f_code f_eWhat f_eSign f_all f_kept f_was f_sTune f_boxAll J L) sz) (WM r ct i_taped i_size n_i_faultKind i_at i_end i_token i_number i_bank i_rb i_codes i_within i_piled i_unitsInRule i_askHouse i_askTune i_acts i_undone i_laid i_knowns i_time f_text f_tunes f_houses f_hums f_told f_many f_ruleFrom f_ruleTo f_code f_eWhat f_eSign f_all f_kept f_was f_sTune f_boxAll n_J L) ∧ (IM i_taped i_size n_i_faultKind i_at i_end i_bank i_rb i_acts i_undone i_laid i_knowns i_time f_tunes f_houses f_hums f_told f_many f_ruleFrom f_ruleTo f_code f_all f_kept f_was f_sTune f_boxAll) ∧ ((1 : Int) ≤ n_i_faultKind.toInt)) (va_A (WM r ct i_taped i_size i_faultKind i_at i_end i_token i_number i_bank i_rb i_codes i_within i_piled i_unitsInRule i_askHouse i_askTune i_acts i_undone i_laid i_knowns i_time f_text f_tunes f_houses f_hums f_told f_many f_ruleFrom f_ruleTo f_code f_eWhat f_eSign f_all f_kept f_was f_sTune f_boxAll J L) sz)) 0 0 (va_A (WM r ct i_taped i_size i_faultKind i_at i_end i_token i_number i_bank i_rb i_codes i_within i_piled i_unitsInRule i_askHouse i_askTune i_acts i_undone i_laid i_knowns i_time f_text f_tunes f_houses f_hums f_told f_many f_ruleFrom f_ruleTo f_code f_eWhat f_eSign f_all f_kept f_was f_sTune f_boxAll J L) sz) := by
  refine Met.ofW (cc := cX9_misplaced) (maxL := 1) (ret := none) (by decide) rfl ?_
  intro p e s m args below meth c0 s₁ B hml hv
  obtain ⟨rfl, hsz, hP, hK, hD0⟩ := hv
  have hx := B.exec
  have hb := B.bytes
  have hr := B.returns
  have hts := atoms_spec (ws := .code yX9_misplaced cX9_misplaced 1 none :: GW) B.pre
  have hG : ∀ w ∈ GW, w.before _ s = true := fun w h => hts w (List.mem_cons_of_mem _ h)
  have hown : s.vm.findClass RX9 = some m.cls := findClass_of_methodNamed B.named
  subst hsz
  have hD := hD0.self (sz := s.heap.size)
  generalize hAe : va_A (WM r ct i_taped i_size i_faultKind i_at i_end i_token i_number i_bank i_rb i_codes i_within i_piled i_unitsInRule i_askHouse i_askTune i_acts i_undone i_laid i_knowns i_time f_text f_tunes f_houses f_hums f_told f_many f_ruleFrom f_ruleTo f_code f_eWhat f_eSign f_all f_kept f_was f_sTune f_boxAll J L) s.heap.size = A at hD ⊢
  have hA : ∀ q : Nat, s.heap.size ≤ q → A q := fun q h => by rw [← hAe]; exact Or.inr h
  have hS : va_S A s.heap s.heap [] := va_S.rf
  have hP : va_P (dC, dI) vwCl (WM r ct i_taped i_size i_faultKind i_at i_end i_token i_number i_bank i_rb i_codes i_within i_piled i_unitsInRule i_askHouse i_askTune i_acts i_undone i_laid i_knowns i_time f_text f_tunes f_houses f_hums f_told f_many f_ruleFrom f_ruleTo f_code f_eWhat f_eSign f_all f_kept f_was f_sTune f_boxAll J L) s.heap := hP
  have hl := lv_entry ([.ref (r 0)]) (n := 1) (Nat.le_of_ble_eq_true rfl)
  rw [lg_entry_eq]
  generalize (lg_sl ([.ref (r 0)]) ++ List.replicate (1 - (lg_sl ([.ref (r 0)])).length) Slot.unset).toArray = ls at hl ⊢
  have hl : lv_has ls 1 [(0, .ref (r 0))] := hl
  refine nameQ (fun Q hQ => ?_)
  obtain ⟨im0, im1, im2, im3, im4, im5, im6, im7, im8, im9, im10, im11, im12, im13, im14, im15, im16, im17, im18, im19, im20, im21, im22, im23, im24, im25, im26, im27, im28, im29, im30, im31, im32⟩ := id hI
  have f1 : 0 ≤ (f_tunes (i_bank.toInt).toNat).toInt ∧ (f_tunes (i_bank.toInt).toNat).toInt ≤ 5 := im21 (i_bank.toInt)
  have f2 : 0 ≤ (f_houses (i_bank.toInt).toNat).toInt ∧ (f_houses (i_bank.toInt).toNat).toInt ≤ 4 := im22 (i_bank.toInt)
  refine lv_aload_n hx hb dX9_misplaced_0 rfl (lv_at hl 0 rfl) ?_
  refine lv_aload_n hx hb dX9_misplaced_1 rfl (lv_at hl 0 rfl) ?_
  refine gM_X9_191_0 hx hb hG hown hK hP dX9_misplaced_2 ?_
  refine lv_iconst (v := 1) hx hb dX9_misplaced_5 (by decide) ?_
  refine lv_icmp_ne (tgt := 13) hx hb dX9_misplaced_6 (by decide) (fun c_3 => ?_) (fun c_3 => ?_)
  · skip
    have f4 : i_token.toInt ≠ 1 := qi_ne c_3 rfl zc_1
    refine lv_iconst (v := 2) hx hb dX9_misplaced_13 (by decide) ?_
    refine lv_aload_n hx hb dX9_misplaced_14 rfl (lv_at hl 0 rfl) ?_
    refine gM_X9_184_0 hx hb hG hown hK hP dX9_misplaced_15 ?_
    have hFc := frA hD hS hA
    refine va_callv (va_runV (As := [.int 2, .int i_at]) (rest := []) ⟨hx, hb, hml, hown, hG⟩ (kX9_fails l dC dI r ct i_taped i_size i_faultKind i_at i_end i_token i_number i_bank i_rb i_codes i_within i_piled i_unitsInRule i_askHouse i_askTune i_acts i_undone i_laid i_knowns i_time f_text f_tunes f_houses f_hums f_told f_many f_ruleFrom f_ruleTo f_code f_eWhat f_eSign f_all f_kept f_was f_sTune f_boxAll J L 2 i_at s.heap.size hI (ob_155 zc_2)) (cwV 2 hG (goodV gw1424 gw1426 gw66 gw138 gw1427) rfl rfl rfl hd_X9_fails ⟨(Nat.le_of_ble_eq_true rfl), (Nat.le_of_ble_eq_true rfl)⟩) ⟨fbW, va_recv hK hP (ci := 8) (q0 := 0) rfl rfl, pW_in hP hK hD⟩ rfl rfl hl.1 rfl (lv_room (Nat.le_of_ble_eq_true rfl)) dX9_misplaced_18 ⟨(Nat.le_of_ble_eq_true rfl), (Nat.le_of_ble_eq_true rfl)⟩) hS (fun q _ h => hFc q h) hFc (fun _ t_ H5 locs ht hvm hw hB hz1 hk1 hS => ?_)
    obtain ⟨x7, J8, hP1, hD1, hI10, f9⟩ := hB
    rw [ht] at hP1
    have hP := hP1
    have hD := dW hFc hD1
    obtain ⟨im11, im12, im13, im14, im15, im16, im17, im18, im19, im20, im21, im22, im23, im24, im25, im26, im27, im28, im29, im30, im31, im32, im33, im34, im35, im36, im37, im38, im39, im40, im41, im42, im43⟩ := id hI10
    rw [hQ]
    exact W.vret hx hb hr (fun t ht hW => ⟨⟨(), rfl, trivial, ⟨x7, J8, by rw [ht]; exact hP, hD, hI10, (ob_156 im28 f9)⟩⟩, hS.F ht⟩) hS.2.2 dX9_misplaced_21
  · skip
    have f44 : i_token.toInt = 1 := qi_eq c_3 rfl zc_1
    refine lv_iconst (v := 1) hx hb dX9_misplaced_9 (by decide) ?_
    refine lv_goto (tgt := 14) hx hb dX9_misplaced_10 (by decide) ?_
    refine lv_aload_n hx hb dX9_misplaced_14 rfl (lv_at hl 0 rfl) ?_
    refine gM_X9_184_0 hx hb hG hown hK hP dX9_misplaced_15 ?_
    have hFc := frA hD hS hA
    refine va_callv (va_runV (As := [.int 1, .int i_at]) (rest := []) ⟨hx, hb, hml, hown, hG⟩ (kX9_fails l dC dI r ct i_taped i_size i_faultKind i_at i_end i_token i_number i_bank i_rb i_codes i_within i_piled i_unitsInRule i_askHouse i_askTune i_acts i_undone i_laid i_knowns i_time f_text f_tunes f_houses f_hums f_told f_many f_ruleFrom f_ruleTo f_code f_eWhat f_eSign f_all f_kept f_was f_sTune f_boxAll J L 1 i_at s.heap.size hI (ob_157 zc_1)) (cwV 2 hG (goodV gw1424 gw1426 gw66 gw138 gw1427) rfl rfl rfl hd_X9_fails ⟨(Nat.le_of_ble_eq_true rfl), (Nat.le_of_ble_eq_true rfl)⟩) ⟨fbW, va_recv hK hP (ci := 8) (q0 := 0) rfl rfl, pW_in hP hK hD⟩ rfl rfl hl.1 rfl (lv_room (Nat.le_of_ble_eq_true rfl)) dX9_misplaced_18 ⟨(Nat.le_of_ble_eq_true rfl), (Nat.le_of_ble_eq_true rfl)⟩) hS (fun q _ h => hFc q h) hFc (fun _ t_ H45 locs ht hvm hw hB hz1 hk1 hS => ?_)
    obtain ⟨x47, J48, hP1, hD1, hI50, f49⟩ := hB
    rw [ht] at hP1
    have hP := hP1
    have hD := dW hFc hD1
    obtain ⟨im51, im52, im53, im54, im55, im56, im57, im58, im59, im60, im61, im62, im63, im64, im65, im66, im67, im68, im69, im70, im71, im72, im73, im74, im75, im76, im77, im78, im79, im80, im81, im82, im83⟩ := id hI50
    rw [hQ]
    exact W.vret hx hb hr (fun t ht hW => ⟨⟨(), rfl, trivial, ⟨x47, J48, by rw [ht]; exact hP, hD, hI50, (ob_156 im68 f49)⟩⟩, hS.F ht⟩) hS.2.2 dX9_misplaced_21
set_option maxHeartbeats 4000000 in
set_option maxRecDepth 100000 in
theorem kX9_must (l : Launch) (dC : Nat → ClassId) (dI : Nat → Nat → Nat) (r : Nat → Nat) (ct : Nat → ClassId) (i_taped i_size i_faultKind i_at i_end i_token i_number i_bank i_rb i_codes i_within i_piled i_unitsInRule i_askHouse i_askTune i_acts i_undone i_laid i_knowns i_time : Int32) (f_text f_tunes f_houses f_hums f_told f_many f_ruleFrom f_ruleTo f_code f_eWhat f_eSign f_all f_kept f_was f_sTune f_boxAll : Nat → Int32) (J : Nat → Nat → Int32) (L : Nat → Nat → Int64) (p0 : Int32) (sz : Nat) (hI : (IM i_taped i_size i_faultKind i_at i_end i_bank i_rb i_acts i_undone i_laid i_knowns i_time f_tunes f_houses f_hums f_told f_many f_ruleFrom f_ruleTo f_code f_all f_kept f_was f_sTune f_boxAll)) (hz_p0 : 0 ≤ p0.toInt ∧ p0.toInt ≤ 1) : Met l yX9_must (.code yX9_must cX9_must 2 none :: GW) { frames := 6, cells := 0, slots := 0, locals := 224 } (va_Pc [.ref (r 0), .int p0] (pW (dC, dI) (WM r ct i_taped i_size i_faultKind i_at i_end i_token i_number i_bank i_rb i_codes i_within i_piled i_unitsInRule i_askHouse i_askTune i_acts i_undone i_laid i_knowns i_time f_text f_tunes f_houses f_hums f_told f_many f_ruleFrom f_ruleTo f_code f_eWhat f_eSign f_all f_kept f_was f_sTune f_boxAll J L) (TM ct) sz)) (va_Qv (fun _ : Unit => True) (fun (_ : Unit) (t : State) => ∃ (n_i_faultKind n_i_at n_i_end n_i_token n_i_number : Int32) (n_J : Nat → Nat → Int32) (n_L : Nat → Nat → Int64), va_P (dC, dI) vwCl (WM r ct i_taped i_size n_i_faultKind n_i_at n_i_end n_i_token n_i_number i_bank i_rb i_codes i_within i_piled i_unitsInRule i_askHouse i_askTune i_acts i_undone i_laid i_knowns i_time f_text f_tunes f_houses f_hums f_told f_many f_ruleFrom f_ruleTo f_code f_eWhat f_eSign f_all f_kept f_was f_sTune f_boxAll n_J n_L) t.heap ∧ va_D (va_A (WM r ct i_taped i_size i_faultKind i_at i_end i_token i_number i_bank i_rb i_codes i_within i_piled i_unitsInRule i_askHouse i_askTune i_acts i_undone i_laid i_knowns i_time f_text f_tunes f_houses f_hums f_told f_many f_ruleFrom f_ruleTo f_code f_eWhat f_eSign f_all f_kept f_was f_sTune f_boxAll J L) sz) (WM r ct i_taped i_size n_i_faultKind n_i_at n_i_end n_i_token n_i_number i_bank i_rb i_codes i_within i_piled i_unitsInRule i_askHouse i_askTune i_acts i_undone i_laid i_knowns i_time f_text f_tunes f_houses f_hums f_told f_many f_ruleFrom f_ruleTo f_code f_eWhat f_eSign f_all f_kept f_was f_sTune f_boxAll n_J n_L) ∧ (IM i_taped i_size n_i_faultKind n_i_at n_i_end i_bank i_rb i_acts i_undone i_laid i_knowns i_time f_tunes f_houses f_hums f_told f_many f_ruleFrom f_ruleTo f_code f_all f_kept f_was f_sTune f_boxAll) ∧ (i_end.toInt ≤ n_i_end.toInt) ∧ (((1 : Int) ≤ n_i_faultKind.toInt) ∨ ((n_i_faultKind.toInt = (0 : Int)) ∧ (i_faultKind.toInt = (0 : Int)) ∧ (p0.toInt = (1 : Int)) ∧ ((n_i_token.toInt = (0 : Int)) ∨ (i_end.toInt + 1 ≤ n_i_end.toInt))))) (va_A (WM r ct i_taped i_size i_faultKind i_at i_end i_token i_number i_bank i_rb i_codes i_within i_piled i_unitsInRule i_askHouse i_askTune i_acts i_undone i_laid i_knowns i_time f_text f_tunes f_houses f_hums f_told f_many f_ruleFrom f_ruleTo f_code f_eWhat f_eSign f_all f_kept f_was f_sTune f_boxAll J L) sz)) 0 0 (va_A (WM r ct i_taped i_size i_faultKind i_at i_end i_token i_number i_bank i_rb i_codes i_within i_piled i_unitsInRule i_askHouse i_askTune i_acts i_undone i_laid i_knowns i_time f_text f_tunes f_houses f_hums f_told f_many f_ruleFrom f_ruleTo f_code f_eWhat f_eSign f_all f_kept f_was f_sTune f_boxAll J L) sz) := by
  refine Met.ofW (cc := cX9_must) (maxL := 2) (ret := none) (by decide) rfl ?_
  intro p e s m args below meth c0 s₁ B hml hv
  obtain ⟨rfl, hsz, hP, hK, hD0⟩ := hv
  have hx := B.exec
  have hb := B.bytes
  have hr := B.returns
  have hts := atoms_spec (ws := .code yX9_must cX9_must 2 none :: GW) B.pre
  have hG : ∀ w ∈ GW, w.before _ s = true := fun w h => hts w (List.mem_cons_of_mem _ h)
  have hown : s.vm.findClass RX9 = some m.cls := findClass_of_methodNamed B.named
  subst hsz
  have hD := hD0.self (sz := s.heap.size)
  generalize hAe : va_A (WM r ct i_taped i_size i_faultKind i_at i_end i_token i_number i_bank i_rb i_codes i_within i_piled i_unitsInRule i_askHouse i_askTune i_acts i_undone i_laid i_knowns i_time f_text f_tunes f_houses f_hums f_told f_many f_ruleFrom f_ruleTo f_code f_eWhat f_eSign f_all f_kept f_was f_sTune f_boxAll J L) s.heap.size = A at hD ⊢
  have hA : ∀ q : Nat, s.heap.size ≤ q → A q := fun q h => by rw [← hAe]; exact Or.inr h
  have hS : va_S A s.heap s.heap [] := va_S.rf
  have hP : va_P (dC, dI) vwCl (WM r ct i_taped i_size i_faultKind i_at i_end i_token i_number i_bank i_rb i_codes i_within i_piled i_unitsInRule i_askHouse i_askTune i_acts i_undone i_laid i_knowns i_time f_text f_tunes f_houses f_hums f_told f_many f_ruleFrom f_ruleTo f_code f_eWhat f_eSign f_all f_kept f_was f_sTune f_boxAll J L) s.heap := hP
  have hl := lv_entry ([.ref (r 0), .int p0]) (n := 2) (Nat.le_of_ble_eq_true rfl)
  rw [lg_entry_eq]
  generalize (lg_sl ([.ref (r 0), .int p0]) ++ List.replicate (2 - (lg_sl ([.ref (r 0), .int p0])).length) Slot.unset).toArray = ls at hl ⊢
  have hl : lv_has ls 2 [(0, .ref (r 0)), (1, .int p0)] := hl
  refine nameQ (fun Q hQ => ?_)
  obtain ⟨im0, im1, im2, im3, im4, im5, im6, im7, im8, im9, im10, im11, im12, im13, im14, im15, im16, im17, im18, im19, im20, im21, im22, im23, im24, im25, im26, im27, im28, im29, im30, im31, im32⟩ := id hI
  have f1 : 0 ≤ (f_tunes (i_bank.toInt).toNat).toInt ∧ (f_tunes (i_bank.toInt).toNat).toInt ≤ 5 := im21 (i_bank.toInt)
  have f2 : 0 ≤ (f_houses (i_bank.toInt).toNat).toInt ∧ (f_houses (i_bank.toInt).toNat).toInt ≤ 4 := im22 (i_bank.toInt)
  refine lv_aload_n hx hb dX9_must_0 rfl (lv_at hl 0 rfl) ?_
  refine va_calli (va_runV (As := []) (rest := []) ⟨hx, hb, hml, hown, hG⟩ (kX9_isGood l dC dI r ct i_taped i_size i_faultKind i_at i_end i_token i_number i_bank i_rb i_codes i_within i_piled i_unitsInRule i_askHouse i_askTune i_acts i_undone i_laid i_knowns i_time f_text f_tunes f_houses f_hums f_told f_many f_ruleFrom f_ruleTo f_code f_eWhat f_eSign f_all f_kept f_was f_sTune f_boxAll J L s.heap.size hI) (cwV 0 hG (goodV gw1401 gw1403 gw61 gw138 gw1404) rfl rfl rfl hd_X9_isGood ⟨(Nat.le_of_ble_eq_true rfl), (Nat.le_of_ble_eq_true rfl)⟩) ⟨fbR, va_recv hK hP (ci := 8) (q0 := 0) rfl rfl, pR_in hP hK⟩ rfl rfl hl.1 rfl (lv_room (Nat.le_of_ble_eq_true rfl)) dX9_must_1 ⟨(Nat.le_of_ble_eq_true rfl), (Nat.le_of_ble_eq_true rfl)⟩) hS (fun q hq h => absurd hq (Nat.not_lt.mpr h)) (fun q h => hA q (Nat.le_trans hS.1 h)) (fun r_4 u_ t_ H3 locs ht hvm hw hB hz1 hk1 hS => ?_)
  subst hw
  have hP := wk hP hk1
  obtain ⟨f5, f6, f7⟩ := hB
  refine lv_if_ne (tgt := 8) hx hb dX9_must_4 (by decide) (fun c_8 => ?_) (fun c_8 => ?_)
  · skip
    have f9 : r_4.toInt ≠ 0 := qi_ne c_8 rfl zc_0
    have f10 : (1 : Int) ≤ r_4.toInt := (ob_158 f5 f9)
    have f11 : i_faultKind.toInt = (0 : Int) := (ob_159 f5 f9)
    have f12 : r_4.toInt = (1 : Int) := (ob_104 f6 f7 f10)
    refine lv_iload_n hx hb dX9_must_8 rfl (lv_at hl 1 rfl) ?_
    refine lv_if_eq (tgt := 19) hx hb dX9_must_9 (by decide) (fun c_13 => ?_) (fun c_13 => ?_)
    · skip
      have f14 : p0.toInt = 0 := qi_eq c_13 rfl zc_0
      refine lv_aload_n hx hb dX9_must_19 rfl (lv_at hl 0 rfl) ?_
      have hFc := frA hD hS hA
      refine va_callv (va_runV (As := []) (rest := []) ⟨hx, hb, hml, hown, hG⟩ (kX9_misplaced l dC dI r ct i_taped i_size i_faultKind i_at i_end i_token i_number i_bank i_rb i_codes i_within i_piled i_unitsInRule i_askHouse i_askTune i_acts i_undone i_laid i_knowns i_time f_text f_tunes f_houses f_hums f_told f_many f_ruleFrom f_ruleTo f_code f_eWhat f_eSign f_all f_kept f_was f_sTune f_boxAll J L H3.size hI) (cwV 0 hG (goodV gw1420 gw1422 gw65 gw138 gw1423) rfl rfl rfl hd_X9_misplaced ⟨(Nat.le_of_ble_eq_true rfl), (Nat.le_of_ble_eq_true rfl)⟩) ⟨fbW, va_recv hK hP (ci := 8) (q0 := 0) rfl rfl, pW_in hP hK hD⟩ rfl rfl hl.1 rfl (lv_room (Nat.le_of_ble_eq_true rfl)) dX9_must_20 ⟨(Nat.le_of_ble_eq_true rfl), (Nat.le_of_ble_eq_true rfl)⟩) hS (fun q _ h => hFc q h) hFc (fun _ t_ H15 locs ht hvm hw hB hz1 hk1 hS => ?_)
      obtain ⟨x17, J18, hP1, hD1, hI20, f19⟩ := hB
      rw [ht] at hP1
      have hP := hP1
      have hD := dW hFc hD1
      obtain ⟨im21, im22, im23, im24, im25, im26, im27, im28, im29, im30, im31, im32, im33, im34, im35, im36, im37, im38, im39, im40, im41, im42, im43, im44, im45, im46, im47, im48, im49, im50, im51, im52, im53⟩ := id hI20
      rw [hQ]
      exact W.vret hx hb hr (fun t ht hW => ⟨⟨(), rfl, trivial, ⟨x17, i_at, i_end, i_token, i_number, J18, L, by rw [ht]; exact hP, hD, hI20, (ob_88), (ob_160 f19)⟩⟩, hS.F ht⟩) hS.2.2 dX9_must_23
    · skip
      have f54 : p0.toInt ≠ 0 := qi_ne c_13 rfl zc_0
      have f55 : (1 : Int) ≤ p0.toInt := (ob_161 hz_p0 f54)
      refine lv_aload_n hx hb dX9_must_12 rfl (lv_at hl 0 rfl) ?_
      have hFc := frA hD hS hA
      refine va_callv (va_runV (As := []) (rest := []) ⟨hx, hb, hml, hown, hG⟩ (kX9_goOn l dC dI r ct i_taped i_size i_faultKind i_at i_end i_token i_number i_bank i_rb i_codes i_within i_piled i_unitsInRule i_askHouse i_askTune i_acts i_undone i_laid i_knowns i_time f_text f_tunes f_houses f_hums f_told f_many f_ruleFrom f_ruleTo f_code f_eWhat f_eSign f_all f_kept f_was f_sTune f_boxAll J L H3.size hI) (cwV 0 hG (goodV gw1362 gw1364 gw59 gw138 gw1365) rfl rfl rfl hd_X9_goOn ⟨(Nat.le_of_ble_eq_true rfl), (Nat.le_of_ble_eq_true rfl)⟩) ⟨fbW, va_recv hK hP (ci := 8) (q0 := 0) rfl rfl, pW_in hP hK hD⟩ rfl rfl hl.1 rfl (lv_room (Nat.le_of_ble_eq_true rfl)) dX9_must_13 ⟨(Nat.le_of_ble_eq_true rfl), (Nat.le_of_ble_eq_true rfl)⟩) hS (fun q _ h => hFc q h) hFc (fun _ t_ H56 locs ht hvm hw hB hz1 hk1 hS => ?_)
      obtain ⟨x58, x59, x60, x61, L62, hP1, hD1, hI66, f63, f64, f65⟩ := hB
      rw [ht] at hP1
      have hP := hP1
      have hD := dW hFc hD1
      obtain ⟨im67, im68, im69, im70, im71, im72, im73, im74, im75, im76, im77, im78, im79, im80, im81, im82, im83, im84, im85, im86, im87, im88, im89, im90, im91, im92, im93, im94, im95, im96, im97, im98, im99⟩ := id hI66
      refine lv_goto (tgt := 23) hx hb dX9_must_16 (by decide) ?_
      rw [hQ]
      exact W.vret hx hb hr (fun t ht hW => ⟨⟨(), rfl, trivial, ⟨i_faultKind, x58, x59, x60, x61, J, L62, by rw [ht]; exact hP, hD, hI66, (ob_87 f63), (ob_162 im17 hz_p0 f54 f65)⟩⟩, hS.F ht⟩) hS.2.2 dX9_must_23
  · skip
    have f100 : r_4.toInt = 0 := qi_eq c_8 rfl zc_0
    have f101 : i_faultKind.toInt ≠ (0 : Int) := (ob_163 f5 f100)
    have f102 : (1 : Int) ≤ i_faultKind.toInt := (ob_164 im17 f5 f101)
    have f103 : r_4.toInt = (0 : Int) := (ob_165 f6 f7 f100)
    rw [hQ]
    exact W.vret hx hb hr (fun t ht hW => ⟨⟨(), rfl, trivial, ⟨i_faultKind, i_at, i_end, i_token, i_number, J, L, by rw [ht]; exact hP, hD, hI, (ob_88), (ob_166 im17 hz_p0 f102)⟩⟩, hS.F ht⟩) hS.2.2 dX9_must_7
set_option maxHeartbeats 4000000 in
set_option maxRecDepth 100000 in
theorem kX9_numeral (l : Launch) (dC : Nat → ClassId) (dI : Nat → Nat → Nat) (r : Nat → Nat) (ct : Nat → ClassId) (i_taped i_size i_faultKind i_at i_end i_token i_number i_bank i_rb i_codes i_within i_piled i_unitsInRule i_askHouse i_askTune i_acts i_undone i_laid i_knowns i_time : Int32) (f_text f_tunes f_houses f_hums f_told f_many f_ruleFrom f_ruleTo f_code f_eWhat f_eSign f_all f_kept f_was f_sTune f_boxAll : Nat → Int32) (J : Nat → Nat → Int32) (L : Nat → Nat → Int64) (p0 p1 : Int32) (sz : Nat) (hI : (IM i_taped i_size i_faultKind i_at i_end i_bank i_rb i_acts i_undone i_laid i_knowns i_time f_tunes f_houses f_hums f_told f_many f_ruleFrom f_ruleTo f_code f_all f_kept f_was f_sTune f_boxAll)) (hp0 : p0.toInt ≤ p1.toInt) : Met l yX9_numeral (.code yX9_numeral cX9_numeral 4 (some .int) :: GW) { frames := 6, cells := 0, slots := 0, locals := 224 } (va_Pc [.ref (r 0), .int p0, .int p1] (pW (dC, dI) (WM r ct i_taped i_size i_faultKind i_at i_end i_token i_number i_bank i_rb i_codes i_within i_piled i_unitsInRule i_askHouse i_askTune i_acts i_undone i_laid i_knowns i_time f_text f_tunes f_houses f_hums f_told f_many f_ruleFrom f_ruleTo f_code f_eWhat f_eSign f_all f_kept f_was f_sTune f_boxAll J L) (TM ct) sz)) (va_Qi (fun (r0 : Int32) (u : Int32) => r0 = u) (fun (u : Int32) (t : State) => ∃ (n_i_faultKind n_i_at n_i_end n_i_token n_i_number : Int32) (n_J : Nat → Nat → Int32) (n_L : Nat → Nat → Int64), va_P (dC, dI) vwCl (WM r ct i_taped i_size n_i_faultKind n_i_at n_i_end n_i_token n_i_number i_bank i_rb i_codes i_within i_piled i_unitsInRule i_askHouse i_askTune i_acts i_undone i_laid i_knowns i_time f_text f_tunes f_houses f_hums f_told f_many f_ruleFrom f_ruleTo f_code f_eWhat f_eSign f_all f_kept f_was f_sTune f_boxAll n_J n_L) t.heap ∧ va_D (va_A (WM r ct i_taped i_size i_faultKind i_at i_end i_token i_number i_bank i_rb i_codes i_within i_piled i_unitsInRule i_askHouse i_askTune i_acts i_undone i_laid i_knowns i_time f_text f_tunes f_houses f_hums f_told f_many f_ruleFrom f_ruleTo f_code f_eWhat f_eSign f_all f_kept f_was f_sTune f_boxAll J L) sz) (WM r ct i_taped i_size n_i_faultKind n_i_at n_i_end n_i_token n_i_number i_bank i_rb i_codes i_within i_piled i_unitsInRule i_askHouse i_askTune i_acts i_undone i_laid i_knowns i_time f_text f_tunes f_houses f_hums f_told f_many f_ruleFrom f_ruleTo f_code f_eWhat f_eSign f_all f_kept f_was f_sTune f_boxAll n_J n_L) ∧ (IM i_taped i_size n_i_faultKind n_i_at n_i_end i_bank i_rb i_acts i_undone i_laid i_knowns i_time f_tunes f_houses f_hums f_told f_many f_ruleFrom f_ruleTo f_code f_all f_kept f_was f_sTune f_boxAll) ∧ (p0.toInt ≤ u.toInt) ∧ (u.toInt ≤ p1.toInt) ∧ (i_end.toInt ≤ n_i_end.toInt) ∧ (((1 : Int) ≤ n_i_faultKind.toInt) ∨ ((n_i_faultKind.toInt = (0 : Int)) ∧ (i_faultKind.toInt = (0 : Int)) ∧ ((n_i_token.toInt = (0 : Int)) ∨ (i_end.toInt + 1 ≤ n_i_end.toInt))))) (va_A (WM r ct i_taped i_size i_faultKind i_at i_end i_token i_number i_bank i_rb i_codes i_within i_piled i_unitsInRule i_askHouse i_askTune i_acts i_undone i_laid i_knowns i_time f_text f_tunes f_houses f_hums f_told f_many f_ruleFrom f_ruleTo f_code f_eWhat f_eSign f_all f_kept f_was f_sTune f_boxAll J L) sz)) 0 0 (va_A (WM r ct i_taped i_size i_faultKind i_at i_end i_token i_number i_bank i_rb i_codes i_within i_piled i_unitsInRule i_askHouse i_askTune i_acts i_undone i_laid i_knowns i_time f_text f_tunes f_houses f_hums f_told f_many f_ruleFrom f_ruleTo f_code f_eWhat f_eSign f_all f_kept f_was f_sTune f_boxAll J L) sz) := by
  refine Met.ofW (cc := cX9_numeral) (maxL := 4) (ret := (some .int)) (by decide) rfl ?_
  intro p e s m args below meth c0 s₁ B hml hv
  obtain ⟨rfl, hsz, hP, hK, hD0⟩ := hv
  have hx := B.exec
  have hb := B.bytes
  have hr := B.returns
  have hts := atoms_spec (ws := .code yX9_numeral cX9_numeral 4 (some .int) :: GW) B.pre
  have hG : ∀ w ∈ GW, w.before _ s = true := fun w h => hts w (List.mem_cons_of_mem _ h)
  have hown : s.vm.findClass RX9 = some m.cls := findClass_of_methodNamed B.named
  subst hsz
  have hD := hD0.self (sz := s.heap.size)
  generalize hAe : va_A (WM r ct i_taped i_size i_faultKind i_at i_end i_token i_number i_bank i_rb i_codes i_within i_piled i_unitsInRule i_askHouse i_askTune i_acts i_undone i_laid i_knowns i_time f_text f_tunes f_houses f_hums f_told f_many f_ruleFrom f_ruleTo f_code f_eWhat f_eSign f_all f_kept f_was f_sTune f_boxAll J L) s.heap.size = A at hD ⊢
  have hA : ∀ q : Nat, s.heap.size ≤ q → A q := fun q h => by rw [← hAe]; exact Or.inr h
  have hS : va_S A s.heap s.heap [] := va_S.rf
  have hP : va_P (dC, dI) vwCl (WM r ct i_taped i_size i_faultKind i_at i_end i_token i_number i_bank i_rb i_codes i_within i_piled i_unitsInRule i_askHouse i_askTune i_acts i_undone i_laid i_knowns i_time f_text f_tunes f_houses f_hums f_told f_many f_ruleFrom f_ruleTo f_code f_eWhat f_eSign f_all f_kept f_was f_sTune f_boxAll J L) s.heap := hP
  have hl := lv_entry ([.ref (r 0), .int p0, .int p1]) (n := 4) (Nat.le_of_ble_eq_true rfl)
  rw [lg_entry_eq]
  generalize (lg_sl ([.ref (r 0), .int p0, .int p1]) ++ List.replicate (4 - (lg_sl ([.ref (r 0), .int p0, .int p1])).length) Slot.unset).toArray = ls at hl ⊢
  have hl : lv_has ls 4 [(0, .ref (r 0)), (1, .int p0), (2, .int p1)] := hl
  refine nameQ (fun Q hQ => ?_)
  obtain ⟨im0, im1, im2, im3, im4, im5, im6, im7, im8, im9, im10, im11, im12, im13, im14, im15, im16, im17, im18, im19, im20, im21, im22, im23, im24, im25, im26, im27, im28, im29, im30, im31, im32⟩ := id hI
  have f1 : 0 ≤ (f_tunes (i_bank.toInt).toNat).toInt ∧ (f_tunes (i_bank.toInt).toNat).toInt ≤ 5 := im21 (i_bank.toInt)
  have f2 : 0 ≤ (f_houses (i_bank.toInt).toNat).toInt ∧ (f_houses (i_bank.toInt).toNat).toInt ≤ 4 := im22 (i_bank.toInt)
  refine lv_aload_n hx hb dX9_numeral_0 rfl (lv_at hl 0 rfl) ?_
  refine va_calli (va_runV (As := []) (rest := []) ⟨hx, hb, hml, hown, hG⟩ (kX9_isGood l dC dI r ct i_taped i_size i_faultKind i_at i_end i_token i_number i_bank i_rb i_codes i_within i_piled i_unitsInRule i_askHouse i_askTune i_acts i_undone i_laid i_knowns i_time f_text f_tunes f_houses f_hums f_told f_many f_ruleFrom f_ruleTo f_code f_eWhat f_eSign f_all f_kept f_was f_sTune f_boxAll J L s.heap.size hI) (cwV 0 hG (goodV gw1401 gw1403 gw61 gw138 gw1404) rfl rfl rfl hd_X9_isGood ⟨(Nat.le_of_ble_eq_true rfl), (Nat.le_of_ble_eq_true rfl)⟩) ⟨fbR, va_recv hK hP (ci := 8) (q0 := 0) rfl rfl, pR_in hP hK⟩ rfl rfl hl.1 rfl (lv_room (Nat.le_of_ble_eq_true rfl)) dX9_numeral_1 ⟨(Nat.le_of_ble_eq_true rfl), (Nat.le_of_ble_eq_true rfl)⟩) hS (fun q hq h => absurd hq (Nat.not_lt.mpr h)) (fun q h => hA q (Nat.le_trans hS.1 h)) (fun r_4 u_ t_ H3 locs ht hvm hw hB hz1 hk1 hS => ?_)
  subst hw
  have hP := wk hP hk1
  obtain ⟨f5, f6, f7⟩ := hB
  refine lv_if_ne (tgt := 9) hx hb dX9_numeral_4 (by decide) (fun c_8 => ?_) (fun c_8 => ?_)
  · skip
    have f9 : r_4.toInt ≠ 0 := qi_ne c_8 rfl zc_0
    have f10 : (1 : Int) ≤ r_4.toInt := (ob_158 f5 f9)
    have f11 : i_faultKind.toInt = (0 : Int) := (ob_159 f5 f9)
    have f12 : r_4.toInt = (1 : Int) := (ob_104 f6 f7 f10)
    refine lv_aload_n hx hb dX9_numeral_9 rfl (lv_at hl 0 rfl) ?_
    refine gM_X9_191_0 hx hb hG hown hK hP dX9_numeral_10 ?_
    refine lv_iconst (v := 4) hx hb dX9_numeral_13 (by decide) ?_
    refine lv_icmp_eq (tgt := 21) hx hb dX9_numeral_14 (by decide) (fun c_13 => ?_) (fun c_13 => ?_)
    · skip
      have f14 : i_token.toInt = 4 := qi_eq c_13 rfl zc_4
      refine lv_aload_n hx hb dX9_numeral_21 rfl (lv_at hl 0 rfl) ?_
      refine va_calli (va_runV (As := []) (rest := []) ⟨hx, hb, hml, hown, hG⟩ (kX9_isGood l dC dI r ct i_taped i_size i_faultKind i_at i_end i_token i_number i_bank i_rb i_codes i_within i_piled i_unitsInRule i_askHouse i_askTune i_acts i_undone i_laid i_knowns i_time f_text f_tunes f_houses f_hums f_told f_many f_ruleFrom f_ruleTo f_code f_eWhat f_eSign f_all f_kept f_was f_sTune f_boxAll J L H3.size hI) (cwV 0 hG (goodV gw1401 gw1403 gw61 gw138 gw1404) rfl rfl rfl hd_X9_isGood ⟨(Nat.le_of_ble_eq_true rfl), (Nat.le_of_ble_eq_true rfl)⟩) ⟨fbR, va_recv hK hP (ci := 8) (q0 := 0) rfl rfl, pR_in hP hK⟩ rfl rfl hl.1 rfl (lv_room (Nat.le_of_ble_eq_true rfl)) dX9_numeral_22 ⟨(Nat.le_of_ble_eq_true rfl), (Nat.le_of_ble_eq_true rfl)⟩) hS (fun q hq h => absurd hq (Nat.not_lt.mpr h)) (fun q h => hA q (Nat.le_trans hS.1 h)) (fun r_16 u_ t_ H15 locs ht hvm hw hB hz1 hk1 hS => ?_)
      subst hw
      have hP := wk hP hk1
      obtain ⟨f17, f18, f19⟩ := hB
      refine lv_if_eq (tgt := 53) hx hb dX9_numeral_25 (by decide) (fun c_20 => ((ob_167 (qi_eq c_20 rfl zc_0) f11 f17)).elim) (fun c_20 => ?_)
      have f21 : r_16.toInt ≠ 0 := qi_ne c_20 rfl zc_0
      have f22 : i_faultKind.toInt = (0 : Int) := (ob_168 im17 f11)
      have f23 : r_16.toInt = (1 : Int) := (ob_169 f17 f21)
      have f24 : (1 : Int) ≤ r_16.toInt := (ob_170 f18 f19 f23)
      refine lv_aload_n hx hb dX9_numeral_28 rfl (lv_at hl 0 rfl) ?_
      refine gM_X9_209_0 hx hb hG hown hK hP dX9_numeral_29 ?_
      refine lv_iload_n hx hb dX9_numeral_32 rfl (lv_at hl 1 rfl) ?_
      refine lv_icmp_lt (tgt := 44) hx hb dX9_numeral_33 (by decide) (fun c_25 => ?_) (fun c_25 => ?_)
      · skip
        have f26 : i_number.toInt < p0.toInt := qi_lt c_25 rfl rfl
        refine lv_aload_n hx hb dX9_numeral_44 rfl (lv_at hl 0 rfl) ?_
        refine lv_iconst (v := 4) hx hb dX9_numeral_45 (by decide) ?_
        refine lv_aload_n hx hb dX9_numeral_46 rfl (lv_at hl 0 rfl) ?_
        refine gM_X9_184_0 hx hb hG hown hK hP dX9_numeral_47 ?_
        have hFc := frA hD hS hA
        refine va_callv (va_runV (As := [.int 4, .int i_at]) (rest := []) ⟨hx, hb, hml, hown, hG⟩ (kX9_fails l dC dI r ct i_taped i_size i_faultKind i_at i_end i_token i_number i_bank i_rb i_codes i_within i_piled i_unitsInRule i_askHouse i_askTune i_acts i_undone i_laid i_knowns i_time f_text f_tunes f_houses f_hums f_told f_many f_ruleFrom f_ruleTo f_code f_eWhat f_eSign f_all f_kept f_was f_sTune f_boxAll J L 4 i_at H15.size hI (ob_171 zc_4)) (cwV 2 hG (goodV gw1424 gw1426 gw66 gw138 gw1427) rfl rfl rfl hd_X9_fails ⟨(Nat.le_of_ble_eq_true rfl), (Nat.le_of_ble_eq_true rfl)⟩) ⟨fbW, va_recv hK hP (ci := 8) (q0 := 0) rfl rfl, pW_in hP hK hD⟩ rfl rfl hl.1 rfl (lv_room (Nat.le_of_ble_eq_true rfl)) dX9_numeral_50 ⟨(Nat.le_of_ble_eq_true rfl), (Nat.le_of_ble_eq_true rfl)⟩) hS (fun q _ h => hFc q h) hFc (fun _ t_ H27 locs ht hvm hw hB hz1 hk1 hS => ?_)
        obtain ⟨x29, J30, hP1, hD1, hI32, f31⟩ := hB
        rw [ht] at hP1
        have hP := hP1
        have hD := dW hFc hD1
        obtain ⟨im33, im34, im35, im36, im37, im38, im39, im40, im41, im42, im43, im44, im45, im46, im47, im48, im49, im50, im51, im52, im53, im54, im55, im56, im57, im58, im59, im60, im61, im62, im63, im64, im65⟩ := id hI32
        refine lv_aload_n hx hb dX9_numeral_53 rfl (lv_at hl 0 rfl) ?_
        refine gM_X9_209_0 hx hb hG hown hK hP dX9_numeral_54 ?_
        refine lv_istore_n (lv' := [(3, .int i_number), (0, .ref (r 0)), (1, .int p0), (2, .int p1)]) hx hb dX9_numeral_57 rfl hl (by decide) rfl (fun ls hl => ?_)
        refine lv_aload_n hx hb dX9_numeral_58 rfl (lv_at hl 1 rfl) ?_
        refine va_calli (va_runV (As := []) (rest := []) ⟨hx, hb, hml, hown, hG⟩ (kX9_isGood l dC dI r ct i_taped i_size x29 i_at i_end i_token i_number i_bank i_rb i_codes i_within i_piled i_unitsInRule i_askHouse i_askTune i_acts i_undone i_laid i_knowns i_time f_text f_tunes f_houses f_hums f_told f_many f_ruleFrom f_ruleTo f_code f_eWhat f_eSign f_all f_kept f_was f_sTune f_boxAll J30 L H27.size hI32) (cwV 0 hG (goodV gw1401 gw1403 gw61 gw138 gw1404) rfl rfl rfl hd_X9_isGood ⟨(Nat.le_of_ble_eq_true rfl), (Nat.le_of_ble_eq_true rfl)⟩) ⟨fbR, va_recv hK hP (ci := 8) (q0 := 0) rfl rfl, pR_in hP hK⟩ rfl rfl hl.1 rfl (lv_room (Nat.le_of_ble_eq_true rfl)) dX9_numeral_59 ⟨(Nat.le_of_ble_eq_true rfl), (Nat.le_of_ble_eq_true rfl)⟩) hS (fun q hq h => absurd hq (Nat.not_lt.mpr h)) (fun q h => hA q (Nat.le_trans hS.1 h)) (fun r_67 u_ t_ H66 locs ht hvm hw hB hz1 hk1 hS => ?_)
        subst hw
        have hP := wk hP hk1
        obtain ⟨f68, f69, f70⟩ := hB
        refine lv_if_eq (tgt := 69) hx hb dX9_numeral_62 (by decide) (fun c_71 => ?_) (fun c_71 => ((ob_172 (qi_ne c_71 rfl zc_0) f31 f68)).elim)
        have f72 : r_67.toInt = 0 := qi_eq c_71 rfl zc_0
        have f73 : x29.toInt ≠ (0 : Int) := (ob_173 im50 f31)
        have f74 : (1 : Int) ≤ x29.toInt := (ob_156 im50 f31)
        have f75 : r_67.toInt = (0 : Int) := (ob_165 f69 f70 f72)
        refine lv_aload_n hx hb dX9_numeral_69 rfl (lv_at hl 1 rfl) ?_
        refine va_calli (va_runV (As := []) (rest := []) ⟨hx, hb, hml, hown, hG⟩ (kX9_isGood l dC dI r ct i_taped i_size x29 i_at i_end i_token i_number i_bank i_rb i_codes i_within i_piled i_unitsInRule i_askHouse i_askTune i_acts i_undone i_laid i_knowns i_time f_text f_tunes f_houses f_hums f_told f_many f_ruleFrom f_ruleTo f_code f_eWhat f_eSign f_all f_kept f_was f_sTune f_boxAll J30 L H66.size hI32) (cwV 0 hG (goodV gw1401 gw1403 gw61 gw138 gw1404) rfl rfl rfl hd_X9_isGood ⟨(Nat.le_of_ble_eq_true rfl), (Nat.le_of_ble_eq_true rfl)⟩) ⟨fbR, va_recv hK hP (ci := 8) (q0 := 0) rfl rfl, pR_in hP hK⟩ rfl rfl hl.1 rfl (lv_room (Nat.le_of_ble_eq_true rfl)) dX9_numeral_70 ⟨(Nat.le_of_ble_eq_true rfl), (Nat.le_of_ble_eq_true rfl)⟩) hS (fun q hq h => absurd hq (Nat.not_lt.mpr h)) (fun q h => hA q (Nat.le_trans hS.1 h)) (fun r_77 u_ t_ H76 locs ht hvm hw hB hz1 hk1 hS => ?_)
        subst hw
        have hP := wk hP hk1
        obtain ⟨f78, f79, f80⟩ := hB
        refine lv_if_eq (tgt := 80) hx hb dX9_numeral_73 (by decide) (fun c_81 => ?_) (fun c_81 => ((ob_172 (qi_ne c_81 rfl zc_0) f31 f78)).elim)
        have f82 : r_77.toInt = 0 := qi_eq c_81 rfl zc_0
        have f83 : x29.toInt ≠ (0 : Int) := (ob_173 im50 f31)
        have f84 : (1 : Int) ≤ x29.toInt := (ob_156 im50 f31)
        have f85 : r_77.toInt = (0 : Int) := (ob_165 f79 f80 f82)
        refine lv_iload_n hx hb dX9_numeral_80 rfl (lv_at hl 2 rfl) ?_
        rw [hQ]
        exact W.iret (v := p0) hx hb hr (fun t ht hW => ⟨⟨p0, p0, rfl, rfl, ⟨x29, i_at, i_end, i_token, i_number, J30, L, by rw [ht]; exact hP, hD, hI32, (ob_88), (ob_174 hp0 f26), (ob_88), (ob_175 f31)⟩⟩, hS.F ht⟩) hS.2.2 dX9_numeral_81
      · skip
        have f86 : p0.toInt ≤ i_number.toInt := qi_nlt c_25 rfl rfl
        refine lv_aload_n hx hb dX9_numeral_36 rfl (lv_at hl 0 rfl) ?_
        refine gM_X9_209_0 hx hb hG hown hK hP dX9_numeral_37 ?_
        refine lv_iload_n hx hb dX9_numeral_40 rfl (lv_at hl 2 rfl) ?_
        refine lv_icmp_le (tgt := 53) hx hb dX9_numeral_41 (by decide) (fun c_87 => ?_) (fun c_87 => ?_)
        · skip
          have f88 : i_number.toInt ≤ p1.toInt := qi_le c_87 rfl rfl
          refine lv_aload_n hx hb dX9_numeral_53 rfl (lv_at hl 0 rfl) ?_
          refine gM_X9_209_0 hx hb hG hown hK hP dX9_numeral_54 ?_
          refine lv_istore_n (lv' := [(3, .int i_number), (0, .ref (r 0)), (1, .int p0), (2, .int p1)]) hx hb dX9_numeral_57 rfl hl (by decide) rfl (fun ls hl => ?_)
          refine lv_aload_n hx hb dX9_numeral_58 rfl (lv_at hl 1 rfl) ?_
          refine va_calli (va_runV (As := []) (rest := []) ⟨hx, hb, hml, hown, hG⟩ (kX9_isGood l dC dI r ct i_taped i_size i_faultKind i_at i_end i_token i_number i_bank i_rb i_codes i_within i_piled i_unitsInRule i_askHouse i_askTune i_acts i_undone i_laid i_knowns i_time f_text f_tunes f_houses f_hums f_told f_many f_ruleFrom f_ruleTo f_code f_eWhat f_eSign f_all f_kept f_was f_sTune f_boxAll J L H15.size hI) (cwV 0 hG (goodV gw1401 gw1403 gw61 gw138 gw1404) rfl rfl rfl hd_X9_isGood ⟨(Nat.le_of_ble_eq_true rfl), (Nat.le_of_ble_eq_true rfl)⟩) ⟨fbR, va_recv hK hP (ci := 8) (q0 := 0) rfl rfl, pR_in hP hK⟩ rfl rfl hl.1 rfl (lv_room (Nat.le_of_ble_eq_true rfl)) dX9_numeral_59 ⟨(Nat.le_of_ble_eq_true rfl), (Nat.le_of_ble_eq_true rfl)⟩) hS (fun q hq h => absurd hq (Nat.not_lt.mpr h)) (fun q h => hA q (Nat.le_trans hS.1 h)) (fun r_90 u_ t_ H89 locs ht hvm hw hB hz1 hk1 hS => ?_)
          subst hw
          have hP := wk hP hk1
          obtain ⟨f91, f92, f93⟩ := hB
          refine lv_if_eq (tgt := 69) hx hb dX9_numeral_62 (by decide) (fun c_94 => ((ob_167 (qi_eq c_94 rfl zc_0) f11 f91)).elim) (fun c_94 => ?_)
          have f95 : r_90.toInt ≠ 0 := qi_ne c_94 rfl zc_0
          have f96 : i_faultKind.toInt = (0 : Int) := (ob_168 im17 f11)
          have f97 : r_90.toInt = (1 : Int) := (ob_169 f91 f95)
          have f98 : (1 : Int) ≤ r_90.toInt := (ob_170 f92 f93 f97)
          refine lv_aload_n hx hb dX9_numeral_65 rfl (lv_at hl 1 rfl) ?_
          have hFc := frA hD hS hA
          refine va_callv (va_runV (As := []) (rest := []) ⟨hx, hb, hml, hown, hG⟩ (kX9_goOn l dC dI r ct i_taped i_size i_faultKind i_at i_end i_token i_number i_bank i_rb i_codes i_within i_piled i_unitsInRule i_askHouse i_askTune i_acts i_undone i_laid i_knowns i_time f_text f_tunes f_houses f_hums f_told f_many f_ruleFrom f_ruleTo f_code f_eWhat f_eSign f_all f_kept f_was f_sTune f_boxAll J L H89.size hI) (cwV 0 hG (goodV gw1362 gw1364 gw59 gw138 gw1365) rfl rfl rfl hd_X9_goOn ⟨(Nat.le_of_ble_eq_true rfl), (Nat.le_of_ble_eq_true rfl)⟩) ⟨fbW, va_recv hK hP (ci := 8) (q0 := 0) rfl rfl, pW_in hP hK hD⟩ rfl rfl hl.1 rfl (lv_room (Nat.le_of_ble_eq_true rfl)) dX9_numeral_66 ⟨(Nat.le_of_ble_eq_true rfl), (Nat.le_of_ble_eq_true rfl)⟩) hS (fun q _ h => hFc q h) hFc (fun _ t_ H99 locs ht hvm hw hB hz1 hk1 hS => ?_)
          obtain ⟨x101, x102, x103, x104, L105, hP1, hD1, hI109, f106, f107, f108⟩ := hB
          rw [ht] at hP1
          have hP := hP1
          have hD := dW hFc hD1
          obtain ⟨im110, im111, im112, im113, im114, im115, im116, im117, im118, im119, im120, im121, im122, im123, im124, im125, im126, im127, im128, im129, im130, im131, im132, im133, im134, im135, im136, im137, im138, im139, im140, im141, im142⟩ := id hI109
          refine lv_aload_n hx hb dX9_numeral_69 rfl (lv_at hl 1 rfl) ?_
          refine va_calli (va_runV (As := []) (rest := []) ⟨hx, hb, hml, hown, hG⟩ (kX9_isGood l dC dI r ct i_taped i_size i_faultKind x101 x102 x103 x104 i_bank i_rb i_codes i_within i_piled i_unitsInRule i_askHouse i_askTune i_acts i_undone i_laid i_knowns i_time f_text f_tunes f_houses f_hums f_told f_many f_ruleFrom f_ruleTo f_code f_eWhat f_eSign f_all f_kept f_was f_sTune f_boxAll J L105 H99.size hI109) (cwV 0 hG (goodV gw1401 gw1403 gw61 gw138 gw1404) rfl rfl rfl hd_X9_isGood ⟨(Nat.le_of_ble_eq_true rfl), (Nat.le_of_ble_eq_true rfl)⟩) ⟨fbR, va_recv hK hP (ci := 8) (q0 := 0) rfl rfl, pR_in hP hK⟩ rfl rfl hl.1 rfl (lv_room (Nat.le_of_ble_eq_true rfl)) dX9_numeral_70 ⟨(Nat.le_of_ble_eq_true rfl), (Nat.le_of_ble_eq_true rfl)⟩) hS (fun q hq h => absurd hq (Nat.not_lt.mpr h)) (fun q h => hA q (Nat.le_trans hS.1 h)) (fun r_144 u_ t_ H143 locs ht hvm hw hB hz1 hk1 hS => ?_)
          subst hw
          have hP := wk hP hk1
          obtain ⟨f145, f146, f147⟩ := hB
          refine lv_if_eq (tgt := 80) hx hb dX9_numeral_73 (by decide) (fun c_148 => ((ob_167 (qi_eq c_148 rfl zc_0) f11 f145)).elim) (fun c_148 => ?_)
          have f149 : r_144.toInt ≠ 0 := qi_ne c_148 rfl zc_0
          have f150 : i_faultKind.toInt = (0 : Int) := (ob_176 f11)
          have f151 : r_144.toInt = (1 : Int) := (ob_169 f145 f149)
          have f152 : (1 : Int) ≤ r_144.toInt := (ob_170 f146 f147 f151)
          refine lv_iload_n hx hb dX9_numeral_76 rfl (lv_at hl 0 rfl) ?_
          refine lv_goto (tgt := 81) hx hb dX9_numeral_77 (by decide) ?_
          rw [hQ]
          exact W.iret (v := i_number) hx hb hr (fun t ht hW => ⟨⟨i_number, i_number, rfl, rfl, ⟨i_faultKind, x101, x102, x103, x104, J, L105, by rw [ht]; exact hP, hD, hI109, (ob_177 hp0 f86 f88), (ob_178 hp0 f86 f88), (ob_87 f106), (ob_179 im17 f108)⟩⟩, hS.F ht⟩) hS.2.2 dX9_numeral_81
        · skip
          have f153 : p1.toInt < i_number.toInt := qi_nle c_87 rfl rfl
          refine lv_aload_n hx hb dX9_numeral_44 rfl (lv_at hl 0 rfl) ?_
          refine lv_iconst (v := 4) hx hb dX9_numeral_45 (by decide) ?_
          refine lv_aload_n hx hb dX9_numeral_46 rfl (lv_at hl 0 rfl) ?_
          refine gM_X9_184_0 hx hb hG hown hK hP dX9_numeral_47 ?_
          have hFc := frA hD hS hA
          refine va_callv (va_runV (As := [.int 4, .int i_at]) (rest := []) ⟨hx, hb, hml, hown, hG⟩ (kX9_fails l dC dI r ct i_taped i_size i_faultKind i_at i_end i_token i_number i_bank i_rb i_codes i_within i_piled i_unitsInRule i_askHouse i_askTune i_acts i_undone i_laid i_knowns i_time f_text f_tunes f_houses f_hums f_told f_many f_ruleFrom f_ruleTo f_code f_eWhat f_eSign f_all f_kept f_was f_sTune f_boxAll J L 4 i_at H15.size hI (ob_171 zc_4)) (cwV 2 hG (goodV gw1424 gw1426 gw66 gw138 gw1427) rfl rfl rfl hd_X9_fails ⟨(Nat.le_of_ble_eq_true rfl), (Nat.le_of_ble_eq_true rfl)⟩) ⟨fbW, va_recv hK hP (ci := 8) (q0 := 0) rfl rfl, pW_in hP hK hD⟩ rfl rfl hl.1 rfl (lv_room (Nat.le_of_ble_eq_true rfl)) dX9_numeral_50 ⟨(Nat.le_of_ble_eq_true rfl), (Nat.le_of_ble_eq_true rfl)⟩) hS (fun q _ h => hFc q h) hFc (fun _ t_ H154 locs ht hvm hw hB hz1 hk1 hS => ?_)
          obtain ⟨x156, J157, hP1, hD1, hI159, f158⟩ := hB
          rw [ht] at hP1
          have hP := hP1
          have hD := dW hFc hD1
          obtain ⟨im160, im161, im162, im163, im164, im165, im166, im167, im168, im169, im170, im171, im172, im173, im174, im175, im176, im177, im178, im179, im180, im181, im182, im183, im184, im185, im186, im187, im188, im189, im190, im191, im192⟩ := id hI159
          refine lv_aload_n hx hb dX9_numeral_53 rfl (lv_at hl 0 rfl) ?_
          refine gM_X9_209_0 hx hb hG hown hK hP dX9_numeral_54 ?_
          refine lv_istore_n (lv' := [(3, .int i_number), (0, .ref (r 0)), (1, .int p0), (2, .int p1)]) hx hb dX9_numeral_57 rfl hl (by decide) rfl (fun ls hl => ?_)
          refine lv_aload_n hx hb dX9_numeral_58 rfl (lv_at hl 1 rfl) ?_
          refine va_calli (va_runV (As := []) (rest := []) ⟨hx, hb, hml, hown, hG⟩ (kX9_isGood l dC dI r ct i_taped i_size x156 i_at i_end i_token i_number i_bank i_rb i_codes i_within i_piled i_unitsInRule i_askHouse i_askTune i_acts i_undone i_laid i_knowns i_time f_text f_tunes f_houses f_hums f_told f_many f_ruleFrom f_ruleTo f_code f_eWhat f_eSign f_all f_kept f_was f_sTune f_boxAll J157 L H154.size hI159) (cwV 0 hG (goodV gw1401 gw1403 gw61 gw138 gw1404) rfl rfl rfl hd_X9_isGood ⟨(Nat.le_of_ble_eq_true rfl), (Nat.le_of_ble_eq_true rfl)⟩) ⟨fbR, va_recv hK hP (ci := 8) (q0 := 0) rfl rfl, pR_in hP hK⟩ rfl rfl hl.1 rfl (lv_room (Nat.le_of_ble_eq_true rfl)) dX9_numeral_59 ⟨(Nat.le_of_ble_eq_true rfl), (Nat.le_of_ble_eq_true rfl)⟩) hS (fun q hq h => absurd hq (Nat.not_lt.mpr h)) (fun q h => hA q (Nat.le_trans hS.1 h)) (fun r_194 u_ t_ H193 locs ht hvm hw hB hz1 hk1 hS => ?_)
          subst hw
          have hP := wk hP hk1
          obtain ⟨f195, f196, f197⟩ := hB
          refine lv_if_eq (tgt := 69) hx hb dX9_numeral_62 (by decide) (fun c_198 => ?_) (fun c_198 => ((ob_172 (qi_ne c_198 rfl zc_0) f158 f195)).elim)
          have f199 : r_194.toInt = 0 := qi_eq c_198 rfl zc_0
          have f200 : x156.toInt ≠ (0 : Int) := (ob_173 im177 f158)
          have f201 : (1 : Int) ≤ x156.toInt := (ob_156 im177 f158)
          have f202 : r_194.toInt = (0 : Int) := (ob_165 f196 f197 f199)
          refine lv_aload_n hx hb dX9_numeral_69 rfl (lv_at hl 1 rfl) ?_
          refine va_calli (va_runV (As := []) (rest := []) ⟨hx, hb, hml, hown, hG⟩ (kX9_isGood l dC dI r ct i_taped i_size x156 i_at i_end i_token i_number i_bank i_rb i_codes i_within i_piled i_unitsInRule i_askHouse i_askTune i_acts i_undone i_laid i_knowns i_time f_text f_tunes f_houses f_hums f_told f_many f_ruleFrom f_ruleTo f_code f_eWhat f_eSign f_all f_kept f_was f_sTune f_boxAll J157 L H193.size hI159) (cwV 0 hG (goodV gw1401 gw1403 gw61 gw138 gw1404) rfl rfl rfl hd_X9_isGood ⟨(Nat.le_of_ble_eq_true rfl), (Nat.le_of_ble_eq_true rfl)⟩) ⟨fbR, va_recv hK hP (ci := 8) (q0 := 0) rfl rfl, pR_in hP hK⟩ rfl rfl hl.1 rfl (lv_room (Nat.le_of_ble_eq_true rfl)) dX9_numeral_70 ⟨(Nat.le_of_ble_eq_true rfl), (Nat.le_of_ble_eq_true rfl)⟩) hS (fun q hq h => absurd hq (Nat.not_lt.mpr h)) (fun q h => hA q (Nat.le_trans hS.1 h)) (fun r_204 u_ t_ H203 locs ht hvm hw hB hz1 hk1 hS => ?_)
          subst hw
          have hP := wk hP hk1
          obtain ⟨f205, f206, f207⟩ := hB
          refine lv_if_eq (tgt := 80) hx hb dX9_numeral_73 (by decide) (fun c_208 => ?_) (fun c_208 => ((ob_172 (qi_ne c_208 rfl zc_0) f158 f205)).elim)
          have f209 : r_204.toInt = 0 := qi_eq c_208 rfl zc_0
          have f210 : x156.toInt ≠ (0 : Int) := (ob_173 im177 f158)
          have f211 : (1 : Int) ≤ x156.toInt := (ob_156 im177 f158)
          have f212 : r_204.toInt = (0 : Int) := (ob_165 f206 f207 f209)
          refine lv_iload_n hx hb dX9_numeral_80 rfl (lv_at hl 2 rfl) ?_
          rw [hQ]
          exact W.iret (v := p0) hx hb hr (fun t ht hW => ⟨⟨p0, p0, rfl, rfl, ⟨x156, i_at, i_end, i_token, i_number, J157, L, by rw [ht]; exact hP, hD, hI159, (ob_88), (ob_180 hp0 f86 f153), (ob_88), (ob_175 f158)⟩⟩, hS.F ht⟩) hS.2.2 dX9_numeral_81
    · skip
      have f213 : i_token.toInt ≠ 4 := qi_ne c_13 rfl zc_4
      refine lv_aload_n hx hb dX9_numeral_17 rfl (lv_at hl 0 rfl) ?_
      have hFc := frA hD hS hA
      refine va_callv (va_runV (As := []) (rest := []) ⟨hx, hb, hml, hown, hG⟩ (kX9_misplaced l dC dI r ct i_taped i_size i_faultKind i_at i_end i_token i_number i_bank i_rb i_codes i_within i_piled i_unitsInRule i_askHouse i_askTune i_acts i_undone i_laid i_knowns i_time f_text f_tunes f_houses f_hums f_told f_many f_ruleFrom f_ruleTo f_code f_eWhat f_eSign f_all f_kept f_was f_sTune f_boxAll J L H3.size hI) (cwV 0 hG (goodV gw1420 gw1422 gw65 gw138 gw1423) rfl rfl rfl hd_X9_misplaced ⟨(Nat.le_of_ble_eq_true rfl), (Nat.le_of_ble_eq_true rfl)⟩) ⟨fbW, va_recv hK hP (ci := 8) (q0 := 0) rfl rfl, pW_in hP hK hD⟩ rfl rfl hl.1 rfl (lv_room (Nat.le_of_ble_eq_true rfl)) dX9_numeral_18 ⟨(Nat.le_of_ble_eq_true rfl), (Nat.le_of_ble_eq_true rfl)⟩) hS (fun q _ h => hFc q h) hFc (fun _ t_ H214 locs ht hvm hw hB hz1 hk1 hS => ?_)
      obtain ⟨x216, J217, hP1, hD1, hI219, f218⟩ := hB
      rw [ht] at hP1
      have hP := hP1
      have hD := dW hFc hD1
      obtain ⟨im220, im221, im222, im223, im224, im225, im226, im227, im228, im229, im230, im231, im232, im233, im234, im235, im236, im237, im238, im239, im240, im241, im242, im243, im244, im245, im246, im247, im248, im249, im250, im251, im252⟩ := id hI219
      refine lv_aload_n hx hb dX9_numeral_21 rfl (lv_at hl 0 rfl) ?_
      refine va_calli (va_runV (As := []) (rest := []) ⟨hx, hb, hml, hown, hG⟩ (kX9_isGood l dC dI r ct i_taped i_size x216 i_at i_end i_token i_number i_bank i_rb i_codes i_within i_piled i_unitsInRule i_askHouse i_askTune i_acts i_undone i_laid i_knowns i_time f_text f_tunes f_houses f_hums f_told f_many f_ruleFrom f_ruleTo f_code f_eWhat f_eSign f_all f_kept f_was f_sTune f_boxAll J217 L H214.size hI219) (cwV 0 hG (goodV gw1401 gw1403 gw61 gw138 gw1404) rfl rfl rfl hd_X9_isGood ⟨(Nat.le_of_ble_eq_true rfl), (Nat.le_of_ble_eq_true rfl)⟩) ⟨fbR, va_recv hK hP (ci := 8) (q0 := 0) rfl rfl, pR_in hP hK⟩ rfl rfl hl.1 rfl (lv_room (Nat.le_of_ble_eq_true rfl)) dX9_numeral_22 ⟨(Nat.le_of_ble_eq_true rfl), (Nat.le_of_ble_eq_true rfl)⟩) hS (fun q hq h => absurd hq (Nat.not_lt.mpr h)) (fun q h => hA q (Nat.le_trans hS.1 h)) (fun r_254 u_ t_ H253 locs ht hvm hw hB hz1 hk1 hS => ?_)
      subst hw
      have hP := wk hP hk1
      obtain ⟨f255, f256, f257⟩ := hB
      refine lv_if_eq (tgt := 53) hx hb dX9_numeral_25 (by decide) (fun c_258 => ?_) (fun c_258 => ((ob_172 (qi_ne c_258 rfl zc_0) f218 f255)).elim)
      have f259 : r_254.toInt = 0 := qi_eq c_258 rfl zc_0
      have f260 : x216.toInt ≠ (0 : Int) := (ob_173 im237 f218)
      have f261 : (1 : Int) ≤ x216.toInt := (ob_156 im237 f218)
      have f262 : r_254.toInt = (0 : Int) := (ob_165 f256 f257 f259)
      refine lv_aload_n hx hb dX9_numeral_53 rfl (lv_at hl 0 rfl) ?_
      refine gM_X9_209_0 hx hb hG hown hK hP dX9_numeral_54 ?_
      refine lv_istore_n (lv' := [(3, .int i_number), (0, .ref (r 0)), (1, .int p0), (2, .int p1)]) hx hb dX9_numeral_57 rfl hl (by decide) rfl (fun ls hl => ?_)
      refine lv_aload_n hx hb dX9_numeral_58 rfl (lv_at hl 1 rfl) ?_
      refine va_calli (va_runV (As := []) (rest := []) ⟨hx, hb, hml, hown, hG⟩ (kX9_isGood l dC dI r ct i_taped i_size x216 i_at i_end i_token i_number i_bank i_rb i_codes i_within i_piled i_unitsInRule i_askHouse i_askTune i_acts i_undone i_laid i_knowns i_time f_text f_tunes f_houses f_hums f_told f_many f_ruleFrom f_ruleTo f_code f_eWhat f_eSign f_all f_kept f_was f_sTune f_boxAll J217 L H253.size hI219) (cwV 0 hG (goodV gw1401 gw1403 gw61 gw138 gw1404) rfl rfl rfl hd_X9_isGood ⟨(Nat.le_of_ble_eq_true rfl), (Nat.le_of_ble_eq_true rfl)⟩) ⟨fbR, va_recv hK hP (ci := 8) (q0 := 0) rfl rfl, pR_in hP hK⟩ rfl rfl hl.1 rfl (lv_room (Nat.le_of_ble_eq_true rfl)) dX9_numeral_59 ⟨(Nat.le_of_ble_eq_true rfl), (Nat.le_of_ble_eq_true rfl)⟩) hS (fun q hq h => absurd hq (Nat.not_lt.mpr h)) (fun q h => hA q (Nat.le_trans hS.1 h)) (fun r_264 u_ t_ H263 locs ht hvm hw hB hz1 hk1 hS => ?_)
      subst hw
      have hP := wk hP hk1
      obtain ⟨f265, f266, f267⟩ := hB
      refine lv_if_eq (tgt := 69) hx hb dX9_numeral_62 (by decide) (fun c_268 => ?_) (fun c_268 => ((ob_172 (qi_ne c_268 rfl zc_0) f218 f265)).elim)
      have f269 : r_264.toInt = 0 := qi_eq c_268 rfl zc_0
      have f270 : x216.toInt ≠ (0 : Int) := (ob_173 im237 f218)
      have f271 : (1 : Int) ≤ x216.toInt := (ob_156 im237 f218)
      have f272 : r_264.toInt = (0 : Int) := (ob_165 f266 f267 f269)
      refine lv_aload_n hx hb dX9_numeral_69 rfl (lv_at hl 1 rfl) ?_
      refine va_calli (va_runV (As := []) (rest := []) ⟨hx, hb, hml, hown, hG⟩ (kX9_isGood l dC dI r ct i_taped i_size x216 i_at i_end i_token i_number i_bank i_rb i_codes i_within i_piled i_unitsInRule i_askHouse i_askTune i_acts i_undone i_laid i_knowns i_time f_text f_tunes f_houses f_hums f_told f_many f_ruleFrom f_ruleTo f_code f_eWhat f_eSign f_all f_kept f_was f_sTune f_boxAll J217 L H263.size hI219) (cwV 0 hG (goodV gw1401 gw1403 gw61 gw138 gw1404) rfl rfl rfl hd_X9_isGood ⟨(Nat.le_of_ble_eq_true rfl), (Nat.le_of_ble_eq_true rfl)⟩) ⟨fbR, va_recv hK hP (ci := 8) (q0 := 0) rfl rfl, pR_in hP hK⟩ rfl rfl hl.1 rfl (lv_room (Nat.le_of_ble_eq_true rfl)) dX9_numeral_70 ⟨(Nat.le_of_ble_eq_true rfl), (Nat.le_of_ble_eq_true rfl)⟩) hS (fun q hq h => absurd hq (Nat.not_lt.mpr h)) (fun q h => hA q (Nat.le_trans hS.1 h)) (fun r_274 u_ t_ H273 locs ht hvm hw hB hz1 hk1 hS => ?_)
      subst hw
      have hP := wk hP hk1
      obtain ⟨f275, f276, f277⟩ := hB
      refine lv_if_eq (tgt := 80) hx hb dX9_numeral_73 (by decide) (fun c_278 => ?_) (fun c_278 => ((ob_172 (qi_ne c_278 rfl zc_0) f218 f275)).elim)
      have f279 : r_274.toInt = 0 := qi_eq c_278 rfl zc_0
      have f280 : x216.toInt ≠ (0 : Int) := (ob_181 f218)
      have f281 : (1 : Int) ≤ x216.toInt := (ob_19 f218)
      have f282 : r_274.toInt = (0 : Int) := (ob_165 f276 f277 f279)
      refine lv_iload_n hx hb dX9_numeral_80 rfl (lv_at hl 2 rfl) ?_
      rw [hQ]
      exact W.iret (v := p0) hx hb hr (fun t ht hW => ⟨⟨p0, p0, rfl, rfl, ⟨x216, i_at, i_end, i_token, i_number, J217, L, by rw [ht]; exact hP, hD, hI219, (ob_88), (ob_87 hp0), (ob_88), (ob_175 f218)⟩⟩, hS.F ht⟩) hS.2.2 dX9_numeral_81
  · skip
    have f283 : r_4.toInt = 0 := qi_eq c_8 rfl zc_0
    have f284 : i_faultKind.toInt ≠ (0 : Int) := (ob_163 f5 f283)
    have f285 : (1 : Int) ≤ i_faultKind.toInt := (ob_164 im17 f5 f284)
    have f286 : r_4.toInt = (0 : Int) := (ob_165 f6 f7 f283)
    refine lv_iload_n hx hb dX9_numeral_7 rfl (lv_at hl 1 rfl) ?_
    rw [hQ]
    exact W.iret (v := p0) hx hb hr (fun t ht hW => ⟨⟨p0, p0, rfl, rfl, ⟨i_faultKind, i_at, i_end, i_token, i_number, J, L, by rw [ht]; exact hP, hD, hI, (ob_88), (ob_87 hp0), (ob_88), (ob_182 im17 f285)⟩⟩, hS.F ht⟩) hS.2.2 dX9_numeral_8
set_option maxHeartbeats 4000000 in
set_option maxRecDepth 100000 in
theorem kX9_after (l : Launch) (dC : Nat → ClassId) (dI : Nat → Nat → Nat) (r : Nat → Nat) (ct : Nat → ClassId) (i_taped i_size i_faultKind i_at i_end i_token i_number i_bank i_rb i_codes i_within i_piled i_unitsInRule i_askHouse i_askTune i_acts i_undone i_laid i_knowns i_time : Int32) (f_text f_tunes f_houses f_hums f_told f_many f_ruleFrom f_ruleTo f_code f_eWhat f_eSign f_all f_kept f_was f_sTune f_boxAll : Nat → Int32) (J : Nat → Nat → Int32) (L : Nat → Nat → Int64) (p1 p2 : Int32) (p0 : Int64) (sz : Nat) (hI : (IM i_taped i_size i_faultKind i_at i_end i_bank i_rb i_acts i_undone i_laid i_knowns i_time f_tunes f_houses f_hums f_told f_many f_ruleFrom f_ruleTo f_code f_all f_kept f_was f_sTune f_boxAll)) (hp0 : p1.toInt ≤ p2.toInt) : Met l yX9_after (.code yX9_after cX9_after 5 (some .int) :: GW) { frames := 8, cells := 0, slots := 0, locals := 287 } (va_Pc [.ref (r 0), .long p0, .int p1, .int p2] (pW (dC, dI) (WM r ct i_taped i_size i_faultKind i_at i_end i_token i_number i_bank i_rb i_codes i_within i_piled i_unitsInRule i_askHouse i_askTune i_acts i_undone i_laid i_knowns i_time f_text f_tunes f_houses f_hums f_told f_many f_ruleFrom f_ruleTo f_code f_eWhat f_eSign f_all f_kept f_was f_sTune f_boxAll J L) (TM ct) sz)) (va_Qi (fun (r0 : Int32) (u : Int32) => r0 = u) (fun (u : Int32) (t : State) => ∃ (n_i_faultKind n_i_at n_i_end n_i_token n_i_number : Int32) (n_J : Nat → Nat → Int32) (n_L : Nat → Nat → Int64), va_P (dC, dI) vwCl (WM r ct i_taped i_size n_i_faultKind n_i_at n_i_end n_i_token n_i_number i_bank i_rb i_codes i_within i_piled i_unitsInRule i_askHouse i_askTune i_acts i_undone i_laid i_knowns i_time f_text f_tunes f_houses f_hums f_told f_many f_ruleFrom f_ruleTo f_code f_eWhat f_eSign f_all f_kept f_was f_sTune f_boxAll n_J n_L) t.heap ∧ va_D (va_A (WM r ct i_taped i_size i_faultKind i_at i_end i_token i_number i_bank i_rb i_codes i_within i_piled i_unitsInRule i_askHouse i_askTune i_acts i_undone i_laid i_knowns i_time f_text f_tunes f_houses f_hums f_told f_many f_ruleFrom f_ruleTo f_code f_eWhat f_eSign f_all f_kept f_was f_sTune f_boxAll J L) sz) (WM r ct i_taped i_size n_i_faultKind n_i_at n_i_end n_i_token n_i_number i_bank i_rb i_codes i_within i_piled i_unitsInRule i_askHouse i_askTune i_acts i_undone i_laid i_knowns i_time f_text f_tunes f_houses f_hums f_told f_many f_ruleFrom f_ruleTo f_code f_eWhat f_eSign f_all f_kept f_was f_sTune f_boxAll n_J n_L) ∧ (IM i_taped i_size n_i_faultKind n_i_at n_i_end i_bank i_rb i_acts i_undone i_laid i_knowns i_time f_tunes f_houses f_hums f_told f_many f_ruleFrom f_ruleTo f_code f_all f_kept f_was f_sTune f_boxAll) ∧ (p1.toInt ≤ u.toInt) ∧ (u.toInt ≤ p2.toInt) ∧ (i_end.toInt ≤ n_i_end.toInt) ∧ (((1 : Int) ≤ n_i_faultKind.toInt) ∨ ((n_i_faultKind.toInt = (0 : Int)) ∧ (i_faultKind.toInt = (0 : Int)) ∧ ((n_i_token.toInt = (0 : Int)) ∨ (i_end.toInt + 1 ≤ n_i_end.toInt))))) (va_A (WM r ct i_taped i_size i_faultKind i_at i_end i_token i_number i_bank i_rb i_codes i_within i_piled i_unitsInRule i_askHouse i_askTune i_acts i_undone i_laid i_knowns i_time f_text f_tunes f_houses f_hums f_told f_many f_ruleFrom f_ruleTo f_code f_eWhat f_eSign f_all f_kept f_was f_sTune f_boxAll J L) sz)) 0 0 (va_A (WM r ct i_taped i_size i_faultKind i_at i_end i_token i_number i_bank i_rb i_codes i_within i_piled i_unitsInRule i_askHouse i_askTune i_acts i_undone i_laid i_knowns i_time f_text f_tunes f_houses f_hums f_told f_many f_ruleFrom f_ruleTo f_code f_eWhat f_eSign f_all f_kept f_was f_sTune f_boxAll J L) sz) := by
  refine Met.ofW (cc := cX9_after) (maxL := 5) (ret := (some .int)) (by decide) rfl ?_
  intro p e s m args below meth c0 s₁ B hml hv
  obtain ⟨rfl, hsz, hP, hK, hD0⟩ := hv
  have hx := B.exec
  have hb := B.bytes
  have hr := B.returns
  have hts := atoms_spec (ws := .code yX9_after cX9_after 5 (some .int) :: GW) B.pre
  have hG : ∀ w ∈ GW, w.before _ s = true := fun w h => hts w (List.mem_cons_of_mem _ h)
  have hown : s.vm.findClass RX9 = some m.cls := findClass_of_methodNamed B.named
  subst hsz
  have hD := hD0.self (sz := s.heap.size)
  generalize hAe : va_A (WM r ct i_taped i_size i_faultKind i_at i_end i_token i_number i_bank i_rb i_codes i_within i_piled i_unitsInRule i_askHouse i_askTune i_acts i_undone i_laid i_knowns i_time f_text f_tunes f_houses f_hums f_told f_many f_ruleFrom f_ruleTo f_code f_eWhat f_eSign f_all f_kept f_was f_sTune f_boxAll J L) s.heap.size = A at hD ⊢
  have hA : ∀ q : Nat, s.heap.size ≤ q → A q := fun q h => by rw [← hAe]; exact Or.inr h
  have hS : va_S A s.heap s.heap [] := va_S.rf
  have hP : va_P (dC, dI) vwCl (WM r ct i_taped i_size i_faultKind i_at i_end i_token i_number i_bank i_rb i_codes i_within i_piled i_unitsInRule i_askHouse i_askTune i_acts i_undone i_laid i_knowns i_time f_text f_tunes f_houses f_hums f_told f_many f_ruleFrom f_ruleTo f_code f_eWhat f_eSign f_all f_kept f_was f_sTune f_boxAll J L) s.heap := hP
  have hl := lv_entry ([.ref (r 0), .long p0, .int p1, .int p2]) (n := 5) (Nat.le_of_ble_eq_true rfl)
  rw [lg_entry_eq]
  generalize (lg_sl ([.ref (r 0), .long p0, .int p1, .int p2]) ++ List.replicate (5 - (lg_sl ([.ref (r 0), .long p0, .int p1, .int p2])).length) Slot.unset).toArray = ls at hl ⊢
  have hl : lv_has ls 5 [(0, .ref (r 0)), (1, .long p0), (3, .int p1), (4, .int p2)] := hl
  refine nameQ (fun Q hQ => ?_)
  obtain ⟨im0, im1, im2, im3, im4, im5, im6, im7, im8, im9, im10, im11, im12, im13, im14, im15, im16, im17, im18, im19, im20, im21, im22, im23, im24, im25, im26, im27, im28, im29, im30, im31, im32⟩ := id hI
  have f1 : 0 ≤ (f_tunes (i_bank.toInt).toNat).toInt ∧ (f_tunes (i_bank.toInt).toNat).toInt ≤ 5 := im21 (i_bank.toInt)
  have f2 : 0 ≤ (f_houses (i_bank.toInt).toNat).toInt ∧ (f_houses (i_bank.toInt).toNat).toInt ≤ 4 := im22 (i_bank.toInt)
  refine lv_aload_n hx hb dX9_after_0 rfl (lv_at hl 0 rfl) ?_
  refine lv_aload_n hx hb dX9_after_1 rfl (lv_at hl 0 rfl) ?_
  refine lv_lload_n hx hb dX9_after_2 rfl (lv_at hl 1 rfl) ?_
  refine va_calli (va_runV (As := [.long p0]) (rest := [.ref (r 0)]) ⟨hx, hb, hml, hown, hG⟩ (kX9_isWord l dC dI r ct i_taped i_size i_faultKind i_at i_end i_token i_number i_bank i_rb i_codes i_within i_piled i_unitsInRule i_askHouse i_askTune i_acts i_undone i_laid i_knowns i_time f_text f_tunes f_houses f_hums f_told f_many f_ruleFrom f_ruleTo f_code f_eWhat f_eSign f_all f_kept f_was f_sTune f_boxAll J L p0 s.heap.size hI) (cwV 1 hG (goodV gw1413 gw1415 gw64 gw138 gw1416) rfl rfl rfl hd_X9_isWord ⟨(Nat.le_of_ble_eq_true rfl), (Nat.le_of_ble_eq_true rfl)⟩) ⟨fbR, va_recv hK hP (ci := 8) (q0 := 0) rfl rfl, pR_in hP hK⟩ rfl rfl hl.1 rfl (lv_room (Nat.le_of_ble_eq_true rfl)) dX9_after_3 ⟨(Nat.le_of_ble_eq_true rfl), (Nat.le_of_ble_eq_true rfl)⟩) hS (fun q hq h => absurd hq (Nat.not_lt.mpr h)) (fun q h => hA q (Nat.le_trans hS.1 h)) (fun r_4 u_ t_ H3 locs ht hvm hw hB hz1 hk1 hS => ?_)
  subst hw
  have hP := wk hP hk1
  obtain ⟨f5, f6, f7⟩ := hB
  have hFc := frA hD hS hA
  refine va_callv (va_runV (As := [.int r_4]) (rest := []) ⟨hx, hb, hml, hown, hG⟩ (kX9_must l dC dI r ct i_taped i_size i_faultKind i_at i_end i_token i_number i_bank i_rb i_codes i_within i_piled i_unitsInRule i_askHouse i_askTune i_acts i_undone i_laid i_knowns i_time f_text f_tunes f_houses f_hums f_told f_many f_ruleFrom f_ruleTo f_code f_eWhat f_eSign f_all f_kept f_was f_sTune f_boxAll J L r_4 H3.size hI (ob_183 f6 f7)) (cwV 1 hG (goodV gw1452 gw1454 gw73 gw138 gw1455) rfl rfl rfl hd_X9_must ⟨(Nat.le_of_ble_eq_true rfl), (Nat.le_of_ble_eq_true rfl)⟩) ⟨fbW, va_recv hK hP (ci := 8) (q0 := 0) rfl rfl, pW_in hP hK hD⟩ rfl rfl hl.1 rfl (lv_room (Nat.le_of_ble_eq_true rfl)) dX9_after_6 ⟨(Nat.le_of_ble_eq_true rfl), (Nat.le_of_ble_eq_true rfl)⟩) hS (fun q _ h => hFc q h) hFc (fun _ t_ H8 locs ht hvm hw hB hz1 hk1 hS => ?_)
  obtain ⟨x10, x11, x12, x13, x14, J15, L16, hP1, hD1, hI19, f17, f18⟩ := hB
  rw [ht] at hP1
  have hP := hP1
  have hD := dW hFc hD1
  obtain ⟨im20, im21, im22, im23, im24, im25, im26, im27, im28, im29, im30, im31, im32, im33, im34, im35, im36, im37, im38, im39, im40, im41, im42, im43, im44, im45, im46, im47, im48, im49, im50, im51, im52⟩ := id hI19
  refine lv_aload_n hx hb dX9_after_9 rfl (lv_at hl 0 rfl) ?_
  refine lv_iload_n hx hb dX9_after_10 rfl (lv_at hl 2 rfl) ?_
  refine lv_iload hx hb dX9_after_11 (lv_at hl 3 rfl) ?_
  have hFc := frA hD hS hA
  refine va_calli (va_runV (As := [.int p1, .int p2]) (rest := []) ⟨hx, hb, hml, hown, hG⟩ (kX9_numeral l dC dI r ct i_taped i_size x10 x11 x12 x13 x14 i_bank i_rb i_codes i_within i_piled i_unitsInRule i_askHouse i_askTune i_acts i_undone i_laid i_knowns i_time f_text f_tunes f_houses f_hums f_told f_many f_ruleFrom f_ruleTo f_code f_eWhat f_eSign f_all f_kept f_was f_sTune f_boxAll J15 L16 p1 p2 H8.size hI19 (ob_87 hp0)) (cwV 2 hG (goodV gw1432 gw1434 gw68 gw138 gw1435) rfl rfl rfl hd_X9_numeral ⟨(Nat.le_of_ble_eq_true rfl), (Nat.le_of_ble_eq_true rfl)⟩) ⟨fbW, va_recv hK hP (ci := 8) (q0 := 0) rfl rfl, pW_in hP hK hD⟩ rfl rfl hl.1 rfl (lv_room (Nat.le_of_ble_eq_true rfl)) dX9_after_13 ⟨(Nat.le_of_ble_eq_true rfl), (Nat.le_of_ble_eq_true rfl)⟩) hS (fun q _ h => hFc q h) hFc (fun r_54 u_ t_ H53 locs ht hvm hw hB hz1 hk1 hS => ?_)
  subst hw
  obtain ⟨x55, x56, x57, x58, x59, J60, L61, hP1, hD1, hI66, f62, f63, f64, f65⟩ := hB
  rw [ht] at hP1
  have hP := hP1
  have hD := dW hFc hD1
  obtain ⟨im67, im68, im69, im70, im71, im72, im73, im74, im75, im76, im77, im78, im79, im80, im81, im82, im83, im84, im85, im86, im87, im88, im89, im90, im91, im92, im93, im94, im95, im96, im97, im98, im99⟩ := id hI66
  rw [hQ]
  exact W.iret (v := r_54) hx hb hr (fun t ht hW => ⟨⟨r_54, r_54, rfl, rfl, ⟨x55, x56, x57, x58, x59, J60, L61, by rw [ht]; exact hP, hD, hI66, (ob_177 hp0 f62 f63), (ob_178 hp0 f62 f63), (ob_108 f17 f64), (ob_184 f17 f18 f65)⟩⟩, hS.F ht⟩) hS.2.2 dX9_after_16
set_option maxHeartbeats 4000000 in
set_option maxRecDepth 100000 in
theorem kX9_fresh (l : Launch) (dC : Nat → ClassId) (dI : Nat → Nat → Nat) (r : Nat → Nat) (ct : Nat → ClassId) (i_taped i_size i_faultKind i_at i_end i_token i_number i_bank i_rb i_codes i_within i_piled i_unitsInRule i_askHouse i_askTune i_acts i_undone i_laid i_knowns i_time : Int32) (f_text f_tunes f_houses f_hums f_told f_many f_ruleFrom f_ruleTo f_code f_eWhat f_eSign f_all f_kept f_was f_sTune f_boxAll : Nat → Int32) (J : Nat → Nat → Int32) (L : Nat → Nat → Int64) (p0 : Int32) (sz : Nat) (hI : (IM i_taped i_size i_faultKind i_at i_end i_bank i_rb i_acts i_undone i_laid i_knowns i_time f_tunes f_houses f_hums f_told f_many f_ruleFrom f_ruleTo f_code f_all f_kept f_was f_sTune f_boxAll)) : Met l yX9_fresh (.code yX9_fresh cX9_fresh 4 (some .long) :: GW) { frames := 6, cells := 0, slots := 0, locals := 224 } (va_Pc [.ref (r 0), .int p0] (pW (dC, dI) (WM r ct i_taped i_size i_faultKind i_at i_end i_token i_number i_bank i_rb i_codes i_within i_piled i_unitsInRule i_askHouse i_askTune i_acts i_undone i_laid i_knowns i_time f_text f_tunes f_houses f_hums f_told f_many f_ruleFrom f_ruleTo f_code f_eWhat f_eSign f_all f_kept f_was f_sTune f_boxAll J L) (TM ct) sz)) (va_Ql (fun (_ : Int64) (_ : Unit) => True) (fun (_ : Unit) (t : State) => ∃ (n_i_faultKind n_i_at n_i_end n_i_token n_i_number : Int32) (n_J : Nat → Nat → Int32) (n_L : Nat → Nat → Int64), va_P (dC, dI) vwCl (WM r ct i_taped i_size n_i_faultKind n_i_at n_i_end n_i_token n_i_number i_bank i_rb i_codes i_within i_piled i_unitsInRule i_askHouse i_askTune i_acts i_undone i_laid i_knowns i_time f_text f_tunes f_houses f_hums f_told f_many f_ruleFrom f_ruleTo f_code f_eWhat f_eSign f_all f_kept f_was f_sTune f_boxAll n_J n_L) t.heap ∧ va_D (va_A (WM r ct i_taped i_size i_faultKind i_at i_end i_token i_number i_bank i_rb i_codes i_within i_piled i_unitsInRule i_askHouse i_askTune i_acts i_undone i_laid i_knowns i_time f_text f_tunes f_houses f_hums f_told f_many f_ruleFrom f_ruleTo f_code f_eWhat f_eSign f_all f_kept f_was f_sTune f_boxAll J L) sz) (WM r ct i_taped i_size n_i_faultKind n_i_at n_i_end n_i_token n_i_number i_bank i_rb i_codes i_within i_piled i_unitsInRule i_askHouse i_askTune i_acts i_undone i_laid i_knowns i_time f_text f_tunes f_houses f_hums f_told f_many f_ruleFrom f_ruleTo f_code f_eWhat f_eSign f_all f_kept f_was f_sTune f_boxAll n_J n_L) ∧ (IM i_taped i_size n_i_faultKind n_i_at n_i_end i_bank i_rb i_acts i_undone i_laid i_knowns i_time f_tunes f_houses f_hums f_told f_many f_ruleFrom f_ruleTo f_code f_all f_kept f_was f_sTune f_boxAll) ∧ (i_end.toInt ≤ n_i_end.toInt) ∧ (((1 : Int) ≤ n_i_faultKind.toInt) ∨ ((n_i_faultKind.toInt = (0 : Int)) ∧ (i_faultKind.toInt = (0 : Int)) ∧ ((n_i_token.toInt = (0 : Int)) ∨ (i_end.toInt + 1 ≤ n_i_end.toInt))))) (va_A (WM r ct i_taped i_size i_faultKind i_at i_end i_token i_number i_bank i_rb i_codes i_within i_piled i_unitsInRule i_askHouse i_askTune i_acts i_undone i_laid i_knowns i_time f_text f_tunes f_houses f_hums f_told f_many f_ruleFrom f_ruleTo f_code f_eWhat f_eSign f_all f_kept f_was f_sTune f_boxAll J L) sz)) 0 0 (va_A (WM r ct i_taped i_size i_faultKind i_at i_end i_token i_number i_bank i_rb i_codes i_within i_piled i_unitsInRule i_askHouse i_askTune i_acts i_undone i_laid i_knowns i_time f_text f_tunes f_houses f_hums f_told f_many f_ruleFrom f_ruleTo f_code f_eWhat f_eSign f_all f_kept f_was f_sTune f_boxAll J L) sz) := by
  refine Met.ofW (cc := cX9_fresh) (maxL := 4) (ret := (some .long)) (by decide) rfl ?_
  intro p e s m args below meth c0 s₁ B hml hv
  obtain ⟨rfl, hsz, hP, hK, hD0⟩ := hv
  have hx := B.exec
  have hb := B.bytes
  have hr := B.returns
  have hts := atoms_spec (ws := .code yX9_fresh cX9_fresh 4 (some .long) :: GW) B.pre
  have hG : ∀ w ∈ GW, w.before _ s = true := fun w h => hts w (List.mem_cons_of_mem _ h)
  have hown : s.vm.findClass RX9 = some m.cls := findClass_of_methodNamed B.named
  subst hsz
  have hD := hD0.self (sz := s.heap.size)
  generalize hAe : va_A (WM r ct i_taped i_size i_faultKind i_at i_end i_token i_number i_bank i_rb i_codes i_within i_piled i_unitsInRule i_askHouse i_askTune i_acts i_undone i_laid i_knowns i_time f_text f_tunes f_houses f_hums f_told f_many f_ruleFrom f_ruleTo f_code f_eWhat f_eSign f_all f_kept f_was f_sTune f_boxAll J L) s.heap.size = A at hD ⊢
  have hA : ∀ q : Nat, s.heap.size ≤ q → A q := fun q h => by rw [← hAe]; exact Or.inr h
  have hS : va_S A s.heap s.heap [] := va_S.rf
  have hP : va_P (dC, dI) vwCl (WM r ct i_taped i_size i_faultKind i_at i_end i_token i_number i_bank i_rb i_codes i_within i_piled i_unitsInRule i_askHouse i_askTune i_acts i_undone i_laid i_knowns i_time f_text f_tunes f_houses f_hums f_told f_many f_ruleFrom f_ruleTo f_code f_eWhat f_eSign f_all f_kept f_was f_sTune f_boxAll J L) s.heap := hP
  have hl := lv_entry ([.ref (r 0), .int p0]) (n := 4) (Nat.le_of_ble_eq_true rfl)
  rw [lg_entry_eq]
  generalize (lg_sl ([.ref (r 0), .int p0]) ++ List.replicate (4 - (lg_sl ([.ref (r 0), .int p0])).length) Slot.unset).toArray = ls at hl ⊢
  have hl : lv_has ls 4 [(0, .ref (r 0)), (1, .int p0)] := hl
  refine nameQ (fun Q hQ => ?_)
  obtain ⟨im0, im1, im2, im3, im4, im5, im6, im7, im8, im9, im10, im11, im12, im13, im14, im15, im16, im17, im18, im19, im20, im21, im22, im23, im24, im25, im26, im27, im28, im29, im30, im31, im32⟩ := id hI
  have f1 : 0 ≤ (f_tunes (i_bank.toInt).toNat).toInt ∧ (f_tunes (i_bank.toInt).toNat).toInt ≤ 5 := im21 (i_bank.toInt)
  have f2 : 0 ≤ (f_houses (i_bank.toInt).toNat).toInt ∧ (f_houses (i_bank.toInt).toNat).toInt ≤ 4 := im22 (i_bank.toInt)
  refine lv_aload_n hx hb dX9_fresh_0 rfl (lv_at hl 0 rfl) ?_
  refine va_calli (va_runV (As := []) (rest := []) ⟨hx, hb, hml, hown, hG⟩ (kX9_isGood l dC dI r ct i_taped i_size i_faultKind i_at i_end i_token i_number i_bank i_rb i_codes i_within i_piled i_unitsInRule i_askHouse i_askTune i_acts i_undone i_laid i_knowns i_time f_text f_tunes f_houses f_hums f_told f_many f_ruleFrom f_ruleTo f_code f_eWhat f_eSign f_all f_kept f_was f_sTune f_boxAll J L s.heap.size hI) (cwV 0 hG (goodV gw1401 gw1403 gw61 gw138 gw1404) rfl rfl rfl hd_X9_isGood ⟨(Nat.le_of_ble_eq_true rfl), (Nat.le_of_ble_eq_true rfl)⟩) ⟨fbR, va_recv hK hP (ci := 8) (q0 := 0) rfl rfl, pR_in hP hK⟩ rfl rfl hl.1 rfl (lv_room (Nat.le_of_ble_eq_true rfl)) dX9_fresh_1 ⟨(Nat.le_of_ble_eq_true rfl), (Nat.le_of_ble_eq_true rfl)⟩) hS (fun q hq h => absurd hq (Nat.not_lt.mpr h)) (fun q h => hA q (Nat.le_trans hS.1 h)) (fun r_4 u_ t_ H3 locs ht hvm hw hB hz1 hk1 hS => ?_)
  subst hw
  have hP := wk hP hk1
  obtain ⟨f5, f6, f7⟩ := hB
  refine lv_if_ne (tgt := 9) hx hb dX9_fresh_4 (by decide) (fun c_8 => ?_) (fun c_8 => ?_)
  · skip
    have f9 : r_4.toInt ≠ 0 := qi_ne c_8 rfl zc_0
    have f10 : (1 : Int) ≤ r_4.toInt := (ob_158 f5 f9)
    have f11 : i_faultKind.toInt = (0 : Int) := (ob_159 f5 f9)
    have f12 : r_4.toInt = (1 : Int) := (ob_104 f6 f7 f10)
    refine lv_aload_n hx hb dX9_fresh_9 rfl (lv_at hl 0 rfl) ?_
    refine gM_X9_191_0 hx hb hG hown hK hP dX9_fresh_10 ?_
    refine lv_iconst (v := 2) hx hb dX9_fresh_13 (by decide) ?_
    refine lv_icmp_eq (tgt := 24) hx hb dX9_fresh_14 (by decide) (fun c_13 => ?_) (fun c_13 => ?_)
    · skip
      have f14 : i_token.toInt = 2 := qi_eq c_13 rfl zc_2
      refine lv_iload_n hx hb dX9_fresh_24 rfl (lv_at hl 1 rfl) ?_
      refine lv_if_lt (tgt := 37) hx hb dX9_fresh_25 (by decide) (fun c_15 => ?_) (fun c_15 => ?_)
      · skip
        have f16 : p0.toInt < 0 := qi_lt c_15 rfl zc_0
        refine lv_aload_n hx hb dX9_fresh_37 rfl (lv_at hl 0 rfl) ?_
        refine gM_X9_198_0 hx hb hG hown hK hP dX9_fresh_38 ?_
        refine lv_lstore_n (lv' := [(2, .long (L 0 0)), (0, .ref (r 0)), (1, .int p0)]) hx hb dX9_fresh_41 rfl hl (by decide) rfl (fun ls hl => ?_)
        refine lv_aload_n hx hb dX9_fresh_42 rfl (lv_at hl 1 rfl) ?_
        refine va_calli (va_runV (As := []) (rest := []) ⟨hx, hb, hml, hown, hG⟩ (kX9_isGood l dC dI r ct i_taped i_size i_faultKind i_at i_end i_token i_number i_bank i_rb i_codes i_within i_piled i_unitsInRule i_askHouse i_askTune i_acts i_undone i_laid i_knowns i_time f_text f_tunes f_houses f_hums f_told f_many f_ruleFrom f_ruleTo f_code f_eWhat f_eSign f_all f_kept f_was f_sTune f_boxAll J L H3.size hI) (cwV 0 hG (goodV gw1401 gw1403 gw61 gw138 gw1404) rfl rfl rfl hd_X9_isGood ⟨(Nat.le_of_ble_eq_true rfl), (Nat.le_of_ble_eq_true rfl)⟩) ⟨fbR, va_recv hK hP (ci := 8) (q0 := 0) rfl rfl, pR_in hP hK⟩ rfl rfl hl.1 rfl (lv_room (Nat.le_of_ble_eq_true rfl)) dX9_fresh_43 ⟨(Nat.le_of_ble_eq_true rfl), (Nat.le_of_ble_eq_true rfl)⟩) hS (fun q hq h => absurd hq (Nat.not_lt.mpr h)) (fun q h => hA q (Nat.le_trans hS.1 h)) (fun r_18 u_ t_ H17 locs ht hvm hw hB hz1 hk1 hS => ?_)
        subst hw
        have hP := wk hP hk1
        obtain ⟨f19, f20, f21⟩ := hB
        refine lv_if_eq (tgt := 53) hx hb dX9_fresh_46 (by decide) (fun c_22 => ((ob_167 (qi_eq c_22 rfl zc_0) f11 f19)).elim) (fun c_22 => ?_)
        have f23 : r_18.toInt ≠ 0 := qi_ne c_22 rfl zc_0
        have f24 : i_faultKind.toInt = (0 : Int) := (ob_168 im17 f11)
        have f25 : r_18.toInt = (1 : Int) := (ob_169 f19 f23)
        have f26 : (1 : Int) ≤ r_18.toInt := (ob_170 f20 f21 f25)
        refine lv_aload_n hx hb dX9_fresh_49 rfl (lv_at hl 1 rfl) ?_
        have hFc := frA hD hS hA
        refine va_callv (va_runV (As := []) (rest := []) ⟨hx, hb, hml, hown, hG⟩ (kX9_goOn l dC dI r ct i_taped i_size i_faultKind i_at i_end i_token i_number i_bank i_rb i_codes i_within i_piled i_unitsInRule i_askHouse i_askTune i_acts i_undone i_laid i_knowns i_time f_text f_tunes f_houses f_hums f_told f_many f_ruleFrom f_ruleTo f_code f_eWhat f_eSign f_all f_kept f_was f_sTune f_boxAll J L H17.size hI) (cwV 0 hG (goodV gw1362 gw1364 gw59 gw138 gw1365) rfl rfl rfl hd_X9_goOn ⟨(Nat.le_of_ble_eq_true rfl), (Nat.le_of_ble_eq_true rfl)⟩) ⟨fbW, va_recv hK hP (ci := 8) (q0 := 0) rfl rfl, pW_in hP hK hD⟩ rfl rfl hl.1 rfl (lv_room (Nat.le_of_ble_eq_true rfl)) dX9_fresh_50 ⟨(Nat.le_of_ble_eq_true rfl), (Nat.le_of_ble_eq_true rfl)⟩) hS (fun q _ h => hFc q h) hFc (fun _ t_ H27 locs ht hvm hw hB hz1 hk1 hS => ?_)
        obtain ⟨x29, x30, x31, x32, L33, hP1, hD1, hI37, f34, f35, f36⟩ := hB
        rw [ht] at hP1
        have hP := hP1
        have hD := dW hFc hD1
        obtain ⟨im38, im39, im40, im41, im42, im43, im44, im45, im46, im47, im48, im49, im50, im51, im52, im53, im54, im55, im56, im57, im58, im59, im60, im61, im62, im63, im64, im65, im66, im67, im68, im69, im70⟩ := id hI37
        refine lv_lload_n hx hb dX9_fresh_53 rfl (lv_at hl 0 rfl) ?_
        rw [hQ]
        exact W.lret (v := (L 0 0)) hx hb hr (fun t ht hW => ⟨⟨(L 0 0), (), rfl, trivial, ⟨i_faultKind, x29, x30, x31, x32, J, L33, by rw [ht]; exact hP, hD, hI37, (ob_87 f34), (ob_179 im17 f36)⟩⟩, hS.F ht⟩) hS.2.2 dX9_fresh_54
      · skip
        have f71 : 0 ≤ p0.toInt := qi_nlt c_15 rfl zc_0
        refine lv_aload_n hx hb dX9_fresh_28 rfl (lv_at hl 0 rfl) ?_
        refine lv_iconst (v := 3) hx hb dX9_fresh_29 (by decide) ?_
        refine lv_aload_n hx hb dX9_fresh_30 rfl (lv_at hl 0 rfl) ?_
        refine gM_X9_184_0 hx hb hG hown hK hP dX9_fresh_31 ?_
        have hFc := frA hD hS hA
        refine va_callv (va_runV (As := [.int 3, .int i_at]) (rest := []) ⟨hx, hb, hml, hown, hG⟩ (kX9_fails l dC dI r ct i_taped i_size i_faultKind i_at i_end i_token i_number i_bank i_rb i_codes i_within i_piled i_unitsInRule i_askHouse i_askTune i_acts i_undone i_laid i_knowns i_time f_text f_tunes f_houses f_hums f_told f_many f_ruleFrom f_ruleTo f_code f_eWhat f_eSign f_all f_kept f_was f_sTune f_boxAll J L 3 i_at H3.size hI (ob_185 zc_3)) (cwV 2 hG (goodV gw1424 gw1426 gw66 gw138 gw1427) rfl rfl rfl hd_X9_fails ⟨(Nat.le_of_ble_eq_true rfl), (Nat.le_of_ble_eq_true rfl)⟩) ⟨fbW, va_recv hK hP (ci := 8) (q0 := 0) rfl rfl, pW_in hP hK hD⟩ rfl rfl hl.1 rfl (lv_room (Nat.le_of_ble_eq_true rfl)) dX9_fresh_34 ⟨(Nat.le_of_ble_eq_true rfl), (Nat.le_of_ble_eq_true rfl)⟩) hS (fun q _ h => hFc q h) hFc (fun _ t_ H72 locs ht hvm hw hB hz1 hk1 hS => ?_)
        obtain ⟨x74, J75, hP1, hD1, hI77, f76⟩ := hB
        rw [ht] at hP1
        have hP := hP1
        have hD := dW hFc hD1
        obtain ⟨im78, im79, im80, im81, im82, im83, im84, im85, im86, im87, im88, im89, im90, im91, im92, im93, im94, im95, im96, im97, im98, im99, im100, im101, im102, im103, im104, im105, im106, im107, im108, im109, im110⟩ := id hI77
        refine lv_aload_n hx hb dX9_fresh_37 rfl (lv_at hl 0 rfl) ?_
        refine gM_X9_198_0 hx hb hG hown hK hP dX9_fresh_38 ?_
        refine lv_lstore_n (lv' := [(2, .long (L 0 0)), (0, .ref (r 0)), (1, .int p0)]) hx hb dX9_fresh_41 rfl hl (by decide) rfl (fun ls hl => ?_)
        refine lv_aload_n hx hb dX9_fresh_42 rfl (lv_at hl 1 rfl) ?_
        refine va_calli (va_runV (As := []) (rest := []) ⟨hx, hb, hml, hown, hG⟩ (kX9_isGood l dC dI r ct i_taped i_size x74 i_at i_end i_token i_number i_bank i_rb i_codes i_within i_piled i_unitsInRule i_askHouse i_askTune i_acts i_undone i_laid i_knowns i_time f_text f_tunes f_houses f_hums f_told f_many f_ruleFrom f_ruleTo f_code f_eWhat f_eSign f_all f_kept f_was f_sTune f_boxAll J75 L H72.size hI77) (cwV 0 hG (goodV gw1401 gw1403 gw61 gw138 gw1404) rfl rfl rfl hd_X9_isGood ⟨(Nat.le_of_ble_eq_true rfl), (Nat.le_of_ble_eq_true rfl)⟩) ⟨fbR, va_recv hK hP (ci := 8) (q0 := 0) rfl rfl, pR_in hP hK⟩ rfl rfl hl.1 rfl (lv_room (Nat.le_of_ble_eq_true rfl)) dX9_fresh_43 ⟨(Nat.le_of_ble_eq_true rfl), (Nat.le_of_ble_eq_true rfl)⟩) hS (fun q hq h => absurd hq (Nat.not_lt.mpr h)) (fun q h => hA q (Nat.le_trans hS.1 h)) (fun r_112 u_ t_ H111 locs ht hvm hw hB hz1 hk1 hS => ?_)
        subst hw
        have hP := wk hP hk1
        obtain ⟨f113, f114, f115⟩ := hB
        refine lv_if_eq (tgt := 53) hx hb dX9_fresh_46 (by decide) (fun c_116 => ?_) (fun c_116 => ((ob_172 (qi_ne c_116 rfl zc_0) f76 f113)).elim)
        have f117 : r_112.toInt = 0 := qi_eq c_116 rfl zc_0
        have f118 : x74.toInt ≠ (0 : Int) := (ob_173 im95 f76)
        have f119 : (1 : Int) ≤ x74.toInt := (ob_156 im95 f76)
        have f120 : r_112.toInt = (0 : Int) := (ob_165 f114 f115 f117)
        refine lv_lload_n hx hb dX9_fresh_53 rfl (lv_at hl 0 rfl) ?_
        rw [hQ]
        exact W.lret (v := (L 0 0)) hx hb hr (fun t ht hW => ⟨⟨(L 0 0), (), rfl, trivial, ⟨x74, i_at, i_end, i_token, i_number, J75, L, by rw [ht]; exact hP, hD, hI77, (ob_88), (ob_175 f76)⟩⟩, hS.F ht⟩) hS.2.2 dX9_fresh_54
    · skip
      have f121 : i_token.toInt ≠ 2 := qi_ne c_13 rfl zc_2
      refine lv_aload_n hx hb dX9_fresh_17 rfl (lv_at hl 0 rfl) ?_
      have hFc := frA hD hS hA
      refine va_callv (va_runV (As := []) (rest := []) ⟨hx, hb, hml, hown, hG⟩ (kX9_misplaced l dC dI r ct i_taped i_size i_faultKind i_at i_end i_token i_number i_bank i_rb i_codes i_within i_piled i_unitsInRule i_askHouse i_askTune i_acts i_undone i_laid i_knowns i_time f_text f_tunes f_houses f_hums f_told f_many f_ruleFrom f_ruleTo f_code f_eWhat f_eSign f_all f_kept f_was f_sTune f_boxAll J L H3.size hI) (cwV 0 hG (goodV gw1420 gw1422 gw65 gw138 gw1423) rfl rfl rfl hd_X9_misplaced ⟨(Nat.le_of_ble_eq_true rfl), (Nat.le_of_ble_eq_true rfl)⟩) ⟨fbW, va_recv hK hP (ci := 8) (q0 := 0) rfl rfl, pW_in hP hK hD⟩ rfl rfl hl.1 rfl (lv_room (Nat.le_of_ble_eq_true rfl)) dX9_fresh_18 ⟨(Nat.le_of_ble_eq_true rfl), (Nat.le_of_ble_eq_true rfl)⟩) hS (fun q _ h => hFc q h) hFc (fun _ t_ H122 locs ht hvm hw hB hz1 hk1 hS => ?_)
      obtain ⟨x124, J125, hP1, hD1, hI127, f126⟩ := hB
      rw [ht] at hP1
      have hP := hP1
      have hD := dW hFc hD1
      obtain ⟨im128, im129, im130, im131, im132, im133, im134, im135, im136, im137, im138, im139, im140, im141, im142, im143, im144, im145, im146, im147, im148, im149, im150, im151, im152, im153, im154, im155, im156, im157, im158, im159, im160⟩ := id hI127
      refine lv_goto (tgt := 37) hx hb dX9_fresh_21 (by decide) ?_
      refine lv_aload_n hx hb dX9_fresh_37 rfl (lv_at hl 0 rfl) ?_
      refine gM_X9_198_0 hx hb hG hown hK hP dX9_fresh_38 ?_
      refine lv_lstore_n (lv' := [(2, .long (L 0 0)), (0, .ref (r 0)), (1, .int p0)]) hx hb dX9_fresh_41 rfl hl (by decide) rfl (fun ls hl => ?_)
      refine lv_aload_n hx hb dX9_fresh_42 rfl (lv_at hl 1 rfl) ?_
      refine va_calli (va_runV (As := []) (rest := []) ⟨hx, hb, hml, hown, hG⟩ (kX9_isGood l dC dI r ct i_taped i_size x124 i_at i_end i_token i_number i_bank i_rb i_codes i_within i_piled i_unitsInRule i_askHouse i_askTune i_acts i_undone i_laid i_knowns i_time f_text f_tunes f_houses f_hums f_told f_many f_ruleFrom f_ruleTo f_code f_eWhat f_eSign f_all f_kept f_was f_sTune f_boxAll J125 L H122.size hI127) (cwV 0 hG (goodV gw1401 gw1403 gw61 gw138 gw1404) rfl rfl rfl hd_X9_isGood ⟨(Nat.le_of_ble_eq_true rfl), (Nat.le_of_ble_eq_true rfl)⟩) ⟨fbR, va_recv hK hP (ci := 8) (q0 := 0) rfl rfl, pR_in hP hK⟩ rfl rfl hl.1 rfl (lv_room (Nat.le_of_ble_eq_true rfl)) dX9_fresh_43 ⟨(Nat.le_of_ble_eq_true rfl), (Nat.le_of_ble_eq_true rfl)⟩) hS (fun q hq h => absurd hq (Nat.not_lt.mpr h)) (fun q h => hA q (Nat.le_trans hS.1 h)) (fun r_162 u_ t_ H161 locs ht hvm hw hB hz1 hk1 hS => ?_)
      subst hw
      have hP := wk hP hk1
      obtain ⟨f163, f164, f165⟩ := hB
      refine lv_if_eq (tgt := 53) hx hb dX9_fresh_46 (by decide) (fun c_166 => ?_) (fun c_166 => ((ob_172 (qi_ne c_166 rfl zc_0) f126 f163)).elim)
      have f167 : r_162.toInt = 0 := qi_eq c_166 rfl zc_0
      have f168 : x124.toInt ≠ (0 : Int) := (ob_173 im145 f126)
      have f169 : (1 : Int) ≤ x124.toInt := (ob_156 im145 f126)
      have f170 : r_162.toInt = (0 : Int) := (ob_165 f164 f165 f167)
      refine lv_lload_n hx hb dX9_fresh_53 rfl (lv_at hl 0 rfl) ?_
      rw [hQ]
      exact W.lret (v := (L 0 0)) hx hb hr (fun t ht hW => ⟨⟨(L 0 0), (), rfl, trivial, ⟨x124, i_at, i_end, i_token, i_number, J125, L, by rw [ht]; exact hP, hD, hI127, (ob_88), (ob_175 f126)⟩⟩, hS.F ht⟩) hS.2.2 dX9_fresh_54
  · skip
    have f171 : r_4.toInt = 0 := qi_eq c_8 rfl zc_0
    have f172 : i_faultKind.toInt ≠ (0 : Int) := (ob_163 f5 f171)
    have f173 : (1 : Int) ≤ i_faultKind.toInt := (ob_164 im17 f5 f172)
    have f174 : r_4.toInt = (0 : Int) := (ob_165 f6 f7 f171)
    refine lv_lconst (v := 0) hx hb dX9_fresh_7 (by decide) ?_
    rw [hQ]
    exact W.lret (v := (0 : Int64)) hx hb hr (fun t ht hW => ⟨⟨(0 : Int64), (), rfl, trivial, ⟨i_faultKind, i_at, i_end, i_token, i_number, J, L, by rw [ht]; exact hP, hD, hI, (ob_88), (ob_182 im17 f173)⟩⟩, hS.F ht⟩) hS.2.2 dX9_fresh_8
set_option maxHeartbeats 4000000 in
set_option maxRecDepth 100000 in
theorem kX9_emit (l : Launch) (dC : Nat → ClassId) (dI : Nat → Nat → Nat) (r : Nat → Nat) (ct : Nat → ClassId) (i_taped i_size i_faultKind i_at i_end i_token i_number i_bank i_rb i_codes i_within i_piled i_unitsInRule i_askHouse i_askTune i_acts i_undone i_laid i_knowns i_time : Int32) (f_text f_tunes f_houses f_hums f_told f_many f_ruleFrom f_ruleTo f_code f_eWhat f_eSign f_all f_kept f_was f_sTune f_boxAll : Nat → Int32) (J : Nat → Nat → Int32) (L : Nat → Nat → Int64) (p0 p1 : Int32) (sz : Nat) (hI : (IM i_taped i_size i_faultKind i_at i_end i_bank i_rb i_acts i_undone i_laid i_knowns i_time f_tunes f_houses f_hums f_told f_many f_ruleFrom f_ruleTo f_code f_all f_kept f_was f_sTune f_boxAll)) (hp0 : i_rb.toInt + i_bank.toInt = (1 : Int)) (hp1 : 560 * i_rb.toInt ≤ i_codes.toInt) (hp2 : i_codes.toInt ≤ 560 * i_rb.toInt + 559) : Met l yX9_emit (.code yX9_emit cX9_emit 3 none :: GW) { frames := 2, cells := 0, slots := 0, locals := 100 } (va_Pc [.ref (r 0), .int p0, .int p1] (pW (dC, dI) (WM r ct i_taped i_size i_faultKind i_at i_end i_token i_number i_bank i_rb i_codes i_within i_piled i_unitsInRule i_askHouse i_askTune i_acts i_undone i_laid i_knowns i_time f_text f_tunes f_houses f_hums f_told f_many f_ruleFrom f_ruleTo f_code f_eWhat f_eSign f_all f_kept f_was f_sTune f_boxAll J L) (TM ct) sz)) (va_Qv (fun _ : Unit => True) (fun (_ : Unit) (t : State) => ∃ (n_i_codes : Int32) (n_f_code : Nat → Int32) (n_J : Nat → Nat → Int32), va_P (dC, dI) vwCl (WM r ct i_taped i_size i_faultKind i_at i_end i_token i_number i_bank i_rb n_i_codes i_within i_piled i_unitsInRule i_askHouse i_askTune i_acts i_undone i_laid i_knowns i_time f_text f_tunes f_houses f_hums f_told f_many f_ruleFrom f_ruleTo n_f_code f_eWhat f_eSign f_all f_kept f_was f_sTune f_boxAll n_J L) t.heap ∧ va_D (va_A (WM r ct i_taped i_size i_faultKind i_at i_end i_token i_number i_bank i_rb i_codes i_within i_piled i_unitsInRule i_askHouse i_askTune i_acts i_undone i_laid i_knowns i_time f_text f_tunes f_houses f_hums f_told f_many f_ruleFrom f_ruleTo f_code f_eWhat f_eSign f_all f_kept f_was f_sTune f_boxAll J L) sz) (WM r ct i_taped i_size i_faultKind i_at i_end i_token i_number i_bank i_rb n_i_codes i_within i_piled i_unitsInRule i_askHouse i_askTune i_acts i_undone i_laid i_knowns i_time f_text f_tunes f_houses f_hums f_told f_many f_ruleFrom f_ruleTo n_f_code f_eWhat f_eSign f_all f_kept f_was f_sTune f_boxAll n_J L) ∧ (IM i_taped i_size i_faultKind i_at i_end i_bank i_rb i_acts i_undone i_laid i_knowns i_time f_tunes f_houses f_hums f_told f_many f_ruleFrom f_ruleTo n_f_code f_all f_kept f_was f_sTune f_boxAll) ∧ (n_i_codes.toInt = i_codes.toInt + 1) ∧ (n_f_code = upd f_code (i_codes.toInt).toNat p0)) (va_A (WM r ct i_taped i_size i_faultKind i_at i_end i_token i_number i_bank i_rb i_codes i_within i_piled i_unitsInRule i_askHouse i_askTune i_acts i_undone i_laid i_knowns i_time f_text f_tunes f_houses f_hums f_told f_many f_ruleFrom f_ruleTo f_code f_eWhat f_eSign f_all f_kept f_was f_sTune f_boxAll J L) sz)) 0 0 (va_A (WM r ct i_taped i_size i_faultKind i_at i_end i_token i_number i_bank i_rb i_codes i_within i_piled i_unitsInRule i_askHouse i_askTune i_acts i_undone i_laid i_knowns i_time f_text f_tunes f_houses f_hums f_told f_many f_ruleFrom f_ruleTo f_code f_eWhat f_eSign f_all f_kept f_was f_sTune f_boxAll J L) sz) := by
  refine Met.ofW (cc := cX9_emit) (maxL := 3) (ret := none) (by decide) rfl ?_
  intro p e s m args below meth c0 s₁ B hml hv
  obtain ⟨rfl, hsz, hP, hK, hD0⟩ := hv
  have hx := B.exec
  have hb := B.bytes
  have hr := B.returns
  have hts := atoms_spec (ws := .code yX9_emit cX9_emit 3 none :: GW) B.pre
  have hG : ∀ w ∈ GW, w.before _ s = true := fun w h => hts w (List.mem_cons_of_mem _ h)
  have hown : s.vm.findClass RX9 = some m.cls := findClass_of_methodNamed B.named
  subst hsz
  have hD := hD0.self (sz := s.heap.size)
  generalize hAe : va_A (WM r ct i_taped i_size i_faultKind i_at i_end i_token i_number i_bank i_rb i_codes i_within i_piled i_unitsInRule i_askHouse i_askTune i_acts i_undone i_laid i_knowns i_time f_text f_tunes f_houses f_hums f_told f_many f_ruleFrom f_ruleTo f_code f_eWhat f_eSign f_all f_kept f_was f_sTune f_boxAll J L) s.heap.size = A at hD ⊢
  have hA : ∀ q : Nat, s.heap.size ≤ q → A q := fun q h => by rw [← hAe]; exact Or.inr h
  have hS : va_S A s.heap s.heap [] := va_S.rf
  have hP : va_P (dC, dI) vwCl (WM r ct i_taped i_size i_faultKind i_at i_end i_token i_number i_bank i_rb i_codes i_within i_piled i_unitsInRule i_askHouse i_askTune i_acts i_undone i_laid i_knowns i_time f_text f_tunes f_houses f_hums f_told f_many f_ruleFrom f_ruleTo f_code f_eWhat f_eSign f_all f_kept f_was f_sTune f_boxAll J L) s.heap := hP
  have hl := lv_entry ([.ref (r 0), .int p0, .int p1]) (n := 3) (Nat.le_of_ble_eq_true rfl)
  rw [lg_entry_eq]
  generalize (lg_sl ([.ref (r 0), .int p0, .int p1]) ++ List.replicate (3 - (lg_sl ([.ref (r 0), .int p0, .int p1])).length) Slot.unset).toArray = ls at hl ⊢
  have hl : lv_has ls 3 [(0, .ref (r 0)), (1, .int p0), (2, .int p1)] := hl
  refine nameQ (fun Q hQ => ?_)
  obtain ⟨im0, im1, im2, im3, im4, im5, im6, im7, im8, im9, im10, im11, im12, im13, im14, im15, im16, im17, im18, im19, im20, im21, im22, im23, im24, im25, im26, im27, im28, im29, im30, im31, im32⟩ := id hI
  have f1 : 0 ≤ (f_tunes (i_bank.toInt).toNat).toInt ∧ (f_tunes (i_bank.toInt).toNat).toInt ≤ 5 := im21 (i_bank.toInt)
  have f2 : 0 ≤ (f_houses (i_bank.toInt).toNat).toInt ∧ (f_houses (i_bank.toInt).toNat).toInt ≤ 4 := im22 (i_bank.toInt)
  refine lv_aload_n hx hb dX9_emit_0 rfl (lv_at hl 0 rfl) ?_
  refine gM_X9_73_0 hx hb hG hown hK hP dX9_emit_1 ?_
  refine lv_aload_n hx hb dX9_emit_4 rfl (lv_at hl 0 rfl) ?_
  refine gM_X9_243_0 hx hb hG hown hK hP dX9_emit_5 ?_
  refine lv_iload_n hx hb dX9_emit_8 rfl (lv_at hl 1 rfl) ?_
  refine stM_20 (mm := i_codes.toInt) hx hb hK hP hD hS rfl (ob_186 im6 hp1) (ob_187 im7 hp2) dX9_emit_9 (fun z4 H3 locs ez4 hP hD hS => ?_)
  refine lv_aload_n hx hb dX9_emit_10 rfl (lv_at hl 0 rfl) ?_
  refine gM_X9_76_0 hx hb hG hown hK hP dX9_emit_11 ?_
  refine lv_aload_n hx hb dX9_emit_14 rfl (lv_at hl 0 rfl) ?_
  refine gM_X9_243_0 hx hb hG hown hK hP dX9_emit_15 ?_
  refine lv_iload_n hx hb dX9_emit_18 rfl (lv_at hl 2 rfl) ?_
  refine stM_21 (mm := i_codes.toInt) hx hb hK hP hD hS rfl (ob_186 im6 hp1) (ob_187 im7 hp2) dX9_emit_19 (fun J6 H5 locs hP hD hS => ?_)
  refine lv_aload_n hx hb dX9_emit_20 rfl (lv_at hl 0 rfl) ?_
  refine lv_dup hx hb dX9_emit_21 rfl ?_
  refine gM_X9_243_0 hx hb hG hown hK hP dX9_emit_22 ?_
  refine lv_iconst (v := 1) hx hb dX9_emit_25 (by decide) ?_
  refine lv_iadd hx hb dX9_emit_26 ?_
  refine lv_topi (fun x7 ex7 => ?_)
  have f8 : x7.toInt = i_codes.toInt + 1 := (ob_84 (qi_add ex7 rfl zc_1 (ob_188 im6 hp1) (ob_189 im7 hp2)))
  refine pM_X9_243_0 hx hb hG hown hK hP hD hS dX9_emit_27 (fun H9 locs hP hD hS => ?_)
  rw [hQ]
  exact W.vret hx hb hr (fun t ht hW => ⟨⟨(), rfl, trivial, ⟨x7, z4, J6, by rw [ht]; exact hP, hD, ⟨im0, im1, im2, im3, im4, im5, im6, im7, im8, im9, im10, im11, im12, im13, im14, im15, im16, im17, im18, im19, im20, im21, im22, im23, im24, im25, im26, im27, im28, im29, im30, im31, (RU_code im32 ez4 (ob_186 im6 hp1) (ob_191 im4 im5 hp0) (ob_190 hp0 hp1 hp2))⟩, (ob_84 f8), ez4⟩⟩, hS.F ht⟩) hS.2.2 dX9_emit_30
set_option maxHeartbeats 4000000 in
set_option maxRecDepth 100000 in
theorem kX9_pushE (l : Launch) (dC : Nat → ClassId) (dI : Nat → Nat → Nat) (r : Nat → Nat) (ct : Nat → ClassId) (i_taped i_size i_faultKind i_at i_end i_token i_number i_bank i_rb i_codes i_within i_piled i_unitsInRule i_askHouse i_askTune i_acts i_undone i_laid i_knowns i_time : Int32) (f_text f_tunes f_houses f_hums f_told f_many f_ruleFrom f_ruleTo f_code f_eWhat f_eSign f_all f_kept f_was f_sTune f_boxAll : Nat → Int32) (J : Nat → Nat → Int32) (L : Nat → Nat → Int64) (p0 p1 : Int32) (sz : Nat) (hI : (IM i_taped i_size i_faultKind i_at i_end i_bank i_rb i_acts i_undone i_laid i_knowns i_time f_tunes f_houses f_hums f_told f_many f_ruleFrom f_ruleTo f_code f_all f_kept f_was f_sTune f_boxAll)) (hp0 : (0 : Int) ≤ i_piled.toInt) (hp1 : i_piled.toInt ≤ (89 : Int)) : Met l yX9_pushE (.code yX9_pushE cX9_pushE 3 none :: GW) { frames := 2, cells := 0, slots := 0, locals := 100 } (va_Pc [.ref (r 0), .int p0, .int p1] (pW (dC, dI) (WM r ct i_taped i_size i_faultKind i_at i_end i_token i_number i_bank i_rb i_codes i_within i_piled i_unitsInRule i_askHouse i_askTune i_acts i_undone i_laid i_knowns i_time f_text f_tunes f_houses f_hums f_told f_many f_ruleFrom f_ruleTo f_code f_eWhat f_eSign f_all f_kept f_was f_sTune f_boxAll J L) (TM ct) sz)) (va_Qv (fun _ : Unit => True) (fun (_ : Unit) (t : State) => ∃ (n_i_piled : Int32) (n_f_eWhat n_f_eSign : Nat → Int32), va_P (dC, dI) vwCl (WM r ct i_taped i_size i_faultKind i_at i_end i_token i_number i_bank i_rb i_codes i_within n_i_piled i_unitsInRule i_askHouse i_askTune i_acts i_undone i_laid i_knowns i_time f_text f_tunes f_houses f_hums f_told f_many f_ruleFrom f_ruleTo f_code n_f_eWhat n_f_eSign f_all f_kept f_was f_sTune f_boxAll J L) t.heap ∧ va_D (va_A (WM r ct i_taped i_size i_faultKind i_at i_end i_token i_number i_bank i_rb i_codes i_within i_piled i_unitsInRule i_askHouse i_askTune i_acts i_undone i_laid i_knowns i_time f_text f_tunes f_houses f_hums f_told f_many f_ruleFrom f_ruleTo f_code f_eWhat f_eSign f_all f_kept f_was f_sTune f_boxAll J L) sz) (WM r ct i_taped i_size i_faultKind i_at i_end i_token i_number i_bank i_rb i_codes i_within n_i_piled i_unitsInRule i_askHouse i_askTune i_acts i_undone i_laid i_knowns i_time f_text f_tunes f_houses f_hums f_told f_many f_ruleFrom f_ruleTo f_code n_f_eWhat n_f_eSign f_all f_kept f_was f_sTune f_boxAll J L) ∧ (IM i_taped i_size i_faultKind i_at i_end i_bank i_rb i_acts i_undone i_laid i_knowns i_time f_tunes f_houses f_hums f_told f_many f_ruleFrom f_ruleTo f_code f_all f_kept f_was f_sTune f_boxAll) ∧ (n_i_piled.toInt = i_piled.toInt + 1) ∧ (n_f_eWhat = upd f_eWhat (i_piled.toInt).toNat p0) ∧ (n_f_eSign = upd f_eSign (i_piled.toInt).toNat p1)) (va_A (WM r ct i_taped i_size i_faultKind i_at i_end i_token i_number i_bank i_rb i_codes i_within i_piled i_unitsInRule i_askHouse i_askTune i_acts i_undone i_laid i_knowns i_time f_text f_tunes f_houses f_hums f_told f_many f_ruleFrom f_ruleTo f_code f_eWhat f_eSign f_all f_kept f_was f_sTune f_boxAll J L) sz)) 0 0 (va_A (WM r ct i_taped i_size i_faultKind i_at i_end i_token i_number i_bank i_rb i_codes i_within i_piled i_unitsInRule i_askHouse i_askTune i_acts i_undone i_laid i_knowns i_time f_text f_tunes f_houses f_hums f_told f_many f_ruleFrom f_ruleTo f_code f_eWhat f_eSign f_all f_kept f_was f_sTune f_boxAll J L) sz) := by
  refine Met.ofW (cc := cX9_pushE) (maxL := 3) (ret := none) (by decide) rfl ?_
  intro p e s m args below meth c0 s₁ B hml hv
  obtain ⟨rfl, hsz, hP, hK, hD0⟩ := hv
  have hx := B.exec
  have hb := B.bytes
  have hr := B.returns
  have hts := atoms_spec (ws := .code yX9_pushE cX9_pushE 3 none :: GW) B.pre
  have hG : ∀ w ∈ GW, w.before _ s = true := fun w h => hts w (List.mem_cons_of_mem _ h)
  have hown : s.vm.findClass RX9 = some m.cls := findClass_of_methodNamed B.named
  subst hsz
  have hD := hD0.self (sz := s.heap.size)
  generalize hAe : va_A (WM r ct i_taped i_size i_faultKind i_at i_end i_token i_number i_bank i_rb i_codes i_within i_piled i_unitsInRule i_askHouse i_askTune i_acts i_undone i_laid i_knowns i_time f_text f_tunes f_houses f_hums f_told f_many f_ruleFrom f_ruleTo f_code f_eWhat f_eSign f_all f_kept f_was f_sTune f_boxAll J L) s.heap.size = A at hD ⊢
  have hA : ∀ q : Nat, s.heap.size ≤ q → A q := fun q h => by rw [← hAe]; exact Or.inr h
  have hS : va_S A s.heap s.heap [] := va_S.rf
  have hP : va_P (dC, dI) vwCl (WM r ct i_taped i_size i_faultKind i_at i_end i_token i_number i_bank i_rb i_codes i_within i_piled i_unitsInRule i_askHouse i_askTune i_acts i_undone i_laid i_knowns i_time f_text f_tunes f_houses f_hums f_told f_many f_ruleFrom f_ruleTo f_code f_eWhat f_eSign f_all f_kept f_was f_sTune f_boxAll J L) s.heap := hP
  have hl := lv_entry ([.ref (r 0), .int p0, .int p1]) (n := 3) (Nat.le_of_ble_eq_true rfl)
  rw [lg_entry_eq]
  generalize (lg_sl ([.ref (r 0), .int p0, .int p1]) ++ List.replicate (3 - (lg_sl ([.ref (r 0), .int p0, .int p1])).length) Slot.unset).toArray = ls at hl ⊢
  have hl : lv_has ls 3 [(0, .ref (r 0)), (1, .int p0), (2, .int p1)] := hl
  refine nameQ (fun Q hQ => ?_)
  obtain ⟨im0, im1, im2, im3, im4, im5, im6, im7, im8, im9, im10, im11, im12, im13, im14, im15, im16, im17, im18, im19, im20, im21, im22, im23, im24, im25, im26, im27, im28, im29, im30, im31, im32⟩ := id hI
  have f1 : 0 ≤ (f_tunes (i_bank.toInt).toNat).toInt ∧ (f_tunes (i_bank.toInt).toNat).toInt ≤ 5 := im21 (i_bank.toInt)
  have f2 : 0 ≤ (f_houses (i_bank.toInt).toNat).toInt ∧ (f_houses (i_bank.toInt).toNat).toInt ≤ 4 := im22 (i_bank.toInt)
  refine lv_aload_n hx hb dX9_pushE_0 rfl (lv_at hl 0 rfl) ?_
  refine gM_X9_79_0 hx hb hG hown hK hP dX9_pushE_1 ?_
  refine lv_aload_n hx hb dX9_pushE_4 rfl (lv_at hl 0 rfl) ?_
  refine gM_X9_296_0 hx hb hG hown hK hP dX9_pushE_5 ?_
  refine lv_iload_n hx hb dX9_pushE_8 rfl (lv_at hl 1 rfl) ?_
  refine stM_22 (mm := i_piled.toInt) hx hb hK hP hD hS rfl (ob_192 hp0 hp1) (ob_193 hp0 hp1) dX9_pushE_9 (fun z4 H3 locs ez4 hP hD hS => ?_)
  refine lv_aload_n hx hb dX9_pushE_10 rfl (lv_at hl 0 rfl) ?_
  refine gM_X9_82_0 hx hb hG hown hK hP dX9_pushE_11 ?_
  refine lv_aload_n hx hb dX9_pushE_14 rfl (lv_at hl 0 rfl) ?_
  refine gM_X9_296_0 hx hb hG hown hK hP dX9_pushE_15 ?_
  refine lv_iload_n hx hb dX9_pushE_18 rfl (lv_at hl 2 rfl) ?_
  refine stM_23 (mm := i_piled.toInt) hx hb hK hP hD hS rfl (ob_192 hp0 hp1) (ob_193 hp0 hp1) dX9_pushE_19 (fun z6 H5 locs ez6 hP hD hS => ?_)
  refine lv_aload_n hx hb dX9_pushE_20 rfl (lv_at hl 0 rfl) ?_
  refine lv_dup hx hb dX9_pushE_21 rfl ?_
  refine gM_X9_296_0 hx hb hG hown hK hP dX9_pushE_22 ?_
  refine lv_iconst (v := 1) hx hb dX9_pushE_25 (by decide) ?_
  refine lv_iadd hx hb dX9_pushE_26 ?_
  refine lv_topi (fun x7 ex7 => ?_)
  have f8 : x7.toInt = i_piled.toInt + 1 := (ob_84 (qi_add ex7 rfl zc_1 (ob_194 hp0 hp1) (ob_195 hp0 hp1)))
  refine pM_X9_296_0 hx hb hG hown hK hP hD hS dX9_pushE_27 (fun H9 locs hP hD hS => ?_)
  rw [hQ]
  exact W.vret hx hb hr (fun t ht hW => ⟨⟨(), rfl, trivial, ⟨x7, z4, z6, by rw [ht]; exact hP, hD, hI, (ob_84 f8), ez4, ez6⟩⟩, hS.F ht⟩) hS.2.2 dX9_pushE_30
set_option maxHeartbeats 4000000 in
set_option maxRecDepth 100000 in
theorem kX9_wordHere (l : Launch) (dC : Nat → ClassId) (dI : Nat → Nat → Nat) (r : Nat → Nat) (ct : Nat → ClassId) (i_taped i_size i_faultKind i_at i_end i_token i_number i_bank i_rb i_codes i_within i_piled i_unitsInRule i_askHouse i_askTune i_acts i_undone i_laid i_knowns i_time : Int32) (f_text f_tunes f_houses f_hums f_told f_many f_ruleFrom f_ruleTo f_code f_eWhat f_eSign f_all f_kept f_was f_sTune f_boxAll : Nat → Int32) (J : Nat → Nat → Int32) (L : Nat → Nat → Int64) (sz : Nat) (hI : (IM i_taped i_size i_faultKind i_at i_end i_bank i_rb i_acts i_undone i_laid i_knowns i_time f_tunes f_houses f_hums f_told f_many f_ruleFrom f_ruleTo f_code f_all f_kept f_was f_sTune f_boxAll)) : Met l yX9_wordHere (.code yX9_wordHere cX9_wordHere 1 (some .int) :: GW) { frames := 4, cells := 0, slots := 0, locals := 162 } (va_Pc [.ref (r 0)] (pR (dC, dI) (WM r ct i_taped i_size i_faultKind i_at i_end i_token i_number i_bank i_rb i_codes i_within i_piled i_unitsInRule i_askHouse i_askTune i_acts i_undone i_laid i_knowns i_time f_text f_tunes f_houses f_hums f_told f_many f_ruleFrom f_ruleTo f_code f_eWhat f_eSign f_all f_kept f_was f_sTune f_boxAll J L) (TM ct) sz)) (va_Qi (fun (r0 : Int32) (u : Int32) => r0 = u) (fun (u : Int32) (t : State) => ((u.toInt = (0 : Int)) ∨ (((97 : Int) ≤ u.toInt) ∧ (u.toInt ≤ (122 : Int)) ∧ (i_token.toInt = (3 : Int))))) (fun q => sz ≤ q)) 0 0 (fun q => sz ≤ q) := by
  refine Met.ofW (cc := cX9_wordHere) (maxL := 1) (ret := (some .int)) (by decide) rfl ?_
  intro p e s m args below meth c0 s₁ B hml hv
  obtain ⟨rfl, hsz, hP, hK⟩ := hv
  have hx := B.exec
  have hb := B.bytes
  have hr := B.returns
  have hts := atoms_spec (ws := .code yX9_wordHere cX9_wordHere 1 (some .int) :: GW) B.pre
  have hG : ∀ w ∈ GW, w.before _ s = true := fun w h => hts w (List.mem_cons_of_mem _ h)
  have hown : s.vm.findClass RX9 = some m.cls := findClass_of_methodNamed B.named
  subst hsz
  have hS : va_S (fun q => s.heap.size ≤ q) s.heap s.heap [] := va_S.rf
  have hP : va_P (dC, dI) vwCl (WM r ct i_taped i_size i_faultKind i_at i_end i_token i_number i_bank i_rb i_codes i_within i_piled i_unitsInRule i_askHouse i_askTune i_acts i_undone i_laid i_knowns i_time f_text f_tunes f_houses f_hums f_told f_many f_ruleFrom f_ruleTo f_code f_eWhat f_eSign f_all f_kept f_was f_sTune f_boxAll J L) s.heap := hP
  have hl := lv_entry ([.ref (r 0)]) (n := 1) (Nat.le_of_ble_eq_true rfl)
  rw [lg_entry_eq]
  generalize (lg_sl ([.ref (r 0)]) ++ List.replicate (1 - (lg_sl ([.ref (r 0)])).length) Slot.unset).toArray = ls at hl ⊢
  have hl : lv_has ls 1 [(0, .ref (r 0))] := hl
  refine nameQ (fun Q hQ => ?_)
  obtain ⟨im0, im1, im2, im3, im4, im5, im6, im7, im8, im9, im10, im11, im12, im13, im14, im15, im16, im17, im18, im19, im20, im21, im22, im23, im24, im25, im26, im27, im28, im29, im30, im31, im32⟩ := id hI
  have f1 : 0 ≤ (f_tunes (i_bank.toInt).toNat).toInt ∧ (f_tunes (i_bank.toInt).toNat).toInt ≤ 5 := im21 (i_bank.toInt)
  have f2 : 0 ≤ (f_houses (i_bank.toInt).toNat).toInt ∧ (f_houses (i_bank.toInt).toNat).toInt ≤ 4 := im22 (i_bank.toInt)
  refine lv_aload_n hx hb dX9_wordHere_0 rfl (lv_at hl 0 rfl) ?_
  refine lv_ldc2 (v := 1935764837) hx hb hown (hG _ gw1387) dX9_wordHere_1 ?_
  refine va_calli (va_runV (As := [.long (1935764837 : Int64)]) (rest := []) ⟨hx, hb, hml, hown, hG⟩ (kX9_isWord l dC dI r ct i_taped i_size i_faultKind i_at i_end i_token i_number i_bank i_rb i_codes i_within i_piled i_unitsInRule i_askHouse i_askTune i_acts i_undone i_laid i_knowns i_time f_text f_tunes f_houses f_hums f_told f_many f_ruleFrom f_ruleTo f_code f_eWhat f_eSign f_all f_kept f_was f_sTune f_boxAll J L (1935764837 : Int64) s.heap.size hI) (cwV 1 hG (goodV gw1413 gw1415 gw64 gw138 gw1416) rfl rfl rfl hd_X9_isWord ⟨(Nat.le_of_ble_eq_true rfl), (Nat.le_of_ble_eq_true rfl)⟩) ⟨fbR, va_recv hK hP (ci := 8) (q0 := 0) rfl rfl, pR_in hP hK⟩ rfl rfl hl.1 rfl (lv_room (Nat.le_of_ble_eq_true rfl)) dX9_wordHere_4 ⟨(Nat.le_of_ble_eq_true rfl), (Nat.le_of_ble_eq_true rfl)⟩) hS (fun q hq h => absurd hq (Nat.not_lt.mpr h)) (fun q h => Nat.le_trans hS.1 h) (fun r_4 u_ t_ H3 locs ht hvm hw hB hz1 hk1 hS => ?_)
  subst hw
  have hP := wk hP hk1
  obtain ⟨f5, f6, f7⟩ := hB
  refine lv_if_eq (tgt := 13) hx hb dX9_wordHere_7 (by decide) (fun c_8 => ?_) (fun c_8 => ?_)
  · skip
    have f9 : r_4.toInt = 0 := qi_eq c_8 rfl zc_0
    refine lv_aload_n hx hb dX9_wordHere_13 rfl (lv_at hl 0 rfl) ?_
    refine lv_ldc2 (v := 1953854062) hx hb hown (hG _ gw1388) dX9_wordHere_14 ?_
    refine va_calli (va_runV (As := [.long (1953854062 : Int64)]) (rest := []) ⟨hx, hb, hml, hown, hG⟩ (kX9_isWord l dC dI r ct i_taped i_size i_faultKind i_at i_end i_token i_number i_bank i_rb i_codes i_within i_piled i_unitsInRule i_askHouse i_askTune i_acts i_undone i_laid i_knowns i_time f_text f_tunes f_houses f_hums f_told f_many f_ruleFrom f_ruleTo f_code f_eWhat f_eSign f_all f_kept f_was f_sTune f_boxAll J L (1953854062 : Int64) H3.size hI) (cwV 1 hG (goodV gw1413 gw1415 gw64 gw138 gw1416) rfl rfl rfl hd_X9_isWord ⟨(Nat.le_of_ble_eq_true rfl), (Nat.le_of_ble_eq_true rfl)⟩) ⟨fbR, va_recv hK hP (ci := 8) (q0 := 0) rfl rfl, pR_in hP hK⟩ rfl rfl hl.1 rfl (lv_room (Nat.le_of_ble_eq_true rfl)) dX9_wordHere_17 ⟨(Nat.le_of_ble_eq_true rfl), (Nat.le_of_ble_eq_true rfl)⟩) hS (fun q hq h => absurd hq (Nat.not_lt.mpr h)) (fun q h => Nat.le_trans hS.1 h) (fun r_11 u_ t_ H10 locs ht hvm hw hB hz1 hk1 hS => ?_)
    subst hw
    have hP := wk hP hk1
    obtain ⟨f12, f13, f14⟩ := hB
    refine lv_if_eq (tgt := 26) hx hb dX9_wordHere_20 (by decide) (fun c_15 => ?_) (fun c_15 => ?_)
    · skip
      have f16 : r_11.toInt = 0 := qi_eq c_15 rfl zc_0
      refine lv_aload_n hx hb dX9_wordHere_26 rfl (lv_at hl 0 rfl) ?_
      refine lv_ldc2 (v := 1819242087) hx hb hown (hG _ gw1389) dX9_wordHere_27 ?_
      refine va_calli (va_runV (As := [.long (1819242087 : Int64)]) (rest := []) ⟨hx, hb, hml, hown, hG⟩ (kX9_isWord l dC dI r ct i_taped i_size i_faultKind i_at i_end i_token i_number i_bank i_rb i_codes i_within i_piled i_unitsInRule i_askHouse i_askTune i_acts i_undone i_laid i_knowns i_time f_text f_tunes f_houses f_hums f_told f_many f_ruleFrom f_ruleTo f_code f_eWhat f_eSign f_all f_kept f_was f_sTune f_boxAll J L (1819242087 : Int64) H10.size hI) (cwV 1 hG (goodV gw1413 gw1415 gw64 gw138 gw1416) rfl rfl rfl hd_X9_isWord ⟨(Nat.le_of_ble_eq_true rfl), (Nat.le_of_ble_eq_true rfl)⟩) ⟨fbR, va_recv hK hP (ci := 8) (q0 := 0) rfl rfl, pR_in hP hK⟩ rfl rfl hl.1 rfl (lv_room (Nat.le_of_ble_eq_true rfl)) dX9_wordHere_30 ⟨(Nat.le_of_ble_eq_true rfl), (Nat.le_of_ble_eq_true rfl)⟩) hS (fun q hq h => absurd hq (Nat.not_lt.mpr h)) (fun q h => Nat.le_trans hS.1 h) (fun r_18 u_ t_ H17 locs ht hvm hw hB hz1 hk1 hS => ?_)
      subst hw
      have hP := wk hP hk1
      obtain ⟨f19, f20, f21⟩ := hB
      refine lv_if_eq (tgt := 39) hx hb dX9_wordHere_33 (by decide) (fun c_22 => ?_) (fun c_22 => ?_)
      · skip
        have f23 : r_18.toInt = 0 := qi_eq c_22 rfl zc_0
        refine lv_aload_n hx hb dX9_wordHere_39 rfl (lv_at hl 0 rfl) ?_
        refine lv_ldc2 (v := 2003792494) hx hb hown (hG _ gw1390) dX9_wordHere_40 ?_
        refine va_calli (va_runV (As := [.long (2003792494 : Int64)]) (rest := []) ⟨hx, hb, hml, hown, hG⟩ (kX9_isWord l dC dI r ct i_taped i_size i_faultKind i_at i_end i_token i_number i_bank i_rb i_codes i_within i_piled i_unitsInRule i_askHouse i_askTune i_acts i_undone i_laid i_knowns i_time f_text f_tunes f_houses f_hums f_told f_many f_ruleFrom f_ruleTo f_code f_eWhat f_eSign f_all f_kept f_was f_sTune f_boxAll J L (2003792494 : Int64) H17.size hI) (cwV 1 hG (goodV gw1413 gw1415 gw64 gw138 gw1416) rfl rfl rfl hd_X9_isWord ⟨(Nat.le_of_ble_eq_true rfl), (Nat.le_of_ble_eq_true rfl)⟩) ⟨fbR, va_recv hK hP (ci := 8) (q0 := 0) rfl rfl, pR_in hP hK⟩ rfl rfl hl.1 rfl (lv_room (Nat.le_of_ble_eq_true rfl)) dX9_wordHere_43 ⟨(Nat.le_of_ble_eq_true rfl), (Nat.le_of_ble_eq_true rfl)⟩) hS (fun q hq h => absurd hq (Nat.not_lt.mpr h)) (fun q h => Nat.le_trans hS.1 h) (fun r_25 u_ t_ H24 locs ht hvm hw hB hz1 hk1 hS => ?_)
        subst hw
        have hP := wk hP hk1
        obtain ⟨f26, f27, f28⟩ := hB
        refine lv_if_eq (tgt := 52) hx hb dX9_wordHere_46 (by decide) (fun c_29 => ?_) (fun c_29 => ?_)
        · skip
          have f30 : r_25.toInt = 0 := qi_eq c_29 rfl zc_0
          refine lv_aload_n hx hb dX9_wordHere_52 rfl (lv_at hl 0 rfl) ?_
          refine lv_ldc2 (v := 512802253683) hx hb hown (hG _ gw1391) dX9_wordHere_53 ?_
          refine va_calli (va_runV (As := [.long (512802253683 : Int64)]) (rest := []) ⟨hx, hb, hml, hown, hG⟩ (kX9_isWord l dC dI r ct i_taped i_size i_faultKind i_at i_end i_token i_number i_bank i_rb i_codes i_within i_piled i_unitsInRule i_askHouse i_askTune i_acts i_undone i_laid i_knowns i_time f_text f_tunes f_houses f_hums f_told f_many f_ruleFrom f_ruleTo f_code f_eWhat f_eSign f_all f_kept f_was f_sTune f_boxAll J L (512802253683 : Int64) H24.size hI) (cwV 1 hG (goodV gw1413 gw1415 gw64 gw138 gw1416) rfl rfl rfl hd_X9_isWord ⟨(Nat.le_of_ble_eq_true rfl), (Nat.le_of_ble_eq_true rfl)⟩) ⟨fbR, va_recv hK hP (ci := 8) (q0 := 0) rfl rfl, pR_in hP hK⟩ rfl rfl hl.1 rfl (lv_room (Nat.le_of_ble_eq_true rfl)) dX9_wordHere_56 ⟨(Nat.le_of_ble_eq_true rfl), (Nat.le_of_ble_eq_true rfl)⟩) hS (fun q hq h => absurd hq (Nat.not_lt.mpr h)) (fun q h => Nat.le_trans hS.1 h) (fun r_32 u_ t_ H31 locs ht hvm hw hB hz1 hk1 hS => ?_)
          subst hw
          have hP := wk hP hk1
          obtain ⟨f33, f34, f35⟩ := hB
          refine lv_if_eq (tgt := 65) hx hb dX9_wordHere_59 (by decide) (fun c_36 => ?_) (fun c_36 => ?_)
          · skip
            have f37 : r_32.toInt = 0 := qi_eq c_36 rfl zc_0
            refine lv_aload_n hx hb dX9_wordHere_65 rfl (lv_at hl 0 rfl) ?_
            refine lv_ldc2 (v := 482955846501) hx hb hown (hG _ gw1378) dX9_wordHere_66 ?_
            refine va_calli (va_runV (As := [.long (482955846501 : Int64)]) (rest := []) ⟨hx, hb, hml, hown, hG⟩ (kX9_isWord l dC dI r ct i_taped i_size i_faultKind i_at i_end i_token i_number i_bank i_rb i_codes i_within i_piled i_unitsInRule i_askHouse i_askTune i_acts i_undone i_laid i_knowns i_time f_text f_tunes f_houses f_hums f_told f_many f_ruleFrom f_ruleTo f_code f_eWhat f_eSign f_all f_kept f_was f_sTune f_boxAll J L (482955846501 : Int64) H31.size hI) (cwV 1 hG (goodV gw1413 gw1415 gw64 gw138 gw1416) rfl rfl rfl hd_X9_isWord ⟨(Nat.le_of_ble_eq_true rfl), (Nat.le_of_ble_eq_true rfl)⟩) ⟨fbR, va_recv hK hP (ci := 8) (q0 := 0) rfl rfl, pR_in hP hK⟩ rfl rfl hl.1 rfl (lv_room (Nat.le_of_ble_eq_true rfl)) dX9_wordHere_69 ⟨(Nat.le_of_ble_eq_true rfl), (Nat.le_of_ble_eq_true rfl)⟩) hS (fun q hq h => absurd hq (Nat.not_lt.mpr h)) (fun q h => Nat.le_trans hS.1 h) (fun r_39 u_ t_ H38 locs ht hvm hw hB hz1 hk1 hS => ?_)
            subst hw
            have hP := wk hP hk1
            obtain ⟨f40, f41, f42⟩ := hB
            refine lv_if_eq (tgt := 78) hx hb dX9_wordHere_72 (by decide) (fun c_43 => ?_) (fun c_43 => ?_)
            · skip
              have f44 : r_39.toInt = 0 := qi_eq c_43 rfl zc_0
              refine lv_aload_n hx hb dX9_wordHere_78 rfl (lv_at hl 0 rfl) ?_
              refine lv_ldc2 (v := 483006772069) hx hb hown (hG _ gw1382) dX9_wordHere_79 ?_
              refine va_calli (va_runV (As := [.long (483006772069 : Int64)]) (rest := []) ⟨hx, hb, hml, hown, hG⟩ (kX9_isWord l dC dI r ct i_taped i_size i_faultKind i_at i_end i_token i_number i_bank i_rb i_codes i_within i_piled i_unitsInRule i_askHouse i_askTune i_acts i_undone i_laid i_knowns i_time f_text f_tunes f_houses f_hums f_told f_many f_ruleFrom f_ruleTo f_code f_eWhat f_eSign f_all f_kept f_was f_sTune f_boxAll J L (483006772069 : Int64) H38.size hI) (cwV 1 hG (goodV gw1413 gw1415 gw64 gw138 gw1416) rfl rfl rfl hd_X9_isWord ⟨(Nat.le_of_ble_eq_true rfl), (Nat.le_of_ble_eq_true rfl)⟩) ⟨fbR, va_recv hK hP (ci := 8) (q0 := 0) rfl rfl, pR_in hP hK⟩ rfl rfl hl.1 rfl (lv_room (Nat.le_of_ble_eq_true rfl)) dX9_wordHere_82 ⟨(Nat.le_of_ble_eq_true rfl), (Nat.le_of_ble_eq_true rfl)⟩) hS (fun q hq h => absurd hq (Nat.not_lt.mpr h)) (fun q h => Nat.le_trans hS.1 h) (fun r_46 u_ t_ H45 locs ht hvm hw hB hz1 hk1 hS => ?_)
              subst hw
              have hP := wk hP hk1
              obtain ⟨f47, f48, f49⟩ := hB
              refine lv_if_eq (tgt := 93) hx hb dX9_wordHere_85 (by decide) (fun c_50 => ?_) (fun c_50 => ?_)
              · skip
                have f51 : r_46.toInt = 0 := qi_eq c_50 rfl zc_0
                refine lv_iconst (v := 0) hx hb dX9_wordHere_93 (by decide) ?_
                rw [hQ]
                exact W.iret (v := 0) hx hb hr (fun t ht hW => ⟨⟨0, 0, rfl, rfl, (ob_196 zc_0)⟩, hS.F ht⟩) hS.2.2 dX9_wordHere_94
              · skip
                have f52 : r_46.toInt ≠ 0 := qi_ne c_50 rfl zc_0
                have f53 : (1 : Int) ≤ r_46.toInt := (ob_197 f47 f52)
                have f54 : i_token.toInt = (3 : Int) := (ob_198 f47 f52)
                have f55 : r_46.toInt = (1 : Int) := (ob_104 f48 f49 f53)
                refine lv_bipush (v := 117) hx hb dX9_wordHere_88 (by decide) ?_
                refine lv_goto (tgt := 94) hx hb dX9_wordHere_90 (by decide) ?_
                rw [hQ]
                exact W.iret (v := 117) hx hb hr (fun t ht hW => ⟨⟨117, 117, rfl, rfl, (ob_199 f54 zc_117)⟩, hS.F ht⟩) hS.2.2 dX9_wordHere_94
            · skip
              have f56 : r_39.toInt ≠ 0 := qi_ne c_43 rfl zc_0
              have f57 : (1 : Int) ≤ r_39.toInt := (ob_197 f40 f56)
              have f58 : i_token.toInt = (3 : Int) := (ob_198 f40 f56)
              have f59 : r_39.toInt = (1 : Int) := (ob_104 f41 f42 f57)
              refine lv_bipush (v := 112) hx hb dX9_wordHere_75 (by decide) ?_
              rw [hQ]
              exact W.iret (v := 112) hx hb hr (fun t ht hW => ⟨⟨112, 112, rfl, rfl, (ob_200 f58 zc_112)⟩, hS.F ht⟩) hS.2.2 dX9_wordHere_77
          · skip
            have f60 : r_32.toInt ≠ 0 := qi_ne c_36 rfl zc_0
            have f61 : (1 : Int) ≤ r_32.toInt := (ob_197 f33 f60)
            have f62 : i_token.toInt = (3 : Int) := (ob_198 f33 f60)
            have f63 : r_32.toInt = (1 : Int) := (ob_104 f34 f35 f61)
            refine lv_bipush (v := 119) hx hb dX9_wordHere_62 (by decide) ?_
            rw [hQ]
            exact W.iret (v := 119) hx hb hr (fun t ht hW => ⟨⟨119, 119, rfl, rfl, (ob_201 f62 zc_119)⟩, hS.F ht⟩) hS.2.2 dX9_wordHere_64
        · skip
          have f64 : r_25.toInt ≠ 0 := qi_ne c_29 rfl zc_0
          have f65 : (1 : Int) ≤ r_25.toInt := (ob_197 f26 f64)
          have f66 : i_token.toInt = (3 : Int) := (ob_198 f26 f64)
          have f67 : r_25.toInt = (1 : Int) := (ob_104 f27 f28 f65)
          refine lv_bipush (v := 111) hx hb dX9_wordHere_49 (by decide) ?_
          rw [hQ]
          exact W.iret (v := 111) hx hb hr (fun t ht hW => ⟨⟨111, 111, rfl, rfl, (ob_202 f66 zc_111)⟩, hS.F ht⟩) hS.2.2 dX9_wordHere_51
      · skip
        have f68 : r_18.toInt ≠ 0 := qi_ne c_22 rfl zc_0
        have f69 : (1 : Int) ≤ r_18.toInt := (ob_197 f19 f68)
        have f70 : i_token.toInt = (3 : Int) := (ob_198 f19 f68)
        have f71 : r_18.toInt = (1 : Int) := (ob_104 f20 f21 f69)
        refine lv_bipush (v := 108) hx hb dX9_wordHere_36 (by decide) ?_
        rw [hQ]
        exact W.iret (v := 108) hx hb hr (fun t ht hW => ⟨⟨108, 108, rfl, rfl, (ob_203 f70 zc_108)⟩, hS.F ht⟩) hS.2.2 dX9_wordHere_38
    · skip
      have f72 : r_11.toInt ≠ 0 := qi_ne c_15 rfl zc_0
      have f73 : (1 : Int) ≤ r_11.toInt := (ob_197 f12 f72)
      have f74 : i_token.toInt = (3 : Int) := (ob_198 f12 f72)
      have f75 : r_11.toInt = (1 : Int) := (ob_104 f13 f14 f73)
      refine lv_bipush (v := 116) hx hb dX9_wordHere_23 (by decide) ?_
      rw [hQ]
      exact W.iret (v := 116) hx hb hr (fun t ht hW => ⟨⟨116, 116, rfl, rfl, (ob_204 f74 zc_116)⟩, hS.F ht⟩) hS.2.2 dX9_wordHere_25
  · skip
    have f76 : r_4.toInt ≠ 0 := qi_ne c_8 rfl zc_0
    have f77 : (1 : Int) ≤ r_4.toInt := (ob_197 f5 f76)
    have f78 : i_token.toInt = (3 : Int) := (ob_198 f5 f76)
    have f79 : r_4.toInt = (1 : Int) := (ob_104 f6 f7 f77)
    refine lv_bipush (v := 115) hx hb dX9_wordHere_10 (by decide) ?_
    rw [hQ]
    exact W.iret (v := 115) hx hb hr (fun t ht hW => ⟨⟨115, 115, rfl, rfl, (ob_205 f78 zc_115)⟩, hS.F ht⟩) hS.2.2 dX9_wordHere_12
