set_option maxHeartbeats 4000000 in
set_option maxRecDepth 100000 in
theorem kX9_must (l : Launch) (dC : Nat → ClassId) (dI : Nat → Nat → Nat) (r : Nat → Nat) (ct : Nat → ClassId) (i_taped i_size i_faultKind i_at i_end i_token i_number i_bank i_rb i_codes i_within i_piled i_unitsInRule i_askHouse i_askTune i_acts i_undone i_laid i_knowns i_time : Int32) (f_text f_tunes f_houses f_hums f_told f_many f_ruleFrom f_ruleTo f_code f_eWhat f_eSign f_all f_kept f_was f_sTune f_boxAll : Nat → Int32) (J : Nat → Nat → Int32) (L : Nat → Nat → Int64) (p0 : Int32) (sz : Nat) (hI : (IM i_taped i_size i_faultKind i_at i_end i_bank i_rb i_acts i_undone i_laid i_knowns i_time f_tunes f_houses f_hums f_told f_many f_ruleFrom f_ruleTo f_code f_all f_kept f_was f_sTune f_boxAll)) (hz_p0 : 0 ≤ p0.toInt ∧ p0.toInt ≤ 1) : Met l yX9_must (.code yX9_must cX9_must 2 none :: GW) { frames := 6, cells := 0, slots := 0, locals := 224 } (va_Pc [.ref (r 0), .int p0] (pW (dC, dI) (WM r ct i_taped i_size i_faultKind i_at i_end i_token i_number i_bank i_rb i_codes i_within i_piled i_unitsInRule i_askHouse i_askTune i_acts i_undone i_laid i_knowns i_time f_text f_tunes f_houses f_hums f_told f_many f_ruleFrom f_ruleTo f_code f_eWhat f_eSign f_all f_kept f_was f_sTune f_boxAll J L) (TM ct) sz)) (va_Qv (fun _ : Unit => True) (fun (_ : Unit) (t : State) => ∃ (n_i_faultKind n_i_at n_i_end n_i_token n_i_number : Int32) (n_J : Nat → Nat → Int32) (n_L : Nat → Nat → Int64), va_P (dC, dI) vwCl (WM r ct i_taped i_size n_i_faultKind n_i_at n_i_end n_i_token n_i_number i_bank i_rb i_codes i_within i_piled i_unitsInRule i_askHouse i_askTune i_acts i_undone i_laid i_knowns i_time f_text f_tunes f_houses f_hums f_told f_many f_ruleFrom f_ruleTo f_code f_eWhat f_eSign f_all f_kept f_was f_sTune f_boxAll n_J n_L) t.heap ∧ va_D (va_A (WM r ct i_taped i_size i_faultKind i_at i_end i_token i_number i_bank i_rb i_codes i_within i_piled i_unitsInRule i_askHouse i_askTune i_acts i_undone i_laid i_knowns i_time f_text f_tunes f_houses f_hums f_told f_many f_ruleFrom f_ruleTo f_code f_eWhat f_eSign f_all f_kept f_was f_sTune f_boxAll J L) sz) (WM r ct i_taped i_size n_i_faultKind n_i_at n_i_end n_i_token n_i_number i_bank i_rb i_codes i_within i_piled i_unitsInRule i_askHouse i_askTune i_acts i_undone i_laid i_knowns i_time f_text f_tunes f_houses f_hums f_told f_many f_ruleFrom f_ruleTo f_code f_eWhat f_eSign f_all f_kept f_was f_sTune f_boxAll n_J n_L) ∧ (IM i_taped i_size n_i_faultKind n_i_at n_i_end i_bank i_rb i_acts i_undone i_laid i_knowns i_time f_tunes f_houses f_hums f_told f_many f_ruleFrom f_ruleTo f_code f_all f_kept f_was f_sTune f_boxAll) ∧ (i_end.toInt ≤ n_i_end.toInt) ∧ ((1 ≤ n_i_faultKind.toInt) ∨ ((n_i_faultKind.toInt = 0) ∧ (i_faultKind.toInt = 0) ∧ ((n_i_token.toInt = 0) ∨ (i_end.toInt + 1 ≤ n_i_end.toInt))))) (va_A (WM r ct i_taped i_size i_faultKind i_at i_end i_token i_number i_bank i_rb i_codes i_within i_piled i_unitsInRule i_askHouse i_askTune i_acts i_undone i_laid i_knowns i_time f_text f_tunes f_houses f_hums f_told f_many f_ruleFrom f_ruleTo f_code f_eWhat f_eSign f_all f_kept f_was f_sTune f_boxAll J L) sz)) 0 0 (va_A (WM r ct i_taped i_size i_faultKind i_at i_end i_token i_number i_bank i_rb i_codes i_within i_piled i_unitsInRule i_askHouse i_askTune i_acts i_undone i_laid i_knowns i_time f_text f_tunes f_houses f_hums f_told f_many f_ruleFrom f_ruleTo f_code f_eWhat f_eSign f_all f_kept f_was f_sTune f_boxAll J L) sz) := by
  refine Met.ofW (cc := cX9_must) (maxL := 2) (ret := none) (by decide) rfl ?_
  intro p e s m args below meth c0 s₁ B hml hv
  obtain ⟨rfl, hsz, hP, hK, hD0⟩ := hv
  have hx := B.exec
  have hb := B.bytes
  have hr := B.returns
  have hts := atoms_spec (ws := .code yX9_must cX9_must 2 none :: GW) B.pre
  have hG : ∀ w ∈ GW, w.before _ s = true := fun w h => hts w (List.mem_cons_of_mem _ h)
  have hown : s.vm.findClass RX9 = some m.cls := findClass_of_methodNamed B.named
  subst hsz
  have hD := hD0.self (sz := s.heap.size)
  generalize hAe : va_A (WM r ct i_taped i_size i_faultKind i_at i_end i_token i_number i_bank i_rb i_codes i_within i_piled i_unitsInRule i_askHouse i_askTune i_acts i_undone i_laid i_knowns i_time f_text f_tunes f_houses f_hums f_told f_many f_ruleFrom f_ruleTo f_code f_eWhat f_eSign f_all f_kept f_was f_sTune f_boxAll J L) s.heap.size = A at hD ⊢
  have hA : ∀ q : Nat, s.heap.size ≤ q → A q := fun q h => by rw [← hAe]; exact Or.inr h
  have hS : va_S A s.heap s.heap [] := va_S.rf
  have hP : va_P (dC, dI) vwCl (WM r ct i_taped i_size i_faultKind i_at i_end i_token i_number i_bank i_rb i_codes i_within i_piled i_unitsInRule i_askHouse i_askTune i_acts i_undone i_laid i_knowns i_time f_text f_tunes f_houses f_hums f_told f_many f_ruleFrom f_ruleTo f_code f_eWhat f_eSign f_all f_kept f_was f_sTune f_boxAll J L) s.heap := hP
  have hl := lv_entry ([.ref (r 0), .int p0]) (n := 2) (Nat.le_of_ble_eq_true rfl)
  rw [lg_entry_eq]
  generalize (lg_sl ([.ref (r 0), .int p0]) ++ List.replicate (2 - (lg_sl ([.ref (r 0), .int p0])).length) Slot.unset).toArray = ls at hl ⊢
  have hl : lv_has ls 2 [(0, .ref (r 0)), (1, .int p0)] := hl
  refine nameQ (fun Q hQ => ?_)
  obtain ⟨im0, im1, im2, im3, im4, im5, im6, im7, im8, im9, im10, im11, im12, im13, im14, im15, im16, im17, im18, im19, im20, im21, im22, im23, im24, im25, im26, im27, im28, im29, im30, im31⟩ := id hI
  have f1 : 0 ≤ (f_tunes (i_bank.toInt).toNat).toInt ∧ (f_tunes (i_bank.toInt).toNat).toInt ≤ 5 := im21 (i_bank.toInt)
  have f2 : 0 ≤ (f_houses (i_bank.toInt).toNat).toInt ∧ (f_houses (i_bank.toInt).toNat).toInt ≤ 4 := im22 (i_bank.toInt)
  refine lv_aload_n hx hb dX9_must_0 rfl (lv_at hl 0 rfl) ?_
  refine va_calli (va_runV (As := []) (rest := []) ⟨hx, hb, hml, hown, hG⟩ (kX9_isGood l dC dI r ct i_taped i_size i_faultKind i_at i_end i_token i_number i_bank i_rb i_codes i_within i_piled i_unitsInRule i_askHouse i_askTune i_acts i_undone i_laid i_knowns i_time f_text f_tunes f_houses f_hums f_told f_many f_ruleFrom f_ruleTo f_code f_eWhat f_eSign f_all f_kept f_was f_sTune f_boxAll J L s.heap.size hI) (cwV 0 hG (goodV gw1401 gw1403 gw61 gw138 gw1404) rfl rfl rfl hd_X9_isGood ⟨(Nat.le_of_ble_eq_true rfl), (Nat.le_of_ble_eq_true rfl)⟩) ⟨fbR, va_recv hK hP (ci := 8) (q0 := 0) rfl rfl, pR_in hP hK⟩ rfl rfl hl.1 rfl (lv_room (Nat.le_of_ble_eq_true rfl)) dX9_must_1 ⟨(Nat.le_of_ble_eq_true rfl), (Nat.le_of_ble_eq_true rfl)⟩) hS (fun q hq h => absurd hq (Nat.not_lt.mpr h)) (fun q h => hA q (Nat.le_trans hS.1 h)) (fun r_4 u_ t_ H3 locs ht hvm hw hB hz1 hk1 hS => ?_)
  subst hw
  have hP := wk hP hk1
  obtain ⟨f5, f6, f7⟩ := hB
  refine lv_if_ne (tgt := 8) hx hb dX9_must_4 (by decide) (fun c_8 => ?_) (fun c_8 => ?_)
  · skip
    have f9 : r_4.toInt ≠ 0 := qi_ne c_8 rfl zc_0
    have f10 : 1 ≤ r_4.toInt := (ob_159 f5 f9)
    have f11 : i_faultKind.toInt = 0 := (ob_160 f5 f9)
    have f12 : r_4.toInt = 1 := (ob_105 f6 f7 f10)
    refine lv_iload_n hx hb dX9_must_8 rfl (lv_at hl 1 rfl) ?_
    refine lv_if_eq (tgt := 19) hx hb dX9_must_9 (by decide) (fun c_13 => ?_) (fun c_13 => ?_)
    · skip
      have f14 : p0.toInt = 0 := qi_eq c_13 rfl zc_0
      refine lv_aload_n hx hb dX9_must_19 rfl (lv_at hl 0 rfl) ?_
      have hFc := frA hD hS hA
      refine va_callv (va_runV (As := []) (rest := []) ⟨hx, hb, hml, hown, hG⟩ (kX9_misplaced l dC dI r ct i_taped i_size i_faultKind i_at i_end i_token i_number i_bank i_rb i_codes i_within i_piled i_unitsInRule i_askHouse i_askTune i_acts i_undone i_laid i_knowns i_time f_text f_tunes f_houses f_hums f_told f_many f_ruleFrom f_ruleTo f_code f_eWhat f_eSign f_all f_kept f_was f_sTune f_boxAll J L H3.size hI) (cwV 0 hG (goodV gw1420 gw1422 gw65 gw138 gw1423) rfl rfl rfl hd_X9_misplaced ⟨(Nat.le_of_ble_eq_true rfl), (Nat.le_of_ble_eq_true rfl)⟩) ⟨fbW, va_recv hK hP (ci := 8) (q0 := 0) rfl rfl, pW_in hP hK hD⟩ rfl rfl hl.1 rfl (lv_room (Nat.le_of_ble_eq_true rfl)) dX9_must_20 ⟨(Nat.le_of_ble_eq_true rfl), (Nat.le_of_ble_eq_true rfl)⟩) hS (fun q _ h => hFc q h) hFc (fun _ t_ H15 locs ht hvm hw hB hz1 hk1 hS => ?_)
      obtain ⟨x17, J18, hP1, hD1, hI20, f19⟩ := hB
      rw [ht] at hP1
      have hP := hP1
      have hD := dW hFc hD1
      obtain ⟨im21, im22, im23, im24, im25, im26, im27, im28, im29, im30, im31, im32, im33, im34, im35, im36, im37, im38, im39, im40, im41, im42, im43, im44, im45, im46, im47, im48, im49, im50, im51, im52⟩ := id hI20
      rw [hQ]
      exact W.vret hx hb hr (fun t ht hW => ⟨⟨(), rfl, trivial, ⟨x17, i_at, i_end, i_token, i_number, J18, L, by rw [ht]; exact hP, hD, hI20, (ob_88), (ob_161 f19)⟩⟩, hS.F ht⟩) hS.2.2 dX9_must_23
    · skip
      have f53 : p0.toInt ≠ 0 := qi_ne c_13 rfl zc_0
      have f54 : 1 ≤ p0.toInt := (ob_162 hz_p0 f53)
      refine lv_aload_n hx hb dX9_must_12 rfl (lv_at hl 0 rfl) ?_
      have hFc := frA hD hS hA
      refine va_callv (va_runV (As := []) (rest := []) ⟨hx, hb, hml, hown, hG⟩ (kX9_goOn l dC dI r ct i_taped i_size i_faultKind i_at i_end i_token i_number i_bank i_rb i_codes i_within i_piled i_unitsInRule i_askHouse i_askTune i_acts i_undone i_laid i_knowns i_time f_text f_tunes f_houses f_hums f_told f_many f_ruleFrom f_ruleTo f_code f_eWhat f_eSign f_all f_kept f_was f_sTune f_boxAll J L H3.size hI) (cwV 0 hG (goodV gw1362 gw1364 gw59 gw138 gw1365) rfl rfl rfl hd_X9_goOn ⟨(Nat.le_of_ble_eq_true rfl), (Nat.le_of_ble_eq_true rfl)⟩) ⟨fbW, va_recv hK hP (ci := 8) (q0 := 0) rfl rfl, pW_in hP hK hD⟩ rfl rfl hl.1 rfl (lv_room (Nat.le_of_ble_eq_true rfl)) dX9_must_13 ⟨(Nat.le_of_ble_eq_true rfl), (Nat.le_of_ble_eq_true rfl)⟩) hS (fun q _ h => hFc q h) hFc (fun _ t_ H55 locs ht hvm hw hB hz1 hk1 hS => ?_)
      obtain ⟨x57, x58, x59, x60, L61, hP1, hD1, hI65, f62, f63, f64⟩ := hB
      rw [ht] at hP1
      have hP := hP1
      have hD := dW hFc hD1
      obtain ⟨im66, im67, im68, im69, im70, im71, im72, im73, im74, im75, im76, im77, im78, im79, im80, im81, im82, im83, im84, im85, im86, im87, im88, im89, im90, im91, im92, im93, im94, im95, im96, im97⟩ := id hI65
      refine lv_goto (tgt := 23) hx hb dX9_must_16 (by decide) ?_
      rw [hQ]
      exact W.vret hx hb hr (fun t ht hW => ⟨⟨(), rfl, trivial, ⟨i_faultKind, x57, x58, x59, x60, J, L61, by rw [ht]; exact hP, hD, hI65, (ob_87 f62), (ob_163 im17 f64)⟩⟩, hS.F ht⟩) hS.2.2 dX9_must_23
  · skip
    have f98 : r_4.toInt = 0 := qi_eq c_8 rfl zc_0
    have f99 : i_faultKind.toInt ≠ 0 := (ob_164 f5 f98)
    have f100 : 1 ≤ i_faultKind.toInt := (ob_165 im17 f5 f99)
    have f101 : r_4.toInt = 0 := (ob_166 f6 f7 f98)
    rw [hQ]
    exact W.vret hx hb hr (fun t ht hW => ⟨⟨(), rfl, trivial, ⟨i_faultKind, i_at, i_end, i_token, i_number, J, L, by rw [ht]; exact hP, hD, hI, (ob_88), (ob_167 im17 f100)⟩⟩, hS.F ht⟩) hS.2.2 dX9_must_7
set_option maxHeartbeats 4000000 in
set_option maxRecDepth 100000 in
theorem kX9_numeral (l : Launch) (dC : Nat → ClassId) (dI : Nat → Nat → Nat) (r : Nat → Nat) (ct : Nat → ClassId) (i_taped i_size i_faultKind i_at i_end i_token i_number i_bank i_rb i_codes i_within i_piled i_unitsInRule i_askHouse i_askTune i_acts i_undone i_laid i_knowns i_time : Int32) (f_text f_tunes f_houses f_hums f_told f_many f_ruleFrom f_ruleTo f_code f_eWhat f_eSign f_all f_kept f_was f_sTune f_boxAll : Nat → Int32) (J : Nat → Nat → Int32) (L : Nat → Nat → Int64) (p0 p1 : Int32) (sz : Nat) (hI : (IM i_taped i_size i_faultKind i_at i_end i_bank i_rb i_acts i_undone i_laid i_knowns i_time f_tunes f_houses f_hums f_told f_many f_ruleFrom f_ruleTo f_code f_all f_kept f_was f_sTune f_boxAll)) (hp0 : p0.toInt ≤ p1.toInt) : Met l yX9_numeral (.code yX9_numeral cX9_numeral 4 (some .int) :: GW) { frames := 6, cells := 0, slots := 0, locals := 224 } (va_Pc [.ref (r 0), .int p0, .int p1] (pW (dC, dI) (WM r ct i_taped i_size i_faultKind i_at i_end i_token i_number i_bank i_rb i_codes i_within i_piled i_unitsInRule i_askHouse i_askTune i_acts i_undone i_laid i_knowns i_time f_text f_tunes f_houses f_hums f_told f_many f_ruleFrom f_ruleTo f_code f_eWhat f_eSign f_all f_kept f_was f_sTune f_boxAll J L) (TM ct) sz)) (va_Qi (fun (r0 : Int32) (u : Int32) => r0 = u) (fun (u : Int32) (t : State) => ∃ (n_i_faultKind n_i_at n_i_end n_i_token n_i_number : Int32) (n_J : Nat → Nat → Int32) (n_L : Nat → Nat → Int64), va_P (dC, dI) vwCl (WM r ct i_taped i_size n_i_faultKind n_i_at n_i_end n_i_token n_i_number i_bank i_rb i_codes i_within i_piled i_unitsInRule i_askHouse i_askTune i_acts i_undone i_laid i_knowns i_time f_text f_tunes f_houses f_hums f_told f_many f_ruleFrom f_ruleTo f_code f_eWhat f_eSign f_all f_kept f_was f_sTune f_boxAll n_J n_L) t.heap ∧ va_D (va_A (WM r ct i_taped i_size i_faultKind i_at i_end i_token i_number i_bank i_rb i_codes i_within i_piled i_unitsInRule i_askHouse i_askTune i_acts i_undone i_laid i_knowns i_time f_text f_tunes f_houses f_hums f_told f_many f_ruleFrom f_ruleTo f_code f_eWhat f_eSign f_all f_kept f_was f_sTune f_boxAll J L) sz) (WM r ct i_taped i_size n_i_faultKind n_i_at n_i_end n_i_token n_i_number i_bank i_rb i_codes i_within i_piled i_unitsInRule i_askHouse i_askTune i_acts i_undone i_laid i_knowns i_time f_text f_tunes f_houses f_hums f_told f_many f_ruleFrom f_ruleTo f_code f_eWhat f_eSign f_all f_kept f_was f_sTune f_boxAll n_J n_L) ∧ (IM i_taped i_size n_i_faultKind n_i_at n_i_end i_bank i_rb i_acts i_undone i_laid i_knowns i_time f_tunes f_houses f_hums f_told f_many f_ruleFrom f_ruleTo f_code f_all f_kept f_was f_sTune f_boxAll) ∧ (p0.toInt ≤ u.toInt) ∧ (u.toInt ≤ p1.toInt) ∧ (i_end.toInt ≤ n_i_end.toInt) ∧ ((1 ≤ n_i_faultKind.toInt) ∨ ((n_i_faultKind.toInt = 0) ∧ (i_faultKind.toInt = 0) ∧ ((n_i_token.toInt = 0) ∨ (i_end.toInt + 1 ≤ n_i_end.toInt))))) (va_A (WM r ct i_taped i_size i_faultKind i_at i_end i_token i_number i_bank i_rb i_codes i_within i_piled i_unitsInRule i_askHouse i_askTune i_acts i_undone i_laid i_knowns i_time f_text f_tunes f_houses f_hums f_told f_many f_ruleFrom f_ruleTo f_code f_eWhat f_eSign f_all f_kept f_was f_sTune f_boxAll J L) sz)) 0 0 (va_A (WM r ct i_taped i_size i_faultKind i_at i_end i_token i_number i_bank i_rb i_codes i_within i_piled i_unitsInRule i_askHouse i_askTune i_acts i_undone i_laid i_knowns i_time f_text f_tunes f_houses f_hums f_told f_many f_ruleFrom f_ruleTo f_code f_eWhat f_eSign f_all f_kept f_was f_sTune f_boxAll J L) sz) := by
  refine Met.ofW (cc := cX9_numeral) (maxL := 4) (ret := (some .int)) (by decide) rfl ?_
  intro p e s m args below meth c0 s₁ B hml hv
  obtain ⟨rfl, hsz, hP, hK, hD0⟩ := hv
  have hx := B.exec
  have hb := B.bytes
  have hr := B.returns
  have hts := atoms_spec (ws := .code yX9_numeral cX9_numeral 4 (some .int) :: GW) B.pre
  have hG : ∀ w ∈ GW, w.before _ s = true := fun w h => hts w (List.mem_cons_of_mem _ h)
  have hown : s.vm.findClass RX9 = some m.cls := findClass_of_methodNamed B.named
  subst hsz
  have hD := hD0.self (sz := s.heap.size)
  generalize hAe : va_A (WM r ct i_taped i_size i_faultKind i_at i_end i_token i_number i_bank i_rb i_codes i_within i_piled i_unitsInRule i_askHouse i_askTune i_acts i_undone i_laid i_knowns i_time f_text f_tunes f_houses f_hums f_told f_many f_ruleFrom f_ruleTo f_code f_eWhat f_eSign f_all f_kept f_was f_sTune f_boxAll J L) s.heap.size = A at hD ⊢
  have hA : ∀ q : Nat, s.heap.size ≤ q → A q := fun q h => by rw [← hAe]; exact Or.inr h
  have hS : va_S A s.heap s.heap [] := va_S.rf
  have hP : va_P (dC, dI) vwCl (WM r ct i_taped i_size i_faultKind i_at i_end i_token i_number i_bank i_rb i_codes i_within i_piled i_unitsInRule i_askHouse i_askTune i_acts i_undone i_laid i_knowns i_time f_text f_tunes f_houses f_hums f_told f_many f_ruleFrom f_ruleTo f_code f_eWhat f_eSign f_all f_kept f_was f_sTune f_boxAll J L) s.heap := hP
  have hl := lv_entry ([.ref (r 0), .int p0, .int p1]) (n := 4) (Nat.le_of_ble_eq_true rfl)
  rw [lg_entry_eq]
  generalize (lg_sl ([.ref (r 0), .int p0, .int p1]) ++ List.replicate (4 - (lg_sl ([.ref (r 0), .int p0, .int p1])).length) Slot.unset).toArray = ls at hl ⊢
  have hl : lv_has ls 4 [(0, .ref (r 0)), (1, .int p0), (2, .int p1)] := hl
  refine nameQ (fun Q hQ => ?_)
  obtain ⟨im0, im1, im2, im3, im4, im5, im6, im7, im8, im9, im10, im11, im12, im13, im14, im15, im16, im17, im18, im19, im20, im21, im22, im23, im24, im25, im26, im27, im28, im29, im30, im31⟩ := id hI
  have f1 : 0 ≤ (f_tunes (i_bank.toInt).toNat).toInt ∧ (f_tunes (i_bank.toInt).toNat).toInt ≤ 5 := im21 (i_bank.toInt)
  have f2 : 0 ≤ (f_houses (i_bank.toInt).toNat).toInt ∧ (f_houses (i_bank.toInt).toNat).toInt ≤ 4 := im22 (i_bank.toInt)
  refine lv_aload_n hx hb dX9_numeral_0 rfl (lv_at hl 0 rfl) ?_
  refine va_calli (va_runV (As := []) (rest := []) ⟨hx, hb, hml, hown, hG⟩ (kX9_isGood l dC dI r ct i_taped i_size i_faultKind i_at i_end i_token i_number i_bank i_rb i_codes i_within i_piled i_unitsInRule i_askHouse i_askTune i_acts i_undone i_laid i_knowns i_time f_text f_tunes f_houses f_hums f_told f_many f_ruleFrom f_ruleTo f_code f_eWhat f_eSign f_all f_kept f_was f_sTune f_boxAll J L s.heap.size hI) (cwV 0 hG (goodV gw1401 gw1403 gw61 gw138 gw1404) rfl rfl rfl hd_X9_isGood ⟨(Nat.le_of_ble_eq_true rfl), (Nat.le_of_ble_eq_true rfl)⟩) ⟨fbR, va_recv hK hP (ci := 8) (q0 := 0) rfl rfl, pR_in hP hK⟩ rfl rfl hl.1 rfl (lv_room (Nat.le_of_ble_eq_true rfl)) dX9_numeral_1 ⟨(Nat.le_of_ble_eq_true rfl), (Nat.le_of_ble_eq_true rfl)⟩) hS (fun q hq h => absurd hq (Nat.not_lt.mpr h)) (fun q h => hA q (Nat.le_trans hS.1 h)) (fun r_4 u_ t_ H3 locs ht hvm hw hB hz1 hk1 hS => ?_)
  subst hw
  have hP := wk hP hk1
  obtain ⟨f5, f6, f7⟩ := hB
  refine lv_if_ne (tgt := 9) hx hb dX9_numeral_4 (by decide) (fun c_8 => ?_) (fun c_8 => ?_)
  · skip
    have f9 : r_4.toInt ≠ 0 := qi_ne c_8 rfl zc_0
    have f10 : 1 ≤ r_4.toInt := (ob_159 f5 f9)
    have f11 : i_faultKind.toInt = 0 := (ob_160 f5 f9)
    have f12 : r_4.toInt = 1 := (ob_105 f6 f7 f10)
    refine lv_aload_n hx hb dX9_numeral_9 rfl (lv_at hl 0 rfl) ?_
    refine gM_X9_191_0 hx hb hG hown hK hP dX9_numeral_10 ?_
    refine lv_iconst (v := 4) hx hb dX9_numeral_13 (by decide) ?_
    refine lv_icmp_eq (tgt := 21) hx hb dX9_numeral_14 (by decide) (fun c_13 => ?_) (fun c_13 => ?_)
    · skip
      have f14 : i_token.toInt = 4 := qi_eq c_13 rfl zc_4
      refine lv_aload_n hx hb dX9_numeral_21 rfl (lv_at hl 0 rfl) ?_
      refine va_calli (va_runV (As := []) (rest := []) ⟨hx, hb, hml, hown, hG⟩ (kX9_isGood l dC dI r ct i_taped i_size i_faultKind i_at i_end i_token i_number i_bank i_rb i_codes i_within i_piled i_unitsInRule i_askHouse i_askTune i_acts i_undone i_laid i_knowns i_time f_text f_tunes f_houses f_hums f_told f_many f_ruleFrom f_ruleTo f_code f_eWhat f_eSign f_all f_kept f_was f_sTune f_boxAll J L H3.size hI) (cwV 0 hG (goodV gw1401 gw1403 gw61 gw138 gw1404) rfl rfl rfl hd_X9_isGood ⟨(Nat.le_of_ble_eq_true rfl), (Nat.le_of_ble_eq_true rfl)⟩) ⟨fbR, va_recv hK hP (ci := 8) (q0 := 0) rfl rfl, pR_in hP hK⟩ rfl rfl hl.1 rfl (lv_room (Nat.le_of_ble_eq_true rfl)) dX9_numeral_22 ⟨(Nat.le_of_ble_eq_true rfl), (Nat.le_of_ble_eq_true rfl)⟩) hS (fun q hq h => absurd hq (Nat.not_lt.mpr h)) (fun q h => hA q (Nat.le_trans hS.1 h)) (fun r_16 u_ t_ H15 locs ht hvm hw hB hz1 hk1 hS => ?_)
      subst hw
      have hP := wk hP hk1
      obtain ⟨f17, f18, f19⟩ := hB
      refine lv_if_eq (tgt := 53) hx hb dX9_numeral_25 (by decide) (fun c_20 => ((ob_168 (qi_eq c_20 rfl zc_0) f11 f17)).elim) (fun c_20 => ?_)
      have f21 : r_16.toInt ≠ 0 := qi_ne c_20 rfl zc_0
      have f22 : i_faultKind.toInt = 0 := (ob_169 im17 f11)
      have f23 : r_16.toInt = 1 := (ob_170 f17 f21)
      have f24 : 1 ≤ r_16.toInt := (ob_171 f18 f19 f23)
      refine lv_aload_n hx hb dX9_numeral_28 rfl (lv_at hl 0 rfl) ?_
      refine gM_X9_209_0 hx hb hG hown hK hP dX9_numeral_29 ?_
      refine lv_iload_n hx hb dX9_numeral_32 rfl (lv_at hl 1 rfl) ?_
      refine lv_icmp_lt (tgt := 44) hx hb dX9_numeral_33 (by decide) (fun c_25 => ?_) (fun c_25 => ?_)
      · skip
        have f26 : i_number.toInt < p0.toInt := qi_lt c_25 rfl rfl
        refine lv_aload_n hx hb dX9_numeral_44 rfl (lv_at hl 0 rfl) ?_
        refine lv_iconst (v := 4) hx hb dX9_numeral_45 (by decide) ?_
        refine lv_aload_n hx hb dX9_numeral_46 rfl (lv_at hl 0 rfl) ?_
        refine gM_X9_184_0 hx hb hG hown hK hP dX9_numeral_47 ?_
        have hFc := frA hD hS hA
        refine va_callv (va_runV (As := [.int 4, .int i_at]) (rest := []) ⟨hx, hb, hml, hown, hG⟩ (kX9_fails l dC dI r ct i_taped i_size i_faultKind i_at i_end i_token i_number i_bank i_rb i_codes i_within i_piled i_unitsInRule i_askHouse i_askTune i_acts i_undone i_laid i_knowns i_time f_text f_tunes f_houses f_hums f_told f_many f_ruleFrom f_ruleTo f_code f_eWhat f_eSign f_all f_kept f_was f_sTune f_boxAll J L 4 i_at H15.size hI (ob_172 zc_4)) (cwV 2 hG (goodV gw1424 gw1426 gw66 gw138 gw1427) rfl rfl rfl hd_X9_fails ⟨(Nat.le_of_ble_eq_true rfl), (Nat.le_of_ble_eq_true rfl)⟩) ⟨fbW, va_recv hK hP (ci := 8) (q0 := 0) rfl rfl, pW_in hP hK hD⟩ rfl rfl hl.1 rfl (lv_room (Nat.le_of_ble_eq_true rfl)) dX9_numeral_50 ⟨(Nat.le_of_ble_eq_true rfl), (Nat.le_of_ble_eq_true rfl)⟩) hS (fun q _ h => hFc q h) hFc (fun _ t_ H27 locs ht hvm hw hB hz1 hk1 hS => ?_)
        obtain ⟨x29, J30, hP1, hD1, hI32, f31⟩ := hB
        rw [ht] at hP1
        have hP := hP1
        have hD := dW hFc hD1
        obtain ⟨im33, im34, im35, im36, im37, im38, im39, im40, im41, im42, im43, im44, im45, im46, im47, im48, im49, im50, im51, im52, im53, im54, im55, im56, im57, im58, im59, im60, im61, im62, im63, im64⟩ := id hI32
        refine lv_aload_n hx hb dX9_numeral_53 rfl (lv_at hl 0 rfl) ?_
        refine gM_X9_209_0 hx hb hG hown hK hP dX9_numeral_54 ?_
        refine lv_istore_n (lv' := [(3, .int i_number), (0, .ref (r 0)), (1, .int p0), (2, .int p1)]) hx hb dX9_numeral_57 rfl hl (by decide) rfl (fun ls hl => ?_)
        refine lv_aload_n hx hb dX9_numeral_58 rfl (lv_at hl 1 rfl) ?_
        refine va_calli (va_runV (As := []) (rest := []) ⟨hx, hb, hml, hown, hG⟩ (kX9_isGood l dC dI r ct i_taped i_size x29 i_at i_end i_token i_number i_bank i_rb i_codes i_within i_piled i_unitsInRule i_askHouse i_askTune i_acts i_undone i_laid i_knowns i_time f_text f_tunes f_houses f_hums f_told f_many f_ruleFrom f_ruleTo f_code f_eWhat f_eSign f_all f_kept f_was f_sTune f_boxAll J30 L H27.size hI32) (cwV 0 hG (goodV gw1401 gw1403 gw61 gw138 gw1404) rfl rfl rfl hd_X9_isGood ⟨(Nat.le_of_ble_eq_true rfl), (Nat.le_of_ble_eq_true rfl)⟩) ⟨fbR, va_recv hK hP (ci := 8) (q0 := 0) rfl rfl, pR_in hP hK⟩ rfl rfl hl.1 rfl (lv_room (Nat.le_of_ble_eq_true rfl)) dX9_numeral_59 ⟨(Nat.le_of_ble_eq_true rfl), (Nat.le_of_ble_eq_true rfl)⟩) hS (fun q hq h => absurd hq (Nat.not_lt.mpr h)) (fun q h => hA q (Nat.le_trans hS.1 h)) (fun r_66 u_ t_ H65 locs ht hvm hw hB hz1 hk1 hS => ?_)
        subst hw
        have hP := wk hP hk1
        obtain ⟨f67, f68, f69⟩ := hB
        refine lv_if_eq (tgt := 69) hx hb dX9_numeral_62 (by decide) (fun c_70 => ?_) (fun c_70 => ((ob_173 (qi_ne c_70 rfl zc_0) f31 f67)).elim)
        have f71 : r_66.toInt = 0 := qi_eq c_70 rfl zc_0
        have f72 : x29.toInt ≠ 0 := (ob_174 im50 f31)
        have f73 : 1 ≤ x29.toInt := (ob_157 im50 f31)
        have f74 : r_66.toInt = 0 := (ob_166 f68 f69 f71)
        refine lv_aload_n hx hb dX9_numeral_69 rfl (lv_at hl 1 rfl) ?_
        refine va_calli (va_runV (As := []) (rest := []) ⟨hx, hb, hml, hown, hG⟩ (kX9_isGood l dC dI r ct i_taped i_size x29 i_at i_end i_token i_number i_bank i_rb i_codes i_within i_piled i_unitsInRule i_askHouse i_askTune i_acts i_undone i_laid i_knowns i_time f_text f_tunes f_houses f_hums f_told f_many f_ruleFrom f_ruleTo f_code f_eWhat f_eSign f_all f_kept f_was f_sTune f_boxAll J30 L H65.size hI32) (cwV 0 hG (goodV gw1401 gw1403 gw61 gw138 gw1404) rfl rfl rfl hd_X9_isGood ⟨(Nat.le_of_ble_eq_true rfl), (Nat.le_of_ble_eq_true rfl)⟩) ⟨fbR, va_recv hK hP (ci := 8) (q0 := 0) rfl rfl, pR_in hP hK⟩ rfl rfl hl.1 rfl (lv_room (Nat.le_of_ble_eq_true rfl)) dX9_numeral_70 ⟨(Nat.le_of_ble_eq_true rfl), (Nat.le_of_ble_eq_true rfl)⟩) hS (fun q hq h => absurd hq (Nat.not_lt.mpr h)) (fun q h => hA q (Nat.le_trans hS.1 h)) (fun r_76 u_ t_ H75 locs ht hvm hw hB hz1 hk1 hS => ?_)
        subst hw
        have hP := wk hP hk1
        obtain ⟨f77, f78, f79⟩ := hB
        refine lv_if_eq (tgt := 80) hx hb dX9_numeral_73 (by decide) (fun c_80 => ?_) (fun c_80 => ((ob_173 (qi_ne c_80 rfl zc_0) f31 f77)).elim)
        have f81 : r_76.toInt = 0 := qi_eq c_80 rfl zc_0
        have f82 : x29.toInt ≠ 0 := (ob_174 im50 f31)
        have f83 : 1 ≤ x29.toInt := (ob_157 im50 f31)
        have f84 : r_76.toInt = 0 := (ob_166 f78 f79 f81)
        refine lv_iload_n hx hb dX9_numeral_80 rfl (lv_at hl 2 rfl) ?_
        rw [hQ]
        exact W.iret (v := p0) hx hb hr (fun t ht hW => ⟨⟨p0, p0, rfl, rfl, ⟨x29, i_at, i_end, i_token, i_number, J30, L, by rw [ht]; exact hP, hD, hI32, (ob_88), (ob_175 hp0 f26), (ob_88), (ob_161 f31)⟩⟩, hS.F ht⟩) hS.2.2 dX9_numeral_81
      · skip
        have f85 : p0.toInt ≤ i_number.toInt := qi_nlt c_25 rfl rfl
        refine lv_aload_n hx hb dX9_numeral_36 rfl (lv_at hl 0 rfl) ?_
        refine gM_X9_209_0 hx hb hG hown hK hP dX9_numeral_37 ?_
        refine lv_iload_n hx hb dX9_numeral_40 rfl (lv_at hl 2 rfl) ?_
        refine lv_icmp_le (tgt := 53) hx hb dX9_numeral_41 (by decide) (fun c_86 => ?_) (fun c_86 => ?_)
        · skip
          have f87 : i_number.toInt ≤ p1.toInt := qi_le c_86 rfl rfl
          refine lv_aload_n hx hb dX9_numeral_53 rfl (lv_at hl 0 rfl) ?_
          refine gM_X9_209_0 hx hb hG hown hK hP dX9_numeral_54 ?_
          refine lv_istore_n (lv' := [(3, .int i_number), (0, .ref (r 0)), (1, .int p0), (2, .int p1)]) hx hb dX9_numeral_57 rfl hl (by decide) rfl (fun ls hl => ?_)
          refine lv_aload_n hx hb dX9_numeral_58 rfl (lv_at hl 1 rfl) ?_
          refine va_calli (va_runV (As := []) (rest := []) ⟨hx, hb, hml, hown, hG⟩ (kX9_isGood l dC dI r ct i_taped i_size i_faultKind i_at i_end i_token i_number i_bank i_rb i_codes i_within i_piled i_unitsInRule i_askHouse i_askTune i_acts i_undone i_laid i_knowns i_time f_text f_tunes f_houses f_hums f_told f_many f_ruleFrom f_ruleTo f_code f_eWhat f_eSign f_all f_kept f_was f_sTune f_boxAll J L H15.size hI) (cwV 0 hG (goodV gw1401 gw1403 gw61 gw138 gw1404) rfl rfl rfl hd_X9_isGood ⟨(Nat.le_of_ble_eq_true rfl), (Nat.le_of_ble_eq_true rfl)⟩) ⟨fbR, va_recv hK hP (ci := 8) (q0 := 0) rfl rfl, pR_in hP hK⟩ rfl rfl hl.1 rfl (lv_room (Nat.le_of_ble_eq_true rfl)) dX9_numeral_59 ⟨(Nat.le_of_ble_eq_true rfl), (Nat.le_of_ble_eq_true rfl)⟩) hS (fun q hq h => absurd hq (Nat.not_lt.mpr h)) (fun q h => hA q (Nat.le_trans hS.1 h)) (fun r_89 u_ t_ H88 locs ht hvm hw hB hz1 hk1 hS => ?_)
          subst hw
          have hP := wk hP hk1
          obtain ⟨f90, f91, f92⟩ := hB
          refine lv_if_eq (tgt := 69) hx hb dX9_numeral_62 (by decide) (fun c_93 => ((ob_168 (qi_eq c_93 rfl zc_0) f11 f90)).elim) (fun c_93 => ?_)
          have f94 : r_89.toInt ≠ 0 := qi_ne c_93 rfl zc_0
          have f95 : i_faultKind.toInt = 0 := (ob_169 im17 f11)
          have f96 : r_89.toInt = 1 := (ob_170 f90 f94)
          have f97 : 1 ≤ r_89.toInt := (ob_171 f91 f92 f96)
          refine lv_aload_n hx hb dX9_numeral_65 rfl (lv_at hl 1 rfl) ?_
          have hFc := frA hD hS hA
          refine va_callv (va_runV (As := []) (rest := []) ⟨hx, hb, hml, hown, hG⟩ (kX9_goOn l dC dI r ct i_taped i_size i_faultKind i_at i_end i_token i_number i_bank i_rb i_codes i_within i_piled i_unitsInRule i_askHouse i_askTune i_acts i_undone i_laid i_knowns i_time f_text f_tunes f_houses f_hums f_told f_many f_ruleFrom f_ruleTo f_code f_eWhat f_eSign f_all f_kept f_was f_sTune f_boxAll J L H88.size hI) (cwV 0 hG (goodV gw1362 gw1364 gw59 gw138 gw1365) rfl rfl rfl hd_X9_goOn ⟨(Nat.le_of_ble_eq_true rfl), (Nat.le_of_ble_eq_true rfl)⟩) ⟨fbW, va_recv hK hP (ci := 8) (q0 := 0) rfl rfl, pW_in hP hK hD⟩ rfl rfl hl.1 rfl (lv_room (Nat.le_of_ble_eq_true rfl)) dX9_numeral_66 ⟨(Nat.le_of_ble_eq_true rfl), (Nat.le_of_ble_eq_true rfl)⟩) hS (fun q _ h => hFc q h) hFc (fun _ t_ H98 locs ht hvm hw hB hz1 hk1 hS => ?_)
          obtain ⟨x100, x101, x102, x103, L104, hP1, hD1, hI108, f105, f106, f107⟩ := hB
          rw [ht] at hP1
          have hP := hP1
          have hD := dW hFc hD1
          obtain ⟨im109, im110, im111, im112, im113, im114, im115, im116, im117, im118, im119, im120, im121, im122, im123, im124, im125, im126, im127, im128, im129, im130, im131, im132, im133, im134, im135, im136, im137, im138, im139, im140⟩ := id hI108
          refine lv_aload_n hx hb dX9_numeral_69 rfl (lv_at hl 1 rfl) ?_
          refine va_calli (va_runV (As := []) (rest := []) ⟨hx, hb, hml, hown, hG⟩ (kX9_isGood l dC dI r ct i_taped i_size i_faultKind x100 x101 x102 x103 i_bank i_rb i_codes i_within i_piled i_unitsInRule i_askHouse i_askTune i_acts i_undone i_laid i_knowns i_time f_text f_tunes f_houses f_hums f_told f_many f_ruleFrom f_ruleTo f_code f_eWhat f_eSign f_all f_kept f_was f_sTune f_boxAll J L104 H98.size hI108) (cwV 0 hG (goodV gw1401 gw1403 gw61 gw138 gw1404) rfl rfl rfl hd_X9_isGood ⟨(Nat.le_of_ble_eq_true rfl), (Nat.le_of_ble_eq_true rfl)⟩) ⟨fbR, va_recv hK hP (ci := 8) (q0 := 0) rfl rfl, pR_in hP hK⟩ rfl rfl hl.1 rfl (lv_room (Nat.le_of_ble_eq_true rfl)) dX9_numeral_70 ⟨(Nat.le_of_ble_eq_true rfl), (Nat.le_of_ble_eq_true rfl)⟩) hS (fun q hq h => absurd hq (Nat.not_lt.mpr h)) (fun q h => hA q (Nat.le_trans hS.1 h)) (fun r_142 u_ t_ H141 locs ht hvm hw hB hz1 hk1 hS => ?_)
          subst hw
          have hP := wk hP hk1
          obtain ⟨f143, f144, f145⟩ := hB
          refine lv_if_eq (tgt := 80) hx hb dX9_numeral_73 (by decide) (fun c_146 => ((ob_168 (qi_eq c_146 rfl zc_0) f11 f143)).elim) (fun c_146 => ?_)
          have f147 : r_142.toInt ≠ 0 := qi_ne c_146 rfl zc_0
          have f148 : i_faultKind.toInt = 0 := (ob_176 f11)
          have f149 : r_142.toInt = 1 := (ob_170 f143 f147)
          have f150 : 1 ≤ r_142.toInt := (ob_171 f144 f145 f149)
          refine lv_iload_n hx hb dX9_numeral_76 rfl (lv_at hl 0 rfl) ?_
          refine lv_goto (tgt := 81) hx hb dX9_numeral_77 (by decide) ?_
          rw [hQ]
          exact W.iret (v := i_number) hx hb hr (fun t ht hW => ⟨⟨i_number, i_number, rfl, rfl, ⟨i_faultKind, x100, x101, x102, x103, J, L104, by rw [ht]; exact hP, hD, hI108, (ob_177 hp0 f85 f87), (ob_178 hp0 f85 f87), (ob_87 f105), (ob_163 im17 f107)⟩⟩, hS.F ht⟩) hS.2.2 dX9_numeral_81
        · skip
          have f151 : p1.toInt < i_number.toInt := qi_nle c_86 rfl rfl
          refine lv_aload_n hx hb dX9_numeral_44 rfl (lv_at hl 0 rfl) ?_
          refine lv_iconst (v := 4) hx hb dX9_numeral_45 (by decide) ?_
          refine lv_aload_n hx hb dX9_numeral_46 rfl (lv_at hl 0 rfl) ?_
          refine gM_X9_184_0 hx hb hG hown hK hP dX9_numeral_47 ?_
          have hFc := frA hD hS hA
          refine va_callv (va_runV (As := [.int 4, .int i_at]) (rest := []) ⟨hx, hb, hml, hown, hG⟩ (kX9_fails l dC dI r ct i_taped i_size i_faultKind i_at i_end i_token i_number i_bank i_rb i_codes i_within i_piled i_unitsInRule i_askHouse i_askTune i_acts i_undone i_laid i_knowns i_time f_text f_tunes f_houses f_hums f_told f_many f_ruleFrom f_ruleTo f_code f_eWhat f_eSign f_all f_kept f_was f_sTune f_boxAll J L 4 i_at H15.size hI (ob_172 zc_4)) (cwV 2 hG (goodV gw1424 gw1426 gw66 gw138 gw1427) rfl rfl rfl hd_X9_fails ⟨(Nat.le_of_ble_eq_true rfl), (Nat.le_of_ble_eq_true rfl)⟩) ⟨fbW, va_recv hK hP (ci := 8) (q0 := 0) rfl rfl, pW_in hP hK hD⟩ rfl rfl hl.1 rfl (lv_room (Nat.le_of_ble_eq_true rfl)) dX9_numeral_50 ⟨(Nat.le_of_ble_eq_true rfl), (Nat.le_of_ble_eq_true rfl)⟩) hS (fun q _ h => hFc q h) hFc (fun _ t_ H152 locs ht hvm hw hB hz1 hk1 hS => ?_)
          obtain ⟨x154, J155, hP1, hD1, hI157, f156⟩ := hB
          rw [ht] at hP1
          have hP := hP1
          have hD := dW hFc hD1
          obtain ⟨im158, im159, im160, im161, im162, im163, im164, im165, im166, im167, im168, im169, im170, im171, im172, im173, im174, im175, im176, im177, im178, im179, im180, im181, im182, im183, im184, im185, im186, im187, im188, im189⟩ := id hI157
          refine lv_aload_n hx hb dX9_numeral_53 rfl (lv_at hl 0 rfl) ?_
          refine gM_X9_209_0 hx hb hG hown hK hP dX9_numeral_54 ?_
          refine lv_istore_n (lv' := [(3, .int i_number), (0, .ref (r 0)), (1, .int p0), (2, .int p1)]) hx hb dX9_numeral_57 rfl hl (by decide) rfl (fun ls hl => ?_)
          refine lv_aload_n hx hb dX9_numeral_58 rfl (lv_at hl 1 rfl) ?_
          refine va_calli (va_runV (As := []) (rest := []) ⟨hx, hb, hml, hown, hG⟩ (kX9_isGood l dC dI r ct i_taped i_size x154 i_at i_end i_token i_number i_bank i_rb i_codes i_within i_piled i_unitsInRule i_askHouse i_askTune i_acts i_undone i_laid i_knowns i_time f_text f_tunes f_houses f_hums f_told f_many f_ruleFrom f_ruleTo f_code f_eWhat f_eSign f_all f_kept f_was f_sTune f_boxAll J155 L H152.size hI157) (cwV 0 hG (goodV gw1401 gw1403 gw61 gw138 gw1404) rfl rfl rfl hd_X9_isGood ⟨(Nat.le_of_ble_eq_true rfl), (Nat.le_of_ble_eq_true rfl)⟩) ⟨fbR, va_recv hK hP (ci := 8) (q0 := 0) rfl rfl, pR_in hP hK⟩ rfl rfl hl.1 rfl (lv_room (Nat.le_of_ble_eq_true rfl)) dX9_numeral_59 ⟨(Nat.le_of_ble_eq_true rfl), (Nat.le_of_ble_eq_true rfl)⟩) hS (fun q hq h => absurd hq (Nat.not_lt.mpr h)) (fun q h => hA q (Nat.le_trans hS.1 h)) (fun r_191 u_ t_ H190 locs ht hvm hw hB hz1 hk1 hS => ?_)
          subst hw
          have hP := wk hP hk1
          obtain ⟨f192, f193, f194⟩ := hB
          refine lv_if_eq (tgt := 69) hx hb dX9_numeral_62 (by decide) (fun c_195 => ?_) (fun c_195 => ((ob_173 (qi_ne c_195 rfl zc_0) f156 f192)).elim)
          have f196 : r_191.toInt = 0 := qi_eq c_195 rfl zc_0
          have f197 : x154.toInt ≠ 0 := (ob_174 im175 f156)
          have f198 : 1 ≤ x154.toInt := (ob_157 im175 f156)
          have f199 : r_191.toInt = 0 := (ob_166 f193 f194 f196)
          refine lv_aload_n hx hb dX9_numeral_69 rfl (lv_at hl 1 rfl) ?_
          refine va_calli (va_runV (As := []) (rest := []) ⟨hx, hb, hml, hown, hG⟩ (kX9_isGood l dC dI r ct i_taped i_size x154 i_at i_end i_token i_number i_bank i_rb i_codes i_within i_piled i_unitsInRule i_askHouse i_askTune i_acts i_undone i_laid i_knowns i_time f_text f_tunes f_houses f_hums f_told f_many f_ruleFrom f_ruleTo f_code f_eWhat f_eSign f_all f_kept f_was f_sTune f_boxAll J155 L H190.size hI157) (cwV 0 hG (goodV gw1401 gw1403 gw61 gw138 gw1404) rfl rfl rfl hd_X9_isGood ⟨(Nat.le_of_ble_eq_true rfl), (Nat.le_of_ble_eq_true rfl)⟩) ⟨fbR, va_recv hK hP (ci := 8) (q0 := 0) rfl rfl, pR_in hP hK⟩ rfl rfl hl.1 rfl (lv_room (Nat.le_of_ble_eq_true rfl)) dX9_numeral_70 ⟨(Nat.le_of_ble_eq_true rfl), (Nat.le_of_ble_eq_true rfl)⟩) hS (fun q hq h => absurd hq (Nat.not_lt.mpr h)) (fun q h => hA q (Nat.le_trans hS.1 h)) (fun r_201 u_ t_ H200 locs ht hvm hw hB hz1 hk1 hS => ?_)
          subst hw
          have hP := wk hP hk1
          obtain ⟨f202, f203, f204⟩ := hB
          refine lv_if_eq (tgt := 80) hx hb dX9_numeral_73 (by decide) (fun c_205 => ?_) (fun c_205 => ((ob_173 (qi_ne c_205 rfl zc_0) f156 f202)).elim)
          have f206 : r_201.toInt = 0 := qi_eq c_205 rfl zc_0
          have f207 : x154.toInt ≠ 0 := (ob_174 im175 f156)
          have f208 : 1 ≤ x154.toInt := (ob_157 im175 f156)
          have f209 : r_201.toInt = 0 := (ob_166 f203 f204 f206)
          refine lv_iload_n hx hb dX9_numeral_80 rfl (lv_at hl 2 rfl) ?_
          rw [hQ]
          exact W.iret (v := p0) hx hb hr (fun t ht hW => ⟨⟨p0, p0, rfl, rfl, ⟨x154, i_at, i_end, i_token, i_number, J155, L, by rw [ht]; exact hP, hD, hI157, (ob_88), (ob_179 hp0 f85 f151), (ob_88), (ob_161 f156)⟩⟩, hS.F ht⟩) hS.2.2 dX9_numeral_81
    · skip
      have f210 : i_token.toInt ≠ 4 := qi_ne c_13 rfl zc_4
      refine lv_aload_n hx hb dX9_numeral_17 rfl (lv_at hl 0 rfl) ?_
      have hFc := frA hD hS hA
      refine va_callv (va_runV (As := []) (rest := []) ⟨hx, hb, hml, hown, hG⟩ (kX9_misplaced l dC dI r ct i_taped i_size i_faultKind i_at i_end i_token i_number i_bank i_rb i_codes i_within i_piled i_unitsInRule i_askHouse i_askTune i_acts i_undone i_laid i_knowns i_time f_text f_tunes f_houses f_hums f_told f_many f_ruleFrom f_ruleTo f_code f_eWhat f_eSign f_all f_kept f_was f_sTune f_boxAll J L H3.size hI) (cwV 0 hG (goodV gw1420 gw1422 gw65 gw138 gw1423) rfl rfl rfl hd_X9_misplaced ⟨(Nat.le_of_ble_eq_true rfl), (Nat.le_of_ble_eq_true rfl)⟩) ⟨fbW, va_recv hK hP (ci := 8) (q0 := 0) rfl rfl, pW_in hP hK hD⟩ rfl rfl hl.1 rfl (lv_room (Nat.le_of_ble_eq_true rfl)) dX9_numeral_18 ⟨(Nat.le_of_ble_eq_true rfl), (Nat.le_of_ble_eq_true rfl)⟩) hS (fun q _ h => hFc q h) hFc (fun _ t_ H211 locs ht hvm hw hB hz1 hk1 hS => ?_)
      obtain ⟨x213, J214, hP1, hD1, hI216, f215⟩ := hB
      rw [ht] at hP1
      have hP := hP1
      have hD := dW hFc hD1
      obtain ⟨im217, im218, im219, im220, im221, im222, im223, im224, im225, im226, im227, im228, im229, im230, im231, im232, im233, im234, im235, im236, im237, im238, im239, im240, im241, im242, im243, im244, im245, im246, im247, im248⟩ := id hI216
      refine lv_aload_n hx hb dX9_numeral_21 rfl (lv_at hl 0 rfl) ?_
      refine va_calli (va_runV (As := []) (rest := []) ⟨hx, hb, hml, hown, hG⟩ (kX9_isGood l dC dI r ct i_taped i_size x213 i_at i_end i_token i_number i_bank i_rb i_codes i_within i_piled i_unitsInRule i_askHouse i_askTune i_acts i_undone i_laid i_knowns i_time f_text f_tunes f_houses f_hums f_told f_many f_ruleFrom f_ruleTo f_code f_eWhat f_eSign f_all f_kept f_was f_sTune f_boxAll J214 L H211.size hI216) (cwV 0 hG (goodV gw1401 gw1403 gw61 gw138 gw1404) rfl rfl rfl hd_X9_isGood ⟨(Nat.le_of_ble_eq_true rfl), (Nat.le_of_ble_eq_true rfl)⟩) ⟨fbR, va_recv hK hP (ci := 8) (q0 := 0) rfl rfl, pR_in hP hK⟩ rfl rfl hl.1 rfl (lv_room (Nat.le_of_ble_eq_true rfl)) dX9_numeral_22 ⟨(Nat.le_of_ble_eq_true rfl), (Nat.le_of_ble_eq_true rfl)⟩) hS (fun q hq h => absurd hq (Nat.not_lt.mpr h)) (fun q h => hA q (Nat.le_trans hS.1 h)) (fun r_250 u_ t_ H249 locs ht hvm hw hB hz1 hk1 hS => ?_)
      subst hw
      have hP := wk hP hk1
      obtain ⟨f251, f252, f253⟩ := hB
      refine lv_if_eq (tgt := 53) hx hb dX9_numeral_25 (by decide) (fun c_254 => ?_) (fun c_254 => ((ob_173 (qi_ne c_254 rfl zc_0) f215 f251)).elim)
      have f255 : r_250.toInt = 0 := qi_eq c_254 rfl zc_0
      have f256 : x213.toInt ≠ 0 := (ob_174 im234 f215)
      have f257 : 1 ≤ x213.toInt := (ob_157 im234 f215)
      have f258 : r_250.toInt = 0 := (ob_166 f252 f253 f255)
      refine lv_aload_n hx hb dX9_numeral_53 rfl (lv_at hl 0 rfl) ?_
      refine gM_X9_209_0 hx hb hG hown hK hP dX9_numeral_54 ?_
      refine lv_istore_n (lv' := [(3, .int i_number), (0, .ref (r 0)), (1, .int p0), (2, .int p1)]) hx hb dX9_numeral_57 rfl hl (by decide) rfl (fun ls hl => ?_)
      refine lv_aload_n hx hb dX9_numeral_58 rfl (lv_at hl 1 rfl) ?_
      refine va_calli (va_runV (As := []) (rest := []) ⟨hx, hb, hml, hown, hG⟩ (kX9_isGood l dC dI r ct i_taped i_size x213 i_at i_end i_token i_number i_bank i_rb i_codes i_within i_piled i_unitsInRule i_askHouse i_askTune i_acts i_undone i_laid i_knowns i_time f_text f_tunes f_houses f_hums f_told f_many f_ruleFrom f_ruleTo f_code f_eWhat f_eSign f_all f_kept f_was f_sTune f_boxAll J214 L H249.size hI216) (cwV 0 hG (goodV gw1401 gw1403 gw61 gw138 gw1404) rfl rfl rfl hd_X9_isGood ⟨(Nat.le_of_ble_eq_true rfl), (Nat.le_of_ble_eq_true rfl)⟩) ⟨fbR, va_recv hK hP (ci := 8) (q0 := 0) rfl rfl, pR_in hP hK⟩ rfl rfl hl.1 rfl (lv_room (Nat.le_of_ble_eq_true rfl)) dX9_numeral_59 ⟨(Nat.le_of_ble_eq_true rfl), (Nat.le_of_ble_eq_true rfl)⟩) hS (fun q hq h => absurd hq (Nat.not_lt.mpr h)) (fun q h => hA q (Nat.le_trans hS.1 h)) (fun r_260 u_ t_ H259 locs ht hvm hw hB hz1 hk1 hS => ?_)
      subst hw
      have hP := wk hP hk1
      obtain ⟨f261, f262, f263⟩ := hB
      refine lv_if_eq (tgt := 69) hx hb dX9_numeral_62 (by decide) (fun c_264 => ?_) (fun c_264 => ((ob_173 (qi_ne c_264 rfl zc_0) f215 f261)).elim)
      have f265 : r_260.toInt = 0 := qi_eq c_264 rfl zc_0
      have f266 : x213.toInt ≠ 0 := (ob_174 im234 f215)
      have f267 : 1 ≤ x213.toInt := (ob_157 im234 f215)
      have f268 : r_260.toInt = 0 := (ob_166 f262 f263 f265)
      refine lv_aload_n hx hb dX9_numeral_69 rfl (lv_at hl 1 rfl) ?_
      refine va_calli (va_runV (As := []) (rest := []) ⟨hx, hb, hml, hown, hG⟩ (kX9_isGood l dC dI r ct i_taped i_size x213 i_at i_end i_token i_number i_bank i_rb i_codes i_within i_piled i_unitsInRule i_askHouse i_askTune i_acts i_undone i_laid i_knowns i_time f_text f_tunes f_houses f_hums f_told f_many f_ruleFrom f_ruleTo f_code f_eWhat f_eSign f_all f_kept f_was f_sTune f_boxAll J214 L H259.size hI216) (cwV 0 hG (goodV gw1401 gw1403 gw61 gw138 gw1404) rfl rfl rfl hd_X9_isGood ⟨(Nat.le_of_ble_eq_true rfl), (Nat.le_of_ble_eq_true rfl)⟩) ⟨fbR, va_recv hK hP (ci := 8) (q0 := 0) rfl rfl, pR_in hP hK⟩ rfl rfl hl.1 rfl (lv_room (Nat.le_of_ble_eq_true rfl)) dX9_numeral_70 ⟨(Nat.le_of_ble_eq_true rfl), (Nat.le_of_ble_eq_true rfl)⟩) hS (fun q hq h => absurd hq (Nat.not_lt.mpr h)) (fun q h => hA q (Nat.le_trans hS.1 h)) (fun r_270 u_ t_ H269 locs ht hvm hw hB hz1 hk1 hS => ?_)
      subst hw
      have hP := wk hP hk1
      obtain ⟨f271, f272, f273⟩ := hB
      refine lv_if_eq (tgt := 80) hx hb dX9_numeral_73 (by decide) (fun c_274 => ?_) (fun c_274 => ((ob_173 (qi_ne c_274 rfl zc_0) f215 f271)).elim)
      have f275 : r_270.toInt = 0 := qi_eq c_274 rfl zc_0
      have f276 : x213.toInt ≠ 0 := (ob_180 f215)
      have f277 : 1 ≤ x213.toInt := (ob_19 f215)
      have f278 : r_270.toInt = 0 := (ob_166 f272 f273 f275)
      refine lv_iload_n hx hb dX9_numeral_80 rfl (lv_at hl 2 rfl) ?_
      rw [hQ]
      exact W.iret (v := p0) hx hb hr (fun t ht hW => ⟨⟨p0, p0, rfl, rfl, ⟨x213, i_at, i_end, i_token, i_number, J214, L, by rw [ht]; exact hP, hD, hI216, (ob_88), (ob_87 hp0), (ob_88), (ob_161 f215)⟩⟩, hS.F ht⟩) hS.2.2 dX9_numeral_81
  · skip
    have f279 : r_4.toInt = 0 := qi_eq c_8 rfl zc_0
    have f280 : i_faultKind.toInt ≠ 0 := (ob_164 f5 f279)
    have f281 : 1 ≤ i_faultKind.toInt := (ob_165 im17 f5 f280)
    have f282 : r_4.toInt = 0 := (ob_166 f6 f7 f279)
    refine lv_iload_n hx hb dX9_numeral_7 rfl (lv_at hl 1 rfl) ?_
    rw [hQ]
    exact W.iret (v := p0) hx hb hr (fun t ht hW => ⟨⟨p0, p0, rfl, rfl, ⟨i_faultKind, i_at, i_end, i_token, i_number, J, L, by rw [ht]; exact hP, hD, hI, (ob_88), (ob_87 hp0), (ob_88), (ob_167 im17 f281)⟩⟩, hS.F ht⟩) hS.2.2 dX9_numeral_8
set_option maxHeartbeats 4000000 in
set_option maxRecDepth 100000 in
theorem kX9_after (l : Launch) (dC : Nat → ClassId) (dI : Nat → Nat → Nat) (r : Nat → Nat) (ct : Nat → ClassId) (i_taped i_size i_faultKind i_at i_end i_token i_number i_bank i_rb i_codes i_within i_piled i_unitsInRule i_askHouse i_askTune i_acts i_undone i_laid i_knowns i_time : Int32) (f_text f_tunes f_houses f_hums f_told f_many f_ruleFrom f_ruleTo f_code f_eWhat f_eSign f_all f_kept f_was f_sTune f_boxAll : Nat → Int32) (J : Nat → Nat → Int32) (L : Nat → Nat → Int64) (p1 p2 : Int32) (p0 : Int64) (sz : Nat) (hI : (IM i_taped i_size i_faultKind i_at i_end i_bank i_rb i_acts i_undone i_laid i_knowns i_time f_tunes f_houses f_hums f_told f_many f_ruleFrom f_ruleTo f_code f_all f_kept f_was f_sTune f_boxAll)) (hp0 : p1.toInt ≤ p2.toInt) : Met l yX9_after (.code yX9_after cX9_after 5 (some .int) :: GW) { frames := 8, cells := 0, slots := 0, locals := 287 } (va_Pc [.ref (r 0), .long p0, .int p1, .int p2] (pW (dC, dI) (WM r ct i_taped i_size i_faultKind i_at i_end i_token i_number i_bank i_rb i_codes i_within i_piled i_unitsInRule i_askHouse i_askTune i_acts i_undone i_laid i_knowns i_time f_text f_tunes f_houses f_hums f_told f_many f_ruleFrom f_ruleTo f_code f_eWhat f_eSign f_all f_kept f_was f_sTune f_boxAll J L) (TM ct) sz)) (va_Qi (fun (r0 : Int32) (u : Int32) => r0 = u) (fun (u : Int32) (t : State) => ∃ (n_i_faultKind n_i_at n_i_end n_i_token n_i_number : Int32) (n_J : Nat → Nat → Int32) (n_L : Nat → Nat → Int64), va_P (dC, dI) vwCl (WM r ct i_taped i_size n_i_faultKind n_i_at n_i_end n_i_token n_i_number i_bank i_rb i_codes i_within i_piled i_unitsInRule i_askHouse i_askTune i_acts i_undone i_laid i_knowns i_time f_text f_tunes f_houses f_hums f_told f_many f_ruleFrom f_ruleTo f_code f_eWhat f_eSign f_all f_kept f_was f_sTune f_boxAll n_J n_L) t.heap ∧ va_D (va_A (WM r ct i_taped i_size i_faultKind i_at i_end i_token i_number i_bank i_rb i_codes i_within i_piled i_unitsInRule i_askHouse i_askTune i_acts i_undone i_laid i_knowns i_time f_text f_tunes f_houses f_hums f_told f_many f_ruleFrom f_ruleTo f_code f_eWhat f_eSign f_all f_kept f_was f_sTune f_boxAll J L) sz) (WM r ct i_taped i_size n_i_faultKind n_i_at n_i_end n_i_token n_i_number i_bank i_rb i_codes i_within i_piled i_unitsInRule i_askHouse i_askTune i_acts i_undone i_laid i_knowns i_time f_text f_tunes f_houses f_hums f_told f_many f_ruleFrom f_ruleTo f_code f_eWhat f_eSign f_all f_kept f_was f_sTune f_boxAll n_J n_L) ∧ (IM i_taped i_size n_i_faultKind n_i_at n_i_end i_bank i_rb i_acts i_undone i_laid i_knowns i_time f_tunes f_houses f_hums f_told f_many f_ruleFrom f_ruleTo f_code f_all f_kept f_was f_sTune f_boxAll) ∧ (p1.toInt ≤ u.toInt) ∧ (u.toInt ≤ p2.toInt) ∧ (i_end.toInt ≤ n_i_end.toInt) ∧ ((1 ≤ n_i_faultKind.toInt) ∨ ((n_i_faultKind.toInt = 0) ∧ (i_faultKind.toInt = 0) ∧ ((n_i_token.toInt = 0) ∨ (i_end.toInt + 1 ≤ n_i_end.toInt))))) (va_A (WM r ct i_taped i_size i_faultKind i_at i_end i_token i_number i_bank i_rb i_codes i_within i_piled i_unitsInRule i_askHouse i_askTune i_acts i_undone i_laid i_knowns i_time f_text f_tunes f_houses f_hums f_told f_many f_ruleFrom f_ruleTo f_code f_eWhat f_eSign f_all f_kept f_was f_sTune f_boxAll J L) sz)) 0 0 (va_A (WM r ct i_taped i_size i_faultKind i_at i_end i_token i_number i_bank i_rb i_codes i_within i_piled i_unitsInRule i_askHouse i_askTune i_acts i_undone i_laid i_knowns i_time f_text f_tunes f_houses f_hums f_told f_many f_ruleFrom f_ruleTo f_code f_eWhat f_eSign f_all f_kept f_was f_sTune f_boxAll J L) sz) := by
  refine Met.ofW (cc := cX9_after) (maxL := 5) (ret := (some .int)) (by decide) rfl ?_
  intro p e s m args below meth c0 s₁ B hml hv
  obtain ⟨rfl, hsz, hP, hK, hD0⟩ := hv
  have hx := B.exec
  have hb := B.bytes
  have hr := B.returns
  have hts := atoms_spec (ws := .code yX9_after cX9_after 5 (some .int) :: GW) B.pre
  have hG : ∀ w ∈ GW, w.before _ s = true := fun w h => hts w (List.mem_cons_of_mem _ h)
  have hown : s.vm.findClass RX9 = some m.cls := findClass_of_methodNamed B.named
  subst hsz
  have hD := hD0.self (sz := s.heap.size)
  generalize hAe : va_A (WM r ct i_taped i_size i_faultKind i_at i_end i_token i_number i_bank i_rb i_codes i_within i_piled i_unitsInRule i_askHouse i_askTune i_acts i_undone i_laid i_knowns i_time f_text f_tunes f_houses f_hums f_told f_many f_ruleFrom f_ruleTo f_code f_eWhat f_eSign f_all f_kept f_was f_sTune f_boxAll J L) s.heap.size = A at hD ⊢
  have hA : ∀ q : Nat, s.heap.size ≤ q → A q := fun q h => by rw [← hAe]; exact Or.inr h
  have hS : va_S A s.heap s.heap [] := va_S.rf
  have hP : va_P (dC, dI) vwCl (WM r ct i_taped i_size i_faultKind i_at i_end i_token i_number i_bank i_rb i_codes i_within i_piled i_unitsInRule i_askHouse i_askTune i_acts i_undone i_laid i_knowns i_time f_text f_tunes f_houses f_hums f_told f_many f_ruleFrom f_ruleTo f_code f_eWhat f_eSign f_all f_kept f_was f_sTune f_boxAll J L) s.heap := hP
  have hl := lv_entry ([.ref (r 0), .long p0, .int p1, .int p2]) (n := 5) (Nat.le_of_ble_eq_true rfl)
  rw [lg_entry_eq]
  generalize (lg_sl ([.ref (r 0), .long p0, .int p1, .int p2]) ++ List.replicate (5 - (lg_sl ([.ref (r 0), .long p0, .int p1, .int p2])).length) Slot.unset).toArray = ls at hl ⊢
  have hl : lv_has ls 5 [(0, .ref (r 0)), (1, .long p0), (3, .int p1), (4, .int p2)] := hl
  refine nameQ (fun Q hQ => ?_)
  obtain ⟨im0, im1, im2, im3, im4, im5, im6, im7, im8, im9, im10, im11, im12, im13, im14, im15, im16, im17, im18, im19, im20, im21, im22, im23, im24, im25, im26, im27, im28, im29, im30, im31⟩ := id hI
  have f1 : 0 ≤ (f_tunes (i_bank.toInt).toNat).toInt ∧ (f_tunes (i_bank.toInt).toNat).toInt ≤ 5 := im21 (i_bank.toInt)
  have f2 : 0 ≤ (f_houses (i_bank.toInt).toNat).toInt ∧ (f_houses (i_bank.toInt).toNat).toInt ≤ 4 := im22 (i_bank.toInt)
  refine lv_aload_n hx hb dX9_after_0 rfl (lv_at hl 0 rfl) ?_
  refine lv_aload_n hx hb dX9_after_1 rfl (lv_at hl 0 rfl) ?_
  refine lv_lload_n hx hb dX9_after_2 rfl (lv_at hl 1 rfl) ?_
  refine va_calli (va_runV (As := [.long p0]) (rest := [.ref (r 0)]) ⟨hx, hb, hml, hown, hG⟩ (kX9_isWord l dC dI r ct i_taped i_size i_faultKind i_at i_end i_token i_number i_bank i_rb i_codes i_within i_piled i_unitsInRule i_askHouse i_askTune i_acts i_undone i_laid i_knowns i_time f_text f_tunes f_houses f_hums f_told f_many f_ruleFrom f_ruleTo f_code f_eWhat f_eSign f_all f_kept f_was f_sTune f_boxAll J L p0 s.heap.size hI) (cwV 1 hG (goodV gw1413 gw1415 gw64 gw138 gw1416) rfl rfl rfl hd_X9_isWord ⟨(Nat.le_of_ble_eq_true rfl), (Nat.le_of_ble_eq_true rfl)⟩) ⟨fbR, va_recv hK hP (ci := 8) (q0 := 0) rfl rfl, pR_in hP hK⟩ rfl rfl hl.1 rfl (lv_room (Nat.le_of_ble_eq_true rfl)) dX9_after_3 ⟨(Nat.le_of_ble_eq_true rfl), (Nat.le_of_ble_eq_true rfl)⟩) hS (fun q hq h => absurd hq (Nat.not_lt.mpr h)) (fun q h => hA q (Nat.le_trans hS.1 h)) (fun r_4 u_ t_ H3 locs ht hvm hw hB hz1 hk1 hS => ?_)
  subst hw
  have hP := wk hP hk1
  obtain ⟨f5, f6, f7⟩ := hB
  have hFc := frA hD hS hA
  refine va_callv (va_runV (As := [.int r_4]) (rest := []) ⟨hx, hb, hml, hown, hG⟩ (kX9_must l dC dI r ct i_taped i_size i_faultKind i_at i_end i_token i_number i_bank i_rb i_codes i_within i_piled i_unitsInRule i_askHouse i_askTune i_acts i_undone i_laid i_knowns i_time f_text f_tunes f_houses f_hums f_told f_many f_ruleFrom f_ruleTo f_code f_eWhat f_eSign f_all f_kept f_was f_sTune f_boxAll J L r_4 H3.size hI (ob_181 f6 f7)) (cwV 1 hG (goodV gw1452 gw1454 gw73 gw138 gw1455) rfl rfl rfl hd_X9_must ⟨(Nat.le_of_ble_eq_true rfl), (Nat.le_of_ble_eq_true rfl)⟩) ⟨fbW, va_recv hK hP (ci := 8) (q0 := 0) rfl rfl, pW_in hP hK hD⟩ rfl rfl hl.1 rfl (lv_room (Nat.le_of_ble_eq_true rfl)) dX9_after_6 ⟨(Nat.le_of_ble_eq_true rfl), (Nat.le_of_ble_eq_true rfl)⟩) hS (fun q _ h => hFc q h) hFc (fun _ t_ H8 locs ht hvm hw hB hz1 hk1 hS => ?_)
  obtain ⟨x10, x11, x12, x13, x14, J15, L16, hP1, hD1, hI19, f17, f18⟩ := hB
  rw [ht] at hP1
  have hP := hP1
  have hD := dW hFc hD1
  obtain ⟨im20, im21, im22, im23, im24, im25, im26, im27, im28, im29, im30, im31, im32, im33, im34, im35, im36, im37, im38, im39, im40, im41, im42, im43, im44, im45, im46, im47, im48, im49, im50, im51⟩ := id hI19
  refine lv_aload_n hx hb dX9_after_9 rfl (lv_at hl 0 rfl) ?_
  refine lv_iload_n hx hb dX9_after_10 rfl (lv_at hl 2 rfl) ?_
  refine lv_iload hx hb dX9_after_11 (lv_at hl 3 rfl) ?_
  have hFc := frA hD hS hA
  refine va_calli (va_runV (As := [.int p1, .int p2]) (rest := []) ⟨hx, hb, hml, hown, hG⟩ (kX9_numeral l dC dI r ct i_taped i_size x10 x11 x12 x13 x14 i_bank i_rb i_codes i_within i_piled i_unitsInRule i_askHouse i_askTune i_acts i_undone i_laid i_knowns i_time f_text f_tunes f_houses f_hums f_told f_many f_ruleFrom f_ruleTo f_code f_eWhat f_eSign f_all f_kept f_was f_sTune f_boxAll J15 L16 p1 p2 H8.size hI19 (ob_87 hp0)) (cwV 2 hG (goodV gw1432 gw1434 gw68 gw138 gw1435) rfl rfl rfl hd_X9_numeral ⟨(Nat.le_of_ble_eq_true rfl), (Nat.le_of_ble_eq_true rfl)⟩) ⟨fbW, va_recv hK hP (ci := 8) (q0 := 0) rfl rfl, pW_in hP hK hD⟩ rfl rfl hl.1 rfl (lv_room (Nat.le_of_ble_eq_true rfl)) dX9_after_13 ⟨(Nat.le_of_ble_eq_true rfl), (Nat.le_of_ble_eq_true rfl)⟩) hS (fun q _ h => hFc q h) hFc (fun r_53 u_ t_ H52 locs ht hvm hw hB hz1 hk1 hS => ?_)
  subst hw
  obtain ⟨x54, x55, x56, x57, x58, J59, L60, hP1, hD1, hI65, f61, f62, f63, f64⟩ := hB
  rw [ht] at hP1
  have hP := hP1
  have hD := dW hFc hD1
  obtain ⟨im66, im67, im68, im69, im70, im71, im72, im73, im74, im75, im76, im77, im78, im79, im80, im81, im82, im83, im84, im85, im86, im87, im88, im89, im90, im91, im92, im93, im94, im95, im96, im97⟩ := id hI65
  rw [hQ]
  exact W.iret (v := r_53) hx hb hr (fun t ht hW => ⟨⟨r_53, r_53, rfl, rfl, ⟨x54, x55, x56, x57, x58, J59, L60, by rw [ht]; exact hP, hD, hI65, (ob_177 hp0 f61 f62), (ob_178 hp0 f61 f62), (ob_109 f17 f63), (ob_182 f17 f18 f64)⟩⟩, hS.F ht⟩) hS.2.2 dX9_after_16
set_option maxHeartbeats 4000000 in
set_option maxRecDepth 100000 in
theorem kX9_fresh (l : Launch) (dC : Nat → ClassId) (dI : Nat → Nat → Nat) (r : Nat → Nat) (ct : Nat → ClassId) (i_taped i_size i_faultKind i_at i_end i_token i_number i_bank i_rb i_codes i_within i_piled i_unitsInRule i_askHouse i_askTune i_acts i_undone i_laid i_knowns i_time : Int32) (f_text f_tunes f_houses f_hums f_told f_many f_ruleFrom f_ruleTo f_code f_eWhat f_eSign f_all f_kept f_was f_sTune f_boxAll : Nat → Int32) (J : Nat → Nat → Int32) (L : Nat → Nat → Int64) (p0 : Int32) (sz : Nat) (hI : (IM i_taped i_size i_faultKind i_at i_end i_bank i_rb i_acts i_undone i_laid i_knowns i_time f_tunes f_houses f_hums f_told f_many f_ruleFrom f_ruleTo f_code f_all f_kept f_was f_sTune f_boxAll)) : Met l yX9_fresh (.code yX9_fresh cX9_fresh 4 (some .long) :: GW) { frames := 6, cells := 0, slots := 0, locals := 224 } (va_Pc [.ref (r 0), .int p0] (pW (dC, dI) (WM r ct i_taped i_size i_faultKind i_at i_end i_token i_number i_bank i_rb i_codes i_within i_piled i_unitsInRule i_askHouse i_askTune i_acts i_undone i_laid i_knowns i_time f_text f_tunes f_houses f_hums f_told f_many f_ruleFrom f_ruleTo f_code f_eWhat f_eSign f_all f_kept f_was f_sTune f_boxAll J L) (TM ct) sz)) (va_Ql (fun (_ : Int64) (_ : Unit) => True) (fun (_ : Unit) (t : State) => ∃ (n_i_faultKind n_i_at n_i_end n_i_token n_i_number : Int32) (n_J : Nat → Nat → Int32) (n_L : Nat → Nat → Int64), va_P (dC, dI) vwCl (WM r ct i_taped i_size n_i_faultKind n_i_at n_i_end n_i_token n_i_number i_bank i_rb i_codes i_within i_piled i_unitsInRule i_askHouse i_askTune i_acts i_undone i_laid i_knowns i_time f_text f_tunes f_houses f_hums f_told f_many f_ruleFrom f_ruleTo f_code f_eWhat f_eSign f_all f_kept f_was f_sTune f_boxAll n_J n_L) t.heap ∧ va_D (va_A (WM r ct i_taped i_size i_faultKind i_at i_end i_token i_number i_bank i_rb i_codes i_within i_piled i_unitsInRule i_askHouse i_askTune i_acts i_undone i_laid i_knowns i_time f_text f_tunes f_houses f_hums f_told f_many f_ruleFrom f_ruleTo f_code f_eWhat f_eSign f_all f_kept f_was f_sTune f_boxAll J L) sz) (WM r ct i_taped i_size n_i_faultKind n_i_at n_i_end n_i_token n_i_number i_bank i_rb i_codes i_within i_piled i_unitsInRule i_askHouse i_askTune i_acts i_undone i_laid i_knowns i_time f_text f_tunes f_houses f_hums f_told f_many f_ruleFrom f_ruleTo f_code f_eWhat f_eSign f_all f_kept f_was f_sTune f_boxAll n_J n_L) ∧ (IM i_taped i_size n_i_faultKind n_i_at n_i_end i_bank i_rb i_acts i_undone i_laid i_knowns i_time f_tunes f_houses f_hums f_told f_many f_ruleFrom f_ruleTo f_code f_all f_kept f_was f_sTune f_boxAll) ∧ (i_end.toInt ≤ n_i_end.toInt) ∧ ((1 ≤ n_i_faultKind.toInt) ∨ ((n_i_faultKind.toInt = 0) ∧ (i_faultKind.toInt = 0) ∧ ((n_i_token.toInt = 0) ∨ (i_end.toInt + 1 ≤ n_i_end.toInt))))) (va_A (WM r ct i_taped i_size i_faultKind i_at i_end i_token i_number i_bank i_rb i_codes i_within i_piled i_unitsInRule i_askHouse i_askTune i_acts i_undone i_laid i_knowns i_time f_text f_tunes f_houses f_hums f_told f_many f_ruleFrom f_ruleTo f_code f_eWhat f_eSign f_all f_kept f_was f_sTune f_boxAll J L) sz)) 0 0 (va_A (WM r ct i_taped i_size i_faultKind i_at i_end i_token i_number i_bank i_rb i_codes i_within i_piled i_unitsInRule i_askHouse i_askTune i_acts i_undone i_laid i_knowns i_time f_text f_tunes f_houses f_hums f_told f_many f_ruleFrom f_ruleTo f_code f_eWhat f_eSign f_all f_kept f_was f_sTune f_boxAll J L) sz) := by
  refine Met.ofW (cc := cX9_fresh) (maxL := 4) (ret := (some .long)) (by decide) rfl ?_
  intro p e s m args below meth c0 s₁ B hml hv
  obtain ⟨rfl, hsz, hP, hK, hD0⟩ := hv
  have hx := B.exec
  have hb := B.bytes
  have hr := B.returns
  have hts := atoms_spec (ws := .code yX9_fresh cX9_fresh 4 (some .long) :: GW) B.pre
  have hG : ∀ w ∈ GW, w.before _ s = true := fun w h => hts w (List.mem_cons_of_mem _ h)
  have hown : s.vm.findClass RX9 = some m.cls := findClass_of_methodNamed B.named
  subst hsz
  have hD := hD0.self (sz := s.heap.size)
  generalize hAe : va_A (WM r ct i_taped i_size i_faultKind i_at i_end i_token i_number i_bank i_rb i_codes i_within i_piled i_unitsInRule i_askHouse i_askTune i_acts i_undone i_laid i_knowns i_time f_text f_tunes f_houses f_hums f_told f_many f_ruleFrom f_ruleTo f_code f_eWhat f_eSign f_all f_kept f_was f_sTune f_boxAll J L) s.heap.size = A at hD ⊢
  have hA : ∀ q : Nat, s.heap.size ≤ q → A q := fun q h => by rw [← hAe]; exact Or.inr h
  have hS : va_S A s.heap s.heap [] := va_S.rf
  have hP : va_P (dC, dI) vwCl (WM r ct i_taped i_size i_faultKind i_at i_end i_token i_number i_bank i_rb i_codes i_within i_piled i_unitsInRule i_askHouse i_askTune i_acts i_undone i_laid i_knowns i_time f_text f_tunes f_houses f_hums f_told f_many f_ruleFrom f_ruleTo f_code f_eWhat f_eSign f_all f_kept f_was f_sTune f_boxAll J L) s.heap := hP
  have hl := lv_entry ([.ref (r 0), .int p0]) (n := 4) (Nat.le_of_ble_eq_true rfl)
  rw [lg_entry_eq]
  generalize (lg_sl ([.ref (r 0), .int p0]) ++ List.replicate (4 - (lg_sl ([.ref (r 0), .int p0])).length) Slot.unset).toArray = ls at hl ⊢
  have hl : lv_has ls 4 [(0, .ref (r 0)), (1, .int p0)] := hl
  refine nameQ (fun Q hQ => ?_)
  obtain ⟨im0, im1, im2, im3, im4, im5, im6, im7, im8, im9, im10, im11, im12, im13, im14, im15, im16, im17, im18, im19, im20, im21, im22, im23, im24, im25, im26, im27, im28, im29, im30, im31⟩ := id hI
  have f1 : 0 ≤ (f_tunes (i_bank.toInt).toNat).toInt ∧ (f_tunes (i_bank.toInt).toNat).toInt ≤ 5 := im21 (i_bank.toInt)
  have f2 : 0 ≤ (f_houses (i_bank.toInt).toNat).toInt ∧ (f_houses (i_bank.toInt).toNat).toInt ≤ 4 := im22 (i_bank.toInt)
  refine lv_aload_n hx hb dX9_fresh_0 rfl (lv_at hl 0 rfl) ?_
  refine va_calli (va_runV (As := []) (rest := []) ⟨hx, hb, hml, hown, hG⟩ (kX9_isGood l dC dI r ct i_taped i_size i_faultKind i_at i_end i_token i_number i_bank i_rb i_codes i_within i_piled i_unitsInRule i_askHouse i_askTune i_acts i_undone i_laid i_knowns i_time f_text f_tunes f_houses f_hums f_told f_many f_ruleFrom f_ruleTo f_code f_eWhat f_eSign f_all f_kept f_was f_sTune f_boxAll J L s.heap.size hI) (cwV 0 hG (goodV gw1401 gw1403 gw61 gw138 gw1404) rfl rfl rfl hd_X9_isGood ⟨(Nat.le_of_ble_eq_true rfl), (Nat.le_of_ble_eq_true rfl)⟩) ⟨fbR, va_recv hK hP (ci := 8) (q0 := 0) rfl rfl, pR_in hP hK⟩ rfl rfl hl.1 rfl (lv_room (Nat.le_of_ble_eq_true rfl)) dX9_fresh_1 ⟨(Nat.le_of_ble_eq_true rfl), (Nat.le_of_ble_eq_true rfl)⟩) hS (fun q hq h => absurd hq (Nat.not_lt.mpr h)) (fun q h => hA q (Nat.le_trans hS.1 h)) (fun r_4 u_ t_ H3 locs ht hvm hw hB hz1 hk1 hS => ?_)
  subst hw
  have hP := wk hP hk1
  obtain ⟨f5, f6, f7⟩ := hB
  refine lv_if_ne (tgt := 9) hx hb dX9_fresh_4 (by decide) (fun c_8 => ?_) (fun c_8 => ?_)
  · skip
    have f9 : r_4.toInt ≠ 0 := qi_ne c_8 rfl zc_0
    have f10 : 1 ≤ r_4.toInt := (ob_159 f5 f9)
    have f11 : i_faultKind.toInt = 0 := (ob_160 f5 f9)
    have f12 : r_4.toInt = 1 := (ob_105 f6 f7 f10)
    refine lv_aload_n hx hb dX9_fresh_9 rfl (lv_at hl 0 rfl) ?_
    refine gM_X9_191_0 hx hb hG hown hK hP dX9_fresh_10 ?_
    refine lv_iconst (v := 2) hx hb dX9_fresh_13 (by decide) ?_
    refine lv_icmp_eq (tgt := 24) hx hb dX9_fresh_14 (by decide) (fun c_13 => ?_) (fun c_13 => ?_)
    · skip
      have f14 : i_token.toInt = 2 := qi_eq c_13 rfl zc_2
      refine lv_iload_n hx hb dX9_fresh_24 rfl (lv_at hl 1 rfl) ?_
      refine lv_if_lt (tgt := 37) hx hb dX9_fresh_25 (by decide) (fun c_15 => ?_) (fun c_15 => ?_)
      · skip
        have f16 : p0.toInt < 0 := qi_lt c_15 rfl zc_0
        refine lv_aload_n hx hb dX9_fresh_37 rfl (lv_at hl 0 rfl) ?_
        refine gM_X9_198_0 hx hb hG hown hK hP dX9_fresh_38 ?_
        refine lv_lstore_n (lv' := [(2, .long (L 0 0)), (0, .ref (r 0)), (1, .int p0)]) hx hb dX9_fresh_41 rfl hl (by decide) rfl (fun ls hl => ?_)
        refine lv_aload_n hx hb dX9_fresh_42 rfl (lv_at hl 1 rfl) ?_
        refine va_calli (va_runV (As := []) (rest := []) ⟨hx, hb, hml, hown, hG⟩ (kX9_isGood l dC dI r ct i_taped i_size i_faultKind i_at i_end i_token i_number i_bank i_rb i_codes i_within i_piled i_unitsInRule i_askHouse i_askTune i_acts i_undone i_laid i_knowns i_time f_text f_tunes f_houses f_hums f_told f_many f_ruleFrom f_ruleTo f_code f_eWhat f_eSign f_all f_kept f_was f_sTune f_boxAll J L H3.size hI) (cwV 0 hG (goodV gw1401 gw1403 gw61 gw138 gw1404) rfl rfl rfl hd_X9_isGood ⟨(Nat.le_of_ble_eq_true rfl), (Nat.le_of_ble_eq_true rfl)⟩) ⟨fbR, va_recv hK hP (ci := 8) (q0 := 0) rfl rfl, pR_in hP hK⟩ rfl rfl hl.1 rfl (lv_room (Nat.le_of_ble_eq_true rfl)) dX9_fresh_43 ⟨(Nat.le_of_ble_eq_true rfl), (Nat.le_of_ble_eq_true rfl)⟩) hS (fun q hq h => absurd hq (Nat.not_lt.mpr h)) (fun q h => hA q (Nat.le_trans hS.1 h)) (fun r_18 u_ t_ H17 locs ht hvm hw hB hz1 hk1 hS => ?_)
        subst hw
        have hP := wk hP hk1
        obtain ⟨f19, f20, f21⟩ := hB
        refine lv_if_eq (tgt := 53) hx hb dX9_fresh_46 (by decide) (fun c_22 => ((ob_168 (qi_eq c_22 rfl zc_0) f11 f19)).elim) (fun c_22 => ?_)
        have f23 : r_18.toInt ≠ 0 := qi_ne c_22 rfl zc_0
        have f24 : i_faultKind.toInt = 0 := (ob_169 im17 f11)
        have f25 : r_18.toInt = 1 := (ob_170 f19 f23)
        have f26 : 1 ≤ r_18.toInt := (ob_171 f20 f21 f25)
        refine lv_aload_n hx hb dX9_fresh_49 rfl (lv_at hl 1 rfl) ?_
        have hFc := frA hD hS hA
        refine va_callv (va_runV (As := []) (rest := []) ⟨hx, hb, hml, hown, hG⟩ (kX9_goOn l dC dI r ct i_taped i_size i_faultKind i_at i_end i_token i_number i_bank i_rb i_codes i_within i_piled i_unitsInRule i_askHouse i_askTune i_acts i_undone i_laid i_knowns i_time f_text f_tunes f_houses f_hums f_told f_many f_ruleFrom f_ruleTo f_code f_eWhat f_eSign f_all f_kept f_was f_sTune f_boxAll J L H17.size hI) (cwV 0 hG (goodV gw1362 gw1364 gw59 gw138 gw1365) rfl rfl rfl hd_X9_goOn ⟨(Nat.le_of_ble_eq_true rfl), (Nat.le_of_ble_eq_true rfl)⟩) ⟨fbW, va_recv hK hP (ci := 8) (q0 := 0) rfl rfl, pW_in hP hK hD⟩ rfl rfl hl.1 rfl (lv_room (Nat.le_of_ble_eq_true rfl)) dX9_fresh_50 ⟨(Nat.le_of_ble_eq_true rfl), (Nat.le_of_ble_eq_true rfl)⟩) hS (fun q _ h => hFc q h) hFc (fun _ t_ H27 locs ht hvm hw hB hz1 hk1 hS => ?_)
        obtain ⟨x29, x30, x31, x32, L33, hP1, hD1, hI37, f34, f35, f36⟩ := hB
        rw [ht] at hP1
        have hP := hP1
        have hD := dW hFc hD1
        obtain ⟨im38, im39, im40, im41, im42, im43, im44, im45, im46, im47, im48, im49, im50, im51, im52, im53, im54, im55, im56, im57, im58, im59, im60, im61, im62, im63, im64, im65, im66, im67, im68, im69⟩ := id hI37
        refine lv_lload_n hx hb dX9_fresh_53 rfl (lv_at hl 0 rfl) ?_
        rw [hQ]
        exact W.lret (v := (L 0 0)) hx hb hr (fun t ht hW => ⟨⟨(L 0 0), (), rfl, trivial, ⟨i_faultKind, x29, x30, x31, x32, J, L33, by rw [ht]; exact hP, hD, hI37, (ob_87 f34), (ob_163 im17 f36)⟩⟩, hS.F ht⟩) hS.2.2 dX9_fresh_54
      · skip
        have f70 : 0 ≤ p0.toInt := qi_nlt c_15 rfl zc_0
        refine lv_aload_n hx hb dX9_fresh_28 rfl (lv_at hl 0 rfl) ?_
        refine lv_iconst (v := 3) hx hb dX9_fresh_29 (by decide) ?_
        refine lv_aload_n hx hb dX9_fresh_30 rfl (lv_at hl 0 rfl) ?_
        refine gM_X9_184_0 hx hb hG hown hK hP dX9_fresh_31 ?_
        have hFc := frA hD hS hA
        refine va_callv (va_runV (As := [.int 3, .int i_at]) (rest := []) ⟨hx, hb, hml, hown, hG⟩ (kX9_fails l dC dI r ct i_taped i_size i_faultKind i_at i_end i_token i_number i_bank i_rb i_codes i_within i_piled i_unitsInRule i_askHouse i_askTune i_acts i_undone i_laid i_knowns i_time f_text f_tunes f_houses f_hums f_told f_many f_ruleFrom f_ruleTo f_code f_eWhat f_eSign f_all f_kept f_was f_sTune f_boxAll J L 3 i_at H3.size hI (ob_183 zc_3)) (cwV 2 hG (goodV gw1424 gw1426 gw66 gw138 gw1427) rfl rfl rfl hd_X9_fails ⟨(Nat.le_of_ble_eq_true rfl), (Nat.le_of_ble_eq_true rfl)⟩) ⟨fbW, va_recv hK hP (ci := 8) (q0 := 0) rfl rfl, pW_in hP hK hD⟩ rfl rfl hl.1 rfl (lv_room (Nat.le_of_ble_eq_true rfl)) dX9_fresh_34 ⟨(Nat.le_of_ble_eq_true rfl), (Nat.le_of_ble_eq_true rfl)⟩) hS (fun q _ h => hFc q h) hFc (fun _ t_ H71 locs ht hvm hw hB hz1 hk1 hS => ?_)
        obtain ⟨x73, J74, hP1, hD1, hI76, f75⟩ := hB
        rw [ht] at hP1
        have hP := hP1
        have hD := dW hFc hD1
        obtain ⟨im77, im78, im79, im80, im81, im82, im83, im84, im85, im86, im87, im88, im89, im90, im91, im92, im93, im94, im95, im96, im97, im98, im99, im100, im101, im102, im103, im104, im105, im106, im107, im108⟩ := id hI76
        refine lv_aload_n hx hb dX9_fresh_37 rfl (lv_at hl 0 rfl) ?_
        refine gM_X9_198_0 hx hb hG hown hK hP dX9_fresh_38 ?_
        refine lv_lstore_n (lv' := [(2, .long (L 0 0)), (0, .ref (r 0)), (1, .int p0)]) hx hb dX9_fresh_41 rfl hl (by decide) rfl (fun ls hl => ?_)
        refine lv_aload_n hx hb dX9_fresh_42 rfl (lv_at hl 1 rfl) ?_
        refine va_calli (va_runV (As := []) (rest := []) ⟨hx, hb, hml, hown, hG⟩ (kX9_isGood l dC dI r ct i_taped i_size x73 i_at i_end i_token i_number i_bank i_rb i_codes i_within i_piled i_unitsInRule i_askHouse i_askTune i_acts i_undone i_laid i_knowns i_time f_text f_tunes f_houses f_hums f_told f_many f_ruleFrom f_ruleTo f_code f_eWhat f_eSign f_all f_kept f_was f_sTune f_boxAll J74 L H71.size hI76) (cwV 0 hG (goodV gw1401 gw1403 gw61 gw138 gw1404) rfl rfl rfl hd_X9_isGood ⟨(Nat.le_of_ble_eq_true rfl), (Nat.le_of_ble_eq_true rfl)⟩) ⟨fbR, va_recv hK hP (ci := 8) (q0 := 0) rfl rfl, pR_in hP hK⟩ rfl rfl hl.1 rfl (lv_room (Nat.le_of_ble_eq_true rfl)) dX9_fresh_43 ⟨(Nat.le_of_ble_eq_true rfl), (Nat.le_of_ble_eq_true rfl)⟩) hS (fun q hq h => absurd hq (Nat.not_lt.mpr h)) (fun q h => hA q (Nat.le_trans hS.1 h)) (fun r_110 u_ t_ H109 locs ht hvm hw hB hz1 hk1 hS => ?_)
        subst hw
        have hP := wk hP hk1
        obtain ⟨f111, f112, f113⟩ := hB
        refine lv_if_eq (tgt := 53) hx hb dX9_fresh_46 (by decide) (fun c_114 => ?_) (fun c_114 => ((ob_173 (qi_ne c_114 rfl zc_0) f75 f111)).elim)
        have f115 : r_110.toInt = 0 := qi_eq c_114 rfl zc_0
        have f116 : x73.toInt ≠ 0 := (ob_174 im94 f75)
        have f117 : 1 ≤ x73.toInt := (ob_157 im94 f75)
        have f118 : r_110.toInt = 0 := (ob_166 f112 f113 f115)
        refine lv_lload_n hx hb dX9_fresh_53 rfl (lv_at hl 0 rfl) ?_
        rw [hQ]
        exact W.lret (v := (L 0 0)) hx hb hr (fun t ht hW => ⟨⟨(L 0 0), (), rfl, trivial, ⟨x73, i_at, i_end, i_token, i_number, J74, L, by rw [ht]; exact hP, hD, hI76, (ob_88), (ob_161 f75)⟩⟩, hS.F ht⟩) hS.2.2 dX9_fresh_54
    · skip
      have f119 : i_token.toInt ≠ 2 := qi_ne c_13 rfl zc_2
      refine lv_aload_n hx hb dX9_fresh_17 rfl (lv_at hl 0 rfl) ?_
      have hFc := frA hD hS hA
      refine va_callv (va_runV (As := []) (rest := []) ⟨hx, hb, hml, hown, hG⟩ (kX9_misplaced l dC dI r ct i_taped i_size i_faultKind i_at i_end i_token i_number i_bank i_rb i_codes i_within i_piled i_unitsInRule i_askHouse i_askTune i_acts i_undone i_laid i_knowns i_time f_text f_tunes f_houses f_hums f_told f_many f_ruleFrom f_ruleTo f_code f_eWhat f_eSign f_all f_kept f_was f_sTune f_boxAll J L H3.size hI) (cwV 0 hG (goodV gw1420 gw1422 gw65 gw138 gw1423) rfl rfl rfl hd_X9_misplaced ⟨(Nat.le_of_ble_eq_true rfl), (Nat.le_of_ble_eq_true rfl)⟩) ⟨fbW, va_recv hK hP (ci := 8) (q0 := 0) rfl rfl, pW_in hP hK hD⟩ rfl rfl hl.1 rfl (lv_room (Nat.le_of_ble_eq_true rfl)) dX9_fresh_18 ⟨(Nat.le_of_ble_eq_true rfl), (Nat.le_of_ble_eq_true rfl)⟩) hS (fun q _ h => hFc q h) hFc (fun _ t_ H120 locs ht hvm hw hB hz1 hk1 hS => ?_)
      obtain ⟨x122, J123, hP1, hD1, hI125, f124⟩ := hB
      rw [ht] at hP1
      have hP := hP1
      have hD := dW hFc hD1
      obtain ⟨im126, im127, im128, im129, im130, im131, im132, im133, im134, im135, im136, im137, im138, im139, im140, im141, im142, im143, im144, im145, im146, im147, im148, im149, im150, im151, im152, im153, im154, im155, im156, im157⟩ := id hI125
      refine lv_goto (tgt := 37) hx hb dX9_fresh_21 (by decide) ?_
      refine lv_aload_n hx hb dX9_fresh_37 rfl (lv_at hl 0 rfl) ?_
      refine gM_X9_198_0 hx hb hG hown hK hP dX9_fresh_38 ?_
      refine lv_lstore_n (lv' := [(2, .long (L 0 0)), (0, .ref (r 0)), (1, .int p0)]) hx hb dX9_fresh_41 rfl hl (by decide) rfl (fun ls hl => ?_)
      refine lv_aload_n hx hb dX9_fresh_42 rfl (lv_at hl 1 rfl) ?_
      refine va_calli (va_runV (As := []) (rest := []) ⟨hx, hb, hml, hown, hG⟩ (kX9_isGood l dC dI r ct i_taped i_size x122 i_at i_end i_token i_number i_bank i_rb i_codes i_within i_piled i_unitsInRule i_askHouse i_askTune i_acts i_undone i_laid i_knowns i_time f_text f_tunes f_houses f_hums f_told f_many f_ruleFrom f_ruleTo f_code f_eWhat f_eSign f_all f_kept f_was f_sTune f_boxAll J123 L H120.size hI125) (cwV 0 hG (goodV gw1401 gw1403 gw61 gw138 gw1404) rfl rfl rfl hd_X9_isGood ⟨(Nat.le_of_ble_eq_true rfl), (Nat.le_of_ble_eq_true rfl)⟩) ⟨fbR, va_recv hK hP (ci := 8) (q0 := 0) rfl rfl, pR_in hP hK⟩ rfl rfl hl.1 rfl (lv_room (Nat.le_of_ble_eq_true rfl)) dX9_fresh_43 ⟨(Nat.le_of_ble_eq_true rfl), (Nat.le_of_ble_eq_true rfl)⟩) hS (fun q hq h => absurd hq (Nat.not_lt.mpr h)) (fun q h => hA q (Nat.le_trans hS.1 h)) (fun r_159 u_ t_ H158 locs ht hvm hw hB hz1 hk1 hS => ?_)
      subst hw
      have hP := wk hP hk1
      obtain ⟨f160, f161, f162⟩ := hB
      refine lv_if_eq (tgt := 53) hx hb dX9_fresh_46 (by decide) (fun c_163 => ?_) (fun c_163 => ((ob_173 (qi_ne c_163 rfl zc_0) f124 f160)).elim)
      have f164 : r_159.toInt = 0 := qi_eq c_163 rfl zc_0
      have f165 : x122.toInt ≠ 0 := (ob_174 im143 f124)
      have f166 : 1 ≤ x122.toInt := (ob_157 im143 f124)
      have f167 : r_159.toInt = 0 := (ob_166 f161 f162 f164)
      refine lv_lload_n hx hb dX9_fresh_53 rfl (lv_at hl 0 rfl) ?_
      rw [hQ]
      exact W.lret (v := (L 0 0)) hx hb hr (fun t ht hW => ⟨⟨(L 0 0), (), rfl, trivial, ⟨x122, i_at, i_end, i_token, i_number, J123, L, by rw [ht]; exact hP, hD, hI125, (ob_88), (ob_161 f124)⟩⟩, hS.F ht⟩) hS.2.2 dX9_fresh_54
  · skip
    have f168 : r_4.toInt = 0 := qi_eq c_8 rfl zc_0
    have f169 : i_faultKind.toInt ≠ 0 := (ob_164 f5 f168)
    have f170 : 1 ≤ i_faultKind.toInt := (ob_165 im17 f5 f169)
    have f171 : r_4.toInt = 0 := (ob_166 f6 f7 f168)
    refine lv_lconst (v := 0) hx hb dX9_fresh_7 (by decide) ?_
    rw [hQ]
    exact W.lret (v := (0 : Int64)) hx hb hr (fun t ht hW => ⟨⟨(0 : Int64), (), rfl, trivial, ⟨i_faultKind, i_at, i_end, i_token, i_number, J, L, by rw [ht]; exact hP, hD, hI, (ob_88), (ob_167 im17 f170)⟩⟩, hS.F ht⟩) hS.2.2 dX9_fresh_8
set_option maxHeartbeats 4000000 in
set_option maxRecDepth 100000 in
theorem kX9_wordHere (l : Launch) (dC : Nat → ClassId) (dI : Nat → Nat → Nat) (r : Nat → Nat) (ct : Nat → ClassId) (i_taped i_size i_faultKind i_at i_end i_token i_number i_bank i_rb i_codes i_within i_piled i_unitsInRule i_askHouse i_askTune i_acts i_undone i_laid i_knowns i_time : Int32) (f_text f_tunes f_houses f_hums f_told f_many f_ruleFrom f_ruleTo f_code f_eWhat f_eSign f_all f_kept f_was f_sTune f_boxAll : Nat → Int32) (J : Nat → Nat → Int32) (L : Nat → Nat → Int64) (sz : Nat) (hI : (IM i_taped i_size i_faultKind i_at i_end i_bank i_rb i_acts i_undone i_laid i_knowns i_time f_tunes f_houses f_hums f_told f_many f_ruleFrom f_ruleTo f_code f_all f_kept f_was f_sTune f_boxAll)) : Met l yX9_wordHere (.code yX9_wordHere cX9_wordHere 1 (some .int) :: GW) { frames := 4, cells := 0, slots := 0, locals := 162 } (va_Pc [.ref (r 0)] (pR (dC, dI) (WM r ct i_taped i_size i_faultKind i_at i_end i_token i_number i_bank i_rb i_codes i_within i_piled i_unitsInRule i_askHouse i_askTune i_acts i_undone i_laid i_knowns i_time f_text f_tunes f_houses f_hums f_told f_many f_ruleFrom f_ruleTo f_code f_eWhat f_eSign f_all f_kept f_was f_sTune f_boxAll J L) (TM ct) sz)) (va_Qi (fun (r0 : Int32) (u : Int32) => r0 = u) (fun (u : Int32) (t : State) => ((u.toInt = 0) ∨ ((97 ≤ u.toInt) ∧ (u.toInt ≤ 122) ∧ (i_token.toInt = 3)))) (fun q => sz ≤ q)) 0 0 (fun q => sz ≤ q) := by
  refine Met.ofW (cc := cX9_wordHere) (maxL := 1) (ret := (some .int)) (by decide) rfl ?_
  intro p e s m args below meth c0 s₁ B hml hv
  obtain ⟨rfl, hsz, hP, hK⟩ := hv
  have hx := B.exec
  have hb := B.bytes
  have hr := B.returns
  have hts := atoms_spec (ws := .code yX9_wordHere cX9_wordHere 1 (some .int) :: GW) B.pre
  have hG : ∀ w ∈ GW, w.before _ s = true := fun w h => hts w (List.mem_cons_of_mem _ h)
  have hown : s.vm.findClass RX9 = some m.cls := findClass_of_methodNamed B.named
  subst hsz
  have hS : va_S (fun q => s.heap.size ≤ q) s.heap s.heap [] := va_S.rf
  have hP : va_P (dC, dI) vwCl (WM r ct i_taped i_size i_faultKind i_at i_end i_token i_number i_bank i_rb i_codes i_within i_piled i_unitsInRule i_askHouse i_askTune i_acts i_undone i_laid i_knowns i_time f_text f_tunes f_houses f_hums f_told f_many f_ruleFrom f_ruleTo f_code f_eWhat f_eSign f_all f_kept f_was f_sTune f_boxAll J L) s.heap := hP
  have hl := lv_entry ([.ref (r 0)]) (n := 1) (Nat.le_of_ble_eq_true rfl)
  rw [lg_entry_eq]
  generalize (lg_sl ([.ref (r 0)]) ++ List.replicate (1 - (lg_sl ([.ref (r 0)])).length) Slot.unset).toArray = ls at hl ⊢
  have hl : lv_has ls 1 [(0, .ref (r 0))] := hl
  refine nameQ (fun Q hQ => ?_)
  obtain ⟨im0, im1, im2, im3, im4, im5, im6, im7, im8, im9, im10, im11, im12, im13, im14, im15, im16, im17, im18, im19, im20, im21, im22, im23, im24, im25, im26, im27, im28, im29, im30, im31⟩ := id hI
  have f1 : 0 ≤ (f_tunes (i_bank.toInt).toNat).toInt ∧ (f_tunes (i_bank.toInt).toNat).toInt ≤ 5 := im21 (i_bank.toInt)
  have f2 : 0 ≤ (f_houses (i_bank.toInt).toNat).toInt ∧ (f_houses (i_bank.toInt).toNat).toInt ≤ 4 := im22 (i_bank.toInt)
  refine lv_aload_n hx hb dX9_wordHere_0 rfl (lv_at hl 0 rfl) ?_
  refine lv_ldc2 (v := 1935764837) hx hb hown (hG _ gw1387) dX9_wordHere_1 ?_
  refine va_calli (va_runV (As := [.long (1935764837 : Int64)]) (rest := []) ⟨hx, hb, hml, hown, hG⟩ (kX9_isWord l dC dI r ct i_taped i_size i_faultKind i_at i_end i_token i_number i_bank i_rb i_codes i_within i_piled i_unitsInRule i_askHouse i_askTune i_acts i_undone i_laid i_knowns i_time f_text f_tunes f_houses f_hums f_told f_many f_ruleFrom f_ruleTo f_code f_eWhat f_eSign f_all f_kept f_was f_sTune f_boxAll J L (1935764837 : Int64) s.heap.size hI) (cwV 1 hG (goodV gw1413 gw1415 gw64 gw138 gw1416) rfl rfl rfl hd_X9_isWord ⟨(Nat.le_of_ble_eq_true rfl), (Nat.le_of_ble_eq_true rfl)⟩) ⟨fbR, va_recv hK hP (ci := 8) (q0 := 0) rfl rfl, pR_in hP hK⟩ rfl rfl hl.1 rfl (lv_room (Nat.le_of_ble_eq_true rfl)) dX9_wordHere_4 ⟨(Nat.le_of_ble_eq_true rfl), (Nat.le_of_ble_eq_true rfl)⟩) hS (fun q hq h => absurd hq (Nat.not_lt.mpr h)) (fun q h => Nat.le_trans hS.1 h) (fun r_4 u_ t_ H3 locs ht hvm hw hB hz1 hk1 hS => ?_)
  subst hw
  have hP := wk hP hk1
  obtain ⟨f5, f6, f7⟩ := hB
  refine lv_if_eq (tgt := 13) hx hb dX9_wordHere_7 (by decide) (fun c_8 => ?_) (fun c_8 => ?_)
  · skip
    have f9 : r_4.toInt = 0 := qi_eq c_8 rfl zc_0
    refine lv_aload_n hx hb dX9_wordHere_13 rfl (lv_at hl 0 rfl) ?_
    refine lv_ldc2 (v := 1953854062) hx hb hown (hG _ gw1388) dX9_wordHere_14 ?_
    refine va_calli (va_runV (As := [.long (1953854062 : Int64)]) (rest := []) ⟨hx, hb, hml, hown, hG⟩ (kX9_isWord l dC dI r ct i_taped i_size i_faultKind i_at i_end i_token i_number i_bank i_rb i_codes i_within i_piled i_unitsInRule i_askHouse i_askTune i_acts i_undone i_laid i_knowns i_time f_text f_tunes f_houses f_hums f_told f_many f_ruleFrom f_ruleTo f_code f_eWhat f_eSign f_all f_kept f_was f_sTune f_boxAll J L (1953854062 : Int64) H3.size hI) (cwV 1 hG (goodV gw1413 gw1415 gw64 gw138 gw1416) rfl rfl rfl hd_X9_isWord ⟨(Nat.le_of_ble_eq_true rfl), (Nat.le_of_ble_eq_true rfl)⟩) ⟨fbR, va_recv hK hP (ci := 8) (q0 := 0) rfl rfl, pR_in hP hK⟩ rfl rfl hl.1 rfl (lv_room (Nat.le_of_ble_eq_true rfl)) dX9_wordHere_17 ⟨(Nat.le_of_ble_eq_true rfl), (Nat.le_of_ble_eq_true rfl)⟩) hS (fun q hq h => absurd hq (Nat.not_lt.mpr h)) (fun q h => Nat.le_trans hS.1 h) (fun r_11 u_ t_ H10 locs ht hvm hw hB hz1 hk1 hS => ?_)
    subst hw
    have hP := wk hP hk1
    obtain ⟨f12, f13, f14⟩ := hB
    refine lv_if_eq (tgt := 26) hx hb dX9_wordHere_20 (by decide) (fun c_15 => ?_) (fun c_15 => ?_)
    · skip
      have f16 : r_11.toInt = 0 := qi_eq c_15 rfl zc_0
      refine lv_aload_n hx hb dX9_wordHere_26 rfl (lv_at hl 0 rfl) ?_
      refine lv_ldc2 (v := 1819242087) hx hb hown (hG _ gw1389) dX9_wordHere_27 ?_
      refine va_calli (va_runV (As := [.long (1819242087 : Int64)]) (rest := []) ⟨hx, hb, hml, hown, hG⟩ (kX9_isWord l dC dI r ct i_taped i_size i_faultKind i_at i_end i_token i_number i_bank i_rb i_codes i_within i_piled i_unitsInRule i_askHouse i_askTune i_acts i_undone i_laid i_knowns i_time f_text f_tunes f_houses f_hums f_told f_many f_ruleFrom f_ruleTo f_code f_eWhat f_eSign f_all f_kept f_was f_sTune f_boxAll J L (1819242087 : Int64) H10.size hI) (cwV 1 hG (goodV gw1413 gw1415 gw64 gw138 gw1416) rfl rfl rfl hd_X9_isWord ⟨(Nat.le_of_ble_eq_true rfl), (Nat.le_of_ble_eq_true rfl)⟩) ⟨fbR, va_recv hK hP (ci := 8) (q0 := 0) rfl rfl, pR_in hP hK⟩ rfl rfl hl.1 rfl (lv_room (Nat.le_of_ble_eq_true rfl)) dX9_wordHere_30 ⟨(Nat.le_of_ble_eq_true rfl), (Nat.le_of_ble_eq_true rfl)⟩) hS (fun q hq h => absurd hq (Nat.not_lt.mpr h)) (fun q h => Nat.le_trans hS.1 h) (fun r_18 u_ t_ H17 locs ht hvm hw hB hz1 hk1 hS => ?_)
      subst hw
      have hP := wk hP hk1
      obtain ⟨f19, f20, f21⟩ := hB
      refine lv_if_eq (tgt := 39) hx hb dX9_wordHere_33 (by decide) (fun c_22 => ?_) (fun c_22 => ?_)
      · skip
        have f23 : r_18.toInt = 0 := qi_eq c_22 rfl zc_0
        refine lv_aload_n hx hb dX9_wordHere_39 rfl (lv_at hl 0 rfl) ?_
        refine lv_ldc2 (v := 2003792494) hx hb hown (hG _ gw1390) dX9_wordHere_40 ?_
        refine va_calli (va_runV (As := [.long (2003792494 : Int64)]) (rest := []) ⟨hx, hb, hml, hown, hG⟩ (kX9_isWord l dC dI r ct i_taped i_size i_faultKind i_at i_end i_token i_number i_bank i_rb i_codes i_within i_piled i_unitsInRule i_askHouse i_askTune i_acts i_undone i_laid i_knowns i_time f_text f_tunes f_houses f_hums f_told f_many f_ruleFrom f_ruleTo f_code f_eWhat f_eSign f_all f_kept f_was f_sTune f_boxAll J L (2003792494 : Int64) H17.size hI) (cwV 1 hG (goodV gw1413 gw1415 gw64 gw138 gw1416) rfl rfl rfl hd_X9_isWord ⟨(Nat.le_of_ble_eq_true rfl), (Nat.le_of_ble_eq_true rfl)⟩) ⟨fbR, va_recv hK hP (ci := 8) (q0 := 0) rfl rfl, pR_in hP hK⟩ rfl rfl hl.1 rfl (lv_room (Nat.le_of_ble_eq_true rfl)) dX9_wordHere_43 ⟨(Nat.le_of_ble_eq_true rfl), (Nat.le_of_ble_eq_true rfl)⟩) hS (fun q hq h => absurd hq (Nat.not_lt.mpr h)) (fun q h => Nat.le_trans hS.1 h) (fun r_25 u_ t_ H24 locs ht hvm hw hB hz1 hk1 hS => ?_)
        subst hw
        have hP := wk hP hk1
        obtain ⟨f26, f27, f28⟩ := hB
        refine lv_if_eq (tgt := 52) hx hb dX9_wordHere_46 (by decide) (fun c_29 => ?_) (fun c_29 => ?_)
        · skip
          have f30 : r_25.toInt = 0 := qi_eq c_29 rfl zc_0
          refine lv_aload_n hx hb dX9_wordHere_52 rfl (lv_at hl 0 rfl) ?_
          refine lv_ldc2 (v := 512802253683) hx hb hown (hG _ gw1391) dX9_wordHere_53 ?_
          refine va_calli (va_runV (As := [.long (512802253683 : Int64)]) (rest := []) ⟨hx, hb, hml, hown, hG⟩ (kX9_isWord l dC dI r ct i_taped i_size i_faultKind i_at i_end i_token i_number i_bank i_rb i_codes i_within i_piled i_unitsInRule i_askHouse i_askTune i_acts i_undone i_laid i_knowns i_time f_text f_tunes f_houses f_hums f_told f_many f_ruleFrom f_ruleTo f_code f_eWhat f_eSign f_all f_kept f_was f_sTune f_boxAll J L (512802253683 : Int64) H24.size hI) (cwV 1 hG (goodV gw1413 gw1415 gw64 gw138 gw1416) rfl rfl rfl hd_X9_isWord ⟨(Nat.le_of_ble_eq_true rfl), (Nat.le_of_ble_eq_true rfl)⟩) ⟨fbR, va_recv hK hP (ci := 8) (q0 := 0) rfl rfl, pR_in hP hK⟩ rfl rfl hl.1 rfl (lv_room (Nat.le_of_ble_eq_true rfl)) dX9_wordHere_56 ⟨(Nat.le_of_ble_eq_true rfl), (Nat.le_of_ble_eq_true rfl)⟩) hS (fun q hq h => absurd hq (Nat.not_lt.mpr h)) (fun q h => Nat.le_trans hS.1 h) (fun r_32 u_ t_ H31 locs ht hvm hw hB hz1 hk1 hS => ?_)
          subst hw
          have hP := wk hP hk1
          obtain ⟨f33, f34, f35⟩ := hB
          refine lv_if_eq (tgt := 65) hx hb dX9_wordHere_59 (by decide) (fun c_36 => ?_) (fun c_36 => ?_)
          · skip
            have f37 : r_32.toInt = 0 := qi_eq c_36 rfl zc_0
            refine lv_aload_n hx hb dX9_wordHere_65 rfl (lv_at hl 0 rfl) ?_
            refine lv_ldc2 (v := 482955846501) hx hb hown (hG _ gw1378) dX9_wordHere_66 ?_
            refine va_calli (va_runV (As := [.long (482955846501 : Int64)]) (rest := []) ⟨hx, hb, hml, hown, hG⟩ (kX9_isWord l dC dI r ct i_taped i_size i_faultKind i_at i_end i_token i_number i_bank i_rb i_codes i_within i_piled i_unitsInRule i_askHouse i_askTune i_acts i_undone i_laid i_knowns i_time f_text f_tunes f_houses f_hums f_told f_many f_ruleFrom f_ruleTo f_code f_eWhat f_eSign f_all f_kept f_was f_sTune f_boxAll J L (482955846501 : Int64) H31.size hI) (cwV 1 hG (goodV gw1413 gw1415 gw64 gw138 gw1416) rfl rfl rfl hd_X9_isWord ⟨(Nat.le_of_ble_eq_true rfl), (Nat.le_of_ble_eq_true rfl)⟩) ⟨fbR, va_recv hK hP (ci := 8) (q0 := 0) rfl rfl, pR_in hP hK⟩ rfl rfl hl.1 rfl (lv_room (Nat.le_of_ble_eq_true rfl)) dX9_wordHere_69 ⟨(Nat.le_of_ble_eq_true rfl), (Nat.le_of_ble_eq_true rfl)⟩) hS (fun q hq h => absurd hq (Nat.not_lt.mpr h)) (fun q h => Nat.le_trans hS.1 h) (fun r_39 u_ t_ H38 locs ht hvm hw hB hz1 hk1 hS => ?_)
            subst hw
            have hP := wk hP hk1
            obtain ⟨f40, f41, f42⟩ := hB
            refine lv_if_eq (tgt := 78) hx hb dX9_wordHere_72 (by decide) (fun c_43 => ?_) (fun c_43 => ?_)
            · skip
              have f44 : r_39.toInt = 0 := qi_eq c_43 rfl zc_0
              refine lv_aload_n hx hb dX9_wordHere_78 rfl (lv_at hl 0 rfl) ?_
              refine lv_ldc2 (v := 483006772069) hx hb hown (hG _ gw1382) dX9_wordHere_79 ?_
              refine va_calli (va_runV (As := [.long (483006772069 : Int64)]) (rest := []) ⟨hx, hb, hml, hown, hG⟩ (kX9_isWord l dC dI r ct i_taped i_size i_faultKind i_at i_end i_token i_number i_bank i_rb i_codes i_within i_piled i_unitsInRule i_askHouse i_askTune i_acts i_undone i_laid i_knowns i_time f_text f_tunes f_houses f_hums f_told f_many f_ruleFrom f_ruleTo f_code f_eWhat f_eSign f_all f_kept f_was f_sTune f_boxAll J L (483006772069 : Int64) H38.size hI) (cwV 1 hG (goodV gw1413 gw1415 gw64 gw138 gw1416) rfl rfl rfl hd_X9_isWord ⟨(Nat.le_of_ble_eq_true rfl), (Nat.le_of_ble_eq_true rfl)⟩) ⟨fbR, va_recv hK hP (ci := 8) (q0 := 0) rfl rfl, pR_in hP hK⟩ rfl rfl hl.1 rfl (lv_room (Nat.le_of_ble_eq_true rfl)) dX9_wordHere_82 ⟨(Nat.le_of_ble_eq_true rfl), (Nat.le_of_ble_eq_true rfl)⟩) hS (fun q hq h => absurd hq (Nat.not_lt.mpr h)) (fun q h => Nat.le_trans hS.1 h) (fun r_46 u_ t_ H45 locs ht hvm hw hB hz1 hk1 hS => ?_)
              subst hw
              have hP := wk hP hk1
              obtain ⟨f47, f48, f49⟩ := hB
              refine lv_if_eq (tgt := 93) hx hb dX9_wordHere_85 (by decide) (fun c_50 => ?_) (fun c_50 => ?_)
              · skip
                have f51 : r_46.toInt = 0 := qi_eq c_50 rfl zc_0
                refine lv_iconst (v := 0) hx hb dX9_wordHere_93 (by decide) ?_
                rw [hQ]
                exact W.iret (v := 0) hx hb hr (fun t ht hW => ⟨⟨0, 0, rfl, rfl, (ob_184 zc_0)⟩, hS.F ht⟩) hS.2.2 dX9_wordHere_94
              · skip
                have f52 : r_46.toInt ≠ 0 := qi_ne c_50 rfl zc_0
                have f53 : 1 ≤ r_46.toInt := (ob_185 f47 f52)
                have f54 : i_token.toInt = 3 := (ob_186 f47 f52)
                have f55 : r_46.toInt = 1 := (ob_105 f48 f49 f53)
                refine lv_bipush (v := 117) hx hb dX9_wordHere_88 (by decide) ?_
                refine lv_goto (tgt := 94) hx hb dX9_wordHere_90 (by decide) ?_
                rw [hQ]
                exact W.iret (v := 117) hx hb hr (fun t ht hW => ⟨⟨117, 117, rfl, rfl, (ob_187 f54 zc_117)⟩, hS.F ht⟩) hS.2.2 dX9_wordHere_94
            · skip
              have f56 : r_39.toInt ≠ 0 := qi_ne c_43 rfl zc_0
              have f57 : 1 ≤ r_39.toInt := (ob_185 f40 f56)
              have f58 : i_token.toInt = 3 := (ob_186 f40 f56)
              have f59 : r_39.toInt = 1 := (ob_105 f41 f42 f57)
              refine lv_bipush (v := 112) hx hb dX9_wordHere_75 (by decide) ?_
              rw [hQ]
              exact W.iret (v := 112) hx hb hr (fun t ht hW => ⟨⟨112, 112, rfl, rfl, (ob_188 f58 zc_112)⟩, hS.F ht⟩) hS.2.2 dX9_wordHere_77
          · skip
            have f60 : r_32.toInt ≠ 0 := qi_ne c_36 rfl zc_0
            have f61 : 1 ≤ r_32.toInt := (ob_185 f33 f60)
            have f62 : i_token.toInt = 3 := (ob_186 f33 f60)
            have f63 : r_32.toInt = 1 := (ob_105 f34 f35 f61)
            refine lv_bipush (v := 119) hx hb dX9_wordHere_62 (by decide) ?_
            rw [hQ]
            exact W.iret (v := 119) hx hb hr (fun t ht hW => ⟨⟨119, 119, rfl, rfl, (ob_189 f62 zc_119)⟩, hS.F ht⟩) hS.2.2 dX9_wordHere_64
        · skip
          have f64 : r_25.toInt ≠ 0 := qi_ne c_29 rfl zc_0
          have f65 : 1 ≤ r_25.toInt := (ob_185 f26 f64)
          have f66 : i_token.toInt = 3 := (ob_186 f26 f64)
          have f67 : r_25.toInt = 1 := (ob_105 f27 f28 f65)
          refine lv_bipush (v := 111) hx hb dX9_wordHere_49 (by decide) ?_
          rw [hQ]
          exact W.iret (v := 111) hx hb hr (fun t ht hW => ⟨⟨111, 111, rfl, rfl, (ob_190 f66 zc_111)⟩, hS.F ht⟩) hS.2.2 dX9_wordHere_51
      · skip
        have f68 : r_18.toInt ≠ 0 := qi_ne c_22 rfl zc_0
        have f69 : 1 ≤ r_18.toInt := (ob_185 f19 f68)
        have f70 : i_token.toInt = 3 := (ob_186 f19 f68)
        have f71 : r_18.toInt = 1 := (ob_105 f20 f21 f69)
        refine lv_bipush (v := 108) hx hb dX9_wordHere_36 (by decide) ?_
        rw [hQ]
        exact W.iret (v := 108) hx hb hr (fun t ht hW => ⟨⟨108, 108, rfl, rfl, (ob_191 f70 zc_108)⟩, hS.F ht⟩) hS.2.2 dX9_wordHere_38
    · skip
      have f72 : r_11.toInt ≠ 0 := qi_ne c_15 rfl zc_0
      have f73 : 1 ≤ r_11.toInt := (ob_185 f12 f72)
      have f74 : i_token.toInt = 3 := (ob_186 f12 f72)
      have f75 : r_11.toInt = 1 := (ob_105 f13 f14 f73)
      refine lv_bipush (v := 116) hx hb dX9_wordHere_23 (by decide) ?_
      rw [hQ]
      exact W.iret (v := 116) hx hb hr (fun t ht hW => ⟨⟨116, 116, rfl, rfl, (ob_192 f74 zc_116)⟩, hS.F ht⟩) hS.2.2 dX9_wordHere_25
  · skip
    have f76 : r_4.toInt ≠ 0 := qi_ne c_8 rfl zc_0
    have f77 : 1 ≤ r_4.toInt := (ob_185 f5 f76)
    have f78 : i_token.toInt = 3 := (ob_186 f5 f76)
    have f79 : r_4.toInt = 1 := (ob_105 f6 f7 f77)
    refine lv_bipush (v := 115) hx hb dX9_wordHere_10 (by decide) ?_
    rw [hQ]
    exact W.iret (v := 115) hx hb hr (fun t ht hW => ⟨⟨115, 115, rfl, rfl, (ob_193 f78 zc_115)⟩, hS.F ht⟩) hS.2.2 dX9_wordHere_12
set_option maxHeartbeats 4000000 in
set_option maxRecDepth 100000 in
theorem kX9_rankHere (l : Launch) (dC : Nat → ClassId) (dI : Nat → Nat → Nat) (r : Nat → Nat) (ct : Nat → ClassId) (i_taped i_size i_faultKind i_at i_end i_token i_number i_bank i_rb i_codes i_within i_piled i_unitsInRule i_askHouse i_askTune i_acts i_undone i_laid i_knowns i_time : Int32) (f_text f_tunes f_houses f_hums f_told f_many f_ruleFrom f_ruleTo f_code f_eWhat f_eSign f_all f_kept f_was f_sTune f_boxAll : Nat → Int32) (J : Nat → Nat → Int32) (L : Nat → Nat → Int64) (sz : Nat) (hI : (IM i_taped i_size i_faultKind i_at i_end i_bank i_rb i_acts i_undone i_laid i_knowns i_time f_tunes f_houses f_hums f_told f_many f_ruleFrom f_ruleTo f_code f_all f_kept f_was f_sTune f_boxAll)) : Met l yX9_rankHere (.code yX9_rankHere cX9_rankHere 1 (some .int) :: GW) { frames := 6, cells := 0, slots := 0, locals := 222 } (va_Pc [.ref (r 0)] (pR (dC, dI) (WM r ct i_taped i_size i_faultKind i_at i_end i_token i_number i_bank i_rb i_codes i_within i_piled i_unitsInRule i_askHouse i_askTune i_acts i_undone i_laid i_knowns i_time f_text f_tunes f_houses f_hums f_told f_many f_ruleFrom f_ruleTo f_code f_eWhat f_eSign f_all f_kept f_was f_sTune f_boxAll J L) (TM ct) sz)) (va_Qi (fun (r0 : Int32) (u : Int32) => r0 = u) (fun (u : Int32) (t : State) => (0 ≤ u.toInt) ∧ (u.toInt ≤ 6) ∧ (u.toInt ≠ 3) ∧ ((u.toInt = 0) ∨ (3 ≤ i_token.toInt)) ∧ ((4 ≤ u.toInt) → ((37 ≤ (sgz f_text i_size.toInt i_at.toInt)) ∧ ((sgz f_text i_size.toInt i_at.toInt) ≤ 62)))) (fun q => sz ≤ q)) 0 0 (fun q => sz ≤ q) := by
  refine Met.ofW (cc := cX9_rankHere) (maxL := 1) (ret := (some .int)) (by decide) rfl ?_
  intro p e s m args below meth c0 s₁ B hml hv
  obtain ⟨rfl, hsz, hP, hK⟩ := hv
  have hx := B.exec
  have hb := B.bytes
  have hr := B.returns
  have hts := atoms_spec (ws := .code yX9_rankHere cX9_rankHere 1 (some .int) :: GW) B.pre
  have hG : ∀ w ∈ GW, w.before _ s = true := fun w h => hts w (List.mem_cons_of_mem _ h)
  have hown : s.vm.findClass RX9 = some m.cls := findClass_of_methodNamed B.named
  subst hsz
  have hS : va_S (fun q => s.heap.size ≤ q) s.heap s.heap [] := va_S.rf
  have hP : va_P (dC, dI) vwCl (WM r ct i_taped i_size i_faultKind i_at i_end i_token i_number i_bank i_rb i_codes i_within i_piled i_unitsInRule i_askHouse i_askTune i_acts i_undone i_laid i_knowns i_time f_text f_tunes f_houses f_hums f_told f_many f_ruleFrom f_ruleTo f_code f_eWhat f_eSign f_all f_kept f_was f_sTune f_boxAll J L) s.heap := hP
  have hl := lv_entry ([.ref (r 0)]) (n := 1) (Nat.le_of_ble_eq_true rfl)
  rw [lg_entry_eq]
  generalize (lg_sl ([.ref (r 0)]) ++ List.replicate (1 - (lg_sl ([.ref (r 0)])).length) Slot.unset).toArray = ls at hl ⊢
  have hl : lv_has ls 1 [(0, .ref (r 0))] := hl
  refine nameQ (fun Q hQ => ?_)
  obtain ⟨im0, im1, im2, im3, im4, im5, im6, im7, im8, im9, im10, im11, im12, im13, im14, im15, im16, im17, im18, im19, im20, im21, im22, im23, im24, im25, im26, im27, im28, im29, im30, im31⟩ := id hI
  have f1 : 0 ≤ (f_tunes (i_bank.toInt).toNat).toInt ∧ (f_tunes (i_bank.toInt).toNat).toInt ≤ 5 := im21 (i_bank.toInt)
  have f2 : 0 ≤ (f_houses (i_bank.toInt).toNat).toInt ∧ (f_houses (i_bank.toInt).toNat).toInt ≤ 4 := im22 (i_bank.toInt)
  refine lv_aload_n hx hb dX9_rankHere_0 rfl (lv_at hl 0 rfl) ?_
  refine lv_ldc2 (v := 6385252) hx hb hown (hG _ gw1393) dX9_rankHere_1 ?_
  refine va_calli (va_runV (As := [.long (6385252 : Int64)]) (rest := []) ⟨hx, hb, hml, hown, hG⟩ (kX9_isWord l dC dI r ct i_taped i_size i_faultKind i_at i_end i_token i_number i_bank i_rb i_codes i_within i_piled i_unitsInRule i_askHouse i_askTune i_acts i_undone i_laid i_knowns i_time f_text f_tunes f_houses f_hums f_told f_many f_ruleFrom f_ruleTo f_code f_eWhat f_eSign f_all f_kept f_was f_sTune f_boxAll J L (6385252 : Int64) s.heap.size hI) (cwV 1 hG (goodV gw1413 gw1415 gw64 gw138 gw1416) rfl rfl rfl hd_X9_isWord ⟨(Nat.le_of_ble_eq_true rfl), (Nat.le_of_ble_eq_true rfl)⟩) ⟨fbR, va_recv hK hP (ci := 8) (q0 := 0) rfl rfl, pR_in hP hK⟩ rfl rfl hl.1 rfl (lv_room (Nat.le_of_ble_eq_true rfl)) dX9_rankHere_4 ⟨(Nat.le_of_ble_eq_true rfl), (Nat.le_of_ble_eq_true rfl)⟩) hS (fun q hq h => absurd hq (Nat.not_lt.mpr h)) (fun q h => Nat.le_trans hS.1 h) (fun r_4 u_ t_ H3 locs ht hvm hw hB hz1 hk1 hS => ?_)
  subst hw
  have hP := wk hP hk1
  obtain ⟨f5, f6, f7⟩ := hB
  refine lv_if_eq (tgt := 12) hx hb dX9_rankHere_7 (by decide) (fun c_8 => ?_) (fun c_8 => ?_)
  · skip
    have f9 : r_4.toInt = 0 := qi_eq c_8 rfl zc_0
    refine lv_aload_n hx hb dX9_rankHere_12 rfl (lv_at hl 0 rfl) ?_
    refine lv_ldc2 (v := 28530) hx hb hown (hG _ gw1392) dX9_rankHere_13 ?_
    refine va_calli (va_runV (As := [.long (28530 : Int64)]) (rest := []) ⟨hx, hb, hml, hown, hG⟩ (kX9_isWord l dC dI r ct i_taped i_size i_faultKind i_at i_end i_token i_number i_bank i_rb i_codes i_within i_piled i_unitsInRule i_askHouse i_askTune i_acts i_undone i_laid i_knowns i_time f_text f_tunes f_houses f_hums f_told f_many f_ruleFrom f_ruleTo f_code f_eWhat f_eSign f_all f_kept f_was f_sTune f_boxAll J L (28530 : Int64) H3.size hI) (cwV 1 hG (goodV gw1413 gw1415 gw64 gw138 gw1416) rfl rfl rfl hd_X9_isWord ⟨(Nat.le_of_ble_eq_true rfl), (Nat.le_of_ble_eq_true rfl)⟩) ⟨fbR, va_recv hK hP (ci := 8) (q0 := 0) rfl rfl, pR_in hP hK⟩ rfl rfl hl.1 rfl (lv_room (Nat.le_of_ble_eq_true rfl)) dX9_rankHere_16 ⟨(Nat.le_of_ble_eq_true rfl), (Nat.le_of_ble_eq_true rfl)⟩) hS (fun q hq h => absurd hq (Nat.not_lt.mpr h)) (fun q h => Nat.le_trans hS.1 h) (fun r_11 u_ t_ H10 locs ht hvm hw hB hz1 hk1 hS => ?_)
    subst hw
    have hP := wk hP hk1
    obtain ⟨f12, f13, f14⟩ := hB
    refine lv_if_eq (tgt := 24) hx hb dX9_rankHere_19 (by decide) (fun c_15 => ?_) (fun c_15 => ?_)
    · skip
      have f16 : r_11.toInt = 0 := qi_eq c_15 rfl zc_0
      refine lv_aload_n hx hb dX9_rankHere_24 rfl (lv_at hl 0 rfl) ?_
      refine lv_bipush (v := 60) hx hb dX9_rankHere_25 (by decide) ?_
      refine va_calli (va_runV (As := [.int 60]) (rest := []) ⟨hx, hb, hml, hown, hG⟩ (kX9_isSignHere l dC dI r ct i_taped i_size i_faultKind i_at i_end i_token i_number i_bank i_rb i_codes i_within i_piled i_unitsInRule i_askHouse i_askTune i_acts i_undone i_laid i_knowns i_time f_text f_tunes f_houses f_hums f_told f_many f_ruleFrom f_ruleTo f_code f_eWhat f_eSign f_all f_kept f_was f_sTune f_boxAll J L 60 H10.size hI) (cwV 1 hG (goodV gw1476 gw1478 gw79 gw138 gw1479) rfl rfl rfl hd_X9_isSignHere ⟨(Nat.le_of_ble_eq_true rfl), (Nat.le_of_ble_eq_true rfl)⟩) ⟨fbR, va_recv hK hP (ci := 8) (q0 := 0) rfl rfl, pR_in hP hK⟩ rfl rfl hl.1 rfl (lv_room (Nat.le_of_ble_eq_true rfl)) dX9_rankHere_27 ⟨(Nat.le_of_ble_eq_true rfl), (Nat.le_of_ble_eq_true rfl)⟩) hS (fun q hq h => absurd hq (Nat.not_lt.mpr h)) (fun q h => Nat.le_trans hS.1 h) (fun r_18 u_ t_ H17 locs ht hvm hw hB hz1 hk1 hS => ?_)
      subst hw
      have hP := wk hP hk1
      obtain ⟨f19, f20, f21⟩ := hB
      refine lv_if_ne (tgt := 51) hx hb dX9_rankHere_30 (by decide) (fun c_22 => ?_) (fun c_22 => ?_)
      · skip
        have f23 : r_18.toInt ≠ 0 := qi_ne c_22 rfl zc_0
        have f24 : 1 ≤ r_18.toInt := (ob_194 f19 f23 zc_60)
        have f25 : i_token.toInt = 5 := (ob_195 f19 f23 zc_60)
        have f26 : (sgz f_text i_size.toInt i_at.toInt) = 60 := (ob_196 f19 f23 zc_60)
        have f27 : r_18.toInt = 1 := (ob_105 f20 f21 f24)
        refine lv_iconst (v := 4) hx hb dX9_rankHere_51 (by decide) ?_
        rw [hQ]
        exact W.iret (v := 4) hx hb hr (fun t ht hW => ⟨⟨4, 4, rfl, rfl, ⟨(ob_197 zc_4), (ob_198 zc_4), (ob_199 zc_4), (ob_200 f25 zc_4), (ob_201 f26 zc_4)⟩⟩, hS.F ht⟩) hS.2.2 dX9_rankHere_52
      · skip
        have f28 : r_18.toInt = 0 := qi_eq c_22 rfl zc_0
        refine lv_aload_n hx hb dX9_rankHere_33 rfl (lv_at hl 0 rfl) ?_
        refine lv_bipush (v := 62) hx hb dX9_rankHere_34 (by decide) ?_
        refine va_calli (va_runV (As := [.int 62]) (rest := []) ⟨hx, hb, hml, hown, hG⟩ (kX9_isSignHere l dC dI r ct i_taped i_size i_faultKind i_at i_end i_token i_number i_bank i_rb i_codes i_within i_piled i_unitsInRule i_askHouse i_askTune i_acts i_undone i_laid i_knowns i_time f_text f_tunes f_houses f_hums f_told f_many f_ruleFrom f_ruleTo f_code f_eWhat f_eSign f_all f_kept f_was f_sTune f_boxAll J L 62 H17.size hI) (cwV 1 hG (goodV gw1476 gw1478 gw79 gw138 gw1479) rfl rfl rfl hd_X9_isSignHere ⟨(Nat.le_of_ble_eq_true rfl), (Nat.le_of_ble_eq_true rfl)⟩) ⟨fbR, va_recv hK hP (ci := 8) (q0 := 0) rfl rfl, pR_in hP hK⟩ rfl rfl hl.1 rfl (lv_room (Nat.le_of_ble_eq_true rfl)) dX9_rankHere_36 ⟨(Nat.le_of_ble_eq_true rfl), (Nat.le_of_ble_eq_true rfl)⟩) hS (fun q hq h => absurd hq (Nat.not_lt.mpr h)) (fun q h => Nat.le_trans hS.1 h) (fun r_30 u_ t_ H29 locs ht hvm hw hB hz1 hk1 hS => ?_)
        subst hw
        have hP := wk hP hk1
        obtain ⟨f31, f32, f33⟩ := hB
        refine lv_if_ne (tgt := 51) hx hb dX9_rankHere_39 (by decide) (fun c_34 => ?_) (fun c_34 => ?_)
        · skip
          have f35 : r_30.toInt ≠ 0 := qi_ne c_34 rfl zc_0
          have f36 : 1 ≤ r_30.toInt := (ob_202 f31 f35 zc_62)
          have f37 : i_token.toInt = 5 := (ob_203 f31 f35 zc_62)
          have f38 : (sgz f_text i_size.toInt i_at.toInt) = 62 := (ob_204 f31 f35 zc_62)
          have f39 : r_30.toInt = 1 := (ob_105 f32 f33 f36)
          refine lv_iconst (v := 4) hx hb dX9_rankHere_51 (by decide) ?_
          rw [hQ]
          exact W.iret (v := 4) hx hb hr (fun t ht hW => ⟨⟨4, 4, rfl, rfl, ⟨(ob_197 zc_4), (ob_198 zc_4), (ob_199 zc_4), (ob_200 f37 zc_4), (ob_205 f38 zc_4)⟩⟩, hS.F ht⟩) hS.2.2 dX9_rankHere_52
        · skip
          have f40 : r_30.toInt = 0 := qi_eq c_34 rfl zc_0
          refine lv_aload_n hx hb dX9_rankHere_42 rfl (lv_at hl 0 rfl) ?_
          refine lv_bipush (v := 61) hx hb dX9_rankHere_43 (by decide) ?_
          refine va_calli (va_runV (As := [.int 61]) (rest := []) ⟨hx, hb, hml, hown, hG⟩ (kX9_isSignHere l dC dI r ct i_taped i_size i_faultKind i_at i_end i_token i_number i_bank i_rb i_codes i_within i_piled i_unitsInRule i_askHouse i_askTune i_acts i_undone i_laid i_knowns i_time f_text f_tunes f_houses f_hums f_told f_many f_ruleFrom f_ruleTo f_code f_eWhat f_eSign f_all f_kept f_was f_sTune f_boxAll J L 61 H29.size hI) (cwV 1 hG (goodV gw1476 gw1478 gw79 gw138 gw1479) rfl rfl rfl hd_X9_isSignHere ⟨(Nat.le_of_ble_eq_true rfl), (Nat.le_of_ble_eq_true rfl)⟩) ⟨fbR, va_recv hK hP (ci := 8) (q0 := 0) rfl rfl, pR_in hP hK⟩ rfl rfl hl.1 rfl (lv_room (Nat.le_of_ble_eq_true rfl)) dX9_rankHere_45 ⟨(Nat.le_of_ble_eq_true rfl), (Nat.le_of_ble_eq_true rfl)⟩) hS (fun q hq h => absurd hq (Nat.not_lt.mpr h)) (fun q h => Nat.le_trans hS.1 h) (fun r_42 u_ t_ H41 locs ht hvm hw hB hz1 hk1 hS => ?_)
          subst hw
          have hP := wk hP hk1
          obtain ⟨f43, f44, f45⟩ := hB
          refine lv_if_eq (tgt := 53) hx hb dX9_rankHere_48 (by decide) (fun c_46 => ?_) (fun c_46 => ?_)
          · skip
            have f47 : r_42.toInt = 0 := qi_eq c_46 rfl zc_0
            refine lv_aload_n hx hb dX9_rankHere_53 rfl (lv_at hl 0 rfl) ?_
            refine lv_bipush (v := 43) hx hb dX9_rankHere_54 (by decide) ?_
            refine va_calli (va_runV (As := [.int 43]) (rest := []) ⟨hx, hb, hml, hown, hG⟩ (kX9_isSignHere l dC dI r ct i_taped i_size i_faultKind i_at i_end i_token i_number i_bank i_rb i_codes i_within i_piled i_unitsInRule i_askHouse i_askTune i_acts i_undone i_laid i_knowns i_time f_text f_tunes f_houses f_hums f_told f_many f_ruleFrom f_ruleTo f_code f_eWhat f_eSign f_all f_kept f_was f_sTune f_boxAll J L 43 H41.size hI) (cwV 1 hG (goodV gw1476 gw1478 gw79 gw138 gw1479) rfl rfl rfl hd_X9_isSignHere ⟨(Nat.le_of_ble_eq_true rfl), (Nat.le_of_ble_eq_true rfl)⟩) ⟨fbR, va_recv hK hP (ci := 8) (q0 := 0) rfl rfl, pR_in hP hK⟩ rfl rfl hl.1 rfl (lv_room (Nat.le_of_ble_eq_true rfl)) dX9_rankHere_56 ⟨(Nat.le_of_ble_eq_true rfl), (Nat.le_of_ble_eq_true rfl)⟩) hS (fun q hq h => absurd hq (Nat.not_lt.mpr h)) (fun q h => Nat.le_trans hS.1 h) (fun r_49 u_ t_ H48 locs ht hvm hw hB hz1 hk1 hS => ?_)
            subst hw
            have hP := wk hP hk1
            obtain ⟨f50, f51, f52⟩ := hB
            refine lv_if_ne (tgt := 71) hx hb dX9_rankHere_59 (by decide) (fun c_53 => ?_) (fun c_53 => ?_)
            · skip
              have f54 : r_49.toInt ≠ 0 := qi_ne c_53 rfl zc_0
              have f55 : 1 ≤ r_49.toInt := (ob_206 f50 f54 zc_43)
              have f56 : i_token.toInt = 5 := (ob_207 f50 f54 zc_43)
              have f57 : (sgz f_text i_size.toInt i_at.toInt) = 43 := (ob_208 f50 f54 zc_43)
              have f58 : r_49.toInt = 1 := (ob_105 f51 f52 f55)
              refine lv_iconst (v := 5) hx hb dX9_rankHere_71 (by decide) ?_
              rw [hQ]
              exact W.iret (v := 5) hx hb hr (fun t ht hW => ⟨⟨5, 5, rfl, rfl, ⟨(ob_209 zc_5), (ob_210 zc_5), (ob_211 zc_5), (ob_212 f56 zc_5), (ob_213 f57 zc_5)⟩⟩, hS.F ht⟩) hS.2.2 dX9_rankHere_72
            · skip
              have f59 : r_49.toInt = 0 := qi_eq c_53 rfl zc_0
              refine lv_aload_n hx hb dX9_rankHere_62 rfl (lv_at hl 0 rfl) ?_
              refine lv_bipush (v := 45) hx hb dX9_rankHere_63 (by decide) ?_
              refine va_calli (va_runV (As := [.int 45]) (rest := []) ⟨hx, hb, hml, hown, hG⟩ (kX9_isSignHere l dC dI r ct i_taped i_size i_faultKind i_at i_end i_token i_number i_bank i_rb i_codes i_within i_piled i_unitsInRule i_askHouse i_askTune i_acts i_undone i_laid i_knowns i_time f_text f_tunes f_houses f_hums f_told f_many f_ruleFrom f_ruleTo f_code f_eWhat f_eSign f_all f_kept f_was f_sTune f_boxAll J L 45 H48.size hI) (cwV 1 hG (goodV gw1476 gw1478 gw79 gw138 gw1479) rfl rfl rfl hd_X9_isSignHere ⟨(Nat.le_of_ble_eq_true rfl), (Nat.le_of_ble_eq_true rfl)⟩) ⟨fbR, va_recv hK hP (ci := 8) (q0 := 0) rfl rfl, pR_in hP hK⟩ rfl rfl hl.1 rfl (lv_room (Nat.le_of_ble_eq_true rfl)) dX9_rankHere_65 ⟨(Nat.le_of_ble_eq_true rfl), (Nat.le_of_ble_eq_true rfl)⟩) hS (fun q hq h => absurd hq (Nat.not_lt.mpr h)) (fun q h => Nat.le_trans hS.1 h) (fun r_61 u_ t_ H60 locs ht hvm hw hB hz1 hk1 hS => ?_)
              subst hw
              have hP := wk hP hk1
              obtain ⟨f62, f63, f64⟩ := hB
              refine lv_if_eq (tgt := 73) hx hb dX9_rankHere_68 (by decide) (fun c_65 => ?_) (fun c_65 => ?_)
              · skip
                have f66 : r_61.toInt = 0 := qi_eq c_65 rfl zc_0
                refine lv_aload_n hx hb dX9_rankHere_73 rfl (lv_at hl 0 rfl) ?_
                refine lv_bipush (v := 42) hx hb dX9_rankHere_74 (by decide) ?_
                refine va_calli (va_runV (As := [.int 42]) (rest := []) ⟨hx, hb, hml, hown, hG⟩ (kX9_isSignHere l dC dI r ct i_taped i_size i_faultKind i_at i_end i_token i_number i_bank i_rb i_codes i_within i_piled i_unitsInRule i_askHouse i_askTune i_acts i_undone i_laid i_knowns i_time f_text f_tunes f_houses f_hums f_told f_many f_ruleFrom f_ruleTo f_code f_eWhat f_eSign f_all f_kept f_was f_sTune f_boxAll J L 42 H60.size hI) (cwV 1 hG (goodV gw1476 gw1478 gw79 gw138 gw1479) rfl rfl rfl hd_X9_isSignHere ⟨(Nat.le_of_ble_eq_true rfl), (Nat.le_of_ble_eq_true rfl)⟩) ⟨fbR, va_recv hK hP (ci := 8) (q0 := 0) rfl rfl, pR_in hP hK⟩ rfl rfl hl.1 rfl (lv_room (Nat.le_of_ble_eq_true rfl)) dX9_rankHere_76 ⟨(Nat.le_of_ble_eq_true rfl), (Nat.le_of_ble_eq_true rfl)⟩) hS (fun q hq h => absurd hq (Nat.not_lt.mpr h)) (fun q h => Nat.le_trans hS.1 h) (fun r_68 u_ t_ H67 locs ht hvm hw hB hz1 hk1 hS => ?_)
                subst hw
                have hP := wk hP hk1
                obtain ⟨f69, f70, f71⟩ := hB
                refine lv_if_ne (tgt := 100) hx hb dX9_rankHere_79 (by decide) (fun c_72 => ?_) (fun c_72 => ?_)
                · skip
                  have f73 : r_68.toInt ≠ 0 := qi_ne c_72 rfl zc_0
                  have f74 : 1 ≤ r_68.toInt := (ob_214 f69 f73 zc_42)
                  have f75 : i_token.toInt = 5 := (ob_215 f69 f73 zc_42)
                  have f76 : (sgz f_text i_size.toInt i_at.toInt) = 42 := (ob_216 f69 f73 zc_42)
                  have f77 : r_68.toInt = 1 := (ob_105 f70 f71 f74)
                  refine lv_bipush (v := 6) hx hb dX9_rankHere_100 (by decide) ?_
                  refine lv_goto (tgt := 106) hx hb dX9_rankHere_102 (by decide) ?_
                  rw [hQ]
                  exact W.iret (v := 6) hx hb hr (fun t ht hW => ⟨⟨6, 6, rfl, rfl, ⟨(ob_217 zc_6), (ob_218 zc_6), (ob_219 zc_6), (ob_220 f75 zc_6), (ob_221 f76 zc_6)⟩⟩, hS.F ht⟩) hS.2.2 dX9_rankHere_106
                · skip
                  have f78 : r_68.toInt = 0 := qi_eq c_72 rfl zc_0
                  refine lv_aload_n hx hb dX9_rankHere_82 rfl (lv_at hl 0 rfl) ?_
                  refine lv_bipush (v := 47) hx hb dX9_rankHere_83 (by decide) ?_
                  refine va_calli (va_runV (As := [.int 47]) (rest := []) ⟨hx, hb, hml, hown, hG⟩ (kX9_isSignHere l dC dI r ct i_taped i_size i_faultKind i_at i_end i_token i_number i_bank i_rb i_codes i_within i_piled i_unitsInRule i_askHouse i_askTune i_acts i_undone i_laid i_knowns i_time f_text f_tunes f_houses f_hums f_told f_many f_ruleFrom f_ruleTo f_code f_eWhat f_eSign f_all f_kept f_was f_sTune f_boxAll J L 47 H67.size hI) (cwV 1 hG (goodV gw1476 gw1478 gw79 gw138 gw1479) rfl rfl rfl hd_X9_isSignHere ⟨(Nat.le_of_ble_eq_true rfl), (Nat.le_of_ble_eq_true rfl)⟩) ⟨fbR, va_recv hK hP (ci := 8) (q0 := 0) rfl rfl, pR_in hP hK⟩ rfl rfl hl.1 rfl (lv_room (Nat.le_of_ble_eq_true rfl)) dX9_rankHere_85 ⟨(Nat.le_of_ble_eq_true rfl), (Nat.le_of_ble_eq_true rfl)⟩) hS (fun q hq h => absurd hq (Nat.not_lt.mpr h)) (fun q h => Nat.le_trans hS.1 h) (fun r_80 u_ t_ H79 locs ht hvm hw hB hz1 hk1 hS => ?_)
                  subst hw
                  have hP := wk hP hk1
                  obtain ⟨f81, f82, f83⟩ := hB
                  refine lv_if_ne (tgt := 100) hx hb dX9_rankHere_88 (by decide) (fun c_84 => ?_) (fun c_84 => ?_)
                  · skip
                    have f85 : r_80.toInt ≠ 0 := qi_ne c_84 rfl zc_0
                    have f86 : 1 ≤ r_80.toInt := (ob_222 f81 f85 zc_47)
                    have f87 : i_token.toInt = 5 := (ob_223 f81 f85 zc_47)
                    have f88 : (sgz f_text i_size.toInt i_at.toInt) = 47 := (ob_224 f81 f85 zc_47)
                    have f89 : r_80.toInt = 1 := (ob_105 f82 f83 f86)
                    refine lv_bipush (v := 6) hx hb dX9_rankHere_100 (by decide) ?_
                    refine lv_goto (tgt := 106) hx hb dX9_rankHere_102 (by decide) ?_
                    rw [hQ]
                    exact W.iret (v := 6) hx hb hr (fun t ht hW => ⟨⟨6, 6, rfl, rfl, ⟨(ob_217 zc_6), (ob_218 zc_6), (ob_219 zc_6), (ob_220 f87 zc_6), (ob_225 f88 zc_6)⟩⟩, hS.F ht⟩) hS.2.2 dX9_rankHere_106
                  · skip
                    have f90 : r_80.toInt = 0 := qi_eq c_84 rfl zc_0
                    refine lv_aload_n hx hb dX9_rankHere_91 rfl (lv_at hl 0 rfl) ?_
                    refine lv_bipush (v := 37) hx hb dX9_rankHere_92 (by decide) ?_
                    refine va_calli (va_runV (As := [.int 37]) (rest := []) ⟨hx, hb, hml, hown, hG⟩ (kX9_isSignHere l dC dI r ct i_taped i_size i_faultKind i_at i_end i_token i_number i_bank i_rb i_codes i_within i_piled i_unitsInRule i_askHouse i_askTune i_acts i_undone i_laid i_knowns i_time f_text f_tunes f_houses f_hums f_told f_many f_ruleFrom f_ruleTo f_code f_eWhat f_eSign f_all f_kept f_was f_sTune f_boxAll J L 37 H79.size hI) (cwV 1 hG (goodV gw1476 gw1478 gw79 gw138 gw1479) rfl rfl rfl hd_X9_isSignHere ⟨(Nat.le_of_ble_eq_true rfl), (Nat.le_of_ble_eq_true rfl)⟩) ⟨fbR, va_recv hK hP (ci := 8) (q0 := 0) rfl rfl, pR_in hP hK⟩ rfl rfl hl.1 rfl (lv_room (Nat.le_of_ble_eq_true rfl)) dX9_rankHere_94 ⟨(Nat.le_of_ble_eq_true rfl), (Nat.le_of_ble_eq_true rfl)⟩) hS (fun q hq h => absurd hq (Nat.not_lt.mpr h)) (fun q h => Nat.le_trans hS.1 h) (fun r_92 u_ t_ H91 locs ht hvm hw hB hz1 hk1 hS => ?_)
                    subst hw
                    have hP := wk hP hk1
                    obtain ⟨f93, f94, f95⟩ := hB
                    refine lv_if_eq (tgt := 105) hx hb dX9_rankHere_97 (by decide) (fun c_96 => ?_) (fun c_96 => ?_)
                    · skip
                      have f97 : r_92.toInt = 0 := qi_eq c_96 rfl zc_0
                      refine lv_iconst (v := 0) hx hb dX9_rankHere_105 (by decide) ?_
                      rw [hQ]
                      exact W.iret (v := 0) hx hb hr (fun t ht hW => ⟨⟨0, 0, rfl, rfl, ⟨(ob_1 zc_0), (ob_226 zc_0), (ob_227 zc_0), (ob_228 zc_0), (ob_229 zc_0)⟩⟩, hS.F ht⟩) hS.2.2 dX9_rankHere_106
                    · skip
                      have f98 : r_92.toInt ≠ 0 := qi_ne c_96 rfl zc_0
                      have f99 : 1 ≤ r_92.toInt := (ob_230 f93 f98 zc_37)
                      have f100 : i_token.toInt = 5 := (ob_231 f93 f98 zc_37)
                      have f101 : (sgz f_text i_size.toInt i_at.toInt) = 37 := (ob_232 f93 f98 zc_37)
                      have f102 : r_92.toInt = 1 := (ob_105 f94 f95 f99)
                      refine lv_bipush (v := 6) hx hb dX9_rankHere_100 (by decide) ?_
                      refine lv_goto (tgt := 106) hx hb dX9_rankHere_102 (by decide) ?_
                      rw [hQ]
                      exact W.iret (v := 6) hx hb hr (fun t ht hW => ⟨⟨6, 6, rfl, rfl, ⟨(ob_217 zc_6), (ob_218 zc_6), (ob_219 zc_6), (ob_220 f100 zc_6), (ob_233 f101 zc_6)⟩⟩, hS.F ht⟩) hS.2.2 dX9_rankHere_106
              · skip
                have f103 : r_61.toInt ≠ 0 := qi_ne c_65 rfl zc_0
                have f104 : 1 ≤ r_61.toInt := (ob_234 f62 f103 zc_45)
                have f105 : i_token.toInt = 5 := (ob_235 f62 f103 zc_45)
                have f106 : (sgz f_text i_size.toInt i_at.toInt) = 45 := (ob_236 f62 f103 zc_45)
                have f107 : r_61.toInt = 1 := (ob_105 f63 f64 f104)
                refine lv_iconst (v := 5) hx hb dX9_rankHere_71 (by decide) ?_
                rw [hQ]
                exact W.iret (v := 5) hx hb hr (fun t ht hW => ⟨⟨5, 5, rfl, rfl, ⟨(ob_209 zc_5), (ob_210 zc_5), (ob_211 zc_5), (ob_212 f105 zc_5), (ob_237 f106 zc_5)⟩⟩, hS.F ht⟩) hS.2.2 dX9_rankHere_72
          · skip
            have f108 : r_42.toInt ≠ 0 := qi_ne c_46 rfl zc_0
            have f109 : 1 ≤ r_42.toInt := (ob_238 f43 f108 zc_61)
            have f110 : i_token.toInt = 5 := (ob_239 f43 f108 zc_61)
            have f111 : (sgz f_text i_size.toInt i_at.toInt) = 61 := (ob_240 f43 f108 zc_61)
            have f112 : r_42.toInt = 1 := (ob_105 f44 f45 f109)
            refine lv_iconst (v := 4) hx hb dX9_rankHere_51 (by decide) ?_
            rw [hQ]
            exact W.iret (v := 4) hx hb hr (fun t ht hW => ⟨⟨4, 4, rfl, rfl, ⟨(ob_197 zc_4), (ob_198 zc_4), (ob_199 zc_4), (ob_200 f110 zc_4), (ob_241 f111 zc_4)⟩⟩, hS.F ht⟩) hS.2.2 dX9_rankHere_52
    · skip
      have f113 : r_11.toInt ≠ 0 := qi_ne c_15 rfl zc_0
      have f114 : 1 ≤ r_11.toInt := (ob_185 f12 f113)
      have f115 : i_token.toInt = 3 := (ob_186 f12 f113)
      have f116 : r_11.toInt = 1 := (ob_105 f13 f14 f114)
      refine lv_iconst (v := 1) hx hb dX9_rankHere_22 (by decide) ?_
      rw [hQ]
      exact W.iret (v := 1) hx hb hr (fun t ht hW => ⟨⟨1, 1, rfl, rfl, ⟨(ob_14 zc_1), (ob_242 zc_1), (ob_243 zc_1), (ob_244 f115 zc_1), (ob_245 zc_1)⟩⟩, hS.F ht⟩) hS.2.2 dX9_rankHere_23
  · skip
    have f117 : r_4.toInt ≠ 0 := qi_ne c_8 rfl zc_0
    have f118 : 1 ≤ r_4.toInt := (ob_185 f5 f117)
    have f119 : i_token.toInt = 3 := (ob_186 f5 f117)
    have f120 : r_4.toInt = 1 := (ob_105 f6 f7 f118)
    refine lv_iconst (v := 2) hx hb dX9_rankHere_10 (by decide) ?_
    rw [hQ]
    exact W.iret (v := 2) hx hb hr (fun t ht hW => ⟨⟨2, 2, rfl, rfl, ⟨(ob_246 zc_2), (ob_247 zc_2), (ob_248 zc_2), (ob_249 f119 zc_2), (ob_250 zc_2)⟩⟩, hS.F ht⟩) hS.2.2 dX9_rankHere_11
set_option maxHeartbeats 4000000 in
set_option maxRecDepth 100000 in
theorem kX9_two (l : Launch) (dC : Nat → ClassId) (dI : Nat → Nat → Nat) (p0 p1 p2 : Int32) (sz : Nat) : Met l yX9_two (.code yX9_two cX9_two 3 (some .int) :: GW) { frames := 2, cells := 0, slots := 0, locals := 100 } (va_Pc [.int p0, .int p1, .int p2] (pR (dC, dI) [] [] sz)) (va_Qi (fun (r0 : Int32) (u : Int32) => r0 = u) (fun (u : Int32) (t : State) => True) (fun q => sz ≤ q)) 0 0 (fun q => sz ≤ q) := by
  refine Met.ofW (cc := cX9_two) (maxL := 3) (ret := (some .int)) (by decide) rfl ?_
  intro p e s m args below meth c0 s₁ B hml hv
  obtain ⟨rfl, hsz, hP, hK⟩ := hv
  have hx := B.exec
  have hb := B.bytes
  have hr := B.returns
  have hts := atoms_spec (ws := .code yX9_two cX9_two 3 (some .int) :: GW) B.pre
  have hG : ∀ w ∈ GW, w.before _ s = true := fun w h => hts w (List.mem_cons_of_mem _ h)
  have hown : s.vm.findClass RX9 = some m.cls := findClass_of_methodNamed B.named
  subst hsz
  have hS : va_S (fun q => s.heap.size ≤ q) s.heap s.heap [] := va_S.rf
  have hP : va_P (dC, dI) vwCl [] s.heap := hP
  have hl := lv_entry ([.int p0, .int p1, .int p2]) (n := 3) (Nat.le_of_ble_eq_true rfl)
  rw [lg_entry_eq]
  generalize (lg_sl ([.int p0, .int p1, .int p2]) ++ List.replicate (3 - (lg_sl ([.int p0, .int p1, .int p2])).length) Slot.unset).toArray = ls at hl ⊢
  have hl : lv_has ls 3 [(0, .int p0), (1, .int p1), (2, .int p2)] := hl
  refine nameQ (fun Q hQ => ?_)
  refine lv_iload_n hx hb dX9_two_0 rfl (lv_at hl 0 rfl) ?_
  rcases ts_37_62 p0 with hs1 | hs1 | hs1 | hs1 | hs1 | hs1 | hs1 | hs1 | hs1 | hs1 | hs1 | hs1 | hs1 | hs1 | hs1 | hs1 | hs1 | hs1 | hs1 | hs1 | hs1 | hs1 | hs1 | hs1 | hs1 | hs1 | hs1
  · skip
    refine lv_tableOut (tgt := 203) hx hb dX9_two_1 hs1 (by decide) ?_
    refine lv_iload_n hx hb dX9_two_203 rfl (lv_at hl 1 rfl) ?_
    refine lv_if_ne (tgt := 211) hx hb dX9_two_204 (by decide) (fun c_2 => ?_) (fun c_2 => ?_)
    · skip
      have f3 : p1.toInt ≠ 0 := qi_ne c_2 rfl zc_0
      refine lv_iconst (v := 1) hx hb dX9_two_211 (by decide) ?_
      refine lv_goto (tgt := 216) hx hb dX9_two_212 (by decide) ?_
      rw [hQ]
      exact W.iret (v := 1) hx hb hr (fun t ht hW => ⟨⟨1, 1, rfl, rfl, trivial⟩, hS.F ht⟩) hS.2.2 dX9_two_216
    · skip
      have f4 : p1.toInt = 0 := qi_eq c_2 rfl zc_0
      refine lv_iload_n hx hb dX9_two_207 rfl (lv_at hl 2 rfl) ?_
      refine lv_if_eq (tgt := 215) hx hb dX9_two_208 (by decide) (fun c_5 => ?_) (fun c_5 => ?_)
      · skip
        have f6 : p2.toInt = 0 := qi_eq c_5 rfl zc_0
        refine lv_iconst (v := 0) hx hb dX9_two_215 (by decide) ?_
        rw [hQ]
        exact W.iret (v := 0) hx hb hr (fun t ht hW => ⟨⟨0, 0, rfl, rfl, trivial⟩, hS.F ht⟩) hS.2.2 dX9_two_216
      · skip
        have f7 : p2.toInt ≠ 0 := qi_ne c_5 rfl zc_0
        refine lv_iconst (v := 1) hx hb dX9_two_211 (by decide) ?_
        refine lv_goto (tgt := 216) hx hb dX9_two_212 (by decide) ?_
        rw [hQ]
        exact W.iret (v := 1) hx hb hr (fun t ht hW => ⟨⟨1, 1, rfl, rfl, trivial⟩, hS.F ht⟩) hS.2.2 dX9_two_216
  · skip
    refine lv_tableIn (off := 143) (tgt := 144) hx hb dX9_two_1 (by rw [hs1]; decide) (by rw [hs1]; decide) (by rw [hs1]; decide) (by decide) ?_
    have f8 : p0.toInt = 37 := qi_eq hs1 rfl zc_37
    refine lv_iload_n hx hb dX9_two_144 rfl (lv_at hl 2 rfl) ?_
    refine lv_if_ne (tgt := 152) hx hb dX9_two_145 (by decide) (fun c_9 => ?_) (fun c_9 => ?_)
    · skip
      have f10 : p2.toInt ≠ 0 := qi_ne c_9 rfl zc_0
      refine lv_iload_n hx hb dX9_two_152 rfl (lv_at hl 1 rfl) ?_
      refine lv_iload_n hx hb dX9_two_153 rfl (lv_at hl 2 rfl) ?_
      refine lv_irem hx hb dX9_two_154 (qi_nz0 (ob_251 f10)) ?_
      refine lv_topi (fun x11 ex11 => ?_)
      rw [hQ]
      exact W.iret (v := x11) hx hb hr (fun t ht hW => ⟨⟨x11, x11, rfl, rfl, trivial⟩, hS.F ht⟩) hS.2.2 dX9_two_155
    · skip
      have f12 : p2.toInt = 0 := qi_eq c_9 rfl zc_0
      refine lv_iconst (v := 0) hx hb dX9_two_148 (by decide) ?_
      refine lv_goto (tgt := 155) hx hb dX9_two_149 (by decide) ?_
      rw [hQ]
      exact W.iret (v := 0) hx hb hr (fun t ht hW => ⟨⟨0, 0, rfl, rfl, trivial⟩, hS.F ht⟩) hS.2.2 dX9_two_155
  · skip
    refine lv_tableIn (off := 188) (tgt := 189) hx hb dX9_two_1 (by rw [hs1]; decide) (by rw [hs1]; decide) (by rw [hs1]; decide) (by decide) ?_
    have f13 : p0.toInt = 38 := qi_eq hs1 rfl zc_38
    refine lv_iload_n hx hb dX9_two_189 rfl (lv_at hl 1 rfl) ?_
    refine lv_if_eq (tgt := 201) hx hb dX9_two_190 (by decide) (fun c_14 => ?_) (fun c_14 => ?_)
    · skip
      have f15 : p1.toInt = 0 := qi_eq c_14 rfl zc_0
      refine lv_iconst (v := 0) hx hb dX9_two_201 (by decide) ?_
      rw [hQ]
      exact W.iret (v := 0) hx hb hr (fun t ht hW => ⟨⟨0, 0, rfl, rfl, trivial⟩, hS.F ht⟩) hS.2.2 dX9_two_202
    · skip
      have f16 : p1.toInt ≠ 0 := qi_ne c_14 rfl zc_0
      refine lv_iload_n hx hb dX9_two_193 rfl (lv_at hl 2 rfl) ?_
      refine lv_if_eq (tgt := 201) hx hb dX9_two_194 (by decide) (fun c_17 => ?_) (fun c_17 => ?_)
      · skip
        have f18 : p2.toInt = 0 := qi_eq c_17 rfl zc_0
        refine lv_iconst (v := 0) hx hb dX9_two_201 (by decide) ?_
        rw [hQ]
        exact W.iret (v := 0) hx hb hr (fun t ht hW => ⟨⟨0, 0, rfl, rfl, trivial⟩, hS.F ht⟩) hS.2.2 dX9_two_202
      · skip
        have f19 : p2.toInt ≠ 0 := qi_ne c_17 rfl zc_0
        refine lv_iconst (v := 1) hx hb dX9_two_197 (by decide) ?_
        refine lv_goto (tgt := 202) hx hb dX9_two_198 (by decide) ?_
        rw [hQ]
        exact W.iret (v := 1) hx hb hr (fun t ht hW => ⟨⟨1, 1, rfl, rfl, trivial⟩, hS.F ht⟩) hS.2.2 dX9_two_202
  · skip
    refine lv_tableIn (off := 202) (tgt := 203) hx hb dX9_two_1 (by rw [hs1]; decide) (by rw [hs1]; decide) (by rw [hs1]; decide) (by decide) ?_
    have f20 : p0.toInt = 39 := qi_eq hs1 rfl zc_39
    refine lv_iload_n hx hb dX9_two_203 rfl (lv_at hl 1 rfl) ?_
    refine lv_if_ne (tgt := 211) hx hb dX9_two_204 (by decide) (fun c_21 => ?_) (fun c_21 => ?_)
    · skip
      have f22 : p1.toInt ≠ 0 := qi_ne c_21 rfl zc_0
      refine lv_iconst (v := 1) hx hb dX9_two_211 (by decide) ?_
      refine lv_goto (tgt := 216) hx hb dX9_two_212 (by decide) ?_
      rw [hQ]
      exact W.iret (v := 1) hx hb hr (fun t ht hW => ⟨⟨1, 1, rfl, rfl, trivial⟩, hS.F ht⟩) hS.2.2 dX9_two_216
    · skip
      have f23 : p1.toInt = 0 := qi_eq c_21 rfl zc_0
      refine lv_iload_n hx hb dX9_two_207 rfl (lv_at hl 2 rfl) ?_
      refine lv_if_eq (tgt := 215) hx hb dX9_two_208 (by decide) (fun c_24 => ?_) (fun c_24 => ?_)
      · skip
        have f25 : p2.toInt = 0 := qi_eq c_24 rfl zc_0
        refine lv_iconst (v := 0) hx hb dX9_two_215 (by decide) ?_
        rw [hQ]
        exact W.iret (v := 0) hx hb hr (fun t ht hW => ⟨⟨0, 0, rfl, rfl, trivial⟩, hS.F ht⟩) hS.2.2 dX9_two_216
      · skip
        have f26 : p2.toInt ≠ 0 := qi_ne c_24 rfl zc_0
        refine lv_iconst (v := 1) hx hb dX9_two_211 (by decide) ?_
        refine lv_goto (tgt := 216) hx hb dX9_two_212 (by decide) ?_
        rw [hQ]
        exact W.iret (v := 1) hx hb hr (fun t ht hW => ⟨⟨1, 1, rfl, rfl, trivial⟩, hS.F ht⟩) hS.2.2 dX9_two_216
  · skip
    refine lv_tableIn (off := 202) (tgt := 203) hx hb dX9_two_1 (by rw [hs1]; decide) (by rw [hs1]; decide) (by rw [hs1]; decide) (by decide) ?_
    have f27 : p0.toInt = 40 := qi_eq hs1 rfl zc_40
    refine lv_iload_n hx hb dX9_two_203 rfl (lv_at hl 1 rfl) ?_
    refine lv_if_ne (tgt := 211) hx hb dX9_two_204 (by decide) (fun c_28 => ?_) (fun c_28 => ?_)
    · skip
      have f29 : p1.toInt ≠ 0 := qi_ne c_28 rfl zc_0
      refine lv_iconst (v := 1) hx hb dX9_two_211 (by decide) ?_
      refine lv_goto (tgt := 216) hx hb dX9_two_212 (by decide) ?_
      rw [hQ]
      exact W.iret (v := 1) hx hb hr (fun t ht hW => ⟨⟨1, 1, rfl, rfl, trivial⟩, hS.F ht⟩) hS.2.2 dX9_two_216
    · skip
      have f30 : p1.toInt = 0 := qi_eq c_28 rfl zc_0
      refine lv_iload_n hx hb dX9_two_207 rfl (lv_at hl 2 rfl) ?_
      refine lv_if_eq (tgt := 215) hx hb dX9_two_208 (by decide) (fun c_31 => ?_) (fun c_31 => ?_)
      · skip
        have f32 : p2.toInt = 0 := qi_eq c_31 rfl zc_0
        refine lv_iconst (v := 0) hx hb dX9_two_215 (by decide) ?_
        rw [hQ]
        exact W.iret (v := 0) hx hb hr (fun t ht hW => ⟨⟨0, 0, rfl, rfl, trivial⟩, hS.F ht⟩) hS.2.2 dX9_two_216
      · skip
        have f33 : p2.toInt ≠ 0 := qi_ne c_31 rfl zc_0
        refine lv_iconst (v := 1) hx hb dX9_two_211 (by decide) ?_
        refine lv_goto (tgt := 216) hx hb dX9_two_212 (by decide) ?_
        rw [hQ]
        exact W.iret (v := 1) hx hb hr (fun t ht hW => ⟨⟨1, 1, rfl, rfl, trivial⟩, hS.F ht⟩) hS.2.2 dX9_two_216
  · skip
    refine lv_tableIn (off := 202) (tgt := 203) hx hb dX9_two_1 (by rw [hs1]; decide) (by rw [hs1]; decide) (by rw [hs1]; decide) (by decide) ?_
    have f34 : p0.toInt = 41 := qi_eq hs1 rfl zc_41
    refine lv_iload_n hx hb dX9_two_203 rfl (lv_at hl 1 rfl) ?_
    refine lv_if_ne (tgt := 211) hx hb dX9_two_204 (by decide) (fun c_35 => ?_) (fun c_35 => ?_)
    · skip
      have f36 : p1.toInt ≠ 0 := qi_ne c_35 rfl zc_0
      refine lv_iconst (v := 1) hx hb dX9_two_211 (by decide) ?_
      refine lv_goto (tgt := 216) hx hb dX9_two_212 (by decide) ?_
      rw [hQ]
      exact W.iret (v := 1) hx hb hr (fun t ht hW => ⟨⟨1, 1, rfl, rfl, trivial⟩, hS.F ht⟩) hS.2.2 dX9_two_216
    · skip
      have f37 : p1.toInt = 0 := qi_eq c_35 rfl zc_0
      refine lv_iload_n hx hb dX9_two_207 rfl (lv_at hl 2 rfl) ?_
      refine lv_if_eq (tgt := 215) hx hb dX9_two_208 (by decide) (fun c_38 => ?_) (fun c_38 => ?_)
      · skip
        have f39 : p2.toInt = 0 := qi_eq c_38 rfl zc_0
        refine lv_iconst (v := 0) hx hb dX9_two_215 (by decide) ?_
        rw [hQ]
        exact W.iret (v := 0) hx hb hr (fun t ht hW => ⟨⟨0, 0, rfl, rfl, trivial⟩, hS.F ht⟩) hS.2.2 dX9_two_216
      · skip
        have f40 : p2.toInt ≠ 0 := qi_ne c_38 rfl zc_0
        refine lv_iconst (v := 1) hx hb dX9_two_211 (by decide) ?_
        refine lv_goto (tgt := 216) hx hb dX9_two_212 (by decide) ?_
        rw [hQ]
        exact W.iret (v := 1) hx hb hr (fun t ht hW => ⟨⟨1, 1, rfl, rfl, trivial⟩, hS.F ht⟩) hS.2.2 dX9_two_216
  · skip
    refine lv_tableIn (off := 127) (tgt := 128) hx hb dX9_two_1 (by rw [hs1]; decide) (by rw [hs1]; decide) (by rw [hs1]; decide) (by decide) ?_
    have f41 : p0.toInt = 42 := qi_eq hs1 rfl zc_42
    refine lv_iload_n hx hb dX9_two_128 rfl (lv_at hl 1 rfl) ?_
    refine lv_iload_n hx hb dX9_two_129 rfl (lv_at hl 2 rfl) ?_
    refine lv_imul hx hb dX9_two_130 ?_
    refine lv_topi (fun x42 ex42 => ?_)
    rw [hQ]
    exact W.iret (v := x42) hx hb hr (fun t ht hW => ⟨⟨x42, x42, rfl, rfl, trivial⟩, hS.F ht⟩) hS.2.2 dX9_two_131
  · skip
    refine lv_tableIn (off := 119) (tgt := 120) hx hb dX9_two_1 (by rw [hs1]; decide) (by rw [hs1]; decide) (by rw [hs1]; decide) (by decide) ?_
    have f43 : p0.toInt = 43 := qi_eq hs1 rfl zc_43
    refine lv_iload_n hx hb dX9_two_120 rfl (lv_at hl 1 rfl) ?_
    refine lv_iload_n hx hb dX9_two_121 rfl (lv_at hl 2 rfl) ?_
    refine lv_iadd hx hb dX9_two_122 ?_
    refine lv_topi (fun x44 ex44 => ?_)
    rw [hQ]
    exact W.iret (v := x44) hx hb hr (fun t ht hW => ⟨⟨x44, x44, rfl, rfl, trivial⟩, hS.F ht⟩) hS.2.2 dX9_two_123
  · skip
    refine lv_tableIn (off := 202) (tgt := 203) hx hb dX9_two_1 (by rw [hs1]; decide) (by rw [hs1]; decide) (by rw [hs1]; decide) (by decide) ?_
    have f45 : p0.toInt = 44 := qi_eq hs1 rfl zc_44
    refine lv_iload_n hx hb dX9_two_203 rfl (lv_at hl 1 rfl) ?_
    refine lv_if_ne (tgt := 211) hx hb dX9_two_204 (by decide) (fun c_46 => ?_) (fun c_46 => ?_)
    · skip
      have f47 : p1.toInt ≠ 0 := qi_ne c_46 rfl zc_0
      refine lv_iconst (v := 1) hx hb dX9_two_211 (by decide) ?_
      refine lv_goto (tgt := 216) hx hb dX9_two_212 (by decide) ?_
      rw [hQ]
      exact W.iret (v := 1) hx hb hr (fun t ht hW => ⟨⟨1, 1, rfl, rfl, trivial⟩, hS.F ht⟩) hS.2.2 dX9_two_216
    · skip
      have f48 : p1.toInt = 0 := qi_eq c_46 rfl zc_0
      refine lv_iload_n hx hb dX9_two_207 rfl (lv_at hl 2 rfl) ?_
      refine lv_if_eq (tgt := 215) hx hb dX9_two_208 (by decide) (fun c_49 => ?_) (fun c_49 => ?_)
      · skip
        have f50 : p2.toInt = 0 := qi_eq c_49 rfl zc_0
        refine lv_iconst (v := 0) hx hb dX9_two_215 (by decide) ?_
        rw [hQ]
        exact W.iret (v := 0) hx hb hr (fun t ht hW => ⟨⟨0, 0, rfl, rfl, trivial⟩, hS.F ht⟩) hS.2.2 dX9_two_216
      · skip
        have f51 : p2.toInt ≠ 0 := qi_ne c_49 rfl zc_0
        refine lv_iconst (v := 1) hx hb dX9_two_211 (by decide) ?_
        refine lv_goto (tgt := 216) hx hb dX9_two_212 (by decide) ?_
        rw [hQ]
        exact W.iret (v := 1) hx hb hr (fun t ht hW => ⟨⟨1, 1, rfl, rfl, trivial⟩, hS.F ht⟩) hS.2.2 dX9_two_216
  · skip
    refine lv_tableIn (off := 123) (tgt := 124) hx hb dX9_two_1 (by rw [hs1]; decide) (by rw [hs1]; decide) (by rw [hs1]; decide) (by decide) ?_
    have f52 : p0.toInt = 45 := qi_eq hs1 rfl zc_45
    refine lv_iload_n hx hb dX9_two_124 rfl (lv_at hl 1 rfl) ?_
    refine lv_iload_n hx hb dX9_two_125 rfl (lv_at hl 2 rfl) ?_
    refine lv_isub hx hb dX9_two_126 ?_
    refine lv_topi (fun x53 ex53 => ?_)
    rw [hQ]
    exact W.iret (v := x53) hx hb hr (fun t ht hW => ⟨⟨x53, x53, rfl, rfl, trivial⟩, hS.F ht⟩) hS.2.2 dX9_two_127
  · skip
    refine lv_tableIn (off := 202) (tgt := 203) hx hb dX9_two_1 (by rw [hs1]; decide) (by rw [hs1]; decide) (by rw [hs1]; decide) (by decide) ?_
    have f54 : p0.toInt = 46 := qi_eq hs1 rfl zc_46
    refine lv_iload_n hx hb dX9_two_203 rfl (lv_at hl 1 rfl) ?_
    refine lv_if_ne (tgt := 211) hx hb dX9_two_204 (by decide) (fun c_55 => ?_) (fun c_55 => ?_)
    · skip
      have f56 : p1.toInt ≠ 0 := qi_ne c_55 rfl zc_0
      refine lv_iconst (v := 1) hx hb dX9_two_211 (by decide) ?_
      refine lv_goto (tgt := 216) hx hb dX9_two_212 (by decide) ?_
      rw [hQ]
      exact W.iret (v := 1) hx hb hr (fun t ht hW => ⟨⟨1, 1, rfl, rfl, trivial⟩, hS.F ht⟩) hS.2.2 dX9_two_216
    · skip
      have f57 : p1.toInt = 0 := qi_eq c_55 rfl zc_0
      refine lv_iload_n hx hb dX9_two_207 rfl (lv_at hl 2 rfl) ?_
      refine lv_if_eq (tgt := 215) hx hb dX9_two_208 (by decide) (fun c_58 => ?_) (fun c_58 => ?_)
      · skip
        have f59 : p2.toInt = 0 := qi_eq c_58 rfl zc_0
        refine lv_iconst (v := 0) hx hb dX9_two_215 (by decide) ?_
        rw [hQ]
        exact W.iret (v := 0) hx hb hr (fun t ht hW => ⟨⟨0, 0, rfl, rfl, trivial⟩, hS.F ht⟩) hS.2.2 dX9_two_216
      · skip
        have f60 : p2.toInt ≠ 0 := qi_ne c_58 rfl zc_0
        refine lv_iconst (v := 1) hx hb dX9_two_211 (by decide) ?_
        refine lv_goto (tgt := 216) hx hb dX9_two_212 (by decide) ?_
        rw [hQ]
        exact W.iret (v := 1) hx hb hr (fun t ht hW => ⟨⟨1, 1, rfl, rfl, trivial⟩, hS.F ht⟩) hS.2.2 dX9_two_216
  · skip
    refine lv_tableIn (off := 131) (tgt := 132) hx hb dX9_two_1 (by rw [hs1]; decide) (by rw [hs1]; decide) (by rw [hs1]; decide) (by decide) ?_
    have f61 : p0.toInt = 47 := qi_eq hs1 rfl zc_47
    refine lv_iload_n hx hb dX9_two_132 rfl (lv_at hl 2 rfl) ?_
    refine lv_if_ne (tgt := 140) hx hb dX9_two_133 (by decide) (fun c_62 => ?_) (fun c_62 => ?_)
    · skip
      have f63 : p2.toInt ≠ 0 := qi_ne c_62 rfl zc_0
      refine lv_iload_n hx hb dX9_two_140 rfl (lv_at hl 1 rfl) ?_
      refine lv_iload_n hx hb dX9_two_141 rfl (lv_at hl 2 rfl) ?_
      refine lv_idiv hx hb dX9_two_142 (qi_nz0 (ob_251 f63)) ?_
      refine lv_topi (fun x64 ex64 => ?_)
      rw [hQ]
      exact W.iret (v := x64) hx hb hr (fun t ht hW => ⟨⟨x64, x64, rfl, rfl, trivial⟩, hS.F ht⟩) hS.2.2 dX9_two_143
    · skip
      have f65 : p2.toInt = 0 := qi_eq c_62 rfl zc_0
      refine lv_iconst (v := 0) hx hb dX9_two_136 (by decide) ?_
      refine lv_goto (tgt := 143) hx hb dX9_two_137 (by decide) ?_
      rw [hQ]
      exact W.iret (v := 0) hx hb hr (fun t ht hW => ⟨⟨0, 0, rfl, rfl, trivial⟩, hS.F ht⟩) hS.2.2 dX9_two_143
  · skip
    refine lv_tableIn (off := 202) (tgt := 203) hx hb dX9_two_1 (by rw [hs1]; decide) (by rw [hs1]; decide) (by rw [hs1]; decide) (by decide) ?_
    have f66 : p0.toInt = 48 := qi_eq hs1 rfl zc_48
    refine lv_iload_n hx hb dX9_two_203 rfl (lv_at hl 1 rfl) ?_
    refine lv_if_ne (tgt := 211) hx hb dX9_two_204 (by decide) (fun c_67 => ?_) (fun c_67 => ?_)
    · skip
      have f68 : p1.toInt ≠ 0 := qi_ne c_67 rfl zc_0
      refine lv_iconst (v := 1) hx hb dX9_two_211 (by decide) ?_
      refine lv_goto (tgt := 216) hx hb dX9_two_212 (by decide) ?_
      rw [hQ]
      exact W.iret (v := 1) hx hb hr (fun t ht hW => ⟨⟨1, 1, rfl, rfl, trivial⟩, hS.F ht⟩) hS.2.2 dX9_two_216
    · skip
      have f69 : p1.toInt = 0 := qi_eq c_67 rfl zc_0
      refine lv_iload_n hx hb dX9_two_207 rfl (lv_at hl 2 rfl) ?_
      refine lv_if_eq (tgt := 215) hx hb dX9_two_208 (by decide) (fun c_70 => ?_) (fun c_70 => ?_)
      · skip
        have f71 : p2.toInt = 0 := qi_eq c_70 rfl zc_0
        refine lv_iconst (v := 0) hx hb dX9_two_215 (by decide) ?_
        rw [hQ]
        exact W.iret (v := 0) hx hb hr (fun t ht hW => ⟨⟨0, 0, rfl, rfl, trivial⟩, hS.F ht⟩) hS.2.2 dX9_two_216
      · skip
        have f72 : p2.toInt ≠ 0 := qi_ne c_70 rfl zc_0
        refine lv_iconst (v := 1) hx hb dX9_two_211 (by decide) ?_
        refine lv_goto (tgt := 216) hx hb dX9_two_212 (by decide) ?_
        rw [hQ]
        exact W.iret (v := 1) hx hb hr (fun t ht hW => ⟨⟨1, 1, rfl, rfl, trivial⟩, hS.F ht⟩) hS.2.2 dX9_two_216
  · skip
    refine lv_tableIn (off := 202) (tgt := 203) hx hb dX9_two_1 (by rw [hs1]; decide) (by rw [hs1]; decide) (by rw [hs1]; decide) (by decide) ?_
    have f73 : p0.toInt = 49 := qi_eq hs1 rfl zc_49
    refine lv_iload_n hx hb dX9_two_203 rfl (lv_at hl 1 rfl) ?_
    refine lv_if_ne (tgt := 211) hx hb dX9_two_204 (by decide) (fun c_74 => ?_) (fun c_74 => ?_)
    · skip
      have f75 : p1.toInt ≠ 0 := qi_ne c_74 rfl zc_0
      refine lv_iconst (v := 1) hx hb dX9_two_211 (by decide) ?_
      refine lv_goto (tgt := 216) hx hb dX9_two_212 (by decide) ?_
      rw [hQ]
      exact W.iret (v := 1) hx hb hr (fun t ht hW => ⟨⟨1, 1, rfl, rfl, trivial⟩, hS.F ht⟩) hS.2.2 dX9_two_216
    · skip
      have f76 : p1.toInt = 0 := qi_eq c_74 rfl zc_0
      refine lv_iload_n hx hb dX9_two_207 rfl (lv_at hl 2 rfl) ?_
      refine lv_if_eq (tgt := 215) hx hb dX9_two_208 (by decide) (fun c_77 => ?_) (fun c_77 => ?_)
      · skip
        have f78 : p2.toInt = 0 := qi_eq c_77 rfl zc_0
        refine lv_iconst (v := 0) hx hb dX9_two_215 (by decide) ?_
        rw [hQ]
        exact W.iret (v := 0) hx hb hr (fun t ht hW => ⟨⟨0, 0, rfl, rfl, trivial⟩, hS.F ht⟩) hS.2.2 dX9_two_216
      · skip
        have f79 : p2.toInt ≠ 0 := qi_ne c_77 rfl zc_0
        refine lv_iconst (v := 1) hx hb dX9_two_211 (by decide) ?_
        refine lv_goto (tgt := 216) hx hb dX9_two_212 (by decide) ?_
        rw [hQ]
        exact W.iret (v := 1) hx hb hr (fun t ht hW => ⟨⟨1, 1, rfl, rfl, trivial⟩, hS.F ht⟩) hS.2.2 dX9_two_216
  · skip
    refine lv_tableIn (off := 202) (tgt := 203) hx hb dX9_two_1 (by rw [hs1]; decide) (by rw [hs1]; decide) (by rw [hs1]; decide) (by decide) ?_
    have f80 : p0.toInt = 50 := qi_eq hs1 rfl zc_50
    refine lv_iload_n hx hb dX9_two_203 rfl (lv_at hl 1 rfl) ?_
    refine lv_if_ne (tgt := 211) hx hb dX9_two_204 (by decide) (fun c_81 => ?_) (fun c_81 => ?_)
    · skip
      have f82 : p1.toInt ≠ 0 := qi_ne c_81 rfl zc_0
      refine lv_iconst (v := 1) hx hb dX9_two_211 (by decide) ?_
      refine lv_goto (tgt := 216) hx hb dX9_two_212 (by decide) ?_
      rw [hQ]
      exact W.iret (v := 1) hx hb hr (fun t ht hW => ⟨⟨1, 1, rfl, rfl, trivial⟩, hS.F ht⟩) hS.2.2 dX9_two_216
    · skip
      have f83 : p1.toInt = 0 := qi_eq c_81 rfl zc_0
      refine lv_iload_n hx hb dX9_two_207 rfl (lv_at hl 2 rfl) ?_
      refine lv_if_eq (tgt := 215) hx hb dX9_two_208 (by decide) (fun c_84 => ?_) (fun c_84 => ?_)
      · skip
        have f85 : p2.toInt = 0 := qi_eq c_84 rfl zc_0
        refine lv_iconst (v := 0) hx hb dX9_two_215 (by decide) ?_
        rw [hQ]
        exact W.iret (v := 0) hx hb hr (fun t ht hW => ⟨⟨0, 0, rfl, rfl, trivial⟩, hS.F ht⟩) hS.2.2 dX9_two_216
      · skip
        have f86 : p2.toInt ≠ 0 := qi_ne c_84 rfl zc_0
        refine lv_iconst (v := 1) hx hb dX9_two_211 (by decide) ?_
        refine lv_goto (tgt := 216) hx hb dX9_two_212 (by decide) ?_
        rw [hQ]
        exact W.iret (v := 1) hx hb hr (fun t ht hW => ⟨⟨1, 1, rfl, rfl, trivial⟩, hS.F ht⟩) hS.2.2 dX9_two_216
  · skip
    refine lv_tableIn (off := 202) (tgt := 203) hx hb dX9_two_1 (by rw [hs1]; decide) (by rw [hs1]; decide) (by rw [hs1]; decide) (by decide) ?_
    have f87 : p0.toInt = 51 := qi_eq hs1 rfl zc_51
    refine lv_iload_n hx hb dX9_two_203 rfl (lv_at hl 1 rfl) ?_
    refine lv_if_ne (tgt := 211) hx hb dX9_two_204 (by decide) (fun c_88 => ?_) (fun c_88 => ?_)
    · skip
      have f89 : p1.toInt ≠ 0 := qi_ne c_88 rfl zc_0
      refine lv_iconst (v := 1) hx hb dX9_two_211 (by decide) ?_
      refine lv_goto (tgt := 216) hx hb dX9_two_212 (by decide) ?_
      rw [hQ]
      exact W.iret (v := 1) hx hb hr (fun t ht hW => ⟨⟨1, 1, rfl, rfl, trivial⟩, hS.F ht⟩) hS.2.2 dX9_two_216
    · skip
      have f90 : p1.toInt = 0 := qi_eq c_88 rfl zc_0
      refine lv_iload_n hx hb dX9_two_207 rfl (lv_at hl 2 rfl) ?_
      refine lv_if_eq (tgt := 215) hx hb dX9_two_208 (by decide) (fun c_91 => ?_) (fun c_91 => ?_)
      · skip
        have f92 : p2.toInt = 0 := qi_eq c_91 rfl zc_0
        refine lv_iconst (v := 0) hx hb dX9_two_215 (by decide) ?_
        rw [hQ]
        exact W.iret (v := 0) hx hb hr (fun t ht hW => ⟨⟨0, 0, rfl, rfl, trivial⟩, hS.F ht⟩) hS.2.2 dX9_two_216
      · skip
        have f93 : p2.toInt ≠ 0 := qi_ne c_91 rfl zc_0
        refine lv_iconst (v := 1) hx hb dX9_two_211 (by decide) ?_
        refine lv_goto (tgt := 216) hx hb dX9_two_212 (by decide) ?_
        rw [hQ]
        exact W.iret (v := 1) hx hb hr (fun t ht hW => ⟨⟨1, 1, rfl, rfl, trivial⟩, hS.F ht⟩) hS.2.2 dX9_two_216
  · skip
    refine lv_tableIn (off := 202) (tgt := 203) hx hb dX9_two_1 (by rw [hs1]; decide) (by rw [hs1]; decide) (by rw [hs1]; decide) (by decide) ?_
    have f94 : p0.toInt = 52 := qi_eq hs1 rfl zc_52
    refine lv_iload_n hx hb dX9_two_203 rfl (lv_at hl 1 rfl) ?_
    refine lv_if_ne (tgt := 211) hx hb dX9_two_204 (by decide) (fun c_95 => ?_) (fun c_95 => ?_)
    · skip
      have f96 : p1.toInt ≠ 0 := qi_ne c_95 rfl zc_0
      refine lv_iconst (v := 1) hx hb dX9_two_211 (by decide) ?_
      refine lv_goto (tgt := 216) hx hb dX9_two_212 (by decide) ?_
      rw [hQ]
      exact W.iret (v := 1) hx hb hr (fun t ht hW => ⟨⟨1, 1, rfl, rfl, trivial⟩, hS.F ht⟩) hS.2.2 dX9_two_216
    · skip
      have f97 : p1.toInt = 0 := qi_eq c_95 rfl zc_0
      refine lv_iload_n hx hb dX9_two_207 rfl (lv_at hl 2 rfl) ?_
      refine lv_if_eq (tgt := 215) hx hb dX9_two_208 (by decide) (fun c_98 => ?_) (fun c_98 => ?_)
      · skip
        have f99 : p2.toInt = 0 := qi_eq c_98 rfl zc_0
        refine lv_iconst (v := 0) hx hb dX9_two_215 (by decide) ?_
        rw [hQ]
        exact W.iret (v := 0) hx hb hr (fun t ht hW => ⟨⟨0, 0, rfl, rfl, trivial⟩, hS.F ht⟩) hS.2.2 dX9_two_216
      · skip
        have f100 : p2.toInt ≠ 0 := qi_ne c_98 rfl zc_0
        refine lv_iconst (v := 1) hx hb dX9_two_211 (by decide) ?_
        refine lv_goto (tgt := 216) hx hb dX9_two_212 (by decide) ?_
        rw [hQ]
        exact W.iret (v := 1) hx hb hr (fun t ht hW => ⟨⟨1, 1, rfl, rfl, trivial⟩, hS.F ht⟩) hS.2.2 dX9_two_216
  · skip
    refine lv_tableIn (off := 202) (tgt := 203) hx hb dX9_two_1 (by rw [hs1]; decide) (by rw [hs1]; decide) (by rw [hs1]; decide) (by decide) ?_
    have f101 : p0.toInt = 53 := qi_eq hs1 rfl zc_53
    refine lv_iload_n hx hb dX9_two_203 rfl (lv_at hl 1 rfl) ?_
    refine lv_if_ne (tgt := 211) hx hb dX9_two_204 (by decide) (fun c_102 => ?_) (fun c_102 => ?_)
    · skip
      have f103 : p1.toInt ≠ 0 := qi_ne c_102 rfl zc_0
      refine lv_iconst (v := 1) hx hb dX9_two_211 (by decide) ?_
      refine lv_goto (tgt := 216) hx hb dX9_two_212 (by decide) ?_
      rw [hQ]
      exact W.iret (v := 1) hx hb hr (fun t ht hW => ⟨⟨1, 1, rfl, rfl, trivial⟩, hS.F ht⟩) hS.2.2 dX9_two_216
    · skip
      have f104 : p1.toInt = 0 := qi_eq c_102 rfl zc_0
      refine lv_iload_n hx hb dX9_two_207 rfl (lv_at hl 2 rfl) ?_
      refine lv_if_eq (tgt := 215) hx hb dX9_two_208 (by decide) (fun c_105 => ?_) (fun c_105 => ?_)
      · skip
        have f106 : p2.toInt = 0 := qi_eq c_105 rfl zc_0
        refine lv_iconst (v := 0) hx hb dX9_two_215 (by decide) ?_
        rw [hQ]
        exact W.iret (v := 0) hx hb hr (fun t ht hW => ⟨⟨0, 0, rfl, rfl, trivial⟩, hS.F ht⟩) hS.2.2 dX9_two_216
      · skip
        have f107 : p2.toInt ≠ 0 := qi_ne c_105 rfl zc_0
        refine lv_iconst (v := 1) hx hb dX9_two_211 (by decide) ?_
        refine lv_goto (tgt := 216) hx hb dX9_two_212 (by decide) ?_
        rw [hQ]
        exact W.iret (v := 1) hx hb hr (fun t ht hW => ⟨⟨1, 1, rfl, rfl, trivial⟩, hS.F ht⟩) hS.2.2 dX9_two_216
  · skip
    refine lv_tableIn (off := 202) (tgt := 203) hx hb dX9_two_1 (by rw [hs1]; decide) (by rw [hs1]; decide) (by rw [hs1]; decide) (by decide) ?_
    have f108 : p0.toInt = 54 := qi_eq hs1 rfl zc_54
    refine lv_iload_n hx hb dX9_two_203 rfl (lv_at hl 1 rfl) ?_
    refine lv_if_ne (tgt := 211) hx hb dX9_two_204 (by decide) (fun c_109 => ?_) (fun c_109 => ?_)
    · skip
      have f110 : p1.toInt ≠ 0 := qi_ne c_109 rfl zc_0
      refine lv_iconst (v := 1) hx hb dX9_two_211 (by decide) ?_
      refine lv_goto (tgt := 216) hx hb dX9_two_212 (by decide) ?_
      rw [hQ]
      exact W.iret (v := 1) hx hb hr (fun t ht hW => ⟨⟨1, 1, rfl, rfl, trivial⟩, hS.F ht⟩) hS.2.2 dX9_two_216
    · skip
      have f111 : p1.toInt = 0 := qi_eq c_109 rfl zc_0
      refine lv_iload_n hx hb dX9_two_207 rfl (lv_at hl 2 rfl) ?_
      refine lv_if_eq (tgt := 215) hx hb dX9_two_208 (by decide) (fun c_112 => ?_) (fun c_112 => ?_)
      · skip
        have f113 : p2.toInt = 0 := qi_eq c_112 rfl zc_0
        refine lv_iconst (v := 0) hx hb dX9_two_215 (by decide) ?_
        rw [hQ]
        exact W.iret (v := 0) hx hb hr (fun t ht hW => ⟨⟨0, 0, rfl, rfl, trivial⟩, hS.F ht⟩) hS.2.2 dX9_two_216
      · skip
        have f114 : p2.toInt ≠ 0 := qi_ne c_112 rfl zc_0
        refine lv_iconst (v := 1) hx hb dX9_two_211 (by decide) ?_
        refine lv_goto (tgt := 216) hx hb dX9_two_212 (by decide) ?_
        rw [hQ]
        exact W.iret (v := 1) hx hb hr (fun t ht hW => ⟨⟨1, 1, rfl, rfl, trivial⟩, hS.F ht⟩) hS.2.2 dX9_two_216
  · skip
    refine lv_tableIn (off := 202) (tgt := 203) hx hb dX9_two_1 (by rw [hs1]; decide) (by rw [hs1]; decide) (by rw [hs1]; decide) (by decide) ?_
    have f115 : p0.toInt = 55 := qi_eq hs1 rfl zc_55
    refine lv_iload_n hx hb dX9_two_203 rfl (lv_at hl 1 rfl) ?_
    refine lv_if_ne (tgt := 211) hx hb dX9_two_204 (by decide) (fun c_116 => ?_) (fun c_116 => ?_)
    · skip
      have f117 : p1.toInt ≠ 0 := qi_ne c_116 rfl zc_0
      refine lv_iconst (v := 1) hx hb dX9_two_211 (by decide) ?_
      refine lv_goto (tgt := 216) hx hb dX9_two_212 (by decide) ?_
      rw [hQ]
      exact W.iret (v := 1) hx hb hr (fun t ht hW => ⟨⟨1, 1, rfl, rfl, trivial⟩, hS.F ht⟩) hS.2.2 dX9_two_216
    · skip
      have f118 : p1.toInt = 0 := qi_eq c_116 rfl zc_0
      refine lv_iload_n hx hb dX9_two_207 rfl (lv_at hl 2 rfl) ?_
      refine lv_if_eq (tgt := 215) hx hb dX9_two_208 (by decide) (fun c_119 => ?_) (fun c_119 => ?_)
      · skip
        have f120 : p2.toInt = 0 := qi_eq c_119 rfl zc_0
        refine lv_iconst (v := 0) hx hb dX9_two_215 (by decide) ?_
        rw [hQ]
        exact W.iret (v := 0) hx hb hr (fun t ht hW => ⟨⟨0, 0, rfl, rfl, trivial⟩, hS.F ht⟩) hS.2.2 dX9_two_216
      · skip
        have f121 : p2.toInt ≠ 0 := qi_ne c_119 rfl zc_0
        refine lv_iconst (v := 1) hx hb dX9_two_211 (by decide) ?_
        refine lv_goto (tgt := 216) hx hb dX9_two_212 (by decide) ?_
        rw [hQ]
        exact W.iret (v := 1) hx hb hr (fun t ht hW => ⟨⟨1, 1, rfl, rfl, trivial⟩, hS.F ht⟩) hS.2.2 dX9_two_216
  · skip
    refine lv_tableIn (off := 202) (tgt := 203) hx hb dX9_two_1 (by rw [hs1]; decide) (by rw [hs1]; decide) (by rw [hs1]; decide) (by decide) ?_
    have f122 : p0.toInt = 56 := qi_eq hs1 rfl zc_56
    refine lv_iload_n hx hb dX9_two_203 rfl (lv_at hl 1 rfl) ?_
    refine lv_if_ne (tgt := 211) hx hb dX9_two_204 (by decide) (fun c_123 => ?_) (fun c_123 => ?_)
    · skip
      have f124 : p1.toInt ≠ 0 := qi_ne c_123 rfl zc_0
      refine lv_iconst (v := 1) hx hb dX9_two_211 (by decide) ?_
      refine lv_goto (tgt := 216) hx hb dX9_two_212 (by decide) ?_
      rw [hQ]
      exact W.iret (v := 1) hx hb hr (fun t ht hW => ⟨⟨1, 1, rfl, rfl, trivial⟩, hS.F ht⟩) hS.2.2 dX9_two_216
    · skip
      have f125 : p1.toInt = 0 := qi_eq c_123 rfl zc_0
      refine lv_iload_n hx hb dX9_two_207 rfl (lv_at hl 2 rfl) ?_
      refine lv_if_eq (tgt := 215) hx hb dX9_two_208 (by decide) (fun c_126 => ?_) (fun c_126 => ?_)
      · skip
        have f127 : p2.toInt = 0 := qi_eq c_126 rfl zc_0
        refine lv_iconst (v := 0) hx hb dX9_two_215 (by decide) ?_
        rw [hQ]
        exact W.iret (v := 0) hx hb hr (fun t ht hW => ⟨⟨0, 0, rfl, rfl, trivial⟩, hS.F ht⟩) hS.2.2 dX9_two_216
      · skip
        have f128 : p2.toInt ≠ 0 := qi_ne c_126 rfl zc_0
        refine lv_iconst (v := 1) hx hb dX9_two_211 (by decide) ?_
        refine lv_goto (tgt := 216) hx hb dX9_two_212 (by decide) ?_
        rw [hQ]
        exact W.iret (v := 1) hx hb hr (fun t ht hW => ⟨⟨1, 1, rfl, rfl, trivial⟩, hS.F ht⟩) hS.2.2 dX9_two_216
  · skip
    refine lv_tableIn (off := 202) (tgt := 203) hx hb dX9_two_1 (by rw [hs1]; decide) (by rw [hs1]; decide) (by rw [hs1]; decide) (by decide) ?_
    have f129 : p0.toInt = 57 := qi_eq hs1 rfl zc_57
    refine lv_iload_n hx hb dX9_two_203 rfl (lv_at hl 1 rfl) ?_
    refine lv_if_ne (tgt := 211) hx hb dX9_two_204 (by decide) (fun c_130 => ?_) (fun c_130 => ?_)
    · skip
      have f131 : p1.toInt ≠ 0 := qi_ne c_130 rfl zc_0
      refine lv_iconst (v := 1) hx hb dX9_two_211 (by decide) ?_
      refine lv_goto (tgt := 216) hx hb dX9_two_212 (by decide) ?_
      rw [hQ]
      exact W.iret (v := 1) hx hb hr (fun t ht hW => ⟨⟨1, 1, rfl, rfl, trivial⟩, hS.F ht⟩) hS.2.2 dX9_two_216
    · skip
      have f132 : p1.toInt = 0 := qi_eq c_130 rfl zc_0
      refine lv_iload_n hx hb dX9_two_207 rfl (lv_at hl 2 rfl) ?_
      refine lv_if_eq (tgt := 215) hx hb dX9_two_208 (by decide) (fun c_133 => ?_) (fun c_133 => ?_)
      · skip
        have f134 : p2.toInt = 0 := qi_eq c_133 rfl zc_0
        refine lv_iconst (v := 0) hx hb dX9_two_215 (by decide) ?_
        rw [hQ]
        exact W.iret (v := 0) hx hb hr (fun t ht hW => ⟨⟨0, 0, rfl, rfl, trivial⟩, hS.F ht⟩) hS.2.2 dX9_two_216
      · skip
        have f135 : p2.toInt ≠ 0 := qi_ne c_133 rfl zc_0
        refine lv_iconst (v := 1) hx hb dX9_two_211 (by decide) ?_
        refine lv_goto (tgt := 216) hx hb dX9_two_212 (by decide) ?_
        rw [hQ]
        exact W.iret (v := 1) hx hb hr (fun t ht hW => ⟨⟨1, 1, rfl, rfl, trivial⟩, hS.F ht⟩) hS.2.2 dX9_two_216
  · skip
    refine lv_tableIn (off := 202) (tgt := 203) hx hb dX9_two_1 (by rw [hs1]; decide) (by rw [hs1]; decide) (by rw [hs1]; decide) (by decide) ?_
    have f136 : p0.toInt = 58 := qi_eq hs1 rfl zc_58
    refine lv_iload_n hx hb dX9_two_203 rfl (lv_at hl 1 rfl) ?_
    refine lv_if_ne (tgt := 211) hx hb dX9_two_204 (by decide) (fun c_137 => ?_) (fun c_137 => ?_)
    · skip
      have f138 : p1.toInt ≠ 0 := qi_ne c_137 rfl zc_0
      refine lv_iconst (v := 1) hx hb dX9_two_211 (by decide) ?_
      refine lv_goto (tgt := 216) hx hb dX9_two_212 (by decide) ?_
      rw [hQ]
      exact W.iret (v := 1) hx hb hr (fun t ht hW => ⟨⟨1, 1, rfl, rfl, trivial⟩, hS.F ht⟩) hS.2.2 dX9_two_216
    · skip
      have f139 : p1.toInt = 0 := qi_eq c_137 rfl zc_0
      refine lv_iload_n hx hb dX9_two_207 rfl (lv_at hl 2 rfl) ?_
      refine lv_if_eq (tgt := 215) hx hb dX9_two_208 (by decide) (fun c_140 => ?_) (fun c_140 => ?_)
      · skip
        have f141 : p2.toInt = 0 := qi_eq c_140 rfl zc_0
        refine lv_iconst (v := 0) hx hb dX9_two_215 (by decide) ?_
        rw [hQ]
        exact W.iret (v := 0) hx hb hr (fun t ht hW => ⟨⟨0, 0, rfl, rfl, trivial⟩, hS.F ht⟩) hS.2.2 dX9_two_216
      · skip
        have f142 : p2.toInt ≠ 0 := qi_ne c_140 rfl zc_0
        refine lv_iconst (v := 1) hx hb dX9_two_211 (by decide) ?_
        refine lv_goto (tgt := 216) hx hb dX9_two_212 (by decide) ?_
        rw [hQ]
        exact W.iret (v := 1) hx hb hr (fun t ht hW => ⟨⟨1, 1, rfl, rfl, trivial⟩, hS.F ht⟩) hS.2.2 dX9_two_216
  · skip
    refine lv_tableIn (off := 202) (tgt := 203) hx hb dX9_two_1 (by rw [hs1]; decide) (by rw [hs1]; decide) (by rw [hs1]; decide) (by decide) ?_
    have f143 : p0.toInt = 59 := qi_eq hs1 rfl zc_59
    refine lv_iload_n hx hb dX9_two_203 rfl (lv_at hl 1 rfl) ?_
    refine lv_if_ne (tgt := 211) hx hb dX9_two_204 (by decide) (fun c_144 => ?_) (fun c_144 => ?_)
    · skip
      have f145 : p1.toInt ≠ 0 := qi_ne c_144 rfl zc_0
      refine lv_iconst (v := 1) hx hb dX9_two_211 (by decide) ?_
      refine lv_goto (tgt := 216) hx hb dX9_two_212 (by decide) ?_
      rw [hQ]
      exact W.iret (v := 1) hx hb hr (fun t ht hW => ⟨⟨1, 1, rfl, rfl, trivial⟩, hS.F ht⟩) hS.2.2 dX9_two_216
    · skip
      have f146 : p1.toInt = 0 := qi_eq c_144 rfl zc_0
      refine lv_iload_n hx hb dX9_two_207 rfl (lv_at hl 2 rfl) ?_
      refine lv_if_eq (tgt := 215) hx hb dX9_two_208 (by decide) (fun c_147 => ?_) (fun c_147 => ?_)
      · skip
        have f148 : p2.toInt = 0 := qi_eq c_147 rfl zc_0
        refine lv_iconst (v := 0) hx hb dX9_two_215 (by decide) ?_
        rw [hQ]
        exact W.iret (v := 0) hx hb hr (fun t ht hW => ⟨⟨0, 0, rfl, rfl, trivial⟩, hS.F ht⟩) hS.2.2 dX9_two_216
      · skip
        have f149 : p2.toInt ≠ 0 := qi_ne c_147 rfl zc_0
        refine lv_iconst (v := 1) hx hb dX9_two_211 (by decide) ?_
        refine lv_goto (tgt := 216) hx hb dX9_two_212 (by decide) ?_
        rw [hQ]
        exact W.iret (v := 1) hx hb hr (fun t ht hW => ⟨⟨1, 1, rfl, rfl, trivial⟩, hS.F ht⟩) hS.2.2 dX9_two_216
  · skip
    refine lv_tableIn (off := 155) (tgt := 156) hx hb dX9_two_1 (by rw [hs1]; decide) (by rw [hs1]; decide) (by rw [hs1]; decide) (by decide) ?_
    have f150 : p0.toInt = 60 := qi_eq hs1 rfl zc_60
    refine lv_iload_n hx hb dX9_two_156 rfl (lv_at hl 1 rfl) ?_
    refine lv_iload_n hx hb dX9_two_157 rfl (lv_at hl 2 rfl) ?_
    refine lv_icmp_ge (tgt := 165) hx hb dX9_two_158 (by decide) (fun c_151 => ?_) (fun c_151 => ?_)
    · skip
      have f152 : p2.toInt ≤ p1.toInt := qi_le c_151 rfl rfl
      refine lv_iconst (v := 0) hx hb dX9_two_165 (by decide) ?_
      rw [hQ]
      exact W.iret (v := 0) hx hb hr (fun t ht hW => ⟨⟨0, 0, rfl, rfl, trivial⟩, hS.F ht⟩) hS.2.2 dX9_two_166
    · skip
      have f153 : p1.toInt < p2.toInt := qi_nle c_151 rfl rfl
      refine lv_iconst (v := 1) hx hb dX9_two_161 (by decide) ?_
      refine lv_goto (tgt := 166) hx hb dX9_two_162 (by decide) ?_
      rw [hQ]
      exact W.iret (v := 1) hx hb hr (fun t ht hW => ⟨⟨1, 1, rfl, rfl, trivial⟩, hS.F ht⟩) hS.2.2 dX9_two_166
  · skip
    refine lv_tableIn (off := 177) (tgt := 178) hx hb dX9_two_1 (by rw [hs1]; decide) (by rw [hs1]; decide) (by rw [hs1]; decide) (by decide) ?_
    have f154 : p0.toInt = 61 := qi_eq hs1 rfl zc_61
    refine lv_iload_n hx hb dX9_two_178 rfl (lv_at hl 1 rfl) ?_
    refine lv_iload_n hx hb dX9_two_179 rfl (lv_at hl 2 rfl) ?_
    refine lv_icmp_ne (tgt := 187) hx hb dX9_two_180 (by decide) (fun c_155 => ?_) (fun c_155 => ?_)
    · skip
      have f156 : p1.toInt ≠ p2.toInt := qi_ne c_155 rfl rfl
      refine lv_iconst (v := 0) hx hb dX9_two_187 (by decide) ?_
      rw [hQ]
      exact W.iret (v := 0) hx hb hr (fun t ht hW => ⟨⟨0, 0, rfl, rfl, trivial⟩, hS.F ht⟩) hS.2.2 dX9_two_188
    · skip
      have f157 : p1.toInt = p2.toInt := qi_eq c_155 rfl rfl
      refine lv_iconst (v := 1) hx hb dX9_two_183 (by decide) ?_
      refine lv_goto (tgt := 188) hx hb dX9_two_184 (by decide) ?_
      rw [hQ]
      exact W.iret (v := 1) hx hb hr (fun t ht hW => ⟨⟨1, 1, rfl, rfl, trivial⟩, hS.F ht⟩) hS.2.2 dX9_two_188
  · skip
    refine lv_tableIn (off := 166) (tgt := 167) hx hb dX9_two_1 (by rw [hs1]; decide) (by rw [hs1]; decide) (by rw [hs1]; decide) (by decide) ?_
    have f158 : p0.toInt = 62 := qi_eq hs1 rfl zc_62
    refine lv_iload_n hx hb dX9_two_167 rfl (lv_at hl 1 rfl) ?_
    refine lv_iload_n hx hb dX9_two_168 rfl (lv_at hl 2 rfl) ?_
    refine lv_icmp_le (tgt := 176) hx hb dX9_two_169 (by decide) (fun c_159 => ?_) (fun c_159 => ?_)
    · skip
      have f160 : p1.toInt ≤ p2.toInt := qi_le c_159 rfl rfl
      refine lv_iconst (v := 0) hx hb dX9_two_176 (by decide) ?_
      rw [hQ]
      exact W.iret (v := 0) hx hb hr (fun t ht hW => ⟨⟨0, 0, rfl, rfl, trivial⟩, hS.F ht⟩) hS.2.2 dX9_two_177
    · skip
      have f161 : p2.toInt < p1.toInt := qi_nle c_159 rfl rfl
      refine lv_iconst (v := 1) hx hb dX9_two_172 (by decide) ?_
      refine lv_goto (tgt := 177) hx hb dX9_two_173 (by decide) ?_
      rw [hQ]
      exact W.iret (v := 1) hx hb hr (fun t ht hW => ⟨⟨1, 1, rfl, rfl, trivial⟩, hS.F ht⟩) hS.2.2 dX9_two_177
