set_option maxHeartbeats 4000000 in
set_option maxRecDepth 100000 in
theorem kX9_doesTake (l : Launch) (dC : Nat → ClassId) (dI : Nat → Nat → Nat) (r : Nat → Nat) (ct : Nat → ClassId) (i_taped i_size i_faultKind i_at i_end i_token i_number i_bank i_rb i_codes i_within i_piled i_unitsInRule i_askHouse i_askTune i_acts i_undone i_laid i_knowns i_time : Int32) (f_text f_tunes f_houses f_hums f_told f_many f_ruleFrom f_ruleTo f_code f_eWhat f_eSign f_all f_kept f_was f_sTune f_boxAll : Nat → Int32) (J : Nat → Nat → Int32) (L : Nat → Nat → Int64) (p0 p1 : Int32) (sz : Nat) (hI : (IM i_taped i_size i_faultKind i_at i_end i_bank i_rb i_acts i_undone i_laid i_knowns i_time f_tunes f_houses f_hums f_told f_many f_ruleFrom f_ruleTo f_code f_all f_kept f_was f_sTune f_boxAll)) (hp0 : (0 : Int) ≤ p0.toInt) (hp1 : p0.toInt + 1 ≤ (f_houses (i_bank.toInt).toNat).toInt) (hp2 : (0 : Int) ≤ p1.toInt) (hp3 : p1.toInt + 1 ≤ (f_tunes (i_bank.toInt).toNat).toInt) : Met l yX9_doesTake (.code yX9_doesTake cX9_doesTake 3 (some .boolean) :: GW) { frames := 20, cells := 0, slots := 0, locals := 667 } (va_Pc [.ref (r 0), .int p0, .int p1] (pW (dC, dI) (WM r ct i_taped i_size i_faultKind i_at i_end i_token i_number i_bank i_rb i_codes i_within i_piled i_unitsInRule i_askHouse i_askTune i_acts i_undone i_laid i_knowns i_time f_text f_tunes f_houses f_hums f_told f_many f_ruleFrom f_ruleTo f_code f_eWhat f_eSign f_all f_kept f_was f_sTune f_boxAll J L) (TM ct) sz)) (va_Qi (fun (r0 : Int32) (u : Int32) => r0 = u) (fun (u : Int32) (t : State) => ∃ (n_i_askHouse n_i_askTune : Int32) (n_J : Nat → Nat → Int32), va_P (dC, dI) vwCl (WM r ct i_taped i_size i_faultKind i_at i_end i_token i_number i_bank i_rb i_codes i_within i_piled i_unitsInRule n_i_askHouse n_i_askTune i_acts i_undone i_laid i_knowns i_time f_text f_tunes f_houses f_hums f_told f_many f_ruleFrom f_ruleTo f_code f_eWhat f_eSign f_all f_kept f_was f_sTune f_boxAll n_J L) t.heap ∧ va_D (va_A (WM r ct i_taped i_size i_faultKind i_at i_end i_token i_number i_bank i_rb i_codes i_within i_piled i_unitsInRule i_askHouse i_askTune i_acts i_undone i_laid i_knowns i_time f_text f_tunes f_houses f_hums f_told f_many f_ruleFrom f_ruleTo f_code f_eWhat f_eSign f_all f_kept f_was f_sTune f_boxAll J L) sz) (WM r ct i_taped i_size i_faultKind i_at i_end i_token i_number i_bank i_rb i_codes i_within i_piled i_unitsInRule n_i_askHouse n_i_askTune i_acts i_undone i_laid i_knowns i_time f_text f_tunes f_houses f_hums f_told f_many f_ruleFrom f_ruleTo f_code f_eWhat f_eSign f_all f_kept f_was f_sTune f_boxAll n_J L) ∧ (IM i_taped i_size i_faultKind i_at i_end i_bank i_rb i_acts i_undone i_laid i_knowns i_time f_tunes f_houses f_hums f_told f_many f_ruleFrom f_ruleTo f_code f_all f_kept f_was f_sTune f_boxAll) ∧ (((u.toInt = (0 : Int))) ∨ ((u.toInt = (1 : Int)))) ∧ ((0 : Int) ≤ u.toInt) ∧ (u.toInt ≤ (1 : Int))) (va_A (WM r ct i_taped i_size i_faultKind i_at i_end i_token i_number i_bank i_rb i_codes i_within i_piled i_unitsInRule i_askHouse i_askTune i_acts i_undone i_laid i_knowns i_time f_text f_tunes f_houses f_hums f_told f_many f_ruleFrom f_ruleTo f_code f_eWhat f_eSign f_all f_kept f_was f_sTune f_boxAll J L) sz)) 0 0 (va_A (WM r ct i_taped i_size i_faultKind i_at i_end i_token i_number i_bank i_rb i_codes i_within i_piled i_unitsInRule i_askHouse i_askTune i_acts i_undone i_laid i_knowns i_time f_text f_tunes f_houses f_hums f_told f_many f_ruleFrom f_ruleTo f_code f_eWhat f_eSign f_all f_kept f_was f_sTune f_boxAll J L) sz) := by
  refine Met.ofW (cc := cX9_doesTake) (maxL := 3) (ret := (some .boolean)) (by decide) rfl ?_
  intro p e s m args below meth c0 s₁ B hml hv
  obtain ⟨rfl, hsz, hP, hK, hD0⟩ := hv
  have hx := B.exec
  have hb := B.bytes
  have hr := B.returns
  have hts := atoms_spec (ws := .code yX9_doesTake cX9_doesTake 3 (some .boolean) :: GW) B.pre
  have hG : ∀ w ∈ GW, w.before _ s = true := fun w h => hts w (List.mem_cons_of_mem _ h)
  have hown : s.vm.findClass RX9 = some m.cls := findClass_of_methodNamed B.named
  subst hsz
  have hD := hD0.self (sz := s.heap.size)
  generalize hAe : va_A (WM r ct i_taped i_size i_faultKind i_at i_end i_token i_number i_bank i_rb i_codes i_within i_piled i_unitsInRule i_askHouse i_askTune i_acts i_undone i_laid i_knowns i_time f_text f_tunes f_houses f_hums f_told f_many f_ruleFrom f_ruleTo f_code f_eWhat f_eSign f_all f_kept f_was f_sTune f_boxAll J L) s.heap.size = A at hD ⊢
  have hA : ∀ q : Nat, s.heap.size ≤ q → A q := fun q h => by rw [← hAe]; exact Or.inr h
  have hS : va_S A s.heap s.heap [] := va_S.rf
  have hP : va_P (dC, dI) vwCl (WM r ct i_taped i_size i_faultKind i_at i_end i_token i_number i_bank i_rb i_codes i_within i_piled i_unitsInRule i_askHouse i_askTune i_acts i_undone i_laid i_knowns i_time f_text f_tunes f_houses f_hums f_told f_many f_ruleFrom f_ruleTo f_code f_eWhat f_eSign f_all f_kept f_was f_sTune f_boxAll J L) s.heap := hP
  have hl := lv_entry ([.ref (r 0), .int p0, .int p1]) (n := 3) (Nat.le_of_ble_eq_true rfl)
  rw [lg_entry_eq]
  generalize (lg_sl ([.ref (r 0), .int p0, .int p1]) ++ List.replicate (3 - (lg_sl ([.ref (r 0), .int p0, .int p1])).length) Slot.unset).toArray = ls at hl ⊢
  have hl : lv_has ls 3 [(0, .ref (r 0)), (1, .int p0), (2, .int p1)] := hl
  refine nameQ (fun Q hQ => ?_)
  obtain ⟨ie0, ie1, ie2, ie3, ie4, ie5, ie6, ie7, ie8, ie9, ie10, ie11, ie12, ie13, ie14, ie15, ie16, ie17, ie18, ie19, ie20, ie21, ie22, ie23, ie24, ie25, ie26, ie27, ie28, ie29, ie30, ie31, ie32⟩ := id hI
  have f1 : 0 ≤ (f_tunes (i_bank.toInt).toNat).toInt ∧ (f_tunes (i_bank.toInt).toNat).toInt ≤ 5 := ie21 (i_bank.toInt)
  have f2 : 0 ≤ (f_houses (i_bank.toInt).toNat).toInt ∧ (f_houses (i_bank.toInt).toNat).toInt ≤ 4 := ie22 (i_bank.toInt)
  refine lv_aload_n hx hb dX9_doesTake_0 rfl (lv_at hl 0 rfl) ?_
  refine gM_X9_88_0 hx hb hG hown hK hP dX9_doesTake_1 ?_
  refine lv_bipush (v := 20) hx hb dX9_doesTake_4 (by decide) ?_
  refine lv_iload_n hx hb dX9_doesTake_6 rfl (lv_at hl 1 rfl) ?_
  refine lv_iadd hx hb dX9_doesTake_7 ?_
  refine lv_topi (fun x3 ex3 => ?_)
  have f4 : x3.toInt = p0.toInt + 20 := (ob_784 (qi_add ex3 zc_20 rfl (ob_921 hp0 hp1) (ob_922 f2 hp0 hp1)))
  refine ldM_25 (mm := p0.toInt + 20) hx hb hK hP f4 (ob_923 hp0 hp1) (ob_924 f2 hp0 hp1) dX9_doesTake_8 ?_
  refine lv_aload_n hx hb dX9_doesTake_9 rfl (lv_at hl 0 rfl) ?_
  refine lv_iload_n hx hb dX9_doesTake_10 rfl (lv_at hl 2 rfl) ?_
  refine va_calli (va_runV (As := [.int p1]) (rest := [.int (f_all (p0.toInt + 20).toNat)]) ⟨hx, hb, hml, hown, hG⟩ (kX9_priceOf l dC dI r ct i_taped i_size i_faultKind i_at i_end i_token i_number i_bank i_rb i_codes i_within i_piled i_unitsInRule i_askHouse i_askTune i_acts i_undone i_laid i_knowns i_time f_text f_tunes f_houses f_hums f_told f_many f_ruleFrom f_ruleTo f_code f_eWhat f_eSign f_all f_kept f_was f_sTune f_boxAll J L p1 s.heap.size hI (ob_880 hp2 hp3) (ob_881 f1 hp2 hp3)) (cwV 1 hG (goodV gw1519 gw1521 gw87 gw138 gw1522) rfl rfl rfl hd_X9_priceOf ⟨(Nat.le_of_ble_eq_true rfl), (Nat.le_of_ble_eq_true rfl)⟩) ⟨fbR, va_recv hK hP (ci := 8) (q0 := 0) rfl rfl, pR_in hP hK⟩ rfl rfl hl.1 rfl (lv_room (Nat.le_of_ble_eq_true rfl)) dX9_doesTake_11 ⟨(Nat.le_of_ble_eq_true rfl), (Nat.le_of_ble_eq_true rfl)⟩) hS (fun q hq h => absurd hq (Nat.not_lt.mpr h)) (fun q h => hA q (Nat.le_trans hS.1 h)) (fun r_6 u_ t_ H5 locs ht hvm hw hB hz1 hk1 hS => ?_)
  subst hw
  have hP := wk hP hk1
  refine lv_icmp_lt (tgt := 39) hx hb dX9_doesTake_14 (by decide) (fun c_7 => ?_) (fun c_7 => ?_)
  · skip
    have f8 : (f_all (p0.toInt + 20).toNat).toInt < r_6.toInt := qi_lt c_7 rfl rfl
    refine lv_iconst (v := 0) hx hb dX9_doesTake_39 (by decide) ?_
    rw [hQ]
    exact W.zret (v := 0) hx hb hr (by decide) (fun t ht hW => ⟨⟨0, 0, rfl, rfl, ⟨i_askHouse, i_askTune, J, by rw [ht]; exact hP, hD, hI, (ob_488 zc_0), (ob_1 zc_0), (ob_11 zc_0)⟩⟩, hS.F ht⟩) hS.2.2 dX9_doesTake_40
  · skip
    have f9 : r_6.toInt ≤ (f_all (p0.toInt + 20).toNat).toInt := qi_nlt c_7 rfl rfl
    refine lv_aload_n hx hb dX9_doesTake_17 rfl (lv_at hl 0 rfl) ?_
    refine lv_iload_n hx hb dX9_doesTake_18 rfl (lv_at hl 1 rfl) ?_
    refine lv_iload_n hx hb dX9_doesTake_19 rfl (lv_at hl 2 rfl) ?_
    refine lv_aload_n hx hb dX9_doesTake_20 rfl (lv_at hl 0 rfl) ?_
    refine gM_X9_20_0 hx hb hG hown hK hP dX9_doesTake_21 ?_
    refine lv_aload_n hx hb dX9_doesTake_24 rfl (lv_at hl 0 rfl) ?_
    refine gM_X9_249_0 hx hb hG hown hK hP dX9_doesTake_25 ?_
    refine ldM_3 (mm := i_bank.toInt) hx hb hK hP rfl (ob_263 ie4 ie5) (ob_264 ie4 ie5) dX9_doesTake_28 (fun x10 => ?_)
    have hFc := frA hD hS hA
    refine va_calli (va_runV (As := [.int p0, .int p1, .int x10]) (rest := []) ⟨hx, hb, hml, hown, hG⟩ (kX9_gladBy l dC dI r ct i_taped i_size i_faultKind i_at i_end i_token i_number i_bank i_rb i_codes i_within i_piled i_unitsInRule i_askHouse i_askTune i_acts i_undone i_laid i_knowns i_time f_text f_tunes f_houses f_hums f_told f_many f_ruleFrom f_ruleTo f_code f_eWhat f_eSign f_all f_kept f_was f_sTune f_boxAll J L p0 p1 x10 H5.size hI (ob_880 hp0 hp1) (ob_898 f2 hp0 hp1) (ob_880 hp2 hp3) (ob_881 f1 hp2 hp3)) (cwV 3 hG (goodV gw1566 gw1568 gw95 gw138 gw1569) rfl rfl rfl hd_X9_gladBy ⟨(Nat.le_of_ble_eq_true rfl), (Nat.le_of_ble_eq_true rfl)⟩) ⟨fbW, va_recv hK hP (ci := 8) (q0 := 0) rfl rfl, pW_in hP hK hD⟩ rfl rfl hl.1 rfl (lv_room (Nat.le_of_ble_eq_true rfl)) dX9_doesTake_29 ⟨(Nat.le_of_ble_eq_true rfl), (Nat.le_of_ble_eq_true rfl)⟩) hS (fun q _ h => hFc q h) hFc (fun r_12 u_ t_ H11 locs ht hvm hw hB hz1 hk1 hS => ?_)
    subst hw
    obtain ⟨x13, x14, J15, hP1, hD1, hI16⟩ := hB
    rw [ht] at hP1
    have hP := hP1
    have hD := dW hFc hD1
    obtain ⟨im17, im18, im19, im20, im21, im22, im23, im24, im25, im26, im27, im28, im29, im30, im31, im32, im33, im34, im35, im36, im37, im38, im39, im40, im41, im42, im43, im44, im45, im46, im47, im48, im49⟩ := id hI16
    refine lv_if_le (tgt := 39) hx hb dX9_doesTake_32 (by decide) (fun c_50 => ?_) (fun c_50 => ?_)
    · skip
      have f51 : r_12.toInt ≤ 0 := qi_le c_50 rfl zc_0
      refine lv_iconst (v := 0) hx hb dX9_doesTake_39 (by decide) ?_
      rw [hQ]
      exact W.zret (v := 0) hx hb hr (by decide) (fun t ht hW => ⟨⟨0, 0, rfl, rfl, ⟨x13, x14, J15, by rw [ht]; exact hP, hD, hI16, (ob_488 zc_0), (ob_1 zc_0), (ob_11 zc_0)⟩⟩, hS.F ht⟩) hS.2.2 dX9_doesTake_40
    · skip
      have f52 : 0 < r_12.toInt := qi_nle c_50 rfl zc_0
      refine lv_iconst (v := 1) hx hb dX9_doesTake_35 (by decide) ?_
      refine lv_goto (tgt := 40) hx hb dX9_doesTake_36 (by decide) ?_
      rw [hQ]
      exact W.zret (v := 1) hx hb hr (by decide) (fun t ht hW => ⟨⟨1, 1, rfl, rfl, ⟨x13, x14, J15, by rw [ht]; exact hP, hD, hI16, (ob_491 zc_1), (ob_14 zc_1), (ob_15 zc_1)⟩⟩, hS.F ht⟩) hS.2.2 dX9_doesTake_40
set_option maxHeartbeats 4000000 in
set_option maxRecDepth 100000 in
theorem kX9_takenBy (l : Launch) (dC : Nat → ClassId) (dI : Nat → Nat → Nat) (r : Nat → Nat) (ct : Nat → ClassId) (i_taped i_size i_faultKind i_at i_end i_token i_number i_bank i_rb i_codes i_within i_piled i_unitsInRule i_askHouse i_askTune i_acts i_undone i_laid i_knowns i_time : Int32) (f_text f_tunes f_houses f_hums f_told f_many f_ruleFrom f_ruleTo f_code f_eWhat f_eSign f_all f_kept f_was f_sTune f_boxAll : Nat → Int32) (J : Nat → Nat → Int32) (L : Nat → Nat → Int64) (p0 : Int32) (sz : Nat) (hI : (IM i_taped i_size i_faultKind i_at i_end i_bank i_rb i_acts i_undone i_laid i_knowns i_time f_tunes f_houses f_hums f_told f_many f_ruleFrom f_ruleTo f_code f_all f_kept f_was f_sTune f_boxAll)) (hp0 : (0 : Int) ≤ p0.toInt) (hp1 : p0.toInt + 1 ≤ (f_houses (i_bank.toInt).toNat).toInt) : Met l yX9_takenBy (.code yX9_takenBy cX9_takenBy 4 (some .int) :: GW) { frames := 22, cells := 0, slots := 0, locals := 729 } (va_Pc [.ref (r 0), .int p0] (pW (dC, dI) (WM r ct i_taped i_size i_faultKind i_at i_end i_token i_number i_bank i_rb i_codes i_within i_piled i_unitsInRule i_askHouse i_askTune i_acts i_undone i_laid i_knowns i_time f_text f_tunes f_houses f_hums f_told f_many f_ruleFrom f_ruleTo f_code f_eWhat f_eSign f_all f_kept f_was f_sTune f_boxAll J L) (TM ct) sz)) (va_Qi (fun (r0 : Int32) (u : Int32) => r0 = u) (fun (u : Int32) (t : State) => ∃ (n_i_askHouse n_i_askTune : Int32) (n_J : Nat → Nat → Int32), va_P (dC, dI) vwCl (WM r ct i_taped i_size i_faultKind i_at i_end i_token i_number i_bank i_rb i_codes i_within i_piled i_unitsInRule n_i_askHouse n_i_askTune i_acts i_undone i_laid i_knowns i_time f_text f_tunes f_houses f_hums f_told f_many f_ruleFrom f_ruleTo f_code f_eWhat f_eSign f_all f_kept f_was f_sTune f_boxAll n_J L) t.heap ∧ va_D (va_A (WM r ct i_taped i_size i_faultKind i_at i_end i_token i_number i_bank i_rb i_codes i_within i_piled i_unitsInRule i_askHouse i_askTune i_acts i_undone i_laid i_knowns i_time f_text f_tunes f_houses f_hums f_told f_many f_ruleFrom f_ruleTo f_code f_eWhat f_eSign f_all f_kept f_was f_sTune f_boxAll J L) sz) (WM r ct i_taped i_size i_faultKind i_at i_end i_token i_number i_bank i_rb i_codes i_within i_piled i_unitsInRule n_i_askHouse n_i_askTune i_acts i_undone i_laid i_knowns i_time f_text f_tunes f_houses f_hums f_told f_many f_ruleFrom f_ruleTo f_code f_eWhat f_eSign f_all f_kept f_was f_sTune f_boxAll n_J L) ∧ (IM i_taped i_size i_faultKind i_at i_end i_bank i_rb i_acts i_undone i_laid i_knowns i_time f_tunes f_houses f_hums f_told f_many f_ruleFrom f_ruleTo f_code f_all f_kept f_was f_sTune f_boxAll)) (va_A (WM r ct i_taped i_size i_faultKind i_at i_end i_token i_number i_bank i_rb i_codes i_within i_piled i_unitsInRule i_askHouse i_askTune i_acts i_undone i_laid i_knowns i_time f_text f_tunes f_houses f_hums f_told f_many f_ruleFrom f_ruleTo f_code f_eWhat f_eSign f_all f_kept f_was f_sTune f_boxAll J L) sz)) 0 0 (va_A (WM r ct i_taped i_size i_faultKind i_at i_end i_token i_number i_bank i_rb i_codes i_within i_piled i_unitsInRule i_askHouse i_askTune i_acts i_undone i_laid i_knowns i_time f_text f_tunes f_houses f_hums f_told f_many f_ruleFrom f_ruleTo f_code f_eWhat f_eSign f_all f_kept f_was f_sTune f_boxAll J L) sz) := by
  refine Met.ofW (cc := cX9_takenBy) (maxL := 4) (ret := (some .int)) (by decide) rfl ?_
  intro p e s m args below meth c0 s₁ B hml hv
  obtain ⟨rfl, hsz, hP, hK, hD0⟩ := hv
  have hx := B.exec
  have hb := B.bytes
  have hr := B.returns
  have hts := atoms_spec (ws := .code yX9_takenBy cX9_takenBy 4 (some .int) :: GW) B.pre
  have hG : ∀ w ∈ GW, w.before _ s = true := fun w h => hts w (List.mem_cons_of_mem _ h)
  have hown : s.vm.findClass RX9 = some m.cls := findClass_of_methodNamed B.named
  subst hsz
  have hD := hD0.self (sz := s.heap.size)
  generalize hAe : va_A (WM r ct i_taped i_size i_faultKind i_at i_end i_token i_number i_bank i_rb i_codes i_within i_piled i_unitsInRule i_askHouse i_askTune i_acts i_undone i_laid i_knowns i_time f_text f_tunes f_houses f_hums f_told f_many f_ruleFrom f_ruleTo f_code f_eWhat f_eSign f_all f_kept f_was f_sTune f_boxAll J L) s.heap.size = A at hD ⊢
  have hA : ∀ q : Nat, s.heap.size ≤ q → A q := fun q h => by rw [← hAe]; exact Or.inr h
  have hS : va_S A s.heap s.heap [] := va_S.rf
  have hP : va_P (dC, dI) vwCl (WM r ct i_taped i_size i_faultKind i_at i_end i_token i_number i_bank i_rb i_codes i_within i_piled i_unitsInRule i_askHouse i_askTune i_acts i_undone i_laid i_knowns i_time f_text f_tunes f_houses f_hums f_told f_many f_ruleFrom f_ruleTo f_code f_eWhat f_eSign f_all f_kept f_was f_sTune f_boxAll J L) s.heap := hP
  have hl := lv_entry ([.ref (r 0), .int p0]) (n := 4) (Nat.le_of_ble_eq_true rfl)
  rw [lg_entry_eq]
  generalize (lg_sl ([.ref (r 0), .int p0]) ++ List.replicate (4 - (lg_sl ([.ref (r 0), .int p0])).length) Slot.unset).toArray = ls at hl ⊢
  have hl : lv_has ls 4 [(0, .ref (r 0)), (1, .int p0)] := hl
  refine nameQ (fun Q hQ => ?_)
  obtain ⟨ie0, ie1, ie2, ie3, ie4, ie5, ie6, ie7, ie8, ie9, ie10, ie11, ie12, ie13, ie14, ie15, ie16, ie17, ie18, ie19, ie20, ie21, ie22, ie23, ie24, ie25, ie26, ie27, ie28, ie29, ie30, ie31, ie32⟩ := id hI
  have f1 : 0 ≤ (f_tunes (i_bank.toInt).toNat).toInt ∧ (f_tunes (i_bank.toInt).toNat).toInt ≤ 5 := ie21 (i_bank.toInt)
  have f2 : 0 ≤ (f_houses (i_bank.toInt).toNat).toInt ∧ (f_houses (i_bank.toInt).toNat).toInt ≤ 4 := ie22 (i_bank.toInt)
  refine lv_iconst (v := 0) hx hb dX9_takenBy_0 (by decide) ?_
  refine lv_istore_n (lv' := [(2, .int 0), (0, .ref (r 0)), (1, .int p0)]) hx hb dX9_takenBy_1 rfl hl (by decide) rfl (fun ls hl => ?_)
  refine lv_iconst (v := 0) hx hb dX9_takenBy_2 (by decide) ?_
  refine lv_istore_n (lv' := [(3, .int 0), (2, .int 0), (0, .ref (r 0)), (1, .int p0)]) hx hb dX9_takenBy_3 rfl hl (by decide) rfl (fun ls hl => ?_)
  have L4 : ∀ (N4 : Nat) (y4_2 y4_3 : Int32) (m4_i_askHouse m4_i_askTune : Int32) (m4_J : Nat → Nat → Int32) (H4 : Heap) (locs : List Loc) (ls : Array Slot) (g4_0 : (0 : Int) ≤ y4_3.toInt) (g4_1 : y4_3.toInt ≤ (5 : Int)) (hP : va_P (dC, dI) vwCl (WM r ct i_taped i_size i_faultKind i_at i_end i_token i_number i_bank i_rb i_codes i_within i_piled i_unitsInRule m4_i_askHouse m4_i_askTune i_acts i_undone i_laid i_knowns i_time f_text f_tunes f_houses f_hums f_told f_many f_ruleFrom f_ruleTo f_code f_eWhat f_eSign f_all f_kept f_was f_sTune f_boxAll m4_J L) H4) (hD : va_D A (WM r ct i_taped i_size i_faultKind i_at i_end i_token i_number i_bank i_rb i_codes i_within i_piled i_unitsInRule m4_i_askHouse m4_i_askTune i_acts i_undone i_laid i_knowns i_time f_text f_tunes f_houses f_hums f_told f_many f_ruleFrom f_ruleTo f_code f_eWhat f_eSign f_all f_kept f_was f_sTune f_boxAll m4_J L)) (hS : va_S A s.heap H4 locs) (hl : lv_has ls 4 [(0, .ref (r 0)), (1, .int p0), (2, .int y4_2), (3, .int y4_3)]) (hM : -1 * y4_3.toInt + 5 < (N4 : Int)), W p l e { frames := 22, cells := 0, slots := 0, locals := 729 } s m ([.ref (r 0), .int p0] : List Value).toArray below meth c0 H4 locs 0 0 Q (F0 m 4 ls []) := by
    intro N4
    induction N4 with
    | zero =>
      intro y4_2 y4_3 m4_i_askHouse m4_i_askTune m4_J H4 locs ls g4_0 g4_1 hP hD hS hl hM
      exact ((ob_777 hM g4_0 g4_1)).elim
    | succ N4 ih4 =>
      intro y4_2 y4_3 m4_i_askHouse m4_i_askTune m4_J H4 locs ls g4_0 g4_1 hP hD hS hl hM
      have hM4 := msucc hM
      refine lv_iload_n hx hb dX9_takenBy_4 rfl (lv_at hl 3 rfl) ?_
      refine lv_aload_n hx hb dX9_takenBy_5 rfl (lv_at hl 0 rfl) ?_
      refine va_calli (va_runV (As := []) (rest := [.int y4_3]) ⟨hx, hb, hml, hown, hG⟩ (kX9_songs l dC dI r ct i_taped i_size i_faultKind i_at i_end i_token i_number i_bank i_rb i_codes i_within i_piled i_unitsInRule m4_i_askHouse m4_i_askTune i_acts i_undone i_laid i_knowns i_time f_text f_tunes f_houses f_hums f_told f_many f_ruleFrom f_ruleTo f_code f_eWhat f_eSign f_all f_kept f_was f_sTune f_boxAll m4_J L H4.size hI) (cwV 0 hG (goodV gw1512 gw1514 gw86 gw138 gw1515) rfl rfl rfl hd_X9_songs ⟨(Nat.le_of_ble_eq_true rfl), (Nat.le_of_ble_eq_true rfl)⟩) ⟨fbR, va_recv hK hP (ci := 8) (q0 := 0) rfl rfl, pR_in hP hK⟩ rfl rfl hl.1 rfl (lv_room (Nat.le_of_ble_eq_true rfl)) dX9_takenBy_6 ⟨(Nat.le_of_ble_eq_true rfl), (Nat.le_of_ble_eq_true rfl)⟩) hS (fun q hq h => absurd hq (Nat.not_lt.mpr h)) (fun q h => hA q (Nat.le_trans hS.1 h)) (fun r_4 u_ t_ H3 locs ht hvm hw hB hz1 hk1 hS => ?_)
      subst hw
      have hP := wk hP hk1
      have f5 := hB
      have f6 : r_4.toInt = (f_tunes (i_bank.toInt).toNat).toInt := (ob_6 f5)
      refine lv_icmp_ge (tgt := 33) hx hb dX9_takenBy_9 (by decide) (fun c_7 => ?_) (fun c_7 => ?_)
      · skip
        have f8 : r_4.toInt ≤ y4_3.toInt := qi_le c_7 rfl rfl
        refine lv_iload_n hx hb dX9_takenBy_33 rfl (lv_at hl 2 rfl) ?_
        rw [hQ]
        exact W.iret (v := y4_2) hx hb hr (fun t ht hW => ⟨⟨y4_2, y4_2, rfl, rfl, ⟨m4_i_askHouse, m4_i_askTune, m4_J, by rw [ht]; exact hP, hD, hI⟩⟩, hS.F ht⟩) hS.2.2 dX9_takenBy_34
      · skip
        have f9 : y4_3.toInt < r_4.toInt := qi_nle c_7 rfl rfl
        refine lv_aload_n hx hb dX9_takenBy_12 rfl (lv_at hl 0 rfl) ?_
        refine lv_iload_n hx hb dX9_takenBy_13 rfl (lv_at hl 1 rfl) ?_
        refine lv_iload_n hx hb dX9_takenBy_14 rfl (lv_at hl 3 rfl) ?_
        have hFc := frA hD hS hA
        refine va_calli (va_runV (As := [.int p0, .int y4_3]) (rest := []) ⟨hx, hb, hml, hown, hG⟩ (kX9_doesTake l dC dI r ct i_taped i_size i_faultKind i_at i_end i_token i_number i_bank i_rb i_codes i_within i_piled i_unitsInRule m4_i_askHouse m4_i_askTune i_acts i_undone i_laid i_knowns i_time f_text f_tunes f_houses f_hums f_told f_many f_ruleFrom f_ruleTo f_code f_eWhat f_eSign f_all f_kept f_was f_sTune f_boxAll m4_J L p0 y4_3 H3.size hI (ob_880 hp0 hp1) (ob_898 f2 hp0 hp1) (ob_139 g4_0) (ob_1054 f9 f6)) (cwV 2 hG (goodV gw1610 gw1612 gw104 gw138 gw1613) rfl rfl rfl hd_X9_doesTake ⟨(Nat.le_of_ble_eq_true rfl), (Nat.le_of_ble_eq_true rfl)⟩) ⟨fbW, va_recv hK hP (ci := 8) (q0 := 0) rfl rfl, pW_in hP hK hD⟩ rfl rfl hl.1 rfl (lv_room (Nat.le_of_ble_eq_true rfl)) dX9_takenBy_15 ⟨(Nat.le_of_ble_eq_true rfl), (Nat.le_of_ble_eq_true rfl)⟩) hS (fun q _ h => hFc q h) hFc (fun r_11 u_ t_ H10 locs ht hvm hw hB hz1 hk1 hS => ?_)
        subst hw
        obtain ⟨x12, x13, J14, hP1, hD1, hI18, f15, f16, f17⟩ := hB
        rw [ht] at hP1
        have hP := hP1
        have hD := dW hFc hD1
        obtain ⟨im19, im20, im21, im22, im23, im24, im25, im26, im27, im28, im29, im30, im31, im32, im33, im34, im35, im36, im37, im38, im39, im40, im41, im42, im43, im44, im45, im46, im47, im48, im49, im50, im51⟩ := id hI18
        refine lv_if_eq (tgt := 27) hx hb dX9_takenBy_18 (by decide) (fun c_52 => ?_) (fun c_52 => ?_)
        · skip
          have f53 : r_11.toInt = 0 := qi_eq c_52 rfl zc_0
          have f54 : r_11.toInt = (0 : Int) := (ob_226 f16 f17 f53)
          obtain ⟨x55, ex55⟩ : ∃ y : Int32, y = y4_3 + Int32.ofInt 1 := ⟨_, rfl⟩
          have f56 : x55.toInt = y4_3.toInt + 1 := (ob_142 (qi_add ex55 rfl (by decide) (ob_140 g4_0) (ob_804 g4_1)))
          refine lv_iinc (v := x55) (lv' := [(3, .int x55), (0, .ref (r 0)), (1, .int p0), (2, .int y4_2)]) hx hb dX9_takenBy_27 hl (k := 3) rfl ex55.symm (by decide) rfl (fun ls hl => ?_)
          refine lv_goto (tgt := 4) hx hb dX9_takenBy_30 (by decide) ?_
          exact ih4 y4_2 x55 x12 x13 J14 H10 _ _ (ob_149 g4_0 f56) (ob_1047 f1 f9 f6 f56) hP hD hS (lv_sub hl [1, 2, 3, 0] rfl) (ob_806 hM4 f56)
        · skip
          have f57 : r_11.toInt ≠ 0 := qi_ne c_52 rfl zc_0
          have f58 : r_11.toInt = (1 : Int) := (ob_592 f15 f57)
          have f59 : (1 : Int) ≤ r_11.toInt := (ob_162 f16 f17 f58)
          refine lv_iload_n hx hb dX9_takenBy_21 rfl (lv_at hl 2 rfl) ?_
          refine lv_iconst (v := 1) hx hb dX9_takenBy_22 (by decide) ?_
          refine lv_iload_n hx hb dX9_takenBy_23 rfl (lv_at hl 3 rfl) ?_
          refine lv_ishl hx hb dX9_takenBy_24 ?_
          refine lv_topi (fun x60 ex60 => ?_)
          refine lv_ior hx hb dX9_takenBy_25 ?_
          refine lv_topi (fun x61 ex61 => ?_)
          refine lv_istore_n (lv' := [(2, .int x61), (0, .ref (r 0)), (1, .int p0), (3, .int y4_3)]) hx hb dX9_takenBy_26 rfl hl (by decide) rfl (fun ls hl => ?_)
          obtain ⟨x62, ex62⟩ : ∃ y : Int32, y = y4_3 + Int32.ofInt 1 := ⟨_, rfl⟩
          have f63 : x62.toInt = y4_3.toInt + 1 := (ob_142 (qi_add ex62 rfl (by decide) (ob_140 g4_0) (ob_804 g4_1)))
          refine lv_iinc (v := x62) (lv' := [(3, .int x62), (2, .int x61), (0, .ref (r 0)), (1, .int p0)]) hx hb dX9_takenBy_27 hl (k := 3) rfl ex62.symm (by decide) rfl (fun ls hl => ?_)
          refine lv_goto (tgt := 4) hx hb dX9_takenBy_30 (by decide) ?_
          exact ih4 x61 x62 x12 x13 J14 H10 _ _ (ob_149 g4_0 f63) (ob_1047 f1 f9 f6 f63) hP hD hS (lv_sub hl [2, 3, 1, 0] rfl) (ob_806 hM4 f63)
  exact L4 (-1 * (0 : Int32).toInt + 5 + 1).toNat 0 0 i_askHouse i_askTune J s.heap _ _ (ob_1 zc_0) (ob_807 zc_0) hP hD hS (lv_sub hl [2, 3, 1, 0] rfl) (mlt (ob_808 zc_0))
set_option maxHeartbeats 4000000 in
set_option maxRecDepth 100000 in
theorem kX9_takers (l : Launch) (dC : Nat → ClassId) (dI : Nat → Nat → Nat) (r : Nat → Nat) (ct : Nat → ClassId) (i_taped i_size i_faultKind i_at i_end i_token i_number i_bank i_rb i_codes i_within i_piled i_unitsInRule i_askHouse i_askTune i_acts i_undone i_laid i_knowns i_time : Int32) (f_text f_tunes f_houses f_hums f_told f_many f_ruleFrom f_ruleTo f_code f_eWhat f_eSign f_all f_kept f_was f_sTune f_boxAll : Nat → Int32) (J : Nat → Nat → Int32) (L : Nat → Nat → Int64) (p0 : Int32) (sz : Nat) (hI : (IM i_taped i_size i_faultKind i_at i_end i_bank i_rb i_acts i_undone i_laid i_knowns i_time f_tunes f_houses f_hums f_told f_many f_ruleFrom f_ruleTo f_code f_all f_kept f_was f_sTune f_boxAll)) (hp0 : (0 : Int) ≤ p0.toInt) (hp1 : p0.toInt + 1 ≤ (f_tunes (i_bank.toInt).toNat).toInt) : Met l yX9_takers (.code yX9_takers cX9_takers 4 (some .int) :: GW) { frames := 22, cells := 0, slots := 0, locals := 729 } (va_Pc [.ref (r 0), .int p0] (pW (dC, dI) (WM r ct i_taped i_size i_faultKind i_at i_end i_token i_number i_bank i_rb i_codes i_within i_piled i_unitsInRule i_askHouse i_askTune i_acts i_undone i_laid i_knowns i_time f_text f_tunes f_houses f_hums f_told f_many f_ruleFrom f_ruleTo f_code f_eWhat f_eSign f_all f_kept f_was f_sTune f_boxAll J L) (TM ct) sz)) (va_Qi (fun (r0 : Int32) (u : Int32) => r0 = u) (fun (u : Int32) (t : State) => ∃ (n_i_askHouse n_i_askTune : Int32) (n_J : Nat → Nat → Int32), va_P (dC, dI) vwCl (WM r ct i_taped i_size i_faultKind i_at i_end i_token i_number i_bank i_rb i_codes i_within i_piled i_unitsInRule n_i_askHouse n_i_askTune i_acts i_undone i_laid i_knowns i_time f_text f_tunes f_houses f_hums f_told f_many f_ruleFrom f_ruleTo f_code f_eWhat f_eSign f_all f_kept f_was f_sTune f_boxAll n_J L) t.heap ∧ va_D (va_A (WM r ct i_taped i_size i_faultKind i_at i_end i_token i_number i_bank i_rb i_codes i_within i_piled i_unitsInRule i_askHouse i_askTune i_acts i_undone i_laid i_knowns i_time f_text f_tunes f_houses f_hums f_told f_many f_ruleFrom f_ruleTo f_code f_eWhat f_eSign f_all f_kept f_was f_sTune f_boxAll J L) sz) (WM r ct i_taped i_size i_faultKind i_at i_end i_token i_number i_bank i_rb i_codes i_within i_piled i_unitsInRule n_i_askHouse n_i_askTune i_acts i_undone i_laid i_knowns i_time f_text f_tunes f_houses f_hums f_told f_many f_ruleFrom f_ruleTo f_code f_eWhat f_eSign f_all f_kept f_was f_sTune f_boxAll n_J L) ∧ (IM i_taped i_size i_faultKind i_at i_end i_bank i_rb i_acts i_undone i_laid i_knowns i_time f_tunes f_houses f_hums f_told f_many f_ruleFrom f_ruleTo f_code f_all f_kept f_was f_sTune f_boxAll)) (va_A (WM r ct i_taped i_size i_faultKind i_at i_end i_token i_number i_bank i_rb i_codes i_within i_piled i_unitsInRule i_askHouse i_askTune i_acts i_undone i_laid i_knowns i_time f_text f_tunes f_houses f_hums f_told f_many f_ruleFrom f_ruleTo f_code f_eWhat f_eSign f_all f_kept f_was f_sTune f_boxAll J L) sz)) 0 0 (va_A (WM r ct i_taped i_size i_faultKind i_at i_end i_token i_number i_bank i_rb i_codes i_within i_piled i_unitsInRule i_askHouse i_askTune i_acts i_undone i_laid i_knowns i_time f_text f_tunes f_houses f_hums f_told f_many f_ruleFrom f_ruleTo f_code f_eWhat f_eSign f_all f_kept f_was f_sTune f_boxAll J L) sz) := by
  refine Met.ofW (cc := cX9_takers) (maxL := 4) (ret := (some .int)) (by decide) rfl ?_
  intro p e s m args below meth c0 s₁ B hml hv
  obtain ⟨rfl, hsz, hP, hK, hD0⟩ := hv
  have hx := B.exec
  have hb := B.bytes
  have hr := B.returns
  have hts := atoms_spec (ws := .code yX9_takers cX9_takers 4 (some .int) :: GW) B.pre
  have hG : ∀ w ∈ GW, w.before _ s = true := fun w h => hts w (List.mem_cons_of_mem _ h)
  have hown : s.vm.findClass RX9 = some m.cls := findClass_of_methodNamed B.named
  subst hsz
  have hD := hD0.self (sz := s.heap.size)
  generalize hAe : va_A (WM r ct i_taped i_size i_faultKind i_at i_end i_token i_number i_bank i_rb i_codes i_within i_piled i_unitsInRule i_askHouse i_askTune i_acts i_undone i_laid i_knowns i_time f_text f_tunes f_houses f_hums f_told f_many f_ruleFrom f_ruleTo f_code f_eWhat f_eSign f_all f_kept f_was f_sTune f_boxAll J L) s.heap.size = A at hD ⊢
  have hA : ∀ q : Nat, s.heap.size ≤ q → A q := fun q h => by rw [← hAe]; exact Or.inr h
  have hS : va_S A s.heap s.heap [] := va_S.rf
  have hP : va_P (dC, dI) vwCl (WM r ct i_taped i_size i_faultKind i_at i_end i_token i_number i_bank i_rb i_codes i_within i_piled i_unitsInRule i_askHouse i_askTune i_acts i_undone i_laid i_knowns i_time f_text f_tunes f_houses f_hums f_told f_many f_ruleFrom f_ruleTo f_code f_eWhat f_eSign f_all f_kept f_was f_sTune f_boxAll J L) s.heap := hP
  have hl := lv_entry ([.ref (r 0), .int p0]) (n := 4) (Nat.le_of_ble_eq_true rfl)
  rw [lg_entry_eq]
  generalize (lg_sl ([.ref (r 0), .int p0]) ++ List.replicate (4 - (lg_sl ([.ref (r 0), .int p0])).length) Slot.unset).toArray = ls at hl ⊢
  have hl : lv_has ls 4 [(0, .ref (r 0)), (1, .int p0)] := hl
  refine nameQ (fun Q hQ => ?_)
  obtain ⟨ie0, ie1, ie2, ie3, ie4, ie5, ie6, ie7, ie8, ie9, ie10, ie11, ie12, ie13, ie14, ie15, ie16, ie17, ie18, ie19, ie20, ie21, ie22, ie23, ie24, ie25, ie26, ie27, ie28, ie29, ie30, ie31, ie32⟩ := id hI
  have f1 : 0 ≤ (f_tunes (i_bank.toInt).toNat).toInt ∧ (f_tunes (i_bank.toInt).toNat).toInt ≤ 5 := ie21 (i_bank.toInt)
  have f2 : 0 ≤ (f_houses (i_bank.toInt).toNat).toInt ∧ (f_houses (i_bank.toInt).toNat).toInt ≤ 4 := ie22 (i_bank.toInt)
  refine lv_iconst (v := 0) hx hb dX9_takers_0 (by decide) ?_
  refine lv_istore_n (lv' := [(2, .int 0), (0, .ref (r 0)), (1, .int p0)]) hx hb dX9_takers_1 rfl hl (by decide) rfl (fun ls hl => ?_)
  refine lv_iconst (v := 0) hx hb dX9_takers_2 (by decide) ?_
  refine lv_istore_n (lv' := [(3, .int 0), (2, .int 0), (0, .ref (r 0)), (1, .int p0)]) hx hb dX9_takers_3 rfl hl (by decide) rfl (fun ls hl => ?_)
  have L4 : ∀ (N4 : Nat) (y4_2 y4_3 : Int32) (m4_i_askHouse m4_i_askTune : Int32) (m4_J : Nat → Nat → Int32) (H4 : Heap) (locs : List Loc) (ls : Array Slot) (g4_0 : (0 : Int) ≤ y4_3.toInt) (g4_1 : y4_3.toInt ≤ (4 : Int)) (hP : va_P (dC, dI) vwCl (WM r ct i_taped i_size i_faultKind i_at i_end i_token i_number i_bank i_rb i_codes i_within i_piled i_unitsInRule m4_i_askHouse m4_i_askTune i_acts i_undone i_laid i_knowns i_time f_text f_tunes f_houses f_hums f_told f_many f_ruleFrom f_ruleTo f_code f_eWhat f_eSign f_all f_kept f_was f_sTune f_boxAll m4_J L) H4) (hD : va_D A (WM r ct i_taped i_size i_faultKind i_at i_end i_token i_number i_bank i_rb i_codes i_within i_piled i_unitsInRule m4_i_askHouse m4_i_askTune i_acts i_undone i_laid i_knowns i_time f_text f_tunes f_houses f_hums f_told f_many f_ruleFrom f_ruleTo f_code f_eWhat f_eSign f_all f_kept f_was f_sTune f_boxAll m4_J L)) (hS : va_S A s.heap H4 locs) (hl : lv_has ls 4 [(0, .ref (r 0)), (1, .int p0), (2, .int y4_2), (3, .int y4_3)]) (hM : -1 * y4_3.toInt + 4 < (N4 : Int)), W p l e { frames := 22, cells := 0, slots := 0, locals := 729 } s m ([.ref (r 0), .int p0] : List Value).toArray below meth c0 H4 locs 0 0 Q (F0 m 4 ls []) := by
    intro N4
    induction N4 with
    | zero =>
      intro y4_2 y4_3 m4_i_askHouse m4_i_askTune m4_J H4 locs ls g4_0 g4_1 hP hD hS hl hM
      exact ((ob_778 hM g4_0 g4_1)).elim
    | succ N4 ih4 =>
      intro y4_2 y4_3 m4_i_askHouse m4_i_askTune m4_J H4 locs ls g4_0 g4_1 hP hD hS hl hM
      have hM4 := msucc hM
      refine lv_iload_n hx hb dX9_takers_4 rfl (lv_at hl 3 rfl) ?_
      refine lv_aload_n hx hb dX9_takers_5 rfl (lv_at hl 0 rfl) ?_
      refine va_calli (va_runV (As := []) (rest := [.int y4_3]) ⟨hx, hb, hml, hown, hG⟩ (kX9_homes l dC dI r ct i_taped i_size i_faultKind i_at i_end i_token i_number i_bank i_rb i_codes i_within i_piled i_unitsInRule m4_i_askHouse m4_i_askTune i_acts i_undone i_laid i_knowns i_time f_text f_tunes f_houses f_hums f_told f_many f_ruleFrom f_ruleTo f_code f_eWhat f_eSign f_all f_kept f_was f_sTune f_boxAll m4_J L H4.size hI) (cwV 0 hG (goodV gw1167 gw1169 gw58 gw138 gw1170) rfl rfl rfl hd_X9_homes ⟨(Nat.le_of_ble_eq_true rfl), (Nat.le_of_ble_eq_true rfl)⟩) ⟨fbR, va_recv hK hP (ci := 8) (q0 := 0) rfl rfl, pR_in hP hK⟩ rfl rfl hl.1 rfl (lv_room (Nat.le_of_ble_eq_true rfl)) dX9_takers_6 ⟨(Nat.le_of_ble_eq_true rfl), (Nat.le_of_ble_eq_true rfl)⟩) hS (fun q hq h => absurd hq (Nat.not_lt.mpr h)) (fun q h => hA q (Nat.le_trans hS.1 h)) (fun r_4 u_ t_ H3 locs ht hvm hw hB hz1 hk1 hS => ?_)
      subst hw
      have hP := wk hP hk1
      have f5 := hB
      have f6 : r_4.toInt = (f_houses (i_bank.toInt).toNat).toInt := (ob_6 f5)
      refine lv_icmp_ge (tgt := 33) hx hb dX9_takers_9 (by decide) (fun c_7 => ?_) (fun c_7 => ?_)
      · skip
        have f8 : r_4.toInt ≤ y4_3.toInt := qi_le c_7 rfl rfl
        refine lv_iload_n hx hb dX9_takers_33 rfl (lv_at hl 2 rfl) ?_
        rw [hQ]
        exact W.iret (v := y4_2) hx hb hr (fun t ht hW => ⟨⟨y4_2, y4_2, rfl, rfl, ⟨m4_i_askHouse, m4_i_askTune, m4_J, by rw [ht]; exact hP, hD, hI⟩⟩, hS.F ht⟩) hS.2.2 dX9_takers_34
      · skip
        have f9 : y4_3.toInt < r_4.toInt := qi_nle c_7 rfl rfl
        refine lv_aload_n hx hb dX9_takers_12 rfl (lv_at hl 0 rfl) ?_
        refine lv_iload_n hx hb dX9_takers_13 rfl (lv_at hl 3 rfl) ?_
        refine lv_iload_n hx hb dX9_takers_14 rfl (lv_at hl 1 rfl) ?_
        have hFc := frA hD hS hA
        refine va_calli (va_runV (As := [.int y4_3, .int p0]) (rest := []) ⟨hx, hb, hml, hown, hG⟩ (kX9_doesTake l dC dI r ct i_taped i_size i_faultKind i_at i_end i_token i_number i_bank i_rb i_codes i_within i_piled i_unitsInRule m4_i_askHouse m4_i_askTune i_acts i_undone i_laid i_knowns i_time f_text f_tunes f_houses f_hums f_told f_many f_ruleFrom f_ruleTo f_code f_eWhat f_eSign f_all f_kept f_was f_sTune f_boxAll m4_J L y4_3 p0 H3.size hI (ob_139 g4_0) (ob_1054 f9 f6) (ob_880 hp0 hp1) (ob_881 f1 hp0 hp1)) (cwV 2 hG (goodV gw1610 gw1612 gw104 gw138 gw1613) rfl rfl rfl hd_X9_doesTake ⟨(Nat.le_of_ble_eq_true rfl), (Nat.le_of_ble_eq_true rfl)⟩) ⟨fbW, va_recv hK hP (ci := 8) (q0 := 0) rfl rfl, pW_in hP hK hD⟩ rfl rfl hl.1 rfl (lv_room (Nat.le_of_ble_eq_true rfl)) dX9_takers_15 ⟨(Nat.le_of_ble_eq_true rfl), (Nat.le_of_ble_eq_true rfl)⟩) hS (fun q _ h => hFc q h) hFc (fun r_11 u_ t_ H10 locs ht hvm hw hB hz1 hk1 hS => ?_)
        subst hw
        obtain ⟨x12, x13, J14, hP1, hD1, hI18, f15, f16, f17⟩ := hB
        rw [ht] at hP1
        have hP := hP1
        have hD := dW hFc hD1
        obtain ⟨im19, im20, im21, im22, im23, im24, im25, im26, im27, im28, im29, im30, im31, im32, im33, im34, im35, im36, im37, im38, im39, im40, im41, im42, im43, im44, im45, im46, im47, im48, im49, im50, im51⟩ := id hI18
        refine lv_if_eq (tgt := 27) hx hb dX9_takers_18 (by decide) (fun c_52 => ?_) (fun c_52 => ?_)
        · skip
          have f53 : r_11.toInt = 0 := qi_eq c_52 rfl zc_0
          have f54 : r_11.toInt = (0 : Int) := (ob_226 f16 f17 f53)
          obtain ⟨x55, ex55⟩ : ∃ y : Int32, y = y4_3 + Int32.ofInt 1 := ⟨_, rfl⟩
          have f56 : x55.toInt = y4_3.toInt + 1 := (ob_142 (qi_add ex55 rfl (by decide) (ob_140 g4_0) (ob_794 g4_1)))
          refine lv_iinc (v := x55) (lv' := [(3, .int x55), (0, .ref (r 0)), (1, .int p0), (2, .int y4_2)]) hx hb dX9_takers_27 hl (k := 3) rfl ex55.symm (by decide) rfl (fun ls hl => ?_)
          refine lv_goto (tgt := 4) hx hb dX9_takers_30 (by decide) ?_
          exact ih4 y4_2 x55 x12 x13 J14 H10 _ _ (ob_149 g4_0 f56) (ob_795 f2 f9 f6 f56) hP hD hS (lv_sub hl [1, 2, 3, 0] rfl) (ob_796 hM4 f56)
        · skip
          have f57 : r_11.toInt ≠ 0 := qi_ne c_52 rfl zc_0
          have f58 : r_11.toInt = (1 : Int) := (ob_592 f15 f57)
          have f59 : (1 : Int) ≤ r_11.toInt := (ob_162 f16 f17 f58)
          refine lv_iload_n hx hb dX9_takers_21 rfl (lv_at hl 2 rfl) ?_
          refine lv_iconst (v := 1) hx hb dX9_takers_22 (by decide) ?_
          refine lv_iload_n hx hb dX9_takers_23 rfl (lv_at hl 3 rfl) ?_
          refine lv_ishl hx hb dX9_takers_24 ?_
          refine lv_topi (fun x60 ex60 => ?_)
          refine lv_ior hx hb dX9_takers_25 ?_
          refine lv_topi (fun x61 ex61 => ?_)
          refine lv_istore_n (lv' := [(2, .int x61), (0, .ref (r 0)), (1, .int p0), (3, .int y4_3)]) hx hb dX9_takers_26 rfl hl (by decide) rfl (fun ls hl => ?_)
          obtain ⟨x62, ex62⟩ : ∃ y : Int32, y = y4_3 + Int32.ofInt 1 := ⟨_, rfl⟩
          have f63 : x62.toInt = y4_3.toInt + 1 := (ob_142 (qi_add ex62 rfl (by decide) (ob_140 g4_0) (ob_794 g4_1)))
          refine lv_iinc (v := x62) (lv' := [(3, .int x62), (2, .int x61), (0, .ref (r 0)), (1, .int p0)]) hx hb dX9_takers_27 hl (k := 3) rfl ex62.symm (by decide) rfl (fun ls hl => ?_)
          refine lv_goto (tgt := 4) hx hb dX9_takers_30 (by decide) ?_
          exact ih4 x61 x62 x12 x13 J14 H10 _ _ (ob_149 g4_0 f63) (ob_795 f2 f9 f6 f63) hP hD hS (lv_sub hl [2, 3, 1, 0] rfl) (ob_796 hM4 f63)
  exact L4 (-1 * (0 : Int32).toInt + 4 + 1).toNat 0 0 i_askHouse i_askTune J s.heap _ _ (ob_1 zc_0) (ob_797 zc_0) hP hD hS (lv_sub hl [2, 3, 1, 0] rfl) (mlt (ob_798 zc_0))
set_option maxHeartbeats 4000000 in
set_option maxRecDepth 100000 in
theorem kX9_toCart (l : Launch) (dC : Nat → ClassId) (dI : Nat → Nat → Nat) (r : Nat → Nat) (ct : Nat → ClassId) (i_taped i_size i_faultKind i_at i_end i_token i_number i_bank i_rb i_codes i_within i_piled i_unitsInRule i_askHouse i_askTune i_acts i_undone i_laid i_knowns i_time : Int32) (f_text f_tunes f_houses f_hums f_told f_many f_ruleFrom f_ruleTo f_code f_eWhat f_eSign f_all f_kept f_was f_sTune f_boxAll : Nat → Int32) (J : Nat → Nat → Int32) (L : Nat → Nat → Int64) (p0 : Int32) (sz : Nat) (hI : (IM i_taped i_size i_faultKind i_at i_end i_bank i_rb i_acts i_undone i_laid i_knowns i_time f_tunes f_houses f_hums f_told f_many f_ruleFrom f_ruleTo f_code f_all f_kept f_was f_sTune f_boxAll)) (hp0 : (0 : Int) ≤ p0.toInt) (hp1 : p0.toInt + 1 ≤ (f_tunes (i_bank.toInt).toNat).toInt) : Met l yX9_toCart (.code yX9_toCart cX9_toCart 2 none :: GW) { frames := 2, cells := 0, slots := 0, locals := 100 } (va_Pc [.ref (r 0), .int p0] (pW (dC, dI) (WM r ct i_taped i_size i_faultKind i_at i_end i_token i_number i_bank i_rb i_codes i_within i_piled i_unitsInRule i_askHouse i_askTune i_acts i_undone i_laid i_knowns i_time f_text f_tunes f_houses f_hums f_told f_many f_ruleFrom f_ruleTo f_code f_eWhat f_eSign f_all f_kept f_was f_sTune f_boxAll J L) (TM ct) sz)) (va_Qv (fun _ : Unit => True) (fun (_ : Unit) (t : State) => ∃ (n_f_all : Nat → Int32), va_P (dC, dI) vwCl (WM r ct i_taped i_size i_faultKind i_at i_end i_token i_number i_bank i_rb i_codes i_within i_piled i_unitsInRule i_askHouse i_askTune i_acts i_undone i_laid i_knowns i_time f_text f_tunes f_houses f_hums f_told f_many f_ruleFrom f_ruleTo f_code f_eWhat f_eSign n_f_all f_kept f_was f_sTune f_boxAll J L) t.heap ∧ va_D (va_A (WM r ct i_taped i_size i_faultKind i_at i_end i_token i_number i_bank i_rb i_codes i_within i_piled i_unitsInRule i_askHouse i_askTune i_acts i_undone i_laid i_knowns i_time f_text f_tunes f_houses f_hums f_told f_many f_ruleFrom f_ruleTo f_code f_eWhat f_eSign f_all f_kept f_was f_sTune f_boxAll J L) sz) (WM r ct i_taped i_size i_faultKind i_at i_end i_token i_number i_bank i_rb i_codes i_within i_piled i_unitsInRule i_askHouse i_askTune i_acts i_undone i_laid i_knowns i_time f_text f_tunes f_houses f_hums f_told f_many f_ruleFrom f_ruleTo f_code f_eWhat f_eSign n_f_all f_kept f_was f_sTune f_boxAll J L) ∧ (IM i_taped i_size i_faultKind i_at i_end i_bank i_rb i_acts i_undone i_laid i_knowns i_time f_tunes f_houses f_hums f_told f_many f_ruleFrom f_ruleTo f_code n_f_all f_kept f_was f_sTune f_boxAll)) (va_A (WM r ct i_taped i_size i_faultKind i_at i_end i_token i_number i_bank i_rb i_codes i_within i_piled i_unitsInRule i_askHouse i_askTune i_acts i_undone i_laid i_knowns i_time f_text f_tunes f_houses f_hums f_told f_many f_ruleFrom f_ruleTo f_code f_eWhat f_eSign f_all f_kept f_was f_sTune f_boxAll J L) sz)) 0 0 (va_A (WM r ct i_taped i_size i_faultKind i_at i_end i_token i_number i_bank i_rb i_codes i_within i_piled i_unitsInRule i_askHouse i_askTune i_acts i_undone i_laid i_knowns i_time f_text f_tunes f_houses f_hums f_told f_many f_ruleFrom f_ruleTo f_code f_eWhat f_eSign f_all f_kept f_was f_sTune f_boxAll J L) sz) := by
  refine Met.ofW (cc := cX9_toCart) (maxL := 2) (ret := none) (by decide) rfl ?_
  intro p e s m args below meth c0 s₁ B hml hv
  obtain ⟨rfl, hsz, hP, hK, hD0⟩ := hv
  have hx := B.exec
  have hb := B.bytes
  have hr := B.returns
  have hts := atoms_spec (ws := .code yX9_toCart cX9_toCart 2 none :: GW) B.pre
  have hG : ∀ w ∈ GW, w.before _ s = true := fun w h => hts w (List.mem_cons_of_mem _ h)
  have hown : s.vm.findClass RX9 = some m.cls := findClass_of_methodNamed B.named
  subst hsz
  have hD := hD0.self (sz := s.heap.size)
  generalize hAe : va_A (WM r ct i_taped i_size i_faultKind i_at i_end i_token i_number i_bank i_rb i_codes i_within i_piled i_unitsInRule i_askHouse i_askTune i_acts i_undone i_laid i_knowns i_time f_text f_tunes f_houses f_hums f_told f_many f_ruleFrom f_ruleTo f_code f_eWhat f_eSign f_all f_kept f_was f_sTune f_boxAll J L) s.heap.size = A at hD ⊢
  have hA : ∀ q : Nat, s.heap.size ≤ q → A q := fun q h => by rw [← hAe]; exact Or.inr h
  have hS : va_S A s.heap s.heap [] := va_S.rf
  have hP : va_P (dC, dI) vwCl (WM r ct i_taped i_size i_faultKind i_at i_end i_token i_number i_bank i_rb i_codes i_within i_piled i_unitsInRule i_askHouse i_askTune i_acts i_undone i_laid i_knowns i_time f_text f_tunes f_houses f_hums f_told f_many f_ruleFrom f_ruleTo f_code f_eWhat f_eSign f_all f_kept f_was f_sTune f_boxAll J L) s.heap := hP
  have hl := lv_entry ([.ref (r 0), .int p0]) (n := 2) (Nat.le_of_ble_eq_true rfl)
  rw [lg_entry_eq]
  generalize (lg_sl ([.ref (r 0), .int p0]) ++ List.replicate (2 - (lg_sl ([.ref (r 0), .int p0])).length) Slot.unset).toArray = ls at hl ⊢
  have hl : lv_has ls 2 [(0, .ref (r 0)), (1, .int p0)] := hl
  refine nameQ (fun Q hQ => ?_)
  obtain ⟨ie0, ie1, ie2, ie3, ie4, ie5, ie6, ie7, ie8, ie9, ie10, ie11, ie12, ie13, ie14, ie15, ie16, ie17, ie18, ie19, ie20, ie21, ie22, ie23, ie24, ie25, ie26, ie27, ie28, ie29, ie30, ie31, ie32⟩ := id hI
  have f1 : 0 ≤ (f_tunes (i_bank.toInt).toNat).toInt ∧ (f_tunes (i_bank.toInt).toNat).toInt ≤ 5 := ie21 (i_bank.toInt)
  have f2 : 0 ≤ (f_houses (i_bank.toInt).toNat).toInt ∧ (f_houses (i_bank.toInt).toNat).toInt ≤ 4 := ie22 (i_bank.toInt)
  refine lv_aload_n hx hb dX9_toCart_0 rfl (lv_at hl 0 rfl) ?_
  refine gM_X9_88_0 hx hb hG hown hK hP dX9_toCart_1 ?_
  refine lv_iconst (v := 0) hx hb dX9_toCart_4 (by decide) ?_
  refine lv_iload_n hx hb dX9_toCart_5 rfl (lv_at hl 1 rfl) ?_
  refine lv_iadd hx hb dX9_toCart_6 ?_
  refine lv_topi (fun x3 ex3 => ?_)
  have f4 : x3.toInt = p0.toInt := (ob_801 (qi_add ex3 zc_0 rfl (ob_1027 hp0 hp1) (ob_1028 f1 hp0 hp1)))
  refine lv_iconst (v := (-1)) hx hb dX9_toCart_7 (by decide) ?_
  refine stM_25 (mm := p0.toInt) hx hb hK hP hD hS f4 (ob_1029 hp0 hp1) (ob_1030 f1 hp0 hp1) dX9_toCart_8 (fun z6 H5 locs ez6 hP hD hS => ?_)
  have g7 : EW z6 := ez6 ▸ EW.updo ie27 (ob_1029 hp0 hp1) (ob_1067 f1 hp0 hp1)
  refine lv_aload_n hx hb dX9_toCart_9 rfl (lv_at hl 0 rfl) ?_
  refine gM_X9_88_0 hx hb hG hown hK hP dX9_toCart_10 ?_
  refine lv_iconst (v := 5) hx hb dX9_toCart_13 (by decide) ?_
  refine lv_iload_n hx hb dX9_toCart_14 rfl (lv_at hl 1 rfl) ?_
  refine lv_iadd hx hb dX9_toCart_15 ?_
  refine lv_topi (fun x8 ex8 => ?_)
  have f9 : x8.toInt = p0.toInt + 5 := (ob_1036 (qi_add ex8 zc_5 rfl (ob_1034 hp0 hp1) (ob_1035 f1 hp0 hp1)))
  refine lv_iconst (v := 0) hx hb dX9_toCart_16 (by decide) ?_
  refine stM_25 (mm := p0.toInt + 5) hx hb hK hP hD hS f9 (ob_1037 hp0 hp1) (ob_1038 f1 hp0 hp1) dX9_toCart_17 (fun z11 H10 locs ez11 hP hD hS => ?_)
  have g12 : EW z11 := ez11 ▸ EW.updo g7 (ob_1037 hp0 hp1) (ob_1068 f1 hp0 hp1)
  refine lv_aload_n hx hb dX9_toCart_18 rfl (lv_at hl 0 rfl) ?_
  refine gM_X9_88_0 hx hb hG hown hK hP dX9_toCart_19 ?_
  refine lv_bipush (v := 15) hx hb dX9_toCart_22 (by decide) ?_
  refine lv_iload_n hx hb dX9_toCart_24 rfl (lv_at hl 1 rfl) ?_
  refine lv_iadd hx hb dX9_toCart_25 ?_
  refine lv_topi (fun x13 ex13 => ?_)
  have f14 : x13.toInt = p0.toInt + 15 := (ob_1063 (qi_add ex13 zc_15 rfl (ob_1069 hp0 hp1) (ob_1070 f1 hp0 hp1)))
  refine lv_iconst (v := 0) hx hb dX9_toCart_26 (by decide) ?_
  refine stM_25 (mm := p0.toInt + 15) hx hb hK hP hD hS f14 (ob_1071 hp0 hp1) (ob_1072 f1 hp0 hp1) dX9_toCart_27 (fun z16 H15 locs ez16 hP hD hS => ?_)
  have g17 : EW z16 := ez16 ▸ EW.updo g12 (ob_1071 hp0 hp1) (ob_1073 f1 hp0 hp1)
  rw [hQ]
  exact W.vret hx hb hr (fun t ht hW => ⟨⟨(), rfl, trivial, ⟨z16, by rw [ht]; exact hP, hD, ⟨ie0, ie1, ie2, ie3, ie4, ie5, ie6, ie7, ie8, ie9, ie10, ie11, ie12, ie13, ie14, ie15, ie16, ie17, ie18, ie19, ie20, ie21, ie22, ie23, ie24, ie25, ie26, g17, ie28, ie29, ie30, ie31, ie32⟩⟩⟩, hS.F ht⟩) hS.2.2 dX9_toCart_28
set_option maxHeartbeats 4000000 in
set_option maxRecDepth 100000 in
theorem kX9_isPaid (l : Launch) (dC : Nat → ClassId) (dI : Nat → Nat → Nat) (r : Nat → Nat) (ct : Nat → ClassId) (i_taped i_size i_faultKind i_at i_end i_token i_number i_bank i_rb i_codes i_within i_piled i_unitsInRule i_askHouse i_askTune i_acts i_undone i_laid i_knowns i_time : Int32) (f_text f_tunes f_houses f_hums f_told f_many f_ruleFrom f_ruleTo f_code f_eWhat f_eSign f_all f_kept f_was f_sTune f_boxAll : Nat → Int32) (J : Nat → Nat → Int32) (L : Nat → Nat → Int64) (p0 p1 : Int32) (sz : Nat) (hI : (IM i_taped i_size i_faultKind i_at i_end i_bank i_rb i_acts i_undone i_laid i_knowns i_time f_tunes f_houses f_hums f_told f_many f_ruleFrom f_ruleTo f_code f_all f_kept f_was f_sTune f_boxAll)) (hp0 : (0 : Int) ≤ p0.toInt) (hp1 : p0.toInt + 1 ≤ (f_houses (i_bank.toInt).toNat).toInt) (hp2 : (0 : Int) ≤ p1.toInt) (hp3 : p1.toInt + 1 ≤ (f_tunes (i_bank.toInt).toNat).toInt) : Met l yX9_isPaid (.code yX9_isPaid cX9_isPaid 3 (some .boolean) :: GW) { frames := 20, cells := 0, slots := 0, locals := 667 } (va_Pc [.ref (r 0), .int p0, .int p1] (pW (dC, dI) (WM r ct i_taped i_size i_faultKind i_at i_end i_token i_number i_bank i_rb i_codes i_within i_piled i_unitsInRule i_askHouse i_askTune i_acts i_undone i_laid i_knowns i_time f_text f_tunes f_houses f_hums f_told f_many f_ruleFrom f_ruleTo f_code f_eWhat f_eSign f_all f_kept f_was f_sTune f_boxAll J L) (TM ct) sz)) (va_Qi (fun (r0 : Int32) (u : Int32) => r0 = u) (fun (u : Int32) (t : State) => ∃ (n_i_askHouse n_i_askTune : Int32) (n_f_all : Nat → Int32) (n_J : Nat → Nat → Int32), va_P (dC, dI) vwCl (WM r ct i_taped i_size i_faultKind i_at i_end i_token i_number i_bank i_rb i_codes i_within i_piled i_unitsInRule n_i_askHouse n_i_askTune i_acts i_undone i_laid i_knowns i_time f_text f_tunes f_houses f_hums f_told f_many f_ruleFrom f_ruleTo f_code f_eWhat f_eSign n_f_all f_kept f_was f_sTune f_boxAll n_J L) t.heap ∧ va_D (va_A (WM r ct i_taped i_size i_faultKind i_at i_end i_token i_number i_bank i_rb i_codes i_within i_piled i_unitsInRule i_askHouse i_askTune i_acts i_undone i_laid i_knowns i_time f_text f_tunes f_houses f_hums f_told f_many f_ruleFrom f_ruleTo f_code f_eWhat f_eSign f_all f_kept f_was f_sTune f_boxAll J L) sz) (WM r ct i_taped i_size i_faultKind i_at i_end i_token i_number i_bank i_rb i_codes i_within i_piled i_unitsInRule n_i_askHouse n_i_askTune i_acts i_undone i_laid i_knowns i_time f_text f_tunes f_houses f_hums f_told f_many f_ruleFrom f_ruleTo f_code f_eWhat f_eSign n_f_all f_kept f_was f_sTune f_boxAll n_J L) ∧ (IM i_taped i_size i_faultKind i_at i_end i_bank i_rb i_acts i_undone i_laid i_knowns i_time f_tunes f_houses f_hums f_told f_many f_ruleFrom f_ruleTo f_code n_f_all f_kept f_was f_sTune f_boxAll) ∧ (((u.toInt = (0 : Int))) ∨ ((u.toInt = (1 : Int)))) ∧ ((0 : Int) ≤ u.toInt) ∧ (u.toInt ≤ (1 : Int))) (va_A (WM r ct i_taped i_size i_faultKind i_at i_end i_token i_number i_bank i_rb i_codes i_within i_piled i_unitsInRule i_askHouse i_askTune i_acts i_undone i_laid i_knowns i_time f_text f_tunes f_houses f_hums f_told f_many f_ruleFrom f_ruleTo f_code f_eWhat f_eSign f_all f_kept f_was f_sTune f_boxAll J L) sz)) 0 0 (va_A (WM r ct i_taped i_size i_faultKind i_at i_end i_token i_number i_bank i_rb i_codes i_within i_piled i_unitsInRule i_askHouse i_askTune i_acts i_undone i_laid i_knowns i_time f_text f_tunes f_houses f_hums f_told f_many f_ruleFrom f_ruleTo f_code f_eWhat f_eSign f_all f_kept f_was f_sTune f_boxAll J L) sz) := by
  refine Met.ofW (cc := cX9_isPaid) (maxL := 3) (ret := (some .boolean)) (by decide) rfl ?_
  intro p e s m args below meth c0 s₁ B hml hv
  obtain ⟨rfl, hsz, hP, hK, hD0⟩ := hv
  have hx := B.exec
  have hb := B.bytes
  have hr := B.returns
  have hts := atoms_spec (ws := .code yX9_isPaid cX9_isPaid 3 (some .boolean) :: GW) B.pre
  have hG : ∀ w ∈ GW, w.before _ s = true := fun w h => hts w (List.mem_cons_of_mem _ h)
  have hown : s.vm.findClass RX9 = some m.cls := findClass_of_methodNamed B.named
  subst hsz
  have hD := hD0.self (sz := s.heap.size)
  generalize hAe : va_A (WM r ct i_taped i_size i_faultKind i_at i_end i_token i_number i_bank i_rb i_codes i_within i_piled i_unitsInRule i_askHouse i_askTune i_acts i_undone i_laid i_knowns i_time f_text f_tunes f_houses f_hums f_told f_many f_ruleFrom f_ruleTo f_code f_eWhat f_eSign f_all f_kept f_was f_sTune f_boxAll J L) s.heap.size = A at hD ⊢
  have hA : ∀ q : Nat, s.heap.size ≤ q → A q := fun q h => by rw [← hAe]; exact Or.inr h
  have hS : va_S A s.heap s.heap [] := va_S.rf
  have hP : va_P (dC, dI) vwCl (WM r ct i_taped i_size i_faultKind i_at i_end i_token i_number i_bank i_rb i_codes i_within i_piled i_unitsInRule i_askHouse i_askTune i_acts i_undone i_laid i_knowns i_time f_text f_tunes f_houses f_hums f_told f_many f_ruleFrom f_ruleTo f_code f_eWhat f_eSign f_all f_kept f_was f_sTune f_boxAll J L) s.heap := hP
  have hl := lv_entry ([.ref (r 0), .int p0, .int p1]) (n := 3) (Nat.le_of_ble_eq_true rfl)
  rw [lg_entry_eq]
  generalize (lg_sl ([.ref (r 0), .int p0, .int p1]) ++ List.replicate (3 - (lg_sl ([.ref (r 0), .int p0, .int p1])).length) Slot.unset).toArray = ls at hl ⊢
  have hl : lv_has ls 3 [(0, .ref (r 0)), (1, .int p0), (2, .int p1)] := hl
  refine nameQ (fun Q hQ => ?_)
  obtain ⟨ie0, ie1, ie2, ie3, ie4, ie5, ie6, ie7, ie8, ie9, ie10, ie11, ie12, ie13, ie14, ie15, ie16, ie17, ie18, ie19, ie20, ie21, ie22, ie23, ie24, ie25, ie26, ie27, ie28, ie29, ie30, ie31, ie32⟩ := id hI
  have f1 : 0 ≤ (f_tunes (i_bank.toInt).toNat).toInt ∧ (f_tunes (i_bank.toInt).toNat).toInt ≤ 5 := ie21 (i_bank.toInt)
  have f2 : 0 ≤ (f_houses (i_bank.toInt).toNat).toInt ∧ (f_houses (i_bank.toInt).toNat).toInt ≤ 4 := ie22 (i_bank.toInt)
  refine lv_aload_n hx hb dX9_isPaid_0 rfl (lv_at hl 0 rfl) ?_
  refine lv_iload_n hx hb dX9_isPaid_1 rfl (lv_at hl 1 rfl) ?_
  refine lv_iload_n hx hb dX9_isPaid_2 rfl (lv_at hl 2 rfl) ?_
  refine lv_aload_n hx hb dX9_isPaid_3 rfl (lv_at hl 0 rfl) ?_
  refine gM_X9_88_0 hx hb hG hown hK hP dX9_isPaid_4 ?_
  refine lv_bipush (v := 15) hx hb dX9_isPaid_7 (by decide) ?_
  refine lv_iload_n hx hb dX9_isPaid_9 rfl (lv_at hl 2 rfl) ?_
  refine lv_iadd hx hb dX9_isPaid_10 ?_
  refine lv_topi (fun x3 ex3 => ?_)
  have f4 : x3.toInt = p1.toInt + 15 := (ob_1063 (qi_add ex3 zc_15 rfl (ob_1069 hp2 hp3) (ob_1070 f1 hp2 hp3)))
  refine ldM_25 (mm := p1.toInt + 15) hx hb hK hP f4 (ob_1071 hp2 hp3) (ob_1072 f1 hp2 hp3) dX9_isPaid_11 ?_
  have hFc := frA hD hS hA
  refine va_calli (va_runV (As := [.int p0, .int p1, .int (f_all (p1.toInt + 15).toNat)]) (rest := []) ⟨hx, hb, hml, hown, hG⟩ (kX9_gladBy l dC dI r ct i_taped i_size i_faultKind i_at i_end i_token i_number i_bank i_rb i_codes i_within i_piled i_unitsInRule i_askHouse i_askTune i_acts i_undone i_laid i_knowns i_time f_text f_tunes f_houses f_hums f_told f_many f_ruleFrom f_ruleTo f_code f_eWhat f_eSign f_all f_kept f_was f_sTune f_boxAll J L p0 p1 (f_all (p1.toInt + 15).toNat) s.heap.size hI (ob_880 hp0 hp1) (ob_898 f2 hp0 hp1) (ob_880 hp2 hp3) (ob_881 f1 hp2 hp3)) (cwV 3 hG (goodV gw1566 gw1568 gw95 gw138 gw1569) rfl rfl rfl hd_X9_gladBy ⟨(Nat.le_of_ble_eq_true rfl), (Nat.le_of_ble_eq_true rfl)⟩) ⟨fbW, va_recv hK hP (ci := 8) (q0 := 0) rfl rfl, pW_in hP hK hD⟩ rfl rfl hl.1 rfl (lv_room (Nat.le_of_ble_eq_true rfl)) dX9_isPaid_12 ⟨(Nat.le_of_ble_eq_true rfl), (Nat.le_of_ble_eq_true rfl)⟩) hS (fun q _ h => hFc q h) hFc (fun r_6 u_ t_ H5 locs ht hvm hw hB hz1 hk1 hS => ?_)
  subst hw
  obtain ⟨x7, x8, J9, hP1, hD1, hI10⟩ := hB
  rw [ht] at hP1
  have hP := hP1
  have hD := dW hFc hD1
  obtain ⟨im11, im12, im13, im14, im15, im16, im17, im18, im19, im20, im21, im22, im23, im24, im25, im26, im27, im28, im29, im30, im31, im32, im33, im34, im35, im36, im37, im38, im39, im40, im41, im42, im43⟩ := id hI10
  refine lv_if_le (tgt := 35) hx hb dX9_isPaid_15 (by decide) (fun c_44 => ?_) (fun c_44 => ?_)
  · skip
    have f45 : r_6.toInt ≤ 0 := qi_le c_44 rfl zc_0
    refine lv_aload_n hx hb dX9_isPaid_35 rfl (lv_at hl 0 rfl) ?_
    refine lv_iload_n hx hb dX9_isPaid_36 rfl (lv_at hl 2 rfl) ?_
    have hFc := frA hD hS hA
    refine va_callv (va_runV (As := [.int p1]) (rest := []) ⟨hx, hb, hml, hown, hG⟩ (kX9_toCart l dC dI r ct i_taped i_size i_faultKind i_at i_end i_token i_number i_bank i_rb i_codes i_within i_piled i_unitsInRule x7 x8 i_acts i_undone i_laid i_knowns i_time f_text f_tunes f_houses f_hums f_told f_many f_ruleFrom f_ruleTo f_code f_eWhat f_eSign f_all f_kept f_was f_sTune f_boxAll J9 L p1 H5.size hI10 (ob_880 hp2 hp3) (ob_881 f1 hp2 hp3)) (cwV 1 hG (goodV gw1696 gw1698 gw110 gw138 gw1699) rfl rfl rfl hd_X9_toCart ⟨(Nat.le_of_ble_eq_true rfl), (Nat.le_of_ble_eq_true rfl)⟩) ⟨fbW, va_recv hK hP (ci := 8) (q0 := 0) rfl rfl, pW_in hP hK hD⟩ rfl rfl hl.1 rfl (lv_room (Nat.le_of_ble_eq_true rfl)) dX9_isPaid_37 ⟨(Nat.le_of_ble_eq_true rfl), (Nat.le_of_ble_eq_true rfl)⟩) hS (fun q _ h => hFc q h) hFc (fun _ t_ H46 locs ht hvm hw hB hz1 hk1 hS => ?_)
    obtain ⟨z48, hP1, hD1, hI49⟩ := hB
    rw [ht] at hP1
    have hP := hP1
    have hD := dW hFc hD1
    obtain ⟨im50, im51, im52, im53, im54, im55, im56, im57, im58, im59, im60, im61, im62, im63, im64, im65, im66, im67, im68, im69, im70, im71, im72, im73, im74, im75, im76, im77, im78, im79, im80, im81, im82⟩ := id hI49
    refine lv_aload_n hx hb dX9_isPaid_40 rfl (lv_at hl 0 rfl) ?_
    refine gM_X9_88_0 hx hb hG hown hK hP dX9_isPaid_41 ?_
    refine lv_bipush (v := 10) hx hb dX9_isPaid_44 (by decide) ?_
    refine lv_iload_n hx hb dX9_isPaid_46 rfl (lv_at hl 2 rfl) ?_
    refine lv_iadd hx hb dX9_isPaid_47 ?_
    refine lv_topi (fun x83 ex83 => ?_)
    have f84 : x83.toInt = p1.toInt + 10 := (ob_861 (qi_add ex83 zc_10 rfl (ob_859 hp2 hp3) (ob_917 f1 hp2 hp3)))
    refine lv_aload_n hx hb dX9_isPaid_48 rfl (lv_at hl 0 rfl) ?_
    refine gM_X9_88_0 hx hb hG hown hK hP dX9_isPaid_49 ?_
    refine lv_bipush (v := 10) hx hb dX9_isPaid_52 (by decide) ?_
    refine lv_iload_n hx hb dX9_isPaid_54 rfl (lv_at hl 2 rfl) ?_
    refine lv_iadd hx hb dX9_isPaid_55 ?_
    refine lv_topi (fun x85 ex85 => ?_)
    have f86 : x85.toInt = p1.toInt + 10 := (ob_861 (qi_add ex85 zc_10 rfl (ob_859 hp2 hp3) (ob_917 f1 hp2 hp3)))
    refine ldM_25 (mm := p1.toInt + 10) hx hb hK hP f86 (ob_862 hp2 hp3) (ob_918 f1 hp2 hp3) dX9_isPaid_56 ?_
    have f87 : 0 ≤ (z48 (p1.toInt + 10).toNat).toInt ∧ (z48 (p1.toInt + 10).toNat).toInt ≤ 99 := im77 (p1.toInt + 10) (ob_862 hp2 hp3) (ob_919 f1 hp2 hp3) (ob_920 f1 hp2 hp3)
    refine lv_iconst (v := 1) hx hb dX9_isPaid_57 (by decide) ?_
    refine lv_iadd hx hb dX9_isPaid_58 ?_
    refine lv_topi (fun x88 ex88 => ?_)
    have f89 : x88.toInt = (z48 (p1.toInt + 10).toNat).toInt + 1 := (ob_142 (qi_add ex88 rfl zc_1 (ob_1074 f87) (ob_1075 f87)))
    refine lv_iconst (v := 0) hx hb dX9_isPaid_59 (by decide) ?_
    refine lv_bipush (v := 99) hx hb dX9_isPaid_60 (by decide) ?_
    refine va_calli (va_runS (As := [.int x88, .int 0, .int 99]) (rest := [.int x83, .ref (r 25)]) ⟨hx, hb, hml, hown, hG⟩ (kX9_held l dC dI x88 0 99 H46.size) (va_cwS 3 hG (goodS gw1527 gw1528 gw138 gw1529) rfl rfl rfl hd_X9_held ⟨(Nat.le_of_ble_eq_true rfl), (Nat.le_of_ble_eq_true rfl)⟩) ⟨fbR, pR_in emptyP (emptyK hK)⟩ rfl rfl hl.1 rfl (lv_room (Nat.le_of_ble_eq_true rfl)) dX9_isPaid_62 ⟨(Nat.le_of_ble_eq_true rfl), (Nat.le_of_ble_eq_true rfl)⟩) hS (fun q hq h => absurd hq (Nat.not_lt.mpr h)) (fun q h => hA q (Nat.le_trans hS.1 h)) (fun r_91 u_ t_ H90 locs ht hvm hw hB hz1 hk1 hS => ?_)
    subst hw
    have hP := wk hP hk1
    have f92 := hB
    refine stM_25 (mm := p1.toInt + 10) hx hb hK hP hD hS f84 (ob_862 hp2 hp3) (ob_918 f1 hp2 hp3) dX9_isPaid_65 (fun z94 H93 locs ez94 hP hD hS => ?_)
    have g95 : EW z94 := ez94 ▸ EW.updi im77 (ob_1076 f92 zc_99 f89 zc_0) (ob_1077 f92 zc_99 f89 zc_0)
    refine lv_iconst (v := 0) hx hb dX9_isPaid_66 (by decide) ?_
    rw [hQ]
    exact W.zret (v := 0) hx hb hr (by decide) (fun t ht hW => ⟨⟨0, 0, rfl, rfl, ⟨x7, x8, z94, J9, by rw [ht]; exact hP, hD, ⟨ie0, ie1, ie2, ie3, ie4, ie5, ie6, ie7, ie8, ie9, ie10, ie11, ie12, ie13, ie14, ie15, ie16, ie17, ie18, ie19, ie20, ie21, ie22, ie23, ie24, ie25, ie26, g95, ie28, ie29, ie30, ie31, ie32⟩, (ob_488 zc_0), (ob_1 zc_0), (ob_11 zc_0)⟩⟩, hS.F ht⟩) hS.2.2 dX9_isPaid_67
  · skip
    have f96 : 0 < r_6.toInt := qi_nle c_44 rfl zc_0
    refine lv_aload_n hx hb dX9_isPaid_18 rfl (lv_at hl 0 rfl) ?_
    refine gM_X9_88_0 hx hb hG hown hK hP dX9_isPaid_19 ?_
    refine lv_bipush (v := 20) hx hb dX9_isPaid_22 (by decide) ?_
    refine lv_iload_n hx hb dX9_isPaid_24 rfl (lv_at hl 1 rfl) ?_
    refine lv_iadd hx hb dX9_isPaid_25 ?_
    refine lv_topi (fun x97 ex97 => ?_)
    have f98 : x97.toInt = p0.toInt + 20 := (ob_784 (qi_add ex97 zc_20 rfl (ob_921 hp0 hp1) (ob_922 f2 hp0 hp1)))
    refine ldM_25 (mm := p0.toInt + 20) hx hb hK hP f98 (ob_923 hp0 hp1) (ob_924 f2 hp0 hp1) dX9_isPaid_26 ?_
    refine lv_aload_n hx hb dX9_isPaid_27 rfl (lv_at hl 0 rfl) ?_
    refine lv_iload_n hx hb dX9_isPaid_28 rfl (lv_at hl 2 rfl) ?_
    refine va_calli (va_runV (As := [.int p1]) (rest := [.int (f_all (p0.toInt + 20).toNat)]) ⟨hx, hb, hml, hown, hG⟩ (kX9_priceOf l dC dI r ct i_taped i_size i_faultKind i_at i_end i_token i_number i_bank i_rb i_codes i_within i_piled i_unitsInRule x7 x8 i_acts i_undone i_laid i_knowns i_time f_text f_tunes f_houses f_hums f_told f_many f_ruleFrom f_ruleTo f_code f_eWhat f_eSign f_all f_kept f_was f_sTune f_boxAll J9 L p1 H5.size hI10 (ob_880 hp2 hp3) (ob_881 f1 hp2 hp3)) (cwV 1 hG (goodV gw1519 gw1521 gw87 gw138 gw1522) rfl rfl rfl hd_X9_priceOf ⟨(Nat.le_of_ble_eq_true rfl), (Nat.le_of_ble_eq_true rfl)⟩) ⟨fbR, va_recv hK hP (ci := 8) (q0 := 0) rfl rfl, pR_in hP hK⟩ rfl rfl hl.1 rfl (lv_room (Nat.le_of_ble_eq_true rfl)) dX9_isPaid_29 ⟨(Nat.le_of_ble_eq_true rfl), (Nat.le_of_ble_eq_true rfl)⟩) hS (fun q hq h => absurd hq (Nat.not_lt.mpr h)) (fun q h => hA q (Nat.le_trans hS.1 h)) (fun r_100 u_ t_ H99 locs ht hvm hw hB hz1 hk1 hS => ?_)
    subst hw
    have hP := wk hP hk1
    refine lv_icmp_ge (tgt := 68) hx hb dX9_isPaid_32 (by decide) (fun c_101 => ?_) (fun c_101 => ?_)
    · skip
      have f102 : r_100.toInt ≤ (f_all (p0.toInt + 20).toNat).toInt := qi_le c_101 rfl rfl
      refine lv_aload_n hx hb dX9_isPaid_68 rfl (lv_at hl 0 rfl) ?_
      refine gM_X9_88_0 hx hb hG hown hK hP dX9_isPaid_69 ?_
      refine lv_bipush (v := 20) hx hb dX9_isPaid_72 (by decide) ?_
      refine lv_iload_n hx hb dX9_isPaid_74 rfl (lv_at hl 1 rfl) ?_
      refine lv_iadd hx hb dX9_isPaid_75 ?_
      refine lv_topi (fun x103 ex103 => ?_)
      have f104 : x103.toInt = p0.toInt + 20 := (ob_784 (qi_add ex103 zc_20 rfl (ob_921 hp0 hp1) (ob_922 f2 hp0 hp1)))
      refine lv_dup2_11 hx hb dX9_isPaid_76 rfl rfl ?_
      refine ldM_25 (mm := p0.toInt + 20) hx hb hK hP f104 (ob_923 hp0 hp1) (ob_924 f2 hp0 hp1) dX9_isPaid_77 ?_
      refine lv_aload_n hx hb dX9_isPaid_78 rfl (lv_at hl 0 rfl) ?_
      refine lv_iload_n hx hb dX9_isPaid_79 rfl (lv_at hl 2 rfl) ?_
      refine va_calli (va_runV (As := [.int p1]) (rest := [.int (f_all (p0.toInt + 20).toNat), .int x103, .ref (r 25)]) ⟨hx, hb, hml, hown, hG⟩ (kX9_priceOf l dC dI r ct i_taped i_size i_faultKind i_at i_end i_token i_number i_bank i_rb i_codes i_within i_piled i_unitsInRule x7 x8 i_acts i_undone i_laid i_knowns i_time f_text f_tunes f_houses f_hums f_told f_many f_ruleFrom f_ruleTo f_code f_eWhat f_eSign f_all f_kept f_was f_sTune f_boxAll J9 L p1 H99.size hI10 (ob_880 hp2 hp3) (ob_881 f1 hp2 hp3)) (cwV 1 hG (goodV gw1519 gw1521 gw87 gw138 gw1522) rfl rfl rfl hd_X9_priceOf ⟨(Nat.le_of_ble_eq_true rfl), (Nat.le_of_ble_eq_true rfl)⟩) ⟨fbR, va_recv hK hP (ci := 8) (q0 := 0) rfl rfl, pR_in hP hK⟩ rfl rfl hl.1 rfl (lv_room (Nat.le_of_ble_eq_true rfl)) dX9_isPaid_80 ⟨(Nat.le_of_ble_eq_true rfl), (Nat.le_of_ble_eq_true rfl)⟩) hS (fun q hq h => absurd hq (Nat.not_lt.mpr h)) (fun q h => hA q (Nat.le_trans hS.1 h)) (fun r_106 u_ t_ H105 locs ht hvm hw hB hz1 hk1 hS => ?_)
      subst hw
      have hP := wk hP hk1
      refine lv_isub hx hb dX9_isPaid_83 ?_
      refine lv_topi (fun x107 ex107 => ?_)
      refine stM_25 (mm := p0.toInt + 20) hx hb hK hP hD hS f104 (ob_923 hp0 hp1) (ob_924 f2 hp0 hp1) dX9_isPaid_84 (fun z109 H108 locs ez109 hP hD hS => ?_)
      have g110 : EW z109 := ez109 ▸ EW.updo ie27 (ob_923 hp0 hp1) (ob_1078 f2 hp0 hp1)
      refine lv_aload_n hx hb dX9_isPaid_85 rfl (lv_at hl 0 rfl) ?_
      refine gM_X9_88_0 hx hb hG hown hK hP dX9_isPaid_86 ?_
      refine lv_iconst (v := 5) hx hb dX9_isPaid_89 (by decide) ?_
      refine lv_iload_n hx hb dX9_isPaid_90 rfl (lv_at hl 2 rfl) ?_
      refine lv_iadd hx hb dX9_isPaid_91 ?_
      refine lv_topi (fun x111 ex111 => ?_)
      have f112 : x111.toInt = p1.toInt + 5 := (ob_1036 (qi_add ex111 zc_5 rfl (ob_1034 hp2 hp3) (ob_1035 f1 hp2 hp3)))
      refine lv_iconst (v := 1) hx hb dX9_isPaid_92 (by decide) ?_
      refine stM_25 (mm := p1.toInt + 5) hx hb hK hP hD hS f112 (ob_1037 hp2 hp3) (ob_1038 f1 hp2 hp3) dX9_isPaid_93 (fun z114 H113 locs ez114 hP hD hS => ?_)
      have g115 : EW z114 := ez114 ▸ EW.updo g110 (ob_1037 hp2 hp3) (ob_1068 f1 hp2 hp3)
      refine lv_aload_n hx hb dX9_isPaid_94 rfl (lv_at hl 0 rfl) ?_
      refine gM_X9_88_0 hx hb hG hown hK hP dX9_isPaid_95 ?_
      refine lv_bipush (v := 15) hx hb dX9_isPaid_98 (by decide) ?_
      refine lv_iload_n hx hb dX9_isPaid_100 rfl (lv_at hl 2 rfl) ?_
      refine lv_iadd hx hb dX9_isPaid_101 ?_
      refine lv_topi (fun x116 ex116 => ?_)
      have f117 : x116.toInt = p1.toInt + 15 := (ob_1063 (qi_add ex116 zc_15 rfl (ob_1069 hp2 hp3) (ob_1070 f1 hp2 hp3)))
      refine lv_iconst (v := 0) hx hb dX9_isPaid_102 (by decide) ?_
      refine stM_25 (mm := p1.toInt + 15) hx hb hK hP hD hS f117 (ob_1071 hp2 hp3) (ob_1072 f1 hp2 hp3) dX9_isPaid_103 (fun z119 H118 locs ez119 hP hD hS => ?_)
      have g120 : EW z119 := ez119 ▸ EW.updo g115 (ob_1071 hp2 hp3) (ob_1073 f1 hp2 hp3)
      refine lv_iconst (v := 1) hx hb dX9_isPaid_104 (by decide) ?_
      rw [hQ]
      exact W.zret (v := 1) hx hb hr (by decide) (fun t ht hW => ⟨⟨1, 1, rfl, rfl, ⟨x7, x8, z119, J9, by rw [ht]; exact hP, hD, ⟨ie0, ie1, ie2, ie3, ie4, ie5, ie6, ie7, ie8, ie9, ie10, ie11, ie12, ie13, ie14, ie15, ie16, ie17, ie18, ie19, ie20, ie21, ie22, ie23, ie24, ie25, ie26, g120, ie28, ie29, ie30, ie31, ie32⟩, (ob_491 zc_1), (ob_14 zc_1), (ob_15 zc_1)⟩⟩, hS.F ht⟩) hS.2.2 dX9_isPaid_105
    · skip
      have f121 : (f_all (p0.toInt + 20).toNat).toInt < r_100.toInt := qi_nle c_101 rfl rfl
      refine lv_aload_n hx hb dX9_isPaid_35 rfl (lv_at hl 0 rfl) ?_
      refine lv_iload_n hx hb dX9_isPaid_36 rfl (lv_at hl 2 rfl) ?_
      have hFc := frA hD hS hA
      refine va_callv (va_runV (As := [.int p1]) (rest := []) ⟨hx, hb, hml, hown, hG⟩ (kX9_toCart l dC dI r ct i_taped i_size i_faultKind i_at i_end i_token i_number i_bank i_rb i_codes i_within i_piled i_unitsInRule x7 x8 i_acts i_undone i_laid i_knowns i_time f_text f_tunes f_houses f_hums f_told f_many f_ruleFrom f_ruleTo f_code f_eWhat f_eSign f_all f_kept f_was f_sTune f_boxAll J9 L p1 H99.size hI10 (ob_880 hp2 hp3) (ob_881 f1 hp2 hp3)) (cwV 1 hG (goodV gw1696 gw1698 gw110 gw138 gw1699) rfl rfl rfl hd_X9_toCart ⟨(Nat.le_of_ble_eq_true rfl), (Nat.le_of_ble_eq_true rfl)⟩) ⟨fbW, va_recv hK hP (ci := 8) (q0 := 0) rfl rfl, pW_in hP hK hD⟩ rfl rfl hl.1 rfl (lv_room (Nat.le_of_ble_eq_true rfl)) dX9_isPaid_37 ⟨(Nat.le_of_ble_eq_true rfl), (Nat.le_of_ble_eq_true rfl)⟩) hS (fun q _ h => hFc q h) hFc (fun _ t_ H122 locs ht hvm hw hB hz1 hk1 hS => ?_)
      obtain ⟨z124, hP1, hD1, hI125⟩ := hB
      rw [ht] at hP1
      have hP := hP1
      have hD := dW hFc hD1
      obtain ⟨im126, im127, im128, im129, im130, im131, im132, im133, im134, im135, im136, im137, im138, im139, im140, im141, im142, im143, im144, im145, im146, im147, im148, im149, im150, im151, im152, im153, im154, im155, im156, im157, im158⟩ := id hI125
      refine lv_aload_n hx hb dX9_isPaid_40 rfl (lv_at hl 0 rfl) ?_
      refine gM_X9_88_0 hx hb hG hown hK hP dX9_isPaid_41 ?_
      refine lv_bipush (v := 10) hx hb dX9_isPaid_44 (by decide) ?_
      refine lv_iload_n hx hb dX9_isPaid_46 rfl (lv_at hl 2 rfl) ?_
      refine lv_iadd hx hb dX9_isPaid_47 ?_
      refine lv_topi (fun x159 ex159 => ?_)
      have f160 : x159.toInt = p1.toInt + 10 := (ob_861 (qi_add ex159 zc_10 rfl (ob_859 hp2 hp3) (ob_917 f1 hp2 hp3)))
      refine lv_aload_n hx hb dX9_isPaid_48 rfl (lv_at hl 0 rfl) ?_
      refine gM_X9_88_0 hx hb hG hown hK hP dX9_isPaid_49 ?_
      refine lv_bipush (v := 10) hx hb dX9_isPaid_52 (by decide) ?_
      refine lv_iload_n hx hb dX9_isPaid_54 rfl (lv_at hl 2 rfl) ?_
      refine lv_iadd hx hb dX9_isPaid_55 ?_
      refine lv_topi (fun x161 ex161 => ?_)
      have f162 : x161.toInt = p1.toInt + 10 := (ob_861 (qi_add ex161 zc_10 rfl (ob_859 hp2 hp3) (ob_917 f1 hp2 hp3)))
      refine ldM_25 (mm := p1.toInt + 10) hx hb hK hP f162 (ob_862 hp2 hp3) (ob_918 f1 hp2 hp3) dX9_isPaid_56 ?_
      have f163 : 0 ≤ (z124 (p1.toInt + 10).toNat).toInt ∧ (z124 (p1.toInt + 10).toNat).toInt ≤ 99 := im153 (p1.toInt + 10) (ob_862 hp2 hp3) (ob_919 f1 hp2 hp3) (ob_920 f1 hp2 hp3)
      refine lv_iconst (v := 1) hx hb dX9_isPaid_57 (by decide) ?_
      refine lv_iadd hx hb dX9_isPaid_58 ?_
      refine lv_topi (fun x164 ex164 => ?_)
      have f165 : x164.toInt = (z124 (p1.toInt + 10).toNat).toInt + 1 := (ob_142 (qi_add ex164 rfl zc_1 (ob_1074 f163) (ob_1075 f163)))
      refine lv_iconst (v := 0) hx hb dX9_isPaid_59 (by decide) ?_
      refine lv_bipush (v := 99) hx hb dX9_isPaid_60 (by decide) ?_
      refine va_calli (va_runS (As := [.int x164, .int 0, .int 99]) (rest := [.int x159, .ref (r 25)]) ⟨hx, hb, hml, hown, hG⟩ (kX9_held l dC dI x164 0 99 H122.size) (va_cwS 3 hG (goodS gw1527 gw1528 gw138 gw1529) rfl rfl rfl hd_X9_held ⟨(Nat.le_of_ble_eq_true rfl), (Nat.le_of_ble_eq_true rfl)⟩) ⟨fbR, pR_in emptyP (emptyK hK)⟩ rfl rfl hl.1 rfl (lv_room (Nat.le_of_ble_eq_true rfl)) dX9_isPaid_62 ⟨(Nat.le_of_ble_eq_true rfl), (Nat.le_of_ble_eq_true rfl)⟩) hS (fun q hq h => absurd hq (Nat.not_lt.mpr h)) (fun q h => hA q (Nat.le_trans hS.1 h)) (fun r_167 u_ t_ H166 locs ht hvm hw hB hz1 hk1 hS => ?_)
      subst hw
      have hP := wk hP hk1
      have f168 := hB
      refine stM_25 (mm := p1.toInt + 10) hx hb hK hP hD hS f160 (ob_862 hp2 hp3) (ob_918 f1 hp2 hp3) dX9_isPaid_65 (fun z170 H169 locs ez170 hP hD hS => ?_)
      have g171 : EW z170 := ez170 ▸ EW.updi im153 (ob_1076 f168 zc_99 f165 zc_0) (ob_1077 f168 zc_99 f165 zc_0)
      refine lv_iconst (v := 0) hx hb dX9_isPaid_66 (by decide) ?_
      rw [hQ]
      exact W.zret (v := 0) hx hb hr (by decide) (fun t ht hW => ⟨⟨0, 0, rfl, rfl, ⟨x7, x8, z170, J9, by rw [ht]; exact hP, hD, ⟨ie0, ie1, ie2, ie3, ie4, ie5, ie6, ie7, ie8, ie9, ie10, ie11, ie12, ie13, ie14, ie15, ie16, ie17, ie18, ie19, ie20, ie21, ie22, ie23, ie24, ie25, ie26, g171, ie28, ie29, ie30, ie31, ie32⟩, (ob_488 zc_0), (ob_1 zc_0), (ob_11 zc_0)⟩⟩, hS.F ht⟩) hS.2.2 dX9_isPaid_67
set_option maxHeartbeats 4000000 in
set_option maxRecDepth 100000 in
theorem kX9_goWeek (l : Launch) (dC : Nat → ClassId) (dI : Nat → Nat → Nat) (r : Nat → Nat) (ct : Nat → ClassId) (i_taped i_size i_faultKind i_at i_end i_token i_number i_bank i_rb i_codes i_within i_piled i_unitsInRule i_askHouse i_askTune i_acts i_undone i_laid i_knowns i_time : Int32) (f_text f_tunes f_houses f_hums f_told f_many f_ruleFrom f_ruleTo f_code f_eWhat f_eSign f_all f_kept f_was f_sTune f_boxAll : Nat → Int32) (J : Nat → Nat → Int32) (L : Nat → Nat → Int64) (p0 : Int32) (sz : Nat) (hI : (IM i_taped i_size i_faultKind i_at i_end i_bank i_rb i_acts i_undone i_laid i_knowns i_time f_tunes f_houses f_hums f_told f_many f_ruleFrom f_ruleTo f_code f_all f_kept f_was f_sTune f_boxAll)) (hz_p0 : 0 ≤ p0.toInt ∧ p0.toInt ≤ 1) : Met l yX9_goWeek (.code yX9_goWeek cX9_goWeek 6 (some .int) :: GW) { frames := 22, cells := 0, slots := 0, locals := 729 } (va_Pc [.ref (r 0), .int p0] (pW (dC, dI) (WM r ct i_taped i_size i_faultKind i_at i_end i_token i_number i_bank i_rb i_codes i_within i_piled i_unitsInRule i_askHouse i_askTune i_acts i_undone i_laid i_knowns i_time f_text f_tunes f_houses f_hums f_told f_many f_ruleFrom f_ruleTo f_code f_eWhat f_eSign f_all f_kept f_was f_sTune f_boxAll J L) (TM ct) sz)) (va_Qi (fun (r0 : Int32) (u : Int32) => r0 = u) (fun (u : Int32) (t : State) => ∃ (n_i_askHouse n_i_askTune : Int32) (n_f_all : Nat → Int32) (n_J : Nat → Nat → Int32), va_P (dC, dI) vwCl (WM r ct i_taped i_size i_faultKind i_at i_end i_token i_number i_bank i_rb i_codes i_within i_piled i_unitsInRule n_i_askHouse n_i_askTune i_acts i_undone i_laid i_knowns i_time f_text f_tunes f_houses f_hums f_told f_many f_ruleFrom f_ruleTo f_code f_eWhat f_eSign n_f_all f_kept f_was f_sTune f_boxAll n_J L) t.heap ∧ va_D (va_A (WM r ct i_taped i_size i_faultKind i_at i_end i_token i_number i_bank i_rb i_codes i_within i_piled i_unitsInRule i_askHouse i_askTune i_acts i_undone i_laid i_knowns i_time f_text f_tunes f_houses f_hums f_told f_many f_ruleFrom f_ruleTo f_code f_eWhat f_eSign f_all f_kept f_was f_sTune f_boxAll J L) sz) (WM r ct i_taped i_size i_faultKind i_at i_end i_token i_number i_bank i_rb i_codes i_within i_piled i_unitsInRule n_i_askHouse n_i_askTune i_acts i_undone i_laid i_knowns i_time f_text f_tunes f_houses f_hums f_told f_many f_ruleFrom f_ruleTo f_code f_eWhat f_eSign n_f_all f_kept f_was f_sTune f_boxAll n_J L) ∧ (IM i_taped i_size i_faultKind i_at i_end i_bank i_rb i_acts i_undone i_laid i_knowns i_time f_tunes f_houses f_hums f_told f_many f_ruleFrom f_ruleTo f_code n_f_all f_kept f_was f_sTune f_boxAll)) (va_A (WM r ct i_taped i_size i_faultKind i_at i_end i_token i_number i_bank i_rb i_codes i_within i_piled i_unitsInRule i_askHouse i_askTune i_acts i_undone i_laid i_knowns i_time f_text f_tunes f_houses f_hums f_told f_many f_ruleFrom f_ruleTo f_code f_eWhat f_eSign f_all f_kept f_was f_sTune f_boxAll J L) sz)) 0 0 (va_A (WM r ct i_taped i_size i_faultKind i_at i_end i_token i_number i_bank i_rb i_codes i_within i_piled i_unitsInRule i_askHouse i_askTune i_acts i_undone i_laid i_knowns i_time f_text f_tunes f_houses f_hums f_told f_many f_ruleFrom f_ruleTo f_code f_eWhat f_eSign f_all f_kept f_was f_sTune f_boxAll J L) sz) := by
  refine Met.ofW (cc := cX9_goWeek) (maxL := 6) (ret := (some .int)) (by decide) rfl ?_
  intro p e s m args below meth c0 s₁ B hml hv
  obtain ⟨rfl, hsz, hP, hK, hD0⟩ := hv
  have hx := B.exec
  have hb := B.bytes
  have hr := B.returns
  have hts := atoms_spec (ws := .code yX9_goWeek cX9_goWeek 6 (some .int) :: GW) B.pre
  have hG : ∀ w ∈ GW, w.before _ s = true := fun w h => hts w (List.mem_cons_of_mem _ h)
  have hown : s.vm.findClass RX9 = some m.cls := findClass_of_methodNamed B.named
  subst hsz
  have hD := hD0.self (sz := s.heap.size)
  generalize hAe : va_A (WM r ct i_taped i_size i_faultKind i_at i_end i_token i_number i_bank i_rb i_codes i_within i_piled i_unitsInRule i_askHouse i_askTune i_acts i_undone i_laid i_knowns i_time f_text f_tunes f_houses f_hums f_told f_many f_ruleFrom f_ruleTo f_code f_eWhat f_eSign f_all f_kept f_was f_sTune f_boxAll J L) s.heap.size = A at hD ⊢
  have hA : ∀ q : Nat, s.heap.size ≤ q → A q := fun q h => by rw [← hAe]; exact Or.inr h
  have hS : va_S A s.heap s.heap [] := va_S.rf
  have hP : va_P (dC, dI) vwCl (WM r ct i_taped i_size i_faultKind i_at i_end i_token i_number i_bank i_rb i_codes i_within i_piled i_unitsInRule i_askHouse i_askTune i_acts i_undone i_laid i_knowns i_time f_text f_tunes f_houses f_hums f_told f_many f_ruleFrom f_ruleTo f_code f_eWhat f_eSign f_all f_kept f_was f_sTune f_boxAll J L) s.heap := hP
  have hl := lv_entry ([.ref (r 0), .int p0]) (n := 6) (Nat.le_of_ble_eq_true rfl)
  rw [lg_entry_eq]
  generalize (lg_sl ([.ref (r 0), .int p0]) ++ List.replicate (6 - (lg_sl ([.ref (r 0), .int p0])).length) Slot.unset).toArray = ls at hl ⊢
  have hl : lv_has ls 6 [(0, .ref (r 0)), (1, .int p0)] := hl
  refine nameQ (fun Q hQ => ?_)
  obtain ⟨ie0, ie1, ie2, ie3, ie4, ie5, ie6, ie7, ie8, ie9, ie10, ie11, ie12, ie13, ie14, ie15, ie16, ie17, ie18, ie19, ie20, ie21, ie22, ie23, ie24, ie25, ie26, ie27, ie28, ie29, ie30, ie31, ie32⟩ := id hI
  have f1 : 0 ≤ (f_tunes (i_bank.toInt).toNat).toInt ∧ (f_tunes (i_bank.toInt).toNat).toInt ≤ 5 := ie21 (i_bank.toInt)
  have f2 : 0 ≤ (f_houses (i_bank.toInt).toNat).toInt ∧ (f_houses (i_bank.toInt).toNat).toInt ≤ 4 := ie22 (i_bank.toInt)
  refine lv_iconst (v := 0) hx hb dX9_goWeek_0 (by decide) ?_
  refine lv_istore_n (lv' := [(2, .int 0), (0, .ref (r 0)), (1, .int p0)]) hx hb dX9_goWeek_1 rfl hl (by decide) rfl (fun ls hl => ?_)
  refine lv_iconst (v := 0) hx hb dX9_goWeek_2 (by decide) ?_
  refine lv_istore_n (lv' := [(3, .int 0), (2, .int 0), (0, .ref (r 0)), (1, .int p0)]) hx hb dX9_goWeek_3 rfl hl (by decide) rfl (fun ls hl => ?_)
  have L4 : ∀ (N4 : Nat) (y4_2 y4_3 : Int32) (m4_i_askHouse m4_i_askTune : Int32) (m4_f_all : Nat → Int32) (m4_J : Nat → Nat → Int32) (H4 : Heap) (locs : List Loc) (ls : Array Slot) (g4_0 : (0 : Int) ≤ y4_3.toInt) (g4_1 : y4_3.toInt ≤ (4 : Int)) (gi4_all_p : EW m4_f_all) (hP : va_P (dC, dI) vwCl (WM r ct i_taped i_size i_faultKind i_at i_end i_token i_number i_bank i_rb i_codes i_within i_piled i_unitsInRule m4_i_askHouse m4_i_askTune i_acts i_undone i_laid i_knowns i_time f_text f_tunes f_houses f_hums f_told f_many f_ruleFrom f_ruleTo f_code f_eWhat f_eSign m4_f_all f_kept f_was f_sTune f_boxAll m4_J L) H4) (hD : va_D A (WM r ct i_taped i_size i_faultKind i_at i_end i_token i_number i_bank i_rb i_codes i_within i_piled i_unitsInRule m4_i_askHouse m4_i_askTune i_acts i_undone i_laid i_knowns i_time f_text f_tunes f_houses f_hums f_told f_many f_ruleFrom f_ruleTo f_code f_eWhat f_eSign m4_f_all f_kept f_was f_sTune f_boxAll m4_J L)) (hS : va_S A s.heap H4 locs) (hl : lv_has ls 6 [(0, .ref (r 0)), (1, .int p0), (2, .int y4_2), (3, .int y4_3)]) (hM : -1 * y4_3.toInt + 4 < (N4 : Int)), W p l e { frames := 22, cells := 0, slots := 0, locals := 729 } s m ([.ref (r 0), .int p0] : List Value).toArray below meth c0 H4 locs 0 0 Q (F0 m 4 ls []) := by
    intro N4
    induction N4 with
    | zero =>
      intro y4_2 y4_3 m4_i_askHouse m4_i_askTune m4_f_all m4_J H4 locs ls g4_0 g4_1 gi4_all_p hP hD hS hl hM
      exact ((ob_778 hM g4_0 g4_1)).elim
    | succ N4 ih4 =>
      intro y4_2 y4_3 m4_i_askHouse m4_i_askTune m4_f_all m4_J H4 locs ls g4_0 g4_1 gi4_all_p hP hD hS hl hM
      have hM4 := msucc hM
      refine lv_iload_n hx hb dX9_goWeek_4 rfl (lv_at hl 3 rfl) ?_
      refine lv_aload_n hx hb dX9_goWeek_5 rfl (lv_at hl 0 rfl) ?_
      refine va_calli (va_runV (As := []) (rest := [.int y4_3]) ⟨hx, hb, hml, hown, hG⟩ (kX9_homes l dC dI r ct i_taped i_size i_faultKind i_at i_end i_token i_number i_bank i_rb i_codes i_within i_piled i_unitsInRule m4_i_askHouse m4_i_askTune i_acts i_undone i_laid i_knowns i_time f_text f_tunes f_houses f_hums f_told f_many f_ruleFrom f_ruleTo f_code f_eWhat f_eSign m4_f_all f_kept f_was f_sTune f_boxAll m4_J L H4.size ⟨ie0, ie1, ie2, ie3, ie4, ie5, ie6, ie7, ie8, ie9, ie10, ie11, ie12, ie13, ie14, ie15, ie16, ie17, ie18, ie19, ie20, ie21, ie22, ie23, ie24, ie25, ie26, gi4_all_p, ie28, ie29, ie30, ie31, ie32⟩) (cwV 0 hG (goodV gw1167 gw1169 gw58 gw138 gw1170) rfl rfl rfl hd_X9_homes ⟨(Nat.le_of_ble_eq_true rfl), (Nat.le_of_ble_eq_true rfl)⟩) ⟨fbR, va_recv hK hP (ci := 8) (q0 := 0) rfl rfl, pR_in hP hK⟩ rfl rfl hl.1 rfl (lv_room (Nat.le_of_ble_eq_true rfl)) dX9_goWeek_6 ⟨(Nat.le_of_ble_eq_true rfl), (Nat.le_of_ble_eq_true rfl)⟩) hS (fun q hq h => absurd hq (Nat.not_lt.mpr h)) (fun q h => hA q (Nat.le_trans hS.1 h)) (fun r_4 u_ t_ H3 locs ht hvm hw hB hz1 hk1 hS => ?_)
      subst hw
      have hP := wk hP hk1
      have f5 := hB
      have f6 : r_4.toInt = (f_houses (i_bank.toInt).toNat).toInt := (ob_6 f5)
      refine lv_icmp_ge (tgt := 148) hx hb dX9_goWeek_9 (by decide) (fun c_7 => ?_) (fun c_7 => ?_)
      · skip
        have f8 : r_4.toInt ≤ y4_3.toInt := qi_le c_7 rfl rfl
        refine lv_aload_n hx hb dX9_goWeek_148 rfl (lv_at hl 0 rfl) ?_
        refine gM_X9_88_0 hx hb hG hown hK hP dX9_goWeek_149 ?_
        refine lv_bipush (v := 24) hx hb dX9_goWeek_152 (by decide) ?_
        refine lv_dup2_11 hx hb dX9_goWeek_154 rfl rfl ?_
        refine ldM_25 (mm := (24 : Int)) hx hb hK hP zc_24 (ob_1079) (ob_1080) dX9_goWeek_155 ?_
        refine lv_iconst (v := 1) hx hb dX9_goWeek_156 (by decide) ?_
        refine lv_iadd hx hb dX9_goWeek_157 ?_
        refine lv_topi (fun x9 ex9 => ?_)
        refine stM_25 (mm := (24 : Int)) hx hb hK hP hD hS zc_24 (ob_1079) (ob_1080) dX9_goWeek_158 (fun z11 H10 locs ez11 hP hD hS => ?_)
        have g12 : EW z11 := ez11 ▸ EW.updo gi4_all_p (ob_1079) (ob_1081)
        refine lv_iload_n hx hb dX9_goWeek_159 rfl (lv_at hl 2 rfl) ?_
        rw [hQ]
        exact W.iret (v := y4_2) hx hb hr (fun t ht hW => ⟨⟨y4_2, y4_2, rfl, rfl, ⟨m4_i_askHouse, m4_i_askTune, z11, m4_J, by rw [ht]; exact hP, hD, ⟨ie0, ie1, ie2, ie3, ie4, ie5, ie6, ie7, ie8, ie9, ie10, ie11, ie12, ie13, ie14, ie15, ie16, ie17, ie18, ie19, ie20, ie21, ie22, ie23, ie24, ie25, ie26, g12, ie28, ie29, ie30, ie31, ie32⟩⟩⟩, hS.F ht⟩) hS.2.2 dX9_goWeek_160
      · skip
        have f13 : y4_3.toInt < r_4.toInt := qi_nle c_7 rfl rfl
        refine lv_aload_n hx hb dX9_goWeek_12 rfl (lv_at hl 0 rfl) ?_
        refine lv_iload_n hx hb dX9_goWeek_13 rfl (lv_at hl 3 rfl) ?_
        refine va_calli (va_runV (As := [.int y4_3]) (rest := []) ⟨hx, hb, hml, hown, hG⟩ (kX9_triedBy l dC dI r ct i_taped i_size i_faultKind i_at i_end i_token i_number i_bank i_rb i_codes i_within i_piled i_unitsInRule m4_i_askHouse m4_i_askTune i_acts i_undone i_laid i_knowns i_time f_text f_tunes f_houses f_hums f_told f_many f_ruleFrom f_ruleTo f_code f_eWhat f_eSign m4_f_all f_kept f_was f_sTune f_boxAll m4_J L y4_3 H3.size ⟨ie0, ie1, ie2, ie3, ie4, ie5, ie6, ie7, ie8, ie9, ie10, ie11, ie12, ie13, ie14, ie15, ie16, ie17, ie18, ie19, ie20, ie21, ie22, ie23, ie24, ie25, ie26, gi4_all_p, ie28, ie29, ie30, ie31, ie32⟩) (cwV 1 hG (goodV gw1550 gw1552 gw92 gw138 gw1553) rfl rfl rfl hd_X9_triedBy ⟨(Nat.le_of_ble_eq_true rfl), (Nat.le_of_ble_eq_true rfl)⟩) ⟨fbR, va_recv hK hP (ci := 8) (q0 := 0) rfl rfl, pR_in hP hK⟩ rfl rfl hl.1 rfl (lv_room (Nat.le_of_ble_eq_true rfl)) dX9_goWeek_14 ⟨(Nat.le_of_ble_eq_true rfl), (Nat.le_of_ble_eq_true rfl)⟩) hS (fun q hq h => absurd hq (Nat.not_lt.mpr h)) (fun q h => hA q (Nat.le_trans hS.1 h)) (fun r_15 u_ t_ H14 locs ht hvm hw hB hz1 hk1 hS => ?_)
        subst hw
        have hP := wk hP hk1
        obtain ⟨f16, f17, f18⟩ := hB
        have f19 : r_15.toInt = (trb m4_f_all y4_3.toInt (f_tunes (i_bank.toInt).toNat).toInt (6 - ((0 : Int32).toInt)).toNat ((0 : Int32).toInt)) := (ob_6 f18)
        refine lv_istore (lv' := [(4, .int r_15), (0, .ref (r 0)), (1, .int p0), (2, .int y4_2), (3, .int y4_3)]) hx hb dX9_goWeek_17 hl (by decide) rfl (fun ls hl => ?_)
        refine lv_iload hx hb dX9_goWeek_19 (lv_at hl 0 rfl) ?_
        refine lv_if_ge (tgt := 27) hx hb dX9_goWeek_21 (by decide) (fun c_20 => ?_) (fun c_20 => ?_)
        · skip
          have f21 : 0 ≤ r_15.toInt := qi_le c_20 zc_0 rfl
          refine lv_aload_n hx hb dX9_goWeek_27 rfl (lv_at hl 1 rfl) ?_
          refine gM_X9_88_0 hx hb hG hown hK hP dX9_goWeek_28 ?_
          refine lv_bipush (v := 15) hx hb dX9_goWeek_31 (by decide) ?_
          refine lv_iload hx hb dX9_goWeek_33 (lv_at hl 0 rfl) ?_
          refine lv_iadd hx hb dX9_goWeek_35 ?_
          refine lv_topi (fun x22 ex22 => ?_)
          have f23 : x22.toInt = (trb m4_f_all y4_3.toInt (f_tunes (i_bank.toInt).toNat).toInt (6 - ((0 : Int32).toInt)).toNat ((0 : Int32).toInt)) + 15 := (ob_1084 (qi_add ex22 zc_15 rfl (ob_1082 f16 f17 f21 f19) (ob_1083 f1 f17 f19)) f19)
          refine lv_dup2_11 hx hb dX9_goWeek_36 rfl rfl ?_
          refine ldM_25 (mm := (trb m4_f_all y4_3.toInt (f_tunes (i_bank.toInt).toNat).toInt (6 - ((0 : Int32).toInt)).toNat ((0 : Int32).toInt)) + 15) hx hb hK hP f23 (ob_1085 f16 f17 f21 f19) (ob_1086 f1 f17 f19) dX9_goWeek_37 ?_
          refine lv_iconst (v := 1) hx hb dX9_goWeek_38 (by decide) ?_
          refine lv_iadd hx hb dX9_goWeek_39 ?_
          refine lv_topi (fun x24 ex24 => ?_)
          refine stM_25 (mm := (trb m4_f_all y4_3.toInt (f_tunes (i_bank.toInt).toNat).toInt (6 - ((0 : Int32).toInt)).toNat ((0 : Int32).toInt)) + 15) hx hb hK hP hD hS f23 (ob_1085 f16 f17 f21 f19) (ob_1086 f1 f17 f19) dX9_goWeek_40 (fun z26 H25 locs ez26 hP hD hS => ?_)
          have g27 : EW z26 := ez26 ▸ EW.updo gi4_all_p (ob_1085 f16 f17 f21 f19) (ob_1087 f1 f16 f17 f21 f19)
          refine lv_iconst (v := 0) hx hb dX9_goWeek_41 (by decide) ?_
          refine lv_istore (lv' := [(5, .int 0), (4, .int r_15), (0, .ref (r 0)), (1, .int p0), (2, .int y4_2), (3, .int y4_3)]) hx hb dX9_goWeek_42 hl (by decide) rfl (fun ls hl => ?_)
          refine lv_iload_n hx hb dX9_goWeek_44 rfl (lv_at hl 3 rfl) ?_
          refine lv_if_eq (tgt := 102) hx hb dX9_goWeek_45 (by decide) (fun c_28 => ?_) (fun c_28 => ?_)
          · skip
            have f29 : p0.toInt = 0 := qi_eq c_28 rfl zc_0
            refine lv_iload hx hb dX9_goWeek_102 (lv_at hl 0 rfl) ?_
            refine lv_if_ne (tgt := 142) hx hb dX9_goWeek_104 (by decide) (fun c_30 => absurd (by decide) c_30) (fun c_30 => ?_)
            refine lv_aload_n hx hb dX9_goWeek_107 rfl (lv_at hl 2 rfl) ?_
            refine gM_X9_88_0 hx hb hG hown hK hP dX9_goWeek_108 ?_
            refine lv_bipush (v := 15) hx hb dX9_goWeek_111 (by decide) ?_
            refine lv_iload hx hb dX9_goWeek_113 (lv_at hl 1 rfl) ?_
            refine lv_iadd hx hb dX9_goWeek_115 ?_
            refine lv_topi (fun x31 ex31 => ?_)
            have f32 : x31.toInt = (trb m4_f_all y4_3.toInt (f_tunes (i_bank.toInt).toNat).toInt (6 - ((0 : Int32).toInt)).toNat ((0 : Int32).toInt)) + 15 := (ob_1084 (qi_add ex31 zc_15 rfl (ob_1082 f16 f17 f21 f19) (ob_1083 f1 f17 f19)) f19)
            refine ldM_25 (mm := (trb m4_f_all y4_3.toInt (f_tunes (i_bank.toInt).toNat).toInt (6 - ((0 : Int32).toInt)).toNat ((0 : Int32).toInt)) + 15) hx hb hK hP f32 (ob_1085 f16 f17 f21 f19) (ob_1086 f1 f17 f19) dX9_goWeek_116 ?_
            refine lv_aload_n hx hb dX9_goWeek_117 rfl (lv_at hl 2 rfl) ?_
            refine gM_X9_20_0 hx hb hG hown hK hP dX9_goWeek_118 ?_
            refine lv_aload_n hx hb dX9_goWeek_121 rfl (lv_at hl 2 rfl) ?_
            refine gM_X9_249_0 hx hb hG hown hK hP dX9_goWeek_122 ?_
            refine ldM_3 (mm := i_bank.toInt) hx hb hK hP rfl (ob_263 ie4 ie5) (ob_264 ie4 ie5) dX9_goWeek_125 (fun x33 => ?_)
            refine lv_icmp_lt (tgt := 142) hx hb dX9_goWeek_126 (by decide) (fun c_34 => ?_) (fun c_34 => ?_)
            · skip
              have f35 : (z26 ((trb m4_f_all y4_3.toInt (f_tunes (i_bank.toInt).toNat).toInt (6 - ((0 : Int32).toInt)).toNat ((0 : Int32).toInt)) + 15).toNat).toInt < x33.toInt := qi_lt c_34 rfl rfl
              obtain ⟨x36, ex36⟩ : ∃ y : Int32, y = y4_3 + Int32.ofInt 1 := ⟨_, rfl⟩
              have f37 : x36.toInt = y4_3.toInt + 1 := (ob_142 (qi_add ex36 rfl (by decide) (ob_140 g4_0) (ob_794 g4_1)))
              refine lv_iinc (v := x36) (lv' := [(3, .int x36), (5, .int 0), (4, .int r_15), (0, .ref (r 0)), (1, .int p0), (2, .int y4_2)]) hx hb dX9_goWeek_142 hl (k := 5) rfl ex36.symm (by decide) rfl (fun ls hl => ?_)
              refine lv_goto (tgt := 4) hx hb dX9_goWeek_145 (by decide) ?_
              exact ih4 y4_2 x36 m4_i_askHouse m4_i_askTune z26 m4_J H25 _ _ (ob_149 g4_0 f37) (ob_795 f2 f13 f6 f37) g27 hP hD hS (lv_sub hl [3, 4, 5, 0] rfl) (ob_796 hM4 f37)
            · skip
              have f38 : x33.toInt ≤ (z26 ((trb m4_f_all y4_3.toInt (f_tunes (i_bank.toInt).toNat).toInt (6 - ((0 : Int32).toInt)).toNat ((0 : Int32).toInt)) + 15).toNat).toInt := qi_nlt c_34 rfl rfl
              refine lv_aload_n hx hb dX9_goWeek_129 rfl (lv_at hl 2 rfl) ?_
              refine lv_iload_n hx hb dX9_goWeek_130 rfl (lv_at hl 5 rfl) ?_
              refine lv_iload hx hb dX9_goWeek_131 (lv_at hl 1 rfl) ?_
              have hFc := frA hD hS hA
              refine va_calli (va_runV (As := [.int y4_3, .int r_15]) (rest := []) ⟨hx, hb, hml, hown, hG⟩ (kX9_isPaid l dC dI r ct i_taped i_size i_faultKind i_at i_end i_token i_number i_bank i_rb i_codes i_within i_piled i_unitsInRule m4_i_askHouse m4_i_askTune i_acts i_undone i_laid i_knowns i_time f_text f_tunes f_houses f_hums f_told f_many f_ruleFrom f_ruleTo f_code f_eWhat f_eSign z26 f_kept f_was f_sTune f_boxAll m4_J L y4_3 r_15 H25.size ⟨ie0, ie1, ie2, ie3, ie4, ie5, ie6, ie7, ie8, ie9, ie10, ie11, ie12, ie13, ie14, ie15, ie16, ie17, ie18, ie19, ie20, ie21, ie22, ie23, ie24, ie25, ie26, g27, ie28, ie29, ie30, ie31, ie32⟩ (ob_139 g4_0) (ob_1054 f13 f6) (ob_1088 f16 f17 f21 f19) (ob_1089 f17 f19)) (cwV 2 hG (goodV gw1692 gw1694 gw109 gw138 gw1695) rfl rfl rfl hd_X9_isPaid ⟨(Nat.le_of_ble_eq_true rfl), (Nat.le_of_ble_eq_true rfl)⟩) ⟨fbW, va_recv hK hP (ci := 8) (q0 := 0) rfl rfl, pW_in hP hK hD⟩ rfl rfl hl.1 rfl (lv_room (Nat.le_of_ble_eq_true rfl)) dX9_goWeek_133 ⟨(Nat.le_of_ble_eq_true rfl), (Nat.le_of_ble_eq_true rfl)⟩) hS (fun q _ h => hFc q h) hFc (fun r_40 u_ t_ H39 locs ht hvm hw hB hz1 hk1 hS => ?_)
              subst hw
              obtain ⟨x41, x42, z43, J44, hP1, hD1, hI48, f45, f46, f47⟩ := hB
              rw [ht] at hP1
              have hP := hP1
              have hD := dW hFc hD1
              obtain ⟨im49, im50, im51, im52, im53, im54, im55, im56, im57, im58, im59, im60, im61, im62, im63, im64, im65, im66, im67, im68, im69, im70, im71, im72, im73, im74, im75, im76, im77, im78, im79, im80, im81⟩ := id hI48
              refine lv_if_eq (tgt := 142) hx hb dX9_goWeek_136 (by decide) (fun c_82 => ?_) (fun c_82 => ?_)
              · skip
                have f83 : r_40.toInt = 0 := qi_eq c_82 rfl zc_0
                have f84 : r_40.toInt = (0 : Int) := (ob_226 f46 f47 f83)
                obtain ⟨x85, ex85⟩ : ∃ y : Int32, y = y4_3 + Int32.ofInt 1 := ⟨_, rfl⟩
                have f86 : x85.toInt = y4_3.toInt + 1 := (ob_142 (qi_add ex85 rfl (by decide) (ob_140 g4_0) (ob_794 g4_1)))
                refine lv_iinc (v := x85) (lv' := [(3, .int x85), (5, .int 0), (4, .int r_15), (0, .ref (r 0)), (1, .int p0), (2, .int y4_2)]) hx hb dX9_goWeek_142 hl (k := 5) rfl ex85.symm (by decide) rfl (fun ls hl => ?_)
                refine lv_goto (tgt := 4) hx hb dX9_goWeek_145 (by decide) ?_
                exact ih4 y4_2 x85 x41 x42 z43 J44 H39 _ _ (ob_149 g4_0 f86) (ob_795 f2 f13 f6 f86) im76 hP hD hS (lv_sub hl [3, 4, 5, 0] rfl) (ob_796 hM4 f86)
              · skip
                have f87 : r_40.toInt ≠ 0 := qi_ne c_82 rfl zc_0
                have f88 : r_40.toInt = (1 : Int) := (ob_592 f45 f87)
                have f89 : (1 : Int) ≤ r_40.toInt := (ob_162 f46 f47 f88)
                obtain ⟨x90, ex90⟩ : ∃ y : Int32, y = y4_2 + Int32.ofInt 1 := ⟨_, rfl⟩
                have f91 : (-2147483648) ≤ y4_2.toInt ∧ y4_2.toInt ≤ 2147483647 := i32_rg _
                refine lv_iinc (v := x90) (lv' := [(2, .int x90), (5, .int 0), (4, .int r_15), (0, .ref (r 0)), (1, .int p0), (3, .int y4_3)]) hx hb dX9_goWeek_139 hl (k := 4) rfl ex90.symm (by decide) rfl (fun ls hl => ?_)
                obtain ⟨x92, ex92⟩ : ∃ y : Int32, y = y4_3 + Int32.ofInt 1 := ⟨_, rfl⟩
                have f93 : x92.toInt = y4_3.toInt + 1 := (ob_142 (qi_add ex92 rfl (by decide) (ob_140 g4_0) (ob_794 g4_1)))
                refine lv_iinc (v := x92) (lv' := [(3, .int x92), (2, .int x90), (5, .int 0), (4, .int r_15), (0, .ref (r 0)), (1, .int p0)]) hx hb dX9_goWeek_142 hl (k := 5) rfl ex92.symm (by decide) rfl (fun ls hl => ?_)
                refine lv_goto (tgt := 4) hx hb dX9_goWeek_145 (by decide) ?_
                exact ih4 x90 x92 x41 x42 z43 J44 H39 _ _ (ob_149 g4_0 f93) (ob_795 f2 f13 f6 f93) im76 hP hD hS (lv_sub hl [4, 5, 1, 0] rfl) (ob_796 hM4 f93)
          · skip
            have f94 : p0.toInt ≠ 0 := qi_ne c_28 rfl zc_0
            have f95 : (1 : Int) ≤ p0.toInt := (ob_222 hz_p0 f94)
            refine lv_aload_n hx hb dX9_goWeek_48 rfl (lv_at hl 2 rfl) ?_
            refine gM_X9_88_0 hx hb hG hown hK hP dX9_goWeek_49 ?_
            refine lv_bipush (v := 25) hx hb dX9_goWeek_52 (by decide) ?_
            refine lv_sipush (v := 137) hx hb dX9_goWeek_54 (by decide) ?_
            refine lv_aload_n hx hb dX9_goWeek_57 rfl (lv_at hl 2 rfl) ?_
            refine gM_X9_88_0 hx hb hG hown hK hP dX9_goWeek_58 ?_
            refine lv_bipush (v := 25) hx hb dX9_goWeek_61 (by decide) ?_
            refine ldM_25 (mm := (25 : Int)) hx hb hK hP zc_25 (ob_779) (ob_780) dX9_goWeek_63 ?_
            refine lv_imul hx hb dX9_goWeek_64 ?_
            refine lv_topi (fun x96 ex96 => ?_)
            refine lv_bipush (v := 71) hx hb dX9_goWeek_65 (by decide) ?_
            refine lv_iadd hx hb dX9_goWeek_67 ?_
            refine lv_topi (fun x97 ex97 => ?_)
            refine lv_sipush (v := 1000) hx hb dX9_goWeek_68 (by decide) ?_
            refine lv_irem hx hb dX9_goWeek_71 (by decide) ?_
            refine lv_topi (fun x98 ex98 => ?_)
            refine stM_25 (mm := (25 : Int)) hx hb hK hP hD hS zc_25 (ob_779) (ob_780) dX9_goWeek_72 (fun z100 H99 locs ez100 hP hD hS => ?_)
            have g101 : EW z100 := ez100 ▸ EW.updo g27 (ob_779) (ob_781)
            refine lv_aload_n hx hb dX9_goWeek_73 rfl (lv_at hl 2 rfl) ?_
            refine gM_X9_88_0 hx hb hG hown hK hP dX9_goWeek_74 ?_
            refine lv_bipush (v := 25) hx hb dX9_goWeek_77 (by decide) ?_
            refine ldM_25 (mm := (25 : Int)) hx hb hK hP zc_25 (ob_779) (ob_780) dX9_goWeek_79 ?_
            refine lv_bipush (v := 100) hx hb dX9_goWeek_80 (by decide) ?_
            refine lv_irem hx hb dX9_goWeek_82 (by decide) ?_
            refine lv_topi (fun x102 ex102 => ?_)
            refine lv_aload_n hx hb dX9_goWeek_83 rfl (lv_at hl 2 rfl) ?_
            refine gM_X9_33_0 hx hb hG hown hK hP dX9_goWeek_84 ?_
            refine lv_aload_n hx hb dX9_goWeek_87 rfl (lv_at hl 2 rfl) ?_
            refine gM_X9_249_0 hx hb hG hown hK hP dX9_goWeek_88 ?_
            refine ldM_7 (mm := i_bank.toInt) hx hb hK hP rfl (ob_263 ie4 ie5) (ob_264 ie4 ie5) dX9_goWeek_91 ?_
            have f103 : 0 ≤ (f_hums (i_bank.toInt).toNat).toInt ∧ (f_hums (i_bank.toInt).toNat).toInt ≤ 100 := ie24 (i_bank.toInt)
            refine lv_icmp_ge (tgt := 99) hx hb dX9_goWeek_92 (by decide) (fun c_104 => ?_) (fun c_104 => ?_)
            · skip
              have f105 : (f_hums (i_bank.toInt).toNat).toInt ≤ x102.toInt := qi_le c_104 rfl rfl
              refine lv_iconst (v := 0) hx hb dX9_goWeek_99 (by decide) ?_
              refine lv_istore (lv' := [(5, .int 0), (4, .int r_15), (0, .ref (r 0)), (1, .int p0), (2, .int y4_2), (3, .int y4_3)]) hx hb dX9_goWeek_100 hl (by decide) rfl (fun ls hl => ?_)
              refine lv_iload hx hb dX9_goWeek_102 (lv_at hl 0 rfl) ?_
              refine lv_if_ne (tgt := 142) hx hb dX9_goWeek_104 (by decide) (fun c_106 => absurd (by decide) c_106) (fun c_106 => ?_)
              refine lv_aload_n hx hb dX9_goWeek_107 rfl (lv_at hl 2 rfl) ?_
              refine gM_X9_88_0 hx hb hG hown hK hP dX9_goWeek_108 ?_
              refine lv_bipush (v := 15) hx hb dX9_goWeek_111 (by decide) ?_
              refine lv_iload hx hb dX9_goWeek_113 (lv_at hl 1 rfl) ?_
              refine lv_iadd hx hb dX9_goWeek_115 ?_
              refine lv_topi (fun x107 ex107 => ?_)
              have f108 : x107.toInt = (trb m4_f_all y4_3.toInt (f_tunes (i_bank.toInt).toNat).toInt (6 - ((0 : Int32).toInt)).toNat ((0 : Int32).toInt)) + 15 := (ob_1084 (qi_add ex107 zc_15 rfl (ob_1082 f16 f17 f21 f19) (ob_1083 f1 f17 f19)) f19)
              refine ldM_25 (mm := (trb m4_f_all y4_3.toInt (f_tunes (i_bank.toInt).toNat).toInt (6 - ((0 : Int32).toInt)).toNat ((0 : Int32).toInt)) + 15) hx hb hK hP f108 (ob_1085 f16 f17 f21 f19) (ob_1086 f1 f17 f19) dX9_goWeek_116 ?_
              refine lv_aload_n hx hb dX9_goWeek_117 rfl (lv_at hl 2 rfl) ?_
              refine gM_X9_20_0 hx hb hG hown hK hP dX9_goWeek_118 ?_
              refine lv_aload_n hx hb dX9_goWeek_121 rfl (lv_at hl 2 rfl) ?_
              refine gM_X9_249_0 hx hb hG hown hK hP dX9_goWeek_122 ?_
              refine ldM_3 (mm := i_bank.toInt) hx hb hK hP rfl (ob_263 ie4 ie5) (ob_264 ie4 ie5) dX9_goWeek_125 (fun x109 => ?_)
              refine lv_icmp_lt (tgt := 142) hx hb dX9_goWeek_126 (by decide) (fun c_110 => ?_) (fun c_110 => ?_)
              · skip
                have f111 : (z100 ((trb m4_f_all y4_3.toInt (f_tunes (i_bank.toInt).toNat).toInt (6 - ((0 : Int32).toInt)).toNat ((0 : Int32).toInt)) + 15).toNat).toInt < x109.toInt := qi_lt c_110 rfl rfl
                obtain ⟨x112, ex112⟩ : ∃ y : Int32, y = y4_3 + Int32.ofInt 1 := ⟨_, rfl⟩
                have f113 : x112.toInt = y4_3.toInt + 1 := (ob_142 (qi_add ex112 rfl (by decide) (ob_140 g4_0) (ob_794 g4_1)))
                refine lv_iinc (v := x112) (lv' := [(3, .int x112), (5, .int 0), (4, .int r_15), (0, .ref (r 0)), (1, .int p0), (2, .int y4_2)]) hx hb dX9_goWeek_142 hl (k := 5) rfl ex112.symm (by decide) rfl (fun ls hl => ?_)
                refine lv_goto (tgt := 4) hx hb dX9_goWeek_145 (by decide) ?_
                exact ih4 y4_2 x112 m4_i_askHouse m4_i_askTune z100 m4_J H99 _ _ (ob_149 g4_0 f113) (ob_795 f2 f13 f6 f113) g101 hP hD hS (lv_sub hl [3, 4, 5, 0] rfl) (ob_796 hM4 f113)
              · skip
                have f114 : x109.toInt ≤ (z100 ((trb m4_f_all y4_3.toInt (f_tunes (i_bank.toInt).toNat).toInt (6 - ((0 : Int32).toInt)).toNat ((0 : Int32).toInt)) + 15).toNat).toInt := qi_nlt c_110 rfl rfl
                refine lv_aload_n hx hb dX9_goWeek_129 rfl (lv_at hl 2 rfl) ?_
                refine lv_iload_n hx hb dX9_goWeek_130 rfl (lv_at hl 5 rfl) ?_
                refine lv_iload hx hb dX9_goWeek_131 (lv_at hl 1 rfl) ?_
                have hFc := frA hD hS hA
                refine va_calli (va_runV (As := [.int y4_3, .int r_15]) (rest := []) ⟨hx, hb, hml, hown, hG⟩ (kX9_isPaid l dC dI r ct i_taped i_size i_faultKind i_at i_end i_token i_number i_bank i_rb i_codes i_within i_piled i_unitsInRule m4_i_askHouse m4_i_askTune i_acts i_undone i_laid i_knowns i_time f_text f_tunes f_houses f_hums f_told f_many f_ruleFrom f_ruleTo f_code f_eWhat f_eSign z100 f_kept f_was f_sTune f_boxAll m4_J L y4_3 r_15 H99.size ⟨ie0, ie1, ie2, ie3, ie4, ie5, ie6, ie7, ie8, ie9, ie10, ie11, ie12, ie13, ie14, ie15, ie16, ie17, ie18, ie19, ie20, ie21, ie22, ie23, ie24, ie25, ie26, g101, ie28, ie29, ie30, ie31, ie32⟩ (ob_139 g4_0) (ob_1054 f13 f6) (ob_1088 f16 f17 f21 f19) (ob_1089 f17 f19)) (cwV 2 hG (goodV gw1692 gw1694 gw109 gw138 gw1695) rfl rfl rfl hd_X9_isPaid ⟨(Nat.le_of_ble_eq_true rfl), (Nat.le_of_ble_eq_true rfl)⟩) ⟨fbW, va_recv hK hP (ci := 8) (q0 := 0) rfl rfl, pW_in hP hK hD⟩ rfl rfl hl.1 rfl (lv_room (Nat.le_of_ble_eq_true rfl)) dX9_goWeek_133 ⟨(Nat.le_of_ble_eq_true rfl), (Nat.le_of_ble_eq_true rfl)⟩) hS (fun q _ h => hFc q h) hFc (fun r_116 u_ t_ H115 locs ht hvm hw hB hz1 hk1 hS => ?_)
                subst hw
                obtain ⟨x117, x118, z119, J120, hP1, hD1, hI124, f121, f122, f123⟩ := hB
                rw [ht] at hP1
                have hP := hP1
                have hD := dW hFc hD1
                obtain ⟨im125, im126, im127, im128, im129, im130, im131, im132, im133, im134, im135, im136, im137, im138, im139, im140, im141, im142, im143, im144, im145, im146, im147, im148, im149, im150, im151, im152, im153, im154, im155, im156, im157⟩ := id hI124
                refine lv_if_eq (tgt := 142) hx hb dX9_goWeek_136 (by decide) (fun c_158 => ?_) (fun c_158 => ?_)
                · skip
                  have f159 : r_116.toInt = 0 := qi_eq c_158 rfl zc_0
                  have f160 : r_116.toInt = (0 : Int) := (ob_226 f122 f123 f159)
                  obtain ⟨x161, ex161⟩ : ∃ y : Int32, y = y4_3 + Int32.ofInt 1 := ⟨_, rfl⟩
                  have f162 : x161.toInt = y4_3.toInt + 1 := (ob_142 (qi_add ex161 rfl (by decide) (ob_140 g4_0) (ob_794 g4_1)))
                  refine lv_iinc (v := x161) (lv' := [(3, .int x161), (5, .int 0), (4, .int r_15), (0, .ref (r 0)), (1, .int p0), (2, .int y4_2)]) hx hb dX9_goWeek_142 hl (k := 5) rfl ex161.symm (by decide) rfl (fun ls hl => ?_)
                  refine lv_goto (tgt := 4) hx hb dX9_goWeek_145 (by decide) ?_
                  exact ih4 y4_2 x161 x117 x118 z119 J120 H115 _ _ (ob_149 g4_0 f162) (ob_795 f2 f13 f6 f162) im152 hP hD hS (lv_sub hl [3, 4, 5, 0] rfl) (ob_796 hM4 f162)
                · skip
                  have f163 : r_116.toInt ≠ 0 := qi_ne c_158 rfl zc_0
                  have f164 : r_116.toInt = (1 : Int) := (ob_592 f121 f163)
                  have f165 : (1 : Int) ≤ r_116.toInt := (ob_162 f122 f123 f164)
                  obtain ⟨x166, ex166⟩ : ∃ y : Int32, y = y4_2 + Int32.ofInt 1 := ⟨_, rfl⟩
                  have f167 : (-2147483648) ≤ y4_2.toInt ∧ y4_2.toInt ≤ 2147483647 := i32_rg _
                  refine lv_iinc (v := x166) (lv' := [(2, .int x166), (5, .int 0), (4, .int r_15), (0, .ref (r 0)), (1, .int p0), (3, .int y4_3)]) hx hb dX9_goWeek_139 hl (k := 4) rfl ex166.symm (by decide) rfl (fun ls hl => ?_)
                  obtain ⟨x168, ex168⟩ : ∃ y : Int32, y = y4_3 + Int32.ofInt 1 := ⟨_, rfl⟩
                  have f169 : x168.toInt = y4_3.toInt + 1 := (ob_142 (qi_add ex168 rfl (by decide) (ob_140 g4_0) (ob_794 g4_1)))
                  refine lv_iinc (v := x168) (lv' := [(3, .int x168), (2, .int x166), (5, .int 0), (4, .int r_15), (0, .ref (r 0)), (1, .int p0)]) hx hb dX9_goWeek_142 hl (k := 5) rfl ex168.symm (by decide) rfl (fun ls hl => ?_)
                  refine lv_goto (tgt := 4) hx hb dX9_goWeek_145 (by decide) ?_
                  exact ih4 x166 x168 x117 x118 z119 J120 H115 _ _ (ob_149 g4_0 f169) (ob_795 f2 f13 f6 f169) im152 hP hD hS (lv_sub hl [4, 5, 1, 0] rfl) (ob_796 hM4 f169)
            · skip
              have f170 : x102.toInt < (f_hums (i_bank.toInt).toNat).toInt := qi_nle c_104 rfl rfl
              refine lv_iconst (v := 1) hx hb dX9_goWeek_95 (by decide) ?_
              refine lv_goto (tgt := 100) hx hb dX9_goWeek_96 (by decide) ?_
              refine lv_istore (lv' := [(5, .int 1), (4, .int r_15), (0, .ref (r 0)), (1, .int p0), (2, .int y4_2), (3, .int y4_3)]) hx hb dX9_goWeek_100 hl (by decide) rfl (fun ls hl => ?_)
              refine lv_iload hx hb dX9_goWeek_102 (lv_at hl 0 rfl) ?_
              refine lv_if_ne (tgt := 142) hx hb dX9_goWeek_104 (by decide) (fun c_171 => ?_) (fun c_171 => absurd c_171 (by decide))
              obtain ⟨x172, ex172⟩ : ∃ y : Int32, y = y4_3 + Int32.ofInt 1 := ⟨_, rfl⟩
              have f173 : x172.toInt = y4_3.toInt + 1 := (ob_142 (qi_add ex172 rfl (by decide) (ob_140 g4_0) (ob_794 g4_1)))
              refine lv_iinc (v := x172) (lv' := [(3, .int x172), (5, .int 1), (4, .int r_15), (0, .ref (r 0)), (1, .int p0), (2, .int y4_2)]) hx hb dX9_goWeek_142 hl (k := 5) rfl ex172.symm (by decide) rfl (fun ls hl => ?_)
              refine lv_goto (tgt := 4) hx hb dX9_goWeek_145 (by decide) ?_
              exact ih4 y4_2 x172 m4_i_askHouse m4_i_askTune z100 m4_J H99 _ _ (ob_149 g4_0 f173) (ob_795 f2 f13 f6 f173) g101 hP hD hS (lv_sub hl [3, 4, 5, 0] rfl) (ob_796 hM4 f173)
        · skip
          have f174 : r_15.toInt < 0 := qi_nle c_20 zc_0 rfl
          refine lv_goto (tgt := 142) hx hb dX9_goWeek_24 (by decide) ?_
          obtain ⟨x175, ex175⟩ : ∃ y : Int32, y = y4_3 + Int32.ofInt 1 := ⟨_, rfl⟩
          have f176 : x175.toInt = y4_3.toInt + 1 := (ob_142 (qi_add ex175 rfl (by decide) (ob_140 g4_0) (ob_794 g4_1)))
          refine lv_iinc (v := x175) (lv' := [(3, .int x175), (4, .int r_15), (0, .ref (r 0)), (1, .int p0), (2, .int y4_2)]) hx hb dX9_goWeek_142 hl (k := 4) rfl ex175.symm (by decide) rfl (fun ls hl => ?_)
          refine lv_goto (tgt := 4) hx hb dX9_goWeek_145 (by decide) ?_
          exact ih4 y4_2 x175 m4_i_askHouse m4_i_askTune m4_f_all m4_J H14 _ _ (ob_149 g4_0 f176) (ob_795 f2 f13 f6 f176) gi4_all_p hP hD hS (lv_sub hl [2, 3, 4, 0] rfl) (ob_796 hM4 f176)
  exact L4 (-1 * (0 : Int32).toInt + 4 + 1).toNat 0 0 i_askHouse i_askTune f_all J s.heap _ _ (ob_1 zc_0) (ob_797 zc_0) ie27 hP hD hS (lv_sub hl [2, 3, 1, 0] rfl) (mlt (ob_798 zc_0))
set_option maxHeartbeats 4000000 in
set_option maxRecDepth 100000 in
theorem kX9_tune (l : Launch) (dC : Nat → ClassId) (dI : Nat → Nat → Nat) (r : Nat → Nat) (ct : Nat → ClassId) (i_taped i_size i_faultKind i_at i_end i_token i_number i_bank i_rb i_codes i_within i_piled i_unitsInRule i_askHouse i_askTune i_acts i_undone i_laid i_knowns i_time : Int32) (f_text f_tunes f_houses f_hums f_told f_many f_ruleFrom f_ruleTo f_code f_eWhat f_eSign f_all f_kept f_was f_sTune f_boxAll : Nat → Int32) (J : Nat → Nat → Int32) (L : Nat → Nat → Int64) (p0 p1 : Int32) (sz : Nat) (hI : (IM i_taped i_size i_faultKind i_at i_end i_bank i_rb i_acts i_undone i_laid i_knowns i_time f_tunes f_houses f_hums f_told f_many f_ruleFrom f_ruleTo f_code f_all f_kept f_was f_sTune f_boxAll)) : Met l yX9_tune (.code yX9_tune cX9_tune 3 (some .int) :: GW) { frames := 6, cells := 0, slots := 0, locals := 223 } (va_Pc [.ref (r 0), .int p0, .int p1] (pR (dC, dI) (WM r ct i_taped i_size i_faultKind i_at i_end i_token i_number i_bank i_rb i_codes i_within i_piled i_unitsInRule i_askHouse i_askTune i_acts i_undone i_laid i_knowns i_time f_text f_tunes f_houses f_hums f_told f_many f_ruleFrom f_ruleTo f_code f_eWhat f_eSign f_all f_kept f_was f_sTune f_boxAll J L) (TM ct) sz)) (va_Qi (fun (r0 : Int32) (u : Int32) => r0 = u) (fun (u : Int32) (t : State) => True) (fun q => sz ≤ q)) 0 0 (fun q => sz ≤ q) := by
  refine Met.ofW (cc := cX9_tune) (maxL := 3) (ret := (some .int)) (by decide) rfl ?_
  intro p e s m args below meth c0 s₁ B hml hv
  obtain ⟨rfl, hsz, hP, hK⟩ := hv
  have hx := B.exec
  have hb := B.bytes
  have hr := B.returns
  have hts := atoms_spec (ws := .code yX9_tune cX9_tune 3 (some .int) :: GW) B.pre
  have hG : ∀ w ∈ GW, w.before _ s = true := fun w h => hts w (List.mem_cons_of_mem _ h)
  have hown : s.vm.findClass RX9 = some m.cls := findClass_of_methodNamed B.named
  subst hsz
  have hS : va_S (fun q => s.heap.size ≤ q) s.heap s.heap [] := va_S.rf
  have hP : va_P (dC, dI) vwCl (WM r ct i_taped i_size i_faultKind i_at i_end i_token i_number i_bank i_rb i_codes i_within i_piled i_unitsInRule i_askHouse i_askTune i_acts i_undone i_laid i_knowns i_time f_text f_tunes f_houses f_hums f_told f_many f_ruleFrom f_ruleTo f_code f_eWhat f_eSign f_all f_kept f_was f_sTune f_boxAll J L) s.heap := hP
  have hl := lv_entry ([.ref (r 0), .int p0, .int p1]) (n := 3) (Nat.le_of_ble_eq_true rfl)
  rw [lg_entry_eq]
  generalize (lg_sl ([.ref (r 0), .int p0, .int p1]) ++ List.replicate (3 - (lg_sl ([.ref (r 0), .int p0, .int p1])).length) Slot.unset).toArray = ls at hl ⊢
  have hl : lv_has ls 3 [(0, .ref (r 0)), (1, .int p0), (2, .int p1)] := hl
  refine nameQ (fun Q hQ => ?_)
  obtain ⟨ie0, ie1, ie2, ie3, ie4, ie5, ie6, ie7, ie8, ie9, ie10, ie11, ie12, ie13, ie14, ie15, ie16, ie17, ie18, ie19, ie20, ie21, ie22, ie23, ie24, ie25, ie26, ie27, ie28, ie29, ie30, ie31, ie32⟩ := id hI
  have f1 : 0 ≤ (f_tunes (i_bank.toInt).toNat).toInt ∧ (f_tunes (i_bank.toInt).toNat).toInt ≤ 5 := ie21 (i_bank.toInt)
  have f2 : 0 ≤ (f_houses (i_bank.toInt).toNat).toInt ∧ (f_houses (i_bank.toInt).toNat).toInt ≤ 4 := ie22 (i_bank.toInt)
  refine lv_aload_n hx hb dX9_tune_0 rfl (lv_at hl 0 rfl) ?_
  refine lv_iload_n hx hb dX9_tune_1 rfl (lv_at hl 1 rfl) ?_
  refine va_calli (va_runV (As := [.int p0]) (rest := []) ⟨hx, hb, hml, hown, hG⟩ (kX9_isTune l dC dI r ct i_taped i_size i_faultKind i_at i_end i_token i_number i_bank i_rb i_codes i_within i_piled i_unitsInRule i_askHouse i_askTune i_acts i_undone i_laid i_knowns i_time f_text f_tunes f_houses f_hums f_told f_many f_ruleFrom f_ruleTo f_code f_eWhat f_eSign f_all f_kept f_was f_sTune f_boxAll J L p0 s.heap.size hI) (cwV 1 hG (goodV gw1508 gw1510 gw85 gw138 gw1511) rfl rfl rfl hd_X9_isTune ⟨(Nat.le_of_ble_eq_true rfl), (Nat.le_of_ble_eq_true rfl)⟩) ⟨fbR, va_recv hK hP (ci := 8) (q0 := 0) rfl rfl, pR_in hP hK⟩ rfl rfl hl.1 rfl (lv_room (Nat.le_of_ble_eq_true rfl)) dX9_tune_2 ⟨(Nat.le_of_ble_eq_true rfl), (Nat.le_of_ble_eq_true rfl)⟩) hS (fun q hq h => absurd hq (Nat.not_lt.mpr h)) (fun q h => Nat.le_trans hS.1 h) (fun r_4 u_ t_ H3 locs ht hvm hw hB hz1 hk1 hS => ?_)
  subst hw
  have hP := wk hP hk1
  obtain ⟨f5, f6, f7, f8, f9⟩ := hB
  refine lv_if_ne (tgt := 11) hx hb dX9_tune_5 (by decide) (fun c_10 => ?_) (fun c_10 => ?_)
  · skip
    have f11 : r_4.toInt ≠ 0 := qi_ne c_10 rfl zc_0
    have f12 : (0 : Int) ≤ p0.toInt := (ob_1090 f5 f11)
    have f13 : p0.toInt + 1 ≤ (f_tunes (i_bank.toInt).toNat).toInt := (ob_1091 f5 f11)
    have f14 : r_4.toInt = (1 : Int) := (ob_1092 f5 f11)
    have f15 : (1 : Int) ≤ r_4.toInt := (ob_395 f14)
    refine lv_iload_n hx hb dX9_tune_11 rfl (lv_at hl 2 rfl) ?_
    rcases ts_0_5 p1 with hs16 | hs16 | hs16 | hs16 | hs16 | hs16 | hs16
    · skip
      refine lv_tableOut (tgt := 102) hx hb dX9_tune_12 hs16 (by decide) ?_
      refine lv_bipush (v := (-2)) hx hb dX9_tune_102 (by decide) ?_
      rw [hQ]
      exact W.iret (v := (-2)) hx hb hr (fun t ht hW => ⟨⟨(-2), (-2), rfl, rfl, trivial⟩, hS.F ht⟩) hS.2.2 dX9_tune_104
    · skip
      refine lv_tableIn (off := 40) (tgt := 52) hx hb dX9_tune_12 (by rw [hs16]; decide) (by rw [hs16]; decide) (by rw [hs16]; decide) (by decide) ?_
      have f17 : p1.toInt = 0 := qi_eq hs16 rfl zc_0
      refine lv_aload_n hx hb dX9_tune_52 rfl (lv_at hl 0 rfl) ?_
      refine lv_iload_n hx hb dX9_tune_53 rfl (lv_at hl 1 rfl) ?_
      refine va_calli (va_runV (As := [.int p0]) (rest := []) ⟨hx, hb, hml, hown, hG⟩ (kX9_priceOf l dC dI r ct i_taped i_size i_faultKind i_at i_end i_token i_number i_bank i_rb i_codes i_within i_piled i_unitsInRule i_askHouse i_askTune i_acts i_undone i_laid i_knowns i_time f_text f_tunes f_houses f_hums f_told f_many f_ruleFrom f_ruleTo f_code f_eWhat f_eSign f_all f_kept f_was f_sTune f_boxAll J L p0 H3.size hI (ob_880 f12 f13) (ob_881 f1 f12 f13)) (cwV 1 hG (goodV gw1519 gw1521 gw87 gw138 gw1522) rfl rfl rfl hd_X9_priceOf ⟨(Nat.le_of_ble_eq_true rfl), (Nat.le_of_ble_eq_true rfl)⟩) ⟨fbR, va_recv hK hP (ci := 8) (q0 := 0) rfl rfl, pR_in hP hK⟩ rfl rfl hl.1 rfl (lv_room (Nat.le_of_ble_eq_true rfl)) dX9_tune_54 ⟨(Nat.le_of_ble_eq_true rfl), (Nat.le_of_ble_eq_true rfl)⟩) hS (fun q hq h => absurd hq (Nat.not_lt.mpr h)) (fun q h => Nat.le_trans hS.1 h) (fun r_19 u_ t_ H18 locs ht hvm hw hB hz1 hk1 hS => ?_)
      subst hw
      have hP := wk hP hk1
      rw [hQ]
      exact W.iret (v := r_19) hx hb hr (fun t ht hW => ⟨⟨r_19, r_19, rfl, rfl, trivial⟩, hS.F ht⟩) hS.2.2 dX9_tune_57
    · skip
      refine lv_tableIn (off := 46) (tgt := 58) hx hb dX9_tune_12 (by rw [hs16]; decide) (by rw [hs16]; decide) (by rw [hs16]; decide) (by decide) ?_
      have f20 : p1.toInt = 1 := qi_eq hs16 rfl zc_1
      refine lv_aload_n hx hb dX9_tune_58 rfl (lv_at hl 0 rfl) ?_
      refine lv_iload_n hx hb dX9_tune_59 rfl (lv_at hl 1 rfl) ?_
      refine va_calli (va_runV (As := [.int p0]) (rest := []) ⟨hx, hb, hml, hown, hG⟩ (kX9_leftOf l dC dI r ct i_taped i_size i_faultKind i_at i_end i_token i_number i_bank i_rb i_codes i_within i_piled i_unitsInRule i_askHouse i_askTune i_acts i_undone i_laid i_knowns i_time f_text f_tunes f_houses f_hums f_told f_many f_ruleFrom f_ruleTo f_code f_eWhat f_eSign f_all f_kept f_was f_sTune f_boxAll J L p0 H3.size hI (ob_880 f12 f13) (ob_881 f1 f12 f13)) (cwV 1 hG (goodV gw1523 gw1525 gw88 gw138 gw1526) rfl rfl rfl hd_X9_leftOf ⟨(Nat.le_of_ble_eq_true rfl), (Nat.le_of_ble_eq_true rfl)⟩) ⟨fbR, va_recv hK hP (ci := 8) (q0 := 0) rfl rfl, pR_in hP hK⟩ rfl rfl hl.1 rfl (lv_room (Nat.le_of_ble_eq_true rfl)) dX9_tune_60 ⟨(Nat.le_of_ble_eq_true rfl), (Nat.le_of_ble_eq_true rfl)⟩) hS (fun q hq h => absurd hq (Nat.not_lt.mpr h)) (fun q h => Nat.le_trans hS.1 h) (fun r_22 u_ t_ H21 locs ht hvm hw hB hz1 hk1 hS => ?_)
      subst hw
      have hP := wk hP hk1
      obtain ⟨f23, f24, f25, f26, f27, f28, f29⟩ := hB
      rw [hQ]
      exact W.iret (v := r_22) hx hb hr (fun t ht hW => ⟨⟨r_22, r_22, rfl, rfl, trivial⟩, hS.F ht⟩) hS.2.2 dX9_tune_63
    · skip
      refine lv_tableIn (off := 52) (tgt := 64) hx hb dX9_tune_12 (by rw [hs16]; decide) (by rw [hs16]; decide) (by rw [hs16]; decide) (by decide) ?_
      have f30 : p1.toInt = 2 := qi_eq hs16 rfl zc_2
      refine lv_aload_n hx hb dX9_tune_64 rfl (lv_at hl 0 rfl) ?_
      refine gM_X9_88_0 hx hb hG hown hK hP dX9_tune_65 ?_
      refine lv_bipush (v := 10) hx hb dX9_tune_68 (by decide) ?_
      refine lv_iload_n hx hb dX9_tune_70 rfl (lv_at hl 1 rfl) ?_
      refine lv_iadd hx hb dX9_tune_71 ?_
      refine lv_topi (fun x31 ex31 => ?_)
      have f32 : x31.toInt = p0.toInt + 10 := (ob_861 (qi_add ex31 zc_10 rfl (ob_859 f12 f13) (ob_860 f1 f13)))
      refine ldM_25 (mm := p0.toInt + 10) hx hb hK hP f32 (ob_862 f12 f13) (ob_863 f1 f13) dX9_tune_72 ?_
      have f33 : 0 ≤ (f_all (p0.toInt + 10).toNat).toInt ∧ (f_all (p0.toInt + 10).toNat).toInt ≤ 99 := ie27 (p0.toInt + 10) (ob_862 f12 f13) (ob_1093 f1 f6 f7 f12 f13 f14 f15) (ob_1094 f1 f6 f7 f12 f13 f14 f15)
      rw [hQ]
      exact W.iret (v := (f_all (p0.toInt + 10).toNat)) hx hb hr (fun t ht hW => ⟨⟨(f_all (p0.toInt + 10).toNat), (f_all (p0.toInt + 10).toNat), rfl, rfl, trivial⟩, hS.F ht⟩) hS.2.2 dX9_tune_73
    · skip
      refine lv_tableIn (off := 62) (tgt := 74) hx hb dX9_tune_12 (by rw [hs16]; decide) (by rw [hs16]; decide) (by rw [hs16]; decide) (by decide) ?_
      have f34 : p1.toInt = 3 := qi_eq hs16 rfl zc_3
      refine lv_aload_n hx hb dX9_tune_74 rfl (lv_at hl 0 rfl) ?_
      refine gM_X9_88_0 hx hb hG hown hK hP dX9_tune_75 ?_
      refine lv_iconst (v := 0) hx hb dX9_tune_78 (by decide) ?_
      refine lv_iload_n hx hb dX9_tune_79 rfl (lv_at hl 1 rfl) ?_
      refine lv_iadd hx hb dX9_tune_80 ?_
      refine lv_topi (fun x35 ex35 => ?_)
      have f36 : x35.toInt = p0.toInt := (ob_801 (qi_add ex35 zc_0 rfl (ob_1027 f12 f13) (ob_1095 f1 f13)))
      refine ldM_25 (mm := p0.toInt) hx hb hK hP f36 (ob_1029 f12 f13) (ob_1096 f1 f13) dX9_tune_81 ?_
      rw [hQ]
      exact W.iret (v := (f_all (p0.toInt).toNat)) hx hb hr (fun t ht hW => ⟨⟨(f_all (p0.toInt).toNat), (f_all (p0.toInt).toNat), rfl, rfl, trivial⟩, hS.F ht⟩) hS.2.2 dX9_tune_82
    · skip
      refine lv_tableIn (off := 71) (tgt := 83) hx hb dX9_tune_12 (by rw [hs16]; decide) (by rw [hs16]; decide) (by rw [hs16]; decide) (by decide) ?_
      have f37 : p1.toInt = 4 := qi_eq hs16 rfl zc_4
      refine lv_aload_n hx hb dX9_tune_83 rfl (lv_at hl 0 rfl) ?_
      refine gM_X9_88_0 hx hb hG hown hK hP dX9_tune_84 ?_
      refine lv_iconst (v := 5) hx hb dX9_tune_87 (by decide) ?_
      refine lv_iload_n hx hb dX9_tune_88 rfl (lv_at hl 1 rfl) ?_
      refine lv_iadd hx hb dX9_tune_89 ?_
      refine lv_topi (fun x38 ex38 => ?_)
      have f39 : x38.toInt = p0.toInt + 5 := (ob_1036 (qi_add ex38 zc_5 rfl (ob_1034 f12 f13) (ob_1097 f1 f13)))
      refine ldM_25 (mm := p0.toInt + 5) hx hb hK hP f39 (ob_1037 f12 f13) (ob_1098 f1 f13) dX9_tune_90 ?_
      rw [hQ]
      exact W.iret (v := (f_all (p0.toInt + 5).toNat)) hx hb hr (fun t ht hW => ⟨⟨(f_all (p0.toInt + 5).toNat), (f_all (p0.toInt + 5).toNat), rfl, rfl, trivial⟩, hS.F ht⟩) hS.2.2 dX9_tune_91
    · skip
      refine lv_tableIn (off := 80) (tgt := 92) hx hb dX9_tune_12 (by rw [hs16]; decide) (by rw [hs16]; decide) (by rw [hs16]; decide) (by decide) ?_
      have f40 : p1.toInt = 5 := qi_eq hs16 rfl zc_5
      refine lv_aload_n hx hb dX9_tune_92 rfl (lv_at hl 0 rfl) ?_
      refine gM_X9_88_0 hx hb hG hown hK hP dX9_tune_93 ?_
      refine lv_bipush (v := 15) hx hb dX9_tune_96 (by decide) ?_
      refine lv_iload_n hx hb dX9_tune_98 rfl (lv_at hl 1 rfl) ?_
      refine lv_iadd hx hb dX9_tune_99 ?_
      refine lv_topi (fun x41 ex41 => ?_)
      have f42 : x41.toInt = p0.toInt + 15 := (ob_1063 (qi_add ex41 zc_15 rfl (ob_1069 f12 f13) (ob_1062 f1 f13)))
      refine ldM_25 (mm := p0.toInt + 15) hx hb hK hP f42 (ob_1071 f12 f13) (ob_1065 f1 f13) dX9_tune_100 ?_
      rw [hQ]
      exact W.iret (v := (f_all (p0.toInt + 15).toNat)) hx hb hr (fun t ht hW => ⟨⟨(f_all (p0.toInt + 15).toNat), (f_all (p0.toInt + 15).toNat), rfl, rfl, trivial⟩, hS.F ht⟩) hS.2.2 dX9_tune_101
  · skip
    have f43 : r_4.toInt = 0 := qi_eq c_10 rfl zc_0
    refine lv_bipush (v := (-2)) hx hb dX9_tune_8 (by decide) ?_
    rw [hQ]
    exact W.iret (v := (-2)) hx hb hr (fun t ht hW => ⟨⟨(-2), (-2), rfl, rfl, trivial⟩, hS.F ht⟩) hS.2.2 dX9_tune_10
set_option maxHeartbeats 4000000 in
set_option maxRecDepth 100000 in
theorem kX9_note (l : Launch) (dC : Nat → ClassId) (dI : Nat → Nat → Nat) (r : Nat → Nat) (ct : Nat → ClassId) (i_taped i_size i_faultKind i_at i_end i_token i_number i_bank i_rb i_codes i_within i_piled i_unitsInRule i_askHouse i_askTune i_acts i_undone i_laid i_knowns i_time : Int32) (f_text f_tunes f_houses f_hums f_told f_many f_ruleFrom f_ruleTo f_code f_eWhat f_eSign f_all f_kept f_was f_sTune f_boxAll : Nat → Int32) (J : Nat → Nat → Int32) (L : Nat → Nat → Int64) (p0 p1 : Int32) (sz : Nat) (hI : (IM i_taped i_size i_faultKind i_at i_end i_bank i_rb i_acts i_undone i_laid i_knowns i_time f_tunes f_houses f_hums f_told f_many f_ruleFrom f_ruleTo f_code f_all f_kept f_was f_sTune f_boxAll)) : Met l yX9_note (.code yX9_note cX9_note 3 (some .int) :: GW) { frames := 8, cells := 0, slots := 0, locals := 286 } (va_Pc [.ref (r 0), .int p0, .int p1] (pR (dC, dI) (WM r ct i_taped i_size i_faultKind i_at i_end i_token i_number i_bank i_rb i_codes i_within i_piled i_unitsInRule i_askHouse i_askTune i_acts i_undone i_laid i_knowns i_time f_text f_tunes f_houses f_hums f_told f_many f_ruleFrom f_ruleTo f_code f_eWhat f_eSign f_all f_kept f_was f_sTune f_boxAll J L) (TM ct) sz)) (va_Qi (fun (r0 : Int32) (u : Int32) => r0 = u) (fun (u : Int32) (t : State) => True) (fun q => sz ≤ q)) 0 0 (fun q => sz ≤ q) := by
  refine Met.ofW (cc := cX9_note) (maxL := 3) (ret := (some .int)) (by decide) rfl ?_
  intro p e s m args below meth c0 s₁ B hml hv
  obtain ⟨rfl, hsz, hP, hK⟩ := hv
  have hx := B.exec
  have hb := B.bytes
  have hr := B.returns
  have hts := atoms_spec (ws := .code yX9_note cX9_note 3 (some .int) :: GW) B.pre
  have hG : ∀ w ∈ GW, w.before _ s = true := fun w h => hts w (List.mem_cons_of_mem _ h)
  have hown : s.vm.findClass RX9 = some m.cls := findClass_of_methodNamed B.named
  subst hsz
  have hS : va_S (fun q => s.heap.size ≤ q) s.heap s.heap [] := va_S.rf
  have hP : va_P (dC, dI) vwCl (WM r ct i_taped i_size i_faultKind i_at i_end i_token i_number i_bank i_rb i_codes i_within i_piled i_unitsInRule i_askHouse i_askTune i_acts i_undone i_laid i_knowns i_time f_text f_tunes f_houses f_hums f_told f_many f_ruleFrom f_ruleTo f_code f_eWhat f_eSign f_all f_kept f_was f_sTune f_boxAll J L) s.heap := hP
  have hl := lv_entry ([.ref (r 0), .int p0, .int p1]) (n := 3) (Nat.le_of_ble_eq_true rfl)
  rw [lg_entry_eq]
  generalize (lg_sl ([.ref (r 0), .int p0, .int p1]) ++ List.replicate (3 - (lg_sl ([.ref (r 0), .int p0, .int p1])).length) Slot.unset).toArray = ls at hl ⊢
  have hl : lv_has ls 3 [(0, .ref (r 0)), (1, .int p0), (2, .int p1)] := hl
  refine nameQ (fun Q hQ => ?_)
  obtain ⟨ie0, ie1, ie2, ie3, ie4, ie5, ie6, ie7, ie8, ie9, ie10, ie11, ie12, ie13, ie14, ie15, ie16, ie17, ie18, ie19, ie20, ie21, ie22, ie23, ie24, ie25, ie26, ie27, ie28, ie29, ie30, ie31, ie32⟩ := id hI
  have f1 : 0 ≤ (f_tunes (i_bank.toInt).toNat).toInt ∧ (f_tunes (i_bank.toInt).toNat).toInt ≤ 5 := ie21 (i_bank.toInt)
  have f2 : 0 ≤ (f_houses (i_bank.toInt).toNat).toInt ∧ (f_houses (i_bank.toInt).toNat).toInt ≤ 4 := ie22 (i_bank.toInt)
  refine lv_aload_n hx hb dX9_note_0 rfl (lv_at hl 0 rfl) ?_
  refine lv_iload_n hx hb dX9_note_1 rfl (lv_at hl 1 rfl) ?_
  refine va_calli (va_runV (As := [.int p0]) (rest := []) ⟨hx, hb, hml, hown, hG⟩ (kX9_isTune l dC dI r ct i_taped i_size i_faultKind i_at i_end i_token i_number i_bank i_rb i_codes i_within i_piled i_unitsInRule i_askHouse i_askTune i_acts i_undone i_laid i_knowns i_time f_text f_tunes f_houses f_hums f_told f_many f_ruleFrom f_ruleTo f_code f_eWhat f_eSign f_all f_kept f_was f_sTune f_boxAll J L p0 s.heap.size hI) (cwV 1 hG (goodV gw1508 gw1510 gw85 gw138 gw1511) rfl rfl rfl hd_X9_isTune ⟨(Nat.le_of_ble_eq_true rfl), (Nat.le_of_ble_eq_true rfl)⟩) ⟨fbR, va_recv hK hP (ci := 8) (q0 := 0) rfl rfl, pR_in hP hK⟩ rfl rfl hl.1 rfl (lv_room (Nat.le_of_ble_eq_true rfl)) dX9_note_2 ⟨(Nat.le_of_ble_eq_true rfl), (Nat.le_of_ble_eq_true rfl)⟩) hS (fun q hq h => absurd hq (Nat.not_lt.mpr h)) (fun q h => Nat.le_trans hS.1 h) (fun r_4 u_ t_ H3 locs ht hvm hw hB hz1 hk1 hS => ?_)
  subst hw
  have hP := wk hP hk1
  obtain ⟨f5, f6, f7, f8, f9⟩ := hB
  refine lv_if_eq (tgt := 32) hx hb dX9_note_5 (by decide) (fun c_10 => ?_) (fun c_10 => ?_)
  · skip
    have f11 : r_4.toInt = 0 := qi_eq c_10 rfl zc_0
    refine lv_iconst (v := (-1)) hx hb dX9_note_32 (by decide) ?_
    rw [hQ]
    exact W.iret (v := (-1)) hx hb hr (fun t ht hW => ⟨⟨(-1), (-1), rfl, rfl, trivial⟩, hS.F ht⟩) hS.2.2 dX9_note_33
  · skip
    have f12 : r_4.toInt ≠ 0 := qi_ne c_10 rfl zc_0
    have f13 : (0 : Int) ≤ p0.toInt := (ob_1090 f5 f12)
    have f14 : p0.toInt + 1 ≤ (f_tunes (i_bank.toInt).toNat).toInt := (ob_1091 f5 f12)
    have f15 : r_4.toInt = (1 : Int) := (ob_1092 f5 f12)
    have f16 : (1 : Int) ≤ r_4.toInt := (ob_395 f15)
    refine lv_iload_n hx hb dX9_note_8 rfl (lv_at hl 2 rfl) ?_
    refine lv_iconst (v := 0) hx hb dX9_note_9 (by decide) ?_
    refine lv_aload_n hx hb dX9_note_10 rfl (lv_at hl 0 rfl) ?_
    refine lv_iload_n hx hb dX9_note_11 rfl (lv_at hl 1 rfl) ?_
    refine va_calli (va_runV (As := [.int p0]) (rest := [.int 0, .int p1]) ⟨hx, hb, hml, hown, hG⟩ (kX9_leftOf l dC dI r ct i_taped i_size i_faultKind i_at i_end i_token i_number i_bank i_rb i_codes i_within i_piled i_unitsInRule i_askHouse i_askTune i_acts i_undone i_laid i_knowns i_time f_text f_tunes f_houses f_hums f_told f_many f_ruleFrom f_ruleTo f_code f_eWhat f_eSign f_all f_kept f_was f_sTune f_boxAll J L p0 H3.size hI (ob_880 f13 f14) (ob_881 f1 f13 f14)) (cwV 1 hG (goodV gw1523 gw1525 gw88 gw138 gw1526) rfl rfl rfl hd_X9_leftOf ⟨(Nat.le_of_ble_eq_true rfl), (Nat.le_of_ble_eq_true rfl)⟩) ⟨fbR, va_recv hK hP (ci := 8) (q0 := 0) rfl rfl, pR_in hP hK⟩ rfl rfl hl.1 rfl (lv_room (Nat.le_of_ble_eq_true rfl)) dX9_note_12 ⟨(Nat.le_of_ble_eq_true rfl), (Nat.le_of_ble_eq_true rfl)⟩) hS (fun q hq h => absurd hq (Nat.not_lt.mpr h)) (fun q h => Nat.le_trans hS.1 h) (fun r_18 u_ t_ H17 locs ht hvm hw hB hz1 hk1 hS => ?_)
    subst hw
    have hP := wk hP hk1
    obtain ⟨f19, f20, f21, f22, f23, f24, f25⟩ := hB
    refine lv_iconst (v := 1) hx hb dX9_note_15 (by decide) ?_
    refine lv_isub hx hb dX9_note_16 ?_
    refine lv_topi (fun x26 ex26 => ?_)
    have f27 : x26.toInt = r_18.toInt + (-1) := (ob_346 (qi_sub ex26 rfl zc_1 (ob_1099 f23 f24) (ob_1100 f23 f24)))
    refine va_calli (va_runS (As := [.int p1, .int 0, .int x26]) (rest := []) ⟨hx, hb, hml, hown, hG⟩ (kX9_isIn l dC dI p1 0 x26 H17.size) (va_cwS 3 hG (goodS gw1516 gw1517 gw138 gw1518) rfl rfl rfl hd_X9_isIn ⟨(Nat.le_of_ble_eq_true rfl), (Nat.le_of_ble_eq_true rfl)⟩) ⟨fbR, pR_in emptyP (emptyK hK)⟩ rfl rfl hl.1 rfl (lv_room (Nat.le_of_ble_eq_true rfl)) dX9_note_17 ⟨(Nat.le_of_ble_eq_true rfl), (Nat.le_of_ble_eq_true rfl)⟩) hS (fun q hq h => absurd hq (Nat.not_lt.mpr h)) (fun q h => Nat.le_trans hS.1 h) (fun r_29 u_ t_ H28 locs ht hvm hw hB hz1 hk1 hS => ?_)
    subst hw
    have hP := wk hP hk1
    obtain ⟨f30, f31, f32⟩ := hB
    refine lv_if_eq (tgt := 32) hx hb dX9_note_20 (by decide) (fun c_33 => ?_) (fun c_33 => ?_)
    · skip
      have f34 : r_29.toInt = 0 := qi_eq c_33 rfl zc_0
      refine lv_iconst (v := (-1)) hx hb dX9_note_32 (by decide) ?_
      rw [hQ]
      exact W.iret (v := (-1)) hx hb hr (fun t ht hW => ⟨⟨(-1), (-1), rfl, rfl, trivial⟩, hS.F ht⟩) hS.2.2 dX9_note_33
    · skip
      have f35 : r_29.toInt ≠ 0 := qi_ne c_33 rfl zc_0
      have f36 : (0 : Int) ≤ p1.toInt := (ob_1101 f30 f35 f27 zc_0)
      have f37 : p1.toInt + 1 ≤ r_18.toInt := (ob_1102 f30 f35 f27 zc_0)
      have f38 : r_29.toInt = (1 : Int) := (ob_1103 f30 f35 f27 zc_0)
      have f39 : (1 : Int) ≤ r_29.toInt := (ob_162 f31 f32 f38)
      refine lv_aload_n hx hb dX9_note_23 rfl (lv_at hl 0 rfl) ?_
      refine lv_iload_n hx hb dX9_note_24 rfl (lv_at hl 1 rfl) ?_
      refine lv_iload_n hx hb dX9_note_25 rfl (lv_at hl 2 rfl) ?_
      refine va_calli (va_runV (As := [.int p0, .int p1]) (rest := []) ⟨hx, hb, hml, hown, hG⟩ (kX9_noteOf l dC dI r ct i_taped i_size i_faultKind i_at i_end i_token i_number i_bank i_rb i_codes i_within i_piled i_unitsInRule i_askHouse i_askTune i_acts i_undone i_laid i_knowns i_time f_text f_tunes f_houses f_hums f_told f_many f_ruleFrom f_ruleTo f_code f_eWhat f_eSign f_all f_kept f_was f_sTune f_boxAll J L p0 p1 H28.size hI (ob_880 f13 f14) (ob_881 f1 f13 f14) (ob_880 f36 f37) (ob_1104 f25 f37)) (cwV 2 hG (goodV gw1534 gw1536 gw89 gw138 gw1537) rfl rfl rfl hd_X9_noteOf ⟨(Nat.le_of_ble_eq_true rfl), (Nat.le_of_ble_eq_true rfl)⟩) ⟨fbR, va_recv hK hP (ci := 8) (q0 := 0) rfl rfl, pR_in hP hK⟩ rfl rfl hl.1 rfl (lv_room (Nat.le_of_ble_eq_true rfl)) dX9_note_26 ⟨(Nat.le_of_ble_eq_true rfl), (Nat.le_of_ble_eq_true rfl)⟩) hS (fun q hq h => absurd hq (Nat.not_lt.mpr h)) (fun q h => Nat.le_trans hS.1 h) (fun r_41 u_ t_ H40 locs ht hvm hw hB hz1 hk1 hS => ?_)
      subst hw
      have hP := wk hP hk1
      refine lv_goto (tgt := 33) hx hb dX9_note_29 (by decide) ?_
      rw [hQ]
      exact W.iret (v := r_41) hx hb hr (fun t ht hW => ⟨⟨r_41, r_41, rfl, rfl, trivial⟩, hS.F ht⟩) hS.2.2 dX9_note_33
set_option maxHeartbeats 4000000 in
set_option maxRecDepth 100000 in
theorem kX9_paidBy (l : Launch) (dC : Nat → ClassId) (dI : Nat → Nat → Nat) (r : Nat → Nat) (ct : Nat → ClassId) (i_taped i_size i_faultKind i_at i_end i_token i_number i_bank i_rb i_codes i_within i_piled i_unitsInRule i_askHouse i_askTune i_acts i_undone i_laid i_knowns i_time : Int32) (f_text f_tunes f_houses f_hums f_told f_many f_ruleFrom f_ruleTo f_code f_eWhat f_eSign f_all f_kept f_was f_sTune f_boxAll : Nat → Int32) (J : Nat → Nat → Int32) (L : Nat → Nat → Int64) (p0 : Int32) (sz : Nat) (hI : (IM i_taped i_size i_faultKind i_at i_end i_bank i_rb i_acts i_undone i_laid i_knowns i_time f_tunes f_houses f_hums f_told f_many f_ruleFrom f_ruleTo f_code f_all f_kept f_was f_sTune f_boxAll)) : Met l yX9_paidBy (.code yX9_paidBy cX9_paidBy 4 (some .int) :: GW) { frames := 4, cells := 0, slots := 0, locals := 160 } (va_Pc [.ref (r 0), .int p0] (pR (dC, dI) (WM r ct i_taped i_size i_faultKind i_at i_end i_token i_number i_bank i_rb i_codes i_within i_piled i_unitsInRule i_askHouse i_askTune i_acts i_undone i_laid i_knowns i_time f_text f_tunes f_houses f_hums f_told f_many f_ruleFrom f_ruleTo f_code f_eWhat f_eSign f_all f_kept f_was f_sTune f_boxAll J L) (TM ct) sz)) (va_Qi (fun (r0 : Int32) (u : Int32) => r0 = u) (fun (u : Int32) (t : State) => True) (fun q => sz ≤ q)) 0 0 (fun q => sz ≤ q) := by
  refine Met.ofW (cc := cX9_paidBy) (maxL := 4) (ret := (some .int)) (by decide) rfl ?_
  intro p e s m args below meth c0 s₁ B hml hv
  obtain ⟨rfl, hsz, hP, hK⟩ := hv
  have hx := B.exec
  have hb := B.bytes
  have hr := B.returns
  have hts := atoms_spec (ws := .code yX9_paidBy cX9_paidBy 4 (some .int) :: GW) B.pre
  have hG : ∀ w ∈ GW, w.before _ s = true := fun w h => hts w (List.mem_cons_of_mem _ h)
  have hown : s.vm.findClass RX9 = some m.cls := findClass_of_methodNamed B.named
  subst hsz
  have hS : va_S (fun q => s.heap.size ≤ q) s.heap s.heap [] := va_S.rf
  have hP : va_P (dC, dI) vwCl (WM r ct i_taped i_size i_faultKind i_at i_end i_token i_number i_bank i_rb i_codes i_within i_piled i_unitsInRule i_askHouse i_askTune i_acts i_undone i_laid i_knowns i_time f_text f_tunes f_houses f_hums f_told f_many f_ruleFrom f_ruleTo f_code f_eWhat f_eSign f_all f_kept f_was f_sTune f_boxAll J L) s.heap := hP
  have hl := lv_entry ([.ref (r 0), .int p0]) (n := 4) (Nat.le_of_ble_eq_true rfl)
  rw [lg_entry_eq]
  generalize (lg_sl ([.ref (r 0), .int p0]) ++ List.replicate (4 - (lg_sl ([.ref (r 0), .int p0])).length) Slot.unset).toArray = ls at hl ⊢
  have hl : lv_has ls 4 [(0, .ref (r 0)), (1, .int p0)] := hl
  refine nameQ (fun Q hQ => ?_)
  obtain ⟨ie0, ie1, ie2, ie3, ie4, ie5, ie6, ie7, ie8, ie9, ie10, ie11, ie12, ie13, ie14, ie15, ie16, ie17, ie18, ie19, ie20, ie21, ie22, ie23, ie24, ie25, ie26, ie27, ie28, ie29, ie30, ie31, ie32⟩ := id hI
  have f1 : 0 ≤ (f_tunes (i_bank.toInt).toNat).toInt ∧ (f_tunes (i_bank.toInt).toNat).toInt ≤ 5 := ie21 (i_bank.toInt)
  have f2 : 0 ≤ (f_houses (i_bank.toInt).toNat).toInt ∧ (f_houses (i_bank.toInt).toNat).toInt ≤ 4 := ie22 (i_bank.toInt)
  refine lv_iconst (v := 0) hx hb dX9_paidBy_0 (by decide) ?_
  refine lv_istore_n (lv' := [(2, .int 0), (0, .ref (r 0)), (1, .int p0)]) hx hb dX9_paidBy_1 rfl hl (by decide) rfl (fun ls hl => ?_)
  refine lv_iconst (v := 0) hx hb dX9_paidBy_2 (by decide) ?_
  refine lv_istore_n (lv' := [(3, .int 0), (2, .int 0), (0, .ref (r 0)), (1, .int p0)]) hx hb dX9_paidBy_3 rfl hl (by decide) rfl (fun ls hl => ?_)
  have L4 : ∀ (N4 : Nat) (y4_2 y4_3 : Int32) (H4 : Heap) (locs : List Loc) (ls : Array Slot) (g4_0 : (0 : Int) ≤ y4_3.toInt) (g4_1 : y4_3.toInt ≤ (5 : Int)) (hP : va_P (dC, dI) vwCl (WM r ct i_taped i_size i_faultKind i_at i_end i_token i_number i_bank i_rb i_codes i_within i_piled i_unitsInRule i_askHouse i_askTune i_acts i_undone i_laid i_knowns i_time f_text f_tunes f_houses f_hums f_told f_many f_ruleFrom f_ruleTo f_code f_eWhat f_eSign f_all f_kept f_was f_sTune f_boxAll J L) H4) (hS : va_S (fun q => s.heap.size ≤ q) s.heap H4 locs) (hl : lv_has ls 4 [(0, .ref (r 0)), (1, .int p0), (2, .int y4_2), (3, .int y4_3)]) (hM : -1 * y4_3.toInt + 5 < (N4 : Int)), W p l e { frames := 4, cells := 0, slots := 0, locals := 160 } s m ([.ref (r 0), .int p0] : List Value).toArray below meth c0 H4 locs 0 0 Q (F0 m 4 ls []) := by
    intro N4
    induction N4 with
    | zero =>
      intro y4_2 y4_3 H4 locs ls g4_0 g4_1 hP hS hl hM
      exact ((ob_777 hM g4_0 g4_1)).elim
    | succ N4 ih4 =>
      intro y4_2 y4_3 H4 locs ls g4_0 g4_1 hP hS hl hM
      have hM4 := msucc hM
      refine lv_iload_n hx hb dX9_paidBy_4 rfl (lv_at hl 3 rfl) ?_
      refine lv_aload_n hx hb dX9_paidBy_5 rfl (lv_at hl 0 rfl) ?_
      refine va_calli (va_runV (As := []) (rest := [.int y4_3]) ⟨hx, hb, hml, hown, hG⟩ (kX9_songs l dC dI r ct i_taped i_size i_faultKind i_at i_end i_token i_number i_bank i_rb i_codes i_within i_piled i_unitsInRule i_askHouse i_askTune i_acts i_undone i_laid i_knowns i_time f_text f_tunes f_houses f_hums f_told f_many f_ruleFrom f_ruleTo f_code f_eWhat f_eSign f_all f_kept f_was f_sTune f_boxAll J L H4.size hI) (cwV 0 hG (goodV gw1512 gw1514 gw86 gw138 gw1515) rfl rfl rfl hd_X9_songs ⟨(Nat.le_of_ble_eq_true rfl), (Nat.le_of_ble_eq_true rfl)⟩) ⟨fbR, va_recv hK hP (ci := 8) (q0 := 0) rfl rfl, pR_in hP hK⟩ rfl rfl hl.1 rfl (lv_room (Nat.le_of_ble_eq_true rfl)) dX9_paidBy_6 ⟨(Nat.le_of_ble_eq_true rfl), (Nat.le_of_ble_eq_true rfl)⟩) hS (fun q hq h => absurd hq (Nat.not_lt.mpr h)) (fun q h => Nat.le_trans hS.1 h) (fun r_4 u_ t_ H3 locs ht hvm hw hB hz1 hk1 hS => ?_)
      subst hw
      have hP := wk hP hk1
      have f5 := hB
      have f6 : r_4.toInt = (f_tunes (i_bank.toInt).toNat).toInt := (ob_6 f5)
      refine lv_icmp_ge (tgt := 48) hx hb dX9_paidBy_9 (by decide) (fun c_7 => ?_) (fun c_7 => ?_)
      · skip
        have f8 : r_4.toInt ≤ y4_3.toInt := qi_le c_7 rfl rfl
        refine lv_iload_n hx hb dX9_paidBy_48 rfl (lv_at hl 2 rfl) ?_
        rw [hQ]
        exact W.iret (v := y4_2) hx hb hr (fun t ht hW => ⟨⟨y4_2, y4_2, rfl, rfl, trivial⟩, hS.F ht⟩) hS.2.2 dX9_paidBy_49
      · skip
        have f9 : y4_3.toInt < r_4.toInt := qi_nle c_7 rfl rfl
        refine lv_aload_n hx hb dX9_paidBy_12 rfl (lv_at hl 0 rfl) ?_
        refine gM_X9_88_0 hx hb hG hown hK hP dX9_paidBy_13 ?_
        refine lv_iconst (v := 0) hx hb dX9_paidBy_16 (by decide) ?_
        refine lv_iload_n hx hb dX9_paidBy_17 rfl (lv_at hl 3 rfl) ?_
        refine lv_iadd hx hb dX9_paidBy_18 ?_
        refine lv_topi (fun x10 ex10 => ?_)
        have f11 : x10.toInt = y4_3.toInt := (ob_801 (qi_add ex10 zc_0 rfl (ob_799 g4_0) (ob_800 g4_1)))
        refine ldM_25 (mm := y4_3.toInt) hx hb hK hP f11 (ob_350 g4_0) (ob_802 g4_1) dX9_paidBy_19 ?_
        refine lv_iload_n hx hb dX9_paidBy_20 rfl (lv_at hl 1 rfl) ?_
        refine lv_icmp_ne (tgt := 42) hx hb dX9_paidBy_21 (by decide) (fun c_12 => ?_) (fun c_12 => ?_)
        · skip
          have f13 : (f_all (y4_3.toInt).toNat).toInt ≠ p0.toInt := qi_ne c_12 rfl rfl
          obtain ⟨x14, ex14⟩ : ∃ y : Int32, y = y4_3 + Int32.ofInt 1 := ⟨_, rfl⟩
          have f15 : x14.toInt = y4_3.toInt + 1 := (ob_142 (qi_add ex14 rfl (by decide) (ob_140 g4_0) (ob_804 g4_1)))
          refine lv_iinc (v := x14) (lv' := [(3, .int x14), (0, .ref (r 0)), (1, .int p0), (2, .int y4_2)]) hx hb dX9_paidBy_42 hl (k := 3) rfl ex14.symm (by decide) rfl (fun ls hl => ?_)
          refine lv_goto (tgt := 4) hx hb dX9_paidBy_45 (by decide) ?_
          exact ih4 y4_2 x14 H3 _ _ (ob_149 g4_0 f15) (ob_1047 f1 f9 f6 f15) hP hS (lv_sub hl [1, 2, 3, 0] rfl) (ob_806 hM4 f15)
        · skip
          have f16 : (f_all (y4_3.toInt).toNat).toInt = p0.toInt := qi_eq c_12 rfl rfl
          refine lv_aload_n hx hb dX9_paidBy_24 rfl (lv_at hl 0 rfl) ?_
          refine gM_X9_88_0 hx hb hG hown hK hP dX9_paidBy_25 ?_
          refine lv_iconst (v := 5) hx hb dX9_paidBy_28 (by decide) ?_
          refine lv_iload_n hx hb dX9_paidBy_29 rfl (lv_at hl 3 rfl) ?_
          refine lv_iadd hx hb dX9_paidBy_30 ?_
          refine lv_topi (fun x17 ex17 => ?_)
          have f18 : x17.toInt = y4_3.toInt + 5 := (ob_1036 (qi_add ex17 zc_5 rfl (ob_1049 g4_0) (ob_1050 g4_1)))
          refine ldM_25 (mm := y4_3.toInt + 5) hx hb hK hP f18 (ob_1051 g4_0) (ob_1052 g4_1) dX9_paidBy_31 ?_
          refine lv_iconst (v := 1) hx hb dX9_paidBy_32 (by decide) ?_
          refine lv_icmp_ne (tgt := 42) hx hb dX9_paidBy_33 (by decide) (fun c_19 => ?_) (fun c_19 => ?_)
          · skip
            have f20 : (f_all (y4_3.toInt + 5).toNat).toInt ≠ 1 := qi_ne c_19 rfl zc_1
            obtain ⟨x21, ex21⟩ : ∃ y : Int32, y = y4_3 + Int32.ofInt 1 := ⟨_, rfl⟩
            have f22 : x21.toInt = y4_3.toInt + 1 := (ob_142 (qi_add ex21 rfl (by decide) (ob_140 g4_0) (ob_804 g4_1)))
            refine lv_iinc (v := x21) (lv' := [(3, .int x21), (0, .ref (r 0)), (1, .int p0), (2, .int y4_2)]) hx hb dX9_paidBy_42 hl (k := 3) rfl ex21.symm (by decide) rfl (fun ls hl => ?_)
            refine lv_goto (tgt := 4) hx hb dX9_paidBy_45 (by decide) ?_
            exact ih4 y4_2 x21 H3 _ _ (ob_149 g4_0 f22) (ob_1047 f1 f9 f6 f22) hP hS (lv_sub hl [1, 2, 3, 0] rfl) (ob_806 hM4 f22)
          · skip
            have f23 : (f_all (y4_3.toInt + 5).toNat).toInt = 1 := qi_eq c_19 rfl zc_1
            refine lv_iload_n hx hb dX9_paidBy_36 rfl (lv_at hl 2 rfl) ?_
            refine lv_iconst (v := 1) hx hb dX9_paidBy_37 (by decide) ?_
            refine lv_iload_n hx hb dX9_paidBy_38 rfl (lv_at hl 3 rfl) ?_
            refine lv_ishl hx hb dX9_paidBy_39 ?_
            refine lv_topi (fun x24 ex24 => ?_)
            refine lv_ior hx hb dX9_paidBy_40 ?_
            refine lv_topi (fun x25 ex25 => ?_)
            refine lv_istore_n (lv' := [(2, .int x25), (0, .ref (r 0)), (1, .int p0), (3, .int y4_3)]) hx hb dX9_paidBy_41 rfl hl (by decide) rfl (fun ls hl => ?_)
            obtain ⟨x26, ex26⟩ : ∃ y : Int32, y = y4_3 + Int32.ofInt 1 := ⟨_, rfl⟩
            have f27 : x26.toInt = y4_3.toInt + 1 := (ob_142 (qi_add ex26 rfl (by decide) (ob_140 g4_0) (ob_804 g4_1)))
            refine lv_iinc (v := x26) (lv' := [(3, .int x26), (2, .int x25), (0, .ref (r 0)), (1, .int p0)]) hx hb dX9_paidBy_42 hl (k := 3) rfl ex26.symm (by decide) rfl (fun ls hl => ?_)
            refine lv_goto (tgt := 4) hx hb dX9_paidBy_45 (by decide) ?_
            exact ih4 x25 x26 H3 _ _ (ob_149 g4_0 f27) (ob_1047 f1 f9 f6 f27) hP hS (lv_sub hl [2, 3, 1, 0] rfl) (ob_806 hM4 f27)
  exact L4 (-1 * (0 : Int32).toInt + 5 + 1).toNat 0 0 s.heap _ _ (ob_1 zc_0) (ob_807 zc_0) hP hS (lv_sub hl [2, 3, 1, 0] rfl) (mlt (ob_808 zc_0))
set_option maxHeartbeats 4000000 in
set_option maxRecDepth 100000 in
theorem kX9_house (l : Launch) (dC : Nat → ClassId) (dI : Nat → Nat → Nat) (r : Nat → Nat) (ct : Nat → ClassId) (i_taped i_size i_faultKind i_at i_end i_token i_number i_bank i_rb i_codes i_within i_piled i_unitsInRule i_askHouse i_askTune i_acts i_undone i_laid i_knowns i_time : Int32) (f_text f_tunes f_houses f_hums f_told f_many f_ruleFrom f_ruleTo f_code f_eWhat f_eSign f_all f_kept f_was f_sTune f_boxAll : Nat → Int32) (J : Nat → Nat → Int32) (L : Nat → Nat → Int64) (p0 p1 : Int32) (sz : Nat) (hI : (IM i_taped i_size i_faultKind i_at i_end i_bank i_rb i_acts i_undone i_laid i_knowns i_time f_tunes f_houses f_hums f_told f_many f_ruleFrom f_ruleTo f_code f_all f_kept f_was f_sTune f_boxAll)) : Met l yX9_house (.code yX9_house cX9_house 3 (some .int) :: GW) { frames := 6, cells := 0, slots := 0, locals := 223 } (va_Pc [.ref (r 0), .int p0, .int p1] (pR (dC, dI) (WM r ct i_taped i_size i_faultKind i_at i_end i_token i_number i_bank i_rb i_codes i_within i_piled i_unitsInRule i_askHouse i_askTune i_acts i_undone i_laid i_knowns i_time f_text f_tunes f_houses f_hums f_told f_many f_ruleFrom f_ruleTo f_code f_eWhat f_eSign f_all f_kept f_was f_sTune f_boxAll J L) (TM ct) sz)) (va_Qi (fun (r0 : Int32) (u : Int32) => r0 = u) (fun (u : Int32) (t : State) => True) (fun q => sz ≤ q)) 0 0 (fun q => sz ≤ q) := by
  refine Met.ofW (cc := cX9_house) (maxL := 3) (ret := (some .int)) (by decide) rfl ?_
  intro p e s m args below meth c0 s₁ B hml hv
  obtain ⟨rfl, hsz, hP, hK⟩ := hv
  have hx := B.exec
  have hb := B.bytes
  have hr := B.returns
  have hts := atoms_spec (ws := .code yX9_house cX9_house 3 (some .int) :: GW) B.pre
  have hG : ∀ w ∈ GW, w.before _ s = true := fun w h => hts w (List.mem_cons_of_mem _ h)
  have hown : s.vm.findClass RX9 = some m.cls := findClass_of_methodNamed B.named
  subst hsz
  have hS : va_S (fun q => s.heap.size ≤ q) s.heap s.heap [] := va_S.rf
  have hP : va_P (dC, dI) vwCl (WM r ct i_taped i_size i_faultKind i_at i_end i_token i_number i_bank i_rb i_codes i_within i_piled i_unitsInRule i_askHouse i_askTune i_acts i_undone i_laid i_knowns i_time f_text f_tunes f_houses f_hums f_told f_many f_ruleFrom f_ruleTo f_code f_eWhat f_eSign f_all f_kept f_was f_sTune f_boxAll J L) s.heap := hP
  have hl := lv_entry ([.ref (r 0), .int p0, .int p1]) (n := 3) (Nat.le_of_ble_eq_true rfl)
  rw [lg_entry_eq]
  generalize (lg_sl ([.ref (r 0), .int p0, .int p1]) ++ List.replicate (3 - (lg_sl ([.ref (r 0), .int p0, .int p1])).length) Slot.unset).toArray = ls at hl ⊢
  have hl : lv_has ls 3 [(0, .ref (r 0)), (1, .int p0), (2, .int p1)] := hl
  refine nameQ (fun Q hQ => ?_)
  obtain ⟨ie0, ie1, ie2, ie3, ie4, ie5, ie6, ie7, ie8, ie9, ie10, ie11, ie12, ie13, ie14, ie15, ie16, ie17, ie18, ie19, ie20, ie21, ie22, ie23, ie24, ie25, ie26, ie27, ie28, ie29, ie30, ie31, ie32⟩ := id hI
  have f1 : 0 ≤ (f_tunes (i_bank.toInt).toNat).toInt ∧ (f_tunes (i_bank.toInt).toNat).toInt ≤ 5 := ie21 (i_bank.toInt)
  have f2 : 0 ≤ (f_houses (i_bank.toInt).toNat).toInt ∧ (f_houses (i_bank.toInt).toNat).toInt ≤ 4 := ie22 (i_bank.toInt)
  refine lv_aload_n hx hb dX9_house_0 rfl (lv_at hl 0 rfl) ?_
  refine lv_iload_n hx hb dX9_house_1 rfl (lv_at hl 1 rfl) ?_
  refine va_calli (va_runV (As := [.int p0]) (rest := []) ⟨hx, hb, hml, hown, hG⟩ (kX9_isHouse l dC dI r ct i_taped i_size i_faultKind i_at i_end i_token i_number i_bank i_rb i_codes i_within i_piled i_unitsInRule i_askHouse i_askTune i_acts i_undone i_laid i_knowns i_time f_text f_tunes f_houses f_hums f_told f_many f_ruleFrom f_ruleTo f_code f_eWhat f_eSign f_all f_kept f_was f_sTune f_boxAll J L p0 s.heap.size hI) (cwV 1 hG (goodV gw1542 gw1544 gw90 gw138 gw1545) rfl rfl rfl hd_X9_isHouse ⟨(Nat.le_of_ble_eq_true rfl), (Nat.le_of_ble_eq_true rfl)⟩) ⟨fbR, va_recv hK hP (ci := 8) (q0 := 0) rfl rfl, pR_in hP hK⟩ rfl rfl hl.1 rfl (lv_room (Nat.le_of_ble_eq_true rfl)) dX9_house_2 ⟨(Nat.le_of_ble_eq_true rfl), (Nat.le_of_ble_eq_true rfl)⟩) hS (fun q hq h => absurd hq (Nat.not_lt.mpr h)) (fun q h => Nat.le_trans hS.1 h) (fun r_4 u_ t_ H3 locs ht hvm hw hB hz1 hk1 hS => ?_)
  subst hw
  have hP := wk hP hk1
  obtain ⟨f5, f6, f7, f8, f9⟩ := hB
  refine lv_if_ne (tgt := 11) hx hb dX9_house_5 (by decide) (fun c_10 => ?_) (fun c_10 => ?_)
  · skip
    have f11 : r_4.toInt ≠ 0 := qi_ne c_10 rfl zc_0
    have f12 : (0 : Int) ≤ p0.toInt := (ob_1090 f5 f11)
    have f13 : p0.toInt + 1 ≤ (f_houses (i_bank.toInt).toNat).toInt := (ob_1091 f5 f11)
    have f14 : r_4.toInt = (1 : Int) := (ob_1092 f5 f11)
    have f15 : (1 : Int) ≤ r_4.toInt := (ob_395 f14)
    refine lv_iload_n hx hb dX9_house_11 rfl (lv_at hl 2 rfl) ?_
    rcases ts_0_3 p1 with hs16 | hs16 | hs16 | hs16 | hs16
    · skip
      refine lv_tableOut (tgt := 72) hx hb dX9_house_12 hs16 (by decide) ?_
      refine lv_bipush (v := (-2)) hx hb dX9_house_72 (by decide) ?_
      rw [hQ]
      exact W.iret (v := (-2)) hx hb hr (fun t ht hW => ⟨⟨(-2), (-2), rfl, rfl, trivial⟩, hS.F ht⟩) hS.2.2 dX9_house_74
    · skip
      refine lv_tableIn (off := 32) (tgt := 44) hx hb dX9_house_12 (by rw [hs16]; decide) (by rw [hs16]; decide) (by rw [hs16]; decide) (by decide) ?_
      have f17 : p1.toInt = 0 := qi_eq hs16 rfl zc_0
      refine lv_aload_n hx hb dX9_house_44 rfl (lv_at hl 0 rfl) ?_
      refine lv_iload_n hx hb dX9_house_45 rfl (lv_at hl 1 rfl) ?_
      refine va_calli (va_runV (As := [.int p0]) (rest := []) ⟨hx, hb, hml, hown, hG⟩ (kX9_placeOf l dC dI r ct i_taped i_size i_faultKind i_at i_end i_token i_number i_bank i_rb i_codes i_within i_piled i_unitsInRule i_askHouse i_askTune i_acts i_undone i_laid i_knowns i_time f_text f_tunes f_houses f_hums f_told f_many f_ruleFrom f_ruleTo f_code f_eWhat f_eSign f_all f_kept f_was f_sTune f_boxAll J L p0 H3.size hI (ob_880 f12 f13) (ob_898 f2 f12 f13)) (cwV 1 hG (goodV gw1546 gw1548 gw91 gw138 gw1549) rfl rfl rfl hd_X9_placeOf ⟨(Nat.le_of_ble_eq_true rfl), (Nat.le_of_ble_eq_true rfl)⟩) ⟨fbR, va_recv hK hP (ci := 8) (q0 := 0) rfl rfl, pR_in hP hK⟩ rfl rfl hl.1 rfl (lv_room (Nat.le_of_ble_eq_true rfl)) dX9_house_46 ⟨(Nat.le_of_ble_eq_true rfl), (Nat.le_of_ble_eq_true rfl)⟩) hS (fun q hq h => absurd hq (Nat.not_lt.mpr h)) (fun q h => Nat.le_trans hS.1 h) (fun r_19 u_ t_ H18 locs ht hvm hw hB hz1 hk1 hS => ?_)
      subst hw
      have hP := wk hP hk1
      rw [hQ]
      exact W.iret (v := r_19) hx hb hr (fun t ht hW => ⟨⟨r_19, r_19, rfl, rfl, trivial⟩, hS.F ht⟩) hS.2.2 dX9_house_49
    · skip
      refine lv_tableIn (off := 38) (tgt := 50) hx hb dX9_house_12 (by rw [hs16]; decide) (by rw [hs16]; decide) (by rw [hs16]; decide) (by decide) ?_
      have f20 : p1.toInt = 1 := qi_eq hs16 rfl zc_1
      refine lv_aload_n hx hb dX9_house_50 rfl (lv_at hl 0 rfl) ?_
      refine gM_X9_88_0 hx hb hG hown hK hP dX9_house_51 ?_
      refine lv_bipush (v := 20) hx hb dX9_house_54 (by decide) ?_
      refine lv_iload_n hx hb dX9_house_56 rfl (lv_at hl 1 rfl) ?_
      refine lv_iadd hx hb dX9_house_57 ?_
      refine lv_topi (fun x21 ex21 => ?_)
      have f22 : x21.toInt = p0.toInt + 20 := (ob_784 (qi_add ex21 zc_20 rfl (ob_921 f12 f13) (ob_1105 f2 f13)))
      refine ldM_25 (mm := p0.toInt + 20) hx hb hK hP f22 (ob_923 f12 f13) (ob_1106 f2 f13) dX9_house_58 ?_
      rw [hQ]
      exact W.iret (v := (f_all (p0.toInt + 20).toNat)) hx hb hr (fun t ht hW => ⟨⟨(f_all (p0.toInt + 20).toNat), (f_all (p0.toInt + 20).toNat), rfl, rfl, trivial⟩, hS.F ht⟩) hS.2.2 dX9_house_59
    · skip
      refine lv_tableIn (off := 48) (tgt := 60) hx hb dX9_house_12 (by rw [hs16]; decide) (by rw [hs16]; decide) (by rw [hs16]; decide) (by decide) ?_
      have f23 : p1.toInt = 2 := qi_eq hs16 rfl zc_2
      refine lv_aload_n hx hb dX9_house_60 rfl (lv_at hl 0 rfl) ?_
      refine lv_iload_n hx hb dX9_house_61 rfl (lv_at hl 1 rfl) ?_
      refine va_calli (va_runV (As := [.int p0]) (rest := []) ⟨hx, hb, hml, hown, hG⟩ (kX9_triedBy l dC dI r ct i_taped i_size i_faultKind i_at i_end i_token i_number i_bank i_rb i_codes i_within i_piled i_unitsInRule i_askHouse i_askTune i_acts i_undone i_laid i_knowns i_time f_text f_tunes f_houses f_hums f_told f_many f_ruleFrom f_ruleTo f_code f_eWhat f_eSign f_all f_kept f_was f_sTune f_boxAll J L p0 H3.size hI) (cwV 1 hG (goodV gw1550 gw1552 gw92 gw138 gw1553) rfl rfl rfl hd_X9_triedBy ⟨(Nat.le_of_ble_eq_true rfl), (Nat.le_of_ble_eq_true rfl)⟩) ⟨fbR, va_recv hK hP (ci := 8) (q0 := 0) rfl rfl, pR_in hP hK⟩ rfl rfl hl.1 rfl (lv_room (Nat.le_of_ble_eq_true rfl)) dX9_house_62 ⟨(Nat.le_of_ble_eq_true rfl), (Nat.le_of_ble_eq_true rfl)⟩) hS (fun q hq h => absurd hq (Nat.not_lt.mpr h)) (fun q h => Nat.le_trans hS.1 h) (fun r_25 u_ t_ H24 locs ht hvm hw hB hz1 hk1 hS => ?_)
      subst hw
      have hP := wk hP hk1
      obtain ⟨f26, f27, f28⟩ := hB
      have f29 : r_25.toInt = (trb f_all p0.toInt (f_tunes (i_bank.toInt).toNat).toInt (6 - ((0 : Int32).toInt)).toNat ((0 : Int32).toInt)) := (ob_6 f28)
      rw [hQ]
      exact W.iret (v := r_25) hx hb hr (fun t ht hW => ⟨⟨r_25, r_25, rfl, rfl, trivial⟩, hS.F ht⟩) hS.2.2 dX9_house_65
    · skip
      refine lv_tableIn (off := 54) (tgt := 66) hx hb dX9_house_12 (by rw [hs16]; decide) (by rw [hs16]; decide) (by rw [hs16]; decide) (by decide) ?_
      have f30 : p1.toInt = 3 := qi_eq hs16 rfl zc_3
      refine lv_aload_n hx hb dX9_house_66 rfl (lv_at hl 0 rfl) ?_
      refine lv_iload_n hx hb dX9_house_67 rfl (lv_at hl 1 rfl) ?_
      refine va_calli (va_runV (As := [.int p0]) (rest := []) ⟨hx, hb, hml, hown, hG⟩ (kX9_paidBy l dC dI r ct i_taped i_size i_faultKind i_at i_end i_token i_number i_bank i_rb i_codes i_within i_piled i_unitsInRule i_askHouse i_askTune i_acts i_undone i_laid i_knowns i_time f_text f_tunes f_houses f_hums f_told f_many f_ruleFrom f_ruleTo f_code f_eWhat f_eSign f_all f_kept f_was f_sTune f_boxAll J L p0 H3.size hI) (cwV 1 hG (goodV gw1554 gw1556 gw93 gw138 gw1557) rfl rfl rfl hd_X9_paidBy ⟨(Nat.le_of_ble_eq_true rfl), (Nat.le_of_ble_eq_true rfl)⟩) ⟨fbR, va_recv hK hP (ci := 8) (q0 := 0) rfl rfl, pR_in hP hK⟩ rfl rfl hl.1 rfl (lv_room (Nat.le_of_ble_eq_true rfl)) dX9_house_68 ⟨(Nat.le_of_ble_eq_true rfl), (Nat.le_of_ble_eq_true rfl)⟩) hS (fun q hq h => absurd hq (Nat.not_lt.mpr h)) (fun q h => Nat.le_trans hS.1 h) (fun r_32 u_ t_ H31 locs ht hvm hw hB hz1 hk1 hS => ?_)
      subst hw
      have hP := wk hP hk1
      rw [hQ]
      exact W.iret (v := r_32) hx hb hr (fun t ht hW => ⟨⟨r_32, r_32, rfl, rfl, trivial⟩, hS.F ht⟩) hS.2.2 dX9_house_71
  · skip
    have f33 : r_4.toInt = 0 := qi_eq c_10 rfl zc_0
    refine lv_bipush (v := (-2)) hx hb dX9_house_8 (by decide) ?_
    rw [hQ]
    exact W.iret (v := (-2)) hx hb hr (fun t ht hW => ⟨⟨(-2), (-2), rfl, rfl, trivial⟩, hS.F ht⟩) hS.2.2 dX9_house_10
