set_option maxHeartbeats 4000000 in
set_option maxRecDepth 100000 in
theorem kX9_purse (l : Launch) (dC : Nat → ClassId) (dI : Nat → Nat → Nat) (r : Nat → Nat) (ct : Nat → ClassId) (i_taped i_size i_faultKind i_at i_end i_token i_number i_bank i_rb i_codes i_within i_piled i_unitsInRule i_askHouse i_askTune i_acts i_undone i_laid i_knowns i_time : Int32) (f_text f_tunes f_houses f_hums f_told f_many f_ruleFrom f_ruleTo f_code f_eWhat f_eSign f_all f_kept f_was f_sTune f_boxAll : Nat → Int32) (J : Nat → Nat → Int32) (L : Nat → Nat → Int64) (p0 p1 : Int32) (sz : Nat) (hI : (IM i_taped i_size i_at i_end i_bank i_rb i_acts i_undone i_laid i_knowns i_time f_tunes f_houses f_hums f_told f_many f_ruleFrom f_ruleTo f_code f_all f_kept f_was f_sTune f_boxAll)) : Met l yX9_purse (.code yX9_purse cX9_purse 5 (some .int) :: GW) { frames := 24, cells := 0, slots := 0, locals := 794 } (va_Pc [.ref (r 0), .int p0, .int p1] (pW (dC, dI) (WM r ct i_taped i_size i_faultKind i_at i_end i_token i_number i_bank i_rb i_codes i_within i_piled i_unitsInRule i_askHouse i_askTune i_acts i_undone i_laid i_knowns i_time f_text f_tunes f_houses f_hums f_told f_many f_ruleFrom f_ruleTo f_code f_eWhat f_eSign f_all f_kept f_was f_sTune f_boxAll J L) (TM ct) sz)) (va_Qi (fun (r0 : Int32) (u : Int32) => r0 = u) (fun (u : Int32) (t : State) => ∃ (n_i_askHouse n_i_askTune : Int32) (n_f_all n_f_kept : Nat → Int32) (n_J : Nat → Nat → Int32), va_P (dC, dI) vwCl (WM r ct i_taped i_size i_faultKind i_at i_end i_token i_number i_bank i_rb i_codes i_within i_piled i_unitsInRule n_i_askHouse n_i_askTune i_acts i_undone i_laid i_knowns i_time f_text f_tunes f_houses f_hums f_told f_many f_ruleFrom f_ruleTo f_code f_eWhat f_eSign n_f_all n_f_kept f_was f_sTune f_boxAll n_J L) t.heap ∧ va_D (va_A (WM r ct i_taped i_size i_faultKind i_at i_end i_token i_number i_bank i_rb i_codes i_within i_piled i_unitsInRule i_askHouse i_askTune i_acts i_undone i_laid i_knowns i_time f_text f_tunes f_houses f_hums f_told f_many f_ruleFrom f_ruleTo f_code f_eWhat f_eSign f_all f_kept f_was f_sTune f_boxAll J L) sz) (WM r ct i_taped i_size i_faultKind i_at i_end i_token i_number i_bank i_rb i_codes i_within i_piled i_unitsInRule n_i_askHouse n_i_askTune i_acts i_undone i_laid i_knowns i_time f_text f_tunes f_houses f_hums f_told f_many f_ruleFrom f_ruleTo f_code f_eWhat f_eSign n_f_all n_f_kept f_was f_sTune f_boxAll n_J L) ∧ (IM i_taped i_size i_at i_end i_bank i_rb i_acts i_undone i_laid i_knowns i_time f_tunes f_houses f_hums f_told f_many f_ruleFrom f_ruleTo f_code n_f_all n_f_kept f_was f_sTune f_boxAll)) (va_A (WM r ct i_taped i_size i_faultKind i_at i_end i_token i_number i_bank i_rb i_codes i_within i_piled i_unitsInRule i_askHouse i_askTune i_acts i_undone i_laid i_knowns i_time f_text f_tunes f_houses f_hums f_told f_many f_ruleFrom f_ruleTo f_code f_eWhat f_eSign f_all f_kept f_was f_sTune f_boxAll J L) sz)) 0 0 (va_A (WM r ct i_taped i_size i_faultKind i_at i_end i_token i_number i_bank i_rb i_codes i_within i_piled i_unitsInRule i_askHouse i_askTune i_acts i_undone i_laid i_knowns i_time f_text f_tunes f_houses f_hums f_told f_many f_ruleFrom f_ruleTo f_code f_eWhat f_eSign f_all f_kept f_was f_sTune f_boxAll J L) sz) := by
  refine Met.ofW (cc := cX9_purse) (maxL := 5) (ret := (some .int)) (by decide) rfl ?_
  intro p e s m args below meth c0 s₁ B hml hv
  obtain ⟨rfl, hsz, hP, hK, hD0⟩ := hv
  have hx := B.exec
  have hb := B.bytes
  have hr := B.returns
  have hts := atoms_spec (ws := .code yX9_purse cX9_purse 5 (some .int) :: GW) B.pre
  have hG : ∀ w ∈ GW, w.before _ s = true := fun w h => hts w (List.mem_cons_of_mem _ h)
  have hown : s.vm.findClass RX9 = some m.cls := findClass_of_methodNamed B.named
  subst hsz
  have hD := hD0.self (sz := s.heap.size)
  generalize hAe : va_A (WM r ct i_taped i_size i_faultKind i_at i_end i_token i_number i_bank i_rb i_codes i_within i_piled i_unitsInRule i_askHouse i_askTune i_acts i_undone i_laid i_knowns i_time f_text f_tunes f_houses f_hums f_told f_many f_ruleFrom f_ruleTo f_code f_eWhat f_eSign f_all f_kept f_was f_sTune f_boxAll J L) s.heap.size = A at hD ⊢
  have hA : ∀ q : Nat, s.heap.size ≤ q → A q := fun q h => by rw [← hAe]; exact Or.inr h
  have hS : va_S A s.heap s.heap [] := va_S.rf
  have hP : va_P (dC, dI) vwCl (WM r ct i_taped i_size i_faultKind i_at i_end i_token i_number i_bank i_rb i_codes i_within i_piled i_unitsInRule i_askHouse i_askTune i_acts i_undone i_laid i_knowns i_time f_text f_tunes f_houses f_hums f_told f_many f_ruleFrom f_ruleTo f_code f_eWhat f_eSign f_all f_kept f_was f_sTune f_boxAll J L) s.heap := hP
  have hl := lv_entry ([.ref (r 0), .int p0, .int p1]) (n := 5) (Nat.le_of_ble_eq_true rfl)
  rw [lg_entry_eq]
  generalize (lg_sl ([.ref (r 0), .int p0, .int p1]) ++ List.replicate (5 - (lg_sl ([.ref (r 0), .int p0, .int p1])).length) Slot.unset).toArray = ls at hl ⊢
  have hl : lv_has ls 5 [(0, .ref (r 0)), (1, .int p0), (2, .int p1)] := hl
  refine nameQ (fun Q hQ => ?_)
  obtain ⟨im0, im1, im2, im3, im4, im5, im6, im7, im8, im9, im10, im11, im12, im13, im14, im15, im16, im17, im18, im19, im20, im21, im22, im23, im24, im25, im26, im27, im28, im29, im30⟩ := id hI
  have f1 : 0 ≤ (f_tunes (i_bank.toInt).toNat).toInt ∧ (f_tunes (i_bank.toInt).toNat).toInt ≤ 5 := im20 (i_bank.toInt)
  have f2 : 0 ≤ (f_houses (i_bank.toInt).toNat).toInt ∧ (f_houses (i_bank.toInt).toNat).toInt ≤ 4 := im21 (i_bank.toInt)
  refine lv_aload_n hx hb dX9_purse_0 rfl (lv_at hl 0 rfl) ?_
  refine lv_iload_n hx hb dX9_purse_1 rfl (lv_at hl 1 rfl) ?_
  refine va_calli (va_runV (As := [.int p0]) (rest := []) ⟨hx, hb, hml, hown, hG⟩ (kX9_isHouse l dC dI r ct i_taped i_size i_faultKind i_at i_end i_token i_number i_bank i_rb i_codes i_within i_piled i_unitsInRule i_askHouse i_askTune i_acts i_undone i_laid i_knowns i_time f_text f_tunes f_houses f_hums f_told f_many f_ruleFrom f_ruleTo f_code f_eWhat f_eSign f_all f_kept f_was f_sTune f_boxAll J L p0 s.heap.size hI) (cwV 1 hG (goodV gw1542 gw1544 gw90 gw138 gw1545) rfl rfl rfl hd_X9_isHouse ⟨(Nat.le_of_ble_eq_true rfl), (Nat.le_of_ble_eq_true rfl)⟩) ⟨fbR, va_recv hK hP (ci := 8) (q0 := 0) rfl rfl, pR_in hP hK⟩ rfl rfl hl.1 rfl (lv_room (Nat.le_of_ble_eq_true rfl)) dX9_purse_2 ⟨(Nat.le_of_ble_eq_true rfl), (Nat.le_of_ble_eq_true rfl)⟩) hS (fun q hq h => absurd hq (Nat.not_lt.mpr h)) (fun q h => hA q (Nat.le_trans hS.1 h)) (fun r_4 u_ t_ H3 locs ht hvm hw hB hz1 hk1 hS => ?_)
  subst hw
  have hP := wk hP hk1
  obtain ⟨f5, f6, f7, f8, f9⟩ := hB
  refine lv_if_eq (tgt := 18) hx hb dX9_purse_5 (by decide) (fun c_10 => ?_) (fun c_10 => ?_)
  · skip
    have f11 : r_4.toInt = 0 := qi_eq c_10 rfl zc_0
    refine lv_iconst (v := (-1)) hx hb dX9_purse_18 (by decide) ?_
    rw [hQ]
    exact W.iret (v := (-1)) hx hb hr (fun t ht hW => ⟨⟨(-1), (-1), rfl, rfl, ⟨i_askHouse, i_askTune, f_all, f_kept, J, by rw [ht]; exact hP, hD, hI⟩⟩, hS.F ht⟩) hS.2.2 dX9_purse_19
  · skip
    have f12 : r_4.toInt ≠ 0 := qi_ne c_10 rfl zc_0
    have f13 : 1 ≤ r_4.toInt := (ob_399 f5 f12)
    have f14 : 0 ≤ p0.toInt := (ob_400 f5 f12)
    have f15 : p0.toInt + 1 ≤ (f_houses (i_bank.toInt).toNat).toInt := (ob_401 f5 f12)
    have f16 : r_4.toInt = 1 := (ob_402 f7 f13)
    refine lv_iload_n hx hb dX9_purse_8 rfl (lv_at hl 2 rfl) ?_
    refine lv_iconst (v := 0) hx hb dX9_purse_9 (by decide) ?_
    refine lv_bipush (v := 60) hx hb dX9_purse_10 (by decide) ?_
    refine va_calli (va_runS (As := [.int p1, .int 0, .int 60]) (rest := []) ⟨hx, hb, hml, hown, hG⟩ (kX9_isIn l dC dI p1 0 60 H3.size) (va_cwS 3 hG (goodS gw1516 gw1517 gw138 gw1518) rfl rfl rfl hd_X9_isIn ⟨(Nat.le_of_ble_eq_true rfl), (Nat.le_of_ble_eq_true rfl)⟩) ⟨fbR, pR_in emptyP (emptyK hK)⟩ rfl rfl hl.1 rfl (lv_room (Nat.le_of_ble_eq_true rfl)) dX9_purse_12 ⟨(Nat.le_of_ble_eq_true rfl), (Nat.le_of_ble_eq_true rfl)⟩) hS (fun q hq h => absurd hq (Nat.not_lt.mpr h)) (fun q h => hA q (Nat.le_trans hS.1 h)) (fun r_18 u_ t_ H17 locs ht hvm hw hB hz1 hk1 hS => ?_)
    subst hw
    have hP := wk hP hk1
    obtain ⟨f19, f20, f21⟩ := hB
    refine lv_if_ne (tgt := 20) hx hb dX9_purse_15 (by decide) (fun c_22 => ?_) (fun c_22 => ?_)
    · skip
      have f23 : r_18.toInt ≠ 0 := qi_ne c_22 rfl zc_0
      have f24 : 1 ≤ r_18.toInt := (ob_539 f19 f23 zc_60 zc_0)
      have f25 : 0 ≤ p1.toInt := (ob_540 f19 f23 zc_60 zc_0)
      have f26 : p1.toInt ≤ 60 := (ob_541 f19 f23 zc_60 zc_0)
      have f27 : r_18.toInt = 1 := (ob_167 f20 f21 f24)
      refine lv_aload_n hx hb dX9_purse_20 rfl (lv_at hl 0 rfl) ?_
      have hFc := frA hD hS hA
      refine va_callv (va_runV (As := []) (rest := []) ⟨hx, hb, hml, hown, hG⟩ (kX9_keepNow l dC dI r ct i_taped i_size i_faultKind i_at i_end i_token i_number i_bank i_rb i_codes i_within i_piled i_unitsInRule i_askHouse i_askTune i_acts i_undone i_laid i_knowns i_time f_text f_tunes f_houses f_hums f_told f_many f_ruleFrom f_ruleTo f_code f_eWhat f_eSign f_all f_kept f_was f_sTune f_boxAll J L H17.size hI) (cwV 0 hG (goodV gw1736 gw1738 gw113 gw138 gw1739) rfl rfl rfl hd_X9_keepNow ⟨(Nat.le_of_ble_eq_true rfl), (Nat.le_of_ble_eq_true rfl)⟩) ⟨fbW, va_recv hK hP (ci := 8) (q0 := 0) rfl rfl, pW_in hP hK hD⟩ rfl rfl hl.1 rfl (lv_room (Nat.le_of_ble_eq_true rfl)) dX9_purse_21 ⟨(Nat.le_of_ble_eq_true rfl), (Nat.le_of_ble_eq_true rfl)⟩) hS (fun q _ h => hFc q h) hFc (fun _ t_ H28 locs ht hvm hw hB hz1 hk1 hS => ?_)
      obtain ⟨z30, hP1, hD1, hI31⟩ := hB
      rw [ht] at hP1
      have hP := hP1
      have hD := dW hFc hD1
      obtain ⟨im32, im33, im34, im35, im36, im37, im38, im39, im40, im41, im42, im43, im44, im45, im46, im47, im48, im49, im50, im51, im52, im53, im54, im55, im56, im57, im58, im59, im60, im61, im62⟩ := id hI31
      refine lv_iconst (v := 0) hx hb dX9_purse_24 (by decide) ?_
      refine lv_istore_n (lv' := [(3, .int 0), (0, .ref (r 0)), (1, .int p0), (2, .int p1)]) hx hb dX9_purse_25 rfl hl (by decide) rfl (fun ls hl => ?_)
      refine lv_iconst (v := 0) hx hb dX9_purse_26 (by decide) ?_
      refine lv_istore (lv' := [(4, .int 0), (3, .int 0), (0, .ref (r 0)), (1, .int p0), (2, .int p1)]) hx hb dX9_purse_27 hl (by decide) rfl (fun ls hl => ?_)
      have L29 : ∀ (N29 : Nat) (y29_3 y29_4 : Int32) (m29_i_askHouse m29_i_askTune : Int32) (m29_f_all : Nat → Int32) (m29_J : Nat → Nat → Int32) (H29 : Heap) (locs : List Loc) (ls : Array Slot) (g29_0 : 0 ≤ y29_4.toInt) (g29_1 : y29_4.toInt ≤ 60) (gi29_all_p : EW m29_f_all) (hP : va_P (dC, dI) vwCl (WM r ct i_taped i_size i_faultKind i_at i_end i_token i_number i_bank i_rb i_codes i_within i_piled i_unitsInRule m29_i_askHouse m29_i_askTune i_acts i_undone i_laid i_knowns i_time f_text f_tunes f_houses f_hums f_told f_many f_ruleFrom f_ruleTo f_code f_eWhat f_eSign m29_f_all z30 f_was f_sTune f_boxAll m29_J L) H29) (hD : va_D A (WM r ct i_taped i_size i_faultKind i_at i_end i_token i_number i_bank i_rb i_codes i_within i_piled i_unitsInRule m29_i_askHouse m29_i_askTune i_acts i_undone i_laid i_knowns i_time f_text f_tunes f_houses f_hums f_told f_many f_ruleFrom f_ruleTo f_code f_eWhat f_eSign m29_f_all z30 f_was f_sTune f_boxAll m29_J L)) (hS : va_S A s.heap H29 locs) (hl : lv_has ls 5 [(0, .ref (r 0)), (1, .int p0), (2, .int p1), (3, .int y29_3), (4, .int y29_4)]) (hM : -1 * y29_4.toInt + 60 < (N29 : Int)), W p l e { frames := 24, cells := 0, slots := 0, locals := 794 } s m ([.ref (r 0), .int p0, .int p1] : List Value).toArray below meth c0 H29 locs 0 0 Q (F0 m 29 ls []) := by
        intro N29
        induction N29 with
        | zero =>
          intro y29_3 y29_4 m29_i_askHouse m29_i_askTune m29_f_all m29_J H29 locs ls g29_0 g29_1 gi29_all_p hP hD hS hl hM
          exact ((ob_542 hM g29_0 g29_1)).elim
        | succ N29 ih29 =>
          intro y29_3 y29_4 m29_i_askHouse m29_i_askTune m29_f_all m29_J H29 locs ls g29_0 g29_1 gi29_all_p hP hD hS hl hM
          have hM29 := msucc hM
          refine lv_iload hx hb dX9_purse_29 (lv_at hl 4 rfl) ?_
          refine lv_iload_n hx hb dX9_purse_31 rfl (lv_at hl 2 rfl) ?_
          refine lv_icmp_ge (tgt := 49) hx hb dX9_purse_32 (by decide) (fun c_63 => ?_) (fun c_63 => ?_)
          · skip
            have f64 : p1.toInt ≤ y29_4.toInt := qi_le c_63 rfl rfl
            refine lv_aload_n hx hb dX9_purse_49 rfl (lv_at hl 0 rfl) ?_
            refine gM_X9_88_0 hx hb hG hown hK hP dX9_purse_50 ?_
            refine lv_bipush (v := 20) hx hb dX9_purse_53 (by decide) ?_
            refine lv_iload_n hx hb dX9_purse_55 rfl (lv_at hl 1 rfl) ?_
            refine lv_iadd hx hb dX9_purse_56 ?_
            refine lv_topi (fun x65 ex65 => ?_)
            have f66 : x65.toInt = p0.toInt + 20 := (ob_176 (qi_add ex65 zc_20 rfl (ob_174 f14 f15) (ob_415 f2 f15)))
            refine ldM_25 (mm := p0.toInt + 20) hx hb hK hP f66 (ob_177 f14 f15) (ob_416 f2 f15) dX9_purse_57 ?_
            refine lv_istore (lv' := [(4, .int (m29_f_all (p0.toInt + 20).toNat)), (0, .ref (r 0)), (1, .int p0), (2, .int p1), (3, .int y29_3)]) hx hb dX9_purse_58 hl (by decide) rfl (fun ls hl => ?_)
            refine lv_aload_n hx hb dX9_purse_60 rfl (lv_at hl 1 rfl) ?_
            have hFc := frA hD hS hA
            refine va_callv (va_runV (As := []) (rest := []) ⟨hx, hb, hml, hown, hG⟩ (kX9_bringBack l dC dI r ct i_taped i_size i_faultKind i_at i_end i_token i_number i_bank i_rb i_codes i_within i_piled i_unitsInRule m29_i_askHouse m29_i_askTune i_acts i_undone i_laid i_knowns i_time f_text f_tunes f_houses f_hums f_told f_many f_ruleFrom f_ruleTo f_code f_eWhat f_eSign m29_f_all z30 f_was f_sTune f_boxAll m29_J L H29.size ⟨im0, im1, im2, im3, im4, im5, im6, im7, im8, im9, im10, im11, im12, im13, im14, im15, im16, im17, im18, im19, im20, im21, im22, im23, im24, gi29_all_p, im58, im27, im28, im29, im30⟩) (cwV 0 hG (goodV gw1740 gw1742 gw114 gw138 gw1743) rfl rfl rfl hd_X9_bringBack ⟨(Nat.le_of_ble_eq_true rfl), (Nat.le_of_ble_eq_true rfl)⟩) ⟨fbW, va_recv hK hP (ci := 8) (q0 := 0) rfl rfl, pW_in hP hK hD⟩ rfl rfl hl.1 rfl (lv_room (Nat.le_of_ble_eq_true rfl)) dX9_purse_61 ⟨(Nat.le_of_ble_eq_true rfl), (Nat.le_of_ble_eq_true rfl)⟩) hS (fun q _ h => hFc q h) hFc (fun _ t_ H67 locs ht hvm hw hB hz1 hk1 hS => ?_)
            obtain ⟨z69, hP1, hD1, hI70⟩ := hB
            rw [ht] at hP1
            have hP := hP1
            have hD := dW hFc hD1
            obtain ⟨im71, im72, im73, im74, im75, im76, im77, im78, im79, im80, im81, im82, im83, im84, im85, im86, im87, im88, im89, im90, im91, im92, im93, im94, im95, im96, im97, im98, im99, im100, im101⟩ := id hI70
            refine lv_iload hx hb dX9_purse_64 (lv_at hl 0 rfl) ?_
            rw [hQ]
            exact W.iret (v := (m29_f_all (p0.toInt + 20).toNat)) hx hb hr (fun t ht hW => ⟨⟨(m29_f_all (p0.toInt + 20).toNat), (m29_f_all (p0.toInt + 20).toNat), rfl, rfl, ⟨m29_i_askHouse, m29_i_askTune, z69, z30, m29_J, by rw [ht]; exact hP, hD, hI70⟩⟩, hS.F ht⟩) hS.2.2 dX9_purse_66
          · skip
            have f102 : y29_4.toInt < p1.toInt := qi_nle c_63 rfl rfl
            refine lv_iload_n hx hb dX9_purse_35 rfl (lv_at hl 3 rfl) ?_
            refine lv_aload_n hx hb dX9_purse_36 rfl (lv_at hl 0 rfl) ?_
            refine lv_iconst (v := 0) hx hb dX9_purse_37 (by decide) ?_
            have hFc := frA hD hS hA
            refine va_calli (va_runV (As := [.int 0]) (rest := [.int y29_3]) ⟨hx, hb, hml, hown, hG⟩ (kX9_goWeek l dC dI r ct i_taped i_size i_faultKind i_at i_end i_token i_number i_bank i_rb i_codes i_within i_piled i_unitsInRule m29_i_askHouse m29_i_askTune i_acts i_undone i_laid i_knowns i_time f_text f_tunes f_houses f_hums f_told f_many f_ruleFrom f_ruleTo f_code f_eWhat f_eSign m29_f_all z30 f_was f_sTune f_boxAll m29_J L 0 H29.size ⟨im0, im1, im2, im3, im4, im5, im6, im7, im8, im9, im10, im11, im12, im13, im14, im15, im16, im17, im18, im19, im20, im21, im22, im23, im24, gi29_all_p, im58, im27, im28, im29, im30⟩ (ob_544 zc_0)) (cwV 1 hG (goodV gw1688 gw1690 gw108 gw138 gw1691) rfl rfl rfl hd_X9_goWeek ⟨(Nat.le_of_ble_eq_true rfl), (Nat.le_of_ble_eq_true rfl)⟩) ⟨fbW, va_recv hK hP (ci := 8) (q0 := 0) rfl rfl, pW_in hP hK hD⟩ rfl rfl hl.1 rfl (lv_room (Nat.le_of_ble_eq_true rfl)) dX9_purse_38 ⟨(Nat.le_of_ble_eq_true rfl), (Nat.le_of_ble_eq_true rfl)⟩) hS (fun q _ h => hFc q h) hFc (fun r_104 u_ t_ H103 locs ht hvm hw hB hz1 hk1 hS => ?_)
            subst hw
            obtain ⟨x105, x106, z107, J108, hP1, hD1, hI109⟩ := hB
            rw [ht] at hP1
            have hP := hP1
            have hD := dW hFc hD1
            obtain ⟨im110, im111, im112, im113, im114, im115, im116, im117, im118, im119, im120, im121, im122, im123, im124, im125, im126, im127, im128, im129, im130, im131, im132, im133, im134, im135, im136, im137, im138, im139, im140⟩ := id hI109
            refine lv_iadd hx hb dX9_purse_41 ?_
            refine lv_topi (fun x141 ex141 => ?_)
            refine lv_istore_n (lv' := [(3, .int x141), (0, .ref (r 0)), (1, .int p0), (2, .int p1), (4, .int y29_4)]) hx hb dX9_purse_42 rfl hl (by decide) rfl (fun ls hl => ?_)
            obtain ⟨x142, ex142⟩ : ∃ y : Int32, y = y29_4 + Int32.ofInt 1 := ⟨_, rfl⟩
            have f143 : x142.toInt = y29_4.toInt + 1 := (ob_139 (qi_add ex142 rfl (by decide) (ob_137 g29_0) (ob_545 g29_1)))
            refine lv_iinc (v := x142) (lv' := [(4, .int x142), (3, .int x141), (0, .ref (r 0)), (1, .int p0), (2, .int p1)]) hx hb dX9_purse_43 hl (k := 4) rfl ex142.symm (by decide) rfl (fun ls hl => ?_)
            refine lv_goto (tgt := 29) hx hb dX9_purse_46 (by decide) ?_
            exact ih29 x141 x142 x105 x106 z107 J108 H103 _ _ (ob_140 g29_0 f143) (ob_546 f26 f102 f143) im135 hP hD hS (lv_sub hl [2, 3, 4, 1, 0] rfl) (ob_547 hM29 f143)
      exact L29 (-1 * (0 : Int32).toInt + 60 + 1).toNat 0 0 i_askHouse i_askTune f_all J H28 _ _ (ob_5 zc_0) (ob_548 zc_0) im25 hP hD hS (lv_sub hl [2, 3, 4, 1, 0] rfl) (mlt (ob_549 zc_0))
    · skip
      have f144 : r_18.toInt = 0 := qi_eq c_22 rfl zc_0
      refine lv_iconst (v := (-1)) hx hb dX9_purse_18 (by decide) ?_
      rw [hQ]
      exact W.iret (v := (-1)) hx hb hr (fun t ht hW => ⟨⟨(-1), (-1), rfl, rfl, ⟨i_askHouse, i_askTune, f_all, f_kept, J, by rw [ht]; exact hP, hD, hI⟩⟩, hS.F ht⟩) hS.2.2 dX9_purse_19
set_option maxHeartbeats 4000000 in
set_option maxRecDepth 100000 in
theorem kX9_lies (l : Launch) (dC : Nat → ClassId) (dI : Nat → Nat → Nat) (r : Nat → Nat) (ct : Nat → ClassId) (i_taped i_size i_faultKind i_at i_end i_token i_number i_bank i_rb i_codes i_within i_piled i_unitsInRule i_askHouse i_askTune i_acts i_undone i_laid i_knowns i_time : Int32) (f_text f_tunes f_houses f_hums f_told f_many f_ruleFrom f_ruleTo f_code f_eWhat f_eSign f_all f_kept f_was f_sTune f_boxAll : Nat → Int32) (J : Nat → Nat → Int32) (L : Nat → Nat → Int64) (p0 : Int32) (sz : Nat) (hI : (IM i_taped i_size i_at i_end i_bank i_rb i_acts i_undone i_laid i_knowns i_time f_tunes f_houses f_hums f_told f_many f_ruleFrom f_ruleTo f_code f_all f_kept f_was f_sTune f_boxAll)) : Met l yX9_lies (.code yX9_lies cX9_lies 2 (some .int) :: GW) { frames := 4, cells := 0, slots := 0, locals := 162 } (va_Pc [.ref (r 0), .int p0] (pR (dC, dI) (WM r ct i_taped i_size i_faultKind i_at i_end i_token i_number i_bank i_rb i_codes i_within i_piled i_unitsInRule i_askHouse i_askTune i_acts i_undone i_laid i_knowns i_time f_text f_tunes f_houses f_hums f_told f_many f_ruleFrom f_ruleTo f_code f_eWhat f_eSign f_all f_kept f_was f_sTune f_boxAll J L) (TM ct) sz)) (va_Qi (fun (r0 : Int32) (u : Int32) => r0 = u) (fun (u : Int32) (t : State) => True) (fun q => sz ≤ q)) 0 0 (fun q => sz ≤ q) := by
  refine Met.ofW (cc := cX9_lies) (maxL := 2) (ret := (some .int)) (by decide) rfl ?_
  intro p e s m args below meth c0 s₁ B hml hv
  obtain ⟨rfl, hsz, hP, hK⟩ := hv
  have hx := B.exec
  have hb := B.bytes
  have hr := B.returns
  have hts := atoms_spec (ws := .code yX9_lies cX9_lies 2 (some .int) :: GW) B.pre
  have hG : ∀ w ∈ GW, w.before _ s = true := fun w h => hts w (List.mem_cons_of_mem _ h)
  have hown : s.vm.findClass RX9 = some m.cls := findClass_of_methodNamed B.named
  subst hsz
  have hS : va_S (fun q => s.heap.size ≤ q) s.heap s.heap [] := va_S.rf
  have hP : va_P (dC, dI) vwCl (WM r ct i_taped i_size i_faultKind i_at i_end i_token i_number i_bank i_rb i_codes i_within i_piled i_unitsInRule i_askHouse i_askTune i_acts i_undone i_laid i_knowns i_time f_text f_tunes f_houses f_hums f_told f_many f_ruleFrom f_ruleTo f_code f_eWhat f_eSign f_all f_kept f_was f_sTune f_boxAll J L) s.heap := hP
  have hl := lv_entry ([.ref (r 0), .int p0]) (n := 2) (Nat.le_of_ble_eq_true rfl)
  rw [lg_entry_eq]
  generalize (lg_sl ([.ref (r 0), .int p0]) ++ List.replicate (2 - (lg_sl ([.ref (r 0), .int p0])).length) Slot.unset).toArray = ls at hl ⊢
  have hl : lv_has ls 2 [(0, .ref (r 0)), (1, .int p0)] := hl
  refine nameQ (fun Q hQ => ?_)
  obtain ⟨im0, im1, im2, im3, im4, im5, im6, im7, im8, im9, im10, im11, im12, im13, im14, im15, im16, im17, im18, im19, im20, im21, im22, im23, im24, im25, im26, im27, im28, im29, im30⟩ := id hI
  have f1 : 0 ≤ (f_tunes (i_bank.toInt).toNat).toInt ∧ (f_tunes (i_bank.toInt).toNat).toInt ≤ 5 := im20 (i_bank.toInt)
  have f2 : 0 ≤ (f_houses (i_bank.toInt).toNat).toInt ∧ (f_houses (i_bank.toInt).toNat).toInt ≤ 4 := im21 (i_bank.toInt)
  refine lv_iload_n hx hb dX9_lies_0 rfl (lv_at hl 1 rfl) ?_
  refine lv_iconst (v := 0) hx hb dX9_lies_1 (by decide) ?_
  refine lv_aload_n hx hb dX9_lies_2 rfl (lv_at hl 0 rfl) ?_
  refine gM_X9_373_0 hx hb hG hown hK hP dX9_lies_3 ?_
  refine lv_iconst (v := 1) hx hb dX9_lies_6 (by decide) ?_
  refine lv_isub hx hb dX9_lies_7 ?_
  refine lv_topi (fun x3 ex3 => ?_)
  have f4 : x3.toInt = i_laid.toInt + (-1) := (ob_217 (qi_sub ex3 rfl zc_1 (ob_550 im8 im9) (ob_551 im8 im9)))
  refine va_calli (va_runS (As := [.int p0, .int 0, .int x3]) (rest := []) ⟨hx, hb, hml, hown, hG⟩ (kX9_isIn l dC dI p0 0 x3 s.heap.size) (va_cwS 3 hG (goodS gw1516 gw1517 gw138 gw1518) rfl rfl rfl hd_X9_isIn ⟨(Nat.le_of_ble_eq_true rfl), (Nat.le_of_ble_eq_true rfl)⟩) ⟨fbR, pR_in emptyP (emptyK hK)⟩ rfl rfl hl.1 rfl (lv_room (Nat.le_of_ble_eq_true rfl)) dX9_lies_8 ⟨(Nat.le_of_ble_eq_true rfl), (Nat.le_of_ble_eq_true rfl)⟩) hS (fun q hq h => absurd hq (Nat.not_lt.mpr h)) (fun q h => Nat.le_trans hS.1 h) (fun r_6 u_ t_ H5 locs ht hvm hw hB hz1 hk1 hS => ?_)
  subst hw
  have hP := wk hP hk1
  obtain ⟨f7, f8, f9⟩ := hB
  refine lv_if_eq (tgt := 23) hx hb dX9_lies_11 (by decide) (fun c_10 => ?_) (fun c_10 => ?_)
  · skip
    have f11 : r_6.toInt = 0 := qi_eq c_10 rfl zc_0
    refine lv_bipush (v := (-2)) hx hb dX9_lies_23 (by decide) ?_
    rw [hQ]
    exact W.iret (v := (-2)) hx hb hr (fun t ht hW => ⟨⟨(-2), (-2), rfl, rfl, trivial⟩, hS.F ht⟩) hS.2.2 dX9_lies_25
  · skip
    have f12 : r_6.toInt ≠ 0 := qi_ne c_10 rfl zc_0
    have f13 : 1 ≤ r_6.toInt := (ob_411 f7 f12 f4 zc_0)
    have f14 : 0 ≤ p0.toInt := (ob_412 f7 f12 f4 zc_0)
    have f15 : p0.toInt + 1 ≤ i_laid.toInt := (ob_413 f7 f12 f4 zc_0)
    have f16 : r_6.toInt = 1 := (ob_167 f8 f9 f13)
    refine lv_aload_n hx hb dX9_lies_14 rfl (lv_at hl 0 rfl) ?_
    refine gM_X9_97_0 hx hb hG hown hK hP dX9_lies_15 ?_
    refine lv_iload_n hx hb dX9_lies_18 rfl (lv_at hl 1 rfl) ?_
    refine ldM_28 (mm := p0.toInt) hx hb hK hP rfl (ob_108 f14 f15) (ob_552 im9 f15) dX9_lies_19 (fun x17 => ?_)
    refine lv_goto (tgt := 25) hx hb dX9_lies_20 (by decide) ?_
    rw [hQ]
    exact W.iret (v := x17) hx hb hr (fun t ht hW => ⟨⟨x17, x17, rfl, rfl, trivial⟩, hS.F ht⟩) hS.2.2 dX9_lies_25
set_option maxHeartbeats 4000000 in
set_option maxRecDepth 100000 in
theorem kX9_power_v1 (l : Launch) (dC : Nat → ClassId) (dI : Nat → Nat → Nat) (p0 p1 : Int32) (sz : Nat) (hp0 : 1 ≤ p0.toInt) (hp1 : p0.toInt ≤ 6) (hp2 : 0 ≤ p1.toInt) (hp3 : p1.toInt ≤ 4) : Met l yX9_power (.code yX9_power cX9_power 4 (some .int) :: GW) { frames := 2, cells := 0, slots := 0, locals := 100 } (va_Pc [.int p0, .int p1] (pR (dC, dI) [] [] sz)) (va_Qi (fun (r0 : Int32) (u : Int32) => r0 = u) (fun (u : Int32) (t : State) => (u.toInt = (pw p0.toInt (p1.toInt).toNat)) ∧ (1 ≤ (pw p0.toInt (p1.toInt).toNat)) ∧ ((pw p0.toInt (p1.toInt).toNat) ≤ 1296)) (fun q => sz ≤ q)) 0 0 (fun q => sz ≤ q) := by
  refine Met.ofW (cc := cX9_power) (maxL := 4) (ret := (some .int)) (by decide) rfl ?_
  intro p e s m args below meth c0 s₁ B hml hv
  obtain ⟨rfl, hsz, hP, hK⟩ := hv
  have hx := B.exec
  have hb := B.bytes
  have hr := B.returns
  have hts := atoms_spec (ws := .code yX9_power cX9_power 4 (some .int) :: GW) B.pre
  have hG : ∀ w ∈ GW, w.before _ s = true := fun w h => hts w (List.mem_cons_of_mem _ h)
  have hown : s.vm.findClass RX9 = some m.cls := findClass_of_methodNamed B.named
  subst hsz
  have hS : va_S (fun q => s.heap.size ≤ q) s.heap s.heap [] := va_S.rf
  have hP : va_P (dC, dI) vwCl [] s.heap := hP
  have hl := lv_entry ([.int p0, .int p1]) (n := 4) (Nat.le_of_ble_eq_true rfl)
  rw [lg_entry_eq]
  generalize (lg_sl ([.int p0, .int p1]) ++ List.replicate (4 - (lg_sl ([.int p0, .int p1])).length) Slot.unset).toArray = ls at hl ⊢
  have hl : lv_has ls 4 [(0, .int p0), (1, .int p1)] := hl
  refine nameQ (fun Q hQ => ?_)
  refine lv_iconst (v := 1) hx hb dX9_power_0 (by decide) ?_
  refine lv_istore_n (lv' := [(2, .int 1), (0, .int p0), (1, .int p1)]) hx hb dX9_power_1 rfl hl (by decide) rfl (fun ls hl => ?_)
  refine lv_iconst (v := 0) hx hb dX9_power_2 (by decide) ?_
  refine lv_istore_n (lv' := [(3, .int 0), (2, .int 1), (0, .int p0), (1, .int p1)]) hx hb dX9_power_3 rfl hl (by decide) rfl (fun ls hl => ?_)
  refine lv_iload_n hx hb dX9_power_4 rfl (lv_at hl 0 rfl) ?_
  refine lv_iload_n hx hb dX9_power_5 rfl (lv_at hl 3 rfl) ?_
  refine lv_icmp_ge (tgt := 19) hx hb dX9_power_6 (by decide) (fun c_1 => ?_) (fun c_1 => ?_)
  · skip
    have f2 : p1.toInt ≤ 0 := qi_le c_1 rfl zc_0
    refine lv_iload_n hx hb dX9_power_19 rfl (lv_at hl 1 rfl) ?_
    have f3 : (pw p0.toInt (p1.toInt).toNat) = 1 := pw_0 (ob_247 hp2 hp3 f2)
    rw [hQ]
    exact W.iret (v := 1) hx hb hr (fun t ht hW => ⟨⟨1, 1, rfl, rfl, ⟨(ob_248 f3 zc_1), (ob_229 f3), (ob_553 f3)⟩⟩, hS.F ht⟩) hS.2.2 dX9_power_20
  · skip
    have f4 : 0 < p1.toInt := qi_nle c_1 rfl zc_0
    refine lv_iload_n hx hb dX9_power_9 rfl (lv_at hl 1 rfl) ?_
    refine lv_iload_n hx hb dX9_power_10 rfl (lv_at hl 2 rfl) ?_
    refine lv_imul hx hb dX9_power_11 ?_
    refine lv_topi (fun x5 ex5 => ?_)
    have f6 : x5.toInt = p0.toInt := (ob_252 (qi_mul ex5 zc_1 rfl (ob_554 hp0 hp1) (ob_555 hp0 hp1)))
    refine lv_istore_n (lv' := [(2, .int x5), (3, .int 0), (0, .int p0), (1, .int p1)]) hx hb dX9_power_12 rfl hl (by decide) rfl (fun ls hl => ?_)
    refine lv_iinc (v := 1) (lv' := [(3, .int 1), (2, .int x5), (0, .int p0), (1, .int p1)]) hx hb dX9_power_13 hl (k := 1) rfl (by decide) (by decide) rfl (fun ls hl => ?_)
    refine lv_goto (tgt := 4) hx hb dX9_power_16 (by decide) ?_
    refine lv_iload_n hx hb dX9_power_4 rfl (lv_at hl 0 rfl) ?_
    refine lv_iload_n hx hb dX9_power_5 rfl (lv_at hl 3 rfl) ?_
    refine lv_icmp_ge (tgt := 19) hx hb dX9_power_6 (by decide) (fun c_7 => ?_) (fun c_7 => ?_)
    · skip
      have f8 : p1.toInt ≤ 1 := qi_le c_7 rfl zc_1
      refine lv_iload_n hx hb dX9_power_19 rfl (lv_at hl 1 rfl) ?_
      have f9 : (pw p0.toInt (p1.toInt).toNat) = p0.toInt := pw_1 (ob_253 f4 f8)
      rw [hQ]
      exact W.iret (v := x5) hx hb hr (fun t ht hW => ⟨⟨x5, x5, rfl, rfl, ⟨(ob_556 hp0 hp1 f9 f6), (ob_557 hp0 hp1 f9), (ob_558 hp0 hp1 f9)⟩⟩, hS.F ht⟩) hS.2.2 dX9_power_20
    · skip
      have f10 : 1 < p1.toInt := qi_nle c_7 rfl zc_1
      refine lv_iload_n hx hb dX9_power_9 rfl (lv_at hl 1 rfl) ?_
      refine lv_iload_n hx hb dX9_power_10 rfl (lv_at hl 2 rfl) ?_
      refine lv_imul hx hb dX9_power_11 ?_
      refine lv_topi (fun x11 ex11 => ?_)
      have f12 : 1 * 1 ≤ x11.toInt ∧ x11.toInt ≤ 6 * 6 := qi_mulb ex11 (ob_557 hp0 hp1 f6) (ob_559 hp0 hp1 f6) (ob_560 hp0 hp1) (ob_561 hp0 hp1) (by decide) (by decide) (by decide)
      have f13 : x11.toInt = (p0.toInt * p0.toInt) := qi_mulx ex11 f6 rfl (ob_557 hp0 hp1 f6) (ob_559 hp0 hp1 f6) (ob_560 hp0 hp1) (ob_561 hp0 hp1) (by decide) (by decide) (by decide)
      refine lv_istore_n (lv' := [(2, .int x11), (3, .int 1), (0, .int p0), (1, .int p1)]) hx hb dX9_power_12 rfl hl (by decide) rfl (fun ls hl => ?_)
      refine lv_iinc (v := 2) (lv' := [(3, .int 2), (2, .int x11), (0, .int p0), (1, .int p1)]) hx hb dX9_power_13 hl (k := 1) rfl (by decide) (by decide) rfl (fun ls hl => ?_)
      refine lv_goto (tgt := 4) hx hb dX9_power_16 (by decide) ?_
      refine lv_iload_n hx hb dX9_power_4 rfl (lv_at hl 0 rfl) ?_
      refine lv_iload_n hx hb dX9_power_5 rfl (lv_at hl 3 rfl) ?_
      refine lv_icmp_ge (tgt := 19) hx hb dX9_power_6 (by decide) (fun c_14 => ?_) (fun c_14 => ?_)
      · skip
        have f15 : p1.toInt ≤ 2 := qi_le c_14 rfl zc_2
        refine lv_iload_n hx hb dX9_power_19 rfl (lv_at hl 1 rfl) ?_
        have f16 : (pw p0.toInt (p1.toInt).toNat) = (p0.toInt * p0.toInt) := pw_2 (ob_260 f10 f15)
        rw [hQ]
        exact W.iret (v := x11) hx hb hr (fun t ht hW => ⟨⟨x11, x11, rfl, rfl, ⟨(ob_562 f12 f16 f13), (ob_563 f12 f16 f13), (ob_564 f12 f16 f13)⟩⟩, hS.F ht⟩) hS.2.2 dX9_power_20
      · skip
        have f17 : 2 < p1.toInt := qi_nle c_14 rfl zc_2
        refine lv_iload_n hx hb dX9_power_9 rfl (lv_at hl 1 rfl) ?_
        refine lv_iload_n hx hb dX9_power_10 rfl (lv_at hl 2 rfl) ?_
        refine lv_imul hx hb dX9_power_11 ?_
        refine lv_topi (fun x18 ex18 => ?_)
        have f19 : 1 * 1 ≤ x18.toInt ∧ x18.toInt ≤ 36 * 6 := qi_mulb ex18 (ob_565 f12 f13) (ob_566 f12 f13) (ob_560 hp0 hp1) (ob_561 hp0 hp1) (by decide) (by decide) (by decide)
        have f20 : x18.toInt = ((p0.toInt * p0.toInt) * p0.toInt) := qi_mulx ex18 f13 rfl (ob_565 f12 f13) (ob_566 f12 f13) (ob_560 hp0 hp1) (ob_561 hp0 hp1) (by decide) (by decide) (by decide)
        refine lv_istore_n (lv' := [(2, .int x18), (3, .int 2), (0, .int p0), (1, .int p1)]) hx hb dX9_power_12 rfl hl (by decide) rfl (fun ls hl => ?_)
        refine lv_iinc (v := 3) (lv' := [(3, .int 3), (2, .int x18), (0, .int p0), (1, .int p1)]) hx hb dX9_power_13 hl (k := 1) rfl (by decide) (by decide) rfl (fun ls hl => ?_)
        refine lv_goto (tgt := 4) hx hb dX9_power_16 (by decide) ?_
        refine lv_iload_n hx hb dX9_power_4 rfl (lv_at hl 0 rfl) ?_
        refine lv_iload_n hx hb dX9_power_5 rfl (lv_at hl 3 rfl) ?_
        refine lv_icmp_ge (tgt := 19) hx hb dX9_power_6 (by decide) (fun c_21 => ?_) (fun c_21 => ?_)
        · skip
          have f22 : p1.toInt ≤ 3 := qi_le c_21 rfl zc_3
          refine lv_iload_n hx hb dX9_power_19 rfl (lv_at hl 1 rfl) ?_
          have f23 : (pw p0.toInt (p1.toInt).toNat) = ((p0.toInt * p0.toInt) * p0.toInt) := pw_3 (ob_266 f17 f22)
          rw [hQ]
          exact W.iret (v := x18) hx hb hr (fun t ht hW => ⟨⟨x18, x18, rfl, rfl, ⟨(ob_567 f19 f23 f20), (ob_568 f19 f23 f20), (ob_569 f19 f23 f20)⟩⟩, hS.F ht⟩) hS.2.2 dX9_power_20
        · skip
          have f24 : 3 < p1.toInt := qi_nle c_21 rfl zc_3
          refine lv_iload_n hx hb dX9_power_9 rfl (lv_at hl 1 rfl) ?_
          refine lv_iload_n hx hb dX9_power_10 rfl (lv_at hl 2 rfl) ?_
          refine lv_imul hx hb dX9_power_11 ?_
          refine lv_topi (fun x25 ex25 => ?_)
          have f26 : 1 * 1 ≤ x25.toInt ∧ x25.toInt ≤ 216 * 6 := qi_mulb ex25 (ob_570 f19 f20) (ob_571 f19 f20) (ob_560 hp0 hp1) (ob_561 hp0 hp1) (by decide) (by decide) (by decide)
          have f27 : x25.toInt = (((p0.toInt * p0.toInt) * p0.toInt) * p0.toInt) := qi_mulx ex25 f20 rfl (ob_570 f19 f20) (ob_571 f19 f20) (ob_560 hp0 hp1) (ob_561 hp0 hp1) (by decide) (by decide) (by decide)
          refine lv_istore_n (lv' := [(2, .int x25), (3, .int 3), (0, .int p0), (1, .int p1)]) hx hb dX9_power_12 rfl hl (by decide) rfl (fun ls hl => ?_)
          refine lv_iinc (v := 4) (lv' := [(3, .int 4), (2, .int x25), (0, .int p0), (1, .int p1)]) hx hb dX9_power_13 hl (k := 1) rfl (by decide) (by decide) rfl (fun ls hl => ?_)
          refine lv_goto (tgt := 4) hx hb dX9_power_16 (by decide) ?_
          refine lv_iload_n hx hb dX9_power_4 rfl (lv_at hl 0 rfl) ?_
          refine lv_iload_n hx hb dX9_power_5 rfl (lv_at hl 3 rfl) ?_
          refine lv_icmp_ge (tgt := 19) hx hb dX9_power_6 (by decide) (fun c_28 => ?_) (fun c_28 => ((ob_272 (qi_nle c_28 rfl zc_4) hp3)).elim)
          have f29 : p1.toInt ≤ 4 := qi_le c_28 rfl zc_4
          refine lv_iload_n hx hb dX9_power_19 rfl (lv_at hl 1 rfl) ?_
          have f30 : (pw p0.toInt (p1.toInt).toNat) = (((p0.toInt * p0.toInt) * p0.toInt) * p0.toInt) := pw_4 (ob_273 hp3 f24)
          rw [hQ]
          exact W.iret (v := x25) hx hb hr (fun t ht hW => ⟨⟨x25, x25, rfl, rfl, ⟨(ob_572 f26 f30 f27), (ob_573 f26 f30 f27), (ob_574 f26 f30 f27)⟩⟩, hS.F ht⟩) hS.2.2 dX9_power_20
set_option maxHeartbeats 4000000 in
set_option maxRecDepth 100000 in
theorem kX9_digit (l : Launch) (dC : Nat → ClassId) (dI : Nat → Nat → Nat) (r : Nat → Nat) (ct : Nat → ClassId) (i_taped i_size i_faultKind i_at i_end i_token i_number i_bank i_rb i_codes i_within i_piled i_unitsInRule i_askHouse i_askTune i_acts i_undone i_laid i_knowns i_time : Int32) (f_text f_tunes f_houses f_hums f_told f_many f_ruleFrom f_ruleTo f_code f_eWhat f_eSign f_all f_kept f_was f_sTune f_boxAll : Nat → Int32) (J : Nat → Nat → Int32) (L : Nat → Nat → Int64) (p0 p1 p2 : Int32) (sz : Nat) (hI : (IM i_taped i_size i_at i_end i_bank i_rb i_acts i_undone i_laid i_knowns i_time f_tunes f_houses f_hums f_told f_many f_ruleFrom f_ruleTo f_code f_all f_kept f_was f_sTune f_boxAll)) (hp0 : 1 ≤ p1.toInt) (hp1 : p1.toInt ≤ 6) (hp2 : 0 ≤ p2.toInt) (hp3 : p2.toInt + 1 ≤ (f_houses (i_bank.toInt).toNat).toInt) : Met l yX9_digit (.code yX9_digit cX9_digit 4 (some .int) :: GW) { frames := 4, cells := 0, slots := 0, locals := 163 } (va_Pc [.ref (r 0), .int p0, .int p1, .int p2] (pR (dC, dI) (WM r ct i_taped i_size i_faultKind i_at i_end i_token i_number i_bank i_rb i_codes i_within i_piled i_unitsInRule i_askHouse i_askTune i_acts i_undone i_laid i_knowns i_time f_text f_tunes f_houses f_hums f_told f_many f_ruleFrom f_ruleTo f_code f_eWhat f_eSign f_all f_kept f_was f_sTune f_boxAll J L) (TM ct) sz)) (va_Qi (fun (r0 : Int32) (u : Int32) => r0 = u) (fun (u : Int32) (t : State) => True) (fun q => sz ≤ q)) 0 0 (fun q => sz ≤ q) := by
  refine Met.ofW (cc := cX9_digit) (maxL := 4) (ret := (some .int)) (by decide) rfl ?_
  intro p e s m args below meth c0 s₁ B hml hv
  obtain ⟨rfl, hsz, hP, hK⟩ := hv
  have hx := B.exec
  have hb := B.bytes
  have hr := B.returns
  have hts := atoms_spec (ws := .code yX9_digit cX9_digit 4 (some .int) :: GW) B.pre
  have hG : ∀ w ∈ GW, w.before _ s = true := fun w h => hts w (List.mem_cons_of_mem _ h)
  have hown : s.vm.findClass RX9 = some m.cls := findClass_of_methodNamed B.named
  subst hsz
  have hS : va_S (fun q => s.heap.size ≤ q) s.heap s.heap [] := va_S.rf
  have hP : va_P (dC, dI) vwCl (WM r ct i_taped i_size i_faultKind i_at i_end i_token i_number i_bank i_rb i_codes i_within i_piled i_unitsInRule i_askHouse i_askTune i_acts i_undone i_laid i_knowns i_time f_text f_tunes f_houses f_hums f_told f_many f_ruleFrom f_ruleTo f_code f_eWhat f_eSign f_all f_kept f_was f_sTune f_boxAll J L) s.heap := hP
  have hl := lv_entry ([.ref (r 0), .int p0, .int p1, .int p2]) (n := 4) (Nat.le_of_ble_eq_true rfl)
  rw [lg_entry_eq]
  generalize (lg_sl ([.ref (r 0), .int p0, .int p1, .int p2]) ++ List.replicate (4 - (lg_sl ([.ref (r 0), .int p0, .int p1, .int p2])).length) Slot.unset).toArray = ls at hl ⊢
  have hl : lv_has ls 4 [(0, .ref (r 0)), (1, .int p0), (2, .int p1), (3, .int p2)] := hl
  refine nameQ (fun Q hQ => ?_)
  obtain ⟨im0, im1, im2, im3, im4, im5, im6, im7, im8, im9, im10, im11, im12, im13, im14, im15, im16, im17, im18, im19, im20, im21, im22, im23, im24, im25, im26, im27, im28, im29, im30⟩ := id hI
  have f1 : 0 ≤ (f_tunes (i_bank.toInt).toNat).toInt ∧ (f_tunes (i_bank.toInt).toNat).toInt ≤ 5 := im20 (i_bank.toInt)
  have f2 : 0 ≤ (f_houses (i_bank.toInt).toNat).toInt ∧ (f_houses (i_bank.toInt).toNat).toInt ≤ 4 := im21 (i_bank.toInt)
  refine lv_iload_n hx hb dX9_digit_0 rfl (lv_at hl 1 rfl) ?_
  refine lv_iload_n hx hb dX9_digit_1 rfl (lv_at hl 2 rfl) ?_
  refine lv_aload_n hx hb dX9_digit_2 rfl (lv_at hl 0 rfl) ?_
  refine va_calli (va_runV (As := []) (rest := [.int p1, .int p0]) ⟨hx, hb, hml, hown, hG⟩ (kX9_homes l dC dI r ct i_taped i_size i_faultKind i_at i_end i_token i_number i_bank i_rb i_codes i_within i_piled i_unitsInRule i_askHouse i_askTune i_acts i_undone i_laid i_knowns i_time f_text f_tunes f_houses f_hums f_told f_many f_ruleFrom f_ruleTo f_code f_eWhat f_eSign f_all f_kept f_was f_sTune f_boxAll J L s.heap.size hI) (cwV 0 hG (goodV gw1167 gw1169 gw58 gw138 gw1170) rfl rfl rfl hd_X9_homes ⟨(Nat.le_of_ble_eq_true rfl), (Nat.le_of_ble_eq_true rfl)⟩) ⟨fbR, va_recv hK hP (ci := 8) (q0 := 0) rfl rfl, pR_in hP hK⟩ rfl rfl hl.1 rfl (lv_room (Nat.le_of_ble_eq_true rfl)) dX9_digit_3 ⟨(Nat.le_of_ble_eq_true rfl), (Nat.le_of_ble_eq_true rfl)⟩) hS (fun q hq h => absurd hq (Nat.not_lt.mpr h)) (fun q h => Nat.le_trans hS.1 h) (fun r_4 u_ t_ H3 locs ht hvm hw hB hz1 hk1 hS => ?_)
  subst hw
  have hP := wk hP hk1
  have f5 := hB
  have f6 : r_4.toInt = (f_houses (i_bank.toInt).toNat).toInt := (ob_278 f5)
  refine lv_iconst (v := 1) hx hb dX9_digit_6 (by decide) ?_
  refine lv_isub hx hb dX9_digit_7 ?_
  refine lv_topi (fun x7 ex7 => ?_)
  have f8 : x7.toInt = (f_houses (i_bank.toInt).toNat).toInt + (-1) := (ob_281 (qi_sub ex7 rfl zc_1 (ob_575 f2 hp3 f6) (ob_576 f2 hp3 f6)) f6)
  refine lv_iload_n hx hb dX9_digit_8 rfl (lv_at hl 3 rfl) ?_
  refine lv_isub hx hb dX9_digit_9 ?_
  refine lv_topi (fun x9 ex9 => ?_)
  have f10 : x9.toInt = (f_houses (i_bank.toInt).toNat).toInt + -1 * p2.toInt + (-1) := (ob_431 (qi_sub ex9 rfl rfl (ob_577 f2 hp2 hp3 f8) (ob_578 f2 hp2 hp3 f8)) f8)
  refine va_calli (va_runS (As := [.int p1, .int x9]) (rest := [.int p0]) ⟨hx, hb, hml, hown, hG⟩ (kX9_power_v1 l dC dI p1 x9 H3.size (ob_560 hp0 hp1) (ob_561 hp0 hp1) (ob_579 f2 hp2 hp3 f10) (ob_580 f2 hp2 hp3 f10)) (va_cwS 2 hG (goodS gw1756 gw1757 gw138 gw1758) rfl rfl rfl hd_X9_power ⟨(Nat.le_of_ble_eq_true rfl), (Nat.le_of_ble_eq_true rfl)⟩) ⟨fbR, pR_in emptyP (emptyK hK)⟩ rfl rfl hl.1 rfl (lv_room (Nat.le_of_ble_eq_true rfl)) dX9_digit_10 ⟨(Nat.le_of_ble_eq_true rfl), (Nat.le_of_ble_eq_true rfl)⟩) hS (fun q hq h => absurd hq (Nat.not_lt.mpr h)) (fun q h => Nat.le_trans hS.1 h) (fun r_12 u_ t_ H11 locs ht hvm hw hB hz1 hk1 hS => ?_)
  subst hw
  have hP := wk hP hk1
  obtain ⟨f13, f14, f15⟩ := hB
  have f16 : (pw p1.toInt (x9.toInt).toNat) = (pw p1.toInt (((f_houses (i_bank.toInt).toNat).toInt + -1 * p2.toInt + (-1))).toNat) := by rw [f10]
  have f17 : r_12.toInt = (pw p1.toInt (((f_houses (i_bank.toInt).toNat).toInt + -1 * p2.toInt + (-1))).toNat) := (ob_581 f13 f16)
  refine lv_idiv hx hb dX9_digit_13 (qi_nz (ob_582 f16 f14 f15 f17)) ?_
  refine lv_topi (fun x18 ex18 => ?_)
  refine lv_iload_n hx hb dX9_digit_14 rfl (lv_at hl 2 rfl) ?_
  refine lv_irem hx hb dX9_digit_15 (qi_nz (ob_560 hp0 hp1)) ?_
  refine lv_topi (fun x19 ex19 => ?_)
  rw [hQ]
  exact W.iret (v := x19) hx hb hr (fun t ht hW => ⟨⟨x19, x19, rfl, rfl, trivial⟩, hS.F ht⟩) hS.2.2 dX9_digit_16
set_option maxHeartbeats 4000000 in
set_option maxRecDepth 100000 in
theorem kX9_digit_v1 (l : Launch) (dC : Nat → ClassId) (dI : Nat → Nat → Nat) (r : Nat → Nat) (ct : Nat → ClassId) (i_taped i_size i_faultKind i_at i_end i_token i_number i_bank i_rb i_codes i_within i_piled i_unitsInRule i_askHouse i_askTune i_acts i_undone i_laid i_knowns i_time : Int32) (f_text f_tunes f_houses f_hums f_told f_many f_ruleFrom f_ruleTo f_code f_eWhat f_eSign f_all f_kept f_was f_sTune f_boxAll : Nat → Int32) (J : Nat → Nat → Int32) (L : Nat → Nat → Int64) (p0 p1 p2 : Int32) (sz : Nat) (hI : (IM i_taped i_size i_at i_end i_bank i_rb i_acts i_undone i_laid i_knowns i_time f_tunes f_houses f_hums f_told f_many f_ruleFrom f_ruleTo f_code f_all f_kept f_was f_sTune f_boxAll)) (hp0 : 1 ≤ p1.toInt) (hp1 : p1.toInt ≤ 6) (hp2 : 0 ≤ p2.toInt) (hp3 : p2.toInt + 1 ≤ (f_houses (i_bank.toInt).toNat).toInt) (hp4 : 0 ≤ p0.toInt) (hp5 : p0.toInt ≤ 2147483647) : Met l yX9_digit (.code yX9_digit cX9_digit 4 (some .int) :: GW) { frames := 4, cells := 0, slots := 0, locals := 163 } (va_Pc [.ref (r 0), .int p0, .int p1, .int p2] (pR (dC, dI) (WM r ct i_taped i_size i_faultKind i_at i_end i_token i_number i_bank i_rb i_codes i_within i_piled i_unitsInRule i_askHouse i_askTune i_acts i_undone i_laid i_knowns i_time f_text f_tunes f_houses f_hums f_told f_many f_ruleFrom f_ruleTo f_code f_eWhat f_eSign f_all f_kept f_was f_sTune f_boxAll J L) (TM ct) sz)) (va_Qi (fun (r0 : Int32) (u : Int32) => r0 = u) (fun (u : Int32) (t : State) => (u.toInt = ((p0.toInt / (pw p1.toInt (((f_houses (i_bank.toInt).toNat).toInt + -1 * p2.toInt + (-1))).toNat)) % p1.toInt)) ∧ (0 ≤ ((p0.toInt / (pw p1.toInt (((f_houses (i_bank.toInt).toNat).toInt + -1 * p2.toInt + (-1))).toNat)) % p1.toInt)) ∧ (((p0.toInt / (pw p1.toInt (((f_houses (i_bank.toInt).toNat).toInt + -1 * p2.toInt + (-1))).toNat)) % p1.toInt) + 1 ≤ p1.toInt) ∧ (((p0.toInt / (pw p1.toInt (((f_houses (i_bank.toInt).toNat).toInt + -1 * p2.toInt + (-1))).toNat)) % p1.toInt) ≤ (p0.toInt / (pw p1.toInt (((f_houses (i_bank.toInt).toNat).toInt + -1 * p2.toInt + (-1))).toNat)))) (fun q => sz ≤ q)) 0 0 (fun q => sz ≤ q) := by
  refine Met.ofW (cc := cX9_digit) (maxL := 4) (ret := (some .int)) (by decide) rfl ?_
  intro p e s m args below meth c0 s₁ B hml hv
  obtain ⟨rfl, hsz, hP, hK⟩ := hv
  have hx := B.exec
  have hb := B.bytes
  have hr := B.returns
  have hts := atoms_spec (ws := .code yX9_digit cX9_digit 4 (some .int) :: GW) B.pre
  have hG : ∀ w ∈ GW, w.before _ s = true := fun w h => hts w (List.mem_cons_of_mem _ h)
  have hown : s.vm.findClass RX9 = some m.cls := findClass_of_methodNamed B.named
  subst hsz
  have hS : va_S (fun q => s.heap.size ≤ q) s.heap s.heap [] := va_S.rf
  have hP : va_P (dC, dI) vwCl (WM r ct i_taped i_size i_faultKind i_at i_end i_token i_number i_bank i_rb i_codes i_within i_piled i_unitsInRule i_askHouse i_askTune i_acts i_undone i_laid i_knowns i_time f_text f_tunes f_houses f_hums f_told f_many f_ruleFrom f_ruleTo f_code f_eWhat f_eSign f_all f_kept f_was f_sTune f_boxAll J L) s.heap := hP
  have hl := lv_entry ([.ref (r 0), .int p0, .int p1, .int p2]) (n := 4) (Nat.le_of_ble_eq_true rfl)
  rw [lg_entry_eq]
  generalize (lg_sl ([.ref (r 0), .int p0, .int p1, .int p2]) ++ List.replicate (4 - (lg_sl ([.ref (r 0), .int p0, .int p1, .int p2])).length) Slot.unset).toArray = ls at hl ⊢
  have hl : lv_has ls 4 [(0, .ref (r 0)), (1, .int p0), (2, .int p1), (3, .int p2)] := hl
  refine nameQ (fun Q hQ => ?_)
  obtain ⟨im0, im1, im2, im3, im4, im5, im6, im7, im8, im9, im10, im11, im12, im13, im14, im15, im16, im17, im18, im19, im20, im21, im22, im23, im24, im25, im26, im27, im28, im29, im30⟩ := id hI
  have f1 : 0 ≤ (f_tunes (i_bank.toInt).toNat).toInt ∧ (f_tunes (i_bank.toInt).toNat).toInt ≤ 5 := im20 (i_bank.toInt)
  have f2 : 0 ≤ (f_houses (i_bank.toInt).toNat).toInt ∧ (f_houses (i_bank.toInt).toNat).toInt ≤ 4 := im21 (i_bank.toInt)
  refine lv_iload_n hx hb dX9_digit_0 rfl (lv_at hl 1 rfl) ?_
  refine lv_iload_n hx hb dX9_digit_1 rfl (lv_at hl 2 rfl) ?_
  refine lv_aload_n hx hb dX9_digit_2 rfl (lv_at hl 0 rfl) ?_
  refine va_calli (va_runV (As := []) (rest := [.int p1, .int p0]) ⟨hx, hb, hml, hown, hG⟩ (kX9_homes l dC dI r ct i_taped i_size i_faultKind i_at i_end i_token i_number i_bank i_rb i_codes i_within i_piled i_unitsInRule i_askHouse i_askTune i_acts i_undone i_laid i_knowns i_time f_text f_tunes f_houses f_hums f_told f_many f_ruleFrom f_ruleTo f_code f_eWhat f_eSign f_all f_kept f_was f_sTune f_boxAll J L s.heap.size hI) (cwV 0 hG (goodV gw1167 gw1169 gw58 gw138 gw1170) rfl rfl rfl hd_X9_homes ⟨(Nat.le_of_ble_eq_true rfl), (Nat.le_of_ble_eq_true rfl)⟩) ⟨fbR, va_recv hK hP (ci := 8) (q0 := 0) rfl rfl, pR_in hP hK⟩ rfl rfl hl.1 rfl (lv_room (Nat.le_of_ble_eq_true rfl)) dX9_digit_3 ⟨(Nat.le_of_ble_eq_true rfl), (Nat.le_of_ble_eq_true rfl)⟩) hS (fun q hq h => absurd hq (Nat.not_lt.mpr h)) (fun q h => Nat.le_trans hS.1 h) (fun r_4 u_ t_ H3 locs ht hvm hw hB hz1 hk1 hS => ?_)
  subst hw
  have hP := wk hP hk1
  have f5 := hB
  have f6 : r_4.toInt = (f_houses (i_bank.toInt).toNat).toInt := (ob_278 f5)
  refine lv_iconst (v := 1) hx hb dX9_digit_6 (by decide) ?_
  refine lv_isub hx hb dX9_digit_7 ?_
  refine lv_topi (fun x7 ex7 => ?_)
  have f8 : x7.toInt = (f_houses (i_bank.toInt).toNat).toInt + (-1) := (ob_281 (qi_sub ex7 rfl zc_1 (ob_575 f2 hp3 f6) (ob_576 f2 hp3 f6)) f6)
  refine lv_iload_n hx hb dX9_digit_8 rfl (lv_at hl 3 rfl) ?_
  refine lv_isub hx hb dX9_digit_9 ?_
  refine lv_topi (fun x9 ex9 => ?_)
  have f10 : x9.toInt = (f_houses (i_bank.toInt).toNat).toInt + -1 * p2.toInt + (-1) := (ob_431 (qi_sub ex9 rfl rfl (ob_577 f2 hp2 hp3 f8) (ob_578 f2 hp2 hp3 f8)) f8)
  refine va_calli (va_runS (As := [.int p1, .int x9]) (rest := [.int p0]) ⟨hx, hb, hml, hown, hG⟩ (kX9_power_v1 l dC dI p1 x9 H3.size (ob_560 hp0 hp1) (ob_561 hp0 hp1) (ob_579 f2 hp2 hp3 f10) (ob_580 f2 hp2 hp3 f10)) (va_cwS 2 hG (goodS gw1756 gw1757 gw138 gw1758) rfl rfl rfl hd_X9_power ⟨(Nat.le_of_ble_eq_true rfl), (Nat.le_of_ble_eq_true rfl)⟩) ⟨fbR, pR_in emptyP (emptyK hK)⟩ rfl rfl hl.1 rfl (lv_room (Nat.le_of_ble_eq_true rfl)) dX9_digit_10 ⟨(Nat.le_of_ble_eq_true rfl), (Nat.le_of_ble_eq_true rfl)⟩) hS (fun q hq h => absurd hq (Nat.not_lt.mpr h)) (fun q h => Nat.le_trans hS.1 h) (fun r_12 u_ t_ H11 locs ht hvm hw hB hz1 hk1 hS => ?_)
  subst hw
  have hP := wk hP hk1
  obtain ⟨f13, f14, f15⟩ := hB
  have f16 : (pw p1.toInt (x9.toInt).toNat) = (pw p1.toInt (((f_houses (i_bank.toInt).toNat).toInt + -1 * p2.toInt + (-1))).toNat) := by rw [f10]
  have f17 : r_12.toInt = (pw p1.toInt (((f_houses (i_bank.toInt).toNat).toInt + -1 * p2.toInt + (-1))).toNat) := (ob_581 f13 f16)
  refine lv_idiv hx hb dX9_digit_13 (qi_nz (ob_582 f16 f14 f15 f17)) ?_
  refine lv_topi (fun x18 ex18 => ?_)
  have f19 : 0 ≤ x18.toInt ∧ x18.toInt ≤ p0.toInt := qi_div ex18 rfl rfl (ob_246 hp4 hp5) (ob_582 f16 f14 f15 f17)
  have f20 : x18.toInt = (p0.toInt / (pw p1.toInt (((f_houses (i_bank.toInt).toNat).toInt + -1 * p2.toInt + (-1))).toNat)) := divnn ex18 rfl f17 (ob_583 hp4 hp5 f19) (ob_584 f16 f14 f15)
  refine lv_iload_n hx hb dX9_digit_14 rfl (lv_at hl 2 rfl) ?_
  refine lv_irem hx hb dX9_digit_15 (qi_nz (ob_560 hp0 hp1)) ?_
  refine lv_topi (fun x21 ex21 => ?_)
  have f22 : 0 ≤ x21.toInt ∧ x21.toInt < p1.toInt ∧ x21.toInt ≤ x18.toInt := qi_rem ex21 rfl rfl (ob_585 f19 f20) (ob_560 hp0 hp1)
  have f23 : x21.toInt = ((p0.toInt / (pw p1.toInt (((f_houses (i_bank.toInt).toNat).toInt + -1 * p2.toInt + (-1))).toNat)) % p1.toInt) := remnn ex21 f20 rfl (ob_586 f19 f22 f20) (ob_587 hp0 hp1 f22 f20)
  rw [hQ]
  exact W.iret (v := x21) hx hb hr (fun t ht hW => ⟨⟨x21, x21, rfl, rfl, ⟨(ob_278 f23), (ob_588 f22 f20 f23), (ob_589 hp0 hp1 f22 f20 f23), (ob_590 f19 f22 f20 f23)⟩⟩, hS.F ht⟩) hS.2.2 dX9_digit_16
set_option maxHeartbeats 4000000 in
set_option maxRecDepth 100000 in
theorem kX9_isRound (l : Launch) (dC : Nat → ClassId) (dI : Nat → Nat → Nat) (r : Nat → Nat) (ct : Nat → ClassId) (i_taped i_size i_faultKind i_at i_end i_token i_number i_bank i_rb i_codes i_within i_piled i_unitsInRule i_askHouse i_askTune i_acts i_undone i_laid i_knowns i_time : Int32) (f_text f_tunes f_houses f_hums f_told f_many f_ruleFrom f_ruleTo f_code f_eWhat f_eSign f_all f_kept f_was f_sTune f_boxAll : Nat → Int32) (J : Nat → Nat → Int32) (L : Nat → Nat → Int64) (p0 : Int32) (sz : Nat) (hI : (IM i_taped i_size i_at i_end i_bank i_rb i_acts i_undone i_laid i_knowns i_time f_tunes f_houses f_hums f_told f_many f_ruleFrom f_ruleTo f_code f_all f_kept f_was f_sTune f_boxAll)) (hp0 : 0 ≤ p0.toInt) (hp1 : p0.toInt ≤ 2147483647) : Met l yX9_isRound (.code yX9_isRound cX9_isRound 5 (some .boolean) :: GW) { frames := 22, cells := 0, slots := 0, locals := 729 } (va_Pc [.ref (r 0), .int p0] (pW (dC, dI) (WM r ct i_taped i_size i_faultKind i_at i_end i_token i_number i_bank i_rb i_codes i_within i_piled i_unitsInRule i_askHouse i_askTune i_acts i_undone i_laid i_knowns i_time f_text f_tunes f_houses f_hums f_told f_many f_ruleFrom f_ruleTo f_code f_eWhat f_eSign f_all f_kept f_was f_sTune f_boxAll J L) (TM ct) sz)) (va_Qi (fun (r0 : Int32) (u : Int32) => r0 = u) (fun (u : Int32) (t : State) => ∃ (n_i_askHouse n_i_askTune : Int32) (n_J : Nat → Nat → Int32), va_P (dC, dI) vwCl (WM r ct i_taped i_size i_faultKind i_at i_end i_token i_number i_bank i_rb i_codes i_within i_piled i_unitsInRule n_i_askHouse n_i_askTune i_acts i_undone i_laid i_knowns i_time f_text f_tunes f_houses f_hums f_told f_many f_ruleFrom f_ruleTo f_code f_eWhat f_eSign f_all f_kept f_was f_sTune f_boxAll n_J L) t.heap ∧ va_D (va_A (WM r ct i_taped i_size i_faultKind i_at i_end i_token i_number i_bank i_rb i_codes i_within i_piled i_unitsInRule i_askHouse i_askTune i_acts i_undone i_laid i_knowns i_time f_text f_tunes f_houses f_hums f_told f_many f_ruleFrom f_ruleTo f_code f_eWhat f_eSign f_all f_kept f_was f_sTune f_boxAll J L) sz) (WM r ct i_taped i_size i_faultKind i_at i_end i_token i_number i_bank i_rb i_codes i_within i_piled i_unitsInRule n_i_askHouse n_i_askTune i_acts i_undone i_laid i_knowns i_time f_text f_tunes f_houses f_hums f_told f_many f_ruleFrom f_ruleTo f_code f_eWhat f_eSign f_all f_kept f_was f_sTune f_boxAll n_J L) ∧ (IM i_taped i_size i_at i_end i_bank i_rb i_acts i_undone i_laid i_knowns i_time f_tunes f_houses f_hums f_told f_many f_ruleFrom f_ruleTo f_code f_all f_kept f_was f_sTune f_boxAll) ∧ (((u.toInt = 1)) ∨ ((u.toInt = 0))) ∧ (0 ≤ u.toInt) ∧ (u.toInt ≤ 1)) (va_A (WM r ct i_taped i_size i_faultKind i_at i_end i_token i_number i_bank i_rb i_codes i_within i_piled i_unitsInRule i_askHouse i_askTune i_acts i_undone i_laid i_knowns i_time f_text f_tunes f_houses f_hums f_told f_many f_ruleFrom f_ruleTo f_code f_eWhat f_eSign f_all f_kept f_was f_sTune f_boxAll J L) sz)) 0 0 (va_A (WM r ct i_taped i_size i_faultKind i_at i_end i_token i_number i_bank i_rb i_codes i_within i_piled i_unitsInRule i_askHouse i_askTune i_acts i_undone i_laid i_knowns i_time f_text f_tunes f_houses f_hums f_told f_many f_ruleFrom f_ruleTo f_code f_eWhat f_eSign f_all f_kept f_was f_sTune f_boxAll J L) sz) := by
  refine Met.ofW (cc := cX9_isRound) (maxL := 5) (ret := (some .boolean)) (by decide) rfl ?_
  intro p e s m args below meth c0 s₁ B hml hv
  obtain ⟨rfl, hsz, hP, hK, hD0⟩ := hv
  have hx := B.exec
  have hb := B.bytes
  have hr := B.returns
  have hts := atoms_spec (ws := .code yX9_isRound cX9_isRound 5 (some .boolean) :: GW) B.pre
  have hG : ∀ w ∈ GW, w.before _ s = true := fun w h => hts w (List.mem_cons_of_mem _ h)
  have hown : s.vm.findClass RX9 = some m.cls := findClass_of_methodNamed B.named
  subst hsz
  have hD := hD0.self (sz := s.heap.size)
  generalize hAe : va_A (WM r ct i_taped i_size i_faultKind i_at i_end i_token i_number i_bank i_rb i_codes i_within i_piled i_unitsInRule i_askHouse i_askTune i_acts i_undone i_laid i_knowns i_time f_text f_tunes f_houses f_hums f_told f_many f_ruleFrom f_ruleTo f_code f_eWhat f_eSign f_all f_kept f_was f_sTune f_boxAll J L) s.heap.size = A at hD ⊢
  have hA : ∀ q : Nat, s.heap.size ≤ q → A q := fun q h => by rw [← hAe]; exact Or.inr h
  have hS : va_S A s.heap s.heap [] := va_S.rf
  have hP : va_P (dC, dI) vwCl (WM r ct i_taped i_size i_faultKind i_at i_end i_token i_number i_bank i_rb i_codes i_within i_piled i_unitsInRule i_askHouse i_askTune i_acts i_undone i_laid i_knowns i_time f_text f_tunes f_houses f_hums f_told f_many f_ruleFrom f_ruleTo f_code f_eWhat f_eSign f_all f_kept f_was f_sTune f_boxAll J L) s.heap := hP
  have hl := lv_entry ([.ref (r 0), .int p0]) (n := 5) (Nat.le_of_ble_eq_true rfl)
  rw [lg_entry_eq]
  generalize (lg_sl ([.ref (r 0), .int p0]) ++ List.replicate (5 - (lg_sl ([.ref (r 0), .int p0])).length) Slot.unset).toArray = ls at hl ⊢
  have hl : lv_has ls 5 [(0, .ref (r 0)), (1, .int p0)] := hl
  refine nameQ (fun Q hQ => ?_)
  obtain ⟨im0, im1, im2, im3, im4, im5, im6, im7, im8, im9, im10, im11, im12, im13, im14, im15, im16, im17, im18, im19, im20, im21, im22, im23, im24, im25, im26, im27, im28, im29, im30⟩ := id hI
  have f1 : 0 ≤ (f_tunes (i_bank.toInt).toNat).toInt ∧ (f_tunes (i_bank.toInt).toNat).toInt ≤ 5 := im20 (i_bank.toInt)
  have f2 : 0 ≤ (f_houses (i_bank.toInt).toNat).toInt ∧ (f_houses (i_bank.toInt).toNat).toInt ≤ 4 := im21 (i_bank.toInt)
  refine lv_iconst (v := 0) hx hb dX9_isRound_0 (by decide) ?_
  refine lv_istore_n (lv' := [(2, .int 0), (0, .ref (r 0)), (1, .int p0)]) hx hb dX9_isRound_1 rfl hl (by decide) rfl (fun ls hl => ?_)
  refine lv_iconst (v := 0) hx hb dX9_isRound_2 (by decide) ?_
  refine lv_istore_n (lv' := [(3, .int 0), (2, .int 0), (0, .ref (r 0)), (1, .int p0)]) hx hb dX9_isRound_3 rfl hl (by decide) rfl (fun ls hl => ?_)
  have L4 : ∀ (N4 : Nat) (y4_2 y4_3 : Int32) (m4_i_askHouse m4_i_askTune : Int32) (m4_J : Nat → Nat → Int32) (H4 : Heap) (locs : List Loc) (ls : Array Slot) (g4_0 : 0 ≤ y4_3.toInt) (g4_1 : y4_3.toInt ≤ 4) (hP : va_P (dC, dI) vwCl (WM r ct i_taped i_size i_faultKind i_at i_end i_token i_number i_bank i_rb i_codes i_within i_piled i_unitsInRule m4_i_askHouse m4_i_askTune i_acts i_undone i_laid i_knowns i_time f_text f_tunes f_houses f_hums f_told f_many f_ruleFrom f_ruleTo f_code f_eWhat f_eSign f_all f_kept f_was f_sTune f_boxAll m4_J L) H4) (hD : va_D A (WM r ct i_taped i_size i_faultKind i_at i_end i_token i_number i_bank i_rb i_codes i_within i_piled i_unitsInRule m4_i_askHouse m4_i_askTune i_acts i_undone i_laid i_knowns i_time f_text f_tunes f_houses f_hums f_told f_many f_ruleFrom f_ruleTo f_code f_eWhat f_eSign f_all f_kept f_was f_sTune f_boxAll m4_J L)) (hS : va_S A s.heap H4 locs) (hl : lv_has ls 5 [(0, .ref (r 0)), (1, .int p0), (2, .int y4_2), (3, .int y4_3)]) (hM : -1 * y4_3.toInt + 4 < (N4 : Int)), W p l e { frames := 22, cells := 0, slots := 0, locals := 729 } s m ([.ref (r 0), .int p0] : List Value).toArray below meth c0 H4 locs 0 0 Q (F0 m 4 ls []) := by
    intro N4
    induction N4 with
    | zero =>
      intro y4_2 y4_3 m4_i_askHouse m4_i_askTune m4_J H4 locs ls g4_0 g4_1 hP hD hS hl hM
      exact ((ob_293 hM g4_0 g4_1)).elim
    | succ N4 ih4 =>
      intro y4_2 y4_3 m4_i_askHouse m4_i_askTune m4_J H4 locs ls g4_0 g4_1 hP hD hS hl hM
      have hM4 := msucc hM
      refine lv_iload_n hx hb dX9_isRound_4 rfl (lv_at hl 3 rfl) ?_
      refine lv_aload_n hx hb dX9_isRound_5 rfl (lv_at hl 0 rfl) ?_
      refine va_calli (va_runV (As := []) (rest := [.int y4_3]) ⟨hx, hb, hml, hown, hG⟩ (kX9_homes l dC dI r ct i_taped i_size i_faultKind i_at i_end i_token i_number i_bank i_rb i_codes i_within i_piled i_unitsInRule m4_i_askHouse m4_i_askTune i_acts i_undone i_laid i_knowns i_time f_text f_tunes f_houses f_hums f_told f_many f_ruleFrom f_ruleTo f_code f_eWhat f_eSign f_all f_kept f_was f_sTune f_boxAll m4_J L H4.size hI) (cwV 0 hG (goodV gw1167 gw1169 gw58 gw138 gw1170) rfl rfl rfl hd_X9_homes ⟨(Nat.le_of_ble_eq_true rfl), (Nat.le_of_ble_eq_true rfl)⟩) ⟨fbR, va_recv hK hP (ci := 8) (q0 := 0) rfl rfl, pR_in hP hK⟩ rfl rfl hl.1 rfl (lv_room (Nat.le_of_ble_eq_true rfl)) dX9_isRound_6 ⟨(Nat.le_of_ble_eq_true rfl), (Nat.le_of_ble_eq_true rfl)⟩) hS (fun q hq h => absurd hq (Nat.not_lt.mpr h)) (fun q h => hA q (Nat.le_trans hS.1 h)) (fun r_4 u_ t_ H3 locs ht hvm hw hB hz1 hk1 hS => ?_)
      subst hw
      have hP := wk hP hk1
      have f5 := hB
      have f6 : r_4.toInt = (f_houses (i_bank.toInt).toNat).toInt := (ob_278 f5)
      refine lv_icmp_ge (tgt := 89) hx hb dX9_isRound_9 (by decide) (fun c_7 => ?_) (fun c_7 => ?_)
      · skip
        have f8 : r_4.toInt ≤ y4_3.toInt := qi_le c_7 rfl rfl
        refine lv_iconst (v := 1) hx hb dX9_isRound_89 (by decide) ?_
        rw [hQ]
        exact W.zret (v := 1) hx hb hr (by decide) (fun t ht hW => ⟨⟨1, 1, rfl, rfl, ⟨m4_i_askHouse, m4_i_askTune, m4_J, by rw [ht]; exact hP, hD, hI, (ob_591 zc_1), (ob_9 zc_1), (ob_10 zc_1)⟩⟩, hS.F ht⟩) hS.2.2 dX9_isRound_90
      · skip
        have f9 : y4_3.toInt < r_4.toInt := qi_nle c_7 rfl rfl
        refine lv_aload_n hx hb dX9_isRound_12 rfl (lv_at hl 0 rfl) ?_
        refine lv_iload_n hx hb dX9_isRound_13 rfl (lv_at hl 1 rfl) ?_
        refine lv_aload_n hx hb dX9_isRound_14 rfl (lv_at hl 0 rfl) ?_
        refine va_calli (va_runV (As := []) (rest := [.int p0, .ref (r 0)]) ⟨hx, hb, hml, hown, hG⟩ (kX9_songs l dC dI r ct i_taped i_size i_faultKind i_at i_end i_token i_number i_bank i_rb i_codes i_within i_piled i_unitsInRule m4_i_askHouse m4_i_askTune i_acts i_undone i_laid i_knowns i_time f_text f_tunes f_houses f_hums f_told f_many f_ruleFrom f_ruleTo f_code f_eWhat f_eSign f_all f_kept f_was f_sTune f_boxAll m4_J L H3.size hI) (cwV 0 hG (goodV gw1512 gw1514 gw86 gw138 gw1515) rfl rfl rfl hd_X9_songs ⟨(Nat.le_of_ble_eq_true rfl), (Nat.le_of_ble_eq_true rfl)⟩) ⟨fbR, va_recv hK hP (ci := 8) (q0 := 0) rfl rfl, pR_in hP hK⟩ rfl rfl hl.1 rfl (lv_room (Nat.le_of_ble_eq_true rfl)) dX9_isRound_15 ⟨(Nat.le_of_ble_eq_true rfl), (Nat.le_of_ble_eq_true rfl)⟩) hS (fun q hq h => absurd hq (Nat.not_lt.mpr h)) (fun q h => hA q (Nat.le_trans hS.1 h)) (fun r_11 u_ t_ H10 locs ht hvm hw hB hz1 hk1 hS => ?_)
        subst hw
        have hP := wk hP hk1
        have f12 := hB
        have f13 : r_11.toInt = (f_tunes (i_bank.toInt).toNat).toInt := (ob_278 f12)
        refine lv_iconst (v := 1) hx hb dX9_isRound_18 (by decide) ?_
        refine lv_iadd hx hb dX9_isRound_19 ?_
        refine lv_topi (fun x14 ex14 => ?_)
        have f15 : x14.toInt = (f_tunes (i_bank.toInt).toNat).toInt + 1 := (ob_594 (qi_add ex14 rfl zc_1 (ob_592 f1 f13) (ob_593 f1 f13)) f13)
        refine lv_iload_n hx hb dX9_isRound_20 rfl (lv_at hl 3 rfl) ?_
        refine va_calli (va_runV (As := [.int p0, .int x14, .int y4_3]) (rest := []) ⟨hx, hb, hml, hown, hG⟩ (kX9_digit_v1 l dC dI r ct i_taped i_size i_faultKind i_at i_end i_token i_number i_bank i_rb i_codes i_within i_piled i_unitsInRule m4_i_askHouse m4_i_askTune i_acts i_undone i_laid i_knowns i_time f_text f_tunes f_houses f_hums f_told f_many f_ruleFrom f_ruleTo f_code f_eWhat f_eSign f_all f_kept f_was f_sTune f_boxAll m4_J L p0 x14 y4_3 H10.size hI (ob_595 f1 f15) (ob_596 f1 f15) (ob_133 g4_0) (ob_361 f9 f6) (ob_246 hp0 hp1) (ob_597 hp0 hp1)) (cwV 3 hG (goodV gw1763 gw1765 gw116 gw138 gw1766) rfl rfl rfl hd_X9_digit ⟨(Nat.le_of_ble_eq_true rfl), (Nat.le_of_ble_eq_true rfl)⟩) ⟨fbR, va_recv hK hP (ci := 8) (q0 := 0) rfl rfl, pR_in hP hK⟩ rfl rfl hl.1 rfl (lv_room (Nat.le_of_ble_eq_true rfl)) dX9_isRound_21 ⟨(Nat.le_of_ble_eq_true rfl), (Nat.le_of_ble_eq_true rfl)⟩) hS (fun q hq h => absurd hq (Nat.not_lt.mpr h)) (fun q h => hA q (Nat.le_trans hS.1 h)) (fun r_17 u_ t_ H16 locs ht hvm hw hB hz1 hk1 hS => ?_)
        subst hw
        have hP := wk hP hk1
        obtain ⟨f18, f19, f20, f21⟩ := hB
        have f22 : ((p0.toInt / (pw x14.toInt (((f_houses (i_bank.toInt).toNat).toInt + -1 * y4_3.toInt + (-1))).toNat)) % x14.toInt) = ((p0.toInt / (pw ((f_tunes (i_bank.toInt).toNat).toInt + 1) (((f_houses (i_bank.toInt).toNat).toInt + -1 * y4_3.toInt + (-1))).toNat)) % ((f_tunes (i_bank.toInt).toNat).toInt + 1)) := by rw [f15]
        have f23 : r_17.toInt = ((p0.toInt / (pw ((f_tunes (i_bank.toInt).toNat).toInt + 1) (((f_houses (i_bank.toInt).toNat).toInt + -1 * y4_3.toInt + (-1))).toNat)) % ((f_tunes (i_bank.toInt).toNat).toInt + 1)) := (ob_581 f18 f22)
        refine lv_istore (lv' := [(4, .int r_17), (0, .ref (r 0)), (1, .int p0), (2, .int y4_2), (3, .int y4_3)]) hx hb dX9_isRound_24 hl (by decide) rfl (fun ls hl => ?_)
        refine lv_iload hx hb dX9_isRound_26 (lv_at hl 0 rfl) ?_
        refine lv_aload_n hx hb dX9_isRound_28 rfl (lv_at hl 1 rfl) ?_
        refine va_calli (va_runV (As := []) (rest := [.int r_17]) ⟨hx, hb, hml, hown, hG⟩ (kX9_songs l dC dI r ct i_taped i_size i_faultKind i_at i_end i_token i_number i_bank i_rb i_codes i_within i_piled i_unitsInRule m4_i_askHouse m4_i_askTune i_acts i_undone i_laid i_knowns i_time f_text f_tunes f_houses f_hums f_told f_many f_ruleFrom f_ruleTo f_code f_eWhat f_eSign f_all f_kept f_was f_sTune f_boxAll m4_J L H16.size hI) (cwV 0 hG (goodV gw1512 gw1514 gw86 gw138 gw1515) rfl rfl rfl hd_X9_songs ⟨(Nat.le_of_ble_eq_true rfl), (Nat.le_of_ble_eq_true rfl)⟩) ⟨fbR, va_recv hK hP (ci := 8) (q0 := 0) rfl rfl, pR_in hP hK⟩ rfl rfl hl.1 rfl (lv_room (Nat.le_of_ble_eq_true rfl)) dX9_isRound_29 ⟨(Nat.le_of_ble_eq_true rfl), (Nat.le_of_ble_eq_true rfl)⟩) hS (fun q hq h => absurd hq (Nat.not_lt.mpr h)) (fun q h => hA q (Nat.le_trans hS.1 h)) (fun r_25 u_ t_ H24 locs ht hvm hw hB hz1 hk1 hS => ?_)
        subst hw
        have hP := wk hP hk1
        have f26 := hB
        have f27 : r_25.toInt = (f_tunes (i_bank.toInt).toNat).toInt := (ob_278 f26)
        refine lv_icmp_ne (tgt := 38) hx hb dX9_isRound_32 (by decide) (fun c_28 => ?_) (fun c_28 => ?_)
        · skip
          have f29 : r_17.toInt ≠ r_25.toInt := qi_ne c_28 rfl rfl
          have f30 : ((p0.toInt / (pw ((f_tunes (i_bank.toInt).toNat).toInt + 1) (((f_houses (i_bank.toInt).toNat).toInt + -1 * y4_3.toInt + (-1))).toNat)) % ((f_tunes (i_bank.toInt).toNat).toInt + 1)) + 1 ≤ (f_tunes (i_bank.toInt).toNat).toInt := (ob_598 f22 f20 f29 f27 f23 f15)
          refine lv_iload_n hx hb dX9_isRound_38 rfl (lv_at hl 3 rfl) ?_
          refine lv_iload hx hb dX9_isRound_39 (lv_at hl 0 rfl) ?_
          refine va_calli (va_runS (As := [.int y4_2, .int r_17]) (rest := []) ⟨hx, hb, hml, hown, hG⟩ (kX9_bit l dC dI y4_2 r_17 H24.size) (va_cwS 2 hG (goodS gw1417 gw1418 gw138 gw1419) rfl rfl rfl hd_X9_bit ⟨(Nat.le_of_ble_eq_true rfl), (Nat.le_of_ble_eq_true rfl)⟩) ⟨fbR, pR_in emptyP (emptyK hK)⟩ rfl rfl hl.1 rfl (lv_room (Nat.le_of_ble_eq_true rfl)) dX9_isRound_41 ⟨(Nat.le_of_ble_eq_true rfl), (Nat.le_of_ble_eq_true rfl)⟩) hS (fun q hq h => absurd hq (Nat.not_lt.mpr h)) (fun q h => hA q (Nat.le_trans hS.1 h)) (fun r_32 u_ t_ H31 locs ht hvm hw hB hz1 hk1 hS => ?_)
          subst hw
          have hP := wk hP hk1
          obtain ⟨f33, f34, f35⟩ := hB
          refine lv_if_ne (tgt := 74) hx hb dX9_isRound_44 (by decide) (fun c_36 => ?_) (fun c_36 => ?_)
          · skip
            have f37 : r_32.toInt ≠ 0 := qi_ne c_36 rfl zc_0
            have f38 : 1 ≤ r_32.toInt := (ob_367 f33 f34 f37)
            refine lv_iconst (v := 0) hx hb dX9_isRound_74 (by decide) ?_
            rw [hQ]
            exact W.zret (v := 0) hx hb hr (by decide) (fun t ht hW => ⟨⟨0, 0, rfl, rfl, ⟨m4_i_askHouse, m4_i_askTune, m4_J, by rw [ht]; exact hP, hD, hI, (ob_599 zc_0), (ob_5 zc_0), (ob_6 zc_0)⟩⟩, hS.F ht⟩) hS.2.2 dX9_isRound_75
          · skip
            have f39 : r_32.toInt = 0 := qi_eq c_36 rfl zc_0
            refine lv_aload_n hx hb dX9_isRound_47 rfl (lv_at hl 1 rfl) ?_
            refine lv_iload hx hb dX9_isRound_48 (lv_at hl 0 rfl) ?_
            refine va_calli (va_runV (As := [.int r_17]) (rest := []) ⟨hx, hb, hml, hown, hG⟩ (kX9_isOnCart l dC dI r ct i_taped i_size i_faultKind i_at i_end i_token i_number i_bank i_rb i_codes i_within i_piled i_unitsInRule m4_i_askHouse m4_i_askTune i_acts i_undone i_laid i_knowns i_time f_text f_tunes f_houses f_hums f_told f_many f_ruleFrom f_ruleTo f_code f_eWhat f_eSign f_all f_kept f_was f_sTune f_boxAll m4_J L r_17 H31.size hI (ob_600 f22 f19 f23) (ob_601 f30 f23)) (cwV 1 hG (goodV gw1704 gw1706 gw111 gw138 gw1707) rfl rfl rfl hd_X9_isOnCart ⟨(Nat.le_of_ble_eq_true rfl), (Nat.le_of_ble_eq_true rfl)⟩) ⟨fbR, va_recv hK hP (ci := 8) (q0 := 0) rfl rfl, pR_in hP hK⟩ rfl rfl hl.1 rfl (lv_room (Nat.le_of_ble_eq_true rfl)) dX9_isRound_50 ⟨(Nat.le_of_ble_eq_true rfl), (Nat.le_of_ble_eq_true rfl)⟩) hS (fun q hq h => absurd hq (Nat.not_lt.mpr h)) (fun q h => hA q (Nat.le_trans hS.1 h)) (fun r_41 u_ t_ H40 locs ht hvm hw hB hz1 hk1 hS => ?_)
            subst hw
            have hP := wk hP hk1
            obtain ⟨f42, f43, f44⟩ := hB
            refine lv_if_eq (tgt := 74) hx hb dX9_isRound_53 (by decide) (fun c_45 => ?_) (fun c_45 => ?_)
            · skip
              have f46 : r_41.toInt = 0 := qi_eq c_45 rfl zc_0
              have f47 : (f_all (r_17.toInt).toNat).toInt + 1 ≠ 0 := (ob_518 f42 f46)
              have f48 : r_41.toInt = 0 := (ob_162 f43 f44 f46)
              refine lv_iconst (v := 0) hx hb dX9_isRound_74 (by decide) ?_
              rw [hQ]
              exact W.zret (v := 0) hx hb hr (by decide) (fun t ht hW => ⟨⟨0, 0, rfl, rfl, ⟨m4_i_askHouse, m4_i_askTune, m4_J, by rw [ht]; exact hP, hD, hI, (ob_599 zc_0), (ob_5 zc_0), (ob_6 zc_0)⟩⟩, hS.F ht⟩) hS.2.2 dX9_isRound_75
            · skip
              have f49 : r_41.toInt ≠ 0 := qi_ne c_45 rfl zc_0
              have f50 : 1 ≤ r_41.toInt := (ob_519 f42 f49)
              have f51 : (f_all (r_17.toInt).toNat).toInt + 1 = 0 := (ob_520 f42 f49)
              have f52 : r_41.toInt = 1 := (ob_167 f43 f44 f50)
              refine lv_aload_n hx hb dX9_isRound_56 rfl (lv_at hl 1 rfl) ?_
              refine lv_iload_n hx hb dX9_isRound_57 rfl (lv_at hl 4 rfl) ?_
              refine va_calli (va_runV (As := [.int y4_3]) (rest := []) ⟨hx, hb, hml, hown, hG⟩ (kX9_triedBy l dC dI r ct i_taped i_size i_faultKind i_at i_end i_token i_number i_bank i_rb i_codes i_within i_piled i_unitsInRule m4_i_askHouse m4_i_askTune i_acts i_undone i_laid i_knowns i_time f_text f_tunes f_houses f_hums f_told f_many f_ruleFrom f_ruleTo f_code f_eWhat f_eSign f_all f_kept f_was f_sTune f_boxAll m4_J L y4_3 H40.size hI) (cwV 1 hG (goodV gw1550 gw1552 gw92 gw138 gw1553) rfl rfl rfl hd_X9_triedBy ⟨(Nat.le_of_ble_eq_true rfl), (Nat.le_of_ble_eq_true rfl)⟩) ⟨fbR, va_recv hK hP (ci := 8) (q0 := 0) rfl rfl, pR_in hP hK⟩ rfl rfl hl.1 rfl (lv_room (Nat.le_of_ble_eq_true rfl)) dX9_isRound_58 ⟨(Nat.le_of_ble_eq_true rfl), (Nat.le_of_ble_eq_true rfl)⟩) hS (fun q hq h => absurd hq (Nat.not_lt.mpr h)) (fun q h => hA q (Nat.le_trans hS.1 h)) (fun r_54 u_ t_ H53 locs ht hvm hw hB hz1 hk1 hS => ?_)
              subst hw
              have hP := wk hP hk1
              obtain ⟨f55, f56, f57⟩ := hB
              have f58 : r_54.toInt = (trb f_all y4_3.toInt (f_tunes (i_bank.toInt).toNat).toInt (6 - (0 : Int32).toInt).toNat (0 : Int32).toInt) := (ob_278 f57)
              refine lv_if_ge (tgt := 74) hx hb dX9_isRound_61 (by decide) (fun c_59 => ?_) (fun c_59 => ?_)
              · skip
                have f60 : 0 ≤ r_54.toInt := qi_le c_59 zc_0 rfl
                refine lv_iconst (v := 0) hx hb dX9_isRound_74 (by decide) ?_
                rw [hQ]
                exact W.zret (v := 0) hx hb hr (by decide) (fun t ht hW => ⟨⟨0, 0, rfl, rfl, ⟨m4_i_askHouse, m4_i_askTune, m4_J, by rw [ht]; exact hP, hD, hI, (ob_599 zc_0), (ob_5 zc_0), (ob_6 zc_0)⟩⟩, hS.F ht⟩) hS.2.2 dX9_isRound_75
              · skip
                have f61 : r_54.toInt < 0 := qi_nle c_59 zc_0 rfl
                refine lv_aload_n hx hb dX9_isRound_64 rfl (lv_at hl 1 rfl) ?_
                refine lv_iload_n hx hb dX9_isRound_65 rfl (lv_at hl 4 rfl) ?_
                refine lv_iload hx hb dX9_isRound_66 (lv_at hl 0 rfl) ?_
                have hFc := frA hD hS hA
                refine va_calli (va_runV (As := [.int y4_3, .int r_17]) (rest := []) ⟨hx, hb, hml, hown, hG⟩ (kX9_doesTake l dC dI r ct i_taped i_size i_faultKind i_at i_end i_token i_number i_bank i_rb i_codes i_within i_piled i_unitsInRule m4_i_askHouse m4_i_askTune i_acts i_undone i_laid i_knowns i_time f_text f_tunes f_houses f_hums f_told f_many f_ruleFrom f_ruleTo f_code f_eWhat f_eSign f_all f_kept f_was f_sTune f_boxAll m4_J L y4_3 r_17 H53.size hI (ob_133 g4_0) (ob_361 f9 f6) (ob_600 f22 f19 f23) (ob_601 f30 f23)) (cwV 2 hG (goodV gw1610 gw1612 gw104 gw138 gw1613) rfl rfl rfl hd_X9_doesTake ⟨(Nat.le_of_ble_eq_true rfl), (Nat.le_of_ble_eq_true rfl)⟩) ⟨fbW, va_recv hK hP (ci := 8) (q0 := 0) rfl rfl, pW_in hP hK hD⟩ rfl rfl hl.1 rfl (lv_room (Nat.le_of_ble_eq_true rfl)) dX9_isRound_68 ⟨(Nat.le_of_ble_eq_true rfl), (Nat.le_of_ble_eq_true rfl)⟩) hS (fun q _ h => hFc q h) hFc (fun r_63 u_ t_ H62 locs ht hvm hw hB hz1 hk1 hS => ?_)
                subst hw
                obtain ⟨x64, x65, J66, hP1, hD1, hI70, f67, f68, f69⟩ := hB
                rw [ht] at hP1
                have hP := hP1
                have hD := dW hFc hD1
                obtain ⟨im71, im72, im73, im74, im75, im76, im77, im78, im79, im80, im81, im82, im83, im84, im85, im86, im87, im88, im89, im90, im91, im92, im93, im94, im95, im96, im97, im98, im99, im100, im101⟩ := id hI70
                refine lv_if_ne (tgt := 76) hx hb dX9_isRound_71 (by decide) (fun c_102 => ?_) (fun c_102 => ?_)
                · skip
                  have f103 : r_63.toInt ≠ 0 := qi_ne c_102 rfl zc_0
                  have f104 : 1 ≤ r_63.toInt := (ob_166 f67 f103)
                  have f105 : r_63.toInt = 1 := (ob_167 f68 f69 f104)
                  refine lv_iload_n hx hb dX9_isRound_76 rfl (lv_at hl 3 rfl) ?_
                  refine lv_iconst (v := 1) hx hb dX9_isRound_77 (by decide) ?_
                  refine lv_iload hx hb dX9_isRound_78 (lv_at hl 0 rfl) ?_
                  refine lv_ishl hx hb dX9_isRound_80 ?_
                  refine lv_topi (fun x106 ex106 => ?_)
                  refine lv_ior hx hb dX9_isRound_81 ?_
                  refine lv_topi (fun x107 ex107 => ?_)
                  refine lv_istore_n (lv' := [(2, .int x107), (4, .int r_17), (0, .ref (r 0)), (1, .int p0), (3, .int y4_3)]) hx hb dX9_isRound_82 rfl hl (by decide) rfl (fun ls hl => ?_)
                  obtain ⟨x108, ex108⟩ : ∃ y : Int32, y = y4_3 + Int32.ofInt 1 := ⟨_, rfl⟩
                  have f109 : x108.toInt = y4_3.toInt + 1 := (ob_139 (qi_add ex108 rfl (by decide) (ob_137 g4_0) (ob_304 g4_1)))
                  refine lv_iinc (v := x108) (lv' := [(3, .int x108), (2, .int x107), (4, .int r_17), (0, .ref (r 0)), (1, .int p0)]) hx hb dX9_isRound_83 hl (k := 4) rfl ex108.symm (by decide) rfl (fun ls hl => ?_)
                  refine lv_goto (tgt := 4) hx hb dX9_isRound_86 (by decide) ?_
                  exact ih4 x107 x108 x64 x65 J66 H62 _ _ (ob_140 g4_0 f109) (ob_305 f2 f9 f6 f109) hP hD hS (lv_sub hl [3, 4, 1, 0] rfl) (ob_306 hM4 f109)
                · skip
                  have f110 : r_63.toInt = 0 := qi_eq c_102 rfl zc_0
                  have f111 : r_63.toInt = 0 := (ob_162 f68 f69 f110)
                  refine lv_iconst (v := 0) hx hb dX9_isRound_74 (by decide) ?_
                  rw [hQ]
                  exact W.zret (v := 0) hx hb hr (by decide) (fun t ht hW => ⟨⟨0, 0, rfl, rfl, ⟨x64, x65, J66, by rw [ht]; exact hP, hD, hI70, (ob_599 zc_0), (ob_5 zc_0), (ob_6 zc_0)⟩⟩, hS.F ht⟩) hS.2.2 dX9_isRound_75
        · skip
          have f112 : r_17.toInt = r_25.toInt := qi_eq c_28 rfl rfl
          refine lv_goto (tgt := 83) hx hb dX9_isRound_35 (by decide) ?_
          obtain ⟨x113, ex113⟩ : ∃ y : Int32, y = y4_3 + Int32.ofInt 1 := ⟨_, rfl⟩
          have f114 : x113.toInt = y4_3.toInt + 1 := (ob_139 (qi_add ex113 rfl (by decide) (ob_137 g4_0) (ob_304 g4_1)))
          refine lv_iinc (v := x113) (lv' := [(3, .int x113), (4, .int r_17), (0, .ref (r 0)), (1, .int p0), (2, .int y4_2)]) hx hb dX9_isRound_83 hl (k := 4) rfl ex113.symm (by decide) rfl (fun ls hl => ?_)
          refine lv_goto (tgt := 4) hx hb dX9_isRound_86 (by decide) ?_
          exact ih4 y4_2 x113 m4_i_askHouse m4_i_askTune m4_J H24 _ _ (ob_140 g4_0 f114) (ob_305 f2 f9 f6 f114) hP hD hS (lv_sub hl [2, 3, 4, 0] rfl) (ob_306 hM4 f114)
  exact L4 (-1 * (0 : Int32).toInt + 4 + 1).toNat 0 0 i_askHouse i_askTune J s.heap _ _ (ob_5 zc_0) (ob_307 zc_0) hP hD hS (lv_sub hl [2, 3, 1, 0] rfl) (mlt (ob_308 zc_0))
set_option maxHeartbeats 4000000 in
set_option maxRecDepth 100000 in
theorem kX9_round (l : Launch) (dC : Nat → ClassId) (dI : Nat → Nat → Nat) (r : Nat → Nat) (ct : Nat → ClassId) (i_taped i_size i_faultKind i_at i_end i_token i_number i_bank i_rb i_codes i_within i_piled i_unitsInRule i_askHouse i_askTune i_acts i_undone i_laid i_knowns i_time : Int32) (f_text f_tunes f_houses f_hums f_told f_many f_ruleFrom f_ruleTo f_code f_eWhat f_eSign f_all f_kept f_was f_sTune f_boxAll : Nat → Int32) (J : Nat → Nat → Int32) (L : Nat → Nat → Int64) (p0 : Int32) (sz : Nat) (hI : (IM i_taped i_size i_at i_end i_bank i_rb i_acts i_undone i_laid i_knowns i_time f_tunes f_houses f_hums f_told f_many f_ruleFrom f_ruleTo f_code f_all f_kept f_was f_sTune f_boxAll)) : Met l yX9_round (.code yX9_round cX9_round 7 (some .int) :: GW) { frames := 24, cells := 0, slots := 0, locals := 793 } (va_Pc [.ref (r 0), .int p0] (pW (dC, dI) (WM r ct i_taped i_size i_faultKind i_at i_end i_token i_number i_bank i_rb i_codes i_within i_piled i_unitsInRule i_askHouse i_askTune i_acts i_undone i_laid i_knowns i_time f_text f_tunes f_houses f_hums f_told f_many f_ruleFrom f_ruleTo f_code f_eWhat f_eSign f_all f_kept f_was f_sTune f_boxAll J L) (TM ct) sz)) (va_Qi (fun (r0 : Int32) (u : Int32) => r0 = u) (fun (u : Int32) (t : State) => ∃ (n_i_askHouse n_i_askTune n_i_laid : Int32) (n_J : Nat → Nat → Int32), va_P (dC, dI) vwCl (WM r ct i_taped i_size i_faultKind i_at i_end i_token i_number i_bank i_rb i_codes i_within i_piled i_unitsInRule n_i_askHouse n_i_askTune i_acts i_undone n_i_laid i_knowns i_time f_text f_tunes f_houses f_hums f_told f_many f_ruleFrom f_ruleTo f_code f_eWhat f_eSign f_all f_kept f_was f_sTune f_boxAll n_J L) t.heap ∧ va_D (va_A (WM r ct i_taped i_size i_faultKind i_at i_end i_token i_number i_bank i_rb i_codes i_within i_piled i_unitsInRule i_askHouse i_askTune i_acts i_undone i_laid i_knowns i_time f_text f_tunes f_houses f_hums f_told f_many f_ruleFrom f_ruleTo f_code f_eWhat f_eSign f_all f_kept f_was f_sTune f_boxAll J L) sz) (WM r ct i_taped i_size i_faultKind i_at i_end i_token i_number i_bank i_rb i_codes i_within i_piled i_unitsInRule n_i_askHouse n_i_askTune i_acts i_undone n_i_laid i_knowns i_time f_text f_tunes f_houses f_hums f_told f_many f_ruleFrom f_ruleTo f_code f_eWhat f_eSign f_all f_kept f_was f_sTune f_boxAll n_J L) ∧ (IM i_taped i_size i_at i_end i_bank i_rb i_acts i_undone n_i_laid i_knowns i_time f_tunes f_houses f_hums f_told f_many f_ruleFrom f_ruleTo f_code f_all f_kept f_was f_sTune f_boxAll)) (va_A (WM r ct i_taped i_size i_faultKind i_at i_end i_token i_number i_bank i_rb i_codes i_within i_piled i_unitsInRule i_askHouse i_askTune i_acts i_undone i_laid i_knowns i_time f_text f_tunes f_houses f_hums f_told f_many f_ruleFrom f_ruleTo f_code f_eWhat f_eSign f_all f_kept f_was f_sTune f_boxAll J L) sz)) 0 0 (va_A (WM r ct i_taped i_size i_faultKind i_at i_end i_token i_number i_bank i_rb i_codes i_within i_piled i_unitsInRule i_askHouse i_askTune i_acts i_undone i_laid i_knowns i_time f_text f_tunes f_houses f_hums f_told f_many f_ruleFrom f_ruleTo f_code f_eWhat f_eSign f_all f_kept f_was f_sTune f_boxAll J L) sz) := by
  refine Met.ofW (cc := cX9_round) (maxL := 7) (ret := (some .int)) (by decide) rfl ?_
  intro p e s m args below meth c0 s₁ B hml hv
  obtain ⟨rfl, hsz, hP, hK, hD0⟩ := hv
  have hx := B.exec
  have hb := B.bytes
  have hr := B.returns
  have hts := atoms_spec (ws := .code yX9_round cX9_round 7 (some .int) :: GW) B.pre
  have hG : ∀ w ∈ GW, w.before _ s = true := fun w h => hts w (List.mem_cons_of_mem _ h)
  have hown : s.vm.findClass RX9 = some m.cls := findClass_of_methodNamed B.named
  subst hsz
  have hD := hD0.self (sz := s.heap.size)
  generalize hAe : va_A (WM r ct i_taped i_size i_faultKind i_at i_end i_token i_number i_bank i_rb i_codes i_within i_piled i_unitsInRule i_askHouse i_askTune i_acts i_undone i_laid i_knowns i_time f_text f_tunes f_houses f_hums f_told f_many f_ruleFrom f_ruleTo f_code f_eWhat f_eSign f_all f_kept f_was f_sTune f_boxAll J L) s.heap.size = A at hD ⊢
  have hA : ∀ q : Nat, s.heap.size ≤ q → A q := fun q h => by rw [← hAe]; exact Or.inr h
  have hS : va_S A s.heap s.heap [] := va_S.rf
  have hP : va_P (dC, dI) vwCl (WM r ct i_taped i_size i_faultKind i_at i_end i_token i_number i_bank i_rb i_codes i_within i_piled i_unitsInRule i_askHouse i_askTune i_acts i_undone i_laid i_knowns i_time f_text f_tunes f_houses f_hums f_told f_many f_ruleFrom f_ruleTo f_code f_eWhat f_eSign f_all f_kept f_was f_sTune f_boxAll J L) s.heap := hP
  have hl := lv_entry ([.ref (r 0), .int p0]) (n := 7) (Nat.le_of_ble_eq_true rfl)
  rw [lg_entry_eq]
  generalize (lg_sl ([.ref (r 0), .int p0]) ++ List.replicate (7 - (lg_sl ([.ref (r 0), .int p0])).length) Slot.unset).toArray = ls at hl ⊢
  have hl : lv_has ls 7 [(0, .ref (r 0)), (1, .int p0)] := hl
  refine nameQ (fun Q hQ => ?_)
  obtain ⟨im0, im1, im2, im3, im4, im5, im6, im7, im8, im9, im10, im11, im12, im13, im14, im15, im16, im17, im18, im19, im20, im21, im22, im23, im24, im25, im26, im27, im28, im29, im30⟩ := id hI
  have f1 : 0 ≤ (f_tunes (i_bank.toInt).toNat).toInt ∧ (f_tunes (i_bank.toInt).toNat).toInt ≤ 5 := im20 (i_bank.toInt)
  have f2 : 0 ≤ (f_houses (i_bank.toInt).toNat).toInt ∧ (f_houses (i_bank.toInt).toNat).toInt ≤ 4 := im21 (i_bank.toInt)
  refine lv_iload_n hx hb dX9_round_0 rfl (lv_at hl 1 rfl) ?_
  refine lv_iconst (v := 0) hx hb dX9_round_1 (by decide) ?_
  refine lv_iconst (v := 1) hx hb dX9_round_2 (by decide) ?_
  refine va_calli (va_runS (As := [.int p0, .int 0, .int 1]) (rest := []) ⟨hx, hb, hml, hown, hG⟩ (kX9_isIn l dC dI p0 0 1 s.heap.size) (va_cwS 3 hG (goodS gw1516 gw1517 gw138 gw1518) rfl rfl rfl hd_X9_isIn ⟨(Nat.le_of_ble_eq_true rfl), (Nat.le_of_ble_eq_true rfl)⟩) ⟨fbR, pR_in emptyP (emptyK hK)⟩ rfl rfl hl.1 rfl (lv_room (Nat.le_of_ble_eq_true rfl)) dX9_round_3 ⟨(Nat.le_of_ble_eq_true rfl), (Nat.le_of_ble_eq_true rfl)⟩) hS (fun q hq h => absurd hq (Nat.not_lt.mpr h)) (fun q h => hA q (Nat.le_trans hS.1 h)) (fun r_4 u_ t_ H3 locs ht hvm hw hB hz1 hk1 hS => ?_)
  subst hw
  have hP := wk hP hk1
  obtain ⟨f5, f6, f7⟩ := hB
  refine lv_if_ne (tgt := 11) hx hb dX9_round_6 (by decide) (fun c_8 => ?_) (fun c_8 => ?_)
  · skip
    have f9 : r_4.toInt ≠ 0 := qi_ne c_8 rfl zc_0
    have f10 : 1 ≤ r_4.toInt := (ob_439 f5 f9 zc_1 zc_0)
    have f11 : 0 ≤ p0.toInt := (ob_440 f5 f9 zc_1 zc_0)
    have f12 : p0.toInt ≤ 1 := (ob_441 f5 f9 zc_1 zc_0)
    have f13 : r_4.toInt = 1 := (ob_167 f6 f7 f10)
    refine lv_iconst (v := (-1)) hx hb dX9_round_11 (by decide) ?_
    refine lv_istore_n (lv' := [(2, .int (-1)), (0, .ref (r 0)), (1, .int p0)]) hx hb dX9_round_12 rfl hl (by decide) rfl (fun ls hl => ?_)
    refine lv_iconst (v := (-1)) hx hb dX9_round_13 (by decide) ?_
    refine lv_istore_n (lv' := [(3, .int (-1)), (2, .int (-1)), (0, .ref (r 0)), (1, .int p0)]) hx hb dX9_round_14 rfl hl (by decide) rfl (fun ls hl => ?_)
    refine lv_iconst (v := 0) hx hb dX9_round_15 (by decide) ?_
    refine lv_istore (lv' := [(4, .int 0), (3, .int (-1)), (2, .int (-1)), (0, .ref (r 0)), (1, .int p0)]) hx hb dX9_round_16 hl (by decide) rfl (fun ls hl => ?_)
    have L18 : ∀ (N18 : Nat) (y18_2 y18_3 y18_4 : Int32) (m18_i_askHouse m18_i_askTune : Int32) (m18_J : Nat → Nat → Int32) (H18 : Heap) (locs : List Loc) (ls : Array Slot) (g18_0 : 0 ≤ y18_2.toInt + 1) (g18_1 : y18_2.toInt ≤ 1048576) (g18_2 : 0 ≤ y18_3.toInt + 1) (g18_3 : 0 ≤ y18_4.toInt) (g18_4 : y18_4.toInt ≤ 1296) (hP : va_P (dC, dI) vwCl (WM r ct i_taped i_size i_faultKind i_at i_end i_token i_number i_bank i_rb i_codes i_within i_piled i_unitsInRule m18_i_askHouse m18_i_askTune i_acts i_undone i_laid i_knowns i_time f_text f_tunes f_houses f_hums f_told f_many f_ruleFrom f_ruleTo f_code f_eWhat f_eSign f_all f_kept f_was f_sTune f_boxAll m18_J L) H18) (hD : va_D A (WM r ct i_taped i_size i_faultKind i_at i_end i_token i_number i_bank i_rb i_codes i_within i_piled i_unitsInRule m18_i_askHouse m18_i_askTune i_acts i_undone i_laid i_knowns i_time f_text f_tunes f_houses f_hums f_told f_many f_ruleFrom f_ruleTo f_code f_eWhat f_eSign f_all f_kept f_was f_sTune f_boxAll m18_J L)) (hS : va_S A s.heap H18 locs) (hl : lv_has ls 7 [(0, .ref (r 0)), (1, .int p0), (2, .int y18_2), (3, .int y18_3), (4, .int y18_4)]) (hM : -1 * y18_4.toInt + 1296 < (N18 : Int)), W p l e { frames := 24, cells := 0, slots := 0, locals := 793 } s m ([.ref (r 0), .int p0] : List Value).toArray below meth c0 H18 locs 0 0 Q (F0 m 18 ls []) := by
      intro N18
      induction N18 with
      | zero =>
        intro y18_2 y18_3 y18_4 m18_i_askHouse m18_i_askTune m18_J H18 locs ls g18_0 g18_1 g18_2 g18_3 g18_4 hP hD hS hl hM
        exact ((ob_602 hM g18_3 g18_4)).elim
      | succ N18 ih18 =>
        intro y18_2 y18_3 y18_4 m18_i_askHouse m18_i_askTune m18_J H18 locs ls g18_0 g18_1 g18_2 g18_3 g18_4 hP hD hS hl hM
        have hM18 := msucc hM
        refine lv_iload hx hb dX9_round_18 (lv_at hl 4 rfl) ?_
        refine lv_aload_n hx hb dX9_round_20 rfl (lv_at hl 0 rfl) ?_
        refine va_calli (va_runV (As := []) (rest := [.int y18_4]) ⟨hx, hb, hml, hown, hG⟩ (kX9_songs l dC dI r ct i_taped i_size i_faultKind i_at i_end i_token i_number i_bank i_rb i_codes i_within i_piled i_unitsInRule m18_i_askHouse m18_i_askTune i_acts i_undone i_laid i_knowns i_time f_text f_tunes f_houses f_hums f_told f_many f_ruleFrom f_ruleTo f_code f_eWhat f_eSign f_all f_kept f_was f_sTune f_boxAll m18_J L H18.size hI) (cwV 0 hG (goodV gw1512 gw1514 gw86 gw138 gw1515) rfl rfl rfl hd_X9_songs ⟨(Nat.le_of_ble_eq_true rfl), (Nat.le_of_ble_eq_true rfl)⟩) ⟨fbR, va_recv hK hP (ci := 8) (q0 := 0) rfl rfl, pR_in hP hK⟩ rfl rfl hl.1 rfl (lv_room (Nat.le_of_ble_eq_true rfl)) dX9_round_21 ⟨(Nat.le_of_ble_eq_true rfl), (Nat.le_of_ble_eq_true rfl)⟩) hS (fun q hq h => absurd hq (Nat.not_lt.mpr h)) (fun q h => hA q (Nat.le_trans hS.1 h)) (fun r_15 u_ t_ H14 locs ht hvm hw hB hz1 hk1 hS => ?_)
        subst hw
        have hP := wk hP hk1
        have f16 := hB
        have f17 : r_15.toInt = (f_tunes (i_bank.toInt).toNat).toInt := (ob_278 f16)
        refine lv_iconst (v := 1) hx hb dX9_round_24 (by decide) ?_
        refine lv_iadd hx hb dX9_round_25 ?_
        refine lv_topi (fun x18 ex18 => ?_)
        have f19 : x18.toInt = (f_tunes (i_bank.toInt).toNat).toInt + 1 := (ob_594 (qi_add ex18 rfl zc_1 (ob_592 f1 f17) (ob_593 f1 f17)) f17)
        refine lv_aload_n hx hb dX9_round_26 rfl (lv_at hl 0 rfl) ?_
        refine va_calli (va_runV (As := []) (rest := [.int x18, .int y18_4]) ⟨hx, hb, hml, hown, hG⟩ (kX9_homes l dC dI r ct i_taped i_size i_faultKind i_at i_end i_token i_number i_bank i_rb i_codes i_within i_piled i_unitsInRule m18_i_askHouse m18_i_askTune i_acts i_undone i_laid i_knowns i_time f_text f_tunes f_houses f_hums f_told f_many f_ruleFrom f_ruleTo f_code f_eWhat f_eSign f_all f_kept f_was f_sTune f_boxAll m18_J L H14.size hI) (cwV 0 hG (goodV gw1167 gw1169 gw58 gw138 gw1170) rfl rfl rfl hd_X9_homes ⟨(Nat.le_of_ble_eq_true rfl), (Nat.le_of_ble_eq_true rfl)⟩) ⟨fbR, va_recv hK hP (ci := 8) (q0 := 0) rfl rfl, pR_in hP hK⟩ rfl rfl hl.1 rfl (lv_room (Nat.le_of_ble_eq_true rfl)) dX9_round_27 ⟨(Nat.le_of_ble_eq_true rfl), (Nat.le_of_ble_eq_true rfl)⟩) hS (fun q hq h => absurd hq (Nat.not_lt.mpr h)) (fun q h => hA q (Nat.le_trans hS.1 h)) (fun r_21 u_ t_ H20 locs ht hvm hw hB hz1 hk1 hS => ?_)
        subst hw
        have hP := wk hP hk1
        have f22 := hB
        have f23 : r_21.toInt = (f_houses (i_bank.toInt).toNat).toInt := (ob_278 f22)
        refine va_calli (va_runS (As := [.int x18, .int r_21]) (rest := [.int y18_4]) ⟨hx, hb, hml, hown, hG⟩ (kX9_power_v1 l dC dI x18 r_21 H20.size (ob_595 f1 f19) (ob_596 f1 f19) (ob_603 f2 f23) (ob_604 f2 f23)) (va_cwS 2 hG (goodS gw1756 gw1757 gw138 gw1758) rfl rfl rfl hd_X9_power ⟨(Nat.le_of_ble_eq_true rfl), (Nat.le_of_ble_eq_true rfl)⟩) ⟨fbR, pR_in emptyP (emptyK hK)⟩ rfl rfl hl.1 rfl (lv_room (Nat.le_of_ble_eq_true rfl)) dX9_round_30 ⟨(Nat.le_of_ble_eq_true rfl), (Nat.le_of_ble_eq_true rfl)⟩) hS (fun q hq h => absurd hq (Nat.not_lt.mpr h)) (fun q h => hA q (Nat.le_trans hS.1 h)) (fun r_25 u_ t_ H24 locs ht hvm hw hB hz1 hk1 hS => ?_)
        subst hw
        have hP := wk hP hk1
        obtain ⟨f26, f27, f28⟩ := hB
        have f29 : (pw x18.toInt (r_21.toInt).toNat) = (pw ((f_tunes (i_bank.toInt).toNat).toInt + 1) (r_21.toInt).toNat) := by rw [f19]
        have f30 : (pw ((f_tunes (i_bank.toInt).toNat).toInt + 1) (r_21.toInt).toNat) = (pw ((f_tunes (i_bank.toInt).toNat).toInt + 1) (((f_houses (i_bank.toInt).toNat).toInt)).toNat) := by rw [f23]
        have f31 : r_25.toInt = (pw ((f_tunes (i_bank.toInt).toNat).toInt + 1) (((f_houses (i_bank.toInt).toNat).toInt)).toNat) := (ob_605 f26 f30)
        refine lv_icmp_ge (tgt := 142) hx hb dX9_round_33 (by decide) (fun c_32 => ?_) (fun c_32 => ?_)
        · skip
          have f33 : r_25.toInt ≤ y18_4.toInt := qi_le c_32 rfl rfl
          refine lv_aload_n hx hb dX9_round_142 rfl (lv_at hl 0 rfl) ?_
          refine lv_aload_n hx hb dX9_round_143 rfl (lv_at hl 0 rfl) ?_
          refine va_calli (va_runV (As := []) (rest := [.ref (r 0)]) ⟨hx, hb, hml, hown, hG⟩ (kX9_homes l dC dI r ct i_taped i_size i_faultKind i_at i_end i_token i_number i_bank i_rb i_codes i_within i_piled i_unitsInRule m18_i_askHouse m18_i_askTune i_acts i_undone i_laid i_knowns i_time f_text f_tunes f_houses f_hums f_told f_many f_ruleFrom f_ruleTo f_code f_eWhat f_eSign f_all f_kept f_was f_sTune f_boxAll m18_J L H24.size hI) (cwV 0 hG (goodV gw1167 gw1169 gw58 gw138 gw1170) rfl rfl rfl hd_X9_homes ⟨(Nat.le_of_ble_eq_true rfl), (Nat.le_of_ble_eq_true rfl)⟩) ⟨fbR, va_recv hK hP (ci := 8) (q0 := 0) rfl rfl, pR_in hP hK⟩ rfl rfl hl.1 rfl (lv_room (Nat.le_of_ble_eq_true rfl)) dX9_round_144 ⟨(Nat.le_of_ble_eq_true rfl), (Nat.le_of_ble_eq_true rfl)⟩) hS (fun q hq h => absurd hq (Nat.not_lt.mpr h)) (fun q h => hA q (Nat.le_trans hS.1 h)) (fun r_35 u_ t_ H34 locs ht hvm hw hB hz1 hk1 hS => ?_)
          subst hw
          have hP := wk hP hk1
          have f36 := hB
          have f37 : r_35.toInt = (f_houses (i_bank.toInt).toNat).toInt := (ob_278 f36)
          refine pM_X9_373_0 hx hb hG hown hK hP hD hS dX9_round_147 (fun H38 locs hP hD hS => ?_)
          refine lv_iconst (v := 0) hx hb dX9_round_150 (by decide) ?_
          refine lv_istore (lv' := [(4, .int 0), (0, .ref (r 0)), (1, .int p0), (2, .int y18_2), (3, .int y18_3)]) hx hb dX9_round_151 hl (by decide) rfl (fun ls hl => ?_)
          have L153 : ∀ (N153 : Nat) (y153_4 : Int32) (m153_J : Nat → Nat → Int32) (H153 : Heap) (locs : List Loc) (ls : Array Slot) (g153_0 : 0 ≤ y153_4.toInt) (g153_1 : y153_4.toInt ≤ 4) (hP : va_P (dC, dI) vwCl (WM r ct i_taped i_size i_faultKind i_at i_end i_token i_number i_bank i_rb i_codes i_within i_piled i_unitsInRule m18_i_askHouse m18_i_askTune i_acts i_undone r_35 i_knowns i_time f_text f_tunes f_houses f_hums f_told f_many f_ruleFrom f_ruleTo f_code f_eWhat f_eSign f_all f_kept f_was f_sTune f_boxAll m153_J L) H153) (hD : va_D A (WM r ct i_taped i_size i_faultKind i_at i_end i_token i_number i_bank i_rb i_codes i_within i_piled i_unitsInRule m18_i_askHouse m18_i_askTune i_acts i_undone r_35 i_knowns i_time f_text f_tunes f_houses f_hums f_told f_many f_ruleFrom f_ruleTo f_code f_eWhat f_eSign f_all f_kept f_was f_sTune f_boxAll m153_J L)) (hS : va_S A s.heap H153 locs) (hl : lv_has ls 7 [(0, .ref (r 0)), (1, .int p0), (2, .int y18_2), (3, .int y18_3), (4, .int y153_4)]) (hM : -1 * y153_4.toInt + 4 < (N153 : Int)), W p l e { frames := 24, cells := 0, slots := 0, locals := 793 } s m ([.ref (r 0), .int p0] : List Value).toArray below meth c0 H153 locs 0 0 Q (F0 m 153 ls []) := by
            intro N153
            induction N153 with
            | zero =>
              intro y153_4 m153_J H153 locs ls g153_0 g153_1 hP hD hS hl hM
              exact ((ob_293 hM g153_0 g153_1)).elim
            | succ N153 ih153 =>
              intro y153_4 m153_J H153 locs ls g153_0 g153_1 hP hD hS hl hM
              have hM153 := msucc hM
              refine lv_iload hx hb dX9_round_153 (lv_at hl 4 rfl) ?_
              refine lv_aload_n hx hb dX9_round_155 rfl (lv_at hl 0 rfl) ?_
              refine va_calli (va_runV (As := []) (rest := [.int y153_4]) ⟨hx, hb, hml, hown, hG⟩ (kX9_homes l dC dI r ct i_taped i_size i_faultKind i_at i_end i_token i_number i_bank i_rb i_codes i_within i_piled i_unitsInRule m18_i_askHouse m18_i_askTune i_acts i_undone r_35 i_knowns i_time f_text f_tunes f_houses f_hums f_told f_many f_ruleFrom f_ruleTo f_code f_eWhat f_eSign f_all f_kept f_was f_sTune f_boxAll m153_J L H153.size ⟨im0, im1, im2, im3, im4, im5, im6, im7, (ob_603 f2 f37), (ob_604 f2 f37), im10, im11, im12, im13, im14, im15, im16, im17, im18, im19, im20, im21, im22, im23, im24, im25, im26, im27, im28, im29, im30⟩) (cwV 0 hG (goodV gw1167 gw1169 gw58 gw138 gw1170) rfl rfl rfl hd_X9_homes ⟨(Nat.le_of_ble_eq_true rfl), (Nat.le_of_ble_eq_true rfl)⟩) ⟨fbR, va_recv hK hP (ci := 8) (q0 := 0) rfl rfl, pR_in hP hK⟩ rfl rfl hl.1 rfl (lv_room (Nat.le_of_ble_eq_true rfl)) dX9_round_156 ⟨(Nat.le_of_ble_eq_true rfl), (Nat.le_of_ble_eq_true rfl)⟩) hS (fun q hq h => absurd hq (Nat.not_lt.mpr h)) (fun q h => hA q (Nat.le_trans hS.1 h)) (fun r_40 u_ t_ H39 locs ht hvm hw hB hz1 hk1 hS => ?_)
              subst hw
              have hP := wk hP hk1
              have f41 := hB
              have f42 : r_40.toInt = (f_houses (i_bank.toInt).toNat).toInt := (ob_278 f41)
              refine lv_icmp_ge (tgt := 212) hx hb dX9_round_159 (by decide) (fun c_43 => ?_) (fun c_43 => ?_)
              · skip
                have f44 : r_40.toInt ≤ y153_4.toInt := qi_le c_43 rfl rfl
                refine lv_iload_n hx hb dX9_round_212 rfl (lv_at hl 1 rfl) ?_
                refine lv_if_ne (tgt := 224) hx hb dX9_round_213 (by decide) (fun c_45 => ?_) (fun c_45 => ?_)
                · skip
                  have f46 : p0.toInt ≠ 0 := qi_ne c_45 rfl zc_0
                  have f47 : 1 ≤ p0.toInt := (ob_444 f11 f46)
                  refine lv_iload_n hx hb dX9_round_224 rfl (lv_at hl 3 rfl) ?_
                  refine lv_sipush (v := 1000) hx hb dX9_round_225 (by decide) ?_
                  refine lv_irem hx hb dX9_round_228 (by decide) ?_
                  refine lv_topi (fun x48 ex48 => ?_)
                  have f49 : (-1000) < x48.toInt ∧ x48.toInt < 1000 := qi_remb ex48 zc_1000 (by decide)
                  rw [hQ]
                  exact W.iret (v := x48) hx hb hr (fun t ht hW => ⟨⟨x48, x48, rfl, rfl, ⟨m18_i_askHouse, m18_i_askTune, r_35, m153_J, by rw [ht]; exact hP, hD, ⟨im0, im1, im2, im3, im4, im5, im6, im7, (ob_606 f2 f44 f42 f37), (ob_607 f2 f44 f42 f37), im10, im11, im12, im13, im14, im15, im16, im17, im18, im19, im20, im21, im22, im23, im24, im25, im26, im27, im28, im29, im30⟩⟩⟩, hS.F ht⟩) hS.2.2 dX9_round_229
                · skip
                  have f50 : p0.toInt = 0 := qi_eq c_45 rfl zc_0
                  refine lv_iload_n hx hb dX9_round_216 rfl (lv_at hl 3 rfl) ?_
                  refine lv_sipush (v := 1000) hx hb dX9_round_217 (by decide) ?_
                  refine lv_idiv hx hb dX9_round_220 (by decide) ?_
                  refine lv_topi (fun x51 ex51 => ?_)
                  refine lv_goto (tgt := 229) hx hb dX9_round_221 (by decide) ?_
                  rw [hQ]
                  exact W.iret (v := x51) hx hb hr (fun t ht hW => ⟨⟨x51, x51, rfl, rfl, ⟨m18_i_askHouse, m18_i_askTune, r_35, m153_J, by rw [ht]; exact hP, hD, ⟨im0, im1, im2, im3, im4, im5, im6, im7, (ob_606 f2 f44 f42 f37), (ob_607 f2 f44 f42 f37), im10, im11, im12, im13, im14, im15, im16, im17, im18, im19, im20, im21, im22, im23, im24, im25, im26, im27, im28, im29, im30⟩⟩⟩, hS.F ht⟩) hS.2.2 dX9_round_229
              · skip
                have f52 : y153_4.toInt < r_40.toInt := qi_nle c_43 rfl rfl
                refine lv_aload_n hx hb dX9_round_162 rfl (lv_at hl 0 rfl) ?_
                refine gM_X9_97_0 hx hb hG hown hK hP dX9_round_163 ?_
                refine lv_iload hx hb dX9_round_166 (lv_at hl 4 rfl) ?_
                refine lv_aload_n hx hb dX9_round_168 rfl (lv_at hl 0 rfl) ?_
                refine lv_iload_n hx hb dX9_round_169 rfl (lv_at hl 2 rfl) ?_
                refine lv_aload_n hx hb dX9_round_170 rfl (lv_at hl 0 rfl) ?_
                refine va_calli (va_runV (As := []) (rest := [.int y18_2, .ref (r 0), .int y153_4, .ref (r 28)]) ⟨hx, hb, hml, hown, hG⟩ (kX9_songs l dC dI r ct i_taped i_size i_faultKind i_at i_end i_token i_number i_bank i_rb i_codes i_within i_piled i_unitsInRule m18_i_askHouse m18_i_askTune i_acts i_undone r_35 i_knowns i_time f_text f_tunes f_houses f_hums f_told f_many f_ruleFrom f_ruleTo f_code f_eWhat f_eSign f_all f_kept f_was f_sTune f_boxAll m153_J L H39.size ⟨im0, im1, im2, im3, im4, im5, im6, im7, (ob_608 f2 f52 f42 f37), (ob_609 f2 f52 f42 f37), im10, im11, im12, im13, im14, im15, im16, im17, im18, im19, im20, im21, im22, im23, im24, im25, im26, im27, im28, im29, im30⟩) (cwV 0 hG (goodV gw1512 gw1514 gw86 gw138 gw1515) rfl rfl rfl hd_X9_songs ⟨(Nat.le_of_ble_eq_true rfl), (Nat.le_of_ble_eq_true rfl)⟩) ⟨fbR, va_recv hK hP (ci := 8) (q0 := 0) rfl rfl, pR_in hP hK⟩ rfl rfl hl.1 rfl (lv_room (Nat.le_of_ble_eq_true rfl)) dX9_round_171 ⟨(Nat.le_of_ble_eq_true rfl), (Nat.le_of_ble_eq_true rfl)⟩) hS (fun q hq h => absurd hq (Nat.not_lt.mpr h)) (fun q h => hA q (Nat.le_trans hS.1 h)) (fun r_54 u_ t_ H53 locs ht hvm hw hB hz1 hk1 hS => ?_)
                subst hw
                have hP := wk hP hk1
                have f55 := hB
                have f56 : r_54.toInt = (f_tunes (i_bank.toInt).toNat).toInt := (ob_278 f55)
                refine lv_iconst (v := 1) hx hb dX9_round_174 (by decide) ?_
                refine lv_iadd hx hb dX9_round_175 ?_
                refine lv_topi (fun x57 ex57 => ?_)
                have f58 : x57.toInt = (f_tunes (i_bank.toInt).toNat).toInt + 1 := (ob_594 (qi_add ex57 rfl zc_1 (ob_592 f1 f56) (ob_593 f1 f56)) f56)
                refine lv_iload hx hb dX9_round_176 (lv_at hl 4 rfl) ?_
                refine va_calli (va_runV (As := [.int y18_2, .int x57, .int y153_4]) (rest := [.int y153_4, .ref (r 28)]) ⟨hx, hb, hml, hown, hG⟩ (kX9_digit l dC dI r ct i_taped i_size i_faultKind i_at i_end i_token i_number i_bank i_rb i_codes i_within i_piled i_unitsInRule m18_i_askHouse m18_i_askTune i_acts i_undone r_35 i_knowns i_time f_text f_tunes f_houses f_hums f_told f_many f_ruleFrom f_ruleTo f_code f_eWhat f_eSign f_all f_kept f_was f_sTune f_boxAll m153_J L y18_2 x57 y153_4 H53.size ⟨im0, im1, im2, im3, im4, im5, im6, im7, (ob_608 f2 f52 f42 f37), (ob_609 f2 f52 f42 f37), im10, im11, im12, im13, im14, im15, im16, im17, im18, im19, im20, im21, im22, im23, im24, im25, im26, im27, im28, im29, im30⟩ (ob_595 f1 f58) (ob_596 f1 f58) (ob_133 g153_0) (ob_361 f52 f42)) (cwV 3 hG (goodV gw1763 gw1765 gw116 gw138 gw1766) rfl rfl rfl hd_X9_digit ⟨(Nat.le_of_ble_eq_true rfl), (Nat.le_of_ble_eq_true rfl)⟩) ⟨fbR, va_recv hK hP (ci := 8) (q0 := 0) rfl rfl, pR_in hP hK⟩ rfl rfl hl.1 rfl (lv_room (Nat.le_of_ble_eq_true rfl)) dX9_round_178 ⟨(Nat.le_of_ble_eq_true rfl), (Nat.le_of_ble_eq_true rfl)⟩) hS (fun q hq h => absurd hq (Nat.not_lt.mpr h)) (fun q h => hA q (Nat.le_trans hS.1 h)) (fun r_60 u_ t_ H59 locs ht hvm hw hB hz1 hk1 hS => ?_)
                subst hw
                have hP := wk hP hk1
                refine lv_aload_n hx hb dX9_round_181 rfl (lv_at hl 0 rfl) ?_
                refine va_calli (va_runV (As := []) (rest := [.int r_60, .int y153_4, .ref (r 28)]) ⟨hx, hb, hml, hown, hG⟩ (kX9_songs l dC dI r ct i_taped i_size i_faultKind i_at i_end i_token i_number i_bank i_rb i_codes i_within i_piled i_unitsInRule m18_i_askHouse m18_i_askTune i_acts i_undone r_35 i_knowns i_time f_text f_tunes f_houses f_hums f_told f_many f_ruleFrom f_ruleTo f_code f_eWhat f_eSign f_all f_kept f_was f_sTune f_boxAll m153_J L H59.size ⟨im0, im1, im2, im3, im4, im5, im6, im7, (ob_608 f2 f52 f42 f37), (ob_609 f2 f52 f42 f37), im10, im11, im12, im13, im14, im15, im16, im17, im18, im19, im20, im21, im22, im23, im24, im25, im26, im27, im28, im29, im30⟩) (cwV 0 hG (goodV gw1512 gw1514 gw86 gw138 gw1515) rfl rfl rfl hd_X9_songs ⟨(Nat.le_of_ble_eq_true rfl), (Nat.le_of_ble_eq_true rfl)⟩) ⟨fbR, va_recv hK hP (ci := 8) (q0 := 0) rfl rfl, pR_in hP hK⟩ rfl rfl hl.1 rfl (lv_room (Nat.le_of_ble_eq_true rfl)) dX9_round_182 ⟨(Nat.le_of_ble_eq_true rfl), (Nat.le_of_ble_eq_true rfl)⟩) hS (fun q hq h => absurd hq (Nat.not_lt.mpr h)) (fun q h => hA q (Nat.le_trans hS.1 h)) (fun r_62 u_ t_ H61 locs ht hvm hw hB hz1 hk1 hS => ?_)
                subst hw
                have hP := wk hP hk1
                have f63 := hB
                have f64 : r_62.toInt = (f_tunes (i_bank.toInt).toNat).toInt := (ob_278 f63)
                refine lv_icmp_ne (tgt := 192) hx hb dX9_round_185 (by decide) (fun c_65 => ?_) (fun c_65 => ?_)
                · skip
                  have f66 : r_60.toInt ≠ r_62.toInt := qi_ne c_65 rfl rfl
                  refine lv_aload_n hx hb dX9_round_192 rfl (lv_at hl 0 rfl) ?_
                  refine lv_iload_n hx hb dX9_round_193 rfl (lv_at hl 2 rfl) ?_
                  refine lv_aload_n hx hb dX9_round_194 rfl (lv_at hl 0 rfl) ?_
                  refine va_calli (va_runV (As := []) (rest := [.int y18_2, .ref (r 0), .int y153_4, .ref (r 28)]) ⟨hx, hb, hml, hown, hG⟩ (kX9_songs l dC dI r ct i_taped i_size i_faultKind i_at i_end i_token i_number i_bank i_rb i_codes i_within i_piled i_unitsInRule m18_i_askHouse m18_i_askTune i_acts i_undone r_35 i_knowns i_time f_text f_tunes f_houses f_hums f_told f_many f_ruleFrom f_ruleTo f_code f_eWhat f_eSign f_all f_kept f_was f_sTune f_boxAll m153_J L H61.size ⟨im0, im1, im2, im3, im4, im5, im6, im7, (ob_608 f2 f52 f42 f37), (ob_609 f2 f52 f42 f37), im10, im11, im12, im13, im14, im15, im16, im17, im18, im19, im20, im21, im22, im23, im24, im25, im26, im27, im28, im29, im30⟩) (cwV 0 hG (goodV gw1512 gw1514 gw86 gw138 gw1515) rfl rfl rfl hd_X9_songs ⟨(Nat.le_of_ble_eq_true rfl), (Nat.le_of_ble_eq_true rfl)⟩) ⟨fbR, va_recv hK hP (ci := 8) (q0 := 0) rfl rfl, pR_in hP hK⟩ rfl rfl hl.1 rfl (lv_room (Nat.le_of_ble_eq_true rfl)) dX9_round_195 ⟨(Nat.le_of_ble_eq_true rfl), (Nat.le_of_ble_eq_true rfl)⟩) hS (fun q hq h => absurd hq (Nat.not_lt.mpr h)) (fun q h => hA q (Nat.le_trans hS.1 h)) (fun r_68 u_ t_ H67 locs ht hvm hw hB hz1 hk1 hS => ?_)
                  subst hw
                  have hP := wk hP hk1
                  have f69 := hB
                  have f70 : r_68.toInt = (f_tunes (i_bank.toInt).toNat).toInt := (ob_278 f69)
                  refine lv_iconst (v := 1) hx hb dX9_round_198 (by decide) ?_
                  refine lv_iadd hx hb dX9_round_199 ?_
                  refine lv_topi (fun x71 ex71 => ?_)
                  have f72 : x71.toInt = (f_tunes (i_bank.toInt).toNat).toInt + 1 := (ob_594 (qi_add ex71 rfl zc_1 (ob_592 f1 f70) (ob_593 f1 f70)) f70)
                  refine lv_iload hx hb dX9_round_200 (lv_at hl 4 rfl) ?_
                  refine va_calli (va_runV (As := [.int y18_2, .int x71, .int y153_4]) (rest := [.int y153_4, .ref (r 28)]) ⟨hx, hb, hml, hown, hG⟩ (kX9_digit l dC dI r ct i_taped i_size i_faultKind i_at i_end i_token i_number i_bank i_rb i_codes i_within i_piled i_unitsInRule m18_i_askHouse m18_i_askTune i_acts i_undone r_35 i_knowns i_time f_text f_tunes f_houses f_hums f_told f_many f_ruleFrom f_ruleTo f_code f_eWhat f_eSign f_all f_kept f_was f_sTune f_boxAll m153_J L y18_2 x71 y153_4 H67.size ⟨im0, im1, im2, im3, im4, im5, im6, im7, (ob_608 f2 f52 f42 f37), (ob_609 f2 f52 f42 f37), im10, im11, im12, im13, im14, im15, im16, im17, im18, im19, im20, im21, im22, im23, im24, im25, im26, im27, im28, im29, im30⟩ (ob_595 f1 f72) (ob_596 f1 f72) (ob_133 g153_0) (ob_361 f52 f42)) (cwV 3 hG (goodV gw1763 gw1765 gw116 gw138 gw1766) rfl rfl rfl hd_X9_digit ⟨(Nat.le_of_ble_eq_true rfl), (Nat.le_of_ble_eq_true rfl)⟩) ⟨fbR, va_recv hK hP (ci := 8) (q0 := 0) rfl rfl, pR_in hP hK⟩ rfl rfl hl.1 rfl (lv_room (Nat.le_of_ble_eq_true rfl)) dX9_round_202 ⟨(Nat.le_of_ble_eq_true rfl), (Nat.le_of_ble_eq_true rfl)⟩) hS (fun q hq h => absurd hq (Nat.not_lt.mpr h)) (fun q h => hA q (Nat.le_trans hS.1 h)) (fun r_74 u_ t_ H73 locs ht hvm hw hB hz1 hk1 hS => ?_)
                  subst hw
                  have hP := wk hP hk1
                  refine stM_28 (mm := y153_4.toInt) hx hb hK hP hD hS rfl (ob_133 g153_0) (ob_610 f2 f52 f42) dX9_round_205 (fun J76 H75 locs hP hD hS => ?_)
                  obtain ⟨x77, ex77⟩ : ∃ y : Int32, y = y153_4 + Int32.ofInt 1 := ⟨_, rfl⟩
                  have f78 : x77.toInt = y153_4.toInt + 1 := (ob_139 (qi_add ex77 rfl (by decide) (ob_137 g153_0) (ob_304 g153_1)))
                  refine lv_iinc (v := x77) (lv' := [(4, .int x77), (0, .ref (r 0)), (1, .int p0), (2, .int y18_2), (3, .int y18_3)]) hx hb dX9_round_206 hl (k := 4) rfl ex77.symm (by decide) rfl (fun ls hl => ?_)
                  refine lv_goto (tgt := 153) hx hb dX9_round_209 (by decide) ?_
                  exact ih153 x77 J76 H75 _ _ (ob_140 g153_0 f78) (ob_305 f2 f52 f42 f78) hP hD hS (lv_sub hl [1, 2, 3, 4, 0] rfl) (ob_306 hM153 f78)
                · skip
                  have f79 : r_60.toInt = r_62.toInt := qi_eq c_65 rfl rfl
                  refine lv_iconst (v := (-1)) hx hb dX9_round_188 (by decide) ?_
                  refine lv_goto (tgt := 205) hx hb dX9_round_189 (by decide) ?_
                  refine stM_28 (mm := y153_4.toInt) hx hb hK hP hD hS rfl (ob_133 g153_0) (ob_610 f2 f52 f42) dX9_round_205 (fun J81 H80 locs hP hD hS => ?_)
                  obtain ⟨x82, ex82⟩ : ∃ y : Int32, y = y153_4 + Int32.ofInt 1 := ⟨_, rfl⟩
                  have f83 : x82.toInt = y153_4.toInt + 1 := (ob_139 (qi_add ex82 rfl (by decide) (ob_137 g153_0) (ob_304 g153_1)))
                  refine lv_iinc (v := x82) (lv' := [(4, .int x82), (0, .ref (r 0)), (1, .int p0), (2, .int y18_2), (3, .int y18_3)]) hx hb dX9_round_206 hl (k := 4) rfl ex82.symm (by decide) rfl (fun ls hl => ?_)
                  refine lv_goto (tgt := 153) hx hb dX9_round_209 (by decide) ?_
                  exact ih153 x82 J81 H80 _ _ (ob_140 g153_0 f83) (ob_305 f2 f52 f42 f83) hP hD hS (lv_sub hl [1, 2, 3, 4, 0] rfl) (ob_306 hM153 f83)
          exact L153 (-1 * (0 : Int32).toInt + 4 + 1).toNat 0 m18_J H38 _ _ (ob_5 zc_0) (ob_307 zc_0) hP hD hS (lv_sub hl [1, 2, 3, 4, 0] rfl) (mlt (ob_308 zc_0))
        · skip
          have f84 : y18_4.toInt < r_25.toInt := qi_nle c_32 rfl rfl
          refine lv_aload_n hx hb dX9_round_36 rfl (lv_at hl 0 rfl) ?_
          refine lv_iload hx hb dX9_round_37 (lv_at hl 4 rfl) ?_
          have hFc := frA hD hS hA
          refine va_calli (va_runV (As := [.int y18_4]) (rest := []) ⟨hx, hb, hml, hown, hG⟩ (kX9_isRound l dC dI r ct i_taped i_size i_faultKind i_at i_end i_token i_number i_bank i_rb i_codes i_within i_piled i_unitsInRule m18_i_askHouse m18_i_askTune i_acts i_undone i_laid i_knowns i_time f_text f_tunes f_houses f_hums f_told f_many f_ruleFrom f_ruleTo f_code f_eWhat f_eSign f_all f_kept f_was f_sTune f_boxAll m18_J L y18_4 H24.size hI (ob_133 g18_3) (ob_611 g18_4)) (cwV 1 hG (goodV gw1759 gw1761 gw115 gw138 gw1762) rfl rfl rfl hd_X9_isRound ⟨(Nat.le_of_ble_eq_true rfl), (Nat.le_of_ble_eq_true rfl)⟩) ⟨fbW, va_recv hK hP (ci := 8) (q0 := 0) rfl rfl, pW_in hP hK hD⟩ rfl rfl hl.1 rfl (lv_room (Nat.le_of_ble_eq_true rfl)) dX9_round_39 ⟨(Nat.le_of_ble_eq_true rfl), (Nat.le_of_ble_eq_true rfl)⟩) hS (fun q _ h => hFc q h) hFc (fun r_86 u_ t_ H85 locs ht hvm hw hB hz1 hk1 hS => ?_)
          subst hw
          obtain ⟨x87, x88, J89, hP1, hD1, hI93, f90, f91, f92⟩ := hB
          rw [ht] at hP1
          have hP := hP1
          have hD := dW hFc hD1
          obtain ⟨im94, im95, im96, im97, im98, im99, im100, im101, im102, im103, im104, im105, im106, im107, im108, im109, im110, im111, im112, im113, im114, im115, im116, im117, im118, im119, im120, im121, im122, im123, im124⟩ := id hI93
          refine lv_if_ne (tgt := 48) hx hb dX9_round_42 (by decide) (fun c_125 => ?_) (fun c_125 => ?_)
          · skip
            have f126 : r_86.toInt ≠ 0 := qi_ne c_125 rfl zc_0
            have f127 : 1 ≤ r_86.toInt := (ob_612 f90 f126)
            have f128 : r_86.toInt = 1 := (ob_167 f91 f92 f127)
            refine lv_iconst (v := 0) hx hb dX9_round_48 (by decide) ?_
            refine lv_istore (lv' := [(5, .int 0), (0, .ref (r 0)), (1, .int p0), (2, .int y18_2), (3, .int y18_3), (4, .int y18_4)]) hx hb dX9_round_49 hl (by decide) rfl (fun ls hl => ?_)
            refine lv_iconst (v := 0) hx hb dX9_round_51 (by decide) ?_
            refine lv_istore (lv' := [(6, .int 0), (5, .int 0), (0, .ref (r 0)), (1, .int p0), (2, .int y18_2), (3, .int y18_3), (4, .int y18_4)]) hx hb dX9_round_52 hl (by decide) rfl (fun ls hl => ?_)
            have L54 : ∀ (N54 : Nat) (y54_5 y54_6 : Int32) (H54 : Heap) (locs : List Loc) (ls : Array Slot) (g54_0 : 0 ≤ y54_6.toInt) (g54_1 : y54_6.toInt ≤ 4) (hP : va_P (dC, dI) vwCl (WM r ct i_taped i_size i_faultKind i_at i_end i_token i_number i_bank i_rb i_codes i_within i_piled i_unitsInRule x87 x88 i_acts i_undone i_laid i_knowns i_time f_text f_tunes f_houses f_hums f_told f_many f_ruleFrom f_ruleTo f_code f_eWhat f_eSign f_all f_kept f_was f_sTune f_boxAll J89 L) H54) (hD : va_D A (WM r ct i_taped i_size i_faultKind i_at i_end i_token i_number i_bank i_rb i_codes i_within i_piled i_unitsInRule x87 x88 i_acts i_undone i_laid i_knowns i_time f_text f_tunes f_houses f_hums f_told f_many f_ruleFrom f_ruleTo f_code f_eWhat f_eSign f_all f_kept f_was f_sTune f_boxAll J89 L)) (hS : va_S A s.heap H54 locs) (hl : lv_has ls 7 [(0, .ref (r 0)), (1, .int p0), (2, .int y18_2), (3, .int y18_3), (4, .int y18_4), (5, .int y54_5), (6, .int y54_6)]) (hM : -1 * y54_6.toInt + 4 < (N54 : Int)), W p l e { frames := 24, cells := 0, slots := 0, locals := 793 } s m ([.ref (r 0), .int p0] : List Value).toArray below meth c0 H54 locs 0 0 Q (F0 m 54 ls []) := by
              intro N54
              induction N54 with
              | zero =>
                intro y54_5 y54_6 H54 locs ls g54_0 g54_1 hP hD hS hl hM
                exact ((ob_293 hM g54_0 g54_1)).elim
              | succ N54 ih54 =>
                intro y54_5 y54_6 H54 locs ls g54_0 g54_1 hP hD hS hl hM
                have hM54 := msucc hM
                refine lv_iload hx hb dX9_round_54 (lv_at hl 6 rfl) ?_
                refine lv_aload_n hx hb dX9_round_56 rfl (lv_at hl 0 rfl) ?_
                refine va_calli (va_runV (As := []) (rest := [.int y54_6]) ⟨hx, hb, hml, hown, hG⟩ (kX9_homes l dC dI r ct i_taped i_size i_faultKind i_at i_end i_token i_number i_bank i_rb i_codes i_within i_piled i_unitsInRule x87 x88 i_acts i_undone i_laid i_knowns i_time f_text f_tunes f_houses f_hums f_told f_many f_ruleFrom f_ruleTo f_code f_eWhat f_eSign f_all f_kept f_was f_sTune f_boxAll J89 L H54.size hI93) (cwV 0 hG (goodV gw1167 gw1169 gw58 gw138 gw1170) rfl rfl rfl hd_X9_homes ⟨(Nat.le_of_ble_eq_true rfl), (Nat.le_of_ble_eq_true rfl)⟩) ⟨fbR, va_recv hK hP (ci := 8) (q0 := 0) rfl rfl, pR_in hP hK⟩ rfl rfl hl.1 rfl (lv_room (Nat.le_of_ble_eq_true rfl)) dX9_round_57 ⟨(Nat.le_of_ble_eq_true rfl), (Nat.le_of_ble_eq_true rfl)⟩) hS (fun q hq h => absurd hq (Nat.not_lt.mpr h)) (fun q h => hA q (Nat.le_trans hS.1 h)) (fun r_130 u_ t_ H129 locs ht hvm hw hB hz1 hk1 hS => ?_)
                subst hw
                have hP := wk hP hk1
                have f131 := hB
                have f132 : r_130.toInt = (f_houses (i_bank.toInt).toNat).toInt := (ob_278 f131)
                refine lv_icmp_ge (tgt := 121) hx hb dX9_round_60 (by decide) (fun c_133 => ?_) (fun c_133 => ?_)
                · skip
                  have f134 : r_130.toInt ≤ y54_6.toInt := qi_le c_133 rfl rfl
                  refine lv_iload hx hb dX9_round_121 (lv_at hl 5 rfl) ?_
                  refine lv_iload_n hx hb dX9_round_123 rfl (lv_at hl 3 rfl) ?_
                  refine lv_icmp_gt (tgt := 130) hx hb dX9_round_124 (by decide) (fun c_135 => ?_) (fun c_135 => ?_)
                  · skip
                    have f136 : y18_3.toInt < y54_5.toInt := qi_lt c_135 rfl rfl
                    refine lv_iload hx hb dX9_round_130 (lv_at hl 4 rfl) ?_
                    refine lv_istore_n (lv' := [(2, .int y18_4), (0, .ref (r 0)), (1, .int p0), (3, .int y18_3), (4, .int y18_4), (5, .int y54_5), (6, .int y54_6)]) hx hb dX9_round_132 rfl hl (by decide) rfl (fun ls hl => ?_)
                    refine lv_iload hx hb dX9_round_133 (lv_at hl 5 rfl) ?_
                    refine lv_istore_n (lv' := [(3, .int y54_5), (2, .int y18_4), (0, .ref (r 0)), (1, .int p0), (4, .int y18_4), (5, .int y54_5), (6, .int y54_6)]) hx hb dX9_round_135 rfl hl (by decide) rfl (fun ls hl => ?_)
                    obtain ⟨x137, ex137⟩ : ∃ y : Int32, y = y18_4 + Int32.ofInt 1 := ⟨_, rfl⟩
                    have f138 : x137.toInt = y18_4.toInt + 1 := (ob_139 (qi_add ex137 rfl (by decide) (ob_137 g18_3) (ob_613 g18_4)))
                    refine lv_iinc (v := x137) (lv' := [(4, .int x137), (3, .int y54_5), (2, .int y18_4), (0, .ref (r 0)), (1, .int p0), (5, .int y54_5), (6, .int y54_6)]) hx hb dX9_round_136 hl (k := 4) rfl ex137.symm (by decide) rfl (fun ls hl => ?_)
                    refine lv_goto (tgt := 18) hx hb dX9_round_139 (by decide) ?_
                    exact ih18 y18_4 y54_5 x137 x87 x88 J89 H129 _ _ (ob_360 g18_3) (ob_614 g18_4) (ob_615 g18_2 f136) (ob_140 g18_3 f138) (ob_616 f29 f30 f28 f84 f31 f138) hP hD hS (lv_sub hl [3, 4, 2, 1, 0] rfl) (ob_617 hM18 f138)
                  · skip
                    have f139 : y54_5.toInt ≤ y18_3.toInt := qi_nlt c_135 rfl rfl
                    refine lv_goto (tgt := 136) hx hb dX9_round_127 (by decide) ?_
                    obtain ⟨x140, ex140⟩ : ∃ y : Int32, y = y18_4 + Int32.ofInt 1 := ⟨_, rfl⟩
                    have f141 : x140.toInt = y18_4.toInt + 1 := (ob_139 (qi_add ex140 rfl (by decide) (ob_137 g18_3) (ob_613 g18_4)))
                    refine lv_iinc (v := x140) (lv' := [(4, .int x140), (0, .ref (r 0)), (1, .int p0), (2, .int y18_2), (3, .int y18_3), (5, .int y54_5), (6, .int y54_6)]) hx hb dX9_round_136 hl (k := 4) rfl ex140.symm (by decide) rfl (fun ls hl => ?_)
                    refine lv_goto (tgt := 18) hx hb dX9_round_139 (by decide) ?_
                    exact ih18 y18_2 y18_3 x140 x87 x88 J89 H129 _ _ (ob_459 g18_0 g18_1) (ob_460 g18_0 g18_1) (ob_618 g18_2 f139) (ob_140 g18_3 f141) (ob_616 f29 f30 f28 f84 f31 f141) hP hD hS (lv_sub hl [1, 2, 3, 4, 0] rfl) (ob_617 hM18 f141)
                · skip
                  have f142 : y54_6.toInt < r_130.toInt := qi_nle c_133 rfl rfl
                  refine lv_iload hx hb dX9_round_63 (lv_at hl 5 rfl) ?_
                  refine lv_aload_n hx hb dX9_round_65 rfl (lv_at hl 0 rfl) ?_
                  refine lv_iload hx hb dX9_round_66 (lv_at hl 4 rfl) ?_
                  refine lv_aload_n hx hb dX9_round_68 rfl (lv_at hl 0 rfl) ?_
                  refine va_calli (va_runV (As := []) (rest := [.int y18_4, .ref (r 0), .int y54_5]) ⟨hx, hb, hml, hown, hG⟩ (kX9_songs l dC dI r ct i_taped i_size i_faultKind i_at i_end i_token i_number i_bank i_rb i_codes i_within i_piled i_unitsInRule x87 x88 i_acts i_undone i_laid i_knowns i_time f_text f_tunes f_houses f_hums f_told f_many f_ruleFrom f_ruleTo f_code f_eWhat f_eSign f_all f_kept f_was f_sTune f_boxAll J89 L H129.size hI93) (cwV 0 hG (goodV gw1512 gw1514 gw86 gw138 gw1515) rfl rfl rfl hd_X9_songs ⟨(Nat.le_of_ble_eq_true rfl), (Nat.le_of_ble_eq_true rfl)⟩) ⟨fbR, va_recv hK hP (ci := 8) (q0 := 0) rfl rfl, pR_in hP hK⟩ rfl rfl hl.1 rfl (lv_room (Nat.le_of_ble_eq_true rfl)) dX9_round_69 ⟨(Nat.le_of_ble_eq_true rfl), (Nat.le_of_ble_eq_true rfl)⟩) hS (fun q hq h => absurd hq (Nat.not_lt.mpr h)) (fun q h => hA q (Nat.le_trans hS.1 h)) (fun r_144 u_ t_ H143 locs ht hvm hw hB hz1 hk1 hS => ?_)
                  subst hw
                  have hP := wk hP hk1
                  have f145 := hB
                  have f146 : r_144.toInt = (f_tunes (i_bank.toInt).toNat).toInt := (ob_278 f145)
                  refine lv_iconst (v := 1) hx hb dX9_round_72 (by decide) ?_
                  refine lv_iadd hx hb dX9_round_73 ?_
                  refine lv_topi (fun x147 ex147 => ?_)
                  have f148 : x147.toInt = (f_tunes (i_bank.toInt).toNat).toInt + 1 := (ob_594 (qi_add ex147 rfl zc_1 (ob_592 f1 f146) (ob_593 f1 f146)) f146)
                  refine lv_iload hx hb dX9_round_74 (lv_at hl 6 rfl) ?_
                  refine va_calli (va_runV (As := [.int y18_4, .int x147, .int y54_6]) (rest := [.int y54_5]) ⟨hx, hb, hml, hown, hG⟩ (kX9_digit_v1 l dC dI r ct i_taped i_size i_faultKind i_at i_end i_token i_number i_bank i_rb i_codes i_within i_piled i_unitsInRule x87 x88 i_acts i_undone i_laid i_knowns i_time f_text f_tunes f_houses f_hums f_told f_many f_ruleFrom f_ruleTo f_code f_eWhat f_eSign f_all f_kept f_was f_sTune f_boxAll J89 L y18_4 x147 y54_6 H143.size hI93 (ob_595 f1 f148) (ob_596 f1 f148) (ob_133 g54_0) (ob_361 f142 f132) (ob_133 g18_3) (ob_611 g18_4)) (cwV 3 hG (goodV gw1763 gw1765 gw116 gw138 gw1766) rfl rfl rfl hd_X9_digit ⟨(Nat.le_of_ble_eq_true rfl), (Nat.le_of_ble_eq_true rfl)⟩) ⟨fbR, va_recv hK hP (ci := 8) (q0 := 0) rfl rfl, pR_in hP hK⟩ rfl rfl hl.1 rfl (lv_room (Nat.le_of_ble_eq_true rfl)) dX9_round_76 ⟨(Nat.le_of_ble_eq_true rfl), (Nat.le_of_ble_eq_true rfl)⟩) hS (fun q hq h => absurd hq (Nat.not_lt.mpr h)) (fun q h => hA q (Nat.le_trans hS.1 h)) (fun r_150 u_ t_ H149 locs ht hvm hw hB hz1 hk1 hS => ?_)
                  subst hw
                  have hP := wk hP hk1
                  obtain ⟨f151, f152, f153, f154⟩ := hB
                  have f155 : ((y18_4.toInt / (pw x147.toInt (((f_houses (i_bank.toInt).toNat).toInt + -1 * y54_6.toInt + (-1))).toNat)) % x147.toInt) = ((y18_4.toInt / (pw ((f_tunes (i_bank.toInt).toNat).toInt + 1) (((f_houses (i_bank.toInt).toNat).toInt + -1 * y54_6.toInt + (-1))).toNat)) % ((f_tunes (i_bank.toInt).toNat).toInt + 1)) := by rw [f148]
                  have f156 : r_150.toInt = ((y18_4.toInt / (pw ((f_tunes (i_bank.toInt).toNat).toInt + 1) (((f_houses (i_bank.toInt).toNat).toInt + -1 * y54_6.toInt + (-1))).toNat)) % ((f_tunes (i_bank.toInt).toNat).toInt + 1)) := (ob_581 f151 f155)
                  refine lv_aload_n hx hb dX9_round_79 rfl (lv_at hl 0 rfl) ?_
                  refine va_calli (va_runV (As := []) (rest := [.int r_150, .int y54_5]) ⟨hx, hb, hml, hown, hG⟩ (kX9_songs l dC dI r ct i_taped i_size i_faultKind i_at i_end i_token i_number i_bank i_rb i_codes i_within i_piled i_unitsInRule x87 x88 i_acts i_undone i_laid i_knowns i_time f_text f_tunes f_houses f_hums f_told f_many f_ruleFrom f_ruleTo f_code f_eWhat f_eSign f_all f_kept f_was f_sTune f_boxAll J89 L H149.size hI93) (cwV 0 hG (goodV gw1512 gw1514 gw86 gw138 gw1515) rfl rfl rfl hd_X9_songs ⟨(Nat.le_of_ble_eq_true rfl), (Nat.le_of_ble_eq_true rfl)⟩) ⟨fbR, va_recv hK hP (ci := 8) (q0 := 0) rfl rfl, pR_in hP hK⟩ rfl rfl hl.1 rfl (lv_room (Nat.le_of_ble_eq_true rfl)) dX9_round_80 ⟨(Nat.le_of_ble_eq_true rfl), (Nat.le_of_ble_eq_true rfl)⟩) hS (fun q hq h => absurd hq (Nat.not_lt.mpr h)) (fun q h => hA q (Nat.le_trans hS.1 h)) (fun r_158 u_ t_ H157 locs ht hvm hw hB hz1 hk1 hS => ?_)
                  subst hw
                  have hP := wk hP hk1
                  have f159 := hB
                  have f160 : r_158.toInt = (f_tunes (i_bank.toInt).toNat).toInt := (ob_278 f159)
                  refine lv_icmp_ge (tgt := 111) hx hb dX9_round_83 (by decide) (fun c_161 => ?_) (fun c_161 => ?_)
                  · skip
                    have f162 : r_158.toInt ≤ r_150.toInt := qi_le c_161 rfl rfl
                    refine lv_iconst (v := 0) hx hb dX9_round_111 (by decide) ?_
                    refine lv_iadd hx hb dX9_round_112 ?_
                    refine lv_topi (fun x163 ex163 => ?_)
                    refine lv_istore (lv' := [(5, .int x163), (0, .ref (r 0)), (1, .int p0), (2, .int y18_2), (3, .int y18_3), (4, .int y18_4), (6, .int y54_6)]) hx hb dX9_round_113 hl (by decide) rfl (fun ls hl => ?_)
                    obtain ⟨x164, ex164⟩ : ∃ y : Int32, y = y54_6 + Int32.ofInt 1 := ⟨_, rfl⟩
                    have f165 : x164.toInt = y54_6.toInt + 1 := (ob_139 (qi_add ex164 rfl (by decide) (ob_137 g54_0) (ob_304 g54_1)))
                    refine lv_iinc (v := x164) (lv' := [(6, .int x164), (5, .int x163), (0, .ref (r 0)), (1, .int p0), (2, .int y18_2), (3, .int y18_3), (4, .int y18_4)]) hx hb dX9_round_115 hl (k := 6) rfl ex164.symm (by decide) rfl (fun ls hl => ?_)
                    refine lv_goto (tgt := 54) hx hb dX9_round_118 (by decide) ?_
                    exact ih54 x163 x164 H157 _ _ (ob_140 g54_0 f165) (ob_305 f2 f142 f132 f165) hP hD hS (lv_sub hl [2, 3, 4, 5, 6, 1, 0] rfl) (ob_306 hM54 f165)
                  · skip
                    have f166 : r_150.toInt < r_158.toInt := qi_nle c_161 rfl rfl
                    refine lv_sipush (v := 1000) hx hb dX9_round_86 (by decide) ?_
                    refine lv_aload_n hx hb dX9_round_89 rfl (lv_at hl 0 rfl) ?_
                    refine lv_aload_n hx hb dX9_round_90 rfl (lv_at hl 0 rfl) ?_
                    refine lv_iload hx hb dX9_round_91 (lv_at hl 4 rfl) ?_
                    refine lv_aload_n hx hb dX9_round_93 rfl (lv_at hl 0 rfl) ?_
                    refine va_calli (va_runV (As := []) (rest := [.int y18_4, .ref (r 0), .ref (r 0), .int 1000, .int y54_5]) ⟨hx, hb, hml, hown, hG⟩ (kX9_songs l dC dI r ct i_taped i_size i_faultKind i_at i_end i_token i_number i_bank i_rb i_codes i_within i_piled i_unitsInRule x87 x88 i_acts i_undone i_laid i_knowns i_time f_text f_tunes f_houses f_hums f_told f_many f_ruleFrom f_ruleTo f_code f_eWhat f_eSign f_all f_kept f_was f_sTune f_boxAll J89 L H157.size hI93) (cwV 0 hG (goodV gw1512 gw1514 gw86 gw138 gw1515) rfl rfl rfl hd_X9_songs ⟨(Nat.le_of_ble_eq_true rfl), (Nat.le_of_ble_eq_true rfl)⟩) ⟨fbR, va_recv hK hP (ci := 8) (q0 := 0) rfl rfl, pR_in hP hK⟩ rfl rfl hl.1 rfl (lv_room (Nat.le_of_ble_eq_true rfl)) dX9_round_94 ⟨(Nat.le_of_ble_eq_true rfl), (Nat.le_of_ble_eq_true rfl)⟩) hS (fun q hq h => absurd hq (Nat.not_lt.mpr h)) (fun q h => hA q (Nat.le_trans hS.1 h)) (fun r_168 u_ t_ H167 locs ht hvm hw hB hz1 hk1 hS => ?_)
                    subst hw
                    have hP := wk hP hk1
                    have f169 := hB
                    have f170 : r_168.toInt = (f_tunes (i_bank.toInt).toNat).toInt := (ob_278 f169)
                    refine lv_iconst (v := 1) hx hb dX9_round_97 (by decide) ?_
                    refine lv_iadd hx hb dX9_round_98 ?_
                    refine lv_topi (fun x171 ex171 => ?_)
                    have f172 : x171.toInt = (f_tunes (i_bank.toInt).toNat).toInt + 1 := (ob_594 (qi_add ex171 rfl zc_1 (ob_619 f1 f153 f166 f156 f160 f148 f170) (ob_620 f1 f153 f166 f156 f160 f148 f170)) f170)
                    refine lv_iload hx hb dX9_round_99 (lv_at hl 6 rfl) ?_
                    refine va_calli (va_runV (As := [.int y18_4, .int x171, .int y54_6]) (rest := [.ref (r 0), .int 1000, .int y54_5]) ⟨hx, hb, hml, hown, hG⟩ (kX9_digit_v1 l dC dI r ct i_taped i_size i_faultKind i_at i_end i_token i_number i_bank i_rb i_codes i_within i_piled i_unitsInRule x87 x88 i_acts i_undone i_laid i_knowns i_time f_text f_tunes f_houses f_hums f_told f_many f_ruleFrom f_ruleTo f_code f_eWhat f_eSign f_all f_kept f_was f_sTune f_boxAll J89 L y18_4 x171 y54_6 H167.size hI93 (ob_621 f1 f153 f166 f156 f160 f148 f172) (ob_622 f1 f153 f166 f156 f160 f148 f172) (ob_133 g54_0) (ob_361 f142 f132) (ob_133 g18_3) (ob_611 g18_4)) (cwV 3 hG (goodV gw1763 gw1765 gw116 gw138 gw1766) rfl rfl rfl hd_X9_digit ⟨(Nat.le_of_ble_eq_true rfl), (Nat.le_of_ble_eq_true rfl)⟩) ⟨fbR, va_recv hK hP (ci := 8) (q0 := 0) rfl rfl, pR_in hP hK⟩ rfl rfl hl.1 rfl (lv_room (Nat.le_of_ble_eq_true rfl)) dX9_round_101 ⟨(Nat.le_of_ble_eq_true rfl), (Nat.le_of_ble_eq_true rfl)⟩) hS (fun q hq h => absurd hq (Nat.not_lt.mpr h)) (fun q h => hA q (Nat.le_trans hS.1 h)) (fun r_174 u_ t_ H173 locs ht hvm hw hB hz1 hk1 hS => ?_)
                    subst hw
                    have hP := wk hP hk1
                    obtain ⟨f175, f176, f177, f178⟩ := hB
                    have f179 : ((y18_4.toInt / (pw x171.toInt (((f_houses (i_bank.toInt).toNat).toInt + -1 * y54_6.toInt + (-1))).toNat)) % x171.toInt) = ((y18_4.toInt / (pw ((f_tunes (i_bank.toInt).toNat).toInt + 1) (((f_houses (i_bank.toInt).toNat).toInt + -1 * y54_6.toInt + (-1))).toNat)) % ((f_tunes (i_bank.toInt).toNat).toInt + 1)) := by rw [f172]
                    have f180 : r_174.toInt = ((y18_4.toInt / (pw ((f_tunes (i_bank.toInt).toNat).toInt + 1) (((f_houses (i_bank.toInt).toNat).toInt + -1 * y54_6.toInt + (-1))).toNat)) % ((f_tunes (i_bank.toInt).toNat).toInt + 1)) := (ob_623 f175 f155 f179)
                    refine va_calli (va_runV (As := [.int r_174]) (rest := [.int 1000, .int y54_5]) ⟨hx, hb, hml, hown, hG⟩ (kX9_priceOf l dC dI r ct i_taped i_size i_faultKind i_at i_end i_token i_number i_bank i_rb i_codes i_within i_piled i_unitsInRule x87 x88 i_acts i_undone i_laid i_knowns i_time f_text f_tunes f_houses f_hums f_told f_many f_ruleFrom f_ruleTo f_code f_eWhat f_eSign f_all f_kept f_was f_sTune f_boxAll J89 L r_174 H173.size hI93 (ob_600 f155 f152 f180) (ob_624 f166 f156 f160 f180)) (cwV 1 hG (goodV gw1519 gw1521 gw87 gw138 gw1522) rfl rfl rfl hd_X9_priceOf ⟨(Nat.le_of_ble_eq_true rfl), (Nat.le_of_ble_eq_true rfl)⟩) ⟨fbR, va_recv hK hP (ci := 8) (q0 := 0) rfl rfl, pR_in hP hK⟩ rfl rfl hl.1 rfl (lv_room (Nat.le_of_ble_eq_true rfl)) dX9_round_104 ⟨(Nat.le_of_ble_eq_true rfl), (Nat.le_of_ble_eq_true rfl)⟩) hS (fun q hq h => absurd hq (Nat.not_lt.mpr h)) (fun q h => hA q (Nat.le_trans hS.1 h)) (fun r_182 u_ t_ H181 locs ht hvm hw hB hz1 hk1 hS => ?_)
                    subst hw
                    have hP := wk hP hk1
                    refine lv_iadd hx hb dX9_round_107 ?_
                    refine lv_topi (fun x183 ex183 => ?_)
                    refine lv_goto (tgt := 112) hx hb dX9_round_108 (by decide) ?_
                    refine lv_iadd hx hb dX9_round_112 ?_
                    refine lv_topi (fun x184 ex184 => ?_)
                    refine lv_istore (lv' := [(5, .int x184), (0, .ref (r 0)), (1, .int p0), (2, .int y18_2), (3, .int y18_3), (4, .int y18_4), (6, .int y54_6)]) hx hb dX9_round_113 hl (by decide) rfl (fun ls hl => ?_)
                    obtain ⟨x185, ex185⟩ : ∃ y : Int32, y = y54_6 + Int32.ofInt 1 := ⟨_, rfl⟩
                    have f186 : x185.toInt = y54_6.toInt + 1 := (ob_139 (qi_add ex185 rfl (by decide) (ob_137 g54_0) (ob_304 g54_1)))
                    refine lv_iinc (v := x185) (lv' := [(6, .int x185), (5, .int x184), (0, .ref (r 0)), (1, .int p0), (2, .int y18_2), (3, .int y18_3), (4, .int y18_4)]) hx hb dX9_round_115 hl (k := 6) rfl ex185.symm (by decide) rfl (fun ls hl => ?_)
                    refine lv_goto (tgt := 54) hx hb dX9_round_118 (by decide) ?_
                    exact ih54 x184 x185 H181 _ _ (ob_140 g54_0 f186) (ob_305 f2 f142 f132 f186) hP hD hS (lv_sub hl [2, 3, 4, 5, 6, 1, 0] rfl) (ob_306 hM54 f186)
            exact L54 (-1 * (0 : Int32).toInt + 4 + 1).toNat 0 0 H85 _ _ (ob_5 zc_0) (ob_307 zc_0) hP hD hS (lv_sub hl [2, 3, 4, 5, 6, 1, 0] rfl) (mlt (ob_308 zc_0))
          · skip
            have f187 : r_86.toInt = 0 := qi_eq c_125 rfl zc_0
            have f188 : r_86.toInt = 0 := (ob_162 f91 f92 f187)
            refine lv_goto (tgt := 136) hx hb dX9_round_45 (by decide) ?_
            obtain ⟨x189, ex189⟩ : ∃ y : Int32, y = y18_4 + Int32.ofInt 1 := ⟨_, rfl⟩
            have f190 : x189.toInt = y18_4.toInt + 1 := (ob_139 (qi_add ex189 rfl (by decide) (ob_137 g18_3) (ob_613 g18_4)))
            refine lv_iinc (v := x189) (lv' := [(4, .int x189), (0, .ref (r 0)), (1, .int p0), (2, .int y18_2), (3, .int y18_3)]) hx hb dX9_round_136 hl (k := 4) rfl ex189.symm (by decide) rfl (fun ls hl => ?_)
            refine lv_goto (tgt := 18) hx hb dX9_round_139 (by decide) ?_
            exact ih18 y18_2 y18_3 x189 x87 x88 J89 H85 _ _ (ob_459 g18_0 g18_1) (ob_460 g18_0 g18_1) (ob_435 g18_2) (ob_140 g18_3 f190) (ob_616 f29 f30 f28 f84 f31 f190) hP hD hS (lv_sub hl [1, 2, 3, 4, 0] rfl) (ob_617 hM18 f190)
    exact L18 (-1 * (0 : Int32).toInt + 1296 + 1).toNat (-1) (-1) 0 i_askHouse i_askTune J H3 _ _ (ob_349 zc_m1) (ob_462 zc_m1) (ob_349 zc_m1) (ob_5 zc_0) (ob_625 zc_0) hP hD hS (lv_sub hl [3, 4, 2, 1, 0] rfl) (mlt (ob_626 zc_0))
  · skip
    have f191 : r_4.toInt = 0 := qi_eq c_8 rfl zc_0
    refine lv_iconst (v := (-1)) hx hb dX9_round_9 (by decide) ?_
    rw [hQ]
    exact W.iret (v := (-1)) hx hb hr (fun t ht hW => ⟨⟨(-1), (-1), rfl, rfl, ⟨i_askHouse, i_askTune, i_laid, J, by rw [ht]; exact hP, hD, hI⟩⟩, hS.F ht⟩) hS.2.2 dX9_round_10
set_option maxHeartbeats 4000000 in
set_option maxRecDepth 100000 in
theorem kX9_wayOf (l : Launch) (dC : Nat → ClassId) (dI : Nat → Nat → Nat) (r : Nat → Nat) (ct : Nat → ClassId) (i_taped i_size i_faultKind i_at i_end i_token i_number i_bank i_rb i_codes i_within i_piled i_unitsInRule i_askHouse i_askTune i_acts i_undone i_laid i_knowns i_time : Int32) (f_text f_tunes f_houses f_hums f_told f_many f_ruleFrom f_ruleTo f_code f_eWhat f_eSign f_all f_kept f_was f_sTune f_boxAll : Nat → Int32) (J : Nat → Nat → Int32) (L : Nat → Nat → Int64) (p0 p1 : Int32) (sz : Nat) (hI : (IM i_taped i_size i_at i_end i_bank i_rb i_acts i_undone i_laid i_knowns i_time f_tunes f_houses f_hums f_told f_many f_ruleFrom f_ruleTo f_code f_all f_kept f_was f_sTune f_boxAll)) (hp0 : 0 ≤ p0.toInt) (hp1 : p0.toInt ≤ 2147483647) : Met l yX9_wayOf (.code yX9_wayOf cX9_wayOf 8 (some .int) :: GW) { frames := 6, cells := 0, slots := 0, locals := 226 } (va_Pc [.ref (r 0), .int p0, .int p1] (pR (dC, dI) (WM r ct i_taped i_size i_faultKind i_at i_end i_token i_number i_bank i_rb i_codes i_within i_piled i_unitsInRule i_askHouse i_askTune i_acts i_undone i_laid i_knowns i_time f_text f_tunes f_houses f_hums f_told f_many f_ruleFrom f_ruleTo f_code f_eWhat f_eSign f_all f_kept f_was f_sTune f_boxAll J L) (TM ct) sz)) (va_Qi (fun (r0 : Int32) (u : Int32) => r0 = u) (fun (u : Int32) (t : State) => ((True) ∨ ((u.toInt + 1 = 0)))) (fun q => sz ≤ q)) 0 0 (fun q => sz ≤ q) := by
  refine Met.ofW (cc := cX9_wayOf) (maxL := 8) (ret := (some .int)) (by decide) rfl ?_
  intro p e s m args below meth c0 s₁ B hml hv
  obtain ⟨rfl, hsz, hP, hK⟩ := hv
  have hx := B.exec
  have hb := B.bytes
  have hr := B.returns
  have hts := atoms_spec (ws := .code yX9_wayOf cX9_wayOf 8 (some .int) :: GW) B.pre
  have hG : ∀ w ∈ GW, w.before _ s = true := fun w h => hts w (List.mem_cons_of_mem _ h)
  have hown : s.vm.findClass RX9 = some m.cls := findClass_of_methodNamed B.named
  subst hsz
  have hS : va_S (fun q => s.heap.size ≤ q) s.heap s.heap [] := va_S.rf
  have hP : va_P (dC, dI) vwCl (WM r ct i_taped i_size i_faultKind i_at i_end i_token i_number i_bank i_rb i_codes i_within i_piled i_unitsInRule i_askHouse i_askTune i_acts i_undone i_laid i_knowns i_time f_text f_tunes f_houses f_hums f_told f_many f_ruleFrom f_ruleTo f_code f_eWhat f_eSign f_all f_kept f_was f_sTune f_boxAll J L) s.heap := hP
  have hl := lv_entry ([.ref (r 0), .int p0, .int p1]) (n := 8) (Nat.le_of_ble_eq_true rfl)
  rw [lg_entry_eq]
  generalize (lg_sl ([.ref (r 0), .int p0, .int p1]) ++ List.replicate (8 - (lg_sl ([.ref (r 0), .int p0, .int p1])).length) Slot.unset).toArray = ls at hl ⊢
  have hl : lv_has ls 8 [(0, .ref (r 0)), (1, .int p0), (2, .int p1)] := hl
  refine nameQ (fun Q hQ => ?_)
  obtain ⟨im0, im1, im2, im3, im4, im5, im6, im7, im8, im9, im10, im11, im12, im13, im14, im15, im16, im17, im18, im19, im20, im21, im22, im23, im24, im25, im26, im27, im28, im29, im30⟩ := id hI
  have f1 : 0 ≤ (f_tunes (i_bank.toInt).toNat).toInt ∧ (f_tunes (i_bank.toInt).toNat).toInt ≤ 5 := im20 (i_bank.toInt)
  have f2 : 0 ≤ (f_houses (i_bank.toInt).toNat).toInt ∧ (f_houses (i_bank.toInt).toNat).toInt ≤ 4 := im21 (i_bank.toInt)
  refine lv_iconst (v := 0) hx hb dX9_wayOf_0 (by decide) ?_
  refine lv_istore_n (lv' := [(3, .int 0), (0, .ref (r 0)), (1, .int p0), (2, .int p1)]) hx hb dX9_wayOf_1 rfl hl (by decide) rfl (fun ls hl => ?_)
  refine lv_iconst (v := 0) hx hb dX9_wayOf_2 (by decide) ?_
  refine lv_istore (lv' := [(4, .int 0), (3, .int 0), (0, .ref (r 0)), (1, .int p0), (2, .int p1)]) hx hb dX9_wayOf_3 hl (by decide) rfl (fun ls hl => ?_)
  refine lv_iload_n hx hb dX9_wayOf_5 rfl (lv_at hl 4 rfl) ?_
  refine lv_istore (lv' := [(5, .int p1), (4, .int 0), (3, .int 0), (0, .ref (r 0)), (1, .int p0), (2, .int p1)]) hx hb dX9_wayOf_6 hl (by decide) rfl (fun ls hl => ?_)
  refine lv_iconst (v := 0) hx hb dX9_wayOf_8 (by decide) ?_
  refine lv_istore (lv' := [(6, .int 0), (5, .int p1), (4, .int 0), (3, .int 0), (0, .ref (r 0)), (1, .int p0), (2, .int p1)]) hx hb dX9_wayOf_9 hl (by decide) rfl (fun ls hl => ?_)
  have L11 : ∀ (N11 : Nat) (y11_3 y11_4 y11_5 y11_6 : Int32) (H11 : Heap) (locs : List Loc) (ls : Array Slot) (g11_0 : 0 ≤ y11_6.toInt) (g11_1 : y11_6.toInt ≤ 4) (hP : va_P (dC, dI) vwCl (WM r ct i_taped i_size i_faultKind i_at i_end i_token i_number i_bank i_rb i_codes i_within i_piled i_unitsInRule i_askHouse i_askTune i_acts i_undone i_laid i_knowns i_time f_text f_tunes f_houses f_hums f_told f_many f_ruleFrom f_ruleTo f_code f_eWhat f_eSign f_all f_kept f_was f_sTune f_boxAll J L) H11) (hS : va_S (fun q => s.heap.size ≤ q) s.heap H11 locs) (hl : lv_has ls 8 [(0, .ref (r 0)), (1, .int p0), (2, .int p1), (3, .int y11_3), (4, .int y11_4), (5, .int y11_5), (6, .int y11_6)]) (hM : -1 * y11_6.toInt + 4 < (N11 : Int)), W p l e { frames := 6, cells := 0, slots := 0, locals := 226 } s m ([.ref (r 0), .int p0, .int p1] : List Value).toArray below meth c0 H11 locs 0 0 Q (F0 m 11 ls []) := by
    intro N11
    induction N11 with
    | zero =>
      intro y11_3 y11_4 y11_5 y11_6 H11 locs ls g11_0 g11_1 hP hS hl hM
      exact ((ob_293 hM g11_0 g11_1)).elim
    | succ N11 ih11 =>
      intro y11_3 y11_4 y11_5 y11_6 H11 locs ls g11_0 g11_1 hP hS hl hM
      have hM11 := msucc hM
      refine lv_iload hx hb dX9_wayOf_11 (lv_at hl 6 rfl) ?_
      refine lv_aload_n hx hb dX9_wayOf_13 rfl (lv_at hl 0 rfl) ?_
      refine va_calli (va_runV (As := []) (rest := [.int y11_6]) ⟨hx, hb, hml, hown, hG⟩ (kX9_homes l dC dI r ct i_taped i_size i_faultKind i_at i_end i_token i_number i_bank i_rb i_codes i_within i_piled i_unitsInRule i_askHouse i_askTune i_acts i_undone i_laid i_knowns i_time f_text f_tunes f_houses f_hums f_told f_many f_ruleFrom f_ruleTo f_code f_eWhat f_eSign f_all f_kept f_was f_sTune f_boxAll J L H11.size hI) (cwV 0 hG (goodV gw1167 gw1169 gw58 gw138 gw1170) rfl rfl rfl hd_X9_homes ⟨(Nat.le_of_ble_eq_true rfl), (Nat.le_of_ble_eq_true rfl)⟩) ⟨fbR, va_recv hK hP (ci := 8) (q0 := 0) rfl rfl, pR_in hP hK⟩ rfl rfl hl.1 rfl (lv_room (Nat.le_of_ble_eq_true rfl)) dX9_wayOf_14 ⟨(Nat.le_of_ble_eq_true rfl), (Nat.le_of_ble_eq_true rfl)⟩) hS (fun q hq h => absurd hq (Nat.not_lt.mpr h)) (fun q h => Nat.le_trans hS.1 h) (fun r_4 u_ t_ H3 locs ht hvm hw hB hz1 hk1 hS => ?_)
      subst hw
      have hP := wk hP hk1
      have f5 := hB
      have f6 : r_4.toInt = (f_houses (i_bank.toInt).toNat).toInt := (ob_278 f5)
      refine lv_icmp_ge (tgt := 82) hx hb dX9_wayOf_17 (by decide) (fun c_7 => ?_) (fun c_7 => ?_)
      · skip
        have f8 : r_4.toInt ≤ y11_6.toInt := qi_le c_7 rfl rfl
        refine lv_iload hx hb dX9_wayOf_82 (lv_at hl 4 rfl) ?_
        rw [hQ]
        exact W.iret (v := y11_4) hx hb hr (fun t ht hW => ⟨⟨y11_4, y11_4, rfl, rfl, (ob_627)⟩, hS.F ht⟩) hS.2.2 dX9_wayOf_84
      · skip
        have f9 : y11_6.toInt < r_4.toInt := qi_nle c_7 rfl rfl
        refine lv_aload_n hx hb dX9_wayOf_20 rfl (lv_at hl 0 rfl) ?_
        refine lv_iload_n hx hb dX9_wayOf_21 rfl (lv_at hl 1 rfl) ?_
        refine lv_aload_n hx hb dX9_wayOf_22 rfl (lv_at hl 0 rfl) ?_
        refine va_calli (va_runV (As := []) (rest := [.int p0, .ref (r 0)]) ⟨hx, hb, hml, hown, hG⟩ (kX9_homes l dC dI r ct i_taped i_size i_faultKind i_at i_end i_token i_number i_bank i_rb i_codes i_within i_piled i_unitsInRule i_askHouse i_askTune i_acts i_undone i_laid i_knowns i_time f_text f_tunes f_houses f_hums f_told f_many f_ruleFrom f_ruleTo f_code f_eWhat f_eSign f_all f_kept f_was f_sTune f_boxAll J L H3.size hI) (cwV 0 hG (goodV gw1167 gw1169 gw58 gw138 gw1170) rfl rfl rfl hd_X9_homes ⟨(Nat.le_of_ble_eq_true rfl), (Nat.le_of_ble_eq_true rfl)⟩) ⟨fbR, va_recv hK hP (ci := 8) (q0 := 0) rfl rfl, pR_in hP hK⟩ rfl rfl hl.1 rfl (lv_room (Nat.le_of_ble_eq_true rfl)) dX9_wayOf_23 ⟨(Nat.le_of_ble_eq_true rfl), (Nat.le_of_ble_eq_true rfl)⟩) hS (fun q hq h => absurd hq (Nat.not_lt.mpr h)) (fun q h => Nat.le_trans hS.1 h) (fun r_11 u_ t_ H10 locs ht hvm hw hB hz1 hk1 hS => ?_)
        subst hw
        have hP := wk hP hk1
        have f12 := hB
        have f13 : r_11.toInt = (f_houses (i_bank.toInt).toNat).toInt := (ob_278 f12)
        refine lv_iload hx hb dX9_wayOf_26 (lv_at hl 6 rfl) ?_
        refine va_calli (va_runV (As := [.int p0, .int r_11, .int y11_6]) (rest := []) ⟨hx, hb, hml, hown, hG⟩ (kX9_digit_v1 l dC dI r ct i_taped i_size i_faultKind i_at i_end i_token i_number i_bank i_rb i_codes i_within i_piled i_unitsInRule i_askHouse i_askTune i_acts i_undone i_laid i_knowns i_time f_text f_tunes f_houses f_hums f_told f_many f_ruleFrom f_ruleTo f_code f_eWhat f_eSign f_all f_kept f_was f_sTune f_boxAll J L p0 r_11 y11_6 H10.size hI (ob_628 g11_0 f9 f6 f13) (ob_629 f2 f9 f6 f13) (ob_133 g11_0) (ob_361 f9 f6) (ob_246 hp0 hp1) (ob_597 hp0 hp1)) (cwV 3 hG (goodV gw1763 gw1765 gw116 gw138 gw1766) rfl rfl rfl hd_X9_digit ⟨(Nat.le_of_ble_eq_true rfl), (Nat.le_of_ble_eq_true rfl)⟩) ⟨fbR, va_recv hK hP (ci := 8) (q0 := 0) rfl rfl, pR_in hP hK⟩ rfl rfl hl.1 rfl (lv_room (Nat.le_of_ble_eq_true rfl)) dX9_wayOf_28 ⟨(Nat.le_of_ble_eq_true rfl), (Nat.le_of_ble_eq_true rfl)⟩) hS (fun q hq h => absurd hq (Nat.not_lt.mpr h)) (fun q h => Nat.le_trans hS.1 h) (fun r_15 u_ t_ H14 locs ht hvm hw hB hz1 hk1 hS => ?_)
        subst hw
        have hP := wk hP hk1
        obtain ⟨f16, f17, f18, f19⟩ := hB
        have f20 : ((p0.toInt / (pw r_11.toInt (((f_houses (i_bank.toInt).toNat).toInt + -1 * y11_6.toInt + (-1))).toNat)) % r_11.toInt) = ((p0.toInt / (pw ((f_houses (i_bank.toInt).toNat).toInt) (((f_houses (i_bank.toInt).toNat).toInt + -1 * y11_6.toInt + (-1))).toNat)) % ((f_houses (i_bank.toInt).toNat).toInt)) := by rw [f13]
        have f21 : r_15.toInt = ((p0.toInt / (pw ((f_houses (i_bank.toInt).toNat).toInt) (((f_houses (i_bank.toInt).toNat).toInt + -1 * y11_6.toInt + (-1))).toNat)) % ((f_houses (i_bank.toInt).toNat).toInt)) := (ob_581 f16 f20)
        refine lv_istore (lv' := [(7, .int r_15), (0, .ref (r 0)), (1, .int p0), (2, .int p1), (3, .int y11_3), (4, .int y11_4), (5, .int y11_5), (6, .int y11_6)]) hx hb dX9_wayOf_31 hl (by decide) rfl (fun ls hl => ?_)
        refine lv_iload_n hx hb dX9_wayOf_33 rfl (lv_at hl 4 rfl) ?_
        refine lv_iload hx hb dX9_wayOf_34 (lv_at hl 0 rfl) ?_
        refine va_calli (va_runS (As := [.int y11_3, .int r_15]) (rest := []) ⟨hx, hb, hml, hown, hG⟩ (kX9_bit l dC dI y11_3 r_15 H14.size) (va_cwS 2 hG (goodS gw1417 gw1418 gw138 gw1419) rfl rfl rfl hd_X9_bit ⟨(Nat.le_of_ble_eq_true rfl), (Nat.le_of_ble_eq_true rfl)⟩) ⟨fbR, pR_in emptyP (emptyK hK)⟩ rfl rfl hl.1 rfl (lv_room (Nat.le_of_ble_eq_true rfl)) dX9_wayOf_36 ⟨(Nat.le_of_ble_eq_true rfl), (Nat.le_of_ble_eq_true rfl)⟩) hS (fun q hq h => absurd hq (Nat.not_lt.mpr h)) (fun q h => Nat.le_trans hS.1 h) (fun r_23 u_ t_ H22 locs ht hvm hw hB hz1 hk1 hS => ?_)
        subst hw
        have hP := wk hP hk1
        obtain ⟨f24, f25, f26⟩ := hB
        refine lv_if_eq (tgt := 44) hx hb dX9_wayOf_39 (by decide) (fun c_27 => ?_) (fun c_27 => ?_)
        · skip
          have f28 : r_23.toInt = 0 := qi_eq c_27 rfl zc_0
          refine lv_iload_n hx hb dX9_wayOf_44 rfl (lv_at hl 4 rfl) ?_
          refine lv_iconst (v := 1) hx hb dX9_wayOf_45 (by decide) ?_
          refine lv_iload hx hb dX9_wayOf_46 (lv_at hl 0 rfl) ?_
          refine lv_ishl hx hb dX9_wayOf_48 ?_
          refine lv_topi (fun x29 ex29 => ?_)
          refine lv_ior hx hb dX9_wayOf_49 ?_
          refine lv_topi (fun x30 ex30 => ?_)
          refine lv_istore_n (lv' := [(3, .int x30), (7, .int r_15), (0, .ref (r 0)), (1, .int p0), (2, .int p1), (4, .int y11_4), (5, .int y11_5), (6, .int y11_6)]) hx hb dX9_wayOf_50 rfl hl (by decide) rfl (fun ls hl => ?_)
          refine lv_iload hx hb dX9_wayOf_51 (lv_at hl 5 rfl) ?_
          refine lv_aload_n hx hb dX9_wayOf_53 rfl (lv_at hl 2 rfl) ?_
          refine lv_iload hx hb dX9_wayOf_54 (lv_at hl 1 rfl) ?_
          refine va_calli (va_runV (As := [.int r_15]) (rest := [.int y11_4]) ⟨hx, hb, hml, hown, hG⟩ (kX9_placeOf l dC dI r ct i_taped i_size i_faultKind i_at i_end i_token i_number i_bank i_rb i_codes i_within i_piled i_unitsInRule i_askHouse i_askTune i_acts i_undone i_laid i_knowns i_time f_text f_tunes f_houses f_hums f_told f_many f_ruleFrom f_ruleTo f_code f_eWhat f_eSign f_all f_kept f_was f_sTune f_boxAll J L r_15 H22.size hI (ob_600 f20 f17 f21) (ob_630 f20 f18 f13 f21)) (cwV 1 hG (goodV gw1546 gw1548 gw91 gw138 gw1549) rfl rfl rfl hd_X9_placeOf ⟨(Nat.le_of_ble_eq_true rfl), (Nat.le_of_ble_eq_true rfl)⟩) ⟨fbR, va_recv hK hP (ci := 8) (q0 := 0) rfl rfl, pR_in hP hK⟩ rfl rfl hl.1 rfl (lv_room (Nat.le_of_ble_eq_true rfl)) dX9_wayOf_56 ⟨(Nat.le_of_ble_eq_true rfl), (Nat.le_of_ble_eq_true rfl)⟩) hS (fun q hq h => absurd hq (Nat.not_lt.mpr h)) (fun q h => Nat.le_trans hS.1 h) (fun r_32 u_ t_ H31 locs ht hvm hw hB hz1 hk1 hS => ?_)
          subst hw
          have hP := wk hP hk1
          refine lv_iload hx hb dX9_wayOf_59 (lv_at hl 6 rfl) ?_
          refine lv_isub hx hb dX9_wayOf_61 ?_
          refine lv_topi (fun x33 ex33 => ?_)
          refine va_calli (va_runS (As := [.int x33]) (rest := [.int y11_4]) ⟨hx, hb, hml, hown, hG⟩ (kX9_absolute l dC dI x33 H31.size) (va_cwS 1 hG (goodS gw1775 gw1776 gw138 gw1777) rfl rfl rfl hd_X9_absolute ⟨(Nat.le_of_ble_eq_true rfl), (Nat.le_of_ble_eq_true rfl)⟩) ⟨fbR, pR_in emptyP (emptyK hK)⟩ rfl rfl hl.1 rfl (lv_room (Nat.le_of_ble_eq_true rfl)) dX9_wayOf_62 ⟨(Nat.le_of_ble_eq_true rfl), (Nat.le_of_ble_eq_true rfl)⟩) hS (fun q hq h => absurd hq (Nat.not_lt.mpr h)) (fun q h => Nat.le_trans hS.1 h) (fun r_35 u_ t_ H34 locs ht hvm hw hB hz1 hk1 hS => ?_)
          subst hw
          have hP := wk hP hk1
          have f36 := hB
          refine lv_iadd hx hb dX9_wayOf_65 ?_
          refine lv_topi (fun x37 ex37 => ?_)
          refine lv_istore (lv' := [(4, .int x37), (3, .int x30), (7, .int r_15), (0, .ref (r 0)), (1, .int p0), (2, .int p1), (5, .int y11_5), (6, .int y11_6)]) hx hb dX9_wayOf_66 hl (by decide) rfl (fun ls hl => ?_)
          refine lv_aload_n hx hb dX9_wayOf_68 rfl (lv_at hl 3 rfl) ?_
          refine lv_iload hx hb dX9_wayOf_69 (lv_at hl 2 rfl) ?_
          refine va_calli (va_runV (As := [.int r_15]) (rest := []) ⟨hx, hb, hml, hown, hG⟩ (kX9_placeOf l dC dI r ct i_taped i_size i_faultKind i_at i_end i_token i_number i_bank i_rb i_codes i_within i_piled i_unitsInRule i_askHouse i_askTune i_acts i_undone i_laid i_knowns i_time f_text f_tunes f_houses f_hums f_told f_many f_ruleFrom f_ruleTo f_code f_eWhat f_eSign f_all f_kept f_was f_sTune f_boxAll J L r_15 H34.size hI (ob_600 f20 f17 f21) (ob_630 f20 f18 f13 f21)) (cwV 1 hG (goodV gw1546 gw1548 gw91 gw138 gw1549) rfl rfl rfl hd_X9_placeOf ⟨(Nat.le_of_ble_eq_true rfl), (Nat.le_of_ble_eq_true rfl)⟩) ⟨fbR, va_recv hK hP (ci := 8) (q0 := 0) rfl rfl, pR_in hP hK⟩ rfl rfl hl.1 rfl (lv_room (Nat.le_of_ble_eq_true rfl)) dX9_wayOf_71 ⟨(Nat.le_of_ble_eq_true rfl), (Nat.le_of_ble_eq_true rfl)⟩) hS (fun q hq h => absurd hq (Nat.not_lt.mpr h)) (fun q h => Nat.le_trans hS.1 h) (fun r_39 u_ t_ H38 locs ht hvm hw hB hz1 hk1 hS => ?_)
          subst hw
          have hP := wk hP hk1
          refine lv_istore (lv' := [(5, .int r_39), (4, .int x37), (3, .int x30), (7, .int r_15), (0, .ref (r 0)), (1, .int p0), (2, .int p1), (6, .int y11_6)]) hx hb dX9_wayOf_74 hl (by decide) rfl (fun ls hl => ?_)
          obtain ⟨x40, ex40⟩ : ∃ y : Int32, y = y11_6 + Int32.ofInt 1 := ⟨_, rfl⟩
          have f41 : x40.toInt = y11_6.toInt + 1 := (ob_139 (qi_add ex40 rfl (by decide) (ob_137 g11_0) (ob_304 g11_1)))
          refine lv_iinc (v := x40) (lv' := [(6, .int x40), (5, .int r_39), (4, .int x37), (3, .int x30), (7, .int r_15), (0, .ref (r 0)), (1, .int p0), (2, .int p1)]) hx hb dX9_wayOf_76 hl (k := 7) rfl ex40.symm (by decide) rfl (fun ls hl => ?_)
          refine lv_goto (tgt := 11) hx hb dX9_wayOf_79 (by decide) ?_
          exact ih11 x30 x37 r_39 x40 H38 _ _ (ob_140 g11_0 f41) (ob_305 f2 f9 f6 f41) hP hS (lv_sub hl [5, 6, 7, 3, 2, 1, 0] rfl) (ob_306 hM11 f41)
        · skip
          have f42 : r_23.toInt ≠ 0 := qi_ne c_27 rfl zc_0
          have f43 : 1 ≤ r_23.toInt := (ob_367 f24 f25 f42)
          refine lv_iconst (v := (-1)) hx hb dX9_wayOf_42 (by decide) ?_
          rw [hQ]
          exact W.iret (v := (-1)) hx hb hr (fun t ht hW => ⟨⟨(-1), (-1), rfl, rfl, (ob_631 zc_m1)⟩, hS.F ht⟩) hS.2.2 dX9_wayOf_43
  exact L11 (-1 * (0 : Int32).toInt + 4 + 1).toNat 0 0 p1 0 s.heap _ _ (ob_5 zc_0) (ob_307 zc_0) hP hS (lv_sub hl [4, 5, 6, 3, 2, 1, 0] rfl) (mlt (ob_308 zc_0))
