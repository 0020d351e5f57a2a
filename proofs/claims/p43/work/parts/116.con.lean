set_option maxHeartbeats 4000000 in
set_option maxRecDepth 100000 in
theorem kX9_layGlad (l : Launch) (dC : Nat → ClassId) (dI : Nat → Nat → Nat) (r : Nat → Nat) (ct : Nat → ClassId) (i_taped i_size i_faultKind i_at i_end i_token i_number i_bank i_rb i_codes i_within i_piled i_unitsInRule i_askHouse i_askTune i_acts i_undone i_laid i_knowns i_time : Int32) (f_text f_tunes f_houses f_hums f_told f_many f_ruleFrom f_ruleTo f_code f_eWhat f_eSign f_all f_kept f_was f_sTune f_boxAll : Nat → Int32) (J : Nat → Nat → Int32) (L : Nat → Nat → Int64) (sz : Nat) (hI : (IM i_taped i_size i_faultKind i_at i_end i_bank i_rb i_acts i_undone i_laid i_knowns i_time f_tunes f_houses f_hums f_told f_many f_ruleFrom f_ruleTo f_code f_all f_kept f_was f_sTune f_boxAll)) (hp0 : (1 : Int) ≤ (f_houses (i_bank.toInt).toNat).toInt) : Met l yX9_layGlad (.code yX9_layGlad cX9_layGlad 8 none :: GW) { frames := 20, cells := 0, slots := 0, locals := 667 } (va_Pc [.ref (r 0)] (pW (dC, dI) (WM r ct i_taped i_size i_faultKind i_at i_end i_token i_number i_bank i_rb i_codes i_within i_piled i_unitsInRule i_askHouse i_askTune i_acts i_undone i_laid i_knowns i_time f_text f_tunes f_houses f_hums f_told f_many f_ruleFrom f_ruleTo f_code f_eWhat f_eSign f_all f_kept f_was f_sTune f_boxAll J L) (TM ct) sz)) (va_Qv (fun _ : Unit => True) (fun (_ : Unit) (t : State) => ∃ (n_i_askHouse n_i_askTune : Int32) (n_f_all n_f_kept : Nat → Int32) (n_J : Nat → Nat → Int32), va_P (dC, dI) vwCl (WM r ct i_taped i_size i_faultKind i_at i_end i_token i_number i_bank i_rb i_codes i_within i_piled i_unitsInRule n_i_askHouse n_i_askTune i_acts i_undone i_laid i_knowns i_time f_text f_tunes f_houses f_hums f_told f_many f_ruleFrom f_ruleTo f_code f_eWhat f_eSign n_f_all n_f_kept f_was f_sTune f_boxAll n_J L) t.heap ∧ va_D (va_A (WM r ct i_taped i_size i_faultKind i_at i_end i_token i_number i_bank i_rb i_codes i_within i_piled i_unitsInRule i_askHouse i_askTune i_acts i_undone i_laid i_knowns i_time f_text f_tunes f_houses f_hums f_told f_many f_ruleFrom f_ruleTo f_code f_eWhat f_eSign f_all f_kept f_was f_sTune f_boxAll J L) sz) (WM r ct i_taped i_size i_faultKind i_at i_end i_token i_number i_bank i_rb i_codes i_within i_piled i_unitsInRule n_i_askHouse n_i_askTune i_acts i_undone i_laid i_knowns i_time f_text f_tunes f_houses f_hums f_told f_many f_ruleFrom f_ruleTo f_code f_eWhat f_eSign n_f_all n_f_kept f_was f_sTune f_boxAll n_J L) ∧ (IM i_taped i_size i_faultKind i_at i_end i_bank i_rb i_acts i_undone i_laid i_knowns i_time f_tunes f_houses f_hums f_told f_many f_ruleFrom f_ruleTo f_code n_f_all n_f_kept f_was f_sTune f_boxAll)) (va_A (WM r ct i_taped i_size i_faultKind i_at i_end i_token i_number i_bank i_rb i_codes i_within i_piled i_unitsInRule i_askHouse i_askTune i_acts i_undone i_laid i_knowns i_time f_text f_tunes f_houses f_hums f_told f_many f_ruleFrom f_ruleTo f_code f_eWhat f_eSign f_all f_kept f_was f_sTune f_boxAll J L) sz)) 0 0 (va_A (WM r ct i_taped i_size i_faultKind i_at i_end i_token i_number i_bank i_rb i_codes i_within i_piled i_unitsInRule i_askHouse i_askTune i_acts i_undone i_laid i_knowns i_time f_text f_tunes f_houses f_hums f_told f_many f_ruleFrom f_ruleTo f_code f_eWhat f_eSign f_all f_kept f_was f_sTune f_boxAll J L) sz) := by
  refine Met.ofW (cc := cX9_layGlad) (maxL := 8) (ret := none) (by decide) rfl ?_
  intro p e s m args below meth c0 s₁ B hml hv
  obtain ⟨rfl, hsz, hP, hK, hD0⟩ := hv
  have hx := B.exec
  have hb := B.bytes
  have hr := B.returns
  have hts := atoms_spec (ws := .code yX9_layGlad cX9_layGlad 8 none :: GW) B.pre
  have hG : ∀ w ∈ GW, w.before _ s = true := fun w h => hts w (List.mem_cons_of_mem _ h)
  have hown : s.vm.findClass RX9 = some m.cls := findClass_of_methodNamed B.named
  subst hsz
  have hD := hD0.self (sz := s.heap.size)
  generalize hAe : va_A (WM r ct i_taped i_size i_faultKind i_at i_end i_token i_number i_bank i_rb i_codes i_within i_piled i_unitsInRule i_askHouse i_askTune i_acts i_undone i_laid i_knowns i_time f_text f_tunes f_houses f_hums f_told f_many f_ruleFrom f_ruleTo f_code f_eWhat f_eSign f_all f_kept f_was f_sTune f_boxAll J L) s.heap.size = A at hD ⊢
  have hA : ∀ q : Nat, s.heap.size ≤ q → A q := fun q h => by rw [← hAe]; exact Or.inr h
  have hS : va_S A s.heap s.heap [] := va_S.rf
  have hP : va_P (dC, dI) vwCl (WM r ct i_taped i_size i_faultKind i_at i_end i_token i_number i_bank i_rb i_codes i_within i_piled i_unitsInRule i_askHouse i_askTune i_acts i_undone i_laid i_knowns i_time f_text f_tunes f_houses f_hums f_told f_many f_ruleFrom f_ruleTo f_code f_eWhat f_eSign f_all f_kept f_was f_sTune f_boxAll J L) s.heap := hP
  have hl := lv_entry ([.ref (r 0)]) (n := 8) (Nat.le_of_ble_eq_true rfl)
  rw [lg_entry_eq]
  generalize (lg_sl ([.ref (r 0)]) ++ List.replicate (8 - (lg_sl ([.ref (r 0)])).length) Slot.unset).toArray = ls at hl ⊢
  have hl : lv_has ls 8 [(0, .ref (r 0))] := hl
  refine nameQ (fun Q hQ => ?_)
  obtain ⟨ie0, ie1, ie2, ie3, ie4, ie5, ie6, ie7, ie8, ie9, ie10, ie11, ie12, ie13, ie14, ie15, ie16, ie17, ie18, ie19, ie20, ie21, ie22, ie23, ie24, ie25, ie26, ie27, ie28, ie29, ie30, ie31, ie32⟩ := id hI
  have f1 : 0 ≤ (f_tunes (i_bank.toInt).toNat).toInt ∧ (f_tunes (i_bank.toInt).toNat).toInt ≤ 5 := ie21 (i_bank.toInt)
  have f2 : 0 ≤ (f_houses (i_bank.toInt).toNat).toInt ∧ (f_houses (i_bank.toInt).toNat).toInt ≤ 4 := ie22 (i_bank.toInt)
  refine lv_aload_n hx hb dX9_layGlad_0 rfl (lv_at hl 0 rfl) ?_
  refine va_calli (va_runV (As := []) (rest := []) ⟨hx, hb, hml, hown, hG⟩ (kX9_homes l dC dI r ct i_taped i_size i_faultKind i_at i_end i_token i_number i_bank i_rb i_codes i_within i_piled i_unitsInRule i_askHouse i_askTune i_acts i_undone i_laid i_knowns i_time f_text f_tunes f_houses f_hums f_told f_many f_ruleFrom f_ruleTo f_code f_eWhat f_eSign f_all f_kept f_was f_sTune f_boxAll J L s.heap.size hI) (cwV 0 hG (goodV gw1167 gw1169 gw58 gw138 gw1170) rfl rfl rfl hd_X9_homes ⟨(Nat.le_of_ble_eq_true rfl), (Nat.le_of_ble_eq_true rfl)⟩) ⟨fbR, va_recv hK hP (ci := 8) (q0 := 0) rfl rfl, pR_in hP hK⟩ rfl rfl hl.1 rfl (lv_room (Nat.le_of_ble_eq_true rfl)) dX9_layGlad_1 ⟨(Nat.le_of_ble_eq_true rfl), (Nat.le_of_ble_eq_true rfl)⟩) hS (fun q hq h => absurd hq (Nat.not_lt.mpr h)) (fun q h => hA q (Nat.le_trans hS.1 h)) (fun r_4 u_ t_ H3 locs ht hvm hw hB hz1 hk1 hS => ?_)
  subst hw
  have hP := wk hP hk1
  have f5 := hB
  have f6 : r_4.toInt = (f_houses (i_bank.toInt).toNat).toInt := (ob_6 f5)
  refine lv_iconst (v := 1) hx hb dX9_layGlad_4 (by decide) ?_
  refine lv_isub hx hb dX9_layGlad_5 ?_
  refine lv_topi (fun x7 ex7 => ?_)
  have f8 : x7.toInt = (f_houses (i_bank.toInt).toNat).toInt + (-1) := (ob_1018 (qi_sub ex7 rfl zc_1 (ob_1494 f2 hp0 f6) (ob_1495 f2 hp0 f6)) f6)
  refine lv_istore_n (lv' := [(1, .int x7), (0, .ref (r 0))]) hx hb dX9_layGlad_6 rfl hl (by decide) rfl (fun ls hl => ?_)
  refine lv_iconst (v := 3) hx hb dX9_layGlad_7 (by decide) ?_
  refine lv_iconst (v := 4) hx hb dX9_layGlad_8 (by decide) ?_
  refine lv_aload_n hx hb dX9_layGlad_9 rfl (lv_at hl 1 rfl) ?_
  refine gM_X9_249_0 hx hb hG hown hK hP dX9_layGlad_10 ?_
  refine lv_imul hx hb dX9_layGlad_13 ?_
  refine lv_topi (fun x9 ex9 => ?_)
  have f10 : x9.toInt = 4 * i_bank.toInt := (ob_655 (qi_mul ex9 zc_4 rfl (ob_785 ie4 ie5) (ob_786 ie4 ie5)))
  refine lv_iload_n hx hb dX9_layGlad_14 rfl (lv_at hl 0 rfl) ?_
  refine lv_iadd hx hb dX9_layGlad_15 ?_
  refine lv_topi (fun x11 ex11 => ?_)
  have f12 : x11.toInt = (f_houses (i_bank.toInt).toNat).toInt + 4 * i_bank.toInt + (-1) := (ob_1498 (qi_add ex11 rfl rfl (ob_1496 ie4 f2 f8 f10) (ob_1497 ie5 f2 f8 f10)) f8 f10)
  refine lv_imul hx hb dX9_layGlad_16 ?_
  refine lv_topi (fun x13 ex13 => ?_)
  have f14 : x13.toInt = 3 * (f_houses (i_bank.toInt).toNat).toInt + 12 * i_bank.toInt + (-3) := (ob_1501 (qi_mul ex13 zc_3 rfl (ob_1499 ie4 f2 f12) (ob_1500 ie5 f2 f12)) f12)
  refine lv_istore_n (lv' := [(2, .int x13), (1, .int x7), (0, .ref (r 0))]) hx hb dX9_layGlad_17 rfl hl (by decide) rfl (fun ls hl => ?_)
  refine lv_aload_n hx hb dX9_layGlad_18 rfl (lv_at hl 2 rfl) ?_
  refine gM_X9_57_0 hx hb hG hown hK hP dX9_layGlad_19 ?_
  refine lv_iload_n hx hb dX9_layGlad_22 rfl (lv_at hl 0 rfl) ?_
  refine ldM_15 (mm := 3 * (f_houses (i_bank.toInt).toNat).toInt + 12 * i_bank.toInt + (-3)) hx hb hK hP f14 (ob_1502 ie4 hp0) (ob_1503 ie5 f2) dX9_layGlad_23 (fun x15 => ?_)
  refine lv_istore_n (lv' := [(3, .int x15), (2, .int x13), (1, .int x7), (0, .ref (r 0))]) hx hb dX9_layGlad_24 rfl hl (by decide) rfl (fun ls hl => ?_)
  refine lv_aload_n hx hb dX9_layGlad_25 rfl (lv_at hl 3 rfl) ?_
  refine gM_X9_57_0 hx hb hG hown hK hP dX9_layGlad_26 ?_
  refine lv_iload_n hx hb dX9_layGlad_29 rfl (lv_at hl 1 rfl) ?_
  refine lv_iconst (v := 1) hx hb dX9_layGlad_30 (by decide) ?_
  refine lv_iadd hx hb dX9_layGlad_31 ?_
  refine lv_topi (fun x16 ex16 => ?_)
  have f17 : x16.toInt = 3 * (f_houses (i_bank.toInt).toNat).toInt + 12 * i_bank.toInt + (-2) := (ob_1506 (qi_add ex16 rfl zc_1 (ob_1504 ie4 f2 f14) (ob_1505 ie5 f2 f14)) f14)
  refine ldM_15 (mm := 3 * (f_houses (i_bank.toInt).toNat).toInt + 12 * i_bank.toInt + (-2)) hx hb hK hP f17 (ob_1507 ie4 hp0) (ob_1508 ie5 f2) dX9_layGlad_32 (fun x18 => ?_)
  refine lv_istore (lv' := [(4, .int x18), (3, .int x15), (2, .int x13), (1, .int x7), (0, .ref (r 0))]) hx hb dX9_layGlad_33 hl (by decide) rfl (fun ls hl => ?_)
  refine lv_aload_n hx hb dX9_layGlad_35 rfl (lv_at hl 4 rfl) ?_
  refine gM_X9_57_0 hx hb hG hown hK hP dX9_layGlad_36 ?_
  refine lv_iload_n hx hb dX9_layGlad_39 rfl (lv_at hl 2 rfl) ?_
  refine lv_iconst (v := 2) hx hb dX9_layGlad_40 (by decide) ?_
  refine lv_iadd hx hb dX9_layGlad_41 ?_
  refine lv_topi (fun x19 ex19 => ?_)
  have f20 : x19.toInt = 3 * (f_houses (i_bank.toInt).toNat).toInt + 12 * i_bank.toInt + (-1) := (ob_1511 (qi_add ex19 rfl zc_2 (ob_1509 ie4 f2 f14) (ob_1510 ie5 f2 f14)) f14)
  refine ldM_15 (mm := 3 * (f_houses (i_bank.toInt).toNat).toInt + 12 * i_bank.toInt + (-1)) hx hb hK hP f20 (ob_1512 ie4 hp0) (ob_1513 ie5 f2) dX9_layGlad_42 (fun x21 => ?_)
  refine lv_istore (lv' := [(5, .int x21), (4, .int x18), (3, .int x15), (2, .int x13), (1, .int x7), (0, .ref (r 0))]) hx hb dX9_layGlad_43 hl (by decide) rfl (fun ls hl => ?_)
  refine lv_aload_n hx hb dX9_layGlad_45 rfl (lv_at hl 5 rfl) ?_
  have hFc := frA hD hS hA
  refine va_callv (va_runV (As := []) (rest := []) ⟨hx, hb, hml, hown, hG⟩ (kX9_keepNow l dC dI r ct i_taped i_size i_faultKind i_at i_end i_token i_number i_bank i_rb i_codes i_within i_piled i_unitsInRule i_askHouse i_askTune i_acts i_undone i_laid i_knowns i_time f_text f_tunes f_houses f_hums f_told f_many f_ruleFrom f_ruleTo f_code f_eWhat f_eSign f_all f_kept f_was f_sTune f_boxAll J L H3.size hI) (cwV 0 hG (goodV gw1736 gw1738 gw113 gw138 gw1739) rfl rfl rfl hd_X9_keepNow ⟨(Nat.le_of_ble_eq_true rfl), (Nat.le_of_ble_eq_true rfl)⟩) ⟨fbW, va_recv hK hP (ci := 8) (q0 := 0) rfl rfl, pW_in hP hK hD⟩ rfl rfl hl.1 rfl (lv_room (Nat.le_of_ble_eq_true rfl)) dX9_layGlad_46 ⟨(Nat.le_of_ble_eq_true rfl), (Nat.le_of_ble_eq_true rfl)⟩) hS (fun q _ h => hFc q h) hFc (fun _ t_ H22 locs ht hvm hw hB hz1 hk1 hS => ?_)
  obtain ⟨z24, hP1, hD1, hI25⟩ := hB
  rw [ht] at hP1
  have hP := hP1
  have hD := dW hFc hD1
  obtain ⟨im26, im27, im28, im29, im30, im31, im32, im33, im34, im35, im36, im37, im38, im39, im40, im41, im42, im43, im44, im45, im46, im47, im48, im49, im50, im51, im52, im53, im54, im55, im56, im57, im58⟩ := id hI25
  refine lv_aload_n hx hb dX9_layGlad_49 rfl (lv_at hl 5 rfl) ?_
  have hFc := frA hD hS hA
  refine va_callv (va_runV (As := []) (rest := []) ⟨hx, hb, hml, hown, hG⟩ (kX9_layTold l dC dI r ct i_taped i_size i_faultKind i_at i_end i_token i_number i_bank i_rb i_codes i_within i_piled i_unitsInRule i_askHouse i_askTune i_acts i_undone i_laid i_knowns i_time f_text f_tunes f_houses f_hums f_told f_many f_ruleFrom f_ruleTo f_code f_eWhat f_eSign f_all z24 f_was f_sTune f_boxAll J L H22.size hI25) (cwV 0 hG (goodV gw1163 gw1165 gw57 gw138 gw1166) rfl rfl rfl hd_X9_layTold ⟨(Nat.le_of_ble_eq_true rfl), (Nat.le_of_ble_eq_true rfl)⟩) ⟨fbW, va_recv hK hP (ci := 8) (q0 := 0) rfl rfl, pW_in hP hK hD⟩ rfl rfl hl.1 rfl (lv_room (Nat.le_of_ble_eq_true rfl)) dX9_layGlad_50 ⟨(Nat.le_of_ble_eq_true rfl), (Nat.le_of_ble_eq_true rfl)⟩) hS (fun q _ h => hFc q h) hFc (fun _ t_ H59 locs ht hvm hw hB hz1 hk1 hS => ?_)
  obtain ⟨z61, hP1, hD1, hI62⟩ := hB
  rw [ht] at hP1
  have hP := hP1
  have hD := dW hFc hD1
  obtain ⟨im63, im64, im65, im66, im67, im68, im69, im70, im71, im72, im73, im74, im75, im76, im77, im78, im79, im80, im81, im82, im83, im84, im85, im86, im87, im88, im89, im90, im91, im92, im93, im94, im95⟩ := id hI62
  refine lv_iconst (v := 0) hx hb dX9_layGlad_53 (by decide) ?_
  refine lv_istore (lv' := [(6, .int 0), (5, .int x21), (4, .int x18), (3, .int x15), (2, .int x13), (1, .int x7), (0, .ref (r 0))]) hx hb dX9_layGlad_54 hl (by decide) rfl (fun ls hl => ?_)
  have L56 : ∀ (N56 : Nat) (y56_6 : Int32) (m56_i_askHouse m56_i_askTune : Int32) (m56_J : Nat → Nat → Int32) (H56 : Heap) (locs : List Loc) (ls : Array Slot) (g56_0 : (0 : Int) ≤ y56_6.toInt) (g56_1 : y56_6.toInt ≤ (343 : Int)) (hP : va_P (dC, dI) vwCl (WM r ct i_taped i_size i_faultKind i_at i_end i_token i_number i_bank i_rb i_codes i_within i_piled i_unitsInRule m56_i_askHouse m56_i_askTune i_acts i_undone i_laid i_knowns i_time f_text f_tunes f_houses f_hums f_told f_many f_ruleFrom f_ruleTo f_code f_eWhat f_eSign z61 z24 f_was f_sTune f_boxAll m56_J L) H56) (hD : va_D A (WM r ct i_taped i_size i_faultKind i_at i_end i_token i_number i_bank i_rb i_codes i_within i_piled i_unitsInRule m56_i_askHouse m56_i_askTune i_acts i_undone i_laid i_knowns i_time f_text f_tunes f_houses f_hums f_told f_many f_ruleFrom f_ruleTo f_code f_eWhat f_eSign z61 z24 f_was f_sTune f_boxAll m56_J L)) (hS : va_S A s.heap H56 locs) (hl : lv_has ls 8 [(0, .ref (r 0)), (1, .int x7), (2, .int x13), (3, .int x15), (4, .int x18), (5, .int x21), (6, .int y56_6)]) (hM : -1 * y56_6.toInt + 343 < (N56 : Int)), W p l e { frames := 20, cells := 0, slots := 0, locals := 667 } s m ([.ref (r 0)] : List Value).toArray below meth c0 H56 locs 0 0 Q (F0 m 56 ls []) := by
    intro N56
    induction N56 with
    | zero =>
      intro y56_6 m56_i_askHouse m56_i_askTune m56_J H56 locs ls g56_0 g56_1 hP hD hS hl hM
      exact ((ob_1514 hM g56_0 g56_1)).elim
    | succ N56 ih56 =>
      intro y56_6 m56_i_askHouse m56_i_askTune m56_J H56 locs ls g56_0 g56_1 hP hD hS hl hM
      have hM56 := msucc hM
      refine lv_iload hx hb dX9_layGlad_56 (lv_at hl 6 rfl) ?_
      refine lv_sipush (v := 343) hx hb dX9_layGlad_58 (by decide) ?_
      refine lv_icmp_ge (tgt := 139) hx hb dX9_layGlad_61 (by decide) (fun c_96 => ?_) (fun c_96 => ?_)
      · skip
        have f97 : 343 ≤ y56_6.toInt := qi_le c_96 zc_343 rfl
        refine lv_aload_n hx hb dX9_layGlad_139 rfl (lv_at hl 0 rfl) ?_
        refine gM_X9_57_0 hx hb hG hown hK hP dX9_layGlad_140 ?_
        refine lv_iload_n hx hb dX9_layGlad_143 rfl (lv_at hl 2 rfl) ?_
        refine lv_iload_n hx hb dX9_layGlad_144 rfl (lv_at hl 3 rfl) ?_
        refine stM_15 (mm := 3 * (f_houses (i_bank.toInt).toNat).toInt + 12 * i_bank.toInt + (-3)) hx hb hK hP hD hS f14 (ob_1502 ie4 hp0) (ob_1503 ie5 f2) dX9_layGlad_145 (fun J99 H98 locs hP hD hS => ?_)
        refine lv_aload_n hx hb dX9_layGlad_146 rfl (lv_at hl 0 rfl) ?_
        refine gM_X9_57_0 hx hb hG hown hK hP dX9_layGlad_147 ?_
        refine lv_iload_n hx hb dX9_layGlad_150 rfl (lv_at hl 2 rfl) ?_
        refine lv_iconst (v := 1) hx hb dX9_layGlad_151 (by decide) ?_
        refine lv_iadd hx hb dX9_layGlad_152 ?_
        refine lv_topi (fun x100 ex100 => ?_)
        have f101 : x100.toInt = 3 * (f_houses (i_bank.toInt).toNat).toInt + 12 * i_bank.toInt + (-2) := (ob_1506 (qi_add ex100 rfl zc_1 (ob_1504 ie4 f2 f14) (ob_1505 ie5 f2 f14)) f14)
        refine lv_iload hx hb dX9_layGlad_153 (lv_at hl 4 rfl) ?_
        refine stM_15 (mm := 3 * (f_houses (i_bank.toInt).toNat).toInt + 12 * i_bank.toInt + (-2)) hx hb hK hP hD hS f101 (ob_1507 ie4 hp0) (ob_1508 ie5 f2) dX9_layGlad_155 (fun J103 H102 locs hP hD hS => ?_)
        refine lv_aload_n hx hb dX9_layGlad_156 rfl (lv_at hl 0 rfl) ?_
        refine gM_X9_57_0 hx hb hG hown hK hP dX9_layGlad_157 ?_
        refine lv_iload_n hx hb dX9_layGlad_160 rfl (lv_at hl 2 rfl) ?_
        refine lv_iconst (v := 2) hx hb dX9_layGlad_161 (by decide) ?_
        refine lv_iadd hx hb dX9_layGlad_162 ?_
        refine lv_topi (fun x104 ex104 => ?_)
        have f105 : x104.toInt = 3 * (f_houses (i_bank.toInt).toNat).toInt + 12 * i_bank.toInt + (-1) := (ob_1511 (qi_add ex104 rfl zc_2 (ob_1509 ie4 f2 f14) (ob_1510 ie5 f2 f14)) f14)
        refine lv_iload hx hb dX9_layGlad_163 (lv_at hl 5 rfl) ?_
        refine stM_15 (mm := 3 * (f_houses (i_bank.toInt).toNat).toInt + 12 * i_bank.toInt + (-1)) hx hb hK hP hD hS f105 (ob_1512 ie4 hp0) (ob_1513 ie5 f2) dX9_layGlad_165 (fun J107 H106 locs hP hD hS => ?_)
        refine lv_aload_n hx hb dX9_layGlad_166 rfl (lv_at hl 0 rfl) ?_
        have hFc := frA hD hS hA
        refine va_callv (va_runV (As := []) (rest := []) ⟨hx, hb, hml, hown, hG⟩ (kX9_bringBack l dC dI r ct i_taped i_size i_faultKind i_at i_end i_token i_number i_bank i_rb i_codes i_within i_piled i_unitsInRule m56_i_askHouse m56_i_askTune i_acts i_undone i_laid i_knowns i_time f_text f_tunes f_houses f_hums f_told f_many f_ruleFrom f_ruleTo f_code f_eWhat f_eSign z61 z24 f_was f_sTune f_boxAll J107 L H106.size hI62) (cwV 0 hG (goodV gw1740 gw1742 gw114 gw138 gw1743) rfl rfl rfl hd_X9_bringBack ⟨(Nat.le_of_ble_eq_true rfl), (Nat.le_of_ble_eq_true rfl)⟩) ⟨fbW, va_recv hK hP (ci := 8) (q0 := 0) rfl rfl, pW_in hP hK hD⟩ rfl rfl hl.1 rfl (lv_room (Nat.le_of_ble_eq_true rfl)) dX9_layGlad_167 ⟨(Nat.le_of_ble_eq_true rfl), (Nat.le_of_ble_eq_true rfl)⟩) hS (fun q _ h => hFc q h) hFc (fun _ t_ H108 locs ht hvm hw hB hz1 hk1 hS => ?_)
        obtain ⟨z110, hP1, hD1, hI111⟩ := hB
        rw [ht] at hP1
        have hP := hP1
        have hD := dW hFc hD1
        obtain ⟨im112, im113, im114, im115, im116, im117, im118, im119, im120, im121, im122, im123, im124, im125, im126, im127, im128, im129, im130, im131, im132, im133, im134, im135, im136, im137, im138, im139, im140, im141, im142, im143, im144⟩ := id hI111
        rw [hQ]
        exact W.vret hx hb hr (fun t ht hW => ⟨⟨(), rfl, trivial, ⟨m56_i_askHouse, m56_i_askTune, z110, z24, J107, by rw [ht]; exact hP, hD, hI111⟩⟩, hS.F ht⟩) hS.2.2 dX9_layGlad_170
      · skip
        have f145 : y56_6.toInt < 343 := qi_nle c_96 zc_343 rfl
        refine lv_iconst (v := 0) hx hb dX9_layGlad_64 (by decide) ?_
        refine lv_istore (lv' := [(7, .int 0), (0, .ref (r 0)), (1, .int x7), (2, .int x13), (3, .int x15), (4, .int x18), (5, .int x21), (6, .int y56_6)]) hx hb dX9_layGlad_65 hl (by decide) rfl (fun ls hl => ?_)
        have L67 : ∀ (N67 : Nat) (y67_7 : Int32) (m67_J : Nat → Nat → Int32) (H67 : Heap) (locs : List Loc) (ls : Array Slot) (g67_0 : (0 : Int) ≤ y67_7.toInt) (g67_1 : y67_7.toInt ≤ (3 : Int)) (hP : va_P (dC, dI) vwCl (WM r ct i_taped i_size i_faultKind i_at i_end i_token i_number i_bank i_rb i_codes i_within i_piled i_unitsInRule m56_i_askHouse m56_i_askTune i_acts i_undone i_laid i_knowns i_time f_text f_tunes f_houses f_hums f_told f_many f_ruleFrom f_ruleTo f_code f_eWhat f_eSign z61 z24 f_was f_sTune f_boxAll m67_J L) H67) (hD : va_D A (WM r ct i_taped i_size i_faultKind i_at i_end i_token i_number i_bank i_rb i_codes i_within i_piled i_unitsInRule m56_i_askHouse m56_i_askTune i_acts i_undone i_laid i_knowns i_time f_text f_tunes f_houses f_hums f_told f_many f_ruleFrom f_ruleTo f_code f_eWhat f_eSign z61 z24 f_was f_sTune f_boxAll m67_J L)) (hS : va_S A s.heap H67 locs) (hl : lv_has ls 8 [(0, .ref (r 0)), (1, .int x7), (2, .int x13), (3, .int x15), (4, .int x18), (5, .int x21), (6, .int y56_6), (7, .int y67_7)]) (hM : -1 * y67_7.toInt + 3 < (N67 : Int)), W p l e { frames := 20, cells := 0, slots := 0, locals := 667 } s m ([.ref (r 0)] : List Value).toArray below meth c0 H67 locs 0 0 Q (F0 m 67 ls []) := by
          intro N67
          induction N67 with
          | zero =>
            intro y67_7 m67_J H67 locs ls g67_0 g67_1 hP hD hS hl hM
            exact ((ob_664 hM g67_0 g67_1)).elim
          | succ N67 ih67 =>
            intro y67_7 m67_J H67 locs ls g67_0 g67_1 hP hD hS hl hM
            have hM67 := msucc hM
            refine lv_iload hx hb dX9_layGlad_67 (lv_at hl 7 rfl) ?_
            refine lv_iconst (v := 3) hx hb dX9_layGlad_69 (by decide) ?_
            refine lv_icmp_ge (tgt := 95) hx hb dX9_layGlad_70 (by decide) (fun c_146 => ?_) (fun c_146 => ?_)
            · skip
              have f147 : 3 ≤ y67_7.toInt := qi_le c_146 zc_3 rfl
              refine lv_iconst (v := 0) hx hb dX9_layGlad_95 (by decide) ?_
              refine lv_istore (lv' := [(7, .int 0), (0, .ref (r 0)), (1, .int x7), (2, .int x13), (3, .int x15), (4, .int x18), (5, .int x21), (6, .int y56_6)]) hx hb dX9_layGlad_96 hl (by decide) rfl (fun ls hl => ?_)
              have L98 : ∀ (N98 : Nat) (y98_7 : Int32) (m98_i_askHouse m98_i_askTune : Int32) (m98_J : Nat → Nat → Int32) (H98 : Heap) (locs : List Loc) (ls : Array Slot) (g98_0 : (0 : Int) ≤ y98_7.toInt) (g98_1 : y98_7.toInt ≤ (5 : Int)) (hP : va_P (dC, dI) vwCl (WM r ct i_taped i_size i_faultKind i_at i_end i_token i_number i_bank i_rb i_codes i_within i_piled i_unitsInRule m98_i_askHouse m98_i_askTune i_acts i_undone i_laid i_knowns i_time f_text f_tunes f_houses f_hums f_told f_many f_ruleFrom f_ruleTo f_code f_eWhat f_eSign z61 z24 f_was f_sTune f_boxAll m98_J L) H98) (hD : va_D A (WM r ct i_taped i_size i_faultKind i_at i_end i_token i_number i_bank i_rb i_codes i_within i_piled i_unitsInRule m98_i_askHouse m98_i_askTune i_acts i_undone i_laid i_knowns i_time f_text f_tunes f_houses f_hums f_told f_many f_ruleFrom f_ruleTo f_code f_eWhat f_eSign z61 z24 f_was f_sTune f_boxAll m98_J L)) (hS : va_S A s.heap H98 locs) (hl : lv_has ls 8 [(0, .ref (r 0)), (1, .int x7), (2, .int x13), (3, .int x15), (4, .int x18), (5, .int x21), (6, .int y56_6), (7, .int y98_7)]) (hM : -1 * y98_7.toInt + 5 < (N98 : Int)), W p l e { frames := 20, cells := 0, slots := 0, locals := 667 } s m ([.ref (r 0)] : List Value).toArray below meth c0 H98 locs 0 0 Q (F0 m 98 ls []) := by
                intro N98
                induction N98 with
                | zero =>
                  intro y98_7 m98_i_askHouse m98_i_askTune m98_J H98 locs ls g98_0 g98_1 hP hD hS hl hM
                  exact ((ob_777 hM g98_0 g98_1)).elim
                | succ N98 ih98 =>
                  intro y98_7 m98_i_askHouse m98_i_askTune m98_J H98 locs ls g98_0 g98_1 hP hD hS hl hM
                  have hM98 := msucc hM
                  refine lv_iload hx hb dX9_layGlad_98 (lv_at hl 7 rfl) ?_
                  refine lv_aload_n hx hb dX9_layGlad_100 rfl (lv_at hl 0 rfl) ?_
                  refine va_calli (va_runV (As := []) (rest := [.int y98_7]) ⟨hx, hb, hml, hown, hG⟩ (kX9_songs l dC dI r ct i_taped i_size i_faultKind i_at i_end i_token i_number i_bank i_rb i_codes i_within i_piled i_unitsInRule m98_i_askHouse m98_i_askTune i_acts i_undone i_laid i_knowns i_time f_text f_tunes f_houses f_hums f_told f_many f_ruleFrom f_ruleTo f_code f_eWhat f_eSign z61 z24 f_was f_sTune f_boxAll m98_J L H98.size hI62) (cwV 0 hG (goodV gw1512 gw1514 gw86 gw138 gw1515) rfl rfl rfl hd_X9_songs ⟨(Nat.le_of_ble_eq_true rfl), (Nat.le_of_ble_eq_true rfl)⟩) ⟨fbR, va_recv hK hP (ci := 8) (q0 := 0) rfl rfl, pR_in hP hK⟩ rfl rfl hl.1 rfl (lv_room (Nat.le_of_ble_eq_true rfl)) dX9_layGlad_101 ⟨(Nat.le_of_ble_eq_true rfl), (Nat.le_of_ble_eq_true rfl)⟩) hS (fun q hq h => absurd hq (Nat.not_lt.mpr h)) (fun q h => hA q (Nat.le_trans hS.1 h)) (fun r_149 u_ t_ H148 locs ht hvm hw hB hz1 hk1 hS => ?_)
                  subst hw
                  have hP := wk hP hk1
                  have f150 := hB
                  have f151 : r_149.toInt = (f_tunes (i_bank.toInt).toNat).toInt := (ob_6 f150)
                  refine lv_icmp_ge (tgt := 133) hx hb dX9_layGlad_104 (by decide) (fun c_152 => ?_) (fun c_152 => ?_)
                  · skip
                    have f153 : r_149.toInt ≤ y98_7.toInt := qi_le c_152 rfl rfl
                    obtain ⟨x154, ex154⟩ : ∃ y : Int32, y = y56_6 + Int32.ofInt 1 := ⟨_, rfl⟩
                    have f155 : x154.toInt = y56_6.toInt + 1 := (ob_142 (qi_add ex154 rfl (by decide) (ob_140 g56_0) (ob_1515 g56_1)))
                    refine lv_iinc (v := x154) (lv' := [(6, .int x154), (0, .ref (r 0)), (1, .int x7), (2, .int x13), (3, .int x15), (4, .int x18), (5, .int x21), (7, .int y98_7)]) hx hb dX9_layGlad_133 hl (k := 6) rfl ex154.symm (by decide) rfl (fun ls hl => ?_)
                    refine lv_goto (tgt := 56) hx hb dX9_layGlad_136 (by decide) ?_
                    exact ih56 x154 m98_i_askHouse m98_i_askTune m98_J H148 _ _ (ob_149 g56_0 f155) (ob_1516 f145 f155) hP hD hS (lv_sub hl [1, 2, 3, 4, 5, 6, 0] rfl) (ob_1517 hM56 f155)
                  · skip
                    have f156 : y98_7.toInt < r_149.toInt := qi_nle c_152 rfl rfl
                    refine lv_aload_n hx hb dX9_layGlad_107 rfl (lv_at hl 0 rfl) ?_
                    refine gM_X9_100_0 hx hb hG hown hK hP dX9_layGlad_108 ?_
                    refine lv_iconst (v := 5) hx hb dX9_layGlad_111 (by decide) ?_
                    refine lv_iload hx hb dX9_layGlad_112 (lv_at hl 6 rfl) ?_
                    refine lv_imul hx hb dX9_layGlad_114 ?_
                    refine lv_topi (fun x157 ex157 => ?_)
                    have f158 : x157.toInt = 5 * y56_6.toInt := (ob_694 (qi_mul ex157 zc_5 rfl (ob_1518 g56_0) (ob_1519 g56_1)))
                    refine lv_iload hx hb dX9_layGlad_115 (lv_at hl 7 rfl) ?_
                    refine lv_iadd hx hb dX9_layGlad_117 ?_
                    refine lv_topi (fun x159 ex159 => ?_)
                    have f160 : x159.toInt = y98_7.toInt + 5 * y56_6.toInt := (ob_697 (qi_add ex159 rfl rfl (ob_853 g56_0 g98_0 f158) (ob_1520 g56_1 g98_1 f158)) f158)
                    refine lv_aload_n hx hb dX9_layGlad_118 rfl (lv_at hl 0 rfl) ?_
                    refine lv_iload_n hx hb dX9_layGlad_119 rfl (lv_at hl 1 rfl) ?_
                    refine lv_iload hx hb dX9_layGlad_120 (lv_at hl 7 rfl) ?_
                    refine lv_iconst (v := 0) hx hb dX9_layGlad_122 (by decide) ?_
                    have hFc := frA hD hS hA
                    refine va_calli (va_runV (As := [.int x7, .int y98_7, .int 0]) (rest := [.int x159, .ref (r 29)]) ⟨hx, hb, hml, hown, hG⟩ (kX9_gladBy l dC dI r ct i_taped i_size i_faultKind i_at i_end i_token i_number i_bank i_rb i_codes i_within i_piled i_unitsInRule m98_i_askHouse m98_i_askTune i_acts i_undone i_laid i_knowns i_time f_text f_tunes f_houses f_hums f_told f_many f_ruleFrom f_ruleTo f_code f_eWhat f_eSign z61 z24 f_was f_sTune f_boxAll m98_J L x7 y98_7 0 H148.size hI62 (ob_1521 f2 hp0 f8) (ob_1522 f8) (ob_139 g98_0) (ob_1054 f156 f151)) (cwV 3 hG (goodV gw1566 gw1568 gw95 gw138 gw1569) rfl rfl rfl hd_X9_gladBy ⟨(Nat.le_of_ble_eq_true rfl), (Nat.le_of_ble_eq_true rfl)⟩) ⟨fbW, va_recv hK hP (ci := 8) (q0 := 0) rfl rfl, pW_in hP hK hD⟩ rfl rfl hl.1 rfl (lv_room (Nat.le_of_ble_eq_true rfl)) dX9_layGlad_123 ⟨(Nat.le_of_ble_eq_true rfl), (Nat.le_of_ble_eq_true rfl)⟩) hS (fun q _ h => hFc q h) hFc (fun r_162 u_ t_ H161 locs ht hvm hw hB hz1 hk1 hS => ?_)
                    subst hw
                    obtain ⟨x163, x164, J165, hP1, hD1, hI166⟩ := hB
                    rw [ht] at hP1
                    have hP := hP1
                    have hD := dW hFc hD1
                    obtain ⟨im167, im168, im169, im170, im171, im172, im173, im174, im175, im176, im177, im178, im179, im180, im181, im182, im183, im184, im185, im186, im187, im188, im189, im190, im191, im192, im193, im194, im195, im196, im197, im198, im199⟩ := id hI166
                    refine stM_29 (mm := y98_7.toInt + 5 * y56_6.toInt) hx hb hK hP hD hS f160 (ob_855 g56_0 g98_0) (ob_1523 f1 f145 f156 f151) dX9_layGlad_126 (fun J201 H200 locs hP hD hS => ?_)
                    obtain ⟨x202, ex202⟩ : ∃ y : Int32, y = y98_7 + Int32.ofInt 1 := ⟨_, rfl⟩
                    have f203 : x202.toInt = y98_7.toInt + 1 := (ob_142 (qi_add ex202 rfl (by decide) (ob_140 g98_0) (ob_804 g98_1)))
                    refine lv_iinc (v := x202) (lv' := [(7, .int x202), (0, .ref (r 0)), (1, .int x7), (2, .int x13), (3, .int x15), (4, .int x18), (5, .int x21), (6, .int y56_6)]) hx hb dX9_layGlad_127 hl (k := 7) rfl ex202.symm (by decide) rfl (fun ls hl => ?_)
                    refine lv_goto (tgt := 98) hx hb dX9_layGlad_130 (by decide) ?_
                    exact ih98 x202 x163 x164 J201 H200 _ _ (ob_149 g98_0 f203) (ob_1047 f1 f156 f151 f203) hP hD hS (lv_sub hl [1, 2, 3, 4, 5, 6, 7, 0] rfl) (ob_806 hM98 f203)
              exact L98 (-1 * (0 : Int32).toInt + 5 + 1).toNat 0 m56_i_askHouse m56_i_askTune m67_J H67 _ _ (ob_1 zc_0) (ob_807 zc_0) hP hD hS (lv_sub hl [1, 2, 3, 4, 5, 6, 7, 0] rfl) (mlt (ob_808 zc_0))
            · skip
              have f204 : y67_7.toInt < 3 := qi_nle c_146 zc_3 rfl
              refine lv_aload_n hx hb dX9_layGlad_73 rfl (lv_at hl 0 rfl) ?_
              refine gM_X9_57_0 hx hb hG hown hK hP dX9_layGlad_74 ?_
              refine lv_iload_n hx hb dX9_layGlad_77 rfl (lv_at hl 2 rfl) ?_
              refine lv_iload hx hb dX9_layGlad_78 (lv_at hl 7 rfl) ?_
              refine lv_iadd hx hb dX9_layGlad_80 ?_
              refine lv_topi (fun x205 ex205 => ?_)
              have f206 : x205.toInt = y67_7.toInt + 3 * (f_houses (i_bank.toInt).toNat).toInt + 12 * i_bank.toInt + (-3) := (ob_1526 (qi_add ex205 rfl rfl (ob_1524 ie4 f2 g67_0 f14) (ob_1525 ie5 f2 g67_1 f14)) f14)
              refine lv_iload hx hb dX9_layGlad_81 (lv_at hl 6 rfl) ?_
              refine lv_iload hx hb dX9_layGlad_83 (lv_at hl 7 rfl) ?_
              refine va_calli (va_runS (As := [.int y56_6, .int y67_7]) (rest := [.int x205, .ref (r 15)]) ⟨hx, hb, hml, hown, hG⟩ (kX9_noteIn l dC dI y56_6 y67_7 H67.size (ob_139 g56_0) (ob_1527 f145)) (va_cwS 2 hG (goodS gw1842 gw1843 gw138 gw1844) rfl rfl rfl hd_X9_noteIn ⟨(Nat.le_of_ble_eq_true rfl), (Nat.le_of_ble_eq_true rfl)⟩) ⟨fbR, pR_in emptyP (emptyK hK)⟩ rfl rfl hl.1 rfl (lv_room (Nat.le_of_ble_eq_true rfl)) dX9_layGlad_85 ⟨(Nat.le_of_ble_eq_true rfl), (Nat.le_of_ble_eq_true rfl)⟩) hS (fun q hq h => absurd hq (Nat.not_lt.mpr h)) (fun q h => hA q (Nat.le_trans hS.1 h)) (fun r_208 u_ t_ H207 locs ht hvm hw hB hz1 hk1 hS => ?_)
              subst hw
              have hP := wk hP hk1
              obtain ⟨f209, f210, f211⟩ := hB
              refine stM_15 (mm := y67_7.toInt + 3 * (f_houses (i_bank.toInt).toNat).toInt + 12 * i_bank.toInt + (-3)) hx hb hK hP hD hS f206 (ob_1528 ie4 hp0 g67_0) (ob_1529 ie5 f2 f204) dX9_layGlad_88 (fun J213 H212 locs hP hD hS => ?_)
              obtain ⟨x214, ex214⟩ : ∃ y : Int32, y = y67_7 + Int32.ofInt 1 := ⟨_, rfl⟩
              have f215 : x214.toInt = y67_7.toInt + 1 := (ob_142 (qi_add ex214 rfl (by decide) (ob_140 g67_0) (ob_678 g67_1)))
              refine lv_iinc (v := x214) (lv' := [(7, .int x214), (0, .ref (r 0)), (1, .int x7), (2, .int x13), (3, .int x15), (4, .int x18), (5, .int x21), (6, .int y56_6)]) hx hb dX9_layGlad_89 hl (k := 7) rfl ex214.symm (by decide) rfl (fun ls hl => ?_)
              refine lv_goto (tgt := 67) hx hb dX9_layGlad_92 (by decide) ?_
              exact ih67 x214 J213 H212 _ _ (ob_149 g67_0 f215) (ob_679 f204 f215) hP hD hS (lv_sub hl [1, 2, 3, 4, 5, 6, 7, 0] rfl) (ob_680 hM67 f215)
        exact L67 (-1 * (0 : Int32).toInt + 3 + 1).toNat 0 m56_J H56 _ _ (ob_1 zc_0) (ob_681 zc_0) hP hD hS (lv_sub hl [1, 2, 3, 4, 5, 6, 7, 0] rfl) (mlt (ob_683 zc_0))
  exact L56 (-1 * (0 : Int32).toInt + 343 + 1).toNat 0 i_askHouse i_askTune J H59 _ _ (ob_1 zc_0) (ob_1530 zc_0) hP hD hS (lv_sub hl [6, 5, 4, 3, 2, 1, 0] rfl) (mlt (ob_1531 zc_0))
set_option maxHeartbeats 4000000 in
set_option maxRecDepth 100000 in
theorem kX9_doesFit (l : Launch) (dC : Nat → ClassId) (dI : Nat → Nat → Nat) (r : Nat → Nat) (ct : Nat → ClassId) (i_taped i_size i_faultKind i_at i_end i_token i_number i_bank i_rb i_codes i_within i_piled i_unitsInRule i_askHouse i_askTune i_acts i_undone i_laid i_knowns i_time : Int32) (f_text f_tunes f_houses f_hums f_told f_many f_ruleFrom f_ruleTo f_code f_eWhat f_eSign f_all f_kept f_was f_sTune f_boxAll : Nat → Int32) (J : Nat → Nat → Int32) (L : Nat → Nat → Int64) (p0 p1 : Int32) (sz : Nat) (hI : (IM i_taped i_size i_faultKind i_at i_end i_bank i_rb i_acts i_undone i_laid i_knowns i_time f_tunes f_houses f_hums f_told f_many f_ruleFrom f_ruleTo f_code f_all f_kept f_was f_sTune f_boxAll)) (hp0 : (0 : Int) ≤ p0.toInt) (hp1 : p0.toInt ≤ (342 : Int)) : Met l yX9_doesFit (.code yX9_doesFit cX9_doesFit 5 (some .boolean) :: GW) { frames := 2, cells := 0, slots := 0, locals := 100 } (va_Pc [.ref (r 0), .int p0, .int p1] (pR (dC, dI) (WM r ct i_taped i_size i_faultKind i_at i_end i_token i_number i_bank i_rb i_codes i_within i_piled i_unitsInRule i_askHouse i_askTune i_acts i_undone i_laid i_knowns i_time f_text f_tunes f_houses f_hums f_told f_many f_ruleFrom f_ruleTo f_code f_eWhat f_eSign f_all f_kept f_was f_sTune f_boxAll J L) (TM ct) sz)) (va_Qi (fun (r0 : Int32) (u : Int32) => r0 = u) (fun (u : Int32) (t : State) => (((u.toInt = (1 : Int))) ∨ ((u.toInt = (0 : Int)))) ∧ ((0 : Int) ≤ u.toInt) ∧ (u.toInt ≤ (1 : Int))) (fun q => sz ≤ q)) 0 0 (fun q => sz ≤ q) := by
  refine Met.ofW (cc := cX9_doesFit) (maxL := 5) (ret := (some .boolean)) (by decide) rfl ?_
  intro p e s m args below meth c0 s₁ B hml hv
  obtain ⟨rfl, hsz, hP, hK⟩ := hv
  have hx := B.exec
  have hb := B.bytes
  have hr := B.returns
  have hts := atoms_spec (ws := .code yX9_doesFit cX9_doesFit 5 (some .boolean) :: GW) B.pre
  have hG : ∀ w ∈ GW, w.before _ s = true := fun w h => hts w (List.mem_cons_of_mem _ h)
  have hown : s.vm.findClass RX9 = some m.cls := findClass_of_methodNamed B.named
  subst hsz
  have hS : va_S (fun q => s.heap.size ≤ q) s.heap s.heap [] := va_S.rf
  have hP : va_P (dC, dI) vwCl (WM r ct i_taped i_size i_faultKind i_at i_end i_token i_number i_bank i_rb i_codes i_within i_piled i_unitsInRule i_askHouse i_askTune i_acts i_undone i_laid i_knowns i_time f_text f_tunes f_houses f_hums f_told f_many f_ruleFrom f_ruleTo f_code f_eWhat f_eSign f_all f_kept f_was f_sTune f_boxAll J L) s.heap := hP
  have hl := lv_entry ([.ref (r 0), .int p0, .int p1]) (n := 5) (Nat.le_of_ble_eq_true rfl)
  rw [lg_entry_eq]
  generalize (lg_sl ([.ref (r 0), .int p0, .int p1]) ++ List.replicate (5 - (lg_sl ([.ref (r 0), .int p0, .int p1])).length) Slot.unset).toArray = ls at hl ⊢
  have hl : lv_has ls 5 [(0, .ref (r 0)), (1, .int p0), (2, .int p1)] := hl
  refine nameQ (fun Q hQ => ?_)
  obtain ⟨ie0, ie1, ie2, ie3, ie4, ie5, ie6, ie7, ie8, ie9, ie10, ie11, ie12, ie13, ie14, ie15, ie16, ie17, ie18, ie19, ie20, ie21, ie22, ie23, ie24, ie25, ie26, ie27, ie28, ie29, ie30, ie31, ie32⟩ := id hI
  have f1 : 0 ≤ (f_tunes (i_bank.toInt).toNat).toInt ∧ (f_tunes (i_bank.toInt).toNat).toInt ≤ 5 := ie21 (i_bank.toInt)
  have f2 : 0 ≤ (f_houses (i_bank.toInt).toNat).toInt ∧ (f_houses (i_bank.toInt).toNat).toInt ≤ 4 := ie22 (i_bank.toInt)
  refine lv_iconst (v := 0) hx hb dX9_doesFit_0 (by decide) ?_
  refine lv_istore_n (lv' := [(3, .int 0), (0, .ref (r 0)), (1, .int p0), (2, .int p1)]) hx hb dX9_doesFit_1 rfl hl (by decide) rfl (fun ls hl => ?_)
  have L2 : ∀ (N2 : Nat) (y2_3 : Int32) (H2 : Heap) (locs : List Loc) (ls : Array Slot) (g2_0 : (0 : Int) ≤ y2_3.toInt) (g2_1 : y2_3.toInt ≤ (30 : Int)) (hP : va_P (dC, dI) vwCl (WM r ct i_taped i_size i_faultKind i_at i_end i_token i_number i_bank i_rb i_codes i_within i_piled i_unitsInRule i_askHouse i_askTune i_acts i_undone i_laid i_knowns i_time f_text f_tunes f_houses f_hums f_told f_many f_ruleFrom f_ruleTo f_code f_eWhat f_eSign f_all f_kept f_was f_sTune f_boxAll J L) H2) (hS : va_S (fun q => s.heap.size ≤ q) s.heap H2 locs) (hl : lv_has ls 5 [(0, .ref (r 0)), (1, .int p0), (2, .int p1), (3, .int y2_3)]) (hM : -1 * y2_3.toInt + 30 < (N2 : Int)), W p l e { frames := 2, cells := 0, slots := 0, locals := 100 } s m ([.ref (r 0), .int p0, .int p1] : List Value).toArray below meth c0 H2 locs 0 0 Q (F0 m 2 ls []) := by
    intro N2
    induction N2 with
    | zero =>
      intro y2_3 H2 locs ls g2_0 g2_1 hP hS hl hM
      exact ((ob_1532 hM g2_0 g2_1)).elim
    | succ N2 ih2 =>
      intro y2_3 H2 locs ls g2_0 g2_1 hP hS hl hM
      have hM2 := msucc hM
      refine lv_iload_n hx hb dX9_doesFit_2 rfl (lv_at hl 3 rfl) ?_
      refine lv_aload_n hx hb dX9_doesFit_3 rfl (lv_at hl 0 rfl) ?_
      refine gM_X9_370_0 hx hb hG hown hK hP dX9_doesFit_4 ?_
      refine lv_icmp_ge (tgt := 92) hx hb dX9_doesFit_7 (by decide) (fun c_3 => ?_) (fun c_3 => ?_)
      · skip
        have f4 : i_knowns.toInt ≤ y2_3.toInt := qi_le c_3 rfl rfl
        refine lv_iconst (v := 1) hx hb dX9_doesFit_92 (by decide) ?_
        rw [hQ]
        exact W.zret (v := 1) hx hb hr (by decide) (fun t ht hW => ⟨⟨1, 1, rfl, rfl, ⟨(ob_1280 zc_1), (ob_14 zc_1), (ob_15 zc_1)⟩⟩, hS.F ht⟩) hS.2.2 dX9_doesFit_93
      · skip
        have f5 : y2_3.toInt < i_knowns.toInt := qi_nle c_3 rfl rfl
        refine lv_aload_n hx hb dX9_doesFit_10 rfl (lv_at hl 0 rfl) ?_
        refine gM_X9_112_0 hx hb hG hown hK hP dX9_doesFit_11 ?_
        refine lv_iload_n hx hb dX9_doesFit_14 rfl (lv_at hl 3 rfl) ?_
        refine ldM_33 (mm := y2_3.toInt) hx hb hK hP rfl (ob_350 g2_0) (ob_1533 ie11 f5) dX9_doesFit_15 (fun x6 => ?_)
        refine lv_iload_n hx hb dX9_doesFit_16 rfl (lv_at hl 2 rfl) ?_
        refine lv_icmp_gt (tgt := 86) hx hb dX9_doesFit_17 (by decide) (fun c_7 => ?_) (fun c_7 => ?_)
        · skip
          have f8 : p1.toInt < x6.toInt := qi_lt c_7 rfl rfl
          obtain ⟨x9, ex9⟩ : ∃ y : Int32, y = y2_3 + Int32.ofInt 1 := ⟨_, rfl⟩
          have f10 : x9.toInt = y2_3.toInt + 1 := (ob_142 (qi_add ex9 rfl (by decide) (ob_140 g2_0) (ob_371 g2_1)))
          refine lv_iinc (v := x9) (lv' := [(3, .int x9), (0, .ref (r 0)), (1, .int p0), (2, .int p1)]) hx hb dX9_doesFit_86 hl (k := 3) rfl ex9.symm (by decide) rfl (fun ls hl => ?_)
          refine lv_goto (tgt := 2) hx hb dX9_doesFit_89 (by decide) ?_
          exact ih2 x9 H2 _ _ (ob_149 g2_0 f10) (ob_1534 ie11 f5 f10) hP hS (lv_sub hl [1, 2, 3, 0] rfl) (ob_1535 hM2 f10)
        · skip
          have f11 : x6.toInt ≤ p1.toInt := qi_nlt c_7 rfl rfl
          refine lv_aload_n hx hb dX9_doesFit_20 rfl (lv_at hl 0 rfl) ?_
          refine gM_X9_115_0 hx hb hG hown hK hP dX9_doesFit_21 ?_
          refine lv_iload_n hx hb dX9_doesFit_24 rfl (lv_at hl 3 rfl) ?_
          refine ldM_34 (mm := y2_3.toInt) hx hb hK hP rfl (ob_350 g2_0) (ob_1533 ie11 f5) dX9_doesFit_25 (fun x12 => ?_)
          refine lv_if_lt (tgt := 42) hx hb dX9_doesFit_26 (by decide) (fun c_13 => ?_) (fun c_13 => ?_)
          · skip
            have f14 : x12.toInt < 0 := qi_lt c_13 rfl zc_0
            refine lv_aload_n hx hb dX9_doesFit_42 rfl (lv_at hl 0 rfl) ?_
            refine gM_X9_100_0 hx hb hG hown hK hP dX9_doesFit_43 ?_
            refine lv_iconst (v := 5) hx hb dX9_doesFit_46 (by decide) ?_
            refine lv_iload_n hx hb dX9_doesFit_47 rfl (lv_at hl 1 rfl) ?_
            refine lv_imul hx hb dX9_doesFit_48 ?_
            refine lv_topi (fun x15 ex15 => ?_)
            have f16 : x15.toInt = 5 * p0.toInt := (ob_694 (qi_mul ex15 zc_5 rfl (ob_1536 hp0 hp1) (ob_1537 hp0 hp1)))
            refine lv_aload_n hx hb dX9_doesFit_49 rfl (lv_at hl 0 rfl) ?_
            refine gM_X9_103_0 hx hb hG hown hK hP dX9_doesFit_50 ?_
            refine lv_iload_n hx hb dX9_doesFit_53 rfl (lv_at hl 3 rfl) ?_
            refine ldM_30 (mm := y2_3.toInt) hx hb hK hP rfl (ob_350 g2_0) (ob_1533 ie11 f5) dX9_doesFit_54 ?_
            have f17 : 0 ≤ (f_sTune (y2_3.toInt).toNat).toInt ∧ (f_sTune (y2_3.toInt).toNat).toInt ≤ 4 := ie26 (y2_3.toInt)
            refine lv_iadd hx hb dX9_doesFit_55 ?_
            refine lv_topi (fun x18 ex18 => ?_)
            have f19 : x18.toInt = (f_sTune (y2_3.toInt).toNat).toInt + 5 * p0.toInt := (ob_697 (qi_add ex18 rfl rfl (ob_1538 hp0 hp1 f17 f16) (ob_1539 hp0 hp1 f17 f16)) f16)
            refine ldM_29 (mm := (f_sTune (y2_3.toInt).toNat).toInt + 5 * p0.toInt) hx hb hK hP f19 (ob_1540 hp0 hp1 f17) (ob_1541 hp0 hp1 f17) dX9_doesFit_56 (fun x20 => ?_)
            refine lv_aload_n hx hb dX9_doesFit_57 rfl (lv_at hl 0 rfl) ?_
            refine gM_X9_106_0 hx hb hG hown hK hP dX9_doesFit_58 ?_
            refine lv_iload_n hx hb dX9_doesFit_61 rfl (lv_at hl 3 rfl) ?_
            refine ldM_31 (mm := y2_3.toInt) hx hb hK hP rfl (ob_350 g2_0) (ob_1533 ie11 f5) dX9_doesFit_62 (fun x21 => ?_)
            refine lv_icmp_lt (tgt := 70) hx hb dX9_doesFit_63 (by decide) (fun c_22 => ?_) (fun c_22 => ?_)
            · skip
              have f23 : x20.toInt < x21.toInt := qi_lt c_22 rfl rfl
              refine lv_iconst (v := 0) hx hb dX9_doesFit_70 (by decide) ?_
              refine lv_istore (lv' := [(4, .int 0), (0, .ref (r 0)), (1, .int p0), (2, .int p1), (3, .int y2_3)]) hx hb dX9_doesFit_71 hl (by decide) rfl (fun ls hl => ?_)
              refine lv_iload hx hb dX9_doesFit_73 (lv_at hl 0 rfl) ?_
              refine lv_aload_n hx hb dX9_doesFit_75 rfl (lv_at hl 1 rfl) ?_
              refine gM_X9_109_0 hx hb hG hown hK hP dX9_doesFit_76 ?_
              refine lv_iload_n hx hb dX9_doesFit_79 rfl (lv_at hl 4 rfl) ?_
              refine ldM_32 (mm := y2_3.toInt) hx hb hK hP rfl (ob_350 g2_0) (ob_1533 ie11 f5) dX9_doesFit_80 (fun x24 => ?_)
              refine lv_icmp_eq (tgt := 86) hx hb dX9_doesFit_81 (by decide) (fun c_25 => ?_) (fun c_25 => ?_)
              · skip
                have f26 : 0 = x24.toInt := qi_eq c_25 zc_0 rfl
                obtain ⟨x27, ex27⟩ : ∃ y : Int32, y = y2_3 + Int32.ofInt 1 := ⟨_, rfl⟩
                have f28 : x27.toInt = y2_3.toInt + 1 := (ob_142 (qi_add ex27 rfl (by decide) (ob_140 g2_0) (ob_371 g2_1)))
                refine lv_iinc (v := x27) (lv' := [(3, .int x27), (4, .int 0), (0, .ref (r 0)), (1, .int p0), (2, .int p1)]) hx hb dX9_doesFit_86 hl (k := 4) rfl ex27.symm (by decide) rfl (fun ls hl => ?_)
                refine lv_goto (tgt := 2) hx hb dX9_doesFit_89 (by decide) ?_
                exact ih2 x27 H2 _ _ (ob_149 g2_0 f28) (ob_1534 ie11 f5 f28) hP hS (lv_sub hl [2, 3, 4, 0] rfl) (ob_1535 hM2 f28)
              · skip
                have f29 : 0 ≠ x24.toInt := qi_ne c_25 zc_0 rfl
                refine lv_iconst (v := 0) hx hb dX9_doesFit_84 (by decide) ?_
                rw [hQ]
                exact W.zret (v := 0) hx hb hr (by decide) (fun t ht hW => ⟨⟨0, 0, rfl, rfl, ⟨(ob_1288 zc_0), (ob_1 zc_0), (ob_11 zc_0)⟩⟩, hS.F ht⟩) hS.2.2 dX9_doesFit_85
            · skip
              have f30 : x21.toInt ≤ x20.toInt := qi_nlt c_22 rfl rfl
              refine lv_iconst (v := 1) hx hb dX9_doesFit_66 (by decide) ?_
              refine lv_goto (tgt := 71) hx hb dX9_doesFit_67 (by decide) ?_
              refine lv_istore (lv' := [(4, .int 1), (0, .ref (r 0)), (1, .int p0), (2, .int p1), (3, .int y2_3)]) hx hb dX9_doesFit_71 hl (by decide) rfl (fun ls hl => ?_)
              refine lv_iload hx hb dX9_doesFit_73 (lv_at hl 0 rfl) ?_
              refine lv_aload_n hx hb dX9_doesFit_75 rfl (lv_at hl 1 rfl) ?_
              refine gM_X9_109_0 hx hb hG hown hK hP dX9_doesFit_76 ?_
              refine lv_iload_n hx hb dX9_doesFit_79 rfl (lv_at hl 4 rfl) ?_
              refine ldM_32 (mm := y2_3.toInt) hx hb hK hP rfl (ob_350 g2_0) (ob_1533 ie11 f5) dX9_doesFit_80 (fun x31 => ?_)
              refine lv_icmp_eq (tgt := 86) hx hb dX9_doesFit_81 (by decide) (fun c_32 => ?_) (fun c_32 => ?_)
              · skip
                have f33 : 1 = x31.toInt := qi_eq c_32 zc_1 rfl
                obtain ⟨x34, ex34⟩ : ∃ y : Int32, y = y2_3 + Int32.ofInt 1 := ⟨_, rfl⟩
                have f35 : x34.toInt = y2_3.toInt + 1 := (ob_142 (qi_add ex34 rfl (by decide) (ob_140 g2_0) (ob_371 g2_1)))
                refine lv_iinc (v := x34) (lv' := [(3, .int x34), (4, .int 1), (0, .ref (r 0)), (1, .int p0), (2, .int p1)]) hx hb dX9_doesFit_86 hl (k := 4) rfl ex34.symm (by decide) rfl (fun ls hl => ?_)
                refine lv_goto (tgt := 2) hx hb dX9_doesFit_89 (by decide) ?_
                exact ih2 x34 H2 _ _ (ob_149 g2_0 f35) (ob_1534 ie11 f5 f35) hP hS (lv_sub hl [2, 3, 4, 0] rfl) (ob_1535 hM2 f35)
              · skip
                have f36 : 1 ≠ x31.toInt := qi_ne c_32 zc_1 rfl
                refine lv_iconst (v := 0) hx hb dX9_doesFit_84 (by decide) ?_
                rw [hQ]
                exact W.zret (v := 0) hx hb hr (by decide) (fun t ht hW => ⟨⟨0, 0, rfl, rfl, ⟨(ob_1288 zc_0), (ob_1 zc_0), (ob_11 zc_0)⟩⟩, hS.F ht⟩) hS.2.2 dX9_doesFit_85
          · skip
            have f37 : 0 ≤ x12.toInt := qi_nlt c_13 rfl zc_0
            refine lv_aload_n hx hb dX9_doesFit_29 rfl (lv_at hl 0 rfl) ?_
            refine gM_X9_115_0 hx hb hG hown hK hP dX9_doesFit_30 ?_
            refine lv_iload_n hx hb dX9_doesFit_33 rfl (lv_at hl 3 rfl) ?_
            refine ldM_34 (mm := y2_3.toInt) hx hb hK hP rfl (ob_350 g2_0) (ob_1533 ie11 f5) dX9_doesFit_34 (fun x38 => ?_)
            refine lv_iload_n hx hb dX9_doesFit_35 rfl (lv_at hl 2 rfl) ?_
            refine lv_icmp_gt (tgt := 42) hx hb dX9_doesFit_36 (by decide) (fun c_39 => ?_) (fun c_39 => ?_)
            · skip
              have f40 : p1.toInt < x38.toInt := qi_lt c_39 rfl rfl
              refine lv_aload_n hx hb dX9_doesFit_42 rfl (lv_at hl 0 rfl) ?_
              refine gM_X9_100_0 hx hb hG hown hK hP dX9_doesFit_43 ?_
              refine lv_iconst (v := 5) hx hb dX9_doesFit_46 (by decide) ?_
              refine lv_iload_n hx hb dX9_doesFit_47 rfl (lv_at hl 1 rfl) ?_
              refine lv_imul hx hb dX9_doesFit_48 ?_
              refine lv_topi (fun x41 ex41 => ?_)
              have f42 : x41.toInt = 5 * p0.toInt := (ob_694 (qi_mul ex41 zc_5 rfl (ob_1536 hp0 hp1) (ob_1537 hp0 hp1)))
              refine lv_aload_n hx hb dX9_doesFit_49 rfl (lv_at hl 0 rfl) ?_
              refine gM_X9_103_0 hx hb hG hown hK hP dX9_doesFit_50 ?_
              refine lv_iload_n hx hb dX9_doesFit_53 rfl (lv_at hl 3 rfl) ?_
              refine ldM_30 (mm := y2_3.toInt) hx hb hK hP rfl (ob_350 g2_0) (ob_1533 ie11 f5) dX9_doesFit_54 ?_
              have f43 : 0 ≤ (f_sTune (y2_3.toInt).toNat).toInt ∧ (f_sTune (y2_3.toInt).toNat).toInt ≤ 4 := ie26 (y2_3.toInt)
              refine lv_iadd hx hb dX9_doesFit_55 ?_
              refine lv_topi (fun x44 ex44 => ?_)
              have f45 : x44.toInt = (f_sTune (y2_3.toInt).toNat).toInt + 5 * p0.toInt := (ob_697 (qi_add ex44 rfl rfl (ob_1538 hp0 hp1 f43 f42) (ob_1539 hp0 hp1 f43 f42)) f42)
              refine ldM_29 (mm := (f_sTune (y2_3.toInt).toNat).toInt + 5 * p0.toInt) hx hb hK hP f45 (ob_1540 hp0 hp1 f43) (ob_1541 hp0 hp1 f43) dX9_doesFit_56 (fun x46 => ?_)
              refine lv_aload_n hx hb dX9_doesFit_57 rfl (lv_at hl 0 rfl) ?_
              refine gM_X9_106_0 hx hb hG hown hK hP dX9_doesFit_58 ?_
              refine lv_iload_n hx hb dX9_doesFit_61 rfl (lv_at hl 3 rfl) ?_
              refine ldM_31 (mm := y2_3.toInt) hx hb hK hP rfl (ob_350 g2_0) (ob_1533 ie11 f5) dX9_doesFit_62 (fun x47 => ?_)
              refine lv_icmp_lt (tgt := 70) hx hb dX9_doesFit_63 (by decide) (fun c_48 => ?_) (fun c_48 => ?_)
              · skip
                have f49 : x46.toInt < x47.toInt := qi_lt c_48 rfl rfl
                refine lv_iconst (v := 0) hx hb dX9_doesFit_70 (by decide) ?_
                refine lv_istore (lv' := [(4, .int 0), (0, .ref (r 0)), (1, .int p0), (2, .int p1), (3, .int y2_3)]) hx hb dX9_doesFit_71 hl (by decide) rfl (fun ls hl => ?_)
                refine lv_iload hx hb dX9_doesFit_73 (lv_at hl 0 rfl) ?_
                refine lv_aload_n hx hb dX9_doesFit_75 rfl (lv_at hl 1 rfl) ?_
                refine gM_X9_109_0 hx hb hG hown hK hP dX9_doesFit_76 ?_
                refine lv_iload_n hx hb dX9_doesFit_79 rfl (lv_at hl 4 rfl) ?_
                refine ldM_32 (mm := y2_3.toInt) hx hb hK hP rfl (ob_350 g2_0) (ob_1533 ie11 f5) dX9_doesFit_80 (fun x50 => ?_)
                refine lv_icmp_eq (tgt := 86) hx hb dX9_doesFit_81 (by decide) (fun c_51 => ?_) (fun c_51 => ?_)
                · skip
                  have f52 : 0 = x50.toInt := qi_eq c_51 zc_0 rfl
                  obtain ⟨x53, ex53⟩ : ∃ y : Int32, y = y2_3 + Int32.ofInt 1 := ⟨_, rfl⟩
                  have f54 : x53.toInt = y2_3.toInt + 1 := (ob_142 (qi_add ex53 rfl (by decide) (ob_140 g2_0) (ob_371 g2_1)))
                  refine lv_iinc (v := x53) (lv' := [(3, .int x53), (4, .int 0), (0, .ref (r 0)), (1, .int p0), (2, .int p1)]) hx hb dX9_doesFit_86 hl (k := 4) rfl ex53.symm (by decide) rfl (fun ls hl => ?_)
                  refine lv_goto (tgt := 2) hx hb dX9_doesFit_89 (by decide) ?_
                  exact ih2 x53 H2 _ _ (ob_149 g2_0 f54) (ob_1534 ie11 f5 f54) hP hS (lv_sub hl [2, 3, 4, 0] rfl) (ob_1535 hM2 f54)
                · skip
                  have f55 : 0 ≠ x50.toInt := qi_ne c_51 zc_0 rfl
                  refine lv_iconst (v := 0) hx hb dX9_doesFit_84 (by decide) ?_
                  rw [hQ]
                  exact W.zret (v := 0) hx hb hr (by decide) (fun t ht hW => ⟨⟨0, 0, rfl, rfl, ⟨(ob_1288 zc_0), (ob_1 zc_0), (ob_11 zc_0)⟩⟩, hS.F ht⟩) hS.2.2 dX9_doesFit_85
              · skip
                have f56 : x47.toInt ≤ x46.toInt := qi_nlt c_48 rfl rfl
                refine lv_iconst (v := 1) hx hb dX9_doesFit_66 (by decide) ?_
                refine lv_goto (tgt := 71) hx hb dX9_doesFit_67 (by decide) ?_
                refine lv_istore (lv' := [(4, .int 1), (0, .ref (r 0)), (1, .int p0), (2, .int p1), (3, .int y2_3)]) hx hb dX9_doesFit_71 hl (by decide) rfl (fun ls hl => ?_)
                refine lv_iload hx hb dX9_doesFit_73 (lv_at hl 0 rfl) ?_
                refine lv_aload_n hx hb dX9_doesFit_75 rfl (lv_at hl 1 rfl) ?_
                refine gM_X9_109_0 hx hb hG hown hK hP dX9_doesFit_76 ?_
                refine lv_iload_n hx hb dX9_doesFit_79 rfl (lv_at hl 4 rfl) ?_
                refine ldM_32 (mm := y2_3.toInt) hx hb hK hP rfl (ob_350 g2_0) (ob_1533 ie11 f5) dX9_doesFit_80 (fun x57 => ?_)
                refine lv_icmp_eq (tgt := 86) hx hb dX9_doesFit_81 (by decide) (fun c_58 => ?_) (fun c_58 => ?_)
                · skip
                  have f59 : 1 = x57.toInt := qi_eq c_58 zc_1 rfl
                  obtain ⟨x60, ex60⟩ : ∃ y : Int32, y = y2_3 + Int32.ofInt 1 := ⟨_, rfl⟩
                  have f61 : x60.toInt = y2_3.toInt + 1 := (ob_142 (qi_add ex60 rfl (by decide) (ob_140 g2_0) (ob_371 g2_1)))
                  refine lv_iinc (v := x60) (lv' := [(3, .int x60), (4, .int 1), (0, .ref (r 0)), (1, .int p0), (2, .int p1)]) hx hb dX9_doesFit_86 hl (k := 4) rfl ex60.symm (by decide) rfl (fun ls hl => ?_)
                  refine lv_goto (tgt := 2) hx hb dX9_doesFit_89 (by decide) ?_
                  exact ih2 x60 H2 _ _ (ob_149 g2_0 f61) (ob_1534 ie11 f5 f61) hP hS (lv_sub hl [2, 3, 4, 0] rfl) (ob_1535 hM2 f61)
                · skip
                  have f62 : 1 ≠ x57.toInt := qi_ne c_58 zc_1 rfl
                  refine lv_iconst (v := 0) hx hb dX9_doesFit_84 (by decide) ?_
                  rw [hQ]
                  exact W.zret (v := 0) hx hb hr (by decide) (fun t ht hW => ⟨⟨0, 0, rfl, rfl, ⟨(ob_1288 zc_0), (ob_1 zc_0), (ob_11 zc_0)⟩⟩, hS.F ht⟩) hS.2.2 dX9_doesFit_85
            · skip
              have f63 : x38.toInt ≤ p1.toInt := qi_nlt c_39 rfl rfl
              refine lv_goto (tgt := 86) hx hb dX9_doesFit_39 (by decide) ?_
              obtain ⟨x64, ex64⟩ : ∃ y : Int32, y = y2_3 + Int32.ofInt 1 := ⟨_, rfl⟩
              have f65 : x64.toInt = y2_3.toInt + 1 := (ob_142 (qi_add ex64 rfl (by decide) (ob_140 g2_0) (ob_371 g2_1)))
              refine lv_iinc (v := x64) (lv' := [(3, .int x64), (0, .ref (r 0)), (1, .int p0), (2, .int p1)]) hx hb dX9_doesFit_86 hl (k := 3) rfl ex64.symm (by decide) rfl (fun ls hl => ?_)
              refine lv_goto (tgt := 2) hx hb dX9_doesFit_89 (by decide) ?_
              exact ih2 x64 H2 _ _ (ob_149 g2_0 f65) (ob_1534 ie11 f5 f65) hP hS (lv_sub hl [1, 2, 3, 0] rfl) (ob_1535 hM2 f65)
  exact L2 (-1 * (0 : Int32).toInt + 30 + 1).toNat 0 s.heap _ _ (ob_1 zc_0) (ob_815 zc_0) hP hS (lv_sub hl [1, 2, 3, 0] rfl) (mlt (ob_1542 zc_0))
set_option maxHeartbeats 4000000 in
set_option maxRecDepth 100000 in
theorem kX9_layRows (l : Launch) (dC : Nat → ClassId) (dI : Nat → Nat → Nat) (r : Nat → Nat) (ct : Nat → ClassId) (i_taped i_size i_faultKind i_at i_end i_token i_number i_bank i_rb i_codes i_within i_piled i_unitsInRule i_askHouse i_askTune i_acts i_undone i_laid i_knowns i_time : Int32) (f_text f_tunes f_houses f_hums f_told f_many f_ruleFrom f_ruleTo f_code f_eWhat f_eSign f_all f_kept f_was f_sTune f_boxAll : Nat → Int32) (J : Nat → Nat → Int32) (L : Nat → Nat → Int64) (p0 : Int32) (sz : Nat) (hI : (IM i_taped i_size i_faultKind i_at i_end i_bank i_rb i_acts i_undone i_laid i_knowns i_time f_tunes f_houses f_hums f_told f_many f_ruleFrom f_ruleTo f_code f_all f_kept f_was f_sTune f_boxAll)) : Met l yX9_layRows (.code yX9_layRows cX9_layRows 4 none :: GW) { frames := 22, cells := 0, slots := 0, locals := 734 } (va_Pc [.ref (r 0), .int p0] (pW (dC, dI) (WM r ct i_taped i_size i_faultKind i_at i_end i_token i_number i_bank i_rb i_codes i_within i_piled i_unitsInRule i_askHouse i_askTune i_acts i_undone i_laid i_knowns i_time f_text f_tunes f_houses f_hums f_told f_many f_ruleFrom f_ruleTo f_code f_eWhat f_eSign f_all f_kept f_was f_sTune f_boxAll J L) (TM ct) sz)) (va_Qv (fun _ : Unit => True) (fun (_ : Unit) (t : State) => ∃ (n_i_askHouse n_i_askTune : Int32) (n_f_all n_f_kept : Nat → Int32) (n_J : Nat → Nat → Int32), va_P (dC, dI) vwCl (WM r ct i_taped i_size i_faultKind i_at i_end i_token i_number i_bank i_rb i_codes i_within i_piled i_unitsInRule n_i_askHouse n_i_askTune i_acts i_undone i_laid i_knowns i_time f_text f_tunes f_houses f_hums f_told f_many f_ruleFrom f_ruleTo f_code f_eWhat f_eSign n_f_all n_f_kept f_was f_sTune f_boxAll n_J L) t.heap ∧ va_D (va_A (WM r ct i_taped i_size i_faultKind i_at i_end i_token i_number i_bank i_rb i_codes i_within i_piled i_unitsInRule i_askHouse i_askTune i_acts i_undone i_laid i_knowns i_time f_text f_tunes f_houses f_hums f_told f_many f_ruleFrom f_ruleTo f_code f_eWhat f_eSign f_all f_kept f_was f_sTune f_boxAll J L) sz) (WM r ct i_taped i_size i_faultKind i_at i_end i_token i_number i_bank i_rb i_codes i_within i_piled i_unitsInRule n_i_askHouse n_i_askTune i_acts i_undone i_laid i_knowns i_time f_text f_tunes f_houses f_hums f_told f_many f_ruleFrom f_ruleTo f_code f_eWhat f_eSign n_f_all n_f_kept f_was f_sTune f_boxAll n_J L) ∧ (IM i_taped i_size i_faultKind i_at i_end i_bank i_rb i_acts i_undone i_laid i_knowns i_time f_tunes f_houses f_hums f_told f_many f_ruleFrom f_ruleTo f_code n_f_all n_f_kept f_was f_sTune f_boxAll)) (va_A (WM r ct i_taped i_size i_faultKind i_at i_end i_token i_number i_bank i_rb i_codes i_within i_piled i_unitsInRule i_askHouse i_askTune i_acts i_undone i_laid i_knowns i_time f_text f_tunes f_houses f_hums f_told f_many f_ruleFrom f_ruleTo f_code f_eWhat f_eSign f_all f_kept f_was f_sTune f_boxAll J L) sz)) 0 0 (va_A (WM r ct i_taped i_size i_faultKind i_at i_end i_token i_number i_bank i_rb i_codes i_within i_piled i_unitsInRule i_askHouse i_askTune i_acts i_undone i_laid i_knowns i_time f_text f_tunes f_houses f_hums f_told f_many f_ruleFrom f_ruleTo f_code f_eWhat f_eSign f_all f_kept f_was f_sTune f_boxAll J L) sz) := by
  refine Met.ofW (cc := cX9_layRows) (maxL := 4) (ret := none) (by decide) rfl ?_
  intro p e s m args below meth c0 s₁ B hml hv
  obtain ⟨rfl, hsz, hP, hK, hD0⟩ := hv
  have hx := B.exec
  have hb := B.bytes
  have hr := B.returns
  have hts := atoms_spec (ws := .code yX9_layRows cX9_layRows 4 none :: GW) B.pre
  have hG : ∀ w ∈ GW, w.before _ s = true := fun w h => hts w (List.mem_cons_of_mem _ h)
  have hown : s.vm.findClass RX9 = some m.cls := findClass_of_methodNamed B.named
  subst hsz
  have hD := hD0.self (sz := s.heap.size)
  generalize hAe : va_A (WM r ct i_taped i_size i_faultKind i_at i_end i_token i_number i_bank i_rb i_codes i_within i_piled i_unitsInRule i_askHouse i_askTune i_acts i_undone i_laid i_knowns i_time f_text f_tunes f_houses f_hums f_told f_many f_ruleFrom f_ruleTo f_code f_eWhat f_eSign f_all f_kept f_was f_sTune f_boxAll J L) s.heap.size = A at hD ⊢
  have hA : ∀ q : Nat, s.heap.size ≤ q → A q := fun q h => by rw [← hAe]; exact Or.inr h
  have hS : va_S A s.heap s.heap [] := va_S.rf
  have hP : va_P (dC, dI) vwCl (WM r ct i_taped i_size i_faultKind i_at i_end i_token i_number i_bank i_rb i_codes i_within i_piled i_unitsInRule i_askHouse i_askTune i_acts i_undone i_laid i_knowns i_time f_text f_tunes f_houses f_hums f_told f_many f_ruleFrom f_ruleTo f_code f_eWhat f_eSign f_all f_kept f_was f_sTune f_boxAll J L) s.heap := hP
  have hl := lv_entry ([.ref (r 0), .int p0]) (n := 4) (Nat.le_of_ble_eq_true rfl)
  rw [lg_entry_eq]
  generalize (lg_sl ([.ref (r 0), .int p0]) ++ List.replicate (4 - (lg_sl ([.ref (r 0), .int p0])).length) Slot.unset).toArray = ls at hl ⊢
  have hl : lv_has ls 4 [(0, .ref (r 0)), (1, .int p0)] := hl
  refine nameQ (fun Q hQ => ?_)
  obtain ⟨ie0, ie1, ie2, ie3, ie4, ie5, ie6, ie7, ie8, ie9, ie10, ie11, ie12, ie13, ie14, ie15, ie16, ie17, ie18, ie19, ie20, ie21, ie22, ie23, ie24, ie25, ie26, ie27, ie28, ie29, ie30, ie31, ie32⟩ := id hI
  have f1 : 0 ≤ (f_tunes (i_bank.toInt).toNat).toInt ∧ (f_tunes (i_bank.toInt).toNat).toInt ≤ 5 := ie21 (i_bank.toInt)
  have f2 : 0 ≤ (f_houses (i_bank.toInt).toNat).toInt ∧ (f_houses (i_bank.toInt).toNat).toInt ≤ 4 := ie22 (i_bank.toInt)
  refine lv_aload_n hx hb dX9_layRows_0 rfl (lv_at hl 0 rfl) ?_
  refine lv_iconst (v := 0) hx hb dX9_layRows_1 (by decide) ?_
  refine pM_X9_499_0 hx hb hG hown hK hP hD hS dX9_layRows_2 (fun J4 H3 locs hP hD hS => ?_)
  refine lv_iconst (v := 0) hx hb dX9_layRows_5 (by decide) ?_
  refine lv_istore_n (lv' := [(2, .int 0), (0, .ref (r 0)), (1, .int p0)]) hx hb dX9_layRows_6 rfl hl (by decide) rfl (fun ls hl => ?_)
  have L7 : ∀ (N7 : Nat) (y7_2 : Int32) (m7_J : Nat → Nat → Int32) (H7 : Heap) (locs : List Loc) (ls : Array Slot) (g7_0 : (0 : Int) ≤ y7_2.toInt) (g7_1 : y7_2.toInt ≤ (21 : Int)) (hP : va_P (dC, dI) vwCl (WM r ct i_taped i_size i_faultKind i_at i_end i_token i_number i_bank i_rb i_codes i_within i_piled i_unitsInRule i_askHouse i_askTune i_acts i_undone i_laid i_knowns i_time f_text f_tunes f_houses f_hums f_told f_many f_ruleFrom f_ruleTo f_code f_eWhat f_eSign f_all f_kept f_was f_sTune f_boxAll m7_J L) H7) (hD : va_D A (WM r ct i_taped i_size i_faultKind i_at i_end i_token i_number i_bank i_rb i_codes i_within i_piled i_unitsInRule i_askHouse i_askTune i_acts i_undone i_laid i_knowns i_time f_text f_tunes f_houses f_hums f_told f_many f_ruleFrom f_ruleTo f_code f_eWhat f_eSign f_all f_kept f_was f_sTune f_boxAll m7_J L)) (hS : va_S A s.heap H7 locs) (hl : lv_has ls 4 [(0, .ref (r 0)), (1, .int p0), (2, .int y7_2)]) (hM : -1 * y7_2.toInt + 21 < (N7 : Int)), W p l e { frames := 22, cells := 0, slots := 0, locals := 734 } s m ([.ref (r 0), .int p0] : List Value).toArray below meth c0 H7 locs 0 0 Q (F0 m 7 ls []) := by
    intro N7
    induction N7 with
    | zero =>
      intro y7_2 m7_J H7 locs ls g7_0 g7_1 hP hD hS hl hM
      exact ((ob_1543 hM g7_0 g7_1)).elim
    | succ N7 ih7 =>
      intro y7_2 m7_J H7 locs ls g7_0 g7_1 hP hD hS hl hM
      have hM7 := msucc hM
      refine lv_iload_n hx hb dX9_layRows_7 rfl (lv_at hl 2 rfl) ?_
      refine lv_bipush (v := 21) hx hb dX9_layRows_8 (by decide) ?_
      refine lv_icmp_ge (tgt := 26) hx hb dX9_layRows_10 (by decide) (fun c_5 => ?_) (fun c_5 => ?_)
      · skip
        have f6 : 21 ≤ y7_2.toInt := qi_le c_5 zc_21 rfl
        refine lv_aload_n hx hb dX9_layRows_26 rfl (lv_at hl 0 rfl) ?_
        refine va_calli (va_runV (As := []) (rest := []) ⟨hx, hb, hml, hown, hG⟩ (kX9_homes l dC dI r ct i_taped i_size i_faultKind i_at i_end i_token i_number i_bank i_rb i_codes i_within i_piled i_unitsInRule i_askHouse i_askTune i_acts i_undone i_laid i_knowns i_time f_text f_tunes f_houses f_hums f_told f_many f_ruleFrom f_ruleTo f_code f_eWhat f_eSign f_all f_kept f_was f_sTune f_boxAll m7_J L H7.size hI) (cwV 0 hG (goodV gw1167 gw1169 gw58 gw138 gw1170) rfl rfl rfl hd_X9_homes ⟨(Nat.le_of_ble_eq_true rfl), (Nat.le_of_ble_eq_true rfl)⟩) ⟨fbR, va_recv hK hP (ci := 8) (q0 := 0) rfl rfl, pR_in hP hK⟩ rfl rfl hl.1 rfl (lv_room (Nat.le_of_ble_eq_true rfl)) dX9_layRows_27 ⟨(Nat.le_of_ble_eq_true rfl), (Nat.le_of_ble_eq_true rfl)⟩) hS (fun q hq h => absurd hq (Nat.not_lt.mpr h)) (fun q h => hA q (Nat.le_trans hS.1 h)) (fun r_8 u_ t_ H7 locs ht hvm hw hB hz1 hk1 hS => ?_)
        subst hw
        have hP := wk hP hk1
        have f9 := hB
        have f10 : r_8.toInt = (f_houses (i_bank.toInt).toNat).toInt := (ob_6 f9)
        refine lv_if_ne (tgt := 34) hx hb dX9_layRows_30 (by decide) (fun c_11 => ?_) (fun c_11 => ?_)
        · skip
          have f12 : r_8.toInt ≠ 0 := qi_ne c_11 rfl zc_0
          have f13 : (1 : Int) ≤ (f_houses (i_bank.toInt).toNat).toInt := (ob_1132 f2 f12 f10)
          refine lv_aload_n hx hb dX9_layRows_34 rfl (lv_at hl 0 rfl) ?_
          have hFc := frA hD hS hA
          refine va_callv (va_runV (As := []) (rest := []) ⟨hx, hb, hml, hown, hG⟩ (kX9_layGlad l dC dI r ct i_taped i_size i_faultKind i_at i_end i_token i_number i_bank i_rb i_codes i_within i_piled i_unitsInRule i_askHouse i_askTune i_acts i_undone i_laid i_knowns i_time f_text f_tunes f_houses f_hums f_told f_many f_ruleFrom f_ruleTo f_code f_eWhat f_eSign f_all f_kept f_was f_sTune f_boxAll m7_J L H7.size hI (ob_1544 f2 f13)) (cwV 0 hG (goodV gw1838 gw1840 gw123 gw138 gw1841) rfl rfl rfl hd_X9_layGlad ⟨(Nat.le_of_ble_eq_true rfl), (Nat.le_of_ble_eq_true rfl)⟩) ⟨fbW, va_recv hK hP (ci := 8) (q0 := 0) rfl rfl, pW_in hP hK hD⟩ rfl rfl hl.1 rfl (lv_room (Nat.le_of_ble_eq_true rfl)) dX9_layRows_35 ⟨(Nat.le_of_ble_eq_true rfl), (Nat.le_of_ble_eq_true rfl)⟩) hS (fun q _ h => hFc q h) hFc (fun _ t_ H14 locs ht hvm hw hB hz1 hk1 hS => ?_)
          obtain ⟨x16, x17, z18, z19, J20, hP1, hD1, hI21⟩ := hB
          rw [ht] at hP1
          have hP := hP1
          have hD := dW hFc hD1
          obtain ⟨im22, im23, im24, im25, im26, im27, im28, im29, im30, im31, im32, im33, im34, im35, im36, im37, im38, im39, im40, im41, im42, im43, im44, im45, im46, im47, im48, im49, im50, im51, im52, im53, im54⟩ := id hI21
          refine lv_iconst (v := 0) hx hb dX9_layRows_38 (by decide) ?_
          refine lv_istore_n (lv' := [(2, .int 0), (0, .ref (r 0)), (1, .int p0)]) hx hb dX9_layRows_39 rfl hl (by decide) rfl (fun ls hl => ?_)
          have L40 : ∀ (N40 : Nat) (y40_2 : Int32) (m40_J : Nat → Nat → Int32) (H40 : Heap) (locs : List Loc) (ls : Array Slot) (g40_0 : (0 : Int) ≤ y40_2.toInt) (g40_1 : y40_2.toInt ≤ (343 : Int)) (hP : va_P (dC, dI) vwCl (WM r ct i_taped i_size i_faultKind i_at i_end i_token i_number i_bank i_rb i_codes i_within i_piled i_unitsInRule x16 x17 i_acts i_undone i_laid i_knowns i_time f_text f_tunes f_houses f_hums f_told f_many f_ruleFrom f_ruleTo f_code f_eWhat f_eSign z18 z19 f_was f_sTune f_boxAll m40_J L) H40) (hD : va_D A (WM r ct i_taped i_size i_faultKind i_at i_end i_token i_number i_bank i_rb i_codes i_within i_piled i_unitsInRule x16 x17 i_acts i_undone i_laid i_knowns i_time f_text f_tunes f_houses f_hums f_told f_many f_ruleFrom f_ruleTo f_code f_eWhat f_eSign z18 z19 f_was f_sTune f_boxAll m40_J L)) (hS : va_S A s.heap H40 locs) (hl : lv_has ls 4 [(0, .ref (r 0)), (1, .int p0), (2, .int y40_2)]) (hM : -1 * y40_2.toInt + 343 < (N40 : Int)), W p l e { frames := 22, cells := 0, slots := 0, locals := 734 } s m ([.ref (r 0), .int p0] : List Value).toArray below meth c0 H40 locs 0 0 Q (F0 m 40 ls []) := by
            intro N40
            induction N40 with
            | zero =>
              intro y40_2 m40_J H40 locs ls g40_0 g40_1 hP hD hS hl hM
              exact ((ob_1514 hM g40_0 g40_1)).elim
            | succ N40 ih40 =>
              intro y40_2 m40_J H40 locs ls g40_0 g40_1 hP hD hS hl hM
              have hM40 := msucc hM
              refine lv_iload_n hx hb dX9_layRows_40 rfl (lv_at hl 2 rfl) ?_
              refine lv_sipush (v := 343) hx hb dX9_layRows_41 (by decide) ?_
              refine lv_icmp_ge (tgt := 119) hx hb dX9_layRows_44 (by decide) (fun c_55 => ?_) (fun c_55 => ?_)
              · skip
                have f56 : 343 ≤ y40_2.toInt := qi_le c_55 zc_343 rfl
                rw [hQ]
                exact W.vret hx hb hr (fun t ht hW => ⟨⟨(), rfl, trivial, ⟨x16, x17, z18, z19, m40_J, by rw [ht]; exact hP, hD, hI21⟩⟩, hS.F ht⟩) hS.2.2 dX9_layRows_119
              · skip
                have f57 : y40_2.toInt < 343 := qi_nle c_55 zc_343 rfl
                refine lv_aload_n hx hb dX9_layRows_47 rfl (lv_at hl 0 rfl) ?_
                refine gM_X9_121_0 hx hb hG hown hK hP dX9_layRows_48 ?_
                refine lv_iload_n hx hb dX9_layRows_51 rfl (lv_at hl 2 rfl) ?_
                refine lv_aload_n hx hb dX9_layRows_52 rfl (lv_at hl 0 rfl) ?_
                refine lv_iload_n hx hb dX9_layRows_53 rfl (lv_at hl 2 rfl) ?_
                refine lv_iload_n hx hb dX9_layRows_54 rfl (lv_at hl 1 rfl) ?_
                refine va_calli (va_runV (As := [.int y40_2, .int p0]) (rest := [.int y40_2, .ref (r 36)]) ⟨hx, hb, hml, hown, hG⟩ (kX9_doesFit l dC dI r ct i_taped i_size i_faultKind i_at i_end i_token i_number i_bank i_rb i_codes i_within i_piled i_unitsInRule x16 x17 i_acts i_undone i_laid i_knowns i_time f_text f_tunes f_houses f_hums f_told f_many f_ruleFrom f_ruleTo f_code f_eWhat f_eSign z18 z19 f_was f_sTune f_boxAll m40_J L y40_2 p0 H40.size hI21 (ob_139 g40_0) (ob_1527 f57)) (cwV 2 hG (goodV gw1845 gw1847 gw124 gw138 gw1848) rfl rfl rfl hd_X9_doesFit ⟨(Nat.le_of_ble_eq_true rfl), (Nat.le_of_ble_eq_true rfl)⟩) ⟨fbR, va_recv hK hP (ci := 8) (q0 := 0) rfl rfl, pR_in hP hK⟩ rfl rfl hl.1 rfl (lv_room (Nat.le_of_ble_eq_true rfl)) dX9_layRows_55 ⟨(Nat.le_of_ble_eq_true rfl), (Nat.le_of_ble_eq_true rfl)⟩) hS (fun q hq h => absurd hq (Nat.not_lt.mpr h)) (fun q h => hA q (Nat.le_trans hS.1 h)) (fun r_59 u_ t_ H58 locs ht hvm hw hB hz1 hk1 hS => ?_)
                subst hw
                have hP := wk hP hk1
                obtain ⟨f60, f61, f62⟩ := hB
                refine stM_36 (mm := y40_2.toInt) hx hb hK hP hD hS rfl (ob_350 g40_0) (ob_1545 f57) dX9_layRows_58 (fun J64 H63 locs hP hD hS => ?_)
                refine lv_aload_n hx hb dX9_layRows_59 rfl (lv_at hl 0 rfl) ?_
                refine gM_X9_121_0 hx hb hG hown hK hP dX9_layRows_60 ?_
                refine lv_iload_n hx hb dX9_layRows_63 rfl (lv_at hl 2 rfl) ?_
                refine ldM_36 (mm := y40_2.toInt) hx hb hK hP rfl (ob_350 g40_0) (ob_1545 f57) dX9_layRows_64 (fun x65 => ?_)
                refine lv_if_ne (tgt := 71) hx hb dX9_layRows_65 (by decide) (fun c_66 => ?_) (fun c_66 => ?_)
                · skip
                  have f67 : x65.toInt ≠ 0 := qi_ne c_66 rfl zc_0
                  refine lv_aload_n hx hb dX9_layRows_71 rfl (lv_at hl 0 rfl) ?_
                  refine lv_dup hx hb dX9_layRows_72 rfl ?_
                  refine gM_X9_499_0 hx hb hG hown hK hP dX9_layRows_73 (fun x68 => ?_)
                  refine lv_iconst (v := 1) hx hb dX9_layRows_76 (by decide) ?_
                  refine lv_iadd hx hb dX9_layRows_77 ?_
                  refine lv_topi (fun x69 ex69 => ?_)
                  refine pM_X9_499_0 hx hb hG hown hK hP hD hS dX9_layRows_78 (fun J71 H70 locs hP hD hS => ?_)
                  refine lv_iconst (v := 0) hx hb dX9_layRows_81 (by decide) ?_
                  refine lv_istore_n (lv' := [(3, .int 0), (0, .ref (r 0)), (1, .int p0), (2, .int y40_2)]) hx hb dX9_layRows_82 rfl hl (by decide) rfl (fun ls hl => ?_)
                  have L83 : ∀ (N83 : Nat) (y83_3 : Int32) (m83_J : Nat → Nat → Int32) (H83 : Heap) (locs : List Loc) (ls : Array Slot) (g83_0 : (0 : Int) ≤ y83_3.toInt) (g83_1 : y83_3.toInt ≤ (3 : Int)) (hP : va_P (dC, dI) vwCl (WM r ct i_taped i_size i_faultKind i_at i_end i_token i_number i_bank i_rb i_codes i_within i_piled i_unitsInRule x16 x17 i_acts i_undone i_laid i_knowns i_time f_text f_tunes f_houses f_hums f_told f_many f_ruleFrom f_ruleTo f_code f_eWhat f_eSign z18 z19 f_was f_sTune f_boxAll m83_J L) H83) (hD : va_D A (WM r ct i_taped i_size i_faultKind i_at i_end i_token i_number i_bank i_rb i_codes i_within i_piled i_unitsInRule x16 x17 i_acts i_undone i_laid i_knowns i_time f_text f_tunes f_houses f_hums f_told f_many f_ruleFrom f_ruleTo f_code f_eWhat f_eSign z18 z19 f_was f_sTune f_boxAll m83_J L)) (hS : va_S A s.heap H83 locs) (hl : lv_has ls 4 [(0, .ref (r 0)), (1, .int p0), (2, .int y40_2), (3, .int y83_3)]) (hM : -1 * y83_3.toInt + 3 < (N83 : Int)), W p l e { frames := 22, cells := 0, slots := 0, locals := 734 } s m ([.ref (r 0), .int p0] : List Value).toArray below meth c0 H83 locs 0 0 Q (F0 m 83 ls []) := by
                    intro N83
                    induction N83 with
                    | zero =>
                      intro y83_3 m83_J H83 locs ls g83_0 g83_1 hP hD hS hl hM
                      exact ((ob_664 hM g83_0 g83_1)).elim
                    | succ N83 ih83 =>
                      intro y83_3 m83_J H83 locs ls g83_0 g83_1 hP hD hS hl hM
                      have hM83 := msucc hM
                      refine lv_iload_n hx hb dX9_layRows_83 rfl (lv_at hl 3 rfl) ?_
                      refine lv_iconst (v := 3) hx hb dX9_layRows_84 (by decide) ?_
                      refine lv_icmp_ge (tgt := 113) hx hb dX9_layRows_85 (by decide) (fun c_72 => ?_) (fun c_72 => ?_)
                      · skip
                        have f73 : 3 ≤ y83_3.toInt := qi_le c_72 zc_3 rfl
                        obtain ⟨x74, ex74⟩ : ∃ y : Int32, y = y40_2 + Int32.ofInt 1 := ⟨_, rfl⟩
                        have f75 : x74.toInt = y40_2.toInt + 1 := (ob_142 (qi_add ex74 rfl (by decide) (ob_140 g40_0) (ob_1515 g40_1)))
                        refine lv_iinc (v := x74) (lv' := [(2, .int x74), (0, .ref (r 0)), (1, .int p0), (3, .int y83_3)]) hx hb dX9_layRows_113 hl (k := 2) rfl ex74.symm (by decide) rfl (fun ls hl => ?_)
                        refine lv_goto (tgt := 40) hx hb dX9_layRows_116 (by decide) ?_
                        exact ih40 x74 m83_J H83 _ _ (ob_149 g40_0 f75) (ob_1516 f57 f75) hP hD hS (lv_sub hl [1, 2, 0] rfl) (ob_1517 hM40 f75)
                      · skip
                        have f76 : y83_3.toInt < 3 := qi_nle c_72 zc_3 rfl
                        refine lv_aload_n hx hb dX9_layRows_88 rfl (lv_at hl 0 rfl) ?_
                        refine gM_X9_118_0 hx hb hG hown hK hP dX9_layRows_89 ?_
                        refine lv_bipush (v := 7) hx hb dX9_layRows_92 (by decide) ?_
                        refine lv_iload_n hx hb dX9_layRows_94 rfl (lv_at hl 3 rfl) ?_
                        refine lv_imul hx hb dX9_layRows_95 ?_
                        refine lv_topi (fun x77 ex77 => ?_)
                        have f78 : x77.toInt = 7 * y83_3.toInt := (ob_1548 (qi_mul ex77 zc_7 rfl (ob_1546 g83_0) (ob_1547 g83_1)))
                        refine lv_iload_n hx hb dX9_layRows_96 rfl (lv_at hl 2 rfl) ?_
                        refine lv_iload_n hx hb dX9_layRows_97 rfl (lv_at hl 3 rfl) ?_
                        refine va_calli (va_runS (As := [.int y40_2, .int y83_3]) (rest := [.int x77, .ref (r 35)]) ⟨hx, hb, hml, hown, hG⟩ (kX9_noteIn l dC dI y40_2 y83_3 H83.size (ob_139 g40_0) (ob_1527 f57)) (va_cwS 2 hG (goodS gw1842 gw1843 gw138 gw1844) rfl rfl rfl hd_X9_noteIn ⟨(Nat.le_of_ble_eq_true rfl), (Nat.le_of_ble_eq_true rfl)⟩) ⟨fbR, pR_in emptyP (emptyK hK)⟩ rfl rfl hl.1 rfl (lv_room (Nat.le_of_ble_eq_true rfl)) dX9_layRows_98 ⟨(Nat.le_of_ble_eq_true rfl), (Nat.le_of_ble_eq_true rfl)⟩) hS (fun q hq h => absurd hq (Nat.not_lt.mpr h)) (fun q h => hA q (Nat.le_trans hS.1 h)) (fun r_80 u_ t_ H79 locs ht hvm hw hB hz1 hk1 hS => ?_)
                        subst hw
                        have hP := wk hP hk1
                        obtain ⟨f81, f82, f83⟩ := hB
                        refine lv_iadd hx hb dX9_layRows_101 ?_
                        refine lv_topi (fun x84 ex84 => ?_)
                        have f85 : x84.toInt = r_80.toInt + 7 * y83_3.toInt := (ob_1551 (qi_add ex84 rfl rfl (ob_1549 g83_0 f82 f78) (ob_1550 g83_1 f83 f78)) f78)
                        refine lv_dup2_11 hx hb dX9_layRows_102 rfl rfl ?_
                        refine ldM_35 (mm := r_80.toInt + 7 * y83_3.toInt) hx hb hK hP f85 (ob_1552 g83_0 f82) (ob_1553 f76 f83) dX9_layRows_103 (fun x86 => ?_)
                        refine lv_iconst (v := 1) hx hb dX9_layRows_104 (by decide) ?_
                        refine lv_iadd hx hb dX9_layRows_105 ?_
                        refine lv_topi (fun x87 ex87 => ?_)
                        refine stM_35 (mm := r_80.toInt + 7 * y83_3.toInt) hx hb hK hP hD hS f85 (ob_1552 g83_0 f82) (ob_1553 f76 f83) dX9_layRows_106 (fun J89 H88 locs hP hD hS => ?_)
                        obtain ⟨x90, ex90⟩ : ∃ y : Int32, y = y83_3 + Int32.ofInt 1 := ⟨_, rfl⟩
                        have f91 : x90.toInt = y83_3.toInt + 1 := (ob_142 (qi_add ex90 rfl (by decide) (ob_140 g83_0) (ob_678 g83_1)))
                        refine lv_iinc (v := x90) (lv' := [(3, .int x90), (0, .ref (r 0)), (1, .int p0), (2, .int y40_2)]) hx hb dX9_layRows_107 hl (k := 3) rfl ex90.symm (by decide) rfl (fun ls hl => ?_)
                        refine lv_goto (tgt := 83) hx hb dX9_layRows_110 (by decide) ?_
                        exact ih83 x90 J89 H88 _ _ (ob_149 g83_0 f91) (ob_679 f76 f91) hP hD hS (lv_sub hl [1, 2, 3, 0] rfl) (ob_680 hM83 f91)
                  exact L83 (-1 * (0 : Int32).toInt + 3 + 1).toNat 0 J71 H70 _ _ (ob_1 zc_0) (ob_681 zc_0) hP hD hS (lv_sub hl [1, 2, 3, 0] rfl) (mlt (ob_683 zc_0))
                · skip
                  have f92 : x65.toInt = 0 := qi_eq c_66 rfl zc_0
                  refine lv_goto (tgt := 113) hx hb dX9_layRows_68 (by decide) ?_
                  obtain ⟨x93, ex93⟩ : ∃ y : Int32, y = y40_2 + Int32.ofInt 1 := ⟨_, rfl⟩
                  have f94 : x93.toInt = y40_2.toInt + 1 := (ob_142 (qi_add ex93 rfl (by decide) (ob_140 g40_0) (ob_1515 g40_1)))
                  refine lv_iinc (v := x93) (lv' := [(2, .int x93), (0, .ref (r 0)), (1, .int p0)]) hx hb dX9_layRows_113 hl (k := 2) rfl ex93.symm (by decide) rfl (fun ls hl => ?_)
                  refine lv_goto (tgt := 40) hx hb dX9_layRows_116 (by decide) ?_
                  exact ih40 x93 J64 H63 _ _ (ob_149 g40_0 f94) (ob_1516 f57 f94) hP hD hS (lv_sub hl [1, 2, 0] rfl) (ob_1517 hM40 f94)
          exact L40 (-1 * (0 : Int32).toInt + 343 + 1).toNat 0 J20 H14 _ _ (ob_1 zc_0) (ob_1530 zc_0) hP hD hS (lv_sub hl [1, 2, 0] rfl) (mlt (ob_1531 zc_0))
        · skip
          have f95 : r_8.toInt = 0 := qi_eq c_11 rfl zc_0
          rw [hQ]
          exact W.vret hx hb hr (fun t ht hW => ⟨⟨(), rfl, trivial, ⟨i_askHouse, i_askTune, f_all, f_kept, m7_J, by rw [ht]; exact hP, hD, hI⟩⟩, hS.F ht⟩) hS.2.2 dX9_layRows_33
      · skip
        have f96 : y7_2.toInt < 21 := qi_nle c_5 zc_21 rfl
        refine lv_aload_n hx hb dX9_layRows_13 rfl (lv_at hl 0 rfl) ?_
        refine gM_X9_118_0 hx hb hG hown hK hP dX9_layRows_14 ?_
        refine lv_iload_n hx hb dX9_layRows_17 rfl (lv_at hl 2 rfl) ?_
        refine lv_iconst (v := 0) hx hb dX9_layRows_18 (by decide) ?_
        refine stM_35 (mm := y7_2.toInt) hx hb hK hP hD hS rfl (ob_350 g7_0) (ob_1554 f96) dX9_layRows_19 (fun J98 H97 locs hP hD hS => ?_)
        obtain ⟨x99, ex99⟩ : ∃ y : Int32, y = y7_2 + Int32.ofInt 1 := ⟨_, rfl⟩
        have f100 : x99.toInt = y7_2.toInt + 1 := (ob_142 (qi_add ex99 rfl (by decide) (ob_140 g7_0) (ob_1555 g7_1)))
        refine lv_iinc (v := x99) (lv' := [(2, .int x99), (0, .ref (r 0)), (1, .int p0)]) hx hb dX9_layRows_20 hl (k := 2) rfl ex99.symm (by decide) rfl (fun ls hl => ?_)
        refine lv_goto (tgt := 7) hx hb dX9_layRows_23 (by decide) ?_
        exact ih7 x99 J98 H97 _ _ (ob_149 g7_0 f100) (ob_1556 f96 f100) hP hD hS (lv_sub hl [1, 2, 0] rfl) (ob_1557 hM7 f100)
  exact L7 (-1 * (0 : Int32).toInt + 21 + 1).toNat 0 J4 H3 _ _ (ob_1 zc_0) (ob_1558 zc_0) hP hD hS (lv_sub hl [1, 2, 0] rfl) (mlt (ob_1559 zc_0))
set_option maxHeartbeats 4000000 in
set_option maxRecDepth 100000 in
theorem kX9_rows (l : Launch) (dC : Nat → ClassId) (dI : Nat → Nat → Nat) (r : Nat → Nat) (ct : Nat → ClassId) (i_taped i_size i_faultKind i_at i_end i_token i_number i_bank i_rb i_codes i_within i_piled i_unitsInRule i_askHouse i_askTune i_acts i_undone i_laid i_knowns i_time : Int32) (f_text f_tunes f_houses f_hums f_told f_many f_ruleFrom f_ruleTo f_code f_eWhat f_eSign f_all f_kept f_was f_sTune f_boxAll : Nat → Int32) (J : Nat → Nat → Int32) (L : Nat → Nat → Int64) (p0 : Int32) (sz : Nat) (hI : (IM i_taped i_size i_faultKind i_at i_end i_bank i_rb i_acts i_undone i_laid i_knowns i_time f_tunes f_houses f_hums f_told f_many f_ruleFrom f_ruleTo f_code f_all f_kept f_was f_sTune f_boxAll)) : Met l yX9_rows (.code yX9_rows cX9_rows 2 (some .int) :: GW) { frames := 24, cells := 0, slots := 0, locals := 797 } (va_Pc [.ref (r 0), .int p0] (pW (dC, dI) (WM r ct i_taped i_size i_faultKind i_at i_end i_token i_number i_bank i_rb i_codes i_within i_piled i_unitsInRule i_askHouse i_askTune i_acts i_undone i_laid i_knowns i_time f_text f_tunes f_houses f_hums f_told f_many f_ruleFrom f_ruleTo f_code f_eWhat f_eSign f_all f_kept f_was f_sTune f_boxAll J L) (TM ct) sz)) (va_Qi (fun (r0 : Int32) (u : Int32) => r0 = u) (fun (u : Int32) (t : State) => ∃ (n_i_askHouse n_i_askTune : Int32) (n_f_all n_f_kept : Nat → Int32) (n_J : Nat → Nat → Int32), va_P (dC, dI) vwCl (WM r ct i_taped i_size i_faultKind i_at i_end i_token i_number i_bank i_rb i_codes i_within i_piled i_unitsInRule n_i_askHouse n_i_askTune i_acts i_undone i_laid i_knowns i_time f_text f_tunes f_houses f_hums f_told f_many f_ruleFrom f_ruleTo f_code f_eWhat f_eSign n_f_all n_f_kept f_was f_sTune f_boxAll n_J L) t.heap ∧ va_D (va_A (WM r ct i_taped i_size i_faultKind i_at i_end i_token i_number i_bank i_rb i_codes i_within i_piled i_unitsInRule i_askHouse i_askTune i_acts i_undone i_laid i_knowns i_time f_text f_tunes f_houses f_hums f_told f_many f_ruleFrom f_ruleTo f_code f_eWhat f_eSign f_all f_kept f_was f_sTune f_boxAll J L) sz) (WM r ct i_taped i_size i_faultKind i_at i_end i_token i_number i_bank i_rb i_codes i_within i_piled i_unitsInRule n_i_askHouse n_i_askTune i_acts i_undone i_laid i_knowns i_time f_text f_tunes f_houses f_hums f_told f_many f_ruleFrom f_ruleTo f_code f_eWhat f_eSign n_f_all n_f_kept f_was f_sTune f_boxAll n_J L) ∧ (IM i_taped i_size i_faultKind i_at i_end i_bank i_rb i_acts i_undone i_laid i_knowns i_time f_tunes f_houses f_hums f_told f_many f_ruleFrom f_ruleTo f_code n_f_all n_f_kept f_was f_sTune f_boxAll)) (va_A (WM r ct i_taped i_size i_faultKind i_at i_end i_token i_number i_bank i_rb i_codes i_within i_piled i_unitsInRule i_askHouse i_askTune i_acts i_undone i_laid i_knowns i_time f_text f_tunes f_houses f_hums f_told f_many f_ruleFrom f_ruleTo f_code f_eWhat f_eSign f_all f_kept f_was f_sTune f_boxAll J L) sz)) 0 0 (va_A (WM r ct i_taped i_size i_faultKind i_at i_end i_token i_number i_bank i_rb i_codes i_within i_piled i_unitsInRule i_askHouse i_askTune i_acts i_undone i_laid i_knowns i_time f_text f_tunes f_houses f_hums f_told f_many f_ruleFrom f_ruleTo f_code f_eWhat f_eSign f_all f_kept f_was f_sTune f_boxAll J L) sz) := by
  refine Met.ofW (cc := cX9_rows) (maxL := 2) (ret := (some .int)) (by decide) rfl ?_
  intro p e s m args below meth c0 s₁ B hml hv
  obtain ⟨rfl, hsz, hP, hK, hD0⟩ := hv
  have hx := B.exec
  have hb := B.bytes
  have hr := B.returns
  have hts := atoms_spec (ws := .code yX9_rows cX9_rows 2 (some .int) :: GW) B.pre
  have hG : ∀ w ∈ GW, w.before _ s = true := fun w h => hts w (List.mem_cons_of_mem _ h)
  have hown : s.vm.findClass RX9 = some m.cls := findClass_of_methodNamed B.named
  subst hsz
  have hD := hD0.self (sz := s.heap.size)
  generalize hAe : va_A (WM r ct i_taped i_size i_faultKind i_at i_end i_token i_number i_bank i_rb i_codes i_within i_piled i_unitsInRule i_askHouse i_askTune i_acts i_undone i_laid i_knowns i_time f_text f_tunes f_houses f_hums f_told f_many f_ruleFrom f_ruleTo f_code f_eWhat f_eSign f_all f_kept f_was f_sTune f_boxAll J L) s.heap.size = A at hD ⊢
  have hA : ∀ q : Nat, s.heap.size ≤ q → A q := fun q h => by rw [← hAe]; exact Or.inr h
  have hS : va_S A s.heap s.heap [] := va_S.rf
  have hP : va_P (dC, dI) vwCl (WM r ct i_taped i_size i_faultKind i_at i_end i_token i_number i_bank i_rb i_codes i_within i_piled i_unitsInRule i_askHouse i_askTune i_acts i_undone i_laid i_knowns i_time f_text f_tunes f_houses f_hums f_told f_many f_ruleFrom f_ruleTo f_code f_eWhat f_eSign f_all f_kept f_was f_sTune f_boxAll J L) s.heap := hP
  have hl := lv_entry ([.ref (r 0), .int p0]) (n := 2) (Nat.le_of_ble_eq_true rfl)
  rw [lg_entry_eq]
  generalize (lg_sl ([.ref (r 0), .int p0]) ++ List.replicate (2 - (lg_sl ([.ref (r 0), .int p0])).length) Slot.unset).toArray = ls at hl ⊢
  have hl : lv_has ls 2 [(0, .ref (r 0)), (1, .int p0)] := hl
  refine nameQ (fun Q hQ => ?_)
  obtain ⟨ie0, ie1, ie2, ie3, ie4, ie5, ie6, ie7, ie8, ie9, ie10, ie11, ie12, ie13, ie14, ie15, ie16, ie17, ie18, ie19, ie20, ie21, ie22, ie23, ie24, ie25, ie26, ie27, ie28, ie29, ie30, ie31, ie32⟩ := id hI
  have f1 : 0 ≤ (f_tunes (i_bank.toInt).toNat).toInt ∧ (f_tunes (i_bank.toInt).toNat).toInt ≤ 5 := ie21 (i_bank.toInt)
  have f2 : 0 ≤ (f_houses (i_bank.toInt).toNat).toInt ∧ (f_houses (i_bank.toInt).toNat).toInt ≤ 4 := ie22 (i_bank.toInt)
  refine lv_aload_n hx hb dX9_rows_0 rfl (lv_at hl 0 rfl) ?_
  refine lv_iload_n hx hb dX9_rows_1 rfl (lv_at hl 1 rfl) ?_
  have hFc := frA hD hS hA
  refine va_callv (va_runV (As := [.int p0]) (rest := []) ⟨hx, hb, hml, hown, hG⟩ (kX9_layRows l dC dI r ct i_taped i_size i_faultKind i_at i_end i_token i_number i_bank i_rb i_codes i_within i_piled i_unitsInRule i_askHouse i_askTune i_acts i_undone i_laid i_knowns i_time f_text f_tunes f_houses f_hums f_told f_many f_ruleFrom f_ruleTo f_code f_eWhat f_eSign f_all f_kept f_was f_sTune f_boxAll J L p0 s.heap.size hI) (cwV 1 hG (goodV gw1834 gw1836 gw122 gw138 gw1837) rfl rfl rfl hd_X9_layRows ⟨(Nat.le_of_ble_eq_true rfl), (Nat.le_of_ble_eq_true rfl)⟩) ⟨fbW, va_recv hK hP (ci := 8) (q0 := 0) rfl rfl, pW_in hP hK hD⟩ rfl rfl hl.1 rfl (lv_room (Nat.le_of_ble_eq_true rfl)) dX9_rows_2 ⟨(Nat.le_of_ble_eq_true rfl), (Nat.le_of_ble_eq_true rfl)⟩) hS (fun q _ h => hFc q h) hFc (fun _ t_ H3 locs ht hvm hw hB hz1 hk1 hS => ?_)
  obtain ⟨x5, x6, z7, z8, J9, hP1, hD1, hI10⟩ := hB
  rw [ht] at hP1
  have hP := hP1
  have hD := dW hFc hD1
  obtain ⟨im11, im12, im13, im14, im15, im16, im17, im18, im19, im20, im21, im22, im23, im24, im25, im26, im27, im28, im29, im30, im31, im32, im33, im34, im35, im36, im37, im38, im39, im40, im41, im42, im43⟩ := id hI10
  refine lv_aload_n hx hb dX9_rows_5 rfl (lv_at hl 0 rfl) ?_
  refine gM_X9_499_0 hx hb hG hown hK hP dX9_rows_6 (fun x44 => ?_)
  rw [hQ]
  exact W.iret (v := x44) hx hb hr (fun t ht hW => ⟨⟨x44, x44, rfl, rfl, ⟨x5, x6, z7, z8, J9, by rw [ht]; exact hP, hD, hI10⟩⟩, hS.F ht⟩) hS.2.2 dX9_rows_9
set_option maxHeartbeats 4000000 in
set_option maxRecDepth 100000 in
theorem kX9_sure (l : Launch) (dC : Nat → ClassId) (dI : Nat → Nat → Nat) (r : Nat → Nat) (ct : Nat → ClassId) (i_taped i_size i_faultKind i_at i_end i_token i_number i_bank i_rb i_codes i_within i_piled i_unitsInRule i_askHouse i_askTune i_acts i_undone i_laid i_knowns i_time : Int32) (f_text f_tunes f_houses f_hums f_told f_many f_ruleFrom f_ruleTo f_code f_eWhat f_eSign f_all f_kept f_was f_sTune f_boxAll : Nat → Int32) (J : Nat → Nat → Int32) (L : Nat → Nat → Int64) (p0 p1 : Int32) (sz : Nat) (hI : (IM i_taped i_size i_faultKind i_at i_end i_bank i_rb i_acts i_undone i_laid i_knowns i_time f_tunes f_houses f_hums f_told f_many f_ruleFrom f_ruleTo f_code f_all f_kept f_was f_sTune f_boxAll)) : Met l yX9_sure (.code yX9_sure cX9_sure 4 (some .int) :: GW) { frames := 24, cells := 0, slots := 0, locals := 797 } (va_Pc [.ref (r 0), .int p0, .int p1] (pW (dC, dI) (WM r ct i_taped i_size i_faultKind i_at i_end i_token i_number i_bank i_rb i_codes i_within i_piled i_unitsInRule i_askHouse i_askTune i_acts i_undone i_laid i_knowns i_time f_text f_tunes f_houses f_hums f_told f_many f_ruleFrom f_ruleTo f_code f_eWhat f_eSign f_all f_kept f_was f_sTune f_boxAll J L) (TM ct) sz)) (va_Qi (fun (r0 : Int32) (u : Int32) => r0 = u) (fun (u : Int32) (t : State) => ∃ (n_i_askHouse n_i_askTune : Int32) (n_f_all n_f_kept : Nat → Int32) (n_J : Nat → Nat → Int32), va_P (dC, dI) vwCl (WM r ct i_taped i_size i_faultKind i_at i_end i_token i_number i_bank i_rb i_codes i_within i_piled i_unitsInRule n_i_askHouse n_i_askTune i_acts i_undone i_laid i_knowns i_time f_text f_tunes f_houses f_hums f_told f_many f_ruleFrom f_ruleTo f_code f_eWhat f_eSign n_f_all n_f_kept f_was f_sTune f_boxAll n_J L) t.heap ∧ va_D (va_A (WM r ct i_taped i_size i_faultKind i_at i_end i_token i_number i_bank i_rb i_codes i_within i_piled i_unitsInRule i_askHouse i_askTune i_acts i_undone i_laid i_knowns i_time f_text f_tunes f_houses f_hums f_told f_many f_ruleFrom f_ruleTo f_code f_eWhat f_eSign f_all f_kept f_was f_sTune f_boxAll J L) sz) (WM r ct i_taped i_size i_faultKind i_at i_end i_token i_number i_bank i_rb i_codes i_within i_piled i_unitsInRule n_i_askHouse n_i_askTune i_acts i_undone i_laid i_knowns i_time f_text f_tunes f_houses f_hums f_told f_many f_ruleFrom f_ruleTo f_code f_eWhat f_eSign n_f_all n_f_kept f_was f_sTune f_boxAll n_J L) ∧ (IM i_taped i_size i_faultKind i_at i_end i_bank i_rb i_acts i_undone i_laid i_knowns i_time f_tunes f_houses f_hums f_told f_many f_ruleFrom f_ruleTo f_code n_f_all n_f_kept f_was f_sTune f_boxAll)) (va_A (WM r ct i_taped i_size i_faultKind i_at i_end i_token i_number i_bank i_rb i_codes i_within i_piled i_unitsInRule i_askHouse i_askTune i_acts i_undone i_laid i_knowns i_time f_text f_tunes f_houses f_hums f_told f_many f_ruleFrom f_ruleTo f_code f_eWhat f_eSign f_all f_kept f_was f_sTune f_boxAll J L) sz)) 0 0 (va_A (WM r ct i_taped i_size i_faultKind i_at i_end i_token i_number i_bank i_rb i_codes i_within i_piled i_unitsInRule i_askHouse i_askTune i_acts i_undone i_laid i_knowns i_time f_text f_tunes f_houses f_hums f_told f_many f_ruleFrom f_ruleTo f_code f_eWhat f_eSign f_all f_kept f_was f_sTune f_boxAll J L) sz) := by
  refine Met.ofW (cc := cX9_sure) (maxL := 4) (ret := (some .int)) (by decide) rfl ?_
  intro p e s m args below meth c0 s₁ B hml hv
  obtain ⟨rfl, hsz, hP, hK, hD0⟩ := hv
  have hx := B.exec
  have hb := B.bytes
  have hr := B.returns
  have hts := atoms_spec (ws := .code yX9_sure cX9_sure 4 (some .int) :: GW) B.pre
  have hG : ∀ w ∈ GW, w.before _ s = true := fun w h => hts w (List.mem_cons_of_mem _ h)
  have hown : s.vm.findClass RX9 = some m.cls := findClass_of_methodNamed B.named
  subst hsz
  have hD := hD0.self (sz := s.heap.size)
  generalize hAe : va_A (WM r ct i_taped i_size i_faultKind i_at i_end i_token i_number i_bank i_rb i_codes i_within i_piled i_unitsInRule i_askHouse i_askTune i_acts i_undone i_laid i_knowns i_time f_text f_tunes f_houses f_hums f_told f_many f_ruleFrom f_ruleTo f_code f_eWhat f_eSign f_all f_kept f_was f_sTune f_boxAll J L) s.heap.size = A at hD ⊢
  have hA : ∀ q : Nat, s.heap.size ≤ q → A q := fun q h => by rw [← hAe]; exact Or.inr h
  have hS : va_S A s.heap s.heap [] := va_S.rf
  have hP : va_P (dC, dI) vwCl (WM r ct i_taped i_size i_faultKind i_at i_end i_token i_number i_bank i_rb i_codes i_within i_piled i_unitsInRule i_askHouse i_askTune i_acts i_undone i_laid i_knowns i_time f_text f_tunes f_houses f_hums f_told f_many f_ruleFrom f_ruleTo f_code f_eWhat f_eSign f_all f_kept f_was f_sTune f_boxAll J L) s.heap := hP
  have hl := lv_entry ([.ref (r 0), .int p0, .int p1]) (n := 4) (Nat.le_of_ble_eq_true rfl)
  rw [lg_entry_eq]
  generalize (lg_sl ([.ref (r 0), .int p0, .int p1]) ++ List.replicate (4 - (lg_sl ([.ref (r 0), .int p0, .int p1])).length) Slot.unset).toArray = ls at hl ⊢
  have hl : lv_has ls 4 [(0, .ref (r 0)), (1, .int p0), (2, .int p1)] := hl
  refine nameQ (fun Q hQ => ?_)
  obtain ⟨ie0, ie1, ie2, ie3, ie4, ie5, ie6, ie7, ie8, ie9, ie10, ie11, ie12, ie13, ie14, ie15, ie16, ie17, ie18, ie19, ie20, ie21, ie22, ie23, ie24, ie25, ie26, ie27, ie28, ie29, ie30, ie31, ie32⟩ := id hI
  have f1 : 0 ≤ (f_tunes (i_bank.toInt).toNat).toInt ∧ (f_tunes (i_bank.toInt).toNat).toInt ≤ 5 := ie21 (i_bank.toInt)
  have f2 : 0 ≤ (f_houses (i_bank.toInt).toNat).toInt ∧ (f_houses (i_bank.toInt).toNat).toInt ≤ 4 := ie22 (i_bank.toInt)
  refine lv_aload_n hx hb dX9_sure_0 rfl (lv_at hl 0 rfl) ?_
  refine lv_iload_n hx hb dX9_sure_1 rfl (lv_at hl 2 rfl) ?_
  have hFc := frA hD hS hA
  refine va_callv (va_runV (As := [.int p1]) (rest := []) ⟨hx, hb, hml, hown, hG⟩ (kX9_layRows l dC dI r ct i_taped i_size i_faultKind i_at i_end i_token i_number i_bank i_rb i_codes i_within i_piled i_unitsInRule i_askHouse i_askTune i_acts i_undone i_laid i_knowns i_time f_text f_tunes f_houses f_hums f_told f_many f_ruleFrom f_ruleTo f_code f_eWhat f_eSign f_all f_kept f_was f_sTune f_boxAll J L p1 s.heap.size hI) (cwV 1 hG (goodV gw1834 gw1836 gw122 gw138 gw1837) rfl rfl rfl hd_X9_layRows ⟨(Nat.le_of_ble_eq_true rfl), (Nat.le_of_ble_eq_true rfl)⟩) ⟨fbW, va_recv hK hP (ci := 8) (q0 := 0) rfl rfl, pW_in hP hK hD⟩ rfl rfl hl.1 rfl (lv_room (Nat.le_of_ble_eq_true rfl)) dX9_sure_2 ⟨(Nat.le_of_ble_eq_true rfl), (Nat.le_of_ble_eq_true rfl)⟩) hS (fun q _ h => hFc q h) hFc (fun _ t_ H3 locs ht hvm hw hB hz1 hk1 hS => ?_)
  obtain ⟨x5, x6, z7, z8, J9, hP1, hD1, hI10⟩ := hB
  rw [ht] at hP1
  have hP := hP1
  have hD := dW hFc hD1
  obtain ⟨im11, im12, im13, im14, im15, im16, im17, im18, im19, im20, im21, im22, im23, im24, im25, im26, im27, im28, im29, im30, im31, im32, im33, im34, im35, im36, im37, im38, im39, im40, im41, im42, im43⟩ := id hI10
  refine lv_iload_n hx hb dX9_sure_5 rfl (lv_at hl 1 rfl) ?_
  refine lv_iconst (v := 0) hx hb dX9_sure_6 (by decide) ?_
  refine lv_iconst (v := 2) hx hb dX9_sure_7 (by decide) ?_
  refine va_calli (va_runS (As := [.int p0, .int 0, .int 2]) (rest := []) ⟨hx, hb, hml, hown, hG⟩ (kX9_isIn l dC dI p0 0 2 H3.size) (va_cwS 3 hG (goodS gw1516 gw1517 gw138 gw1518) rfl rfl rfl hd_X9_isIn ⟨(Nat.le_of_ble_eq_true rfl), (Nat.le_of_ble_eq_true rfl)⟩) ⟨fbR, pR_in emptyP (emptyK hK)⟩ rfl rfl hl.1 rfl (lv_room (Nat.le_of_ble_eq_true rfl)) dX9_sure_8 ⟨(Nat.le_of_ble_eq_true rfl), (Nat.le_of_ble_eq_true rfl)⟩) hS (fun q hq h => absurd hq (Nat.not_lt.mpr h)) (fun q h => hA q (Nat.le_trans hS.1 h)) (fun r_45 u_ t_ H44 locs ht hvm hw hB hz1 hk1 hS => ?_)
  subst hw
  have hP := wk hP hk1
  obtain ⟨f46, f47, f48⟩ := hB
  refine lv_if_eq (tgt := 21) hx hb dX9_sure_11 (by decide) (fun c_49 => ?_) (fun c_49 => ?_)
  · skip
    have f50 : r_45.toInt = 0 := qi_eq c_49 rfl zc_0
    refine lv_iconst (v := (-1)) hx hb dX9_sure_21 (by decide) ?_
    rw [hQ]
    exact W.iret (v := (-1)) hx hb hr (fun t ht hW => ⟨⟨(-1), (-1), rfl, rfl, ⟨x5, x6, z7, z8, J9, by rw [ht]; exact hP, hD, hI10⟩⟩, hS.F ht⟩) hS.2.2 dX9_sure_22
  · skip
    have f51 : r_45.toInt ≠ 0 := qi_ne c_49 rfl zc_0
    have f52 : (0 : Int) ≤ p0.toInt := (ob_1560 f46 f51 zc_2 zc_0)
    have f53 : p0.toInt ≤ (2 : Int) := (ob_1561 f46 f51 zc_2 zc_0)
    have f54 : r_45.toInt = (1 : Int) := (ob_1562 f46 f51 zc_2 zc_0)
    have f55 : (1 : Int) ≤ r_45.toInt := (ob_162 f47 f48 f54)
    refine lv_aload_n hx hb dX9_sure_14 rfl (lv_at hl 0 rfl) ?_
    refine gM_X9_499_0 hx hb hG hown hK hP dX9_sure_15 (fun x56 => ?_)
    refine lv_if_ne (tgt := 23) hx hb dX9_sure_18 (by decide) (fun c_57 => ?_) (fun c_57 => ?_)
    · skip
      have f58 : x56.toInt ≠ 0 := qi_ne c_57 rfl zc_0
      refine lv_iconst (v := 0) hx hb dX9_sure_23 (by decide) ?_
      refine lv_istore_n (lv' := [(3, .int 0), (0, .ref (r 0)), (1, .int p0), (2, .int p1)]) hx hb dX9_sure_24 rfl hl (by decide) rfl (fun ls hl => ?_)
      have L25 : ∀ (N25 : Nat) (y25_3 : Int32) (H25 : Heap) (locs : List Loc) (ls : Array Slot) (g25_0 : (0 : Int) ≤ y25_3.toInt) (g25_1 : y25_3.toInt ≤ (7 : Int)) (hP : va_P (dC, dI) vwCl (WM r ct i_taped i_size i_faultKind i_at i_end i_token i_number i_bank i_rb i_codes i_within i_piled i_unitsInRule x5 x6 i_acts i_undone i_laid i_knowns i_time f_text f_tunes f_houses f_hums f_told f_many f_ruleFrom f_ruleTo f_code f_eWhat f_eSign z7 z8 f_was f_sTune f_boxAll J9 L) H25) (hD : va_D A (WM r ct i_taped i_size i_faultKind i_at i_end i_token i_number i_bank i_rb i_codes i_within i_piled i_unitsInRule x5 x6 i_acts i_undone i_laid i_knowns i_time f_text f_tunes f_houses f_hums f_told f_many f_ruleFrom f_ruleTo f_code f_eWhat f_eSign z7 z8 f_was f_sTune f_boxAll J9 L)) (hS : va_S A s.heap H25 locs) (hl : lv_has ls 4 [(0, .ref (r 0)), (1, .int p0), (2, .int p1), (3, .int y25_3)]) (hM : -1 * y25_3.toInt + 7 < (N25 : Int)), W p l e { frames := 24, cells := 0, slots := 0, locals := 797 } s m ([.ref (r 0), .int p0, .int p1] : List Value).toArray below meth c0 H25 locs 0 0 Q (F0 m 25 ls []) := by
        intro N25
        induction N25 with
        | zero =>
          intro y25_3 H25 locs ls g25_0 g25_1 hP hD hS hl hM
          exact ((ob_1140 hM g25_0 g25_1)).elim
        | succ N25 ih25 =>
          intro y25_3 H25 locs ls g25_0 g25_1 hP hD hS hl hM
          have hM25 := msucc hM
          refine lv_iload_n hx hb dX9_sure_25 rfl (lv_at hl 3 rfl) ?_
          refine lv_bipush (v := 7) hx hb dX9_sure_26 (by decide) ?_
          refine lv_icmp_ge (tgt := 57) hx hb dX9_sure_28 (by decide) (fun c_59 => ?_) (fun c_59 => ?_)
          · skip
            have f60 : 7 ≤ y25_3.toInt := qi_le c_59 zc_7 rfl
            refine lv_bipush (v := (-2)) hx hb dX9_sure_57 (by decide) ?_
            rw [hQ]
            exact W.iret (v := (-2)) hx hb hr (fun t ht hW => ⟨⟨(-2), (-2), rfl, rfl, ⟨x5, x6, z7, z8, J9, by rw [ht]; exact hP, hD, hI10⟩⟩, hS.F ht⟩) hS.2.2 dX9_sure_59
          · skip
            have f61 : y25_3.toInt < 7 := qi_nle c_59 zc_7 rfl
            refine lv_aload_n hx hb dX9_sure_31 rfl (lv_at hl 0 rfl) ?_
            refine gM_X9_118_0 hx hb hG hown hK hP dX9_sure_32 ?_
            refine lv_bipush (v := 7) hx hb dX9_sure_35 (by decide) ?_
            refine lv_iload_n hx hb dX9_sure_37 rfl (lv_at hl 1 rfl) ?_
            refine lv_imul hx hb dX9_sure_38 ?_
            refine lv_topi (fun x62 ex62 => ?_)
            have f63 : x62.toInt = 7 * p0.toInt := (ob_1548 (qi_mul ex62 zc_7 rfl (ob_1563 f52 f53) (ob_1564 f52 f53)))
            refine lv_iload_n hx hb dX9_sure_39 rfl (lv_at hl 3 rfl) ?_
            refine lv_iadd hx hb dX9_sure_40 ?_
            refine lv_topi (fun x64 ex64 => ?_)
            have f65 : x64.toInt = y25_3.toInt + 7 * p0.toInt := (ob_1551 (qi_add ex64 rfl rfl (ob_1549 f52 g25_0 f63) (ob_1565 f53 g25_1 f63)) f63)
            refine ldM_35 (mm := y25_3.toInt + 7 * p0.toInt) hx hb hK hP f65 (ob_1552 f52 g25_0) (ob_1566 f53 f61) dX9_sure_41 (fun x66 => ?_)
            refine lv_aload_n hx hb dX9_sure_42 rfl (lv_at hl 0 rfl) ?_
            refine gM_X9_499_0 hx hb hG hown hK hP dX9_sure_43 (fun x67 => ?_)
            refine lv_icmp_ne (tgt := 51) hx hb dX9_sure_46 (by decide) (fun c_68 => ?_) (fun c_68 => ?_)
            · skip
              have f69 : x66.toInt ≠ x67.toInt := qi_ne c_68 rfl rfl
              obtain ⟨x70, ex70⟩ : ∃ y : Int32, y = y25_3 + Int32.ofInt 1 := ⟨_, rfl⟩
              have f71 : x70.toInt = y25_3.toInt + 1 := (ob_142 (qi_add ex70 rfl (by decide) (ob_140 g25_0) (ob_399 g25_1)))
              refine lv_iinc (v := x70) (lv' := [(3, .int x70), (0, .ref (r 0)), (1, .int p0), (2, .int p1)]) hx hb dX9_sure_51 hl (k := 3) rfl ex70.symm (by decide) rfl (fun ls hl => ?_)
              refine lv_goto (tgt := 25) hx hb dX9_sure_54 (by decide) ?_
              exact ih25 x70 H25 _ _ (ob_149 g25_0 f71) (ob_1143 f61 f71) hP hD hS (lv_sub hl [1, 2, 3, 0] rfl) (ob_1144 hM25 f71)
            · skip
              have f72 : x66.toInt = x67.toInt := qi_eq c_68 rfl rfl
              refine lv_iload_n hx hb dX9_sure_49 rfl (lv_at hl 3 rfl) ?_
              rw [hQ]
              exact W.iret (v := y25_3) hx hb hr (fun t ht hW => ⟨⟨y25_3, y25_3, rfl, rfl, ⟨x5, x6, z7, z8, J9, by rw [ht]; exact hP, hD, hI10⟩⟩, hS.F ht⟩) hS.2.2 dX9_sure_50
      exact L25 (-1 * (0 : Int32).toInt + 7 + 1).toNat 0 H44 _ _ (ob_1 zc_0) (ob_1149 zc_0) hP hD hS (lv_sub hl [1, 2, 3, 0] rfl) (mlt (ob_1150 zc_0))
    · skip
      have f73 : x56.toInt = 0 := qi_eq c_57 rfl zc_0
      refine lv_iconst (v := (-1)) hx hb dX9_sure_21 (by decide) ?_
      rw [hQ]
      exact W.iret (v := (-1)) hx hb hr (fun t ht hW => ⟨⟨(-1), (-1), rfl, rfl, ⟨x5, x6, z7, z8, J9, by rw [ht]; exact hP, hD, hI10⟩⟩, hS.F ht⟩) hS.2.2 dX9_sure_22
set_option maxHeartbeats 4000000 in
set_option maxRecDepth 100000 in
theorem kX9_mostBy (l : Launch) (dC : Nat → ClassId) (dI : Nat → Nat → Nat) (r : Nat → Nat) (ct : Nat → ClassId) (i_taped i_size i_faultKind i_at i_end i_token i_number i_bank i_rb i_codes i_within i_piled i_unitsInRule i_askHouse i_askTune i_acts i_undone i_laid i_knowns i_time : Int32) (f_text f_tunes f_houses f_hums f_told f_many f_ruleFrom f_ruleTo f_code f_eWhat f_eSign f_all f_kept f_was f_sTune f_boxAll : Nat → Int32) (J : Nat → Nat → Int32) (L : Nat → Nat → Int64) (p0 : Int32) (sz : Nat) (hI : (IM i_taped i_size i_faultKind i_at i_end i_bank i_rb i_acts i_undone i_laid i_knowns i_time f_tunes f_houses f_hums f_told f_many f_ruleFrom f_ruleTo f_code f_all f_kept f_was f_sTune f_boxAll)) (hp0 : (0 : Int) ≤ p0.toInt) (hp1 : p0.toInt ≤ (4 : Int)) : Met l yX9_mostBy (.code yX9_mostBy cX9_mostBy 6 (some .int) :: GW) { frames := 2, cells := 0, slots := 0, locals := 100 } (va_Pc [.ref (r 0), .int p0] (pR (dC, dI) (WM r ct i_taped i_size i_faultKind i_at i_end i_token i_number i_bank i_rb i_codes i_within i_piled i_unitsInRule i_askHouse i_askTune i_acts i_undone i_laid i_knowns i_time f_text f_tunes f_houses f_hums f_told f_many f_ruleFrom f_ruleTo f_code f_eWhat f_eSign f_all f_kept f_was f_sTune f_boxAll J L) (TM ct) sz)) (va_Qi (fun (r0 : Int32) (u : Int32) => r0 = u) (fun (u : Int32) (t : State) => ((0 : Int) ≤ u.toInt) ∧ ((0 : Int) ≤ u.toInt)) (fun q => sz ≤ q)) 0 0 (fun q => sz ≤ q) := by
  refine Met.ofW (cc := cX9_mostBy) (maxL := 6) (ret := (some .int)) (by decide) rfl ?_
  intro p e s m args below meth c0 s₁ B hml hv
  obtain ⟨rfl, hsz, hP, hK⟩ := hv
  have hx := B.exec
  have hb := B.bytes
  have hr := B.returns
  have hts := atoms_spec (ws := .code yX9_mostBy cX9_mostBy 6 (some .int) :: GW) B.pre
  have hG : ∀ w ∈ GW, w.before _ s = true := fun w h => hts w (List.mem_cons_of_mem _ h)
  have hown : s.vm.findClass RX9 = some m.cls := findClass_of_methodNamed B.named
  subst hsz
  have hS : va_S (fun q => s.heap.size ≤ q) s.heap s.heap [] := va_S.rf
  have hP : va_P (dC, dI) vwCl (WM r ct i_taped i_size i_faultKind i_at i_end i_token i_number i_bank i_rb i_codes i_within i_piled i_unitsInRule i_askHouse i_askTune i_acts i_undone i_laid i_knowns i_time f_text f_tunes f_houses f_hums f_told f_many f_ruleFrom f_ruleTo f_code f_eWhat f_eSign f_all f_kept f_was f_sTune f_boxAll J L) s.heap := hP
  have hl := lv_entry ([.ref (r 0), .int p0]) (n := 6) (Nat.le_of_ble_eq_true rfl)
  rw [lg_entry_eq]
  generalize (lg_sl ([.ref (r 0), .int p0]) ++ List.replicate (6 - (lg_sl ([.ref (r 0), .int p0])).length) Slot.unset).toArray = ls at hl ⊢
  have hl : lv_has ls 6 [(0, .ref (r 0)), (1, .int p0)] := hl
  refine nameQ (fun Q hQ => ?_)
  obtain ⟨ie0, ie1, ie2, ie3, ie4, ie5, ie6, ie7, ie8, ie9, ie10, ie11, ie12, ie13, ie14, ie15, ie16, ie17, ie18, ie19, ie20, ie21, ie22, ie23, ie24, ie25, ie26, ie27, ie28, ie29, ie30, ie31, ie32⟩ := id hI
  have f1 : 0 ≤ (f_tunes (i_bank.toInt).toNat).toInt ∧ (f_tunes (i_bank.toInt).toNat).toInt ≤ 5 := ie21 (i_bank.toInt)
  have f2 : 0 ≤ (f_houses (i_bank.toInt).toNat).toInt ∧ (f_houses (i_bank.toInt).toNat).toInt ≤ 4 := ie22 (i_bank.toInt)
  refine lv_iconst (v := 0) hx hb dX9_mostBy_0 (by decide) ?_
  refine lv_istore_n (lv' := [(2, .int 0), (0, .ref (r 0)), (1, .int p0)]) hx hb dX9_mostBy_1 rfl hl (by decide) rfl (fun ls hl => ?_)
  refine lv_iconst (v := 0) hx hb dX9_mostBy_2 (by decide) ?_
  refine lv_istore_n (lv' := [(3, .int 0), (2, .int 0), (0, .ref (r 0)), (1, .int p0)]) hx hb dX9_mostBy_3 rfl hl (by decide) rfl (fun ls hl => ?_)
  have L4 : ∀ (N4 : Nat) (y4_2 y4_3 : Int32) (H4 : Heap) (locs : List Loc) (ls : Array Slot) (g4_0 : (0 : Int) ≤ y4_2.toInt) (g4_1 : (0 : Int) ≤ y4_3.toInt) (g4_2 : y4_3.toInt ≤ (343 : Int)) (hP : va_P (dC, dI) vwCl (WM r ct i_taped i_size i_faultKind i_at i_end i_token i_number i_bank i_rb i_codes i_within i_piled i_unitsInRule i_askHouse i_askTune i_acts i_undone i_laid i_knowns i_time f_text f_tunes f_houses f_hums f_told f_many f_ruleFrom f_ruleTo f_code f_eWhat f_eSign f_all f_kept f_was f_sTune f_boxAll J L) H4) (hS : va_S (fun q => s.heap.size ≤ q) s.heap H4 locs) (hl : lv_has ls 6 [(0, .ref (r 0)), (1, .int p0), (2, .int y4_2), (3, .int y4_3)]) (hM : -1 * y4_3.toInt + 343 < (N4 : Int)), W p l e { frames := 2, cells := 0, slots := 0, locals := 100 } s m ([.ref (r 0), .int p0] : List Value).toArray below meth c0 H4 locs 0 0 Q (F0 m 4 ls []) := by
    intro N4
    induction N4 with
    | zero =>
      intro y4_2 y4_3 H4 locs ls g4_0 g4_1 g4_2 hP hS hl hM
      exact ((ob_1514 hM g4_1 g4_2)).elim
    | succ N4 ih4 =>
      intro y4_2 y4_3 H4 locs ls g4_0 g4_1 g4_2 hP hS hl hM
      have hM4 := msucc hM
      refine lv_iload_n hx hb dX9_mostBy_4 rfl (lv_at hl 3 rfl) ?_
      refine lv_sipush (v := 343) hx hb dX9_mostBy_5 (by decide) ?_
      refine lv_icmp_ge (tgt := 102) hx hb dX9_mostBy_8 (by decide) (fun c_3 => ?_) (fun c_3 => ?_)
      · skip
        have f4 : 343 ≤ y4_3.toInt := qi_le c_3 zc_343 rfl
        refine lv_iload_n hx hb dX9_mostBy_102 rfl (lv_at hl 2 rfl) ?_
        rw [hQ]
        exact W.iret (v := y4_2) hx hb hr (fun t ht hW => ⟨⟨y4_2, y4_2, rfl, rfl, ⟨(ob_139 g4_0), (ob_139 g4_0)⟩⟩, hS.F ht⟩) hS.2.2 dX9_mostBy_103
      · skip
        have f5 : y4_3.toInt < 343 := qi_nle c_3 zc_343 rfl
        refine lv_aload_n hx hb dX9_mostBy_11 rfl (lv_at hl 0 rfl) ?_
        refine gM_X9_121_0 hx hb hG hown hK hP dX9_mostBy_12 ?_
        refine lv_iload_n hx hb dX9_mostBy_15 rfl (lv_at hl 3 rfl) ?_
        refine ldM_36 (mm := y4_3.toInt) hx hb hK hP rfl (ob_350 g4_1) (ob_1545 f5) dX9_mostBy_16 (fun x6 => ?_)
        refine lv_if_ne (tgt := 23) hx hb dX9_mostBy_17 (by decide) (fun c_7 => ?_) (fun c_7 => ?_)
        · skip
          have f8 : x6.toInt ≠ 0 := qi_ne c_7 rfl zc_0
          refine lv_iconst (v := 0) hx hb dX9_mostBy_23 (by decide) ?_
          refine lv_istore (lv' := [(4, .int 0), (0, .ref (r 0)), (1, .int p0), (2, .int y4_2), (3, .int y4_3)]) hx hb dX9_mostBy_24 hl (by decide) rfl (fun ls hl => ?_)
          refine lv_iload_n hx hb dX9_mostBy_26 rfl (lv_at hl 4 rfl) ?_
          refine lv_istore (lv' := [(5, .int y4_3), (4, .int 0), (0, .ref (r 0)), (1, .int p0), (2, .int y4_2), (3, .int y4_3)]) hx hb dX9_mostBy_27 hl (by decide) rfl (fun ls hl => ?_)
          have L29 : ∀ (N29 : Nat) (y29_4 y29_5 : Int32) (H29 : Heap) (locs : List Loc) (ls : Array Slot) (g29_0 : (0 : Int) ≤ y29_5.toInt) (g29_1 : y29_5.toInt ≤ (343 : Int)) (hP : va_P (dC, dI) vwCl (WM r ct i_taped i_size i_faultKind i_at i_end i_token i_number i_bank i_rb i_codes i_within i_piled i_unitsInRule i_askHouse i_askTune i_acts i_undone i_laid i_knowns i_time f_text f_tunes f_houses f_hums f_told f_many f_ruleFrom f_ruleTo f_code f_eWhat f_eSign f_all f_kept f_was f_sTune f_boxAll J L) H29) (hS : va_S (fun q => s.heap.size ≤ q) s.heap H29 locs) (hl : lv_has ls 6 [(0, .ref (r 0)), (1, .int p0), (2, .int y4_2), (3, .int y4_3), (4, .int y29_4), (5, .int y29_5)]) (hM : -1 * y29_5.toInt + 343 < (N29 : Int)), W p l e { frames := 2, cells := 0, slots := 0, locals := 100 } s m ([.ref (r 0), .int p0] : List Value).toArray below meth c0 H29 locs 0 0 Q (F0 m 29 ls []) := by
            intro N29
            induction N29 with
            | zero =>
              intro y29_4 y29_5 H29 locs ls g29_0 g29_1 hP hS hl hM
              exact ((ob_1514 hM g29_0 g29_1)).elim
            | succ N29 ih29 =>
              intro y29_4 y29_5 H29 locs ls g29_0 g29_1 hP hS hl hM
              have hM29 := msucc hM
              refine lv_iload hx hb dX9_mostBy_29 (lv_at hl 5 rfl) ?_
              refine lv_sipush (v := 343) hx hb dX9_mostBy_31 (by decide) ?_
              refine lv_icmp_ge (tgt := 87) hx hb dX9_mostBy_34 (by decide) (fun c_9 => ?_) (fun c_9 => ?_)
              · skip
                have f10 : 343 ≤ y29_5.toInt := qi_le c_9 zc_343 rfl
                refine lv_iload hx hb dX9_mostBy_87 (lv_at hl 4 rfl) ?_
                refine lv_iload_n hx hb dX9_mostBy_89 rfl (lv_at hl 2 rfl) ?_
                refine lv_icmp_le (tgt := 96) hx hb dX9_mostBy_90 (by decide) (fun c_11 => ?_) (fun c_11 => ?_)
                · skip
                  have f12 : y29_4.toInt ≤ y4_2.toInt := qi_le c_11 rfl rfl
                  obtain ⟨x13, ex13⟩ : ∃ y : Int32, y = y4_3 + Int32.ofInt 1 := ⟨_, rfl⟩
                  have f14 : x13.toInt = y4_3.toInt + 1 := (ob_142 (qi_add ex13 rfl (by decide) (ob_140 g4_1) (ob_1515 g4_2)))
                  refine lv_iinc (v := x13) (lv' := [(3, .int x13), (0, .ref (r 0)), (1, .int p0), (2, .int y4_2), (4, .int y29_4), (5, .int y29_5)]) hx hb dX9_mostBy_96 hl (k := 3) rfl ex13.symm (by decide) rfl (fun ls hl => ?_)
                  refine lv_goto (tgt := 4) hx hb dX9_mostBy_99 (by decide) ?_
                  exact ih4 y4_2 x13 H29 _ _ (ob_1147 g4_0 f12) (ob_149 g4_1 f14) (ob_1516 f5 f14) hP hS (lv_sub hl [1, 2, 3, 0] rfl) (ob_1517 hM4 f14)
                · skip
                  have f15 : y4_2.toInt < y29_4.toInt := qi_nle c_11 rfl rfl
                  refine lv_iload hx hb dX9_mostBy_93 (lv_at hl 4 rfl) ?_
                  refine lv_istore_n (lv' := [(2, .int y29_4), (0, .ref (r 0)), (1, .int p0), (3, .int y4_3), (4, .int y29_4), (5, .int y29_5)]) hx hb dX9_mostBy_95 rfl hl (by decide) rfl (fun ls hl => ?_)
                  obtain ⟨x16, ex16⟩ : ∃ y : Int32, y = y4_3 + Int32.ofInt 1 := ⟨_, rfl⟩
                  have f17 : x16.toInt = y4_3.toInt + 1 := (ob_142 (qi_add ex16 rfl (by decide) (ob_140 g4_1) (ob_1515 g4_2)))
                  refine lv_iinc (v := x16) (lv' := [(3, .int x16), (2, .int y29_4), (0, .ref (r 0)), (1, .int p0), (4, .int y29_4), (5, .int y29_5)]) hx hb dX9_mostBy_96 hl (k := 3) rfl ex16.symm (by decide) rfl (fun ls hl => ?_)
                  refine lv_goto (tgt := 4) hx hb dX9_mostBy_99 (by decide) ?_
                  exact ih4 y29_4 x16 H29 _ _ (ob_1142 g4_0 f15) (ob_149 g4_1 f17) (ob_1516 f5 f17) hP hS (lv_sub hl [2, 3, 1, 0] rfl) (ob_1517 hM4 f17)
              · skip
                have f18 : y29_5.toInt < 343 := qi_nle c_9 zc_343 rfl
                refine lv_iload hx hb dX9_mostBy_37 (lv_at hl 4 rfl) ?_
                refine lv_aload_n hx hb dX9_mostBy_39 rfl (lv_at hl 0 rfl) ?_
                refine gM_X9_121_0 hx hb hG hown hK hP dX9_mostBy_40 ?_
                refine lv_iload hx hb dX9_mostBy_43 (lv_at hl 5 rfl) ?_
                refine ldM_36 (mm := y29_5.toInt) hx hb hK hP rfl (ob_350 g29_0) (ob_1545 f18) dX9_mostBy_45 (fun x19 => ?_)
                refine lv_if_eq (tgt := 77) hx hb dX9_mostBy_46 (by decide) (fun c_20 => ?_) (fun c_20 => ?_)
                · skip
                  have f21 : x19.toInt = 0 := qi_eq c_20 rfl zc_0
                  refine lv_iconst (v := 0) hx hb dX9_mostBy_77 (by decide) ?_
                  refine lv_iadd hx hb dX9_mostBy_78 ?_
                  refine lv_topi (fun x22 ex22 => ?_)
                  refine lv_istore (lv' := [(4, .int x22), (0, .ref (r 0)), (1, .int p0), (2, .int y4_2), (3, .int y4_3), (5, .int y29_5)]) hx hb dX9_mostBy_79 hl (by decide) rfl (fun ls hl => ?_)
                  obtain ⟨x23, ex23⟩ : ∃ y : Int32, y = y29_5 + Int32.ofInt 1 := ⟨_, rfl⟩
                  have f24 : x23.toInt = y29_5.toInt + 1 := (ob_142 (qi_add ex23 rfl (by decide) (ob_140 g29_0) (ob_1515 g29_1)))
                  refine lv_iinc (v := x23) (lv' := [(5, .int x23), (4, .int x22), (0, .ref (r 0)), (1, .int p0), (2, .int y4_2), (3, .int y4_3)]) hx hb dX9_mostBy_81 hl (k := 5) rfl ex23.symm (by decide) rfl (fun ls hl => ?_)
                  refine lv_goto (tgt := 29) hx hb dX9_mostBy_84 (by decide) ?_
                  exact ih29 x22 x23 H29 _ _ (ob_149 g29_0 f24) (ob_1516 f18 f24) hP hS (lv_sub hl [2, 3, 4, 5, 1, 0] rfl) (ob_1517 hM29 f24)
                · skip
                  have f25 : x19.toInt ≠ 0 := qi_ne c_20 rfl zc_0
                  refine lv_aload_n hx hb dX9_mostBy_49 rfl (lv_at hl 0 rfl) ?_
                  refine gM_X9_100_0 hx hb hG hown hK hP dX9_mostBy_50 ?_
                  refine lv_iconst (v := 5) hx hb dX9_mostBy_53 (by decide) ?_
                  refine lv_iload hx hb dX9_mostBy_54 (lv_at hl 5 rfl) ?_
                  refine lv_imul hx hb dX9_mostBy_56 ?_
                  refine lv_topi (fun x26 ex26 => ?_)
                  have f27 : x26.toInt = 5 * y29_5.toInt := (ob_694 (qi_mul ex26 zc_5 rfl (ob_1518 g29_0) (ob_1519 g29_1)))
                  refine lv_iload_n hx hb dX9_mostBy_57 rfl (lv_at hl 1 rfl) ?_
                  refine lv_iadd hx hb dX9_mostBy_58 ?_
                  refine lv_topi (fun x28 ex28 => ?_)
                  have f29 : x28.toInt = p0.toInt + 5 * y29_5.toInt := (ob_697 (qi_add ex28 rfl rfl (ob_1567 hp0 g29_0 f27) (ob_1568 hp1 g29_1 f27)) f27)
                  refine ldM_29 (mm := p0.toInt + 5 * y29_5.toInt) hx hb hK hP f29 (ob_1569 hp0 g29_0) (ob_1570 hp1 f18) dX9_mostBy_59 (fun x30 => ?_)
                  refine lv_aload_n hx hb dX9_mostBy_60 rfl (lv_at hl 0 rfl) ?_
                  refine gM_X9_100_0 hx hb hG hown hK hP dX9_mostBy_61 ?_
                  refine lv_iconst (v := 5) hx hb dX9_mostBy_64 (by decide) ?_
                  refine lv_iload_n hx hb dX9_mostBy_65 rfl (lv_at hl 3 rfl) ?_
                  refine lv_imul hx hb dX9_mostBy_66 ?_
                  refine lv_topi (fun x31 ex31 => ?_)
                  have f32 : x31.toInt = 5 * y4_3.toInt := (ob_694 (qi_mul ex31 zc_5 rfl (ob_1518 g4_1) (ob_1519 g4_2)))
                  refine lv_iload_n hx hb dX9_mostBy_67 rfl (lv_at hl 1 rfl) ?_
                  refine lv_iadd hx hb dX9_mostBy_68 ?_
                  refine lv_topi (fun x33 ex33 => ?_)
                  have f34 : x33.toInt = p0.toInt + 5 * y4_3.toInt := (ob_697 (qi_add ex33 rfl rfl (ob_1567 hp0 g4_1 f32) (ob_1568 hp1 g4_2 f32)) f32)
                  refine ldM_29 (mm := p0.toInt + 5 * y4_3.toInt) hx hb hK hP f34 (ob_1569 hp0 g4_1) (ob_1570 hp1 f5) dX9_mostBy_69 (fun x35 => ?_)
                  refine lv_icmp_ne (tgt := 77) hx hb dX9_mostBy_70 (by decide) (fun c_36 => ?_) (fun c_36 => ?_)
                  · skip
                    have f37 : x30.toInt ≠ x35.toInt := qi_ne c_36 rfl rfl
                    refine lv_iconst (v := 0) hx hb dX9_mostBy_77 (by decide) ?_
                    refine lv_iadd hx hb dX9_mostBy_78 ?_
                    refine lv_topi (fun x38 ex38 => ?_)
                    refine lv_istore (lv' := [(4, .int x38), (0, .ref (r 0)), (1, .int p0), (2, .int y4_2), (3, .int y4_3), (5, .int y29_5)]) hx hb dX9_mostBy_79 hl (by decide) rfl (fun ls hl => ?_)
                    obtain ⟨x39, ex39⟩ : ∃ y : Int32, y = y29_5 + Int32.ofInt 1 := ⟨_, rfl⟩
                    have f40 : x39.toInt = y29_5.toInt + 1 := (ob_142 (qi_add ex39 rfl (by decide) (ob_140 g29_0) (ob_1515 g29_1)))
                    refine lv_iinc (v := x39) (lv' := [(5, .int x39), (4, .int x38), (0, .ref (r 0)), (1, .int p0), (2, .int y4_2), (3, .int y4_3)]) hx hb dX9_mostBy_81 hl (k := 5) rfl ex39.symm (by decide) rfl (fun ls hl => ?_)
                    refine lv_goto (tgt := 29) hx hb dX9_mostBy_84 (by decide) ?_
                    exact ih29 x38 x39 H29 _ _ (ob_149 g29_0 f40) (ob_1516 f18 f40) hP hS (lv_sub hl [2, 3, 4, 5, 1, 0] rfl) (ob_1517 hM29 f40)
                  · skip
                    have f41 : x30.toInt = x35.toInt := qi_eq c_36 rfl rfl
                    refine lv_iconst (v := 1) hx hb dX9_mostBy_73 (by decide) ?_
                    refine lv_goto (tgt := 78) hx hb dX9_mostBy_74 (by decide) ?_
                    refine lv_iadd hx hb dX9_mostBy_78 ?_
                    refine lv_topi (fun x42 ex42 => ?_)
                    refine lv_istore (lv' := [(4, .int x42), (0, .ref (r 0)), (1, .int p0), (2, .int y4_2), (3, .int y4_3), (5, .int y29_5)]) hx hb dX9_mostBy_79 hl (by decide) rfl (fun ls hl => ?_)
                    obtain ⟨x43, ex43⟩ : ∃ y : Int32, y = y29_5 + Int32.ofInt 1 := ⟨_, rfl⟩
                    have f44 : x43.toInt = y29_5.toInt + 1 := (ob_142 (qi_add ex43 rfl (by decide) (ob_140 g29_0) (ob_1515 g29_1)))
                    refine lv_iinc (v := x43) (lv' := [(5, .int x43), (4, .int x42), (0, .ref (r 0)), (1, .int p0), (2, .int y4_2), (3, .int y4_3)]) hx hb dX9_mostBy_81 hl (k := 5) rfl ex43.symm (by decide) rfl (fun ls hl => ?_)
                    refine lv_goto (tgt := 29) hx hb dX9_mostBy_84 (by decide) ?_
                    exact ih29 x42 x43 H29 _ _ (ob_149 g29_0 f44) (ob_1516 f18 f44) hP hS (lv_sub hl [2, 3, 4, 5, 1, 0] rfl) (ob_1517 hM29 f44)
          exact L29 (-1 * y4_3.toInt + 343 + 1).toNat 0 y4_3 H4 _ _ (ob_139 g4_1) (ob_1571 g4_2) hP hS (lv_sub hl [2, 3, 4, 5, 1, 0] rfl) (mlt (ob_1572 g4_2))
        · skip
          have f45 : x6.toInt = 0 := qi_eq c_7 rfl zc_0
          refine lv_goto (tgt := 96) hx hb dX9_mostBy_20 (by decide) ?_
          obtain ⟨x46, ex46⟩ : ∃ y : Int32, y = y4_3 + Int32.ofInt 1 := ⟨_, rfl⟩
          have f47 : x46.toInt = y4_3.toInt + 1 := (ob_142 (qi_add ex46 rfl (by decide) (ob_140 g4_1) (ob_1515 g4_2)))
          refine lv_iinc (v := x46) (lv' := [(3, .int x46), (0, .ref (r 0)), (1, .int p0), (2, .int y4_2)]) hx hb dX9_mostBy_96 hl (k := 3) rfl ex46.symm (by decide) rfl (fun ls hl => ?_)
          refine lv_goto (tgt := 4) hx hb dX9_mostBy_99 (by decide) ?_
          exact ih4 y4_2 x46 H4 _ _ (ob_139 g4_0) (ob_149 g4_1 f47) (ob_1516 f5 f47) hP hS (lv_sub hl [1, 2, 3, 0] rfl) (ob_1517 hM4 f47)
  exact L4 (-1 * (0 : Int32).toInt + 343 + 1).toNat 0 0 s.heap _ _ (ob_1 zc_0) (ob_1 zc_0) (ob_1530 zc_0) hP hS (lv_sub hl [2, 3, 1, 0] rfl) (mlt (ob_1531 zc_0))
set_option maxHeartbeats 4000000 in
set_option maxRecDepth 100000 in
theorem kX9_ask (l : Launch) (dC : Nat → ClassId) (dI : Nat → Nat → Nat) (r : Nat → Nat) (ct : Nat → ClassId) (i_taped i_size i_faultKind i_at i_end i_token i_number i_bank i_rb i_codes i_within i_piled i_unitsInRule i_askHouse i_askTune i_acts i_undone i_laid i_knowns i_time : Int32) (f_text f_tunes f_houses f_hums f_told f_many f_ruleFrom f_ruleTo f_code f_eWhat f_eSign f_all f_kept f_was f_sTune f_boxAll : Nat → Int32) (J : Nat → Nat → Int32) (L : Nat → Nat → Int64) (p0 p1 : Int32) (sz : Nat) (hI : (IM i_taped i_size i_faultKind i_at i_end i_bank i_rb i_acts i_undone i_laid i_knowns i_time f_tunes f_houses f_hums f_told f_many f_ruleFrom f_ruleTo f_code f_all f_kept f_was f_sTune f_boxAll)) : Met l yX9_ask (.code yX9_ask cX9_ask 7 (some .int) :: GW) { frames := 24, cells := 0, slots := 0, locals := 797 } (va_Pc [.ref (r 0), .int p0, .int p1] (pW (dC, dI) (WM r ct i_taped i_size i_faultKind i_at i_end i_token i_number i_bank i_rb i_codes i_within i_piled i_unitsInRule i_askHouse i_askTune i_acts i_undone i_laid i_knowns i_time f_text f_tunes f_houses f_hums f_told f_many f_ruleFrom f_ruleTo f_code f_eWhat f_eSign f_all f_kept f_was f_sTune f_boxAll J L) (TM ct) sz)) (va_Qi (fun (r0 : Int32) (u : Int32) => r0 = u) (fun (u : Int32) (t : State) => ∃ (n_i_askHouse n_i_askTune : Int32) (n_f_all n_f_kept : Nat → Int32) (n_J : Nat → Nat → Int32), va_P (dC, dI) vwCl (WM r ct i_taped i_size i_faultKind i_at i_end i_token i_number i_bank i_rb i_codes i_within i_piled i_unitsInRule n_i_askHouse n_i_askTune i_acts i_undone i_laid i_knowns i_time f_text f_tunes f_houses f_hums f_told f_many f_ruleFrom f_ruleTo f_code f_eWhat f_eSign n_f_all n_f_kept f_was f_sTune f_boxAll n_J L) t.heap ∧ va_D (va_A (WM r ct i_taped i_size i_faultKind i_at i_end i_token i_number i_bank i_rb i_codes i_within i_piled i_unitsInRule i_askHouse i_askTune i_acts i_undone i_laid i_knowns i_time f_text f_tunes f_houses f_hums f_told f_many f_ruleFrom f_ruleTo f_code f_eWhat f_eSign f_all f_kept f_was f_sTune f_boxAll J L) sz) (WM r ct i_taped i_size i_faultKind i_at i_end i_token i_number i_bank i_rb i_codes i_within i_piled i_unitsInRule n_i_askHouse n_i_askTune i_acts i_undone i_laid i_knowns i_time f_text f_tunes f_houses f_hums f_told f_many f_ruleFrom f_ruleTo f_code f_eWhat f_eSign n_f_all n_f_kept f_was f_sTune f_boxAll n_J L) ∧ (IM i_taped i_size i_faultKind i_at i_end i_bank i_rb i_acts i_undone i_laid i_knowns i_time f_tunes f_houses f_hums f_told f_many f_ruleFrom f_ruleTo f_code n_f_all n_f_kept f_was f_sTune f_boxAll)) (va_A (WM r ct i_taped i_size i_faultKind i_at i_end i_token i_number i_bank i_rb i_codes i_within i_piled i_unitsInRule i_askHouse i_askTune i_acts i_undone i_laid i_knowns i_time f_text f_tunes f_houses f_hums f_told f_many f_ruleFrom f_ruleTo f_code f_eWhat f_eSign f_all f_kept f_was f_sTune f_boxAll J L) sz)) 0 0 (va_A (WM r ct i_taped i_size i_faultKind i_at i_end i_token i_number i_bank i_rb i_codes i_within i_piled i_unitsInRule i_askHouse i_askTune i_acts i_undone i_laid i_knowns i_time f_text f_tunes f_houses f_hums f_told f_many f_ruleFrom f_ruleTo f_code f_eWhat f_eSign f_all f_kept f_was f_sTune f_boxAll J L) sz) := by
  refine Met.ofW (cc := cX9_ask) (maxL := 7) (ret := (some .int)) (by decide) rfl ?_
  intro p e s m args below meth c0 s₁ B hml hv
  obtain ⟨rfl, hsz, hP, hK, hD0⟩ := hv
  have hx := B.exec
  have hb := B.bytes
  have hr := B.returns
  have hts := atoms_spec (ws := .code yX9_ask cX9_ask 7 (some .int) :: GW) B.pre
  have hG : ∀ w ∈ GW, w.before _ s = true := fun w h => hts w (List.mem_cons_of_mem _ h)
  have hown : s.vm.findClass RX9 = some m.cls := findClass_of_methodNamed B.named
  subst hsz
  have hD := hD0.self (sz := s.heap.size)
  generalize hAe : va_A (WM r ct i_taped i_size i_faultKind i_at i_end i_token i_number i_bank i_rb i_codes i_within i_piled i_unitsInRule i_askHouse i_askTune i_acts i_undone i_laid i_knowns i_time f_text f_tunes f_houses f_hums f_told f_many f_ruleFrom f_ruleTo f_code f_eWhat f_eSign f_all f_kept f_was f_sTune f_boxAll J L) s.heap.size = A at hD ⊢
  have hA : ∀ q : Nat, s.heap.size ≤ q → A q := fun q h => by rw [← hAe]; exact Or.inr h
  have hS : va_S A s.heap s.heap [] := va_S.rf
  have hP : va_P (dC, dI) vwCl (WM r ct i_taped i_size i_faultKind i_at i_end i_token i_number i_bank i_rb i_codes i_within i_piled i_unitsInRule i_askHouse i_askTune i_acts i_undone i_laid i_knowns i_time f_text f_tunes f_houses f_hums f_told f_many f_ruleFrom f_ruleTo f_code f_eWhat f_eSign f_all f_kept f_was f_sTune f_boxAll J L) s.heap := hP
  have hl := lv_entry ([.ref (r 0), .int p0, .int p1]) (n := 7) (Nat.le_of_ble_eq_true rfl)
  rw [lg_entry_eq]
  generalize (lg_sl ([.ref (r 0), .int p0, .int p1]) ++ List.replicate (7 - (lg_sl ([.ref (r 0), .int p0, .int p1])).length) Slot.unset).toArray = ls at hl ⊢
  have hl : lv_has ls 7 [(0, .ref (r 0)), (1, .int p0), (2, .int p1)] := hl
  refine nameQ (fun Q hQ => ?_)
  obtain ⟨ie0, ie1, ie2, ie3, ie4, ie5, ie6, ie7, ie8, ie9, ie10, ie11, ie12, ie13, ie14, ie15, ie16, ie17, ie18, ie19, ie20, ie21, ie22, ie23, ie24, ie25, ie26, ie27, ie28, ie29, ie30, ie31, ie32⟩ := id hI
  have f1 : 0 ≤ (f_tunes (i_bank.toInt).toNat).toInt ∧ (f_tunes (i_bank.toInt).toNat).toInt ≤ 5 := ie21 (i_bank.toInt)
  have f2 : 0 ≤ (f_houses (i_bank.toInt).toNat).toInt ∧ (f_houses (i_bank.toInt).toNat).toInt ≤ 4 := ie22 (i_bank.toInt)
  refine lv_aload_n hx hb dX9_ask_0 rfl (lv_at hl 0 rfl) ?_
  refine lv_iload_n hx hb dX9_ask_1 rfl (lv_at hl 2 rfl) ?_
  have hFc := frA hD hS hA
  refine va_callv (va_runV (As := [.int p1]) (rest := []) ⟨hx, hb, hml, hown, hG⟩ (kX9_layRows l dC dI r ct i_taped i_size i_faultKind i_at i_end i_token i_number i_bank i_rb i_codes i_within i_piled i_unitsInRule i_askHouse i_askTune i_acts i_undone i_laid i_knowns i_time f_text f_tunes f_houses f_hums f_told f_many f_ruleFrom f_ruleTo f_code f_eWhat f_eSign f_all f_kept f_was f_sTune f_boxAll J L p1 s.heap.size hI) (cwV 1 hG (goodV gw1834 gw1836 gw122 gw138 gw1837) rfl rfl rfl hd_X9_layRows ⟨(Nat.le_of_ble_eq_true rfl), (Nat.le_of_ble_eq_true rfl)⟩) ⟨fbW, va_recv hK hP (ci := 8) (q0 := 0) rfl rfl, pW_in hP hK hD⟩ rfl rfl hl.1 rfl (lv_room (Nat.le_of_ble_eq_true rfl)) dX9_ask_2 ⟨(Nat.le_of_ble_eq_true rfl), (Nat.le_of_ble_eq_true rfl)⟩) hS (fun q _ h => hFc q h) hFc (fun _ t_ H3 locs ht hvm hw hB hz1 hk1 hS => ?_)
  obtain ⟨x5, x6, z7, z8, J9, hP1, hD1, hI10⟩ := hB
  rw [ht] at hP1
  have hP := hP1
  have hD := dW hFc hD1
  obtain ⟨im11, im12, im13, im14, im15, im16, im17, im18, im19, im20, im21, im22, im23, im24, im25, im26, im27, im28, im29, im30, im31, im32, im33, im34, im35, im36, im37, im38, im39, im40, im41, im42, im43⟩ := id hI10
  refine lv_iload_n hx hb dX9_ask_5 rfl (lv_at hl 1 rfl) ?_
  refine lv_iconst (v := 0) hx hb dX9_ask_6 (by decide) ?_
  refine lv_iconst (v := 1) hx hb dX9_ask_7 (by decide) ?_
  refine va_calli (va_runS (As := [.int p0, .int 0, .int 1]) (rest := []) ⟨hx, hb, hml, hown, hG⟩ (kX9_isIn l dC dI p0 0 1 H3.size) (va_cwS 3 hG (goodS gw1516 gw1517 gw138 gw1518) rfl rfl rfl hd_X9_isIn ⟨(Nat.le_of_ble_eq_true rfl), (Nat.le_of_ble_eq_true rfl)⟩) ⟨fbR, pR_in emptyP (emptyK hK)⟩ rfl rfl hl.1 rfl (lv_room (Nat.le_of_ble_eq_true rfl)) dX9_ask_8 ⟨(Nat.le_of_ble_eq_true rfl), (Nat.le_of_ble_eq_true rfl)⟩) hS (fun q hq h => absurd hq (Nat.not_lt.mpr h)) (fun q h => hA q (Nat.le_trans hS.1 h)) (fun r_45 u_ t_ H44 locs ht hvm hw hB hz1 hk1 hS => ?_)
  subst hw
  have hP := wk hP hk1
  obtain ⟨f46, f47, f48⟩ := hB
  refine lv_if_eq (tgt := 28) hx hb dX9_ask_11 (by decide) (fun c_49 => ?_) (fun c_49 => ?_)
  · skip
    have f50 : r_45.toInt = 0 := qi_eq c_49 rfl zc_0
    refine lv_iconst (v := (-1)) hx hb dX9_ask_28 (by decide) ?_
    rw [hQ]
    exact W.iret (v := (-1)) hx hb hr (fun t ht hW => ⟨⟨(-1), (-1), rfl, rfl, ⟨x5, x6, z7, z8, J9, by rw [ht]; exact hP, hD, hI10⟩⟩, hS.F ht⟩) hS.2.2 dX9_ask_29
  · skip
    have f51 : r_45.toInt ≠ 0 := qi_ne c_49 rfl zc_0
    have f52 : (0 : Int) ≤ p0.toInt := (ob_1129 f46 f51 zc_1 zc_0)
    have f53 : p0.toInt ≤ (1 : Int) := (ob_1130 f46 f51 zc_1 zc_0)
    have f54 : r_45.toInt = (1 : Int) := (ob_1131 f46 f51 zc_1 zc_0)
    have f55 : (1 : Int) ≤ r_45.toInt := (ob_162 f47 f48 f54)
    refine lv_aload_n hx hb dX9_ask_14 rfl (lv_at hl 0 rfl) ?_
    refine va_calli (va_runV (As := []) (rest := []) ⟨hx, hb, hml, hown, hG⟩ (kX9_songs l dC dI r ct i_taped i_size i_faultKind i_at i_end i_token i_number i_bank i_rb i_codes i_within i_piled i_unitsInRule x5 x6 i_acts i_undone i_laid i_knowns i_time f_text f_tunes f_houses f_hums f_told f_many f_ruleFrom f_ruleTo f_code f_eWhat f_eSign z7 z8 f_was f_sTune f_boxAll J9 L H44.size hI10) (cwV 0 hG (goodV gw1512 gw1514 gw86 gw138 gw1515) rfl rfl rfl hd_X9_songs ⟨(Nat.le_of_ble_eq_true rfl), (Nat.le_of_ble_eq_true rfl)⟩) ⟨fbR, va_recv hK hP (ci := 8) (q0 := 0) rfl rfl, pR_in hP hK⟩ rfl rfl hl.1 rfl (lv_room (Nat.le_of_ble_eq_true rfl)) dX9_ask_15 ⟨(Nat.le_of_ble_eq_true rfl), (Nat.le_of_ble_eq_true rfl)⟩) hS (fun q hq h => absurd hq (Nat.not_lt.mpr h)) (fun q h => hA q (Nat.le_trans hS.1 h)) (fun r_57 u_ t_ H56 locs ht hvm hw hB hz1 hk1 hS => ?_)
    subst hw
    have hP := wk hP hk1
    have f58 := hB
    have f59 : r_57.toInt = (f_tunes (i_bank.toInt).toNat).toInt := (ob_6 f58)
    refine lv_if_eq (tgt := 28) hx hb dX9_ask_18 (by decide) (fun c_60 => ?_) (fun c_60 => ?_)
    · skip
      have f61 : r_57.toInt = 0 := qi_eq c_60 rfl zc_0
      refine lv_iconst (v := (-1)) hx hb dX9_ask_28 (by decide) ?_
      rw [hQ]
      exact W.iret (v := (-1)) hx hb hr (fun t ht hW => ⟨⟨(-1), (-1), rfl, rfl, ⟨x5, x6, z7, z8, J9, by rw [ht]; exact hP, hD, hI10⟩⟩, hS.F ht⟩) hS.2.2 dX9_ask_29
    · skip
      have f62 : r_57.toInt ≠ 0 := qi_ne c_60 rfl zc_0
      have f63 : (1 : Int) ≤ (f_tunes (i_bank.toInt).toNat).toInt := (ob_1573 f1 f62 f59)
      refine lv_aload_n hx hb dX9_ask_21 rfl (lv_at hl 0 rfl) ?_
      refine gM_X9_499_0 hx hb hG hown hK hP dX9_ask_22 (fun x64 => ?_)
      refine lv_if_ne (tgt := 30) hx hb dX9_ask_25 (by decide) (fun c_65 => ?_) (fun c_65 => ?_)
      · skip
        have f66 : x64.toInt ≠ 0 := qi_ne c_65 rfl zc_0
        refine lv_iconst (v := 0) hx hb dX9_ask_30 (by decide) ?_
        refine lv_istore_n (lv' := [(3, .int 0), (0, .ref (r 0)), (1, .int p0), (2, .int p1)]) hx hb dX9_ask_31 rfl hl (by decide) rfl (fun ls hl => ?_)
        refine lv_aload_n hx hb dX9_ask_32 rfl (lv_at hl 1 rfl) ?_
        refine lv_iconst (v := 0) hx hb dX9_ask_33 (by decide) ?_
        refine va_calli (va_runV (As := [.int 0]) (rest := []) ⟨hx, hb, hml, hown, hG⟩ (kX9_mostBy l dC dI r ct i_taped i_size i_faultKind i_at i_end i_token i_number i_bank i_rb i_codes i_within i_piled i_unitsInRule x5 x6 i_acts i_undone i_laid i_knowns i_time f_text f_tunes f_houses f_hums f_told f_many f_ruleFrom f_ruleTo f_code f_eWhat f_eSign z7 z8 f_was f_sTune f_boxAll J9 L 0 H56.size hI10 (ob_1 zc_0) (ob_797 zc_0)) (cwV 1 hG (goodV gw1857 gw1859 gw125 gw138 gw1860) rfl rfl rfl hd_X9_mostBy ⟨(Nat.le_of_ble_eq_true rfl), (Nat.le_of_ble_eq_true rfl)⟩) ⟨fbR, va_recv hK hP (ci := 8) (q0 := 0) rfl rfl, pR_in hP hK⟩ rfl rfl hl.1 rfl (lv_room (Nat.le_of_ble_eq_true rfl)) dX9_ask_34 ⟨(Nat.le_of_ble_eq_true rfl), (Nat.le_of_ble_eq_true rfl)⟩) hS (fun q hq h => absurd hq (Nat.not_lt.mpr h)) (fun q h => hA q (Nat.le_trans hS.1 h)) (fun r_68 u_ t_ H67 locs ht hvm hw hB hz1 hk1 hS => ?_)
        subst hw
        have hP := wk hP hk1
        obtain ⟨f69, f70⟩ := hB
        refine lv_istore (lv' := [(4, .int r_68), (3, .int 0), (0, .ref (r 0)), (1, .int p0), (2, .int p1)]) hx hb dX9_ask_37 hl (by decide) rfl (fun ls hl => ?_)
        refine lv_iconst (v := 1) hx hb dX9_ask_39 (by decide) ?_
        refine lv_istore (lv' := [(5, .int 1), (4, .int r_68), (3, .int 0), (0, .ref (r 0)), (1, .int p0), (2, .int p1)]) hx hb dX9_ask_40 hl (by decide) rfl (fun ls hl => ?_)
        have L42 : ∀ (N42 : Nat) (y42_3 y42_4 y42_5 : Int32) (H42 : Heap) (locs : List Loc) (ls : Array Slot) (g42_0 : (0 : Int) ≤ y42_3.toInt) (g42_1 : y42_3.toInt ≤ (4 : Int)) (g42_2 : (0 : Int) ≤ y42_4.toInt) (g42_3 : (1 : Int) ≤ y42_5.toInt) (g42_4 : y42_5.toInt ≤ (5 : Int)) (g42_5 : y42_3.toInt + 1 ≤ (f_tunes (i_bank.toInt).toNat).toInt) (hP : va_P (dC, dI) vwCl (WM r ct i_taped i_size i_faultKind i_at i_end i_token i_number i_bank i_rb i_codes i_within i_piled i_unitsInRule x5 x6 i_acts i_undone i_laid i_knowns i_time f_text f_tunes f_houses f_hums f_told f_many f_ruleFrom f_ruleTo f_code f_eWhat f_eSign z7 z8 f_was f_sTune f_boxAll J9 L) H42) (hD : va_D A (WM r ct i_taped i_size i_faultKind i_at i_end i_token i_number i_bank i_rb i_codes i_within i_piled i_unitsInRule x5 x6 i_acts i_undone i_laid i_knowns i_time f_text f_tunes f_houses f_hums f_told f_many f_ruleFrom f_ruleTo f_code f_eWhat f_eSign z7 z8 f_was f_sTune f_boxAll J9 L)) (hS : va_S A s.heap H42 locs) (hl : lv_has ls 7 [(0, .ref (r 0)), (1, .int p0), (2, .int p1), (3, .int y42_3), (4, .int y42_4), (5, .int y42_5)]) (hM : -1 * y42_5.toInt + 5 < (N42 : Int)), W p l e { frames := 24, cells := 0, slots := 0, locals := 797 } s m ([.ref (r 0), .int p0, .int p1] : List Value).toArray below meth c0 H42 locs 0 0 Q (F0 m 42 ls []) := by
          intro N42
          induction N42 with
          | zero =>
            intro y42_3 y42_4 y42_5 H42 locs ls g42_0 g42_1 g42_2 g42_3 g42_4 g42_5 hP hD hS hl hM
            exact ((ob_1574 hM g42_3 g42_4)).elim
          | succ N42 ih42 =>
            intro y42_3 y42_4 y42_5 H42 locs ls g42_0 g42_1 g42_2 g42_3 g42_4 g42_5 hP hD hS hl hM
            have hM42 := msucc hM
            refine lv_iload hx hb dX9_ask_42 (lv_at hl 5 rfl) ?_
            refine lv_aload_n hx hb dX9_ask_44 rfl (lv_at hl 0 rfl) ?_
            refine va_calli (va_runV (As := []) (rest := [.int y42_5]) ⟨hx, hb, hml, hown, hG⟩ (kX9_songs l dC dI r ct i_taped i_size i_faultKind i_at i_end i_token i_number i_bank i_rb i_codes i_within i_piled i_unitsInRule x5 x6 i_acts i_undone i_laid i_knowns i_time f_text f_tunes f_houses f_hums f_told f_many f_ruleFrom f_ruleTo f_code f_eWhat f_eSign z7 z8 f_was f_sTune f_boxAll J9 L H42.size hI10) (cwV 0 hG (goodV gw1512 gw1514 gw86 gw138 gw1515) rfl rfl rfl hd_X9_songs ⟨(Nat.le_of_ble_eq_true rfl), (Nat.le_of_ble_eq_true rfl)⟩) ⟨fbR, va_recv hK hP (ci := 8) (q0 := 0) rfl rfl, pR_in hP hK⟩ rfl rfl hl.1 rfl (lv_room (Nat.le_of_ble_eq_true rfl)) dX9_ask_45 ⟨(Nat.le_of_ble_eq_true rfl), (Nat.le_of_ble_eq_true rfl)⟩) hS (fun q hq h => absurd hq (Nat.not_lt.mpr h)) (fun q h => hA q (Nat.le_trans hS.1 h)) (fun r_72 u_ t_ H71 locs ht hvm hw hB hz1 hk1 hS => ?_)
            subst hw
            have hP := wk hP hk1
            have f73 := hB
            have f74 : r_72.toInt = (f_tunes (i_bank.toInt).toNat).toInt := (ob_6 f73)
            refine lv_icmp_ge (tgt := 82) hx hb dX9_ask_48 (by decide) (fun c_75 => ?_) (fun c_75 => ?_)
            · skip
              have f76 : r_72.toInt ≤ y42_5.toInt := qi_le c_75 rfl rfl
              refine lv_iload_n hx hb dX9_ask_82 rfl (lv_at hl 1 rfl) ?_
              refine lv_if_ne (tgt := 90) hx hb dX9_ask_83 (by decide) (fun c_77 => ?_) (fun c_77 => ?_)
              · skip
                have f78 : p0.toInt ≠ 0 := qi_ne c_77 rfl zc_0
                have f79 : (1 : Int) ≤ p0.toInt := (ob_22 f52 f78)
                refine lv_iload hx hb dX9_ask_90 (lv_at hl 4 rfl) ?_
                rw [hQ]
                exact W.iret (v := y42_4) hx hb hr (fun t ht hW => ⟨⟨y42_4, y42_4, rfl, rfl, ⟨x5, x6, z7, z8, J9, by rw [ht]; exact hP, hD, hI10⟩⟩, hS.F ht⟩) hS.2.2 dX9_ask_92
              · skip
                have f80 : p0.toInt = 0 := qi_eq c_77 rfl zc_0
                refine lv_iload_n hx hb dX9_ask_86 rfl (lv_at hl 3 rfl) ?_
                refine lv_goto (tgt := 92) hx hb dX9_ask_87 (by decide) ?_
                rw [hQ]
                exact W.iret (v := y42_3) hx hb hr (fun t ht hW => ⟨⟨y42_3, y42_3, rfl, rfl, ⟨x5, x6, z7, z8, J9, by rw [ht]; exact hP, hD, hI10⟩⟩, hS.F ht⟩) hS.2.2 dX9_ask_92
            · skip
              have f81 : y42_5.toInt < r_72.toInt := qi_nle c_75 rfl rfl
              refine lv_aload_n hx hb dX9_ask_51 rfl (lv_at hl 0 rfl) ?_
              refine lv_iload hx hb dX9_ask_52 (lv_at hl 5 rfl) ?_
              refine va_calli (va_runV (As := [.int y42_5]) (rest := []) ⟨hx, hb, hml, hown, hG⟩ (kX9_mostBy l dC dI r ct i_taped i_size i_faultKind i_at i_end i_token i_number i_bank i_rb i_codes i_within i_piled i_unitsInRule x5 x6 i_acts i_undone i_laid i_knowns i_time f_text f_tunes f_houses f_hums f_told f_many f_ruleFrom f_ruleTo f_code f_eWhat f_eSign z7 z8 f_was f_sTune f_boxAll J9 L y42_5 H71.size hI10 (ob_20 g42_3) (ob_1124 f1 f81 f74)) (cwV 1 hG (goodV gw1857 gw1859 gw125 gw138 gw1860) rfl rfl rfl hd_X9_mostBy ⟨(Nat.le_of_ble_eq_true rfl), (Nat.le_of_ble_eq_true rfl)⟩) ⟨fbR, va_recv hK hP (ci := 8) (q0 := 0) rfl rfl, pR_in hP hK⟩ rfl rfl hl.1 rfl (lv_room (Nat.le_of_ble_eq_true rfl)) dX9_ask_54 ⟨(Nat.le_of_ble_eq_true rfl), (Nat.le_of_ble_eq_true rfl)⟩) hS (fun q hq h => absurd hq (Nat.not_lt.mpr h)) (fun q h => hA q (Nat.le_trans hS.1 h)) (fun r_83 u_ t_ H82 locs ht hvm hw hB hz1 hk1 hS => ?_)
              subst hw
              have hP := wk hP hk1
              obtain ⟨f84, f85⟩ := hB
              refine lv_istore (lv' := [(6, .int r_83), (0, .ref (r 0)), (1, .int p0), (2, .int p1), (3, .int y42_3), (4, .int y42_4), (5, .int y42_5)]) hx hb dX9_ask_57 hl (by decide) rfl (fun ls hl => ?_)
              refine lv_iload hx hb dX9_ask_59 (lv_at hl 0 rfl) ?_
              refine lv_iload hx hb dX9_ask_61 (lv_at hl 5 rfl) ?_
              refine lv_icmp_lt (tgt := 69) hx hb dX9_ask_63 (by decide) (fun c_86 => ?_) (fun c_86 => ?_)
              · skip
                have f87 : r_83.toInt < y42_4.toInt := qi_lt c_86 rfl rfl
                refine lv_iload hx hb dX9_ask_69 (lv_at hl 6 rfl) ?_
                refine lv_istore_n (lv' := [(3, .int y42_5), (6, .int r_83), (0, .ref (r 0)), (1, .int p0), (2, .int p1), (4, .int y42_4), (5, .int y42_5)]) hx hb dX9_ask_71 rfl hl (by decide) rfl (fun ls hl => ?_)
                refine lv_iload hx hb dX9_ask_72 (lv_at hl 1 rfl) ?_
                refine lv_istore (lv' := [(4, .int r_83), (3, .int y42_5), (6, .int r_83), (0, .ref (r 0)), (1, .int p0), (2, .int p1), (5, .int y42_5)]) hx hb dX9_ask_74 hl (by decide) rfl (fun ls hl => ?_)
                obtain ⟨x88, ex88⟩ : ∃ y : Int32, y = y42_5 + Int32.ofInt 1 := ⟨_, rfl⟩
                have f89 : x88.toInt = y42_5.toInt + 1 := (ob_142 (qi_add ex88 rfl (by decide) (ob_193 g42_3) (ob_804 g42_4)))
                refine lv_iinc (v := x88) (lv' := [(5, .int x88), (4, .int r_83), (3, .int y42_5), (6, .int r_83), (0, .ref (r 0)), (1, .int p0), (2, .int p1)]) hx hb dX9_ask_76 hl (k := 6) rfl ex88.symm (by decide) rfl (fun ls hl => ?_)
                refine lv_goto (tgt := 42) hx hb dX9_ask_79 (by decide) ?_
                exact ih42 y42_5 r_83 x88 H82 _ _ (ob_20 g42_3) (ob_1124 f1 f81 f74) (ob_1575 f84 f87) (ob_195 g42_3 f89) (ob_1047 f1 f81 f74 f89) (ob_1054 f81 f74) hP hD hS (lv_sub hl [4, 5, 6, 2, 1, 0] rfl) (ob_806 hM42 f89)
              · skip
                have f90 : y42_4.toInt ≤ r_83.toInt := qi_nlt c_86 rfl rfl
                refine lv_goto (tgt := 76) hx hb dX9_ask_66 (by decide) ?_
                obtain ⟨x91, ex91⟩ : ∃ y : Int32, y = y42_5 + Int32.ofInt 1 := ⟨_, rfl⟩
                have f92 : x91.toInt = y42_5.toInt + 1 := (ob_142 (qi_add ex91 rfl (by decide) (ob_193 g42_3) (ob_804 g42_4)))
                refine lv_iinc (v := x91) (lv' := [(5, .int x91), (6, .int r_83), (0, .ref (r 0)), (1, .int p0), (2, .int p1), (3, .int y42_3), (4, .int y42_4)]) hx hb dX9_ask_76 hl (k := 6) rfl ex91.symm (by decide) rfl (fun ls hl => ?_)
                refine lv_goto (tgt := 42) hx hb dX9_ask_79 (by decide) ?_
                exact ih42 y42_3 y42_4 x91 H82 _ _ (ob_1576 g42_0 g42_1 g42_5) (ob_1577 g42_0 g42_1 g42_5) (ob_205 g42_2 f90) (ob_195 g42_3 f92) (ob_1047 f1 f81 f74 f92) (ob_1060 g42_5) hP hD hS (lv_sub hl [2, 3, 4, 5, 6, 0] rfl) (ob_806 hM42 f92)
        exact L42 (-1 * (1 : Int32).toInt + 5 + 1).toNat 0 r_68 1 H67 _ _ (ob_1 zc_0) (ob_797 zc_0) (ob_139 f69) (ob_218 zc_1) (ob_1578 zc_1) (ob_1579 f1 f63 zc_0) hP hD hS (lv_sub hl [3, 4, 5, 2, 1, 0] rfl) (mlt (ob_1580 zc_1))
      · skip
        have f93 : x64.toInt = 0 := qi_eq c_65 rfl zc_0
        refine lv_iconst (v := (-1)) hx hb dX9_ask_28 (by decide) ?_
        rw [hQ]
        exact W.iret (v := (-1)) hx hb hr (fun t ht hW => ⟨⟨(-1), (-1), rfl, rfl, ⟨x5, x6, z7, z8, J9, by rw [ht]; exact hP, hD, hI10⟩⟩, hS.F ht⟩) hS.2.2 dX9_ask_29
set_option maxHeartbeats 4000000 in
set_option maxRecDepth 100000 in
theorem kX9_image (l : Launch) (dC : Nat → ClassId) (dI : Nat → Nat → Nat) (r : Nat → Nat) (ct : Nat → ClassId) (i_taped i_size i_faultKind i_at i_end i_token i_number i_bank i_rb i_codes i_within i_piled i_unitsInRule i_askHouse i_askTune i_acts i_undone i_laid i_knowns i_time : Int32) (f_text f_tunes f_houses f_hums f_told f_many f_ruleFrom f_ruleTo f_code f_eWhat f_eSign f_all f_kept f_was f_sTune f_boxAll : Nat → Int32) (J : Nat → Nat → Int32) (L : Nat → Nat → Int64) (p0 : Int32) (sz : Nat) (hI : (IM i_taped i_size i_faultKind i_at i_end i_bank i_rb i_acts i_undone i_laid i_knowns i_time f_tunes f_houses f_hums f_told f_many f_ruleFrom f_ruleTo f_code f_all f_kept f_was f_sTune f_boxAll)) : Met l yX9_image (.code yX9_image cX9_image 3 (some .int) :: GW) { frames := 4, cells := 0, slots := 0, locals := 162 } (va_Pc [.ref (r 0), .int p0] (pW (dC, dI) (WM r ct i_taped i_size i_faultKind i_at i_end i_token i_number i_bank i_rb i_codes i_within i_piled i_unitsInRule i_askHouse i_askTune i_acts i_undone i_laid i_knowns i_time f_text f_tunes f_houses f_hums f_told f_many f_ruleFrom f_ruleTo f_code f_eWhat f_eSign f_all f_kept f_was f_sTune f_boxAll J L) (TM ct) sz)) (va_Qi (fun (r0 : Int32) (u : Int32) => r0 = u) (fun (u : Int32) (t : State) => ∃ (n_f_boxAll : Nat → Int32) (n_J : Nat → Nat → Int32), va_P (dC, dI) vwCl (WM r ct i_taped i_size i_faultKind i_at i_end i_token i_number i_bank i_rb i_codes i_within i_piled i_unitsInRule i_askHouse i_askTune i_acts i_undone i_laid i_knowns i_time f_text f_tunes f_houses f_hums f_told f_many f_ruleFrom f_ruleTo f_code f_eWhat f_eSign f_all f_kept f_was f_sTune n_f_boxAll n_J L) t.heap ∧ va_D (va_A (WM r ct i_taped i_size i_faultKind i_at i_end i_token i_number i_bank i_rb i_codes i_within i_piled i_unitsInRule i_askHouse i_askTune i_acts i_undone i_laid i_knowns i_time f_text f_tunes f_houses f_hums f_told f_many f_ruleFrom f_ruleTo f_code f_eWhat f_eSign f_all f_kept f_was f_sTune f_boxAll J L) sz) (WM r ct i_taped i_size i_faultKind i_at i_end i_token i_number i_bank i_rb i_codes i_within i_piled i_unitsInRule i_askHouse i_askTune i_acts i_undone i_laid i_knowns i_time f_text f_tunes f_houses f_hums f_told f_many f_ruleFrom f_ruleTo f_code f_eWhat f_eSign f_all f_kept f_was f_sTune n_f_boxAll n_J L) ∧ (IM i_taped i_size i_faultKind i_at i_end i_bank i_rb i_acts i_undone i_laid i_knowns i_time f_tunes f_houses f_hums f_told f_many f_ruleFrom f_ruleTo f_code f_all f_kept f_was f_sTune n_f_boxAll)) (va_A (WM r ct i_taped i_size i_faultKind i_at i_end i_token i_number i_bank i_rb i_codes i_within i_piled i_unitsInRule i_askHouse i_askTune i_acts i_undone i_laid i_knowns i_time f_text f_tunes f_houses f_hums f_told f_many f_ruleFrom f_ruleTo f_code f_eWhat f_eSign f_all f_kept f_was f_sTune f_boxAll J L) sz)) 0 0 (va_A (WM r ct i_taped i_size i_faultKind i_at i_end i_token i_number i_bank i_rb i_codes i_within i_piled i_unitsInRule i_askHouse i_askTune i_acts i_undone i_laid i_knowns i_time f_text f_tunes f_houses f_hums f_told f_many f_ruleFrom f_ruleTo f_code f_eWhat f_eSign f_all f_kept f_was f_sTune f_boxAll J L) sz) := by
  refine Met.ofW (cc := cX9_image) (maxL := 3) (ret := (some .int)) (by decide) rfl ?_
  intro p e s m args below meth c0 s₁ B hml hv
  obtain ⟨rfl, hsz, hP, hK, hD0⟩ := hv
  have hx := B.exec
  have hb := B.bytes
  have hr := B.returns
  have hts := atoms_spec (ws := .code yX9_image cX9_image 3 (some .int) :: GW) B.pre
  have hG : ∀ w ∈ GW, w.before _ s = true := fun w h => hts w (List.mem_cons_of_mem _ h)
  have hown : s.vm.findClass RX9 = some m.cls := findClass_of_methodNamed B.named
  subst hsz
  have hD := hD0.self (sz := s.heap.size)
  generalize hAe : va_A (WM r ct i_taped i_size i_faultKind i_at i_end i_token i_number i_bank i_rb i_codes i_within i_piled i_unitsInRule i_askHouse i_askTune i_acts i_undone i_laid i_knowns i_time f_text f_tunes f_houses f_hums f_told f_many f_ruleFrom f_ruleTo f_code f_eWhat f_eSign f_all f_kept f_was f_sTune f_boxAll J L) s.heap.size = A at hD ⊢
  have hA : ∀ q : Nat, s.heap.size ≤ q → A q := fun q h => by rw [← hAe]; exact Or.inr h
  have hS : va_S A s.heap s.heap [] := va_S.rf
  have hP : va_P (dC, dI) vwCl (WM r ct i_taped i_size i_faultKind i_at i_end i_token i_number i_bank i_rb i_codes i_within i_piled i_unitsInRule i_askHouse i_askTune i_acts i_undone i_laid i_knowns i_time f_text f_tunes f_houses f_hums f_told f_many f_ruleFrom f_ruleTo f_code f_eWhat f_eSign f_all f_kept f_was f_sTune f_boxAll J L) s.heap := hP
  have hl := lv_entry ([.ref (r 0), .int p0]) (n := 3) (Nat.le_of_ble_eq_true rfl)
  rw [lg_entry_eq]
  generalize (lg_sl ([.ref (r 0), .int p0]) ++ List.replicate (3 - (lg_sl ([.ref (r 0), .int p0])).length) Slot.unset).toArray = ls at hl ⊢
  have hl : lv_has ls 3 [(0, .ref (r 0)), (1, .int p0)] := hl
  refine nameQ (fun Q hQ => ?_)
  obtain ⟨ie0, ie1, ie2, ie3, ie4, ie5, ie6, ie7, ie8, ie9, ie10, ie11, ie12, ie13, ie14, ie15, ie16, ie17, ie18, ie19, ie20, ie21, ie22, ie23, ie24, ie25, ie26, ie27, ie28, ie29, ie30, ie31, ie32⟩ := id hI
  have f1 : 0 ≤ (f_tunes (i_bank.toInt).toNat).toInt ∧ (f_tunes (i_bank.toInt).toNat).toInt ≤ 5 := ie21 (i_bank.toInt)
  have f2 : 0 ≤ (f_houses (i_bank.toInt).toNat).toInt ∧ (f_houses (i_bank.toInt).toNat).toInt ≤ 4 := ie22 (i_bank.toInt)
  refine lv_iload_n hx hb dX9_image_0 rfl (lv_at hl 1 rfl) ?_
  refine lv_iconst (v := 0) hx hb dX9_image_1 (by decide) ?_
  refine lv_iconst (v := 2) hx hb dX9_image_2 (by decide) ?_
  refine va_calli (va_runS (As := [.int p0, .int 0, .int 2]) (rest := []) ⟨hx, hb, hml, hown, hG⟩ (kX9_isIn l dC dI p0 0 2 s.heap.size) (va_cwS 3 hG (goodS gw1516 gw1517 gw138 gw1518) rfl rfl rfl hd_X9_isIn ⟨(Nat.le_of_ble_eq_true rfl), (Nat.le_of_ble_eq_true rfl)⟩) ⟨fbR, pR_in emptyP (emptyK hK)⟩ rfl rfl hl.1 rfl (lv_room (Nat.le_of_ble_eq_true rfl)) dX9_image_3 ⟨(Nat.le_of_ble_eq_true rfl), (Nat.le_of_ble_eq_true rfl)⟩) hS (fun q hq h => absurd hq (Nat.not_lt.mpr h)) (fun q h => hA q (Nat.le_trans hS.1 h)) (fun r_4 u_ t_ H3 locs ht hvm hw hB hz1 hk1 hS => ?_)
  subst hw
  have hP := wk hP hk1
  obtain ⟨f5, f6, f7⟩ := hB
  refine lv_if_ne (tgt := 11) hx hb dX9_image_6 (by decide) (fun c_8 => ?_) (fun c_8 => ?_)
  · skip
    have f9 : r_4.toInt ≠ 0 := qi_ne c_8 rfl zc_0
    have f10 : (0 : Int) ≤ p0.toInt := (ob_1560 f5 f9 zc_2 zc_0)
    have f11 : p0.toInt ≤ (2 : Int) := (ob_1561 f5 f9 zc_2 zc_0)
    have f12 : r_4.toInt = (1 : Int) := (ob_1562 f5 f9 zc_2 zc_0)
    have f13 : (1 : Int) ≤ r_4.toInt := (ob_162 f6 f7 f12)
    refine lv_iconst (v := 0) hx hb dX9_image_11 (by decide) ?_
    refine lv_istore_n (lv' := [(2, .int 0), (0, .ref (r 0)), (1, .int p0)]) hx hb dX9_image_12 rfl hl (by decide) rfl (fun ls hl => ?_)
    have L13 : ∀ (N13 : Nat) (y13_2 : Int32) (m13_f_boxAll : Nat → Int32) (H13 : Heap) (locs : List Loc) (ls : Array Slot) (g13_0 : (0 : Int) ≤ y13_2.toInt) (g13_1 : y13_2.toInt ≤ (26 : Int)) (gi13_boxAll_p : EW m13_f_boxAll) (hP : va_P (dC, dI) vwCl (WM r ct i_taped i_size i_faultKind i_at i_end i_token i_number i_bank i_rb i_codes i_within i_piled i_unitsInRule i_askHouse i_askTune i_acts i_undone i_laid i_knowns i_time f_text f_tunes f_houses f_hums f_told f_many f_ruleFrom f_ruleTo f_code f_eWhat f_eSign f_all f_kept f_was f_sTune m13_f_boxAll J L) H13) (hD : va_D A (WM r ct i_taped i_size i_faultKind i_at i_end i_token i_number i_bank i_rb i_codes i_within i_piled i_unitsInRule i_askHouse i_askTune i_acts i_undone i_laid i_knowns i_time f_text f_tunes f_houses f_hums f_told f_many f_ruleFrom f_ruleTo f_code f_eWhat f_eSign f_all f_kept f_was f_sTune m13_f_boxAll J L)) (hS : va_S A s.heap H13 locs) (hl : lv_has ls 3 [(0, .ref (r 0)), (1, .int p0), (2, .int y13_2)]) (hM : -1 * y13_2.toInt + 26 < (N13 : Int)), W p l e { frames := 4, cells := 0, slots := 0, locals := 162 } s m ([.ref (r 0), .int p0] : List Value).toArray below meth c0 H13 locs 0 0 Q (F0 m 13 ls []) := by
      intro N13
      induction N13 with
      | zero =>
        intro y13_2 m13_f_boxAll H13 locs ls g13_0 g13_1 gi13_boxAll_p hP hD hS hl hM
        exact ((ob_776 hM g13_0 g13_1)).elim
      | succ N13 ih13 =>
        intro y13_2 m13_f_boxAll H13 locs ls g13_0 g13_1 gi13_boxAll_p hP hD hS hl hM
        have hM13 := msucc hM
        refine lv_iload_n hx hb dX9_image_13 rfl (lv_at hl 2 rfl) ?_
        refine lv_bipush (v := 26) hx hb dX9_image_14 (by decide) ?_
        refine lv_icmp_ge (tgt := 42) hx hb dX9_image_16 (by decide) (fun c_14 => ?_) (fun c_14 => ?_)
        · skip
          have f15 : 26 ≤ y13_2.toInt := qi_le c_14 zc_26 rfl
          refine lv_aload_n hx hb dX9_image_42 rfl (lv_at hl 0 rfl) ?_
          refine gM_X9_128_0 hx hb hG hown hK hP dX9_image_43 ?_
          refine lv_iload_n hx hb dX9_image_46 rfl (lv_at hl 1 rfl) ?_
          refine lv_iconst (v := 1) hx hb dX9_image_47 (by decide) ?_
          refine stM_38 (mm := p0.toInt) hx hb hK hP hD hS rfl (ob_1581 f10 f11) (ob_1582 f10 f11) dX9_image_48 (fun J17 H16 locs hP hD hS => ?_)
          refine lv_aload_n hx hb dX9_image_49 rfl (lv_at hl 0 rfl) ?_
          refine gM_X9_88_0 hx hb hG hown hK hP dX9_image_50 ?_
          refine lv_bipush (v := 24) hx hb dX9_image_53 (by decide) ?_
          refine ldM_25 (mm := (24 : Int)) hx hb hK hP zc_24 (ob_1079) (ob_1080) dX9_image_55 ?_
          rw [hQ]
          exact W.iret (v := (f_all ((24 : Int)).toNat)) hx hb hr (fun t ht hW => ⟨⟨(f_all ((24 : Int)).toNat), (f_all ((24 : Int)).toNat), rfl, rfl, ⟨m13_f_boxAll, J17, by rw [ht]; exact hP, hD, ⟨ie0, ie1, ie2, ie3, ie4, ie5, ie6, ie7, ie8, ie9, ie10, ie11, ie12, ie13, ie14, ie15, ie16, ie17, ie18, ie19, ie20, ie21, ie22, ie23, ie24, ie25, ie26, ie27, ie28, ie29, gi13_boxAll_p, ie31, ie32⟩⟩⟩, hS.F ht⟩) hS.2.2 dX9_image_56
        · skip
          have f18 : y13_2.toInt < 26 := qi_nle c_14 zc_26 rfl
          refine lv_aload_n hx hb dX9_image_19 rfl (lv_at hl 0 rfl) ?_
          refine gM_X9_125_0 hx hb hG hown hK hP dX9_image_20 ?_
          refine lv_bipush (v := 26) hx hb dX9_image_23 (by decide) ?_
          refine lv_iload_n hx hb dX9_image_25 rfl (lv_at hl 1 rfl) ?_
          refine lv_imul hx hb dX9_image_26 ?_
          refine lv_topi (fun x19 ex19 => ?_)
          have f20 : x19.toInt = 26 * p0.toInt := (ob_1166 (qi_mul ex19 zc_26 rfl (ob_1583 f10 f11) (ob_1584 f10 f11)))
          refine lv_iload_n hx hb dX9_image_27 rfl (lv_at hl 2 rfl) ?_
          refine lv_iadd hx hb dX9_image_28 ?_
          refine lv_topi (fun x21 ex21 => ?_)
          have f22 : x21.toInt = y13_2.toInt + 26 * p0.toInt := (ob_1169 (qi_add ex21 rfl rfl (ob_1167 f10 g13_0 f20) (ob_1585 f11 g13_1 f20)) f20)
          refine lv_aload_n hx hb dX9_image_29 rfl (lv_at hl 0 rfl) ?_
          refine gM_X9_88_0 hx hb hG hown hK hP dX9_image_30 ?_
          refine lv_iload_n hx hb dX9_image_33 rfl (lv_at hl 2 rfl) ?_
          refine ldM_25 (mm := y13_2.toInt) hx hb hK hP rfl (ob_350 g13_0) (ob_809 f18) dX9_image_34 ?_
          refine stM_37 (mm := y13_2.toInt + 26 * p0.toInt) hx hb hK hP hD hS f22 (ob_1170 f10 g13_0) (ob_1586 f11 f18) dX9_image_35 (fun z24 H23 locs ez24 hP hD hS => ?_)
          have g25 : EW z24 := ez24 ▸ EW.updc gi13_boxAll_p ie27 (ob_1170 f10 g13_0) (ob_350 g13_0) (ob_1172)
          obtain ⟨x26, ex26⟩ : ∃ y : Int32, y = y13_2 + Int32.ofInt 1 := ⟨_, rfl⟩
          have f27 : x26.toInt = y13_2.toInt + 1 := (ob_142 (qi_add ex26 rfl (by decide) (ob_140 g13_0) (ob_810 g13_1)))
          refine lv_iinc (v := x26) (lv' := [(2, .int x26), (0, .ref (r 0)), (1, .int p0)]) hx hb dX9_image_36 hl (k := 2) rfl ex26.symm (by decide) rfl (fun ls hl => ?_)
          refine lv_goto (tgt := 13) hx hb dX9_image_39 (by decide) ?_
          exact ih13 x26 z24 H23 _ _ (ob_149 g13_0 f27) (ob_811 f18 f27) g25 hP hD hS (lv_sub hl [1, 2, 0] rfl) (ob_812 hM13 f27)
    exact L13 (-1 * (0 : Int32).toInt + 26 + 1).toNat 0 f_boxAll H3 _ _ (ob_1 zc_0) (ob_813 zc_0) ie30 hP hD hS (lv_sub hl [1, 2, 0] rfl) (mlt (ob_814 zc_0))
  · skip
    have f28 : r_4.toInt = 0 := qi_eq c_8 rfl zc_0
    refine lv_iconst (v := (-1)) hx hb dX9_image_9 (by decide) ?_
    rw [hQ]
    exact W.iret (v := (-1)) hx hb hr (fun t ht hW => ⟨⟨(-1), (-1), rfl, rfl, ⟨f_boxAll, J, by rw [ht]; exact hP, hD, hI⟩⟩, hS.F ht⟩) hS.2.2 dX9_image_10
