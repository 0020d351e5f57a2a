set_option maxHeartbeats 4000000 in
set_option maxRecDepth 100000 in
theorem kX9_readRule (l : Launch) (dC : Nat → ClassId) (dI : Nat → Nat → Nat) (r : Nat → Nat) (ct : Nat → ClassId) (i_taped i_size i_faultKind i_at i_end i_token i_number i_bank i_rb i_codes i_within i_piled i_unitsInRule i_askHouse i_askTune i_acts i_undone i_laid i_knowns i_time : Int32) (f_text f_tunes f_houses f_hums f_told f_many f_ruleFrom f_ruleTo f_code f_eWhat f_eSign f_all f_kept f_was f_sTune f_boxAll : Nat → Int32) (J : Nat → Nat → Int32) (L : Nat → Nat → Int64) (sz : Nat) (hI : (IM i_taped i_size i_faultKind i_at i_end i_bank i_rb i_acts i_undone i_laid i_knowns i_time f_tunes f_houses f_hums f_told f_many f_ruleFrom f_ruleTo f_code f_all f_kept f_was f_sTune f_boxAll)) (hp0 : i_rb.toInt + i_bank.toInt = (1 : Int)) (hp1 : i_codes.toInt = 560 * i_rb.toInt) (hp2 : i_faultKind.toInt = (0 : Int)) : Met l yX9_readRule (.code yX9_readRule cX9_readRule 1 none :: GW) { frames := 12, cells := 0, slots := 0, locals := 407 } (va_Pc [.ref (r 0)] (pW (dC, dI) (WM r ct i_taped i_size i_faultKind i_at i_end i_token i_number i_bank i_rb i_codes i_within i_piled i_unitsInRule i_askHouse i_askTune i_acts i_undone i_laid i_knowns i_time f_text f_tunes f_houses f_hums f_told f_many f_ruleFrom f_ruleTo f_code f_eWhat f_eSign f_all f_kept f_was f_sTune f_boxAll J L) (TM ct) sz)) (va_Qv (fun _ : Unit => True) (fun (_ : Unit) (t : State) => ∃ (n_i_faultKind n_i_at n_i_end n_i_token n_i_number n_i_codes n_i_within n_i_piled n_i_unitsInRule : Int32) (n_f_told n_f_ruleFrom n_f_ruleTo n_f_code n_f_eWhat n_f_eSign : Nat → Int32) (n_J : Nat → Nat → Int32) (n_L : Nat → Nat → Int64), va_P (dC, dI) vwCl (WM r ct i_taped i_size n_i_faultKind n_i_at n_i_end n_i_token n_i_number i_bank i_rb n_i_codes n_i_within n_i_piled n_i_unitsInRule i_askHouse i_askTune i_acts i_undone i_laid i_knowns i_time f_text f_tunes f_houses f_hums n_f_told f_many n_f_ruleFrom n_f_ruleTo n_f_code n_f_eWhat n_f_eSign f_all f_kept f_was f_sTune f_boxAll n_J n_L) t.heap ∧ va_D (va_A (WM r ct i_taped i_size i_faultKind i_at i_end i_token i_number i_bank i_rb i_codes i_within i_piled i_unitsInRule i_askHouse i_askTune i_acts i_undone i_laid i_knowns i_time f_text f_tunes f_houses f_hums f_told f_many f_ruleFrom f_ruleTo f_code f_eWhat f_eSign f_all f_kept f_was f_sTune f_boxAll J L) sz) (WM r ct i_taped i_size n_i_faultKind n_i_at n_i_end n_i_token n_i_number i_bank i_rb n_i_codes n_i_within n_i_piled n_i_unitsInRule i_askHouse i_askTune i_acts i_undone i_laid i_knowns i_time f_text f_tunes f_houses f_hums n_f_told f_many n_f_ruleFrom n_f_ruleTo n_f_code n_f_eWhat n_f_eSign f_all f_kept f_was f_sTune f_boxAll n_J n_L) ∧ (IM i_taped i_size n_i_faultKind n_i_at n_i_end i_bank i_rb i_acts i_undone i_laid i_knowns i_time f_tunes f_houses f_hums n_f_told f_many n_f_ruleFrom n_f_ruleTo n_f_code f_all f_kept f_was f_sTune f_boxAll) ∧ (i_end.toInt ≤ n_i_end.toInt) ∧ ((n_i_faultKind.toInt = 0 → RU i_rb n_f_told n_f_ruleFrom n_f_ruleTo n_f_code)) ∧ ((¬ BT (n_f_told (i_rb.toInt).toNat) 1 → n_i_codes.toInt = 560 * i_rb.toInt))) (va_A (WM r ct i_taped i_size i_faultKind i_at i_end i_token i_number i_bank i_rb i_codes i_within i_piled i_unitsInRule i_askHouse i_askTune i_acts i_undone i_laid i_knowns i_time f_text f_tunes f_houses f_hums f_told f_many f_ruleFrom f_ruleTo f_code f_eWhat f_eSign f_all f_kept f_was f_sTune f_boxAll J L) sz)) 0 0 (va_A (WM r ct i_taped i_size i_faultKind i_at i_end i_token i_number i_bank i_rb i_codes i_within i_piled i_unitsInRule i_askHouse i_askTune i_acts i_undone i_laid i_knowns i_time f_text f_tunes f_houses f_hums f_told f_many f_ruleFrom f_ruleTo f_code f_eWhat f_eSign f_all f_kept f_was f_sTune f_boxAll J L) sz) := by
  refine Met.ofW (cc := cX9_readRule) (maxL := 1) (ret := none) (by decide) rfl ?_
  intro p e s m args below meth c0 s₁ B hml hv
  obtain ⟨rfl, hsz, hP, hK, hD0⟩ := hv
  have hx := B.exec
  have hb := B.bytes
  have hr := B.returns
  have hts := atoms_spec (ws := .code yX9_readRule cX9_readRule 1 none :: GW) B.pre
  have hG : ∀ w ∈ GW, w.before _ s = true := fun w h => hts w (List.mem_cons_of_mem _ h)
  have hown : s.vm.findClass RX9 = some m.cls := findClass_of_methodNamed B.named
  subst hsz
  have hD := hD0.self (sz := s.heap.size)
  generalize hAe : va_A (WM r ct i_taped i_size i_faultKind i_at i_end i_token i_number i_bank i_rb i_codes i_within i_piled i_unitsInRule i_askHouse i_askTune i_acts i_undone i_laid i_knowns i_time f_text f_tunes f_houses f_hums f_told f_many f_ruleFrom f_ruleTo f_code f_eWhat f_eSign f_all f_kept f_was f_sTune f_boxAll J L) s.heap.size = A at hD ⊢
  have hA : ∀ q : Nat, s.heap.size ≤ q → A q := fun q h => by rw [← hAe]; exact Or.inr h
  have hS : va_S A s.heap s.heap [] := va_S.rf
  have hP : va_P (dC, dI) vwCl (WM r ct i_taped i_size i_faultKind i_at i_end i_token i_number i_bank i_rb i_codes i_within i_piled i_unitsInRule i_askHouse i_askTune i_acts i_undone i_laid i_knowns i_time f_text f_tunes f_houses f_hums f_told f_many f_ruleFrom f_ruleTo f_code f_eWhat f_eSign f_all f_kept f_was f_sTune f_boxAll J L) s.heap := hP
  have hl := lv_entry ([.ref (r 0)]) (n := 1) (Nat.le_of_ble_eq_true rfl)
  rw [lg_entry_eq]
  generalize (lg_sl ([.ref (r 0)]) ++ List.replicate (1 - (lg_sl ([.ref (r 0)])).length) Slot.unset).toArray = ls at hl ⊢
  have hl : lv_has ls 1 [(0, .ref (r 0))] := hl
  refine nameQ (fun Q hQ => ?_)
  obtain ⟨ie0, ie1, ie2, ie3, ie4, ie5, ie6, ie7, ie8, ie9, ie10, ie11, ie12, ie13, ie14, ie15, ie16, ie17, ie18, ie19, ie20, ie21, ie22, ie23, ie24, ie25, ie26, ie27, ie28, ie29, ie30, ie31, ie32⟩ := id hI
  have f1 : 0 ≤ (f_tunes (i_bank.toInt).toNat).toInt ∧ (f_tunes (i_bank.toInt).toNat).toInt ≤ 5 := ie21 (i_bank.toInt)
  have f2 : 0 ≤ (f_houses (i_bank.toInt).toNat).toInt ∧ (f_houses (i_bank.toInt).toNat).toInt ≤ 4 := ie22 (i_bank.toInt)
  refine lv_aload_n hx hb dX9_readRule_0 rfl (lv_at hl 0 rfl) ?_
  refine gM_X9_39_0 hx hb hG hown hK hP dX9_readRule_1 ?_
  refine lv_aload_n hx hb dX9_readRule_4 rfl (lv_at hl 0 rfl) ?_
  refine gM_X9_240_0 hx hb hG hown hK hP dX9_readRule_5 ?_
  refine lv_dup2_11 hx hb dX9_readRule_8 rfl rfl ?_
  refine ldM_9 (mm := i_rb.toInt) hx hb hK hP rfl (ob_350 ie6) (ob_351 ie7) dX9_readRule_9 ?_
  have f3 : 0 ≤ (f_told (i_rb.toInt).toNat).toInt ∧ (f_told (i_rb.toInt).toNat).toInt ≤ 15 := ie25 (i_rb.toInt)
  refine lv_iconst (v := 2) hx hb dX9_readRule_10 (by decide) ?_
  refine lv_ior hx hb dX9_readRule_11 ?_
  refine lv_topi (fun x4 ex4 => ?_)
  have o5 := or2 ex4 (ob_302 f3) (ob_303 f3)
  refine stM_9 (mm := i_rb.toInt) hx hb hK hP hD hS rfl (ob_350 ie6) (ob_351 ie7) dX9_readRule_12 (fun z7 H6 locs ez7 hP hD hS => ?_)
  have g8 : EB 0 15 z7 := ez7 ▸ EB_upd ie25 (ob_302 o5.1) (ob_303 o5.1)
  refine lv_aload_n hx hb dX9_readRule_13 rfl (lv_at hl 0 rfl) ?_
  refine lv_iconst (v := 0) hx hb dX9_readRule_14 (by decide) ?_
  refine pM_X9_290_0 hx hb hG hown hK hP hD hS dX9_readRule_15 (fun H9 locs hP hD hS => ?_)
  refine lv_aload_n hx hb dX9_readRule_18 rfl (lv_at hl 0 rfl) ?_
  refine gM_X9_60_0 hx hb hG hown hK hP dX9_readRule_19 ?_
  refine lv_aload_n hx hb dX9_readRule_22 rfl (lv_at hl 0 rfl) ?_
  refine gM_X9_240_0 hx hb hG hown hK hP dX9_readRule_23 ?_
  refine lv_aload_n hx hb dX9_readRule_26 rfl (lv_at hl 0 rfl) ?_
  refine gM_X9_243_0 hx hb hG hown hK hP dX9_readRule_27 ?_
  refine stM_16 (mm := i_rb.toInt) hx hb hK hP hD hS rfl (ob_350 ie6) (ob_351 ie7) dX9_readRule_30 (fun z11 H10 locs ez11 hP hD hS => ?_)
  refine lv_aload_n hx hb dX9_readRule_31 rfl (lv_at hl 0 rfl) ?_
  have hFc := frA hD hS hA
  refine va_callv (va_runV (As := []) (rest := []) ⟨hx, hb, hml, hown, hG⟩ (kX9_e l dC dI r ct i_taped i_size i_faultKind i_at i_end i_token i_number i_bank i_rb i_codes i_within i_piled 0 i_askHouse i_askTune i_acts i_undone i_laid i_knowns i_time f_text f_tunes f_houses f_hums z7 f_many z11 f_ruleTo f_code f_eWhat f_eSign f_all f_kept f_was f_sTune f_boxAll J L H10.size ⟨ie0, ie1, ie2, ie3, ie4, ie5, ie6, ie7, ie8, ie9, ie10, ie11, ie12, ie13, ie14, ie15, ie16, ie17, ie18, ie19, ie20, ie21, ie22, ie23, ie24, g8, ie26, ie27, ie28, ie29, ie30, ie31, (RU_told (RU_from ie32 ez11 (ob_350 ie6) (ob_249 ie4 ie5 hp0) (ob_250 hp0)) ez7 (ob_350 ie6) (ob_249 ie4 ie5 hp0) (ob_250 hp0))⟩ (ob_377 hp0) (ob_248 hp1) (ob_25 zc_0) (ob_229 ie17 hp2)) (cwV 0 hG (goodV gw1464 gw1466 gw76 gw138 gw1467) rfl rfl rfl hd_X9_e ⟨(Nat.le_of_ble_eq_true rfl), (Nat.le_of_ble_eq_true rfl)⟩) ⟨fbW, va_recv hK hP (ci := 8) (q0 := 0) rfl rfl, pW_in hP hK hD⟩ rfl rfl hl.1 rfl (lv_room (Nat.le_of_ble_eq_true rfl)) dX9_readRule_32 ⟨(Nat.le_of_ble_eq_true rfl), (Nat.le_of_ble_eq_true rfl)⟩) hS (fun q _ h => hFc q h) hFc (fun _ t_ H12 locs ht hvm hw hB hz1 hk1 hS => ?_)
  obtain ⟨x14, x15, x16, x17, x18, x19, x20, x21, x22, z23, z24, z25, J26, L27, hP1, hD1, hI30, f28, f29⟩ := hB
  rw [ht] at hP1
  have hP := hP1
  have hD := dW hFc hD1
  obtain ⟨im31, im32, im33, im34, im35, im36, im37, im38, im39, im40, im41, im42, im43, im44, im45, im46, im47, im48, im49, im50, im51, im52, im53, im54, im55, im56, im57, im58, im59, im60, im61, im62, im63⟩ := id hI30
  refine lv_aload_n hx hb dX9_readRule_35 rfl (lv_at hl 0 rfl) ?_
  refine gM_X9_63_0 hx hb hG hown hK hP dX9_readRule_36 ?_
  refine lv_aload_n hx hb dX9_readRule_39 rfl (lv_at hl 0 rfl) ?_
  refine gM_X9_240_0 hx hb hG hown hK hP dX9_readRule_40 ?_
  refine lv_aload_n hx hb dX9_readRule_43 rfl (lv_at hl 0 rfl) ?_
  refine gM_X9_243_0 hx hb hG hown hK hP dX9_readRule_44 ?_
  refine stM_17 (mm := i_rb.toInt) hx hb hK hP hD hS rfl (ob_350 ie6) (ob_351 ie7) dX9_readRule_47 (fun z65 H64 locs ez65 hP hD hS => ?_)
  rw [hQ]
  exact W.vret hx hb hr (fun t ht hW => ⟨⟨(), rfl, trivial, ⟨x14, x15, x16, x17, x18, x19, x20, x21, x22, z7, z11, z65, z23, z24, z25, J26, L27, by rw [ht]; exact hP, hD, ⟨ie0, ie1, ie2, ie3, ie4, ie5, ie6, ie7, ie8, ie9, ie10, ie11, ie12, ie13, im45, im46, im47, im48, ie18, ie19, ie20, ie21, ie22, ie23, ie24, g8, ie26, ie27, ie28, ie29, ie30, ie31, (RU_to im63 ez65 (ob_350 ie6) (ob_249 ie4 ie5 hp0) (ob_250 hp0))⟩, (ob_145 f28), (fun h => RU_new2 ez11 ez65 (ob_248 hp1) (f29 h)), (BT_here ez7 o5.2)⟩⟩, hS.F ht⟩) hS.2.2 dX9_readRule_48
set_option maxHeartbeats 4000000 in
set_option maxRecDepth 100000 in
theorem kX9_here (l : Launch) (dC : Nat → ClassId) (dI : Nat → Nat → Nat) (r : Nat → Nat) (ct : Nat → ClassId) (i_taped i_size i_faultKind i_at i_end i_token i_number i_bank i_rb i_codes i_within i_piled i_unitsInRule i_askHouse i_askTune i_acts i_undone i_laid i_knowns i_time : Int32) (f_text f_tunes f_houses f_hums f_told f_many f_ruleFrom f_ruleTo f_code f_eWhat f_eSign f_all f_kept f_was f_sTune f_boxAll : Nat → Int32) (J : Nat → Nat → Int32) (L : Nat → Nat → Int64) (p1 p2 : Int32) (sz : Nat) (hI : (IM i_taped i_size i_faultKind i_at i_end i_bank i_rb i_acts i_undone i_laid i_knowns i_time f_tunes f_houses f_hums f_told f_many f_ruleFrom f_ruleTo f_code f_all f_kept f_was f_sTune f_boxAll)) (hp0 : (0 : Int) ≤ p1.toInt) (hp1 : p1.toInt + p2.toInt ≤ (8 : Int)) : Met l yX9_here (.code yX9_here cX9_here 5 (some .int) :: GW) { frames := 2, cells := 0, slots := 0, locals := 100 } (va_Pc [.ref (r 0), .ref (r 19), .int p1, .int p2] (pR (dC, dI) (WM r ct i_taped i_size i_faultKind i_at i_end i_token i_number i_bank i_rb i_codes i_within i_piled i_unitsInRule i_askHouse i_askTune i_acts i_undone i_laid i_knowns i_time f_text f_tunes f_houses f_hums f_told f_many f_ruleFrom f_ruleTo f_code f_eWhat f_eSign f_all f_kept f_was f_sTune f_boxAll J L) (TM ct) sz)) (va_Qi (fun (r0 : Int32) (u : Int32) => r0 = u) (fun (u : Int32) (t : State) => True) (fun q => sz ≤ q)) 0 0 (fun q => sz ≤ q) := by
  refine Met.ofW (cc := cX9_here) (maxL := 5) (ret := (some .int)) (by decide) rfl ?_
  intro p e s m args below meth c0 s₁ B hml hv
  obtain ⟨rfl, hsz, hP, hK⟩ := hv
  have hx := B.exec
  have hb := B.bytes
  have hr := B.returns
  have hts := atoms_spec (ws := .code yX9_here cX9_here 5 (some .int) :: GW) B.pre
  have hG : ∀ w ∈ GW, w.before _ s = true := fun w h => hts w (List.mem_cons_of_mem _ h)
  have hown : s.vm.findClass RX9 = some m.cls := findClass_of_methodNamed B.named
  subst hsz
  have hS : va_S (fun q => s.heap.size ≤ q) s.heap s.heap [] := va_S.rf
  have hP : va_P (dC, dI) vwCl (WM r ct i_taped i_size i_faultKind i_at i_end i_token i_number i_bank i_rb i_codes i_within i_piled i_unitsInRule i_askHouse i_askTune i_acts i_undone i_laid i_knowns i_time f_text f_tunes f_houses f_hums f_told f_many f_ruleFrom f_ruleTo f_code f_eWhat f_eSign f_all f_kept f_was f_sTune f_boxAll J L) s.heap := hP
  have hl := lv_entry ([.ref (r 0), .ref (r 19), .int p1, .int p2]) (n := 5) (Nat.le_of_ble_eq_true rfl)
  rw [lg_entry_eq]
  generalize (lg_sl ([.ref (r 0), .ref (r 19), .int p1, .int p2]) ++ List.replicate (5 - (lg_sl ([.ref (r 0), .ref (r 19), .int p1, .int p2])).length) Slot.unset).toArray = ls at hl ⊢
  have hl : lv_has ls 5 [(0, .ref (r 0)), (1, .ref (r 19)), (2, .int p1), (3, .int p2)] := hl
  refine nameQ (fun Q hQ => ?_)
  obtain ⟨ie0, ie1, ie2, ie3, ie4, ie5, ie6, ie7, ie8, ie9, ie10, ie11, ie12, ie13, ie14, ie15, ie16, ie17, ie18, ie19, ie20, ie21, ie22, ie23, ie24, ie25, ie26, ie27, ie28, ie29, ie30, ie31, ie32⟩ := id hI
  have f1 : 0 ≤ (f_tunes (i_bank.toInt).toNat).toInt ∧ (f_tunes (i_bank.toInt).toNat).toInt ≤ 5 := ie21 (i_bank.toInt)
  have f2 : 0 ≤ (f_houses (i_bank.toInt).toNat).toInt ∧ (f_houses (i_bank.toInt).toNat).toInt ≤ 4 := ie22 (i_bank.toInt)
  refine lv_iconst (v := 0) hx hb dX9_here_0 (by decide) ?_
  refine lv_istore (lv' := [(4, .int 0), (0, .ref (r 0)), (1, .ref (r 19)), (2, .int p1), (3, .int p2)]) hx hb dX9_here_1 hl (by decide) rfl (fun ls hl => ?_)
  have L3 : ∀ (N3 : Nat) (y3_4 : Int32) (H3 : Heap) (locs : List Loc) (ls : Array Slot) (g3_0 : (0 : Int) ≤ y3_4.toInt) (g3_1 : y3_4.toInt ≤ (8 : Int)) (hP : va_P (dC, dI) vwCl (WM r ct i_taped i_size i_faultKind i_at i_end i_token i_number i_bank i_rb i_codes i_within i_piled i_unitsInRule i_askHouse i_askTune i_acts i_undone i_laid i_knowns i_time f_text f_tunes f_houses f_hums f_told f_many f_ruleFrom f_ruleTo f_code f_eWhat f_eSign f_all f_kept f_was f_sTune f_boxAll J L) H3) (hS : va_S (fun q => s.heap.size ≤ q) s.heap H3 locs) (hl : lv_has ls 5 [(0, .ref (r 0)), (1, .ref (r 19)), (2, .int p1), (3, .int p2), (4, .int y3_4)]) (hM : -1 * y3_4.toInt + 8 < (N3 : Int)), W p l e { frames := 2, cells := 0, slots := 0, locals := 100 } s m ([.ref (r 0), .ref (r 19), .int p1, .int p2] : List Value).toArray below meth c0 H3 locs 0 0 Q (F0 m 3 ls []) := by
    intro N3
    induction N3 with
    | zero =>
      intro y3_4 H3 locs ls g3_0 g3_1 hP hS hl hM
      exact ((ob_641 hM g3_0 g3_1)).elim
    | succ N3 ih3 =>
      intro y3_4 H3 locs ls g3_0 g3_1 hP hS hl hM
      have hM3 := msucc hM
      refine lv_iload hx hb dX9_here_3 (lv_at hl 4 rfl) ?_
      refine lv_iload_n hx hb dX9_here_5 rfl (lv_at hl 3 rfl) ?_
      refine lv_icmp_ge (tgt := 40) hx hb dX9_here_6 (by decide) (fun c_3 => ?_) (fun c_3 => ?_)
      · skip
        have f4 : p2.toInt ≤ y3_4.toInt := qi_le c_3 rfl rfl
        refine lv_iconst (v := (-1)) hx hb dX9_here_40 (by decide) ?_
        rw [hQ]
        exact W.iret (v := (-1)) hx hb hr (fun t ht hW => ⟨⟨(-1), (-1), rfl, rfl, trivial⟩, hS.F ht⟩) hS.2.2 dX9_here_41
      · skip
        have f5 : y3_4.toInt < p2.toInt := qi_nle c_3 rfl rfl
        refine lv_aload_n hx hb dX9_here_9 rfl (lv_at hl 0 rfl) ?_
        refine gM_X9_191_0 hx hb hG hown hK hP dX9_here_10 ?_
        refine lv_iconst (v := 2) hx hb dX9_here_13 (by decide) ?_
        refine lv_icmp_ne (tgt := 34) hx hb dX9_here_14 (by decide) (fun c_6 => ?_) (fun c_6 => ?_)
        · skip
          have f7 : i_token.toInt ≠ 2 := qi_ne c_6 rfl zc_2
          obtain ⟨x8, ex8⟩ : ∃ y : Int32, y = y3_4 + Int32.ofInt 1 := ⟨_, rfl⟩
          have f9 : x8.toInt = y3_4.toInt + 1 := (ob_142 (qi_add ex8 rfl (by decide) (ob_140 g3_0) (ob_642 g3_1)))
          refine lv_iinc (v := x8) (lv' := [(4, .int x8), (0, .ref (r 0)), (1, .ref (r 19)), (2, .int p1), (3, .int p2)]) hx hb dX9_here_34 hl (k := 4) rfl ex8.symm (by decide) rfl (fun ls hl => ?_)
          refine lv_goto (tgt := 3) hx hb dX9_here_37 (by decide) ?_
          exact ih3 x8 H3 _ _ (ob_149 g3_0 f9) (ob_643 hp0 hp1 f5 f9) hP hS (lv_sub hl [1, 2, 3, 4, 0] rfl) (ob_644 hM3 f9)
        · skip
          have f10 : i_token.toInt = 2 := qi_eq c_6 rfl zc_2
          refine lv_aload_n hx hb dX9_here_17 rfl (lv_at hl 1 rfl) ?_
          refine lv_iload_n hx hb dX9_here_18 rfl (lv_at hl 2 rfl) ?_
          refine lv_iload hx hb dX9_here_19 (lv_at hl 4 rfl) ?_
          refine lv_iadd hx hb dX9_here_21 ?_
          refine lv_topi (fun x11 ex11 => ?_)
          have f12 : x11.toInt = p1.toInt + y3_4.toInt := (ob_647 (qi_add ex11 rfl rfl (ob_645 hp0 g3_0) (ob_646 hp1 f5)))
          refine ldM_19 (mm := p1.toInt + y3_4.toInt) hx hb hK hP f12 (ob_648 hp0 g3_0) (ob_649 hp1 f5) dX9_here_22 (fun y13 => ?_)
          refine lv_aload_n hx hb dX9_here_23 rfl (lv_at hl 0 rfl) ?_
          refine gM_X9_198_0 hx hb hG hown hK hP dX9_here_24 ?_
          refine W.lcmp hx hb dX9_here_27 ?_
          refine lv_topi (fun x14 ex14 => ?_)
          have f15 : (x14.toInt = 0 ∧ y13.toInt = (L 0 0).toInt) ∨ (x14.toInt ≠ 0 ∧ y13.toInt ≠ (L 0 0).toInt) := lcmp_or ex14
          refine lv_if_ne (tgt := 34) hx hb dX9_here_28 (by decide) (fun c_16 => ?_) (fun c_16 => ?_)
          · skip
            have f17 : x14.toInt ≠ 0 := qi_ne c_16 rfl zc_0
            have f18 : x14.toInt ≠ (0 : Int) := (ob_211 f15 f17)
            have f19 : y13.toInt ≠ (L 0 0).toInt := (ob_212 f15 f17 f18)
            obtain ⟨x20, ex20⟩ : ∃ y : Int32, y = y3_4 + Int32.ofInt 1 := ⟨_, rfl⟩
            have f21 : x20.toInt = y3_4.toInt + 1 := (ob_142 (qi_add ex20 rfl (by decide) (ob_140 g3_0) (ob_642 g3_1)))
            refine lv_iinc (v := x20) (lv' := [(4, .int x20), (0, .ref (r 0)), (1, .ref (r 19)), (2, .int p1), (3, .int p2)]) hx hb dX9_here_34 hl (k := 4) rfl ex20.symm (by decide) rfl (fun ls hl => ?_)
            refine lv_goto (tgt := 3) hx hb dX9_here_37 (by decide) ?_
            exact ih3 x20 H3 _ _ (ob_149 g3_0 f21) (ob_643 hp0 hp1 f5 f21) hP hS (lv_sub hl [1, 2, 3, 4, 0] rfl) (ob_644 hM3 f21)
          · skip
            have f22 : x14.toInt = 0 := qi_eq c_16 rfl zc_0
            have f23 : x14.toInt = (0 : Int) := (ob_25 f22)
            have f24 : y13.toInt = (L 0 0).toInt := (ob_214 f15 f22 f23)
            refine lv_iload hx hb dX9_here_31 (lv_at hl 4 rfl) ?_
            rw [hQ]
            exact W.iret (v := y3_4) hx hb hr (fun t ht hW => ⟨⟨y3_4, y3_4, rfl, rfl, trivial⟩, hS.F ht⟩) hS.2.2 dX9_here_33
  exact L3 (-1 * (0 : Int32).toInt + 8 + 1).toNat 0 s.heap _ _ (ob_1 zc_0) (ob_650 zc_0) hP hS (lv_sub hl [1, 2, 3, 4, 0] rfl) (mlt (ob_651 zc_0))
set_option maxHeartbeats 4000000 in
set_option maxRecDepth 100000 in
theorem kX9_fresh (l : Launch) (dC : Nat → ClassId) (dI : Nat → Nat → Nat) (r : Nat → Nat) (ct : Nat → ClassId) (i_taped i_size i_faultKind i_at i_end i_token i_number i_bank i_rb i_codes i_within i_piled i_unitsInRule i_askHouse i_askTune i_acts i_undone i_laid i_knowns i_time : Int32) (f_text f_tunes f_houses f_hums f_told f_many f_ruleFrom f_ruleTo f_code f_eWhat f_eSign f_all f_kept f_was f_sTune f_boxAll : Nat → Int32) (J : Nat → Nat → Int32) (L : Nat → Nat → Int64) (p0 : Int32) (sz : Nat) (hI : (IM i_taped i_size i_faultKind i_at i_end i_bank i_rb i_acts i_undone i_laid i_knowns i_time f_tunes f_houses f_hums f_told f_many f_ruleFrom f_ruleTo f_code f_all f_kept f_was f_sTune f_boxAll)) : Met l yX9_fresh (.code yX9_fresh cX9_fresh 4 (some .long) :: GW) { frames := 6, cells := 0, slots := 0, locals := 224 } (va_Pc [.ref (r 0), .int p0] (pW (dC, dI) (WM r ct i_taped i_size i_faultKind i_at i_end i_token i_number i_bank i_rb i_codes i_within i_piled i_unitsInRule i_askHouse i_askTune i_acts i_undone i_laid i_knowns i_time f_text f_tunes f_houses f_hums f_told f_many f_ruleFrom f_ruleTo f_code f_eWhat f_eSign f_all f_kept f_was f_sTune f_boxAll J L) (TM ct) sz)) (va_Ql (fun (_ : Int64) (_ : Unit) => True) (fun (_ : Unit) (t : State) => ∃ (n_i_faultKind n_i_at n_i_end n_i_token n_i_number : Int32) (n_J : Nat → Nat → Int32) (n_L : Nat → Nat → Int64), va_P (dC, dI) vwCl (WM r ct i_taped i_size n_i_faultKind n_i_at n_i_end n_i_token n_i_number i_bank i_rb i_codes i_within i_piled i_unitsInRule i_askHouse i_askTune i_acts i_undone i_laid i_knowns i_time f_text f_tunes f_houses f_hums f_told f_many f_ruleFrom f_ruleTo f_code f_eWhat f_eSign f_all f_kept f_was f_sTune f_boxAll n_J n_L) t.heap ∧ va_D (va_A (WM r ct i_taped i_size i_faultKind i_at i_end i_token i_number i_bank i_rb i_codes i_within i_piled i_unitsInRule i_askHouse i_askTune i_acts i_undone i_laid i_knowns i_time f_text f_tunes f_houses f_hums f_told f_many f_ruleFrom f_ruleTo f_code f_eWhat f_eSign f_all f_kept f_was f_sTune f_boxAll J L) sz) (WM r ct i_taped i_size n_i_faultKind n_i_at n_i_end n_i_token n_i_number i_bank i_rb i_codes i_within i_piled i_unitsInRule i_askHouse i_askTune i_acts i_undone i_laid i_knowns i_time f_text f_tunes f_houses f_hums f_told f_many f_ruleFrom f_ruleTo f_code f_eWhat f_eSign f_all f_kept f_was f_sTune f_boxAll n_J n_L) ∧ (IM i_taped i_size n_i_faultKind n_i_at n_i_end i_bank i_rb i_acts i_undone i_laid i_knowns i_time f_tunes f_houses f_hums f_told f_many f_ruleFrom f_ruleTo f_code f_all f_kept f_was f_sTune f_boxAll) ∧ (i_end.toInt ≤ n_i_end.toInt) ∧ (((1 : Int) ≤ n_i_faultKind.toInt) ∨ ((n_i_faultKind.toInt = (0 : Int)) ∧ (i_faultKind.toInt = (0 : Int)) ∧ ((n_i_token.toInt = (0 : Int)) ∨ (i_end.toInt + 1 ≤ n_i_end.toInt))))) (va_A (WM r ct i_taped i_size i_faultKind i_at i_end i_token i_number i_bank i_rb i_codes i_within i_piled i_unitsInRule i_askHouse i_askTune i_acts i_undone i_laid i_knowns i_time f_text f_tunes f_houses f_hums f_told f_many f_ruleFrom f_ruleTo f_code f_eWhat f_eSign f_all f_kept f_was f_sTune f_boxAll J L) sz)) 0 0 (va_A (WM r ct i_taped i_size i_faultKind i_at i_end i_token i_number i_bank i_rb i_codes i_within i_piled i_unitsInRule i_askHouse i_askTune i_acts i_undone i_laid i_knowns i_time f_text f_tunes f_houses f_hums f_told f_many f_ruleFrom f_ruleTo f_code f_eWhat f_eSign f_all f_kept f_was f_sTune f_boxAll J L) sz) := by
  refine Met.ofW (cc := cX9_fresh) (maxL := 4) (ret := (some .long)) (by decide) rfl ?_
  intro p e s m args below meth c0 s₁ B hml hv
  obtain ⟨rfl, hsz, hP, hK, hD0⟩ := hv
  have hx := B.exec
  have hb := B.bytes
  have hr := B.returns
  have hts := atoms_spec (ws := .code yX9_fresh cX9_fresh 4 (some .long) :: GW) B.pre
  have hG : ∀ w ∈ GW, w.before _ s = true := fun w h => hts w (List.mem_cons_of_mem _ h)
  have hown : s.vm.findClass RX9 = some m.cls := findClass_of_methodNamed B.named
  subst hsz
  have hD := hD0.self (sz := s.heap.size)
  generalize hAe : va_A (WM r ct i_taped i_size i_faultKind i_at i_end i_token i_number i_bank i_rb i_codes i_within i_piled i_unitsInRule i_askHouse i_askTune i_acts i_undone i_laid i_knowns i_time f_text f_tunes f_houses f_hums f_told f_many f_ruleFrom f_ruleTo f_code f_eWhat f_eSign f_all f_kept f_was f_sTune f_boxAll J L) s.heap.size = A at hD ⊢
  have hA : ∀ q : Nat, s.heap.size ≤ q → A q := fun q h => by rw [← hAe]; exact Or.inr h
  have hS : va_S A s.heap s.heap [] := va_S.rf
  have hP : va_P (dC, dI) vwCl (WM r ct i_taped i_size i_faultKind i_at i_end i_token i_number i_bank i_rb i_codes i_within i_piled i_unitsInRule i_askHouse i_askTune i_acts i_undone i_laid i_knowns i_time f_text f_tunes f_houses f_hums f_told f_many f_ruleFrom f_ruleTo f_code f_eWhat f_eSign f_all f_kept f_was f_sTune f_boxAll J L) s.heap := hP
  have hl := lv_entry ([.ref (r 0), .int p0]) (n := 4) (Nat.le_of_ble_eq_true rfl)
  rw [lg_entry_eq]
  generalize (lg_sl ([.ref (r 0), .int p0]) ++ List.replicate (4 - (lg_sl ([.ref (r 0), .int p0])).length) Slot.unset).toArray = ls at hl ⊢
  have hl : lv_has ls 4 [(0, .ref (r 0)), (1, .int p0)] := hl
  refine nameQ (fun Q hQ => ?_)
  obtain ⟨ie0, ie1, ie2, ie3, ie4, ie5, ie6, ie7, ie8, ie9, ie10, ie11, ie12, ie13, ie14, ie15, ie16, ie17, ie18, ie19, ie20, ie21, ie22, ie23, ie24, ie25, ie26, ie27, ie28, ie29, ie30, ie31, ie32⟩ := id hI
  have f1 : 0 ≤ (f_tunes (i_bank.toInt).toNat).toInt ∧ (f_tunes (i_bank.toInt).toNat).toInt ≤ 5 := ie21 (i_bank.toInt)
  have f2 : 0 ≤ (f_houses (i_bank.toInt).toNat).toInt ∧ (f_houses (i_bank.toInt).toNat).toInt ≤ 4 := ie22 (i_bank.toInt)
  refine lv_aload_n hx hb dX9_fresh_0 rfl (lv_at hl 0 rfl) ?_
  refine va_calli (va_runV (As := []) (rest := []) ⟨hx, hb, hml, hown, hG⟩ (kX9_isGood l dC dI r ct i_taped i_size i_faultKind i_at i_end i_token i_number i_bank i_rb i_codes i_within i_piled i_unitsInRule i_askHouse i_askTune i_acts i_undone i_laid i_knowns i_time f_text f_tunes f_houses f_hums f_told f_many f_ruleFrom f_ruleTo f_code f_eWhat f_eSign f_all f_kept f_was f_sTune f_boxAll J L s.heap.size hI) (cwV 0 hG (goodV gw1401 gw1403 gw61 gw138 gw1404) rfl rfl rfl hd_X9_isGood ⟨(Nat.le_of_ble_eq_true rfl), (Nat.le_of_ble_eq_true rfl)⟩) ⟨fbR, va_recv hK hP (ci := 8) (q0 := 0) rfl rfl, pR_in hP hK⟩ rfl rfl hl.1 rfl (lv_room (Nat.le_of_ble_eq_true rfl)) dX9_fresh_1 ⟨(Nat.le_of_ble_eq_true rfl), (Nat.le_of_ble_eq_true rfl)⟩) hS (fun q hq h => absurd hq (Nat.not_lt.mpr h)) (fun q h => hA q (Nat.le_trans hS.1 h)) (fun r_4 u_ t_ H3 locs ht hvm hw hB hz1 hk1 hS => ?_)
  subst hw
  have hP := wk hP hk1
  obtain ⟨f5, f6, f7⟩ := hB
  refine lv_if_ne (tgt := 9) hx hb dX9_fresh_4 (by decide) (fun c_8 => ?_) (fun c_8 => ?_)
  · skip
    have f9 : r_4.toInt ≠ 0 := qi_ne c_8 rfl zc_0
    have f10 : i_faultKind.toInt = (0 : Int) := (ob_219 f5 f9)
    have f11 : r_4.toInt = (1 : Int) := (ob_220 f5 f9)
    have f12 : (1 : Int) ≤ r_4.toInt := (ob_162 f6 f7 f11)
    refine lv_aload_n hx hb dX9_fresh_9 rfl (lv_at hl 0 rfl) ?_
    refine gM_X9_191_0 hx hb hG hown hK hP dX9_fresh_10 ?_
    refine lv_iconst (v := 2) hx hb dX9_fresh_13 (by decide) ?_
    refine lv_icmp_eq (tgt := 24) hx hb dX9_fresh_14 (by decide) (fun c_13 => ?_) (fun c_13 => ?_)
    · skip
      have f14 : i_token.toInt = 2 := qi_eq c_13 rfl zc_2
      refine lv_iload_n hx hb dX9_fresh_24 rfl (lv_at hl 1 rfl) ?_
      refine lv_if_lt (tgt := 37) hx hb dX9_fresh_25 (by decide) (fun c_15 => ?_) (fun c_15 => ?_)
      · skip
        have f16 : p0.toInt < 0 := qi_lt c_15 rfl zc_0
        refine lv_aload_n hx hb dX9_fresh_37 rfl (lv_at hl 0 rfl) ?_
        refine gM_X9_198_0 hx hb hG hown hK hP dX9_fresh_38 ?_
        refine lv_lstore_n (lv' := [(2, .long (L 0 0)), (0, .ref (r 0)), (1, .int p0)]) hx hb dX9_fresh_41 rfl hl (by decide) rfl (fun ls hl => ?_)
        refine lv_aload_n hx hb dX9_fresh_42 rfl (lv_at hl 1 rfl) ?_
        refine va_calli (va_runV (As := []) (rest := []) ⟨hx, hb, hml, hown, hG⟩ (kX9_isGood l dC dI r ct i_taped i_size i_faultKind i_at i_end i_token i_number i_bank i_rb i_codes i_within i_piled i_unitsInRule i_askHouse i_askTune i_acts i_undone i_laid i_knowns i_time f_text f_tunes f_houses f_hums f_told f_many f_ruleFrom f_ruleTo f_code f_eWhat f_eSign f_all f_kept f_was f_sTune f_boxAll J L H3.size hI) (cwV 0 hG (goodV gw1401 gw1403 gw61 gw138 gw1404) rfl rfl rfl hd_X9_isGood ⟨(Nat.le_of_ble_eq_true rfl), (Nat.le_of_ble_eq_true rfl)⟩) ⟨fbR, va_recv hK hP (ci := 8) (q0 := 0) rfl rfl, pR_in hP hK⟩ rfl rfl hl.1 rfl (lv_room (Nat.le_of_ble_eq_true rfl)) dX9_fresh_43 ⟨(Nat.le_of_ble_eq_true rfl), (Nat.le_of_ble_eq_true rfl)⟩) hS (fun q hq h => absurd hq (Nat.not_lt.mpr h)) (fun q h => hA q (Nat.le_trans hS.1 h)) (fun r_18 u_ t_ H17 locs ht hvm hw hB hz1 hk1 hS => ?_)
        subst hw
        have hP := wk hP hk1
        obtain ⟨f19, f20, f21⟩ := hB
        refine lv_if_eq (tgt := 53) hx hb dX9_fresh_46 (by decide) (fun c_22 => ((ob_228 (qi_eq c_22 rfl zc_0) f10 f19)).elim) (fun c_22 => ?_)
        have f23 : r_18.toInt ≠ 0 := qi_ne c_22 rfl zc_0
        have f24 : i_faultKind.toInt = (0 : Int) := (ob_229 ie17 f10)
        have f25 : r_18.toInt = (1 : Int) := (ob_220 f19 f23)
        have f26 : (1 : Int) ≤ r_18.toInt := (ob_162 f20 f21 f25)
        refine lv_aload_n hx hb dX9_fresh_49 rfl (lv_at hl 1 rfl) ?_
        have hFc := frA hD hS hA
        refine va_callv (va_runV (As := []) (rest := []) ⟨hx, hb, hml, hown, hG⟩ (kX9_goOn l dC dI r ct i_taped i_size i_faultKind i_at i_end i_token i_number i_bank i_rb i_codes i_within i_piled i_unitsInRule i_askHouse i_askTune i_acts i_undone i_laid i_knowns i_time f_text f_tunes f_houses f_hums f_told f_many f_ruleFrom f_ruleTo f_code f_eWhat f_eSign f_all f_kept f_was f_sTune f_boxAll J L H17.size hI) (cwV 0 hG (goodV gw1362 gw1364 gw59 gw138 gw1365) rfl rfl rfl hd_X9_goOn ⟨(Nat.le_of_ble_eq_true rfl), (Nat.le_of_ble_eq_true rfl)⟩) ⟨fbW, va_recv hK hP (ci := 8) (q0 := 0) rfl rfl, pW_in hP hK hD⟩ rfl rfl hl.1 rfl (lv_room (Nat.le_of_ble_eq_true rfl)) dX9_fresh_50 ⟨(Nat.le_of_ble_eq_true rfl), (Nat.le_of_ble_eq_true rfl)⟩) hS (fun q _ h => hFc q h) hFc (fun _ t_ H27 locs ht hvm hw hB hz1 hk1 hS => ?_)
        obtain ⟨x29, x30, x31, x32, L33, hP1, hD1, hI37, f34, f35, f36⟩ := hB
        rw [ht] at hP1
        have hP := hP1
        have hD := dW hFc hD1
        obtain ⟨im38, im39, im40, im41, im42, im43, im44, im45, im46, im47, im48, im49, im50, im51, im52, im53, im54, im55, im56, im57, im58, im59, im60, im61, im62, im63, im64, im65, im66, im67, im68, im69, im70⟩ := id hI37
        refine lv_lload_n hx hb dX9_fresh_53 rfl (lv_at hl 0 rfl) ?_
        rw [hQ]
        exact W.lret (v := (L 0 0)) hx hb hr (fun t ht hW => ⟨⟨(L 0 0), (), rfl, trivial, ⟨i_faultKind, x29, x30, x31, x32, J, L33, by rw [ht]; exact hP, hD, hI37, (ob_145 f34), (ob_238 ie17 f36)⟩⟩, hS.F ht⟩) hS.2.2 dX9_fresh_54
      · skip
        have f71 : 0 ≤ p0.toInt := qi_nlt c_15 rfl zc_0
        refine lv_aload_n hx hb dX9_fresh_28 rfl (lv_at hl 0 rfl) ?_
        refine lv_iconst (v := 3) hx hb dX9_fresh_29 (by decide) ?_
        refine lv_aload_n hx hb dX9_fresh_30 rfl (lv_at hl 0 rfl) ?_
        refine gM_X9_184_0 hx hb hG hown hK hP dX9_fresh_31 ?_
        have hFc := frA hD hS hA
        refine va_callv (va_runV (As := [.int 3, .int i_at]) (rest := []) ⟨hx, hb, hml, hown, hG⟩ (kX9_fails l dC dI r ct i_taped i_size i_faultKind i_at i_end i_token i_number i_bank i_rb i_codes i_within i_piled i_unitsInRule i_askHouse i_askTune i_acts i_undone i_laid i_knowns i_time f_text f_tunes f_houses f_hums f_told f_many f_ruleFrom f_ruleTo f_code f_eWhat f_eSign f_all f_kept f_was f_sTune f_boxAll J L 3 i_at H3.size hI (ob_652 zc_3)) (cwV 2 hG (goodV gw1424 gw1426 gw66 gw138 gw1427) rfl rfl rfl hd_X9_fails ⟨(Nat.le_of_ble_eq_true rfl), (Nat.le_of_ble_eq_true rfl)⟩) ⟨fbW, va_recv hK hP (ci := 8) (q0 := 0) rfl rfl, pW_in hP hK hD⟩ rfl rfl hl.1 rfl (lv_room (Nat.le_of_ble_eq_true rfl)) dX9_fresh_34 ⟨(Nat.le_of_ble_eq_true rfl), (Nat.le_of_ble_eq_true rfl)⟩) hS (fun q _ h => hFc q h) hFc (fun _ t_ H72 locs ht hvm hw hB hz1 hk1 hS => ?_)
        obtain ⟨x74, J75, hP1, hD1, hI77, f76⟩ := hB
        rw [ht] at hP1
        have hP := hP1
        have hD := dW hFc hD1
        obtain ⟨im78, im79, im80, im81, im82, im83, im84, im85, im86, im87, im88, im89, im90, im91, im92, im93, im94, im95, im96, im97, im98, im99, im100, im101, im102, im103, im104, im105, im106, im107, im108, im109, im110⟩ := id hI77
        refine lv_aload_n hx hb dX9_fresh_37 rfl (lv_at hl 0 rfl) ?_
        refine gM_X9_198_0 hx hb hG hown hK hP dX9_fresh_38 ?_
        refine lv_lstore_n (lv' := [(2, .long (L 0 0)), (0, .ref (r 0)), (1, .int p0)]) hx hb dX9_fresh_41 rfl hl (by decide) rfl (fun ls hl => ?_)
        refine lv_aload_n hx hb dX9_fresh_42 rfl (lv_at hl 1 rfl) ?_
        refine va_calli (va_runV (As := []) (rest := []) ⟨hx, hb, hml, hown, hG⟩ (kX9_isGood l dC dI r ct i_taped i_size x74 i_at i_end i_token i_number i_bank i_rb i_codes i_within i_piled i_unitsInRule i_askHouse i_askTune i_acts i_undone i_laid i_knowns i_time f_text f_tunes f_houses f_hums f_told f_many f_ruleFrom f_ruleTo f_code f_eWhat f_eSign f_all f_kept f_was f_sTune f_boxAll J75 L H72.size hI77) (cwV 0 hG (goodV gw1401 gw1403 gw61 gw138 gw1404) rfl rfl rfl hd_X9_isGood ⟨(Nat.le_of_ble_eq_true rfl), (Nat.le_of_ble_eq_true rfl)⟩) ⟨fbR, va_recv hK hP (ci := 8) (q0 := 0) rfl rfl, pR_in hP hK⟩ rfl rfl hl.1 rfl (lv_room (Nat.le_of_ble_eq_true rfl)) dX9_fresh_43 ⟨(Nat.le_of_ble_eq_true rfl), (Nat.le_of_ble_eq_true rfl)⟩) hS (fun q hq h => absurd hq (Nat.not_lt.mpr h)) (fun q h => hA q (Nat.le_trans hS.1 h)) (fun r_112 u_ t_ H111 locs ht hvm hw hB hz1 hk1 hS => ?_)
        subst hw
        have hP := wk hP hk1
        obtain ⟨f113, f114, f115⟩ := hB
        refine lv_if_eq (tgt := 53) hx hb dX9_fresh_46 (by decide) (fun c_116 => ?_) (fun c_116 => ((ob_231 (qi_ne c_116 rfl zc_0) f76 f113)).elim)
        have f117 : r_112.toInt = 0 := qi_eq c_116 rfl zc_0
        have f118 : x74.toInt ≠ (0 : Int) := (ob_232 im95 f76)
        have f119 : (1 : Int) ≤ x74.toInt := (ob_217 im95 f76)
        have f120 : r_112.toInt = (0 : Int) := (ob_226 f114 f115 f117)
        refine lv_lload_n hx hb dX9_fresh_53 rfl (lv_at hl 0 rfl) ?_
        rw [hQ]
        exact W.lret (v := (L 0 0)) hx hb hr (fun t ht hW => ⟨⟨(L 0 0), (), rfl, trivial, ⟨x74, i_at, i_end, i_token, i_number, J75, L, by rw [ht]; exact hP, hD, hI77, (ob_146), (ob_234 f76)⟩⟩, hS.F ht⟩) hS.2.2 dX9_fresh_54
    · skip
      have f121 : i_token.toInt ≠ 2 := qi_ne c_13 rfl zc_2
      refine lv_aload_n hx hb dX9_fresh_17 rfl (lv_at hl 0 rfl) ?_
      have hFc := frA hD hS hA
      refine va_callv (va_runV (As := []) (rest := []) ⟨hx, hb, hml, hown, hG⟩ (kX9_misplaced l dC dI r ct i_taped i_size i_faultKind i_at i_end i_token i_number i_bank i_rb i_codes i_within i_piled i_unitsInRule i_askHouse i_askTune i_acts i_undone i_laid i_knowns i_time f_text f_tunes f_houses f_hums f_told f_many f_ruleFrom f_ruleTo f_code f_eWhat f_eSign f_all f_kept f_was f_sTune f_boxAll J L H3.size hI) (cwV 0 hG (goodV gw1420 gw1422 gw65 gw138 gw1423) rfl rfl rfl hd_X9_misplaced ⟨(Nat.le_of_ble_eq_true rfl), (Nat.le_of_ble_eq_true rfl)⟩) ⟨fbW, va_recv hK hP (ci := 8) (q0 := 0) rfl rfl, pW_in hP hK hD⟩ rfl rfl hl.1 rfl (lv_room (Nat.le_of_ble_eq_true rfl)) dX9_fresh_18 ⟨(Nat.le_of_ble_eq_true rfl), (Nat.le_of_ble_eq_true rfl)⟩) hS (fun q _ h => hFc q h) hFc (fun _ t_ H122 locs ht hvm hw hB hz1 hk1 hS => ?_)
      obtain ⟨x124, J125, hP1, hD1, hI127, f126⟩ := hB
      rw [ht] at hP1
      have hP := hP1
      have hD := dW hFc hD1
      obtain ⟨im128, im129, im130, im131, im132, im133, im134, im135, im136, im137, im138, im139, im140, im141, im142, im143, im144, im145, im146, im147, im148, im149, im150, im151, im152, im153, im154, im155, im156, im157, im158, im159, im160⟩ := id hI127
      refine lv_goto (tgt := 37) hx hb dX9_fresh_21 (by decide) ?_
      refine lv_aload_n hx hb dX9_fresh_37 rfl (lv_at hl 0 rfl) ?_
      refine gM_X9_198_0 hx hb hG hown hK hP dX9_fresh_38 ?_
      refine lv_lstore_n (lv' := [(2, .long (L 0 0)), (0, .ref (r 0)), (1, .int p0)]) hx hb dX9_fresh_41 rfl hl (by decide) rfl (fun ls hl => ?_)
      refine lv_aload_n hx hb dX9_fresh_42 rfl (lv_at hl 1 rfl) ?_
      refine va_calli (va_runV (As := []) (rest := []) ⟨hx, hb, hml, hown, hG⟩ (kX9_isGood l dC dI r ct i_taped i_size x124 i_at i_end i_token i_number i_bank i_rb i_codes i_within i_piled i_unitsInRule i_askHouse i_askTune i_acts i_undone i_laid i_knowns i_time f_text f_tunes f_houses f_hums f_told f_many f_ruleFrom f_ruleTo f_code f_eWhat f_eSign f_all f_kept f_was f_sTune f_boxAll J125 L H122.size hI127) (cwV 0 hG (goodV gw1401 gw1403 gw61 gw138 gw1404) rfl rfl rfl hd_X9_isGood ⟨(Nat.le_of_ble_eq_true rfl), (Nat.le_of_ble_eq_true rfl)⟩) ⟨fbR, va_recv hK hP (ci := 8) (q0 := 0) rfl rfl, pR_in hP hK⟩ rfl rfl hl.1 rfl (lv_room (Nat.le_of_ble_eq_true rfl)) dX9_fresh_43 ⟨(Nat.le_of_ble_eq_true rfl), (Nat.le_of_ble_eq_true rfl)⟩) hS (fun q hq h => absurd hq (Nat.not_lt.mpr h)) (fun q h => hA q (Nat.le_trans hS.1 h)) (fun r_162 u_ t_ H161 locs ht hvm hw hB hz1 hk1 hS => ?_)
      subst hw
      have hP := wk hP hk1
      obtain ⟨f163, f164, f165⟩ := hB
      refine lv_if_eq (tgt := 53) hx hb dX9_fresh_46 (by decide) (fun c_166 => ?_) (fun c_166 => ((ob_231 (qi_ne c_166 rfl zc_0) f126 f163)).elim)
      have f167 : r_162.toInt = 0 := qi_eq c_166 rfl zc_0
      have f168 : x124.toInt ≠ (0 : Int) := (ob_232 im145 f126)
      have f169 : (1 : Int) ≤ x124.toInt := (ob_217 im145 f126)
      have f170 : r_162.toInt = (0 : Int) := (ob_226 f164 f165 f167)
      refine lv_lload_n hx hb dX9_fresh_53 rfl (lv_at hl 0 rfl) ?_
      rw [hQ]
      exact W.lret (v := (L 0 0)) hx hb hr (fun t ht hW => ⟨⟨(L 0 0), (), rfl, trivial, ⟨x124, i_at, i_end, i_token, i_number, J125, L, by rw [ht]; exact hP, hD, hI127, (ob_146), (ob_234 f126)⟩⟩, hS.F ht⟩) hS.2.2 dX9_fresh_54
  · skip
    have f171 : r_4.toInt = 0 := qi_eq c_8 rfl zc_0
    have f172 : i_faultKind.toInt ≠ (0 : Int) := (ob_224 f5 f171)
    have f173 : (1 : Int) ≤ i_faultKind.toInt := (ob_225 ie17 f5 f172)
    have f174 : r_4.toInt = (0 : Int) := (ob_226 f6 f7 f171)
    refine lv_lconst (v := 0) hx hb dX9_fresh_7 (by decide) ?_
    rw [hQ]
    exact W.lret (v := (0 : Int64)) hx hb hr (fun t ht hW => ⟨⟨(0 : Int64), (), rfl, trivial, ⟨i_faultKind, i_at, i_end, i_token, i_number, J, L, by rw [ht]; exact hP, hD, hI, (ob_146), (ob_241 ie17 f173)⟩⟩, hS.F ht⟩) hS.2.2 dX9_fresh_8
set_option maxHeartbeats 4000000 in
set_option maxRecDepth 100000 in
theorem kX9_readHouse (l : Launch) (dC : Nat → ClassId) (dI : Nat → Nat → Nat) (r : Nat → Nat) (ct : Nat → ClassId) (i_taped i_size i_faultKind i_at i_end i_token i_number i_bank i_rb i_codes i_within i_piled i_unitsInRule i_askHouse i_askTune i_acts i_undone i_laid i_knowns i_time : Int32) (f_text f_tunes f_houses f_hums f_told f_many f_ruleFrom f_ruleTo f_code f_eWhat f_eSign f_all f_kept f_was f_sTune f_boxAll : Nat → Int32) (J : Nat → Nat → Int32) (L : Nat → Nat → Int64) (sz : Nat) (hI : (IM i_taped i_size i_faultKind i_at i_end i_bank i_rb i_acts i_undone i_laid i_knowns i_time f_tunes f_houses f_hums f_told f_many f_ruleFrom f_ruleTo f_code f_all f_kept f_was f_sTune f_boxAll)) (hp0 : i_rb.toInt + i_bank.toInt = (1 : Int)) (hp1 : (f_houses (i_rb.toInt).toNat).toInt ≤ (3 : Int)) (hp2 : i_faultKind.toInt = (0 : Int)) : Met l yX9_readHouse (.code yX9_readHouse cX9_readHouse 3 none :: GW) { frames := 10, cells := 0, slots := 0, locals := 351 } (va_Pc [.ref (r 0)] (pW (dC, dI) (WM r ct i_taped i_size i_faultKind i_at i_end i_token i_number i_bank i_rb i_codes i_within i_piled i_unitsInRule i_askHouse i_askTune i_acts i_undone i_laid i_knowns i_time f_text f_tunes f_houses f_hums f_told f_many f_ruleFrom f_ruleTo f_code f_eWhat f_eSign f_all f_kept f_was f_sTune f_boxAll J L) (TM ct) sz)) (va_Qv (fun _ : Unit => True) (fun (_ : Unit) (t : State) => ∃ (n_i_faultKind n_i_at n_i_end n_i_token n_i_number : Int32) (n_f_houses : Nat → Int32) (n_J : Nat → Nat → Int32) (n_L : Nat → Nat → Int64), va_P (dC, dI) vwCl (WM r ct i_taped i_size n_i_faultKind n_i_at n_i_end n_i_token n_i_number i_bank i_rb i_codes i_within i_piled i_unitsInRule i_askHouse i_askTune i_acts i_undone i_laid i_knowns i_time f_text f_tunes n_f_houses f_hums f_told f_many f_ruleFrom f_ruleTo f_code f_eWhat f_eSign f_all f_kept f_was f_sTune f_boxAll n_J n_L) t.heap ∧ va_D (va_A (WM r ct i_taped i_size i_faultKind i_at i_end i_token i_number i_bank i_rb i_codes i_within i_piled i_unitsInRule i_askHouse i_askTune i_acts i_undone i_laid i_knowns i_time f_text f_tunes f_houses f_hums f_told f_many f_ruleFrom f_ruleTo f_code f_eWhat f_eSign f_all f_kept f_was f_sTune f_boxAll J L) sz) (WM r ct i_taped i_size n_i_faultKind n_i_at n_i_end n_i_token n_i_number i_bank i_rb i_codes i_within i_piled i_unitsInRule i_askHouse i_askTune i_acts i_undone i_laid i_knowns i_time f_text f_tunes n_f_houses f_hums f_told f_many f_ruleFrom f_ruleTo f_code f_eWhat f_eSign f_all f_kept f_was f_sTune f_boxAll n_J n_L) ∧ (IM i_taped i_size n_i_faultKind n_i_at n_i_end i_bank i_rb i_acts i_undone i_laid i_knowns i_time f_tunes n_f_houses f_hums f_told f_many f_ruleFrom f_ruleTo f_code f_all f_kept f_was f_sTune f_boxAll) ∧ (i_end.toInt ≤ n_i_end.toInt)) (va_A (WM r ct i_taped i_size i_faultKind i_at i_end i_token i_number i_bank i_rb i_codes i_within i_piled i_unitsInRule i_askHouse i_askTune i_acts i_undone i_laid i_knowns i_time f_text f_tunes f_houses f_hums f_told f_many f_ruleFrom f_ruleTo f_code f_eWhat f_eSign f_all f_kept f_was f_sTune f_boxAll J L) sz)) 0 0 (va_A (WM r ct i_taped i_size i_faultKind i_at i_end i_token i_number i_bank i_rb i_codes i_within i_piled i_unitsInRule i_askHouse i_askTune i_acts i_undone i_laid i_knowns i_time f_text f_tunes f_houses f_hums f_told f_many f_ruleFrom f_ruleTo f_code f_eWhat f_eSign f_all f_kept f_was f_sTune f_boxAll J L) sz) := by
  refine Met.ofW (cc := cX9_readHouse) (maxL := 3) (ret := none) (by decide) rfl ?_
  intro p e s m args below meth c0 s₁ B hml hv
  obtain ⟨rfl, hsz, hP, hK, hD0⟩ := hv
  have hx := B.exec
  have hb := B.bytes
  have hr := B.returns
  have hts := atoms_spec (ws := .code yX9_readHouse cX9_readHouse 3 none :: GW) B.pre
  have hG : ∀ w ∈ GW, w.before _ s = true := fun w h => hts w (List.mem_cons_of_mem _ h)
  have hown : s.vm.findClass RX9 = some m.cls := findClass_of_methodNamed B.named
  subst hsz
  have hD := hD0.self (sz := s.heap.size)
  generalize hAe : va_A (WM r ct i_taped i_size i_faultKind i_at i_end i_token i_number i_bank i_rb i_codes i_within i_piled i_unitsInRule i_askHouse i_askTune i_acts i_undone i_laid i_knowns i_time f_text f_tunes f_houses f_hums f_told f_many f_ruleFrom f_ruleTo f_code f_eWhat f_eSign f_all f_kept f_was f_sTune f_boxAll J L) s.heap.size = A at hD ⊢
  have hA : ∀ q : Nat, s.heap.size ≤ q → A q := fun q h => by rw [← hAe]; exact Or.inr h
  have hS : va_S A s.heap s.heap [] := va_S.rf
  have hP : va_P (dC, dI) vwCl (WM r ct i_taped i_size i_faultKind i_at i_end i_token i_number i_bank i_rb i_codes i_within i_piled i_unitsInRule i_askHouse i_askTune i_acts i_undone i_laid i_knowns i_time f_text f_tunes f_houses f_hums f_told f_many f_ruleFrom f_ruleTo f_code f_eWhat f_eSign f_all f_kept f_was f_sTune f_boxAll J L) s.heap := hP
  have hl := lv_entry ([.ref (r 0)]) (n := 3) (Nat.le_of_ble_eq_true rfl)
  rw [lg_entry_eq]
  generalize (lg_sl ([.ref (r 0)]) ++ List.replicate (3 - (lg_sl ([.ref (r 0)])).length) Slot.unset).toArray = ls at hl ⊢
  have hl : lv_has ls 3 [(0, .ref (r 0))] := hl
  refine nameQ (fun Q hQ => ?_)
  obtain ⟨ie0, ie1, ie2, ie3, ie4, ie5, ie6, ie7, ie8, ie9, ie10, ie11, ie12, ie13, ie14, ie15, ie16, ie17, ie18, ie19, ie20, ie21, ie22, ie23, ie24, ie25, ie26, ie27, ie28, ie29, ie30, ie31, ie32⟩ := id hI
  have f1 : 0 ≤ (f_tunes (i_bank.toInt).toNat).toInt ∧ (f_tunes (i_bank.toInt).toNat).toInt ≤ 5 := ie21 (i_bank.toInt)
  have f2 : 0 ≤ (f_houses (i_bank.toInt).toNat).toInt ∧ (f_houses (i_bank.toInt).toNat).toInt ≤ 4 := ie22 (i_bank.toInt)
  refine lv_iconst (v := 4) hx hb dX9_readHouse_0 (by decide) ?_
  refine lv_aload_n hx hb dX9_readHouse_1 rfl (lv_at hl 0 rfl) ?_
  refine gM_X9_240_0 hx hb hG hown hK hP dX9_readHouse_2 ?_
  refine lv_imul hx hb dX9_readHouse_5 ?_
  refine lv_topi (fun x3 ex3 => ?_)
  have f4 : x3.toInt = 4 * i_rb.toInt := (ob_655 (qi_mul ex3 zc_4 rfl (ob_653 ie6 ie7 hp0) (ob_654 ie6 ie7 hp0)))
  refine lv_aload_n hx hb dX9_readHouse_6 rfl (lv_at hl 0 rfl) ?_
  refine gM_X9_27_0 hx hb hG hown hK hP dX9_readHouse_7 ?_
  refine lv_aload_n hx hb dX9_readHouse_10 rfl (lv_at hl 0 rfl) ?_
  refine gM_X9_240_0 hx hb hG hown hK hP dX9_readHouse_11 ?_
  refine ldM_5 (mm := i_rb.toInt) hx hb hK hP rfl (ob_244 ie6 ie7 hp0) (ob_245 ie6 ie7 hp0) dX9_readHouse_14 ?_
  have f5 : 0 ≤ (f_houses (i_rb.toInt).toNat).toInt ∧ (f_houses (i_rb.toInt).toNat).toInt ≤ 4 := ie22 (i_rb.toInt)
  refine lv_iadd hx hb dX9_readHouse_15 ?_
  refine lv_topi (fun x6 ex6 => ?_)
  have f7 : x6.toInt = (f_houses (i_rb.toInt).toNat).toInt + 4 * i_rb.toInt := (ob_658 (qi_add ex6 rfl rfl (ob_656 ie6 f5 f4) (ob_657 ie7 hp1 f4)) f4)
  refine lv_istore_n (lv' := [(1, .int x6), (0, .ref (r 0))]) hx hb dX9_readHouse_16 rfl hl (by decide) rfl (fun ls hl => ?_)
  refine lv_aload_n hx hb dX9_readHouse_17 rfl (lv_at hl 1 rfl) ?_
  refine gM_X9_70_0 hx hb hG hown hK hP dX9_readHouse_18 ?_
  refine lv_iload_n hx hb dX9_readHouse_21 rfl (lv_at hl 0 rfl) ?_
  refine lv_aload_n hx hb dX9_readHouse_22 rfl (lv_at hl 1 rfl) ?_
  refine lv_aload_n hx hb dX9_readHouse_23 rfl (lv_at hl 1 rfl) ?_
  refine lv_aload_n hx hb dX9_readHouse_24 rfl (lv_at hl 1 rfl) ?_
  refine gM_X9_70_0 hx hb hG hown hK hP dX9_readHouse_25 ?_
  refine lv_iconst (v := 4) hx hb dX9_readHouse_28 (by decide) ?_
  refine lv_aload_n hx hb dX9_readHouse_29 rfl (lv_at hl 1 rfl) ?_
  refine gM_X9_240_0 hx hb hG hown hK hP dX9_readHouse_30 ?_
  refine lv_imul hx hb dX9_readHouse_33 ?_
  refine lv_topi (fun x8 ex8 => ?_)
  have f9 : x8.toInt = 4 * i_rb.toInt := (ob_655 (qi_mul ex8 zc_4 rfl (ob_653 ie6 ie7 hp0) (ob_654 ie6 ie7 hp0)))
  refine lv_aload_n hx hb dX9_readHouse_34 rfl (lv_at hl 1 rfl) ?_
  refine gM_X9_27_0 hx hb hG hown hK hP dX9_readHouse_35 ?_
  refine lv_aload_n hx hb dX9_readHouse_38 rfl (lv_at hl 1 rfl) ?_
  refine gM_X9_240_0 hx hb hG hown hK hP dX9_readHouse_39 ?_
  refine ldM_5 (mm := i_rb.toInt) hx hb hK hP rfl (ob_244 ie6 ie7 hp0) (ob_245 ie6 ie7 hp0) dX9_readHouse_42 ?_
  refine va_calli (va_runV (As := [.ref (r 19), .int x8, .int (f_houses (i_rb.toInt).toNat)]) (rest := [.ref (r 0), .int x6, .ref (r 19)]) ⟨hx, hb, hml, hown, hG⟩ (kX9_here l dC dI r ct i_taped i_size i_faultKind i_at i_end i_token i_number i_bank i_rb i_codes i_within i_piled i_unitsInRule i_askHouse i_askTune i_acts i_undone i_laid i_knowns i_time f_text f_tunes f_houses f_hums f_told f_many f_ruleFrom f_ruleTo f_code f_eWhat f_eSign f_all f_kept f_was f_sTune f_boxAll J L x8 (f_houses (i_rb.toInt).toNat) s.heap.size hI (ob_659 ie6 ie7 hp0 f9) (ob_660 ie7 hp1 f9)) (cwV 3 hG (goodV gw1440 gw1442 gw70 gw138 gw1443) rfl rfl rfl hd_X9_here ⟨(Nat.le_of_ble_eq_true rfl), (Nat.le_of_ble_eq_true rfl)⟩) ⟨fbR, va_recv hK hP (ci := 8) (q0 := 0) rfl rfl, pR_in hP hK⟩ rfl rfl hl.1 rfl (lv_room (Nat.le_of_ble_eq_true rfl)) dX9_readHouse_43 ⟨(Nat.le_of_ble_eq_true rfl), (Nat.le_of_ble_eq_true rfl)⟩) hS (fun q hq h => absurd hq (Nat.not_lt.mpr h)) (fun q h => hA q (Nat.le_trans hS.1 h)) (fun r_11 u_ t_ H10 locs ht hvm hw hB hz1 hk1 hS => ?_)
  subst hw
  have hP := wk hP hk1
  have hFc := frA hD hS hA
  refine va_calll (va_runV (As := [.int r_11]) (rest := [.int x6, .ref (r 19)]) ⟨hx, hb, hml, hown, hG⟩ (kX9_fresh l dC dI r ct i_taped i_size i_faultKind i_at i_end i_token i_number i_bank i_rb i_codes i_within i_piled i_unitsInRule i_askHouse i_askTune i_acts i_undone i_laid i_knowns i_time f_text f_tunes f_houses f_hums f_told f_many f_ruleFrom f_ruleTo f_code f_eWhat f_eSign f_all f_kept f_was f_sTune f_boxAll J L r_11 H10.size hI) (cwV 1 hG (goodV gw1444 gw1446 gw71 gw138 gw1447) rfl rfl rfl hd_X9_fresh ⟨(Nat.le_of_ble_eq_true rfl), (Nat.le_of_ble_eq_true rfl)⟩) ⟨fbW, va_recv hK hP (ci := 8) (q0 := 0) rfl rfl, pW_in hP hK hD⟩ rfl rfl hl.1 rfl (lv_room (Nat.le_of_ble_eq_true rfl)) dX9_readHouse_46 ⟨(Nat.le_of_ble_eq_true rfl), (Nat.le_of_ble_eq_true rfl)⟩) hS (fun q _ h => hFc q h) hFc (fun r_13 u_ t_ H12 locs ht hvm hw hB hz1 hk1 hS => ?_)
  obtain ⟨x14, x15, x16, x17, x18, J19, L20, hP1, hD1, hI23, f21, f22⟩ := hB
  rw [ht] at hP1
  have hP := hP1
  have hD := dW hFc hD1
  obtain ⟨im24, im25, im26, im27, im28, im29, im30, im31, im32, im33, im34, im35, im36, im37, im38, im39, im40, im41, im42, im43, im44, im45, im46, im47, im48, im49, im50, im51, im52, im53, im54, im55, im56⟩ := id hI23
  refine stM_19 (mm := (f_houses (i_rb.toInt).toNat).toInt + 4 * i_rb.toInt) hx hb hK hP hD hS f7 (ob_661 ie6 f5) (ob_662 ie7 hp1) dX9_readHouse_49 (fun L58 H57 locs hP hD hS => ?_)
  refine lv_aload_n hx hb dX9_readHouse_50 rfl (lv_at hl 1 rfl) ?_
  refine gM_X9_51_0 hx hb hG hown hK hP dX9_readHouse_51 ?_
  refine lv_iload_n hx hb dX9_readHouse_54 rfl (lv_at hl 0 rfl) ?_
  refine lv_aload_n hx hb dX9_readHouse_55 rfl (lv_at hl 1 rfl) ?_
  refine lv_ldc2 (v := 24948) hx hb hown (hG _ gw1381) dX9_readHouse_56 ?_
  refine lv_iconst (v := 0) hx hb dX9_readHouse_59 (by decide) ?_
  refine lv_bipush (v := 99) hx hb dX9_readHouse_60 (by decide) ?_
  have hFc := frA hD hS hA
  refine va_calli (va_runV (As := [.long (24948 : Int64), .int 0, .int 99]) (rest := [.int x6, .ref (r 13)]) ⟨hx, hb, hml, hown, hG⟩ (kX9_after l dC dI r ct i_taped i_size x14 x15 x16 x17 x18 i_bank i_rb i_codes i_within i_piled i_unitsInRule i_askHouse i_askTune i_acts i_undone i_laid i_knowns i_time f_text f_tunes f_houses f_hums f_told f_many f_ruleFrom f_ruleTo f_code f_eWhat f_eSign f_all f_kept f_was f_sTune f_boxAll J19 L58 0 99 (24948 : Int64) H57.size hI23 (ob_663 zc_99 zc_0)) (cwV 3 hG (goodV gw1448 gw1450 gw72 gw138 gw1451) rfl rfl rfl hd_X9_after ⟨(Nat.le_of_ble_eq_true rfl), (Nat.le_of_ble_eq_true rfl)⟩) ⟨fbW, va_recv hK hP (ci := 8) (q0 := 0) rfl rfl, pW_in hP hK hD⟩ rfl rfl hl.1 rfl (lv_room (Nat.le_of_ble_eq_true rfl)) dX9_readHouse_62 ⟨(Nat.le_of_ble_eq_true rfl), (Nat.le_of_ble_eq_true rfl)⟩) hS (fun q _ h => hFc q h) hFc (fun r_60 u_ t_ H59 locs ht hvm hw hB hz1 hk1 hS => ?_)
  subst hw
  obtain ⟨x61, x62, x63, x64, x65, J66, L67, hP1, hD1, hI72, f68, f69, f70, f71⟩ := hB
  rw [ht] at hP1
  have hP := hP1
  have hD := dW hFc hD1
  obtain ⟨im73, im74, im75, im76, im77, im78, im79, im80, im81, im82, im83, im84, im85, im86, im87, im88, im89, im90, im91, im92, im93, im94, im95, im96, im97, im98, im99, im100, im101, im102, im103, im104, im105⟩ := id hI72
  refine stM_13 (mm := (f_houses (i_rb.toInt).toNat).toInt + 4 * i_rb.toInt) hx hb hK hP hD hS f7 (ob_661 ie6 f5) (ob_662 ie7 hp1) dX9_readHouse_65 (fun J107 H106 locs hP hD hS => ?_)
  refine lv_aload_n hx hb dX9_readHouse_66 rfl (lv_at hl 1 rfl) ?_
  refine gM_X9_54_0 hx hb hG hown hK hP dX9_readHouse_67 ?_
  refine lv_iload_n hx hb dX9_readHouse_70 rfl (lv_at hl 0 rfl) ?_
  refine lv_aload_n hx hb dX9_readHouse_71 rfl (lv_at hl 1 rfl) ?_
  refine lv_ldc2 (v := 483006772069) hx hb hown (hG _ gw1382) dX9_readHouse_72 ?_
  refine lv_iconst (v := 0) hx hb dX9_readHouse_75 (by decide) ?_
  refine lv_bipush (v := 99) hx hb dX9_readHouse_76 (by decide) ?_
  have hFc := frA hD hS hA
  refine va_calli (va_runV (As := [.long (483006772069 : Int64), .int 0, .int 99]) (rest := [.int x6, .ref (r 14)]) ⟨hx, hb, hml, hown, hG⟩ (kX9_after l dC dI r ct i_taped i_size x61 x62 x63 x64 x65 i_bank i_rb i_codes i_within i_piled i_unitsInRule i_askHouse i_askTune i_acts i_undone i_laid i_knowns i_time f_text f_tunes f_houses f_hums f_told f_many f_ruleFrom f_ruleTo f_code f_eWhat f_eSign f_all f_kept f_was f_sTune f_boxAll J107 L67 0 99 (483006772069 : Int64) H106.size hI72 (ob_663 zc_99 zc_0)) (cwV 3 hG (goodV gw1448 gw1450 gw72 gw138 gw1451) rfl rfl rfl hd_X9_after ⟨(Nat.le_of_ble_eq_true rfl), (Nat.le_of_ble_eq_true rfl)⟩) ⟨fbW, va_recv hK hP (ci := 8) (q0 := 0) rfl rfl, pW_in hP hK hD⟩ rfl rfl hl.1 rfl (lv_room (Nat.le_of_ble_eq_true rfl)) dX9_readHouse_78 ⟨(Nat.le_of_ble_eq_true rfl), (Nat.le_of_ble_eq_true rfl)⟩) hS (fun q _ h => hFc q h) hFc (fun r_109 u_ t_ H108 locs ht hvm hw hB hz1 hk1 hS => ?_)
  subst hw
  obtain ⟨x110, x111, x112, x113, x114, J115, L116, hP1, hD1, hI121, f117, f118, f119, f120⟩ := hB
  rw [ht] at hP1
  have hP := hP1
  have hD := dW hFc hD1
  obtain ⟨im122, im123, im124, im125, im126, im127, im128, im129, im130, im131, im132, im133, im134, im135, im136, im137, im138, im139, im140, im141, im142, im143, im144, im145, im146, im147, im148, im149, im150, im151, im152, im153, im154⟩ := id hI121
  refine stM_14 (mm := (f_houses (i_rb.toInt).toNat).toInt + 4 * i_rb.toInt) hx hb hK hP hD hS f7 (ob_661 ie6 f5) (ob_662 ie7 hp1) dX9_readHouse_81 (fun J156 H155 locs hP hD hS => ?_)
  refine lv_aload_n hx hb dX9_readHouse_82 rfl (lv_at hl 1 rfl) ?_
  refine lv_aload_n hx hb dX9_readHouse_83 rfl (lv_at hl 1 rfl) ?_
  refine lv_ldc2 (v := 465625113971) hx hb hown (hG _ gw1383) dX9_readHouse_84 ?_
  refine va_calli (va_runV (As := [.long (465625113971 : Int64)]) (rest := [.ref (r 0)]) ⟨hx, hb, hml, hown, hG⟩ (kX9_isWord l dC dI r ct i_taped i_size x110 x111 x112 x113 x114 i_bank i_rb i_codes i_within i_piled i_unitsInRule i_askHouse i_askTune i_acts i_undone i_laid i_knowns i_time f_text f_tunes f_houses f_hums f_told f_many f_ruleFrom f_ruleTo f_code f_eWhat f_eSign f_all f_kept f_was f_sTune f_boxAll J156 L116 (465625113971 : Int64) H155.size hI121) (cwV 1 hG (goodV gw1413 gw1415 gw64 gw138 gw1416) rfl rfl rfl hd_X9_isWord ⟨(Nat.le_of_ble_eq_true rfl), (Nat.le_of_ble_eq_true rfl)⟩) ⟨fbR, va_recv hK hP (ci := 8) (q0 := 0) rfl rfl, pR_in hP hK⟩ rfl rfl hl.1 rfl (lv_room (Nat.le_of_ble_eq_true rfl)) dX9_readHouse_87 ⟨(Nat.le_of_ble_eq_true rfl), (Nat.le_of_ble_eq_true rfl)⟩) hS (fun q hq h => absurd hq (Nat.not_lt.mpr h)) (fun q h => hA q (Nat.le_trans hS.1 h)) (fun r_158 u_ t_ H157 locs ht hvm hw hB hz1 hk1 hS => ?_)
  subst hw
  have hP := wk hP hk1
  obtain ⟨f159, f160, f161⟩ := hB
  have hFc := frA hD hS hA
  refine va_callv (va_runV (As := [.int r_158]) (rest := []) ⟨hx, hb, hml, hown, hG⟩ (kX9_must l dC dI r ct i_taped i_size x110 x111 x112 x113 x114 i_bank i_rb i_codes i_within i_piled i_unitsInRule i_askHouse i_askTune i_acts i_undone i_laid i_knowns i_time f_text f_tunes f_houses f_hums f_told f_many f_ruleFrom f_ruleTo f_code f_eWhat f_eSign f_all f_kept f_was f_sTune f_boxAll J156 L116 r_158 H157.size hI121 (ob_242 f160 f161)) (cwV 1 hG (goodV gw1452 gw1454 gw73 gw138 gw1455) rfl rfl rfl hd_X9_must ⟨(Nat.le_of_ble_eq_true rfl), (Nat.le_of_ble_eq_true rfl)⟩) ⟨fbW, va_recv hK hP (ci := 8) (q0 := 0) rfl rfl, pW_in hP hK hD⟩ rfl rfl hl.1 rfl (lv_room (Nat.le_of_ble_eq_true rfl)) dX9_readHouse_90 ⟨(Nat.le_of_ble_eq_true rfl), (Nat.le_of_ble_eq_true rfl)⟩) hS (fun q _ h => hFc q h) hFc (fun _ t_ H162 locs ht hvm hw hB hz1 hk1 hS => ?_)
  obtain ⟨x164, x165, x166, x167, x168, J169, L170, hP1, hD1, hI173, f171, f172⟩ := hB
  rw [ht] at hP1
  have hP := hP1
  have hD := dW hFc hD1
  obtain ⟨im174, im175, im176, im177, im178, im179, im180, im181, im182, im183, im184, im185, im186, im187, im188, im189, im190, im191, im192, im193, im194, im195, im196, im197, im198, im199, im200, im201, im202, im203, im204, im205, im206⟩ := id hI173
  refine lv_iconst (v := 0) hx hb dX9_readHouse_93 (by decide) ?_
  refine lv_istore_n (lv' := [(2, .int 0), (1, .int x6), (0, .ref (r 0))]) hx hb dX9_readHouse_94 rfl hl (by decide) rfl (fun ls hl => ?_)
  have L95 : ∀ (N95 : Nat) (y95_2 : Int32) (m95_i_faultKind m95_i_at m95_i_end m95_i_token m95_i_number : Int32) (m95_J : Nat → Nat → Int32) (m95_L : Nat → Nat → Int64) (H95 : Heap) (locs : List Loc) (ls : Array Slot) (g95_0 : (0 : Int) ≤ y95_2.toInt) (g95_1 : y95_2.toInt ≤ (3 : Int)) (g95_2 : (0 : Int) ≤ m95_i_faultKind.toInt) (g95_3 : (0 : Int) ≤ m95_i_at.toInt) (g95_4 : (0 : Int) ≤ m95_i_end.toInt) (g95_5 : m95_i_end.toInt ≤ (1600 : Int)) (g95_6 : i_end.toInt ≤ m95_i_end.toInt) (gi95_end_lo : (0 : Int) ≤ m95_i_end.toInt) (gi95_end_hi : m95_i_end.toInt ≤ i_size.toInt) (gi95_at_lo : (0 : Int) ≤ m95_i_at.toInt) (gi95_fk_lo : (0 : Int) ≤ m95_i_faultKind.toInt) (hP : va_P (dC, dI) vwCl (WM r ct i_taped i_size m95_i_faultKind m95_i_at m95_i_end m95_i_token m95_i_number i_bank i_rb i_codes i_within i_piled i_unitsInRule i_askHouse i_askTune i_acts i_undone i_laid i_knowns i_time f_text f_tunes f_houses f_hums f_told f_many f_ruleFrom f_ruleTo f_code f_eWhat f_eSign f_all f_kept f_was f_sTune f_boxAll m95_J m95_L) H95) (hD : va_D A (WM r ct i_taped i_size m95_i_faultKind m95_i_at m95_i_end m95_i_token m95_i_number i_bank i_rb i_codes i_within i_piled i_unitsInRule i_askHouse i_askTune i_acts i_undone i_laid i_knowns i_time f_text f_tunes f_houses f_hums f_told f_many f_ruleFrom f_ruleTo f_code f_eWhat f_eSign f_all f_kept f_was f_sTune f_boxAll m95_J m95_L)) (hS : va_S A s.heap H95 locs) (hl : lv_has ls 3 [(0, .ref (r 0)), (1, .int x6), (2, .int y95_2)]) (hM : -1 * y95_2.toInt + 3 < (N95 : Int)), W p l e { frames := 10, cells := 0, slots := 0, locals := 351 } s m ([.ref (r 0)] : List Value).toArray below meth c0 H95 locs 0 0 Q (F0 m 95 ls []) := by
    intro N95
    induction N95 with
    | zero =>
      intro y95_2 m95_i_faultKind m95_i_at m95_i_end m95_i_token m95_i_number m95_J m95_L H95 locs ls g95_0 g95_1 g95_2 g95_3 g95_4 g95_5 g95_6 gi95_end_lo gi95_end_hi gi95_at_lo gi95_fk_lo hP hD hS hl hM
      exact ((ob_664 hM g95_0 g95_1)).elim
    | succ N95 ih95 =>
      intro y95_2 m95_i_faultKind m95_i_at m95_i_end m95_i_token m95_i_number m95_J m95_L H95 locs ls g95_0 g95_1 g95_2 g95_3 g95_4 g95_5 g95_6 gi95_end_lo gi95_end_hi gi95_at_lo gi95_fk_lo hP hD hS hl hM
      have hM95 := msucc hM
      refine lv_iload_n hx hb dX9_readHouse_95 rfl (lv_at hl 2 rfl) ?_
      refine lv_iconst (v := 3) hx hb dX9_readHouse_96 (by decide) ?_
      refine lv_icmp_ge (tgt := 123) hx hb dX9_readHouse_97 (by decide) (fun c_207 => ?_) (fun c_207 => ?_)
      · skip
        have f208 : 3 ≤ y95_2.toInt := qi_le c_207 zc_3 rfl
        refine lv_aload_n hx hb dX9_readHouse_123 rfl (lv_at hl 0 rfl) ?_
        refine gM_X9_27_0 hx hb hG hown hK hP dX9_readHouse_124 ?_
        refine lv_aload_n hx hb dX9_readHouse_127 rfl (lv_at hl 0 rfl) ?_
        refine gM_X9_240_0 hx hb hG hown hK hP dX9_readHouse_128 ?_
        refine lv_dup2_11 hx hb dX9_readHouse_131 rfl rfl ?_
        refine ldM_5 (mm := i_rb.toInt) hx hb hK hP rfl (ob_244 ie6 ie7 hp0) (ob_245 ie6 ie7 hp0) dX9_readHouse_132 ?_
        refine lv_iconst (v := 1) hx hb dX9_readHouse_133 (by decide) ?_
        refine lv_iadd hx hb dX9_readHouse_134 ?_
        refine lv_topi (fun x209 ex209 => ?_)
        have f210 : x209.toInt = (f_houses (i_rb.toInt).toNat).toInt + 1 := (ob_142 (qi_add ex209 rfl zc_1 (ob_665 hp1 f5) (ob_666 hp1 f5)))
        refine stM_5 (mm := i_rb.toInt) hx hb hK hP hD hS rfl (ob_244 ie6 ie7 hp0) (ob_245 ie6 ie7 hp0) dX9_readHouse_135 (fun z212 H211 locs ez212 hP hD hS => ?_)
        have g213 : EB 0 4 z212 := ez212 ▸ EB_upd ie22 (ob_667 hp1 f5 f210) (ob_668 hp1 f5 f210)
        rw [hQ]
        exact W.vret hx hb hr (fun t ht hW => ⟨⟨(), rfl, trivial, ⟨m95_i_faultKind, m95_i_at, m95_i_end, m95_i_token, m95_i_number, z212, m95_J, m95_L, by rw [ht]; exact hP, hD, ⟨ie0, ie1, ie2, ie3, ie4, ie5, ie6, ie7, ie8, ie9, ie10, ie11, ie12, ie13, gi95_end_lo, gi95_end_hi, gi95_at_lo, gi95_fk_lo, ie18, ie19, ie20, ie21, g213, ie23, ie24, ie25, ie26, ie27, ie28, ie29, ie30, ie31, ie32⟩, (ob_145 g95_6)⟩⟩, hS.F ht⟩) hS.2.2 dX9_readHouse_136
      · skip
        have f214 : y95_2.toInt < 3 := qi_nle c_207 zc_3 rfl
        refine lv_aload_n hx hb dX9_readHouse_100 rfl (lv_at hl 0 rfl) ?_
        refine gM_X9_57_0 hx hb hG hown hK hP dX9_readHouse_101 ?_
        refine lv_iconst (v := 3) hx hb dX9_readHouse_104 (by decide) ?_
        refine lv_iload_n hx hb dX9_readHouse_105 rfl (lv_at hl 1 rfl) ?_
        refine lv_imul hx hb dX9_readHouse_106 ?_
        refine lv_topi (fun x215 ex215 => ?_)
        have f216 : x215.toInt = 3 * (f_houses (i_rb.toInt).toNat).toInt + 12 * i_rb.toInt := (ob_671 (qi_mul ex215 zc_3 rfl (ob_669 ie6 f5 f7) (ob_670 ie7 hp1 f7)) f7)
        refine lv_iload_n hx hb dX9_readHouse_107 rfl (lv_at hl 2 rfl) ?_
        refine lv_iadd hx hb dX9_readHouse_108 ?_
        refine lv_topi (fun x217 ex217 => ?_)
        have f218 : x217.toInt = y95_2.toInt + 3 * (f_houses (i_rb.toInt).toNat).toInt + 12 * i_rb.toInt := (ob_674 (qi_add ex217 rfl rfl (ob_672 ie6 f5 g95_0 f216) (ob_673 ie7 hp1 g95_1 f216)) f216)
        refine lv_aload_n hx hb dX9_readHouse_109 rfl (lv_at hl 0 rfl) ?_
        refine lv_iconst (v := 0) hx hb dX9_readHouse_110 (by decide) ?_
        refine lv_bipush (v := 6) hx hb dX9_readHouse_111 (by decide) ?_
        have hFc := frA hD hS hA
        refine va_calli (va_runV (As := [.int 0, .int 6]) (rest := [.int x217, .ref (r 15)]) ⟨hx, hb, hml, hown, hG⟩ (kX9_numeral l dC dI r ct i_taped i_size m95_i_faultKind m95_i_at m95_i_end m95_i_token m95_i_number i_bank i_rb i_codes i_within i_piled i_unitsInRule i_askHouse i_askTune i_acts i_undone i_laid i_knowns i_time f_text f_tunes f_houses f_hums f_told f_many f_ruleFrom f_ruleTo f_code f_eWhat f_eSign f_all f_kept f_was f_sTune f_boxAll m95_J m95_L 0 6 H95.size ⟨ie0, ie1, ie2, ie3, ie4, ie5, ie6, ie7, ie8, ie9, ie10, ie11, ie12, ie13, gi95_end_lo, gi95_end_hi, gi95_at_lo, gi95_fk_lo, ie18, ie19, ie20, ie21, ie22, ie23, ie24, ie25, ie26, ie27, ie28, ie29, ie30, ie31, ie32⟩ (ob_675 zc_6 zc_0)) (cwV 2 hG (goodV gw1432 gw1434 gw68 gw138 gw1435) rfl rfl rfl hd_X9_numeral ⟨(Nat.le_of_ble_eq_true rfl), (Nat.le_of_ble_eq_true rfl)⟩) ⟨fbW, va_recv hK hP (ci := 8) (q0 := 0) rfl rfl, pW_in hP hK hD⟩ rfl rfl hl.1 rfl (lv_room (Nat.le_of_ble_eq_true rfl)) dX9_readHouse_113 ⟨(Nat.le_of_ble_eq_true rfl), (Nat.le_of_ble_eq_true rfl)⟩) hS (fun q _ h => hFc q h) hFc (fun r_220 u_ t_ H219 locs ht hvm hw hB hz1 hk1 hS => ?_)
        subst hw
        obtain ⟨x221, x222, x223, x224, x225, J226, L227, hP1, hD1, hI232, f228, f229, f230, f231⟩ := hB
        rw [ht] at hP1
        have hP := hP1
        have hD := dW hFc hD1
        obtain ⟨im233, im234, im235, im236, im237, im238, im239, im240, im241, im242, im243, im244, im245, im246, im247, im248, im249, im250, im251, im252, im253, im254, im255, im256, im257, im258, im259, im260, im261, im262, im263, im264, im265⟩ := id hI232
        refine stM_15 (mm := y95_2.toInt + 3 * (f_houses (i_rb.toInt).toNat).toInt + 12 * i_rb.toInt) hx hb hK hP hD hS f218 (ob_676 ie6 f5 g95_0) (ob_677 ie7 hp1 f214) dX9_readHouse_116 (fun J267 H266 locs hP hD hS => ?_)
        obtain ⟨x268, ex268⟩ : ∃ y : Int32, y = y95_2 + Int32.ofInt 1 := ⟨_, rfl⟩
        have f269 : x268.toInt = y95_2.toInt + 1 := (ob_142 (qi_add ex268 rfl (by decide) (ob_140 g95_0) (ob_678 g95_1)))
        refine lv_iinc (v := x268) (lv' := [(2, .int x268), (0, .ref (r 0)), (1, .int x6)]) hx hb dX9_readHouse_117 hl (k := 2) rfl ex268.symm (by decide) rfl (fun ls hl => ?_)
        refine lv_goto (tgt := 95) hx hb dX9_readHouse_120 (by decide) ?_
        exact ih95 x268 x221 x222 x223 x224 x225 J267 L227 H266 _ _ (ob_149 g95_0 f269) (ob_679 f214 f269) (ob_139 im250) (ob_139 im249) (ob_616 im247 im248 f230) (ob_206 ie3 im248) (ob_166 g95_6 f230) im247 im248 im249 im250 hP hD hS (lv_sub hl [1, 2, 0] rfl) (ob_680 hM95 f269)
  exact L95 (-1 * (0 : Int32).toInt + 3 + 1).toNat 0 x164 x165 x166 x167 x168 J169 L170 H162 _ _ (ob_1 zc_0) (ob_681 zc_0) (ob_139 im191) (ob_139 im190) (ob_616 im188 im189 f171) (ob_206 ie3 im189) (ob_682 f21 f70 f119 f171) im188 im189 im190 im191 hP hD hS (lv_sub hl [2, 1, 0] rfl) (mlt (ob_683 zc_0))
set_option maxHeartbeats 4000000 in
set_option maxRecDepth 100000 in
theorem kX9_here_v1 (l : Launch) (dC : Nat → ClassId) (dI : Nat → Nat → Nat) (r : Nat → Nat) (ct : Nat → ClassId) (i_taped i_size i_faultKind i_at i_end i_token i_number i_bank i_rb i_codes i_within i_piled i_unitsInRule i_askHouse i_askTune i_acts i_undone i_laid i_knowns i_time : Int32) (f_text f_tunes f_houses f_hums f_told f_many f_ruleFrom f_ruleTo f_code f_eWhat f_eSign f_all f_kept f_was f_sTune f_boxAll : Nat → Int32) (J : Nat → Nat → Int32) (L : Nat → Nat → Int64) (p1 p2 : Int32) (sz : Nat) (hI : (IM i_taped i_size i_faultKind i_at i_end i_bank i_rb i_acts i_undone i_laid i_knowns i_time f_tunes f_houses f_hums f_told f_many f_ruleFrom f_ruleTo f_code f_all f_kept f_was f_sTune f_boxAll)) (hp0 : (0 : Int) ≤ p1.toInt) (hp1 : p1.toInt + p2.toInt ≤ (10 : Int)) : Met l yX9_here (.code yX9_here cX9_here 5 (some .int) :: GW) { frames := 2, cells := 0, slots := 0, locals := 100 } (va_Pc [.ref (r 0), .ref (r 18), .int p1, .int p2] (pR (dC, dI) (WM r ct i_taped i_size i_faultKind i_at i_end i_token i_number i_bank i_rb i_codes i_within i_piled i_unitsInRule i_askHouse i_askTune i_acts i_undone i_laid i_knowns i_time f_text f_tunes f_houses f_hums f_told f_many f_ruleFrom f_ruleTo f_code f_eWhat f_eSign f_all f_kept f_was f_sTune f_boxAll J L) (TM ct) sz)) (va_Qi (fun (r0 : Int32) (u : Int32) => r0 = u) (fun (u : Int32) (t : State) => True) (fun q => sz ≤ q)) 0 0 (fun q => sz ≤ q) := by
  refine Met.ofW (cc := cX9_here) (maxL := 5) (ret := (some .int)) (by decide) rfl ?_
  intro p e s m args below meth c0 s₁ B hml hv
  obtain ⟨rfl, hsz, hP, hK⟩ := hv
  have hx := B.exec
  have hb := B.bytes
  have hr := B.returns
  have hts := atoms_spec (ws := .code yX9_here cX9_here 5 (some .int) :: GW) B.pre
  have hG : ∀ w ∈ GW, w.before _ s = true := fun w h => hts w (List.mem_cons_of_mem _ h)
  have hown : s.vm.findClass RX9 = some m.cls := findClass_of_methodNamed B.named
  subst hsz
  have hS : va_S (fun q => s.heap.size ≤ q) s.heap s.heap [] := va_S.rf
  have hP : va_P (dC, dI) vwCl (WM r ct i_taped i_size i_faultKind i_at i_end i_token i_number i_bank i_rb i_codes i_within i_piled i_unitsInRule i_askHouse i_askTune i_acts i_undone i_laid i_knowns i_time f_text f_tunes f_houses f_hums f_told f_many f_ruleFrom f_ruleTo f_code f_eWhat f_eSign f_all f_kept f_was f_sTune f_boxAll J L) s.heap := hP
  have hl := lv_entry ([.ref (r 0), .ref (r 18), .int p1, .int p2]) (n := 5) (Nat.le_of_ble_eq_true rfl)
  rw [lg_entry_eq]
  generalize (lg_sl ([.ref (r 0), .ref (r 18), .int p1, .int p2]) ++ List.replicate (5 - (lg_sl ([.ref (r 0), .ref (r 18), .int p1, .int p2])).length) Slot.unset).toArray = ls at hl ⊢
  have hl : lv_has ls 5 [(0, .ref (r 0)), (1, .ref (r 18)), (2, .int p1), (3, .int p2)] := hl
  refine nameQ (fun Q hQ => ?_)
  obtain ⟨ie0, ie1, ie2, ie3, ie4, ie5, ie6, ie7, ie8, ie9, ie10, ie11, ie12, ie13, ie14, ie15, ie16, ie17, ie18, ie19, ie20, ie21, ie22, ie23, ie24, ie25, ie26, ie27, ie28, ie29, ie30, ie31, ie32⟩ := id hI
  have f1 : 0 ≤ (f_tunes (i_bank.toInt).toNat).toInt ∧ (f_tunes (i_bank.toInt).toNat).toInt ≤ 5 := ie21 (i_bank.toInt)
  have f2 : 0 ≤ (f_houses (i_bank.toInt).toNat).toInt ∧ (f_houses (i_bank.toInt).toNat).toInt ≤ 4 := ie22 (i_bank.toInt)
  refine lv_iconst (v := 0) hx hb dX9_here_0 (by decide) ?_
  refine lv_istore (lv' := [(4, .int 0), (0, .ref (r 0)), (1, .ref (r 18)), (2, .int p1), (3, .int p2)]) hx hb dX9_here_1 hl (by decide) rfl (fun ls hl => ?_)
  have L3 : ∀ (N3 : Nat) (y3_4 : Int32) (H3 : Heap) (locs : List Loc) (ls : Array Slot) (g3_0 : (0 : Int) ≤ y3_4.toInt) (g3_1 : y3_4.toInt ≤ (10 : Int)) (hP : va_P (dC, dI) vwCl (WM r ct i_taped i_size i_faultKind i_at i_end i_token i_number i_bank i_rb i_codes i_within i_piled i_unitsInRule i_askHouse i_askTune i_acts i_undone i_laid i_knowns i_time f_text f_tunes f_houses f_hums f_told f_many f_ruleFrom f_ruleTo f_code f_eWhat f_eSign f_all f_kept f_was f_sTune f_boxAll J L) H3) (hS : va_S (fun q => s.heap.size ≤ q) s.heap H3 locs) (hl : lv_has ls 5 [(0, .ref (r 0)), (1, .ref (r 18)), (2, .int p1), (3, .int p2), (4, .int y3_4)]) (hM : -1 * y3_4.toInt + 10 < (N3 : Int)), W p l e { frames := 2, cells := 0, slots := 0, locals := 100 } s m ([.ref (r 0), .ref (r 18), .int p1, .int p2] : List Value).toArray below meth c0 H3 locs 0 0 Q (F0 m 3 ls []) := by
    intro N3
    induction N3 with
    | zero =>
      intro y3_4 H3 locs ls g3_0 g3_1 hP hS hl hM
      exact ((ob_684 hM g3_0 g3_1)).elim
    | succ N3 ih3 =>
      intro y3_4 H3 locs ls g3_0 g3_1 hP hS hl hM
      have hM3 := msucc hM
      refine lv_iload hx hb dX9_here_3 (lv_at hl 4 rfl) ?_
      refine lv_iload_n hx hb dX9_here_5 rfl (lv_at hl 3 rfl) ?_
      refine lv_icmp_ge (tgt := 40) hx hb dX9_here_6 (by decide) (fun c_3 => ?_) (fun c_3 => ?_)
      · skip
        have f4 : p2.toInt ≤ y3_4.toInt := qi_le c_3 rfl rfl
        refine lv_iconst (v := (-1)) hx hb dX9_here_40 (by decide) ?_
        rw [hQ]
        exact W.iret (v := (-1)) hx hb hr (fun t ht hW => ⟨⟨(-1), (-1), rfl, rfl, trivial⟩, hS.F ht⟩) hS.2.2 dX9_here_41
      · skip
        have f5 : y3_4.toInt < p2.toInt := qi_nle c_3 rfl rfl
        refine lv_aload_n hx hb dX9_here_9 rfl (lv_at hl 0 rfl) ?_
        refine gM_X9_191_0 hx hb hG hown hK hP dX9_here_10 ?_
        refine lv_iconst (v := 2) hx hb dX9_here_13 (by decide) ?_
        refine lv_icmp_ne (tgt := 34) hx hb dX9_here_14 (by decide) (fun c_6 => ?_) (fun c_6 => ?_)
        · skip
          have f7 : i_token.toInt ≠ 2 := qi_ne c_6 rfl zc_2
          obtain ⟨x8, ex8⟩ : ∃ y : Int32, y = y3_4 + Int32.ofInt 1 := ⟨_, rfl⟩
          have f9 : x8.toInt = y3_4.toInt + 1 := (ob_142 (qi_add ex8 rfl (by decide) (ob_140 g3_0) (ob_685 g3_1)))
          refine lv_iinc (v := x8) (lv' := [(4, .int x8), (0, .ref (r 0)), (1, .ref (r 18)), (2, .int p1), (3, .int p2)]) hx hb dX9_here_34 hl (k := 4) rfl ex8.symm (by decide) rfl (fun ls hl => ?_)
          refine lv_goto (tgt := 3) hx hb dX9_here_37 (by decide) ?_
          exact ih3 x8 H3 _ _ (ob_149 g3_0 f9) (ob_686 hp0 hp1 f5 f9) hP hS (lv_sub hl [1, 2, 3, 4, 0] rfl) (ob_687 hM3 f9)
        · skip
          have f10 : i_token.toInt = 2 := qi_eq c_6 rfl zc_2
          refine lv_aload_n hx hb dX9_here_17 rfl (lv_at hl 1 rfl) ?_
          refine lv_iload_n hx hb dX9_here_18 rfl (lv_at hl 2 rfl) ?_
          refine lv_iload hx hb dX9_here_19 (lv_at hl 4 rfl) ?_
          refine lv_iadd hx hb dX9_here_21 ?_
          refine lv_topi (fun x11 ex11 => ?_)
          have f12 : x11.toInt = p1.toInt + y3_4.toInt := (ob_647 (qi_add ex11 rfl rfl (ob_645 hp0 g3_0) (ob_688 hp1 f5)))
          refine ldM_18 (mm := p1.toInt + y3_4.toInt) hx hb hK hP f12 (ob_648 hp0 g3_0) (ob_689 hp1 f5) dX9_here_22 (fun y13 => ?_)
          refine lv_aload_n hx hb dX9_here_23 rfl (lv_at hl 0 rfl) ?_
          refine gM_X9_198_0 hx hb hG hown hK hP dX9_here_24 ?_
          refine W.lcmp hx hb dX9_here_27 ?_
          refine lv_topi (fun x14 ex14 => ?_)
          have f15 : (x14.toInt = 0 ∧ y13.toInt = (L 0 0).toInt) ∨ (x14.toInt ≠ 0 ∧ y13.toInt ≠ (L 0 0).toInt) := lcmp_or ex14
          refine lv_if_ne (tgt := 34) hx hb dX9_here_28 (by decide) (fun c_16 => ?_) (fun c_16 => ?_)
          · skip
            have f17 : x14.toInt ≠ 0 := qi_ne c_16 rfl zc_0
            have f18 : x14.toInt ≠ (0 : Int) := (ob_211 f15 f17)
            have f19 : y13.toInt ≠ (L 0 0).toInt := (ob_212 f15 f17 f18)
            obtain ⟨x20, ex20⟩ : ∃ y : Int32, y = y3_4 + Int32.ofInt 1 := ⟨_, rfl⟩
            have f21 : x20.toInt = y3_4.toInt + 1 := (ob_142 (qi_add ex20 rfl (by decide) (ob_140 g3_0) (ob_685 g3_1)))
            refine lv_iinc (v := x20) (lv' := [(4, .int x20), (0, .ref (r 0)), (1, .ref (r 18)), (2, .int p1), (3, .int p2)]) hx hb dX9_here_34 hl (k := 4) rfl ex20.symm (by decide) rfl (fun ls hl => ?_)
            refine lv_goto (tgt := 3) hx hb dX9_here_37 (by decide) ?_
            exact ih3 x20 H3 _ _ (ob_149 g3_0 f21) (ob_686 hp0 hp1 f5 f21) hP hS (lv_sub hl [1, 2, 3, 4, 0] rfl) (ob_687 hM3 f21)
          · skip
            have f22 : x14.toInt = 0 := qi_eq c_16 rfl zc_0
            have f23 : x14.toInt = (0 : Int) := (ob_25 f22)
            have f24 : y13.toInt = (L 0 0).toInt := (ob_214 f15 f22 f23)
            refine lv_iload hx hb dX9_here_31 (lv_at hl 4 rfl) ?_
            rw [hQ]
            exact W.iret (v := y3_4) hx hb hr (fun t ht hW => ⟨⟨y3_4, y3_4, rfl, rfl, trivial⟩, hS.F ht⟩) hS.2.2 dX9_here_33
  exact L3 (-1 * (0 : Int32).toInt + 10 + 1).toNat 0 s.heap _ _ (ob_1 zc_0) (ob_690 zc_0) hP hS (lv_sub hl [1, 2, 3, 4, 0] rfl) (mlt (ob_691 zc_0))
set_option maxHeartbeats 4000000 in
set_option maxRecDepth 100000 in
theorem kX9_readTune (l : Launch) (dC : Nat → ClassId) (dI : Nat → Nat → Nat) (r : Nat → Nat) (ct : Nat → ClassId) (i_taped i_size i_faultKind i_at i_end i_token i_number i_bank i_rb i_codes i_within i_piled i_unitsInRule i_askHouse i_askTune i_acts i_undone i_laid i_knowns i_time : Int32) (f_text f_tunes f_houses f_hums f_told f_many f_ruleFrom f_ruleTo f_code f_eWhat f_eSign f_all f_kept f_was f_sTune f_boxAll : Nat → Int32) (J : Nat → Nat → Int32) (L : Nat → Nat → Int64) (sz : Nat) (hI : (IM i_taped i_size i_faultKind i_at i_end i_bank i_rb i_acts i_undone i_laid i_knowns i_time f_tunes f_houses f_hums f_told f_many f_ruleFrom f_ruleTo f_code f_all f_kept f_was f_sTune f_boxAll)) (hp0 : i_rb.toInt + i_bank.toInt = (1 : Int)) (hp1 : (f_tunes (i_rb.toInt).toNat).toInt ≤ (4 : Int)) (hp2 : i_faultKind.toInt = (0 : Int)) (hp3 : (i_faultKind.toInt = 0 → M7 i_rb f_tunes f_many)) : Met l yX9_readTune (.code yX9_readTune cX9_readTune 3 none :: GW) { frames := 10, cells := 0, slots := 0, locals := 351 } (va_Pc [.ref (r 0)] (pW (dC, dI) (WM r ct i_taped i_size i_faultKind i_at i_end i_token i_number i_bank i_rb i_codes i_within i_piled i_unitsInRule i_askHouse i_askTune i_acts i_undone i_laid i_knowns i_time f_text f_tunes f_houses f_hums f_told f_many f_ruleFrom f_ruleTo f_code f_eWhat f_eSign f_all f_kept f_was f_sTune f_boxAll J L) (TM ct) sz)) (va_Qv (fun _ : Unit => True) (fun (_ : Unit) (t : State) => ∃ (n_i_faultKind n_i_at n_i_end n_i_token n_i_number : Int32) (n_f_tunes n_f_many : Nat → Int32) (n_J : Nat → Nat → Int32) (n_L : Nat → Nat → Int64), va_P (dC, dI) vwCl (WM r ct i_taped i_size n_i_faultKind n_i_at n_i_end n_i_token n_i_number i_bank i_rb i_codes i_within i_piled i_unitsInRule i_askHouse i_askTune i_acts i_undone i_laid i_knowns i_time f_text n_f_tunes f_houses f_hums f_told n_f_many f_ruleFrom f_ruleTo f_code f_eWhat f_eSign f_all f_kept f_was f_sTune f_boxAll n_J n_L) t.heap ∧ va_D (va_A (WM r ct i_taped i_size i_faultKind i_at i_end i_token i_number i_bank i_rb i_codes i_within i_piled i_unitsInRule i_askHouse i_askTune i_acts i_undone i_laid i_knowns i_time f_text f_tunes f_houses f_hums f_told f_many f_ruleFrom f_ruleTo f_code f_eWhat f_eSign f_all f_kept f_was f_sTune f_boxAll J L) sz) (WM r ct i_taped i_size n_i_faultKind n_i_at n_i_end n_i_token n_i_number i_bank i_rb i_codes i_within i_piled i_unitsInRule i_askHouse i_askTune i_acts i_undone i_laid i_knowns i_time f_text n_f_tunes f_houses f_hums f_told n_f_many f_ruleFrom f_ruleTo f_code f_eWhat f_eSign f_all f_kept f_was f_sTune f_boxAll n_J n_L) ∧ (IM i_taped i_size n_i_faultKind n_i_at n_i_end i_bank i_rb i_acts i_undone i_laid i_knowns i_time n_f_tunes f_houses f_hums f_told n_f_many f_ruleFrom f_ruleTo f_code f_all f_kept f_was f_sTune f_boxAll) ∧ (i_end.toInt ≤ n_i_end.toInt) ∧ ((n_i_faultKind.toInt = 0 → M7 i_rb n_f_tunes n_f_many))) (va_A (WM r ct i_taped i_size i_faultKind i_at i_end i_token i_number i_bank i_rb i_codes i_within i_piled i_unitsInRule i_askHouse i_askTune i_acts i_undone i_laid i_knowns i_time f_text f_tunes f_houses f_hums f_told f_many f_ruleFrom f_ruleTo f_code f_eWhat f_eSign f_all f_kept f_was f_sTune f_boxAll J L) sz)) 0 0 (va_A (WM r ct i_taped i_size i_faultKind i_at i_end i_token i_number i_bank i_rb i_codes i_within i_piled i_unitsInRule i_askHouse i_askTune i_acts i_undone i_laid i_knowns i_time f_text f_tunes f_houses f_hums f_told f_many f_ruleFrom f_ruleTo f_code f_eWhat f_eSign f_all f_kept f_was f_sTune f_boxAll J L) sz) := by
  refine Met.ofW (cc := cX9_readTune) (maxL := 3) (ret := none) (by decide) rfl ?_
  intro p e s m args below meth c0 s₁ B hml hv
  obtain ⟨rfl, hsz, hP, hK, hD0⟩ := hv
  have hx := B.exec
  have hb := B.bytes
  have hr := B.returns
  have hts := atoms_spec (ws := .code yX9_readTune cX9_readTune 3 none :: GW) B.pre
  have hG : ∀ w ∈ GW, w.before _ s = true := fun w h => hts w (List.mem_cons_of_mem _ h)
  have hown : s.vm.findClass RX9 = some m.cls := findClass_of_methodNamed B.named
  subst hsz
  have hD := hD0.self (sz := s.heap.size)
  generalize hAe : va_A (WM r ct i_taped i_size i_faultKind i_at i_end i_token i_number i_bank i_rb i_codes i_within i_piled i_unitsInRule i_askHouse i_askTune i_acts i_undone i_laid i_knowns i_time f_text f_tunes f_houses f_hums f_told f_many f_ruleFrom f_ruleTo f_code f_eWhat f_eSign f_all f_kept f_was f_sTune f_boxAll J L) s.heap.size = A at hD ⊢
  have hA : ∀ q : Nat, s.heap.size ≤ q → A q := fun q h => by rw [← hAe]; exact Or.inr h
  have hS : va_S A s.heap s.heap [] := va_S.rf
  have hP : va_P (dC, dI) vwCl (WM r ct i_taped i_size i_faultKind i_at i_end i_token i_number i_bank i_rb i_codes i_within i_piled i_unitsInRule i_askHouse i_askTune i_acts i_undone i_laid i_knowns i_time f_text f_tunes f_houses f_hums f_told f_many f_ruleFrom f_ruleTo f_code f_eWhat f_eSign f_all f_kept f_was f_sTune f_boxAll J L) s.heap := hP
  have hl := lv_entry ([.ref (r 0)]) (n := 3) (Nat.le_of_ble_eq_true rfl)
  rw [lg_entry_eq]
  generalize (lg_sl ([.ref (r 0)]) ++ List.replicate (3 - (lg_sl ([.ref (r 0)])).length) Slot.unset).toArray = ls at hl ⊢
  have hl : lv_has ls 3 [(0, .ref (r 0))] := hl
  refine nameQ (fun Q hQ => ?_)
  obtain ⟨ie0, ie1, ie2, ie3, ie4, ie5, ie6, ie7, ie8, ie9, ie10, ie11, ie12, ie13, ie14, ie15, ie16, ie17, ie18, ie19, ie20, ie21, ie22, ie23, ie24, ie25, ie26, ie27, ie28, ie29, ie30, ie31, ie32⟩ := id hI
  have f1 : 0 ≤ (f_tunes (i_bank.toInt).toNat).toInt ∧ (f_tunes (i_bank.toInt).toNat).toInt ≤ 5 := ie21 (i_bank.toInt)
  have f2 : 0 ≤ (f_houses (i_bank.toInt).toNat).toInt ∧ (f_houses (i_bank.toInt).toNat).toInt ≤ 4 := ie22 (i_bank.toInt)
  refine lv_iconst (v := 5) hx hb dX9_readTune_0 (by decide) ?_
  refine lv_aload_n hx hb dX9_readTune_1 rfl (lv_at hl 0 rfl) ?_
  refine gM_X9_240_0 hx hb hG hown hK hP dX9_readTune_2 ?_
  refine lv_imul hx hb dX9_readTune_5 ?_
  refine lv_topi (fun x3 ex3 => ?_)
  have f4 : x3.toInt = 5 * i_rb.toInt := (ob_694 (qi_mul ex3 zc_5 rfl (ob_692 ie6 ie7 hp0) (ob_693 ie6 ie7 hp0)))
  refine lv_aload_n hx hb dX9_readTune_6 rfl (lv_at hl 0 rfl) ?_
  refine gM_X9_24_0 hx hb hG hown hK hP dX9_readTune_7 ?_
  refine lv_aload_n hx hb dX9_readTune_10 rfl (lv_at hl 0 rfl) ?_
  refine gM_X9_240_0 hx hb hG hown hK hP dX9_readTune_11 ?_
  refine ldM_4 (mm := i_rb.toInt) hx hb hK hP rfl (ob_244 ie6 ie7 hp0) (ob_245 ie6 ie7 hp0) dX9_readTune_14 ?_
  have f5 : 0 ≤ (f_tunes (i_rb.toInt).toNat).toInt ∧ (f_tunes (i_rb.toInt).toNat).toInt ≤ 5 := ie21 (i_rb.toInt)
  refine lv_iadd hx hb dX9_readTune_15 ?_
  refine lv_topi (fun x6 ex6 => ?_)
  have f7 : x6.toInt = (f_tunes (i_rb.toInt).toNat).toInt + 5 * i_rb.toInt := (ob_697 (qi_add ex6 rfl rfl (ob_695 ie6 f5 f4) (ob_696 ie7 hp1 f4)) f4)
  refine lv_istore_n (lv' := [(1, .int x6), (0, .ref (r 0))]) hx hb dX9_readTune_16 rfl hl (by decide) rfl (fun ls hl => ?_)
  refine lv_aload_n hx hb dX9_readTune_17 rfl (lv_at hl 1 rfl) ?_
  refine gM_X9_66_0 hx hb hG hown hK hP dX9_readTune_18 ?_
  refine lv_iload_n hx hb dX9_readTune_21 rfl (lv_at hl 0 rfl) ?_
  refine lv_aload_n hx hb dX9_readTune_22 rfl (lv_at hl 1 rfl) ?_
  refine lv_aload_n hx hb dX9_readTune_23 rfl (lv_at hl 1 rfl) ?_
  refine lv_aload_n hx hb dX9_readTune_24 rfl (lv_at hl 1 rfl) ?_
  refine gM_X9_66_0 hx hb hG hown hK hP dX9_readTune_25 ?_
  refine lv_iconst (v := 5) hx hb dX9_readTune_28 (by decide) ?_
  refine lv_aload_n hx hb dX9_readTune_29 rfl (lv_at hl 1 rfl) ?_
  refine gM_X9_240_0 hx hb hG hown hK hP dX9_readTune_30 ?_
  refine lv_imul hx hb dX9_readTune_33 ?_
  refine lv_topi (fun x8 ex8 => ?_)
  have f9 : x8.toInt = 5 * i_rb.toInt := (ob_694 (qi_mul ex8 zc_5 rfl (ob_692 ie6 ie7 hp0) (ob_693 ie6 ie7 hp0)))
  refine lv_aload_n hx hb dX9_readTune_34 rfl (lv_at hl 1 rfl) ?_
  refine gM_X9_24_0 hx hb hG hown hK hP dX9_readTune_35 ?_
  refine lv_aload_n hx hb dX9_readTune_38 rfl (lv_at hl 1 rfl) ?_
  refine gM_X9_240_0 hx hb hG hown hK hP dX9_readTune_39 ?_
  refine ldM_4 (mm := i_rb.toInt) hx hb hK hP rfl (ob_244 ie6 ie7 hp0) (ob_245 ie6 ie7 hp0) dX9_readTune_42 ?_
  refine va_calli (va_runV (As := [.ref (r 18), .int x8, .int (f_tunes (i_rb.toInt).toNat)]) (rest := [.ref (r 0), .int x6, .ref (r 18)]) ⟨hx, hb, hml, hown, hG⟩ (kX9_here_v1 l dC dI r ct i_taped i_size i_faultKind i_at i_end i_token i_number i_bank i_rb i_codes i_within i_piled i_unitsInRule i_askHouse i_askTune i_acts i_undone i_laid i_knowns i_time f_text f_tunes f_houses f_hums f_told f_many f_ruleFrom f_ruleTo f_code f_eWhat f_eSign f_all f_kept f_was f_sTune f_boxAll J L x8 (f_tunes (i_rb.toInt).toNat) s.heap.size hI (ob_698 ie6 ie7 hp0 f9) (ob_699 ie7 hp1 f9)) (cwV 3 hG (goodV gw1440 gw1442 gw70 gw138 gw1443) rfl rfl rfl hd_X9_here ⟨(Nat.le_of_ble_eq_true rfl), (Nat.le_of_ble_eq_true rfl)⟩) ⟨fbR, va_recv hK hP (ci := 8) (q0 := 0) rfl rfl, pR_in hP hK⟩ rfl rfl hl.1 rfl (lv_room (Nat.le_of_ble_eq_true rfl)) dX9_readTune_43 ⟨(Nat.le_of_ble_eq_true rfl), (Nat.le_of_ble_eq_true rfl)⟩) hS (fun q hq h => absurd hq (Nat.not_lt.mpr h)) (fun q h => hA q (Nat.le_trans hS.1 h)) (fun r_11 u_ t_ H10 locs ht hvm hw hB hz1 hk1 hS => ?_)
  subst hw
  have hP := wk hP hk1
  have hFc := frA hD hS hA
  refine va_calll (va_runV (As := [.int r_11]) (rest := [.int x6, .ref (r 18)]) ⟨hx, hb, hml, hown, hG⟩ (kX9_fresh l dC dI r ct i_taped i_size i_faultKind i_at i_end i_token i_number i_bank i_rb i_codes i_within i_piled i_unitsInRule i_askHouse i_askTune i_acts i_undone i_laid i_knowns i_time f_text f_tunes f_houses f_hums f_told f_many f_ruleFrom f_ruleTo f_code f_eWhat f_eSign f_all f_kept f_was f_sTune f_boxAll J L r_11 H10.size hI) (cwV 1 hG (goodV gw1444 gw1446 gw71 gw138 gw1447) rfl rfl rfl hd_X9_fresh ⟨(Nat.le_of_ble_eq_true rfl), (Nat.le_of_ble_eq_true rfl)⟩) ⟨fbW, va_recv hK hP (ci := 8) (q0 := 0) rfl rfl, pW_in hP hK hD⟩ rfl rfl hl.1 rfl (lv_room (Nat.le_of_ble_eq_true rfl)) dX9_readTune_46 ⟨(Nat.le_of_ble_eq_true rfl), (Nat.le_of_ble_eq_true rfl)⟩) hS (fun q _ h => hFc q h) hFc (fun r_13 u_ t_ H12 locs ht hvm hw hB hz1 hk1 hS => ?_)
  obtain ⟨x14, x15, x16, x17, x18, J19, L20, hP1, hD1, hI23, f21, f22⟩ := hB
  rw [ht] at hP1
  have hP := hP1
  have hD := dW hFc hD1
  obtain ⟨im24, im25, im26, im27, im28, im29, im30, im31, im32, im33, im34, im35, im36, im37, im38, im39, im40, im41, im42, im43, im44, im45, im46, im47, im48, im49, im50, im51, im52, im53, im54, im55, im56⟩ := id hI23
  refine stM_18 (mm := (f_tunes (i_rb.toInt).toNat).toInt + 5 * i_rb.toInt) hx hb hK hP hD hS f7 (ob_700 ie6 f5) (ob_701 ie7 hp1) dX9_readTune_49 (fun L58 H57 locs hP hD hS => ?_)
  refine lv_aload_n hx hb dX9_readTune_50 rfl (lv_at hl 1 rfl) ?_
  refine gM_X9_42_0 hx hb hG hown hK hP dX9_readTune_51 ?_
  refine lv_iload_n hx hb dX9_readTune_54 rfl (lv_at hl 0 rfl) ?_
  refine lv_aload_n hx hb dX9_readTune_55 rfl (lv_at hl 1 rfl) ?_
  refine lv_ldc2 (v := 482955846501) hx hb hown (hG _ gw1378) dX9_readTune_56 ?_
  refine lv_iconst (v := 0) hx hb dX9_readTune_59 (by decide) ?_
  refine lv_bipush (v := 99) hx hb dX9_readTune_60 (by decide) ?_
  have hFc := frA hD hS hA
  refine va_calli (va_runV (As := [.long (482955846501 : Int64), .int 0, .int 99]) (rest := [.int x6, .ref (r 10)]) ⟨hx, hb, hml, hown, hG⟩ (kX9_after l dC dI r ct i_taped i_size x14 x15 x16 x17 x18 i_bank i_rb i_codes i_within i_piled i_unitsInRule i_askHouse i_askTune i_acts i_undone i_laid i_knowns i_time f_text f_tunes f_houses f_hums f_told f_many f_ruleFrom f_ruleTo f_code f_eWhat f_eSign f_all f_kept f_was f_sTune f_boxAll J19 L58 0 99 (482955846501 : Int64) H57.size hI23 (ob_663 zc_99 zc_0)) (cwV 3 hG (goodV gw1448 gw1450 gw72 gw138 gw1451) rfl rfl rfl hd_X9_after ⟨(Nat.le_of_ble_eq_true rfl), (Nat.le_of_ble_eq_true rfl)⟩) ⟨fbW, va_recv hK hP (ci := 8) (q0 := 0) rfl rfl, pW_in hP hK hD⟩ rfl rfl hl.1 rfl (lv_room (Nat.le_of_ble_eq_true rfl)) dX9_readTune_62 ⟨(Nat.le_of_ble_eq_true rfl), (Nat.le_of_ble_eq_true rfl)⟩) hS (fun q _ h => hFc q h) hFc (fun r_60 u_ t_ H59 locs ht hvm hw hB hz1 hk1 hS => ?_)
  subst hw
  obtain ⟨x61, x62, x63, x64, x65, J66, L67, hP1, hD1, hI72, f68, f69, f70, f71⟩ := hB
  rw [ht] at hP1
  have hP := hP1
  have hD := dW hFc hD1
  obtain ⟨im73, im74, im75, im76, im77, im78, im79, im80, im81, im82, im83, im84, im85, im86, im87, im88, im89, im90, im91, im92, im93, im94, im95, im96, im97, im98, im99, im100, im101, im102, im103, im104, im105⟩ := id hI72
  refine stM_10 (mm := (f_tunes (i_rb.toInt).toNat).toInt + 5 * i_rb.toInt) hx hb hK hP hD hS f7 (ob_700 ie6 f5) (ob_701 ie7 hp1) dX9_readTune_65 (fun J107 H106 locs hP hD hS => ?_)
  refine lv_aload_n hx hb dX9_readTune_66 rfl (lv_at hl 1 rfl) ?_
  refine lv_aload_n hx hb dX9_readTune_67 rfl (lv_at hl 1 rfl) ?_
  refine lv_ldc2 (v := 474316301683) hx hb hown (hG _ gw1379) dX9_readTune_68 ?_
  refine va_calli (va_runV (As := [.long (474316301683 : Int64)]) (rest := [.ref (r 0)]) ⟨hx, hb, hml, hown, hG⟩ (kX9_isWord l dC dI r ct i_taped i_size x61 x62 x63 x64 x65 i_bank i_rb i_codes i_within i_piled i_unitsInRule i_askHouse i_askTune i_acts i_undone i_laid i_knowns i_time f_text f_tunes f_houses f_hums f_told f_many f_ruleFrom f_ruleTo f_code f_eWhat f_eSign f_all f_kept f_was f_sTune f_boxAll J107 L67 (474316301683 : Int64) H106.size hI72) (cwV 1 hG (goodV gw1413 gw1415 gw64 gw138 gw1416) rfl rfl rfl hd_X9_isWord ⟨(Nat.le_of_ble_eq_true rfl), (Nat.le_of_ble_eq_true rfl)⟩) ⟨fbR, va_recv hK hP (ci := 8) (q0 := 0) rfl rfl, pR_in hP hK⟩ rfl rfl hl.1 rfl (lv_room (Nat.le_of_ble_eq_true rfl)) dX9_readTune_71 ⟨(Nat.le_of_ble_eq_true rfl), (Nat.le_of_ble_eq_true rfl)⟩) hS (fun q hq h => absurd hq (Nat.not_lt.mpr h)) (fun q h => hA q (Nat.le_trans hS.1 h)) (fun r_109 u_ t_ H108 locs ht hvm hw hB hz1 hk1 hS => ?_)
  subst hw
  have hP := wk hP hk1
  obtain ⟨f110, f111, f112⟩ := hB
  have hFc := frA hD hS hA
  refine va_callv (va_runV (As := [.int r_109]) (rest := []) ⟨hx, hb, hml, hown, hG⟩ (kX9_must l dC dI r ct i_taped i_size x61 x62 x63 x64 x65 i_bank i_rb i_codes i_within i_piled i_unitsInRule i_askHouse i_askTune i_acts i_undone i_laid i_knowns i_time f_text f_tunes f_houses f_hums f_told f_many f_ruleFrom f_ruleTo f_code f_eWhat f_eSign f_all f_kept f_was f_sTune f_boxAll J107 L67 r_109 H108.size hI72 (ob_242 f111 f112)) (cwV 1 hG (goodV gw1452 gw1454 gw73 gw138 gw1455) rfl rfl rfl hd_X9_must ⟨(Nat.le_of_ble_eq_true rfl), (Nat.le_of_ble_eq_true rfl)⟩) ⟨fbW, va_recv hK hP (ci := 8) (q0 := 0) rfl rfl, pW_in hP hK hD⟩ rfl rfl hl.1 rfl (lv_room (Nat.le_of_ble_eq_true rfl)) dX9_readTune_74 ⟨(Nat.le_of_ble_eq_true rfl), (Nat.le_of_ble_eq_true rfl)⟩) hS (fun q _ h => hFc q h) hFc (fun _ t_ H113 locs ht hvm hw hB hz1 hk1 hS => ?_)
  obtain ⟨x115, x116, x117, x118, x119, J120, L121, hP1, hD1, hI124, f122, f123⟩ := hB
  rw [ht] at hP1
  have hP := hP1
  have hD := dW hFc hD1
  obtain ⟨im125, im126, im127, im128, im129, im130, im131, im132, im133, im134, im135, im136, im137, im138, im139, im140, im141, im142, im143, im144, im145, im146, im147, im148, im149, im150, im151, im152, im153, im154, im155, im156, im157⟩ := id hI124
  refine lv_iconst (v := 0) hx hb dX9_readTune_77 (by decide) ?_
  refine lv_istore_n (lv' := [(2, .int 0), (1, .int x6), (0, .ref (r 0))]) hx hb dX9_readTune_78 rfl hl (by decide) rfl (fun ls hl => ?_)
  have L79 : ∀ (N79 : Nat) (y79_2 : Int32) (m79_i_faultKind m79_i_at m79_i_end m79_i_token m79_i_number : Int32) (m79_J : Nat → Nat → Int32) (m79_L : Nat → Nat → Int64) (H79 : Heap) (locs : List Loc) (ls : Array Slot) (g79_0 : (0 : Int) ≤ y79_2.toInt) (g79_1 : y79_2.toInt ≤ (8 : Int)) (g79_2 : (0 : Int) ≤ m79_i_faultKind.toInt) (g79_3 : (0 : Int) ≤ m79_i_at.toInt) (g79_4 : (0 : Int) ≤ m79_i_end.toInt) (g79_5 : m79_i_end.toInt ≤ (1600 : Int)) (g79_6 : i_end.toInt ≤ m79_i_end.toInt) (gi79_end_lo : (0 : Int) ≤ m79_i_end.toInt) (gi79_end_hi : m79_i_end.toInt ≤ i_size.toInt) (gi79_at_lo : (0 : Int) ≤ m79_i_at.toInt) (gi79_fk_lo : (0 : Int) ≤ m79_i_faultKind.toInt) (hP : va_P (dC, dI) vwCl (WM r ct i_taped i_size m79_i_faultKind m79_i_at m79_i_end m79_i_token m79_i_number i_bank i_rb i_codes i_within i_piled i_unitsInRule i_askHouse i_askTune i_acts i_undone i_laid i_knowns i_time f_text f_tunes f_houses f_hums f_told f_many f_ruleFrom f_ruleTo f_code f_eWhat f_eSign f_all f_kept f_was f_sTune f_boxAll m79_J m79_L) H79) (hD : va_D A (WM r ct i_taped i_size m79_i_faultKind m79_i_at m79_i_end m79_i_token m79_i_number i_bank i_rb i_codes i_within i_piled i_unitsInRule i_askHouse i_askTune i_acts i_undone i_laid i_knowns i_time f_text f_tunes f_houses f_hums f_told f_many f_ruleFrom f_ruleTo f_code f_eWhat f_eSign f_all f_kept f_was f_sTune f_boxAll m79_J m79_L)) (hS : va_S A s.heap H79 locs) (hl : lv_has ls 3 [(0, .ref (r 0)), (1, .int x6), (2, .int y79_2)]) (hM : -1 * y79_2.toInt + 8 < (N79 : Int)), W p l e { frames := 10, cells := 0, slots := 0, locals := 351 } s m ([.ref (r 0)] : List Value).toArray below meth c0 H79 locs 0 0 Q (F0 m 79 ls []) := by
    intro N79
    induction N79 with
    | zero =>
      intro y79_2 m79_i_faultKind m79_i_at m79_i_end m79_i_token m79_i_number m79_J m79_L H79 locs ls g79_0 g79_1 g79_2 g79_3 g79_4 g79_5 g79_6 gi79_end_lo gi79_end_hi gi79_at_lo gi79_fk_lo hP hD hS hl hM
      exact ((ob_641 hM g79_0 g79_1)).elim
    | succ N79 ih79 =>
      intro y79_2 m79_i_faultKind m79_i_at m79_i_end m79_i_token m79_i_number m79_J m79_L H79 locs ls g79_0 g79_1 g79_2 g79_3 g79_4 g79_5 g79_6 gi79_end_lo gi79_end_hi gi79_at_lo gi79_fk_lo hP hD hS hl hM
      have hM79 := msucc hM
      refine lv_aload_n hx hb dX9_readTune_79 rfl (lv_at hl 0 rfl) ?_
      refine va_calli (va_runV (As := []) (rest := []) ⟨hx, hb, hml, hown, hG⟩ (kX9_isGood l dC dI r ct i_taped i_size m79_i_faultKind m79_i_at m79_i_end m79_i_token m79_i_number i_bank i_rb i_codes i_within i_piled i_unitsInRule i_askHouse i_askTune i_acts i_undone i_laid i_knowns i_time f_text f_tunes f_houses f_hums f_told f_many f_ruleFrom f_ruleTo f_code f_eWhat f_eSign f_all f_kept f_was f_sTune f_boxAll m79_J m79_L H79.size ⟨ie0, ie1, ie2, ie3, ie4, ie5, ie6, ie7, ie8, ie9, ie10, ie11, ie12, ie13, gi79_end_lo, gi79_end_hi, gi79_at_lo, gi79_fk_lo, ie18, ie19, ie20, ie21, ie22, ie23, ie24, ie25, ie26, ie27, ie28, ie29, ie30, ie31, ie32⟩) (cwV 0 hG (goodV gw1401 gw1403 gw61 gw138 gw1404) rfl rfl rfl hd_X9_isGood ⟨(Nat.le_of_ble_eq_true rfl), (Nat.le_of_ble_eq_true rfl)⟩) ⟨fbR, va_recv hK hP (ci := 8) (q0 := 0) rfl rfl, pR_in hP hK⟩ rfl rfl hl.1 rfl (lv_room (Nat.le_of_ble_eq_true rfl)) dX9_readTune_80 ⟨(Nat.le_of_ble_eq_true rfl), (Nat.le_of_ble_eq_true rfl)⟩) hS (fun q hq h => absurd hq (Nat.not_lt.mpr h)) (fun q h => hA q (Nat.le_trans hS.1 h)) (fun r_159 u_ t_ H158 locs ht hvm hw hB hz1 hk1 hS => ?_)
      subst hw
      have hP := wk hP hk1
      obtain ⟨f160, f161, f162⟩ := hB
      refine lv_if_eq (tgt := 129) hx hb dX9_readTune_83 (by decide) (fun c_163 => ?_) (fun c_163 => ?_)
      · skip
        have f164 : r_159.toInt = 0 := qi_eq c_163 rfl zc_0
        have f165 : m79_i_faultKind.toInt ≠ (0 : Int) := (ob_224 f160 f164)
        have f166 : (1 : Int) ≤ m79_i_faultKind.toInt := (ob_597 g79_2 f165)
        have f167 : r_159.toInt = (0 : Int) := (ob_226 f161 f162 f164)
        refine lv_aload_n hx hb dX9_readTune_129 rfl (lv_at hl 0 rfl) ?_
        refine gM_X9_45_0 hx hb hG hown hK hP dX9_readTune_130 ?_
        refine lv_iload_n hx hb dX9_readTune_133 rfl (lv_at hl 1 rfl) ?_
        refine lv_iload_n hx hb dX9_readTune_134 rfl (lv_at hl 2 rfl) ?_
        refine stM_11 (mm := (f_tunes (i_rb.toInt).toNat).toInt + 5 * i_rb.toInt) hx hb hK hP hD hS f7 (ob_700 ie6 f5) (ob_701 ie7 hp1) dX9_readTune_135 (fun z169 H168 locs ez169 hP hD hS => ?_)
        have g170 : EB 0 8 z169 := ez169 ▸ EB_upd ie23 (ob_702 g79_0 g79_1 hM79) (ob_703 g79_0 g79_1 hM79)
        refine lv_aload_n hx hb dX9_readTune_136 rfl (lv_at hl 0 rfl) ?_
        refine gM_X9_24_0 hx hb hG hown hK hP dX9_readTune_137 ?_
        refine lv_aload_n hx hb dX9_readTune_140 rfl (lv_at hl 0 rfl) ?_
        refine gM_X9_240_0 hx hb hG hown hK hP dX9_readTune_141 ?_
        refine lv_dup2_11 hx hb dX9_readTune_144 rfl rfl ?_
        refine ldM_4 (mm := i_rb.toInt) hx hb hK hP rfl (ob_244 ie6 ie7 hp0) (ob_245 ie6 ie7 hp0) dX9_readTune_145 ?_
        refine lv_iconst (v := 1) hx hb dX9_readTune_146 (by decide) ?_
        refine lv_iadd hx hb dX9_readTune_147 ?_
        refine lv_topi (fun x171 ex171 => ?_)
        have f172 : x171.toInt = (f_tunes (i_rb.toInt).toNat).toInt + 1 := (ob_142 (qi_add ex171 rfl zc_1 (ob_704 hp1 f5) (ob_705 hp1 f5)))
        refine stM_4 (mm := i_rb.toInt) hx hb hK hP hD hS rfl (ob_244 ie6 ie7 hp0) (ob_245 ie6 ie7 hp0) dX9_readTune_148 (fun z174 H173 locs ez174 hP hD hS => ?_)
        have g175 : EB 0 5 z174 := ez174 ▸ EB_upd ie21 (ob_706 hp1 f5 f172) (ob_707 hp1 f5 f172)
        rw [hQ]
        exact W.vret hx hb hr (fun t ht hW => ⟨⟨(), rfl, trivial, ⟨m79_i_faultKind, m79_i_at, m79_i_end, m79_i_token, m79_i_number, z174, z169, m79_J, m79_L, by rw [ht]; exact hP, hD, ⟨ie0, ie1, ie2, ie3, ie4, ie5, ie6, ie7, ie8, ie9, ie10, ie11, ie12, ie13, gi79_end_lo, gi79_end_hi, gi79_at_lo, gi79_fk_lo, ie18, ie19, ie20, g175, ie22, g170, ie24, ie25, ie26, ie27, ie28, ie29, ie30, (M7_tunes (M7_many ie31 ez169 (ob_700 ie6 f5) (ob_249 ie4 ie5 hp0) (ob_709 f1) (ob_710 hp0 hp1 f5)) ez174 (ob_244 ie6 ie7 hp0) (ob_249 ie4 ie5 hp0) (ob_250 hp0)), ie32⟩, (ob_145 g79_6), (fun h => ((ob_708 h f160 f164)).elim)⟩⟩, hS.F ht⟩) hS.2.2 dX9_readTune_149
      · skip
        have f176 : r_159.toInt ≠ 0 := qi_ne c_163 rfl zc_0
        have f177 : m79_i_faultKind.toInt = (0 : Int) := (ob_219 f160 f176)
        have f178 : r_159.toInt = (1 : Int) := (ob_220 f160 f176)
        have f179 : (1 : Int) ≤ r_159.toInt := (ob_162 f161 f162 f178)
        refine lv_iload_n hx hb dX9_readTune_86 rfl (lv_at hl 2 rfl) ?_
        refine lv_bipush (v := 8) hx hb dX9_readTune_87 (by decide) ?_
        refine lv_icmp_ge (tgt := 129) hx hb dX9_readTune_89 (by decide) (fun c_180 => ?_) (fun c_180 => ?_)
        · skip
          have f181 : 8 ≤ y79_2.toInt := qi_le c_180 zc_8 rfl
          refine lv_aload_n hx hb dX9_readTune_129 rfl (lv_at hl 0 rfl) ?_
          refine gM_X9_45_0 hx hb hG hown hK hP dX9_readTune_130 ?_
          refine lv_iload_n hx hb dX9_readTune_133 rfl (lv_at hl 1 rfl) ?_
          refine lv_iload_n hx hb dX9_readTune_134 rfl (lv_at hl 2 rfl) ?_
          refine stM_11 (mm := (f_tunes (i_rb.toInt).toNat).toInt + 5 * i_rb.toInt) hx hb hK hP hD hS f7 (ob_700 ie6 f5) (ob_701 ie7 hp1) dX9_readTune_135 (fun z183 H182 locs ez183 hP hD hS => ?_)
          have g184 : EB 0 8 z183 := ez183 ▸ EB_upd ie23 (ob_350 g79_0) (ob_711 g79_1)
          refine lv_aload_n hx hb dX9_readTune_136 rfl (lv_at hl 0 rfl) ?_
          refine gM_X9_24_0 hx hb hG hown hK hP dX9_readTune_137 ?_
          refine lv_aload_n hx hb dX9_readTune_140 rfl (lv_at hl 0 rfl) ?_
          refine gM_X9_240_0 hx hb hG hown hK hP dX9_readTune_141 ?_
          refine lv_dup2_11 hx hb dX9_readTune_144 rfl rfl ?_
          refine ldM_4 (mm := i_rb.toInt) hx hb hK hP rfl (ob_244 ie6 ie7 hp0) (ob_245 ie6 ie7 hp0) dX9_readTune_145 ?_
          refine lv_iconst (v := 1) hx hb dX9_readTune_146 (by decide) ?_
          refine lv_iadd hx hb dX9_readTune_147 ?_
          refine lv_topi (fun x185 ex185 => ?_)
          have f186 : x185.toInt = (f_tunes (i_rb.toInt).toNat).toInt + 1 := (ob_142 (qi_add ex185 rfl zc_1 (ob_704 hp1 f5) (ob_705 hp1 f5)))
          refine stM_4 (mm := i_rb.toInt) hx hb hK hP hD hS rfl (ob_244 ie6 ie7 hp0) (ob_245 ie6 ie7 hp0) dX9_readTune_148 (fun z188 H187 locs ez188 hP hD hS => ?_)
          have g189 : EB 0 5 z188 := ez188 ▸ EB_upd ie21 (ob_706 hp1 f5 f186) (ob_707 hp1 f5 f186)
          rw [hQ]
          exact W.vret hx hb hr (fun t ht hW => ⟨⟨(), rfl, trivial, ⟨m79_i_faultKind, m79_i_at, m79_i_end, m79_i_token, m79_i_number, z188, z183, m79_J, m79_L, by rw [ht]; exact hP, hD, ⟨ie0, ie1, ie2, ie3, ie4, ie5, ie6, ie7, ie8, ie9, ie10, ie11, ie12, ie13, gi79_end_lo, gi79_end_hi, gi79_at_lo, gi79_fk_lo, ie18, ie19, ie20, g189, ie22, g184, ie24, ie25, ie26, ie27, ie28, ie29, ie30, (M7_tunes (M7_many ie31 ez183 (ob_700 ie6 f5) (ob_249 ie4 ie5 hp0) (ob_709 f1) (ob_710 hp0 hp1 f5)) ez188 (ob_244 ie6 ie7 hp0) (ob_249 ie4 ie5 hp0) (ob_250 hp0)), ie32⟩, (ob_145 g79_6), (fun _ => M7_add (hp3 (ob_613 ie17 hp2)) ez183 ez188 (ob_244 ie6 ie7 hp0) (ob_712 hp1 f5) (ob_713) (ob_142 f186) (ob_714 f181))⟩⟩, hS.F ht⟩) hS.2.2 dX9_readTune_149
        · skip
          have f190 : y79_2.toInt < 8 := qi_nle c_180 zc_8 rfl
          refine lv_iload_n hx hb dX9_readTune_92 rfl (lv_at hl 2 rfl) ?_
          refine lv_iconst (v := 3) hx hb dX9_readTune_93 (by decide) ?_
          refine lv_icmp_lt (tgt := 105) hx hb dX9_readTune_94 (by decide) (fun c_191 => ?_) (fun c_191 => ?_)
          · skip
            have f192 : y79_2.toInt < 3 := qi_lt c_191 rfl zc_3
            refine lv_aload_n hx hb dX9_readTune_105 rfl (lv_at hl 0 rfl) ?_
            refine gM_X9_48_0 hx hb hG hown hK hP dX9_readTune_106 ?_
            refine lv_bipush (v := 8) hx hb dX9_readTune_109 (by decide) ?_
            refine lv_iload_n hx hb dX9_readTune_111 rfl (lv_at hl 1 rfl) ?_
            refine lv_imul hx hb dX9_readTune_112 ?_
            refine lv_topi (fun x193 ex193 => ?_)
            have f194 : x193.toInt = 8 * (f_tunes (i_rb.toInt).toNat).toInt + 40 * i_rb.toInt := (ob_717 (qi_mul ex193 zc_8 rfl (ob_715 ie6 f5 f7) (ob_716 ie7 hp1 f7)) f7)
            refine lv_iload_n hx hb dX9_readTune_113 rfl (lv_at hl 2 rfl) ?_
            refine lv_iadd hx hb dX9_readTune_114 ?_
            refine lv_topi (fun x195 ex195 => ?_)
            have f196 : x195.toInt = y79_2.toInt + 8 * (f_tunes (i_rb.toInt).toNat).toInt + 40 * i_rb.toInt := (ob_720 (qi_add ex195 rfl rfl (ob_718 ie6 f5 g79_0 f194) (ob_719 ie7 hp1 g79_1 f194)) f194)
            refine lv_aload_n hx hb dX9_readTune_115 rfl (lv_at hl 0 rfl) ?_
            refine lv_iconst (v := 0) hx hb dX9_readTune_116 (by decide) ?_
            refine lv_bipush (v := 6) hx hb dX9_readTune_117 (by decide) ?_
            have hFc := frA hD hS hA
            refine va_calli (va_runV (As := [.int 0, .int 6]) (rest := [.int x195, .ref (r 12)]) ⟨hx, hb, hml, hown, hG⟩ (kX9_numeral l dC dI r ct i_taped i_size m79_i_faultKind m79_i_at m79_i_end m79_i_token m79_i_number i_bank i_rb i_codes i_within i_piled i_unitsInRule i_askHouse i_askTune i_acts i_undone i_laid i_knowns i_time f_text f_tunes f_houses f_hums f_told f_many f_ruleFrom f_ruleTo f_code f_eWhat f_eSign f_all f_kept f_was f_sTune f_boxAll m79_J m79_L 0 6 H158.size ⟨ie0, ie1, ie2, ie3, ie4, ie5, ie6, ie7, ie8, ie9, ie10, ie11, ie12, ie13, gi79_end_lo, gi79_end_hi, gi79_at_lo, gi79_fk_lo, ie18, ie19, ie20, ie21, ie22, ie23, ie24, ie25, ie26, ie27, ie28, ie29, ie30, ie31, ie32⟩ (ob_675 zc_6 zc_0)) (cwV 2 hG (goodV gw1432 gw1434 gw68 gw138 gw1435) rfl rfl rfl hd_X9_numeral ⟨(Nat.le_of_ble_eq_true rfl), (Nat.le_of_ble_eq_true rfl)⟩) ⟨fbW, va_recv hK hP (ci := 8) (q0 := 0) rfl rfl, pW_in hP hK hD⟩ rfl rfl hl.1 rfl (lv_room (Nat.le_of_ble_eq_true rfl)) dX9_readTune_119 ⟨(Nat.le_of_ble_eq_true rfl), (Nat.le_of_ble_eq_true rfl)⟩) hS (fun q _ h => hFc q h) hFc (fun r_198 u_ t_ H197 locs ht hvm hw hB hz1 hk1 hS => ?_)
            subst hw
            obtain ⟨x199, x200, x201, x202, x203, J204, L205, hP1, hD1, hI210, f206, f207, f208, f209⟩ := hB
            rw [ht] at hP1
            have hP := hP1
            have hD := dW hFc hD1
            obtain ⟨im211, im212, im213, im214, im215, im216, im217, im218, im219, im220, im221, im222, im223, im224, im225, im226, im227, im228, im229, im230, im231, im232, im233, im234, im235, im236, im237, im238, im239, im240, im241, im242, im243⟩ := id hI210
            refine stM_12 (mm := y79_2.toInt + 8 * (f_tunes (i_rb.toInt).toNat).toInt + 40 * i_rb.toInt) hx hb hK hP hD hS f196 (ob_721 ie6 f5 g79_0) (ob_722 ie7 hp1 f190) dX9_readTune_122 (fun J245 H244 locs hP hD hS => ?_)
            obtain ⟨x246, ex246⟩ : ∃ y : Int32, y = y79_2 + Int32.ofInt 1 := ⟨_, rfl⟩
            have f247 : x246.toInt = y79_2.toInt + 1 := (ob_142 (qi_add ex246 rfl (by decide) (ob_140 g79_0) (ob_642 g79_1)))
            refine lv_iinc (v := x246) (lv' := [(2, .int x246), (0, .ref (r 0)), (1, .int x6)]) hx hb dX9_readTune_123 hl (k := 2) rfl ex246.symm (by decide) rfl (fun ls hl => ?_)
            refine lv_goto (tgt := 79) hx hb dX9_readTune_126 (by decide) ?_
            exact ih79 x246 x199 x200 x201 x202 x203 J245 L205 H244 _ _ (ob_149 g79_0 f247) (ob_723 f190 f247) (ob_139 im228) (ob_139 im227) (ob_616 im225 im226 f208) (ob_206 ie3 im226) (ob_166 g79_6 f208) im225 im226 im227 im228 hP hD hS (lv_sub hl [1, 2, 0] rfl) (ob_644 hM79 f247)
          · skip
            have f248 : 3 ≤ y79_2.toInt := qi_nlt c_191 rfl zc_3
            refine lv_aload_n hx hb dX9_readTune_97 rfl (lv_at hl 0 rfl) ?_
            refine gM_X9_191_0 hx hb hG hown hK hP dX9_readTune_98 ?_
            refine lv_iconst (v := 4) hx hb dX9_readTune_101 (by decide) ?_
            refine lv_icmp_ne (tgt := 129) hx hb dX9_readTune_102 (by decide) (fun c_249 => ?_) (fun c_249 => ?_)
            · skip
              have f250 : m79_i_token.toInt ≠ 4 := qi_ne c_249 rfl zc_4
              refine lv_aload_n hx hb dX9_readTune_129 rfl (lv_at hl 0 rfl) ?_
              refine gM_X9_45_0 hx hb hG hown hK hP dX9_readTune_130 ?_
              refine lv_iload_n hx hb dX9_readTune_133 rfl (lv_at hl 1 rfl) ?_
              refine lv_iload_n hx hb dX9_readTune_134 rfl (lv_at hl 2 rfl) ?_
              refine stM_11 (mm := (f_tunes (i_rb.toInt).toNat).toInt + 5 * i_rb.toInt) hx hb hK hP hD hS f7 (ob_700 ie6 f5) (ob_701 ie7 hp1) dX9_readTune_135 (fun z252 H251 locs ez252 hP hD hS => ?_)
              have g253 : EB 0 8 z252 := ez252 ▸ EB_upd ie23 (ob_350 g79_0) (ob_711 g79_1)
              refine lv_aload_n hx hb dX9_readTune_136 rfl (lv_at hl 0 rfl) ?_
              refine gM_X9_24_0 hx hb hG hown hK hP dX9_readTune_137 ?_
              refine lv_aload_n hx hb dX9_readTune_140 rfl (lv_at hl 0 rfl) ?_
              refine gM_X9_240_0 hx hb hG hown hK hP dX9_readTune_141 ?_
              refine lv_dup2_11 hx hb dX9_readTune_144 rfl rfl ?_
              refine ldM_4 (mm := i_rb.toInt) hx hb hK hP rfl (ob_244 ie6 ie7 hp0) (ob_245 ie6 ie7 hp0) dX9_readTune_145 ?_
              refine lv_iconst (v := 1) hx hb dX9_readTune_146 (by decide) ?_
              refine lv_iadd hx hb dX9_readTune_147 ?_
              refine lv_topi (fun x254 ex254 => ?_)
              have f255 : x254.toInt = (f_tunes (i_rb.toInt).toNat).toInt + 1 := (ob_142 (qi_add ex254 rfl zc_1 (ob_704 hp1 f5) (ob_705 hp1 f5)))
              refine stM_4 (mm := i_rb.toInt) hx hb hK hP hD hS rfl (ob_244 ie6 ie7 hp0) (ob_245 ie6 ie7 hp0) dX9_readTune_148 (fun z257 H256 locs ez257 hP hD hS => ?_)
              have g258 : EB 0 5 z257 := ez257 ▸ EB_upd ie21 (ob_706 hp1 f5 f255) (ob_707 hp1 f5 f255)
              rw [hQ]
              exact W.vret hx hb hr (fun t ht hW => ⟨⟨(), rfl, trivial, ⟨m79_i_faultKind, m79_i_at, m79_i_end, m79_i_token, m79_i_number, z257, z252, m79_J, m79_L, by rw [ht]; exact hP, hD, ⟨ie0, ie1, ie2, ie3, ie4, ie5, ie6, ie7, ie8, ie9, ie10, ie11, ie12, ie13, gi79_end_lo, gi79_end_hi, gi79_at_lo, gi79_fk_lo, ie18, ie19, ie20, g258, ie22, g253, ie24, ie25, ie26, ie27, ie28, ie29, ie30, (M7_tunes (M7_many ie31 ez252 (ob_700 ie6 f5) (ob_249 ie4 ie5 hp0) (ob_709 f1) (ob_710 hp0 hp1 f5)) ez257 (ob_244 ie6 ie7 hp0) (ob_249 ie4 ie5 hp0) (ob_250 hp0)), ie32⟩, (ob_145 g79_6), (fun _ => M7_add (hp3 (ob_613 ie17 hp2)) ez252 ez257 (ob_244 ie6 ie7 hp0) (ob_712 hp1 f5) (ob_713) (ob_142 f255) (ob_724 f248))⟩⟩, hS.F ht⟩) hS.2.2 dX9_readTune_149
            · skip
              have f259 : m79_i_token.toInt = 4 := qi_eq c_249 rfl zc_4
              refine lv_aload_n hx hb dX9_readTune_105 rfl (lv_at hl 0 rfl) ?_
              refine gM_X9_48_0 hx hb hG hown hK hP dX9_readTune_106 ?_
              refine lv_bipush (v := 8) hx hb dX9_readTune_109 (by decide) ?_
              refine lv_iload_n hx hb dX9_readTune_111 rfl (lv_at hl 1 rfl) ?_
              refine lv_imul hx hb dX9_readTune_112 ?_
              refine lv_topi (fun x260 ex260 => ?_)
              have f261 : x260.toInt = 8 * (f_tunes (i_rb.toInt).toNat).toInt + 40 * i_rb.toInt := (ob_717 (qi_mul ex260 zc_8 rfl (ob_715 ie6 f5 f7) (ob_716 ie7 hp1 f7)) f7)
              refine lv_iload_n hx hb dX9_readTune_113 rfl (lv_at hl 2 rfl) ?_
              refine lv_iadd hx hb dX9_readTune_114 ?_
              refine lv_topi (fun x262 ex262 => ?_)
              have f263 : x262.toInt = y79_2.toInt + 8 * (f_tunes (i_rb.toInt).toNat).toInt + 40 * i_rb.toInt := (ob_720 (qi_add ex262 rfl rfl (ob_718 ie6 f5 g79_0 f261) (ob_719 ie7 hp1 g79_1 f261)) f261)
              refine lv_aload_n hx hb dX9_readTune_115 rfl (lv_at hl 0 rfl) ?_
              refine lv_iconst (v := 0) hx hb dX9_readTune_116 (by decide) ?_
              refine lv_bipush (v := 6) hx hb dX9_readTune_117 (by decide) ?_
              have hFc := frA hD hS hA
              refine va_calli (va_runV (As := [.int 0, .int 6]) (rest := [.int x262, .ref (r 12)]) ⟨hx, hb, hml, hown, hG⟩ (kX9_numeral l dC dI r ct i_taped i_size m79_i_faultKind m79_i_at m79_i_end m79_i_token m79_i_number i_bank i_rb i_codes i_within i_piled i_unitsInRule i_askHouse i_askTune i_acts i_undone i_laid i_knowns i_time f_text f_tunes f_houses f_hums f_told f_many f_ruleFrom f_ruleTo f_code f_eWhat f_eSign f_all f_kept f_was f_sTune f_boxAll m79_J m79_L 0 6 H158.size ⟨ie0, ie1, ie2, ie3, ie4, ie5, ie6, ie7, ie8, ie9, ie10, ie11, ie12, ie13, gi79_end_lo, gi79_end_hi, gi79_at_lo, gi79_fk_lo, ie18, ie19, ie20, ie21, ie22, ie23, ie24, ie25, ie26, ie27, ie28, ie29, ie30, ie31, ie32⟩ (ob_675 zc_6 zc_0)) (cwV 2 hG (goodV gw1432 gw1434 gw68 gw138 gw1435) rfl rfl rfl hd_X9_numeral ⟨(Nat.le_of_ble_eq_true rfl), (Nat.le_of_ble_eq_true rfl)⟩) ⟨fbW, va_recv hK hP (ci := 8) (q0 := 0) rfl rfl, pW_in hP hK hD⟩ rfl rfl hl.1 rfl (lv_room (Nat.le_of_ble_eq_true rfl)) dX9_readTune_119 ⟨(Nat.le_of_ble_eq_true rfl), (Nat.le_of_ble_eq_true rfl)⟩) hS (fun q _ h => hFc q h) hFc (fun r_265 u_ t_ H264 locs ht hvm hw hB hz1 hk1 hS => ?_)
              subst hw
              obtain ⟨x266, x267, x268, x269, x270, J271, L272, hP1, hD1, hI277, f273, f274, f275, f276⟩ := hB
              rw [ht] at hP1
              have hP := hP1
              have hD := dW hFc hD1
              obtain ⟨im278, im279, im280, im281, im282, im283, im284, im285, im286, im287, im288, im289, im290, im291, im292, im293, im294, im295, im296, im297, im298, im299, im300, im301, im302, im303, im304, im305, im306, im307, im308, im309, im310⟩ := id hI277
              refine stM_12 (mm := y79_2.toInt + 8 * (f_tunes (i_rb.toInt).toNat).toInt + 40 * i_rb.toInt) hx hb hK hP hD hS f263 (ob_721 ie6 f5 g79_0) (ob_722 ie7 hp1 f190) dX9_readTune_122 (fun J312 H311 locs hP hD hS => ?_)
              obtain ⟨x313, ex313⟩ : ∃ y : Int32, y = y79_2 + Int32.ofInt 1 := ⟨_, rfl⟩
              have f314 : x313.toInt = y79_2.toInt + 1 := (ob_142 (qi_add ex313 rfl (by decide) (ob_140 g79_0) (ob_642 g79_1)))
              refine lv_iinc (v := x313) (lv' := [(2, .int x313), (0, .ref (r 0)), (1, .int x6)]) hx hb dX9_readTune_123 hl (k := 2) rfl ex313.symm (by decide) rfl (fun ls hl => ?_)
              refine lv_goto (tgt := 79) hx hb dX9_readTune_126 (by decide) ?_
              exact ih79 x313 x266 x267 x268 x269 x270 J312 L272 H311 _ _ (ob_149 g79_0 f314) (ob_723 f190 f314) (ob_139 im295) (ob_139 im294) (ob_616 im292 im293 f275) (ob_206 ie3 im293) (ob_166 g79_6 f275) im292 im293 im294 im295 hP hD hS (lv_sub hl [1, 2, 0] rfl) (ob_644 hM79 f314)
  exact L79 (-1 * (0 : Int32).toInt + 8 + 1).toNat 0 x115 x116 x117 x118 x119 J120 L121 H113 _ _ (ob_1 zc_0) (ob_650 zc_0) (ob_139 im142) (ob_139 im141) (ob_616 im139 im140 f122) (ob_206 ie3 im140) (ob_725 f21 f70 f122) im139 im140 im141 im142 hP hD hS (lv_sub hl [2, 1, 0] rfl) (mlt (ob_651 zc_0))
set_option maxHeartbeats 4000000 in
set_option maxRecDepth 100000 in
theorem kX9_once_v2 (l : Launch) (dC : Nat → ClassId) (dI : Nat → Nat → Nat) (r : Nat → Nat) (ct : Nat → ClassId) (i_taped i_size i_faultKind i_at i_end i_token i_number i_bank i_rb i_codes i_within i_piled i_unitsInRule i_askHouse i_askTune i_acts i_undone i_laid i_knowns i_time : Int32) (f_text f_tunes f_houses f_hums f_told f_many f_ruleFrom f_ruleTo f_code f_eWhat f_eSign f_all f_kept f_was f_sTune f_boxAll : Nat → Int32) (J : Nat → Nat → Int32) (L : Nat → Nat → Int64) (p1 p2 : Int32) (sz : Nat) (hI : (IM i_taped i_size i_faultKind i_at i_end i_bank i_rb i_acts i_undone i_laid i_knowns i_time f_tunes f_houses f_hums f_told f_many f_ruleFrom f_ruleTo f_code f_all f_kept f_was f_sTune f_boxAll)) (hp0 : i_rb.toInt + i_bank.toInt = (1 : Int)) (hp1 : p1.toInt ≤ p2.toInt) (hp2 : (i_faultKind.toInt = 0 → RU i_rb f_told f_ruleFrom f_ruleTo f_code)) (hp3 : (¬ BT (f_told (i_rb.toInt).toNat) 1 → i_codes.toInt = 560 * i_rb.toInt)) : Met l yX9_once (.code yX9_once cX9_once 4 (some .int) :: GW) { frames := 8, cells := 0, slots := 0, locals := 287 } (va_Pc [.ref (r 0), .int 0, .int p1, .int p2] (pW (dC, dI) (WM r ct i_taped i_size i_faultKind i_at i_end i_token i_number i_bank i_rb i_codes i_within i_piled i_unitsInRule i_askHouse i_askTune i_acts i_undone i_laid i_knowns i_time f_text f_tunes f_houses f_hums f_told f_many f_ruleFrom f_ruleTo f_code f_eWhat f_eSign f_all f_kept f_was f_sTune f_boxAll J L) (TM ct) sz)) (va_Qi (fun (r0 : Int32) (u : Int32) => r0 = u) (fun (u : Int32) (t : State) => ∃ (n_i_faultKind n_i_at n_i_end n_i_token n_i_number : Int32) (n_f_told : Nat → Int32) (n_J : Nat → Nat → Int32) (n_L : Nat → Nat → Int64), va_P (dC, dI) vwCl (WM r ct i_taped i_size n_i_faultKind n_i_at n_i_end n_i_token n_i_number i_bank i_rb i_codes i_within i_piled i_unitsInRule i_askHouse i_askTune i_acts i_undone i_laid i_knowns i_time f_text f_tunes f_houses f_hums n_f_told f_many f_ruleFrom f_ruleTo f_code f_eWhat f_eSign f_all f_kept f_was f_sTune f_boxAll n_J n_L) t.heap ∧ va_D (va_A (WM r ct i_taped i_size i_faultKind i_at i_end i_token i_number i_bank i_rb i_codes i_within i_piled i_unitsInRule i_askHouse i_askTune i_acts i_undone i_laid i_knowns i_time f_text f_tunes f_houses f_hums f_told f_many f_ruleFrom f_ruleTo f_code f_eWhat f_eSign f_all f_kept f_was f_sTune f_boxAll J L) sz) (WM r ct i_taped i_size n_i_faultKind n_i_at n_i_end n_i_token n_i_number i_bank i_rb i_codes i_within i_piled i_unitsInRule i_askHouse i_askTune i_acts i_undone i_laid i_knowns i_time f_text f_tunes f_houses f_hums n_f_told f_many f_ruleFrom f_ruleTo f_code f_eWhat f_eSign f_all f_kept f_was f_sTune f_boxAll n_J n_L) ∧ (IM i_taped i_size n_i_faultKind n_i_at n_i_end i_bank i_rb i_acts i_undone i_laid i_knowns i_time f_tunes f_houses f_hums n_f_told f_many f_ruleFrom f_ruleTo f_code f_all f_kept f_was f_sTune f_boxAll) ∧ (p1.toInt ≤ u.toInt) ∧ (u.toInt ≤ p2.toInt) ∧ (i_end.toInt ≤ n_i_end.toInt) ∧ (((1 : Int) ≤ n_i_faultKind.toInt) ∨ ((n_i_faultKind.toInt = (0 : Int)) ∧ (i_faultKind.toInt = (0 : Int)) ∧ ((n_i_token.toInt = (0 : Int)) ∨ (i_end.toInt + 1 ≤ n_i_end.toInt)))) ∧ ((n_i_faultKind.toInt = 0 → RU i_rb n_f_told f_ruleFrom f_ruleTo f_code)) ∧ ((¬ BT (n_f_told (i_rb.toInt).toNat) 1 → i_codes.toInt = 560 * i_rb.toInt))) (va_A (WM r ct i_taped i_size i_faultKind i_at i_end i_token i_number i_bank i_rb i_codes i_within i_piled i_unitsInRule i_askHouse i_askTune i_acts i_undone i_laid i_knowns i_time f_text f_tunes f_houses f_hums f_told f_many f_ruleFrom f_ruleTo f_code f_eWhat f_eSign f_all f_kept f_was f_sTune f_boxAll J L) sz)) 0 0 (va_A (WM r ct i_taped i_size i_faultKind i_at i_end i_token i_number i_bank i_rb i_codes i_within i_piled i_unitsInRule i_askHouse i_askTune i_acts i_undone i_laid i_knowns i_time f_text f_tunes f_houses f_hums f_told f_many f_ruleFrom f_ruleTo f_code f_eWhat f_eSign f_all f_kept f_was f_sTune f_boxAll J L) sz) := by
  refine Met.ofW (cc := cX9_once) (maxL := 4) (ret := (some .int)) (by decide) rfl ?_
  intro p e s m args below meth c0 s₁ B hml hv
  obtain ⟨rfl, hsz, hP, hK, hD0⟩ := hv
  have hx := B.exec
  have hb := B.bytes
  have hr := B.returns
  have hts := atoms_spec (ws := .code yX9_once cX9_once 4 (some .int) :: GW) B.pre
  have hG : ∀ w ∈ GW, w.before _ s = true := fun w h => hts w (List.mem_cons_of_mem _ h)
  have hown : s.vm.findClass RX9 = some m.cls := findClass_of_methodNamed B.named
  subst hsz
  have hD := hD0.self (sz := s.heap.size)
  generalize hAe : va_A (WM r ct i_taped i_size i_faultKind i_at i_end i_token i_number i_bank i_rb i_codes i_within i_piled i_unitsInRule i_askHouse i_askTune i_acts i_undone i_laid i_knowns i_time f_text f_tunes f_houses f_hums f_told f_many f_ruleFrom f_ruleTo f_code f_eWhat f_eSign f_all f_kept f_was f_sTune f_boxAll J L) s.heap.size = A at hD ⊢
  have hA : ∀ q : Nat, s.heap.size ≤ q → A q := fun q h => by rw [← hAe]; exact Or.inr h
  have hS : va_S A s.heap s.heap [] := va_S.rf
  have hP : va_P (dC, dI) vwCl (WM r ct i_taped i_size i_faultKind i_at i_end i_token i_number i_bank i_rb i_codes i_within i_piled i_unitsInRule i_askHouse i_askTune i_acts i_undone i_laid i_knowns i_time f_text f_tunes f_houses f_hums f_told f_many f_ruleFrom f_ruleTo f_code f_eWhat f_eSign f_all f_kept f_was f_sTune f_boxAll J L) s.heap := hP
  have hl := lv_entry ([.ref (r 0), .int 0, .int p1, .int p2]) (n := 4) (Nat.le_of_ble_eq_true rfl)
  rw [lg_entry_eq]
  generalize (lg_sl ([.ref (r 0), .int 0, .int p1, .int p2]) ++ List.replicate (4 - (lg_sl ([.ref (r 0), .int 0, .int p1, .int p2])).length) Slot.unset).toArray = ls at hl ⊢
  have hl : lv_has ls 4 [(0, .ref (r 0)), (1, .int 0), (2, .int p1), (3, .int p2)] := hl
  refine nameQ (fun Q hQ => ?_)
  obtain ⟨ie0, ie1, ie2, ie3, ie4, ie5, ie6, ie7, ie8, ie9, ie10, ie11, ie12, ie13, ie14, ie15, ie16, ie17, ie18, ie19, ie20, ie21, ie22, ie23, ie24, ie25, ie26, ie27, ie28, ie29, ie30, ie31, ie32⟩ := id hI
  have f1 : 0 ≤ (f_tunes (i_bank.toInt).toNat).toInt ∧ (f_tunes (i_bank.toInt).toNat).toInt ≤ 5 := ie21 (i_bank.toInt)
  have f2 : 0 ≤ (f_houses (i_bank.toInt).toNat).toInt ∧ (f_houses (i_bank.toInt).toNat).toInt ≤ 4 := ie22 (i_bank.toInt)
  refine lv_aload_n hx hb dX9_once_0 rfl (lv_at hl 0 rfl) ?_
  refine gM_X9_39_0 hx hb hG hown hK hP dX9_once_1 ?_
  refine lv_aload_n hx hb dX9_once_4 rfl (lv_at hl 0 rfl) ?_
  refine gM_X9_240_0 hx hb hG hown hK hP dX9_once_5 ?_
  refine lv_dup2_11 hx hb dX9_once_8 rfl rfl ?_
  refine ldM_9 (mm := i_rb.toInt) hx hb hK hP rfl (ob_244 ie6 ie7 hp0) (ob_245 ie6 ie7 hp0) dX9_once_9 ?_
  have f3 : 0 ≤ (f_told (i_rb.toInt).toNat).toInt ∧ (f_told (i_rb.toInt).toNat).toInt ≤ 15 := ie25 (i_rb.toInt)
  refine lv_iconst (v := 1) hx hb dX9_once_10 (by decide) ?_
  refine lv_iload_n hx hb dX9_once_11 rfl (lv_at hl 1 rfl) ?_
  refine lv_ishl hx hb dX9_once_12 ?_
  refine wt_c (v := 1) (by decide) ?_
  refine lv_ior hx hb dX9_once_13 ?_
  refine lv_topi (fun x4 ex4 => ?_)
  have o5 := or1 ex4 (ob_302 f3) (ob_303 f3)
  refine stM_9 (mm := i_rb.toInt) hx hb hK hP hD hS rfl (ob_244 ie6 ie7 hp0) (ob_245 ie6 ie7 hp0) dX9_once_14 (fun z7 H6 locs ez7 hP hD hS => ?_)
  have g8 : EB 0 15 z7 := ez7 ▸ EB_upd ie25 (ob_302 o5.1) (ob_303 o5.1)
  refine lv_aload_n hx hb dX9_once_15 rfl (lv_at hl 0 rfl) ?_
  refine lv_iload_n hx hb dX9_once_16 rfl (lv_at hl 2 rfl) ?_
  refine lv_iload_n hx hb dX9_once_17 rfl (lv_at hl 3 rfl) ?_
  have hFc := frA hD hS hA
  refine va_calli (va_runV (As := [.int p1, .int p2]) (rest := []) ⟨hx, hb, hml, hown, hG⟩ (kX9_numeral l dC dI r ct i_taped i_size i_faultKind i_at i_end i_token i_number i_bank i_rb i_codes i_within i_piled i_unitsInRule i_askHouse i_askTune i_acts i_undone i_laid i_knowns i_time f_text f_tunes f_houses f_hums z7 f_many f_ruleFrom f_ruleTo f_code f_eWhat f_eSign f_all f_kept f_was f_sTune f_boxAll J L p1 p2 H6.size ⟨ie0, ie1, ie2, ie3, ie4, ie5, ie6, ie7, ie8, ie9, ie10, ie11, ie12, ie13, ie14, ie15, ie16, ie17, ie18, ie19, ie20, ie21, ie22, ie23, ie24, g8, ie26, ie27, ie28, ie29, ie30, ie31, (RU_told ie32 ez7 (ob_244 ie6 ie7 hp0) (ob_249 ie4 ie5 hp0) (ob_250 hp0))⟩ (ob_145 hp1)) (cwV 2 hG (goodV gw1432 gw1434 gw68 gw138 gw1435) rfl rfl rfl hd_X9_numeral ⟨(Nat.le_of_ble_eq_true rfl), (Nat.le_of_ble_eq_true rfl)⟩) ⟨fbW, va_recv hK hP (ci := 8) (q0 := 0) rfl rfl, pW_in hP hK hD⟩ rfl rfl hl.1 rfl (lv_room (Nat.le_of_ble_eq_true rfl)) dX9_once_18 ⟨(Nat.le_of_ble_eq_true rfl), (Nat.le_of_ble_eq_true rfl)⟩) hS (fun q _ h => hFc q h) hFc (fun r_10 u_ t_ H9 locs ht hvm hw hB hz1 hk1 hS => ?_)
  subst hw
  obtain ⟨x11, x12, x13, x14, x15, J16, L17, hP1, hD1, hI22, f18, f19, f20, f21⟩ := hB
  rw [ht] at hP1
  have hP := hP1
  have hD := dW hFc hD1
  obtain ⟨im23, im24, im25, im26, im27, im28, im29, im30, im31, im32, im33, im34, im35, im36, im37, im38, im39, im40, im41, im42, im43, im44, im45, im46, im47, im48, im49, im50, im51, im52, im53, im54, im55⟩ := id hI22
  rw [hQ]
  exact W.iret (v := r_10) hx hb hr (fun t ht hW => ⟨⟨r_10, r_10, rfl, rfl, ⟨x11, x12, x13, x14, x15, z7, J16, L17, by rw [ht]; exact hP, hD, hI22, (ob_236 hp1 f18 f19), (ob_237 hp1 f18 f19), (ob_145 f20), (ob_304 f21), (fun h => RU_or (hp2 (ob_305 f21 h)) ez7 o5.2.1), (RC_or hp3 ez7 o5.2.2)⟩⟩, hS.F ht⟩) hS.2.2 dX9_once_21
