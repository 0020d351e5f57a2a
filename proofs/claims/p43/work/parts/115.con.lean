set_option maxHeartbeats 4000000 in
set_option maxRecDepth 100000 in
theorem kX9_isRest (l : Launch) (dC : Nat → ClassId) (dI : Nat → Nat → Nat) (r : Nat → Nat) (ct : Nat → ClassId) (i_taped i_size i_faultKind i_at i_end i_token i_number i_bank i_rb i_codes i_within i_piled i_unitsInRule i_askHouse i_askTune i_acts i_undone i_laid i_knowns i_time : Int32) (f_text f_tunes f_houses f_hums f_told f_many f_ruleFrom f_ruleTo f_code f_eWhat f_eSign f_all f_kept f_was f_sTune f_boxAll : Nat → Int32) (J : Nat → Nat → Int32) (L : Nat → Nat → Int64) (p0 p1 p2 p3 : Int32) (sz : Nat) (hI : (IM i_taped i_size i_faultKind i_at i_end i_bank i_rb i_acts i_undone i_laid i_knowns i_time f_tunes f_houses f_hums f_told f_many f_ruleFrom f_ruleTo f_code f_all f_kept f_was f_sTune f_boxAll)) (hp0 : (0 : Int) ≤ p0.toInt) (hp1 : p0.toInt + 1 ≤ (f_houses (i_bank.toInt).toNat).toInt) (hp2 : (0 : Int) ≤ p1.toInt) (hp3 : p1.toInt + 1 ≤ (f_houses (i_bank.toInt).toNat).toInt) (hp4 : (0 : Int) ≤ p2.toInt) (hp5 : p2.toInt + 1 ≤ (f_tunes (i_bank.toInt).toNat).toInt) (hp6 : (0 : Int) ≤ p3.toInt) (hp7 : p3.toInt + 1 ≤ (f_tunes (i_bank.toInt).toNat).toInt) : Met l yX9_isRest (.code yX9_isRest cX9_isRest 6 (some .boolean) :: GW) { frames := 22, cells := 0, slots := 0, locals := 730 } (va_Pc [.ref (r 0), .int p0, .int p1, .int p2, .int p3] (pW (dC, dI) (WM r ct i_taped i_size i_faultKind i_at i_end i_token i_number i_bank i_rb i_codes i_within i_piled i_unitsInRule i_askHouse i_askTune i_acts i_undone i_laid i_knowns i_time f_text f_tunes f_houses f_hums f_told f_many f_ruleFrom f_ruleTo f_code f_eWhat f_eSign f_all f_kept f_was f_sTune f_boxAll J L) (TM ct) sz)) (va_Qi (fun (r0 : Int32) (u : Int32) => r0 = u) (fun (u : Int32) (t : State) => ∃ (n_i_askHouse n_i_askTune : Int32) (n_J : Nat → Nat → Int32), va_P (dC, dI) vwCl (WM r ct i_taped i_size i_faultKind i_at i_end i_token i_number i_bank i_rb i_codes i_within i_piled i_unitsInRule n_i_askHouse n_i_askTune i_acts i_undone i_laid i_knowns i_time f_text f_tunes f_houses f_hums f_told f_many f_ruleFrom f_ruleTo f_code f_eWhat f_eSign f_all f_kept f_was f_sTune f_boxAll n_J L) t.heap ∧ va_D (va_A (WM r ct i_taped i_size i_faultKind i_at i_end i_token i_number i_bank i_rb i_codes i_within i_piled i_unitsInRule i_askHouse i_askTune i_acts i_undone i_laid i_knowns i_time f_text f_tunes f_houses f_hums f_told f_many f_ruleFrom f_ruleTo f_code f_eWhat f_eSign f_all f_kept f_was f_sTune f_boxAll J L) sz) (WM r ct i_taped i_size i_faultKind i_at i_end i_token i_number i_bank i_rb i_codes i_within i_piled i_unitsInRule n_i_askHouse n_i_askTune i_acts i_undone i_laid i_knowns i_time f_text f_tunes f_houses f_hums f_told f_many f_ruleFrom f_ruleTo f_code f_eWhat f_eSign f_all f_kept f_was f_sTune f_boxAll n_J L) ∧ (IM i_taped i_size i_faultKind i_at i_end i_bank i_rb i_acts i_undone i_laid i_knowns i_time f_tunes f_houses f_hums f_told f_many f_ruleFrom f_ruleTo f_code f_all f_kept f_was f_sTune f_boxAll) ∧ (((u.toInt = (1 : Int))) ∨ ((u.toInt = (0 : Int)))) ∧ ((0 : Int) ≤ u.toInt) ∧ (u.toInt ≤ (1 : Int))) (va_A (WM r ct i_taped i_size i_faultKind i_at i_end i_token i_number i_bank i_rb i_codes i_within i_piled i_unitsInRule i_askHouse i_askTune i_acts i_undone i_laid i_knowns i_time f_text f_tunes f_houses f_hums f_told f_many f_ruleFrom f_ruleTo f_code f_eWhat f_eSign f_all f_kept f_was f_sTune f_boxAll J L) sz)) 0 0 (va_A (WM r ct i_taped i_size i_faultKind i_at i_end i_token i_number i_bank i_rb i_codes i_within i_piled i_unitsInRule i_askHouse i_askTune i_acts i_undone i_laid i_knowns i_time f_text f_tunes f_houses f_hums f_told f_many f_ruleFrom f_ruleTo f_code f_eWhat f_eSign f_all f_kept f_was f_sTune f_boxAll J L) sz) := by
  refine Met.ofW (cc := cX9_isRest) (maxL := 6) (ret := (some .boolean)) (by decide) rfl ?_
  intro p e s m args below meth c0 s₁ B hml hv
  obtain ⟨rfl, hsz, hP, hK, hD0⟩ := hv
  have hx := B.exec
  have hb := B.bytes
  have hr := B.returns
  have hts := atoms_spec (ws := .code yX9_isRest cX9_isRest 6 (some .boolean) :: GW) B.pre
  have hG : ∀ w ∈ GW, w.before _ s = true := fun w h => hts w (List.mem_cons_of_mem _ h)
  have hown : s.vm.findClass RX9 = some m.cls := findClass_of_methodNamed B.named
  subst hsz
  have hD := hD0.self (sz := s.heap.size)
  generalize hAe : va_A (WM r ct i_taped i_size i_faultKind i_at i_end i_token i_number i_bank i_rb i_codes i_within i_piled i_unitsInRule i_askHouse i_askTune i_acts i_undone i_laid i_knowns i_time f_text f_tunes f_houses f_hums f_told f_many f_ruleFrom f_ruleTo f_code f_eWhat f_eSign f_all f_kept f_was f_sTune f_boxAll J L) s.heap.size = A at hD ⊢
  have hA : ∀ q : Nat, s.heap.size ≤ q → A q := fun q h => by rw [← hAe]; exact Or.inr h
  have hS : va_S A s.heap s.heap [] := va_S.rf
  have hP : va_P (dC, dI) vwCl (WM r ct i_taped i_size i_faultKind i_at i_end i_token i_number i_bank i_rb i_codes i_within i_piled i_unitsInRule i_askHouse i_askTune i_acts i_undone i_laid i_knowns i_time f_text f_tunes f_houses f_hums f_told f_many f_ruleFrom f_ruleTo f_code f_eWhat f_eSign f_all f_kept f_was f_sTune f_boxAll J L) s.heap := hP
  have hl := lv_entry ([.ref (r 0), .int p0, .int p1, .int p2, .int p3]) (n := 6) (Nat.le_of_ble_eq_true rfl)
  rw [lg_entry_eq]
  generalize (lg_sl ([.ref (r 0), .int p0, .int p1, .int p2, .int p3]) ++ List.replicate (6 - (lg_sl ([.ref (r 0), .int p0, .int p1, .int p2, .int p3])).length) Slot.unset).toArray = ls at hl ⊢
  have hl : lv_has ls 6 [(0, .ref (r 0)), (1, .int p0), (2, .int p1), (3, .int p2), (4, .int p3)] := hl
  refine nameQ (fun Q hQ => ?_)
  obtain ⟨ie0, ie1, ie2, ie3, ie4, ie5, ie6, ie7, ie8, ie9, ie10, ie11, ie12, ie13, ie14, ie15, ie16, ie17, ie18, ie19, ie20, ie21, ie22, ie23, ie24, ie25, ie26, ie27, ie28, ie29, ie30, ie31, ie32⟩ := id hI
  have f1 : 0 ≤ (f_tunes (i_bank.toInt).toNat).toInt ∧ (f_tunes (i_bank.toInt).toNat).toInt ≤ 5 := ie21 (i_bank.toInt)
  have f2 : 0 ≤ (f_houses (i_bank.toInt).toNat).toInt ∧ (f_houses (i_bank.toInt).toNat).toInt ≤ 4 := ie22 (i_bank.toInt)
  refine lv_iconst (v := 0) hx hb dX9_isRest_0 (by decide) ?_
  refine lv_istore (lv' := [(5, .int 0), (0, .ref (r 0)), (1, .int p0), (2, .int p1), (3, .int p2), (4, .int p3)]) hx hb dX9_isRest_1 hl (by decide) rfl (fun ls hl => ?_)
  have L3 : ∀ (N3 : Nat) (y3_5 : Int32) (m3_i_askHouse m3_i_askTune : Int32) (m3_J : Nat → Nat → Int32) (H3 : Heap) (locs : List Loc) (ls : Array Slot) (g3_0 : (0 : Int) ≤ y3_5.toInt) (g3_1 : y3_5.toInt ≤ (5 : Int)) (hP : va_P (dC, dI) vwCl (WM r ct i_taped i_size i_faultKind i_at i_end i_token i_number i_bank i_rb i_codes i_within i_piled i_unitsInRule m3_i_askHouse m3_i_askTune i_acts i_undone i_laid i_knowns i_time f_text f_tunes f_houses f_hums f_told f_many f_ruleFrom f_ruleTo f_code f_eWhat f_eSign f_all f_kept f_was f_sTune f_boxAll m3_J L) H3) (hD : va_D A (WM r ct i_taped i_size i_faultKind i_at i_end i_token i_number i_bank i_rb i_codes i_within i_piled i_unitsInRule m3_i_askHouse m3_i_askTune i_acts i_undone i_laid i_knowns i_time f_text f_tunes f_houses f_hums f_told f_many f_ruleFrom f_ruleTo f_code f_eWhat f_eSign f_all f_kept f_was f_sTune f_boxAll m3_J L)) (hS : va_S A s.heap H3 locs) (hl : lv_has ls 6 [(0, .ref (r 0)), (1, .int p0), (2, .int p1), (3, .int p2), (4, .int p3), (5, .int y3_5)]) (hM : -1 * y3_5.toInt + 5 < (N3 : Int)), W p l e { frames := 22, cells := 0, slots := 0, locals := 730 } s m ([.ref (r 0), .int p0, .int p1, .int p2, .int p3] : List Value).toArray below meth c0 H3 locs 0 0 Q (F0 m 3 ls []) := by
    intro N3
    induction N3 with
    | zero =>
      intro y3_5 m3_i_askHouse m3_i_askTune m3_J H3 locs ls g3_0 g3_1 hP hD hS hl hM
      exact ((ob_777 hM g3_0 g3_1)).elim
    | succ N3 ih3 =>
      intro y3_5 m3_i_askHouse m3_i_askTune m3_J H3 locs ls g3_0 g3_1 hP hD hS hl hM
      have hM3 := msucc hM
      refine lv_iload hx hb dX9_isRest_3 (lv_at hl 5 rfl) ?_
      refine lv_aload_n hx hb dX9_isRest_5 rfl (lv_at hl 0 rfl) ?_
      refine va_calli (va_runV (As := []) (rest := [.int y3_5]) ⟨hx, hb, hml, hown, hG⟩ (kX9_songs l dC dI r ct i_taped i_size i_faultKind i_at i_end i_token i_number i_bank i_rb i_codes i_within i_piled i_unitsInRule m3_i_askHouse m3_i_askTune i_acts i_undone i_laid i_knowns i_time f_text f_tunes f_houses f_hums f_told f_many f_ruleFrom f_ruleTo f_code f_eWhat f_eSign f_all f_kept f_was f_sTune f_boxAll m3_J L H3.size hI) (cwV 0 hG (goodV gw1512 gw1514 gw86 gw138 gw1515) rfl rfl rfl hd_X9_songs ⟨(Nat.le_of_ble_eq_true rfl), (Nat.le_of_ble_eq_true rfl)⟩) ⟨fbR, va_recv hK hP (ci := 8) (q0 := 0) rfl rfl, pR_in hP hK⟩ rfl rfl hl.1 rfl (lv_room (Nat.le_of_ble_eq_true rfl)) dX9_isRest_6 ⟨(Nat.le_of_ble_eq_true rfl), (Nat.le_of_ble_eq_true rfl)⟩) hS (fun q hq h => absurd hq (Nat.not_lt.mpr h)) (fun q h => hA q (Nat.le_trans hS.1 h)) (fun r_4 u_ t_ H3 locs ht hvm hw hB hz1 hk1 hS => ?_)
      subst hw
      have hP := wk hP hk1
      have f5 := hB
      have f6 : r_4.toInt = (f_tunes (i_bank.toInt).toNat).toInt := (ob_6 f5)
      refine lv_icmp_ge (tgt := 68) hx hb dX9_isRest_9 (by decide) (fun c_7 => ?_) (fun c_7 => ?_)
      · skip
        have f8 : r_4.toInt ≤ y3_5.toInt := qi_le c_7 rfl rfl
        refine lv_iconst (v := 1) hx hb dX9_isRest_68 (by decide) ?_
        rw [hQ]
        exact W.zret (v := 1) hx hb hr (by decide) (fun t ht hW => ⟨⟨1, 1, rfl, rfl, ⟨m3_i_askHouse, m3_i_askTune, m3_J, by rw [ht]; exact hP, hD, hI, (ob_1280 zc_1), (ob_14 zc_1), (ob_15 zc_1)⟩⟩, hS.F ht⟩) hS.2.2 dX9_isRest_69
      · skip
        have f9 : y3_5.toInt < r_4.toInt := qi_nle c_7 rfl rfl
        refine lv_aload_n hx hb dX9_isRest_12 rfl (lv_at hl 0 rfl) ?_
        refine lv_iload hx hb dX9_isRest_13 (lv_at hl 5 rfl) ?_
        refine va_calli (va_runV (As := [.int y3_5]) (rest := []) ⟨hx, hb, hml, hown, hG⟩ (kX9_isOnCart l dC dI r ct i_taped i_size i_faultKind i_at i_end i_token i_number i_bank i_rb i_codes i_within i_piled i_unitsInRule m3_i_askHouse m3_i_askTune i_acts i_undone i_laid i_knowns i_time f_text f_tunes f_houses f_hums f_told f_many f_ruleFrom f_ruleTo f_code f_eWhat f_eSign f_all f_kept f_was f_sTune f_boxAll m3_J L y3_5 H3.size hI (ob_139 g3_0) (ob_1054 f9 f6)) (cwV 1 hG (goodV gw1704 gw1706 gw111 gw138 gw1707) rfl rfl rfl hd_X9_isOnCart ⟨(Nat.le_of_ble_eq_true rfl), (Nat.le_of_ble_eq_true rfl)⟩) ⟨fbR, va_recv hK hP (ci := 8) (q0 := 0) rfl rfl, pR_in hP hK⟩ rfl rfl hl.1 rfl (lv_room (Nat.le_of_ble_eq_true rfl)) dX9_isRest_15 ⟨(Nat.le_of_ble_eq_true rfl), (Nat.le_of_ble_eq_true rfl)⟩) hS (fun q hq h => absurd hq (Nat.not_lt.mpr h)) (fun q h => hA q (Nat.le_trans hS.1 h)) (fun r_11 u_ t_ H10 locs ht hvm hw hB hz1 hk1 hS => ?_)
        subst hw
        have hP := wk hP hk1
        obtain ⟨f12, f13, f14⟩ := hB
        refine lv_if_eq (tgt := 62) hx hb dX9_isRest_18 (by decide) (fun c_15 => ?_) (fun c_15 => ?_)
        · skip
          have f16 : r_11.toInt = 0 := qi_eq c_15 rfl zc_0
          have f17 : (f_all (y3_5.toInt).toNat).toInt + 1 ≠ (0 : Int) := (ob_1204 f12 f16)
          have f18 : r_11.toInt = (0 : Int) := (ob_226 f13 f14 f16)
          obtain ⟨x19, ex19⟩ : ∃ y : Int32, y = y3_5 + Int32.ofInt 1 := ⟨_, rfl⟩
          have f20 : x19.toInt = y3_5.toInt + 1 := (ob_142 (qi_add ex19 rfl (by decide) (ob_140 g3_0) (ob_804 g3_1)))
          refine lv_iinc (v := x19) (lv' := [(5, .int x19), (0, .ref (r 0)), (1, .int p0), (2, .int p1), (3, .int p2), (4, .int p3)]) hx hb dX9_isRest_62 hl (k := 5) rfl ex19.symm (by decide) rfl (fun ls hl => ?_)
          refine lv_goto (tgt := 3) hx hb dX9_isRest_65 (by decide) ?_
          exact ih3 x19 m3_i_askHouse m3_i_askTune m3_J H10 _ _ (ob_149 g3_0 f20) (ob_1047 f1 f9 f6 f20) hP hD hS (lv_sub hl [1, 2, 3, 4, 5, 0] rfl) (ob_806 hM3 f20)
        · skip
          have f21 : r_11.toInt ≠ 0 := qi_ne c_15 rfl zc_0
          have f22 : (f_all (y3_5.toInt).toNat).toInt + 1 = (0 : Int) := (ob_1205 f12 f21)
          have f23 : r_11.toInt = (1 : Int) := (ob_1206 f12 f21)
          have f24 : (1 : Int) ≤ r_11.toInt := (ob_162 f13 f14 f23)
          refine lv_aload_n hx hb dX9_isRest_21 rfl (lv_at hl 0 rfl) ?_
          refine lv_iload_n hx hb dX9_isRest_22 rfl (lv_at hl 1 rfl) ?_
          refine lv_iload hx hb dX9_isRest_23 (lv_at hl 5 rfl) ?_
          refine lv_iload hx hb dX9_isRest_25 (lv_at hl 4 rfl) ?_
          have hFc := frA hD hS hA
          refine va_calli (va_runV (As := [.int p0, .int y3_5, .int p3]) (rest := []) ⟨hx, hb, hml, hown, hG⟩ (kX9_gainOf l dC dI r ct i_taped i_size i_faultKind i_at i_end i_token i_number i_bank i_rb i_codes i_within i_piled i_unitsInRule m3_i_askHouse m3_i_askTune i_acts i_undone i_laid i_knowns i_time f_text f_tunes f_houses f_hums f_told f_many f_ruleFrom f_ruleTo f_code f_eWhat f_eSign f_all f_kept f_was f_sTune f_boxAll m3_J L p0 y3_5 p3 H10.size hI (ob_880 hp0 hp1) (ob_1060 hp1) (ob_139 g3_0) (ob_1054 f9 f6)) (cwV 3 hG (goodV gw1806 gw1808 gw121 gw138 gw1809) rfl rfl rfl hd_X9_gainOf ⟨(Nat.le_of_ble_eq_true rfl), (Nat.le_of_ble_eq_true rfl)⟩) ⟨fbW, va_recv hK hP (ci := 8) (q0 := 0) rfl rfl, pW_in hP hK hD⟩ rfl rfl hl.1 rfl (lv_room (Nat.le_of_ble_eq_true rfl)) dX9_isRest_27 ⟨(Nat.le_of_ble_eq_true rfl), (Nat.le_of_ble_eq_true rfl)⟩) hS (fun q _ h => hFc q h) hFc (fun r_26 u_ t_ H25 locs ht hvm hw hB hz1 hk1 hS => ?_)
          subst hw
          obtain ⟨x27, x28, J29, hP1, hD1, hI31, f30⟩ := hB
          rw [ht] at hP1
          have hP := hP1
          have hD := dW hFc hD1
          obtain ⟨im32, im33, im34, im35, im36, im37, im38, im39, im40, im41, im42, im43, im44, im45, im46, im47, im48, im49, im50, im51, im52, im53, im54, im55, im56, im57, im58, im59, im60, im61, im62, im63, im64⟩ := id hI31
          refine lv_aload_n hx hb dX9_isRest_30 rfl (lv_at hl 0 rfl) ?_
          refine lv_iload_n hx hb dX9_isRest_31 rfl (lv_at hl 1 rfl) ?_
          refine lv_iload_n hx hb dX9_isRest_32 rfl (lv_at hl 3 rfl) ?_
          refine lv_iload hx hb dX9_isRest_33 (lv_at hl 4 rfl) ?_
          have hFc := frA hD hS hA
          refine va_calli (va_runV (As := [.int p0, .int p2, .int p3]) (rest := [.int r_26]) ⟨hx, hb, hml, hown, hG⟩ (kX9_gainOf l dC dI r ct i_taped i_size i_faultKind i_at i_end i_token i_number i_bank i_rb i_codes i_within i_piled i_unitsInRule x27 x28 i_acts i_undone i_laid i_knowns i_time f_text f_tunes f_houses f_hums f_told f_many f_ruleFrom f_ruleTo f_code f_eWhat f_eSign f_all f_kept f_was f_sTune f_boxAll J29 L p0 p2 p3 H25.size hI31 (ob_880 hp0 hp1) (ob_1060 hp1) (ob_880 hp4 hp5) (ob_1060 hp5)) (cwV 3 hG (goodV gw1806 gw1808 gw121 gw138 gw1809) rfl rfl rfl hd_X9_gainOf ⟨(Nat.le_of_ble_eq_true rfl), (Nat.le_of_ble_eq_true rfl)⟩) ⟨fbW, va_recv hK hP (ci := 8) (q0 := 0) rfl rfl, pW_in hP hK hD⟩ rfl rfl hl.1 rfl (lv_room (Nat.le_of_ble_eq_true rfl)) dX9_isRest_35 ⟨(Nat.le_of_ble_eq_true rfl), (Nat.le_of_ble_eq_true rfl)⟩) hS (fun q _ h => hFc q h) hFc (fun r_66 u_ t_ H65 locs ht hvm hw hB hz1 hk1 hS => ?_)
          subst hw
          obtain ⟨x67, x68, J69, hP1, hD1, hI71, f70⟩ := hB
          rw [ht] at hP1
          have hP := hP1
          have hD := dW hFc hD1
          obtain ⟨im72, im73, im74, im75, im76, im77, im78, im79, im80, im81, im82, im83, im84, im85, im86, im87, im88, im89, im90, im91, im92, im93, im94, im95, im96, im97, im98, im99, im100, im101, im102, im103, im104⟩ := id hI71
          refine lv_icmp_gt (tgt := 60) hx hb dX9_isRest_38 (by decide) (fun c_105 => ?_) (fun c_105 => ?_)
          · skip
            have f106 : r_66.toInt < r_26.toInt := qi_lt c_105 rfl rfl
            refine lv_iconst (v := 0) hx hb dX9_isRest_60 (by decide) ?_
            rw [hQ]
            exact W.zret (v := 0) hx hb hr (by decide) (fun t ht hW => ⟨⟨0, 0, rfl, rfl, ⟨x67, x68, J69, by rw [ht]; exact hP, hD, hI71, (ob_1288 zc_0), (ob_1 zc_0), (ob_11 zc_0)⟩⟩, hS.F ht⟩) hS.2.2 dX9_isRest_61
          · skip
            have f107 : r_26.toInt ≤ r_66.toInt := qi_nlt c_105 rfl rfl
            refine lv_aload_n hx hb dX9_isRest_41 rfl (lv_at hl 0 rfl) ?_
            refine lv_iload_n hx hb dX9_isRest_42 rfl (lv_at hl 2 rfl) ?_
            refine lv_iload hx hb dX9_isRest_43 (lv_at hl 5 rfl) ?_
            refine lv_iload_n hx hb dX9_isRest_45 rfl (lv_at hl 3 rfl) ?_
            have hFc := frA hD hS hA
            refine va_calli (va_runV (As := [.int p1, .int y3_5, .int p2]) (rest := []) ⟨hx, hb, hml, hown, hG⟩ (kX9_gainOf l dC dI r ct i_taped i_size i_faultKind i_at i_end i_token i_number i_bank i_rb i_codes i_within i_piled i_unitsInRule x67 x68 i_acts i_undone i_laid i_knowns i_time f_text f_tunes f_houses f_hums f_told f_many f_ruleFrom f_ruleTo f_code f_eWhat f_eSign f_all f_kept f_was f_sTune f_boxAll J69 L p1 y3_5 p2 H65.size hI71 (ob_880 hp2 hp3) (ob_1060 hp3) (ob_139 g3_0) (ob_1054 f9 f6)) (cwV 3 hG (goodV gw1806 gw1808 gw121 gw138 gw1809) rfl rfl rfl hd_X9_gainOf ⟨(Nat.le_of_ble_eq_true rfl), (Nat.le_of_ble_eq_true rfl)⟩) ⟨fbW, va_recv hK hP (ci := 8) (q0 := 0) rfl rfl, pW_in hP hK hD⟩ rfl rfl hl.1 rfl (lv_room (Nat.le_of_ble_eq_true rfl)) dX9_isRest_46 ⟨(Nat.le_of_ble_eq_true rfl), (Nat.le_of_ble_eq_true rfl)⟩) hS (fun q _ h => hFc q h) hFc (fun r_109 u_ t_ H108 locs ht hvm hw hB hz1 hk1 hS => ?_)
            subst hw
            obtain ⟨x110, x111, J112, hP1, hD1, hI114, f113⟩ := hB
            rw [ht] at hP1
            have hP := hP1
            have hD := dW hFc hD1
            obtain ⟨im115, im116, im117, im118, im119, im120, im121, im122, im123, im124, im125, im126, im127, im128, im129, im130, im131, im132, im133, im134, im135, im136, im137, im138, im139, im140, im141, im142, im143, im144, im145, im146, im147⟩ := id hI114
            refine lv_aload_n hx hb dX9_isRest_49 rfl (lv_at hl 0 rfl) ?_
            refine lv_iload_n hx hb dX9_isRest_50 rfl (lv_at hl 2 rfl) ?_
            refine lv_iload hx hb dX9_isRest_51 (lv_at hl 4 rfl) ?_
            refine lv_iload_n hx hb dX9_isRest_53 rfl (lv_at hl 3 rfl) ?_
            have hFc := frA hD hS hA
            refine va_calli (va_runV (As := [.int p1, .int p3, .int p2]) (rest := [.int r_109]) ⟨hx, hb, hml, hown, hG⟩ (kX9_gainOf l dC dI r ct i_taped i_size i_faultKind i_at i_end i_token i_number i_bank i_rb i_codes i_within i_piled i_unitsInRule x110 x111 i_acts i_undone i_laid i_knowns i_time f_text f_tunes f_houses f_hums f_told f_many f_ruleFrom f_ruleTo f_code f_eWhat f_eSign f_all f_kept f_was f_sTune f_boxAll J112 L p1 p3 p2 H108.size hI114 (ob_880 hp2 hp3) (ob_1060 hp3) (ob_880 hp6 hp7) (ob_1060 hp7)) (cwV 3 hG (goodV gw1806 gw1808 gw121 gw138 gw1809) rfl rfl rfl hd_X9_gainOf ⟨(Nat.le_of_ble_eq_true rfl), (Nat.le_of_ble_eq_true rfl)⟩) ⟨fbW, va_recv hK hP (ci := 8) (q0 := 0) rfl rfl, pW_in hP hK hD⟩ rfl rfl hl.1 rfl (lv_room (Nat.le_of_ble_eq_true rfl)) dX9_isRest_54 ⟨(Nat.le_of_ble_eq_true rfl), (Nat.le_of_ble_eq_true rfl)⟩) hS (fun q _ h => hFc q h) hFc (fun r_149 u_ t_ H148 locs ht hvm hw hB hz1 hk1 hS => ?_)
            subst hw
            obtain ⟨x150, x151, J152, hP1, hD1, hI154, f153⟩ := hB
            rw [ht] at hP1
            have hP := hP1
            have hD := dW hFc hD1
            obtain ⟨im155, im156, im157, im158, im159, im160, im161, im162, im163, im164, im165, im166, im167, im168, im169, im170, im171, im172, im173, im174, im175, im176, im177, im178, im179, im180, im181, im182, im183, im184, im185, im186, im187⟩ := id hI154
            refine lv_icmp_le (tgt := 62) hx hb dX9_isRest_57 (by decide) (fun c_188 => ?_) (fun c_188 => ?_)
            · skip
              have f189 : r_109.toInt ≤ r_149.toInt := qi_le c_188 rfl rfl
              obtain ⟨x190, ex190⟩ : ∃ y : Int32, y = y3_5 + Int32.ofInt 1 := ⟨_, rfl⟩
              have f191 : x190.toInt = y3_5.toInt + 1 := (ob_142 (qi_add ex190 rfl (by decide) (ob_140 g3_0) (ob_804 g3_1)))
              refine lv_iinc (v := x190) (lv' := [(5, .int x190), (0, .ref (r 0)), (1, .int p0), (2, .int p1), (3, .int p2), (4, .int p3)]) hx hb dX9_isRest_62 hl (k := 5) rfl ex190.symm (by decide) rfl (fun ls hl => ?_)
              refine lv_goto (tgt := 3) hx hb dX9_isRest_65 (by decide) ?_
              exact ih3 x190 x150 x151 J152 H148 _ _ (ob_149 g3_0 f191) (ob_1047 f1 f9 f6 f191) hP hD hS (lv_sub hl [1, 2, 3, 4, 5, 0] rfl) (ob_806 hM3 f191)
            · skip
              have f192 : r_149.toInt < r_109.toInt := qi_nle c_188 rfl rfl
              refine lv_iconst (v := 0) hx hb dX9_isRest_60 (by decide) ?_
              rw [hQ]
              exact W.zret (v := 0) hx hb hr (by decide) (fun t ht hW => ⟨⟨0, 0, rfl, rfl, ⟨x150, x151, J152, by rw [ht]; exact hP, hD, hI154, (ob_1288 zc_0), (ob_1 zc_0), (ob_11 zc_0)⟩⟩, hS.F ht⟩) hS.2.2 dX9_isRest_61
  exact L3 (-1 * (0 : Int32).toInt + 5 + 1).toNat 0 i_askHouse i_askTune J s.heap _ _ (ob_1 zc_0) (ob_807 zc_0) hP hD hS (lv_sub hl [1, 2, 3, 4, 5, 0] rfl) (mlt (ob_808 zc_0))
set_option maxHeartbeats 4000000 in
set_option maxRecDepth 100000 in
theorem kX9_rivals (l : Launch) (dC : Nat → ClassId) (dI : Nat → Nat → Nat) (r : Nat → Nat) (ct : Nat → ClassId) (i_taped i_size i_faultKind i_at i_end i_token i_number i_bank i_rb i_codes i_within i_piled i_unitsInRule i_askHouse i_askTune i_acts i_undone i_laid i_knowns i_time : Int32) (f_text f_tunes f_houses f_hums f_told f_many f_ruleFrom f_ruleTo f_code f_eWhat f_eSign f_all f_kept f_was f_sTune f_boxAll : Nat → Int32) (J : Nat → Nat → Int32) (L : Nat → Nat → Int64) (p0 p1 : Int32) (sz : Nat) (hI : (IM i_taped i_size i_faultKind i_at i_end i_bank i_rb i_acts i_undone i_laid i_knowns i_time f_tunes f_houses f_hums f_told f_many f_ruleFrom f_ruleTo f_code f_all f_kept f_was f_sTune f_boxAll)) : Met l yX9_rivals (.code yX9_rivals cX9_rivals 8 (some .int) :: GW) { frames := 24, cells := 0, slots := 0, locals := 795 } (va_Pc [.ref (r 0), .int p0, .int p1] (pW (dC, dI) (WM r ct i_taped i_size i_faultKind i_at i_end i_token i_number i_bank i_rb i_codes i_within i_piled i_unitsInRule i_askHouse i_askTune i_acts i_undone i_laid i_knowns i_time f_text f_tunes f_houses f_hums f_told f_many f_ruleFrom f_ruleTo f_code f_eWhat f_eSign f_all f_kept f_was f_sTune f_boxAll J L) (TM ct) sz)) (va_Qi (fun (r0 : Int32) (u : Int32) => r0 = u) (fun (u : Int32) (t : State) => ∃ (n_i_askHouse n_i_askTune n_i_laid : Int32) (n_J : Nat → Nat → Int32), va_P (dC, dI) vwCl (WM r ct i_taped i_size i_faultKind i_at i_end i_token i_number i_bank i_rb i_codes i_within i_piled i_unitsInRule n_i_askHouse n_i_askTune i_acts i_undone n_i_laid i_knowns i_time f_text f_tunes f_houses f_hums f_told f_many f_ruleFrom f_ruleTo f_code f_eWhat f_eSign f_all f_kept f_was f_sTune f_boxAll n_J L) t.heap ∧ va_D (va_A (WM r ct i_taped i_size i_faultKind i_at i_end i_token i_number i_bank i_rb i_codes i_within i_piled i_unitsInRule i_askHouse i_askTune i_acts i_undone i_laid i_knowns i_time f_text f_tunes f_houses f_hums f_told f_many f_ruleFrom f_ruleTo f_code f_eWhat f_eSign f_all f_kept f_was f_sTune f_boxAll J L) sz) (WM r ct i_taped i_size i_faultKind i_at i_end i_token i_number i_bank i_rb i_codes i_within i_piled i_unitsInRule n_i_askHouse n_i_askTune i_acts i_undone n_i_laid i_knowns i_time f_text f_tunes f_houses f_hums f_told f_many f_ruleFrom f_ruleTo f_code f_eWhat f_eSign f_all f_kept f_was f_sTune f_boxAll n_J L) ∧ (IM i_taped i_size i_faultKind i_at i_end i_bank i_rb i_acts i_undone n_i_laid i_knowns i_time f_tunes f_houses f_hums f_told f_many f_ruleFrom f_ruleTo f_code f_all f_kept f_was f_sTune f_boxAll)) (va_A (WM r ct i_taped i_size i_faultKind i_at i_end i_token i_number i_bank i_rb i_codes i_within i_piled i_unitsInRule i_askHouse i_askTune i_acts i_undone i_laid i_knowns i_time f_text f_tunes f_houses f_hums f_told f_many f_ruleFrom f_ruleTo f_code f_eWhat f_eSign f_all f_kept f_was f_sTune f_boxAll J L) sz)) 0 0 (va_A (WM r ct i_taped i_size i_faultKind i_at i_end i_token i_number i_bank i_rb i_codes i_within i_piled i_unitsInRule i_askHouse i_askTune i_acts i_undone i_laid i_knowns i_time f_text f_tunes f_houses f_hums f_told f_many f_ruleFrom f_ruleTo f_code f_eWhat f_eSign f_all f_kept f_was f_sTune f_boxAll J L) sz) := by
  refine Met.ofW (cc := cX9_rivals) (maxL := 8) (ret := (some .int)) (by decide) rfl ?_
  intro p e s m args below meth c0 s₁ B hml hv
  obtain ⟨rfl, hsz, hP, hK, hD0⟩ := hv
  have hx := B.exec
  have hb := B.bytes
  have hr := B.returns
  have hts := atoms_spec (ws := .code yX9_rivals cX9_rivals 8 (some .int) :: GW) B.pre
  have hG : ∀ w ∈ GW, w.before _ s = true := fun w h => hts w (List.mem_cons_of_mem _ h)
  have hown : s.vm.findClass RX9 = some m.cls := findClass_of_methodNamed B.named
  subst hsz
  have hD := hD0.self (sz := s.heap.size)
  generalize hAe : va_A (WM r ct i_taped i_size i_faultKind i_at i_end i_token i_number i_bank i_rb i_codes i_within i_piled i_unitsInRule i_askHouse i_askTune i_acts i_undone i_laid i_knowns i_time f_text f_tunes f_houses f_hums f_told f_many f_ruleFrom f_ruleTo f_code f_eWhat f_eSign f_all f_kept f_was f_sTune f_boxAll J L) s.heap.size = A at hD ⊢
  have hA : ∀ q : Nat, s.heap.size ≤ q → A q := fun q h => by rw [← hAe]; exact Or.inr h
  have hS : va_S A s.heap s.heap [] := va_S.rf
  have hP : va_P (dC, dI) vwCl (WM r ct i_taped i_size i_faultKind i_at i_end i_token i_number i_bank i_rb i_codes i_within i_piled i_unitsInRule i_askHouse i_askTune i_acts i_undone i_laid i_knowns i_time f_text f_tunes f_houses f_hums f_told f_many f_ruleFrom f_ruleTo f_code f_eWhat f_eSign f_all f_kept f_was f_sTune f_boxAll J L) s.heap := hP
  have hl := lv_entry ([.ref (r 0), .int p0, .int p1]) (n := 8) (Nat.le_of_ble_eq_true rfl)
  rw [lg_entry_eq]
  generalize (lg_sl ([.ref (r 0), .int p0, .int p1]) ++ List.replicate (8 - (lg_sl ([.ref (r 0), .int p0, .int p1])).length) Slot.unset).toArray = ls at hl ⊢
  have hl : lv_has ls 8 [(0, .ref (r 0)), (1, .int p0), (2, .int p1)] := hl
  refine nameQ (fun Q hQ => ?_)
  obtain ⟨ie0, ie1, ie2, ie3, ie4, ie5, ie6, ie7, ie8, ie9, ie10, ie11, ie12, ie13, ie14, ie15, ie16, ie17, ie18, ie19, ie20, ie21, ie22, ie23, ie24, ie25, ie26, ie27, ie28, ie29, ie30, ie31, ie32⟩ := id hI
  have f1 : 0 ≤ (f_tunes (i_bank.toInt).toNat).toInt ∧ (f_tunes (i_bank.toInt).toNat).toInt ≤ 5 := ie21 (i_bank.toInt)
  have f2 : 0 ≤ (f_houses (i_bank.toInt).toNat).toInt ∧ (f_houses (i_bank.toInt).toNat).toInt ≤ 4 := ie22 (i_bank.toInt)
  refine lv_aload_n hx hb dX9_rivals_0 rfl (lv_at hl 0 rfl) ?_
  refine lv_iconst (v := 0) hx hb dX9_rivals_1 (by decide) ?_
  refine pM_X9_373_0 hx hb hG hown hK hP hD hS dX9_rivals_2 (fun H3 locs hP hD hS => ?_)
  refine lv_iconst (v := 0) hx hb dX9_rivals_5 (by decide) ?_
  refine lv_istore_n (lv' := [(3, .int 0), (0, .ref (r 0)), (1, .int p0), (2, .int p1)]) hx hb dX9_rivals_6 rfl hl (by decide) rfl (fun ls hl => ?_)
  refine lv_iconst (v := 0) hx hb dX9_rivals_7 (by decide) ?_
  refine lv_istore (lv' := [(4, .int 0), (3, .int 0), (0, .ref (r 0)), (1, .int p0), (2, .int p1)]) hx hb dX9_rivals_8 hl (by decide) rfl (fun ls hl => ?_)
  have L10 : ∀ (N10 : Nat) (y10_3 y10_4 : Int32) (H10 : Heap) (locs : List Loc) (ls : Array Slot) (g10_0 : (0 : Int) ≤ y10_4.toInt) (g10_1 : y10_4.toInt ≤ (5 : Int)) (hP : va_P (dC, dI) vwCl (WM r ct i_taped i_size i_faultKind i_at i_end i_token i_number i_bank i_rb i_codes i_within i_piled i_unitsInRule i_askHouse i_askTune i_acts i_undone 0 i_knowns i_time f_text f_tunes f_houses f_hums f_told f_many f_ruleFrom f_ruleTo f_code f_eWhat f_eSign f_all f_kept f_was f_sTune f_boxAll J L) H10) (hD : va_D A (WM r ct i_taped i_size i_faultKind i_at i_end i_token i_number i_bank i_rb i_codes i_within i_piled i_unitsInRule i_askHouse i_askTune i_acts i_undone 0 i_knowns i_time f_text f_tunes f_houses f_hums f_told f_many f_ruleFrom f_ruleTo f_code f_eWhat f_eSign f_all f_kept f_was f_sTune f_boxAll J L)) (hS : va_S A s.heap H10 locs) (hl : lv_has ls 8 [(0, .ref (r 0)), (1, .int p0), (2, .int p1), (3, .int y10_3), (4, .int y10_4)]) (hM : -1 * y10_4.toInt + 5 < (N10 : Int)), W p l e { frames := 24, cells := 0, slots := 0, locals := 795 } s m ([.ref (r 0), .int p0, .int p1] : List Value).toArray below meth c0 H10 locs 0 0 Q (F0 m 10 ls []) := by
    intro N10
    induction N10 with
    | zero =>
      intro y10_3 y10_4 H10 locs ls g10_0 g10_1 hP hD hS hl hM
      exact ((ob_777 hM g10_0 g10_1)).elim
    | succ N10 ih10 =>
      intro y10_3 y10_4 H10 locs ls g10_0 g10_1 hP hD hS hl hM
      have hM10 := msucc hM
      refine lv_iload hx hb dX9_rivals_10 (lv_at hl 4 rfl) ?_
      refine lv_aload_n hx hb dX9_rivals_12 rfl (lv_at hl 0 rfl) ?_
      refine va_calli (va_runV (As := []) (rest := [.int y10_4]) ⟨hx, hb, hml, hown, hG⟩ (kX9_songs l dC dI r ct i_taped i_size i_faultKind i_at i_end i_token i_number i_bank i_rb i_codes i_within i_piled i_unitsInRule i_askHouse i_askTune i_acts i_undone 0 i_knowns i_time f_text f_tunes f_houses f_hums f_told f_many f_ruleFrom f_ruleTo f_code f_eWhat f_eSign f_all f_kept f_was f_sTune f_boxAll J L H10.size ⟨ie0, ie1, ie2, ie3, ie4, ie5, ie6, ie7, (ob_1 zc_0), (ob_797 zc_0), ie10, ie11, ie12, ie13, ie14, ie15, ie16, ie17, ie18, ie19, ie20, ie21, ie22, ie23, ie24, ie25, ie26, ie27, ie28, ie29, ie30, ie31, ie32⟩) (cwV 0 hG (goodV gw1512 gw1514 gw86 gw138 gw1515) rfl rfl rfl hd_X9_songs ⟨(Nat.le_of_ble_eq_true rfl), (Nat.le_of_ble_eq_true rfl)⟩) ⟨fbR, va_recv hK hP (ci := 8) (q0 := 0) rfl rfl, pR_in hP hK⟩ rfl rfl hl.1 rfl (lv_room (Nat.le_of_ble_eq_true rfl)) dX9_rivals_13 ⟨(Nat.le_of_ble_eq_true rfl), (Nat.le_of_ble_eq_true rfl)⟩) hS (fun q hq h => absurd hq (Nat.not_lt.mpr h)) (fun q h => hA q (Nat.le_trans hS.1 h)) (fun r_5 u_ t_ H4 locs ht hvm hw hB hz1 hk1 hS => ?_)
      subst hw
      have hP := wk hP hk1
      have f6 := hB
      have f7 : r_5.toInt = (f_tunes (i_bank.toInt).toNat).toInt := (ob_6 f6)
      refine lv_icmp_ge (tgt := 42) hx hb dX9_rivals_16 (by decide) (fun c_8 => ?_) (fun c_8 => ?_)
      · skip
        have f9 : r_5.toInt ≤ y10_4.toInt := qi_le c_8 rfl rfl
        refine lv_aload_n hx hb dX9_rivals_42 rfl (lv_at hl 0 rfl) ?_
        refine lv_iload_n hx hb dX9_rivals_43 rfl (lv_at hl 1 rfl) ?_
        refine va_calli (va_runV (As := [.int p0]) (rest := []) ⟨hx, hb, hml, hown, hG⟩ (kX9_isHouse l dC dI r ct i_taped i_size i_faultKind i_at i_end i_token i_number i_bank i_rb i_codes i_within i_piled i_unitsInRule i_askHouse i_askTune i_acts i_undone 0 i_knowns i_time f_text f_tunes f_houses f_hums f_told f_many f_ruleFrom f_ruleTo f_code f_eWhat f_eSign f_all f_kept f_was f_sTune f_boxAll J L p0 H4.size ⟨ie0, ie1, ie2, ie3, ie4, ie5, ie6, ie7, (ob_1 zc_0), (ob_797 zc_0), ie10, ie11, ie12, ie13, ie14, ie15, ie16, ie17, ie18, ie19, ie20, ie21, ie22, ie23, ie24, ie25, ie26, ie27, ie28, ie29, ie30, ie31, ie32⟩) (cwV 1 hG (goodV gw1542 gw1544 gw90 gw138 gw1545) rfl rfl rfl hd_X9_isHouse ⟨(Nat.le_of_ble_eq_true rfl), (Nat.le_of_ble_eq_true rfl)⟩) ⟨fbR, va_recv hK hP (ci := 8) (q0 := 0) rfl rfl, pR_in hP hK⟩ rfl rfl hl.1 rfl (lv_room (Nat.le_of_ble_eq_true rfl)) dX9_rivals_44 ⟨(Nat.le_of_ble_eq_true rfl), (Nat.le_of_ble_eq_true rfl)⟩) hS (fun q hq h => absurd hq (Nat.not_lt.mpr h)) (fun q h => hA q (Nat.le_trans hS.1 h)) (fun r_11 u_ t_ H10 locs ht hvm hw hB hz1 hk1 hS => ?_)
        subst hw
        have hP := wk hP hk1
        obtain ⟨f12, f13, f14, f15, f16⟩ := hB
        refine lv_if_eq (tgt := 67) hx hb dX9_rivals_47 (by decide) (fun c_17 => ?_) (fun c_17 => ?_)
        · skip
          have f18 : r_11.toInt = 0 := qi_eq c_17 rfl zc_0
          refine lv_iconst (v := (-1)) hx hb dX9_rivals_67 (by decide) ?_
          rw [hQ]
          exact W.iret (v := (-1)) hx hb hr (fun t ht hW => ⟨⟨(-1), (-1), rfl, rfl, ⟨i_askHouse, i_askTune, 0, J, by rw [ht]; exact hP, hD, ⟨ie0, ie1, ie2, ie3, ie4, ie5, ie6, ie7, (ob_1 zc_0), (ob_797 zc_0), ie10, ie11, ie12, ie13, ie14, ie15, ie16, ie17, ie18, ie19, ie20, ie21, ie22, ie23, ie24, ie25, ie26, ie27, ie28, ie29, ie30, ie31, ie32⟩⟩⟩, hS.F ht⟩) hS.2.2 dX9_rivals_68
        · skip
          have f19 : r_11.toInt ≠ 0 := qi_ne c_17 rfl zc_0
          have f20 : (0 : Int) ≤ p0.toInt := (ob_1090 f12 f19)
          have f21 : p0.toInt + 1 ≤ (f_houses (i_bank.toInt).toNat).toInt := (ob_1091 f12 f19)
          have f22 : r_11.toInt = (1 : Int) := (ob_1092 f12 f19)
          have f23 : (1 : Int) ≤ r_11.toInt := (ob_395 f22)
          refine lv_aload_n hx hb dX9_rivals_50 rfl (lv_at hl 0 rfl) ?_
          refine lv_iload_n hx hb dX9_rivals_51 rfl (lv_at hl 2 rfl) ?_
          refine va_calli (va_runV (As := [.int p1]) (rest := []) ⟨hx, hb, hml, hown, hG⟩ (kX9_isHouse l dC dI r ct i_taped i_size i_faultKind i_at i_end i_token i_number i_bank i_rb i_codes i_within i_piled i_unitsInRule i_askHouse i_askTune i_acts i_undone 0 i_knowns i_time f_text f_tunes f_houses f_hums f_told f_many f_ruleFrom f_ruleTo f_code f_eWhat f_eSign f_all f_kept f_was f_sTune f_boxAll J L p1 H10.size ⟨ie0, ie1, ie2, ie3, ie4, ie5, ie6, ie7, (ob_1 zc_0), (ob_797 zc_0), ie10, ie11, ie12, ie13, ie14, ie15, ie16, ie17, ie18, ie19, ie20, ie21, ie22, ie23, ie24, ie25, ie26, ie27, ie28, ie29, ie30, ie31, ie32⟩) (cwV 1 hG (goodV gw1542 gw1544 gw90 gw138 gw1545) rfl rfl rfl hd_X9_isHouse ⟨(Nat.le_of_ble_eq_true rfl), (Nat.le_of_ble_eq_true rfl)⟩) ⟨fbR, va_recv hK hP (ci := 8) (q0 := 0) rfl rfl, pR_in hP hK⟩ rfl rfl hl.1 rfl (lv_room (Nat.le_of_ble_eq_true rfl)) dX9_rivals_52 ⟨(Nat.le_of_ble_eq_true rfl), (Nat.le_of_ble_eq_true rfl)⟩) hS (fun q hq h => absurd hq (Nat.not_lt.mpr h)) (fun q h => hA q (Nat.le_trans hS.1 h)) (fun r_25 u_ t_ H24 locs ht hvm hw hB hz1 hk1 hS => ?_)
          subst hw
          have hP := wk hP hk1
          obtain ⟨f26, f27, f28, f29, f30⟩ := hB
          refine lv_if_eq (tgt := 67) hx hb dX9_rivals_55 (by decide) (fun c_31 => ?_) (fun c_31 => ?_)
          · skip
            have f32 : r_25.toInt = 0 := qi_eq c_31 rfl zc_0
            refine lv_iconst (v := (-1)) hx hb dX9_rivals_67 (by decide) ?_
            rw [hQ]
            exact W.iret (v := (-1)) hx hb hr (fun t ht hW => ⟨⟨(-1), (-1), rfl, rfl, ⟨i_askHouse, i_askTune, 0, J, by rw [ht]; exact hP, hD, ⟨ie0, ie1, ie2, ie3, ie4, ie5, ie6, ie7, (ob_1 zc_0), (ob_797 zc_0), ie10, ie11, ie12, ie13, ie14, ie15, ie16, ie17, ie18, ie19, ie20, ie21, ie22, ie23, ie24, ie25, ie26, ie27, ie28, ie29, ie30, ie31, ie32⟩⟩⟩, hS.F ht⟩) hS.2.2 dX9_rivals_68
          · skip
            have f33 : r_25.toInt ≠ 0 := qi_ne c_31 rfl zc_0
            have f34 : (0 : Int) ≤ p1.toInt := (ob_1090 f26 f33)
            have f35 : p1.toInt + 1 ≤ (f_houses (i_bank.toInt).toNat).toInt := (ob_1091 f26 f33)
            have f36 : r_25.toInt = (1 : Int) := (ob_1092 f26 f33)
            have f37 : (1 : Int) ≤ r_25.toInt := (ob_395 f36)
            refine lv_iload_n hx hb dX9_rivals_58 rfl (lv_at hl 1 rfl) ?_
            refine lv_iload_n hx hb dX9_rivals_59 rfl (lv_at hl 2 rfl) ?_
            refine lv_icmp_eq (tgt := 67) hx hb dX9_rivals_60 (by decide) (fun c_38 => ?_) (fun c_38 => ?_)
            · skip
              have f39 : p0.toInt = p1.toInt := qi_eq c_38 rfl rfl
              refine lv_iconst (v := (-1)) hx hb dX9_rivals_67 (by decide) ?_
              rw [hQ]
              exact W.iret (v := (-1)) hx hb hr (fun t ht hW => ⟨⟨(-1), (-1), rfl, rfl, ⟨i_askHouse, i_askTune, 0, J, by rw [ht]; exact hP, hD, ⟨ie0, ie1, ie2, ie3, ie4, ie5, ie6, ie7, (ob_1 zc_0), (ob_797 zc_0), ie10, ie11, ie12, ie13, ie14, ie15, ie16, ie17, ie18, ie19, ie20, ie21, ie22, ie23, ie24, ie25, ie26, ie27, ie28, ie29, ie30, ie31, ie32⟩⟩⟩, hS.F ht⟩) hS.2.2 dX9_rivals_68
            · skip
              have f40 : p0.toInt ≠ p1.toInt := qi_ne c_38 rfl rfl
              refine lv_iload_n hx hb dX9_rivals_63 rfl (lv_at hl 3 rfl) ?_
              refine lv_if_ne (tgt := 69) hx hb dX9_rivals_64 (by decide) (fun c_41 => ?_) (fun c_41 => ?_)
              · skip
                have f42 : y10_3.toInt ≠ 0 := qi_ne c_41 rfl zc_0
                refine lv_iconst (v := 0) hx hb dX9_rivals_69 (by decide) ?_
                refine lv_istore (lv' := [(4, .int 0), (0, .ref (r 0)), (1, .int p0), (2, .int p1), (3, .int y10_3)]) hx hb dX9_rivals_70 hl (by decide) rfl (fun ls hl => ?_)
                refine lv_iconst (v := 0) hx hb dX9_rivals_72 (by decide) ?_
                refine lv_istore (lv' := [(5, .int 0), (4, .int 0), (0, .ref (r 0)), (1, .int p0), (2, .int p1), (3, .int y10_3)]) hx hb dX9_rivals_73 hl (by decide) rfl (fun ls hl => ?_)
                have L75 : ∀ (N75 : Nat) (y75_4 y75_5 : Int32) (m75_i_askHouse m75_i_askTune m75_i_laid : Int32) (m75_J : Nat → Nat → Int32) (H75 : Heap) (locs : List Loc) (ls : Array Slot) (g75_0 : (0 : Int) ≤ y75_5.toInt) (g75_1 : y75_5.toInt ≤ (25 : Int)) (g75_2 : (0 : Int) ≤ m75_i_laid.toInt) (g75_3 : m75_i_laid.toInt ≤ (4 : Int)) (gi75_laid_lo : (0 : Int) ≤ m75_i_laid.toInt) (gi75_laid_hi : m75_i_laid.toInt ≤ (4 : Int)) (hP : va_P (dC, dI) vwCl (WM r ct i_taped i_size i_faultKind i_at i_end i_token i_number i_bank i_rb i_codes i_within i_piled i_unitsInRule m75_i_askHouse m75_i_askTune i_acts i_undone m75_i_laid i_knowns i_time f_text f_tunes f_houses f_hums f_told f_many f_ruleFrom f_ruleTo f_code f_eWhat f_eSign f_all f_kept f_was f_sTune f_boxAll m75_J L) H75) (hD : va_D A (WM r ct i_taped i_size i_faultKind i_at i_end i_token i_number i_bank i_rb i_codes i_within i_piled i_unitsInRule m75_i_askHouse m75_i_askTune i_acts i_undone m75_i_laid i_knowns i_time f_text f_tunes f_houses f_hums f_told f_many f_ruleFrom f_ruleTo f_code f_eWhat f_eSign f_all f_kept f_was f_sTune f_boxAll m75_J L)) (hS : va_S A s.heap H75 locs) (hl : lv_has ls 8 [(0, .ref (r 0)), (1, .int p0), (2, .int p1), (3, .int y10_3), (4, .int y75_4), (5, .int y75_5)]) (hM : -1 * y75_5.toInt + 25 < (N75 : Int)), W p l e { frames := 24, cells := 0, slots := 0, locals := 795 } s m ([.ref (r 0), .int p0, .int p1] : List Value).toArray below meth c0 H75 locs 0 0 Q (F0 m 75 ls []) := by
                  intro N75
                  induction N75 with
                  | zero =>
                    intro y75_4 y75_5 m75_i_askHouse m75_i_askTune m75_i_laid m75_J H75 locs ls g75_0 g75_1 g75_2 g75_3 gi75_laid_lo gi75_laid_hi hP hD hS hl hM
                    exact ((ob_1389 hM g75_0 g75_1)).elim
                  | succ N75 ih75 =>
                    intro y75_4 y75_5 m75_i_askHouse m75_i_askTune m75_i_laid m75_J H75 locs ls g75_0 g75_1 g75_2 g75_3 gi75_laid_lo gi75_laid_hi hP hD hS hl hM
                    have hM75 := msucc hM
                    refine lv_iload hx hb dX9_rivals_75 (lv_at hl 5 rfl) ?_
                    refine lv_aload_n hx hb dX9_rivals_77 rfl (lv_at hl 0 rfl) ?_
                    refine va_calli (va_runV (As := []) (rest := [.int y75_5]) ⟨hx, hb, hml, hown, hG⟩ (kX9_songs l dC dI r ct i_taped i_size i_faultKind i_at i_end i_token i_number i_bank i_rb i_codes i_within i_piled i_unitsInRule m75_i_askHouse m75_i_askTune i_acts i_undone m75_i_laid i_knowns i_time f_text f_tunes f_houses f_hums f_told f_many f_ruleFrom f_ruleTo f_code f_eWhat f_eSign f_all f_kept f_was f_sTune f_boxAll m75_J L H75.size ⟨ie0, ie1, ie2, ie3, ie4, ie5, ie6, ie7, gi75_laid_lo, gi75_laid_hi, ie10, ie11, ie12, ie13, ie14, ie15, ie16, ie17, ie18, ie19, ie20, ie21, ie22, ie23, ie24, ie25, ie26, ie27, ie28, ie29, ie30, ie31, ie32⟩) (cwV 0 hG (goodV gw1512 gw1514 gw86 gw138 gw1515) rfl rfl rfl hd_X9_songs ⟨(Nat.le_of_ble_eq_true rfl), (Nat.le_of_ble_eq_true rfl)⟩) ⟨fbR, va_recv hK hP (ci := 8) (q0 := 0) rfl rfl, pR_in hP hK⟩ rfl rfl hl.1 rfl (lv_room (Nat.le_of_ble_eq_true rfl)) dX9_rivals_78 ⟨(Nat.le_of_ble_eq_true rfl), (Nat.le_of_ble_eq_true rfl)⟩) hS (fun q hq h => absurd hq (Nat.not_lt.mpr h)) (fun q h => hA q (Nat.le_trans hS.1 h)) (fun r_44 u_ t_ H43 locs ht hvm hw hB hz1 hk1 hS => ?_)
                    subst hw
                    have hP := wk hP hk1
                    have f45 := hB
                    have f46 : r_44.toInt = (f_tunes (i_bank.toInt).toNat).toInt := (ob_6 f45)
                    refine lv_aload_n hx hb dX9_rivals_81 rfl (lv_at hl 0 rfl) ?_
                    refine va_calli (va_runV (As := []) (rest := [.int r_44, .int y75_5]) ⟨hx, hb, hml, hown, hG⟩ (kX9_songs l dC dI r ct i_taped i_size i_faultKind i_at i_end i_token i_number i_bank i_rb i_codes i_within i_piled i_unitsInRule m75_i_askHouse m75_i_askTune i_acts i_undone m75_i_laid i_knowns i_time f_text f_tunes f_houses f_hums f_told f_many f_ruleFrom f_ruleTo f_code f_eWhat f_eSign f_all f_kept f_was f_sTune f_boxAll m75_J L H43.size ⟨ie0, ie1, ie2, ie3, ie4, ie5, ie6, ie7, gi75_laid_lo, gi75_laid_hi, ie10, ie11, ie12, ie13, ie14, ie15, ie16, ie17, ie18, ie19, ie20, ie21, ie22, ie23, ie24, ie25, ie26, ie27, ie28, ie29, ie30, ie31, ie32⟩) (cwV 0 hG (goodV gw1512 gw1514 gw86 gw138 gw1515) rfl rfl rfl hd_X9_songs ⟨(Nat.le_of_ble_eq_true rfl), (Nat.le_of_ble_eq_true rfl)⟩) ⟨fbR, va_recv hK hP (ci := 8) (q0 := 0) rfl rfl, pR_in hP hK⟩ rfl rfl hl.1 rfl (lv_room (Nat.le_of_ble_eq_true rfl)) dX9_rivals_82 ⟨(Nat.le_of_ble_eq_true rfl), (Nat.le_of_ble_eq_true rfl)⟩) hS (fun q hq h => absurd hq (Nat.not_lt.mpr h)) (fun q h => hA q (Nat.le_trans hS.1 h)) (fun r_48 u_ t_ H47 locs ht hvm hw hB hz1 hk1 hS => ?_)
                    subst hw
                    have hP := wk hP hk1
                    have f49 := hB
                    have f50 : r_48.toInt = (f_tunes (i_bank.toInt).toNat).toInt := (ob_6 f49)
                    refine lv_imul hx hb dX9_rivals_85 ?_
                    refine lv_topi (fun x51 ex51 => ?_)
                    have f52 : 0 * 0 ≤ x51.toInt ∧ x51.toInt ≤ 5 * 5 := qi_mulb ex51 (ob_1390 f1 f9 f7 f46) (ob_1391 f1 f9 f7 f46) (ob_1390 f1 f9 f7 f50) (ob_1391 f1 f9 f7 f50) (by decide) (by decide) (by decide)
                    have f53 : x51.toInt = ((f_tunes (i_bank.toInt).toNat).toInt * (f_tunes (i_bank.toInt).toNat).toInt) := qi_mulx ex51 f46 f50 (ob_1390 f1 f9 f7 f46) (ob_1391 f1 f9 f7 f46) (ob_1390 f1 f9 f7 f50) (ob_1391 f1 f9 f7 f50) (by decide) (by decide) (by decide)
                    refine lv_icmp_ge (tgt := 176) hx hb dX9_rivals_86 (by decide) (fun c_54 => ?_) (fun c_54 => ?_)
                    · skip
                      have f55 : x51.toInt ≤ y75_5.toInt := qi_le c_54 rfl rfl
                      refine lv_iload hx hb dX9_rivals_176 (lv_at hl 4 rfl) ?_
                      rw [hQ]
                      exact W.iret (v := y75_4) hx hb hr (fun t ht hW => ⟨⟨y75_4, y75_4, rfl, rfl, ⟨m75_i_askHouse, m75_i_askTune, m75_i_laid, m75_J, by rw [ht]; exact hP, hD, ⟨ie0, ie1, ie2, ie3, ie4, ie5, ie6, ie7, gi75_laid_lo, gi75_laid_hi, ie10, ie11, ie12, ie13, ie14, ie15, ie16, ie17, ie18, ie19, ie20, ie21, ie22, ie23, ie24, ie25, ie26, ie27, ie28, ie29, ie30, ie31, ie32⟩⟩⟩, hS.F ht⟩) hS.2.2 dX9_rivals_178
                    · skip
                      have f56 : y75_5.toInt < x51.toInt := qi_nle c_54 rfl rfl
                      have f57 : 1 ≤ (f_tunes (i_bank.toInt).toNat).toInt := rv_pos ex51 (ob_6 f46) (ob_6 f50) (ob_1392 f1 f9 f7) (ob_1393 f1 f9 f7) (ob_350 g75_0) (ob_1394 f56 f53)
                      refine lv_iload hx hb dX9_rivals_89 (lv_at hl 5 rfl) ?_
                      refine lv_aload_n hx hb dX9_rivals_91 rfl (lv_at hl 0 rfl) ?_
                      refine va_calli (va_runV (As := []) (rest := [.int y75_5]) ⟨hx, hb, hml, hown, hG⟩ (kX9_songs l dC dI r ct i_taped i_size i_faultKind i_at i_end i_token i_number i_bank i_rb i_codes i_within i_piled i_unitsInRule m75_i_askHouse m75_i_askTune i_acts i_undone m75_i_laid i_knowns i_time f_text f_tunes f_houses f_hums f_told f_many f_ruleFrom f_ruleTo f_code f_eWhat f_eSign f_all f_kept f_was f_sTune f_boxAll m75_J L H47.size ⟨ie0, ie1, ie2, ie3, ie4, ie5, ie6, ie7, gi75_laid_lo, gi75_laid_hi, ie10, ie11, ie12, ie13, ie14, ie15, ie16, ie17, ie18, ie19, ie20, ie21, ie22, ie23, ie24, ie25, ie26, ie27, ie28, ie29, ie30, ie31, ie32⟩) (cwV 0 hG (goodV gw1512 gw1514 gw86 gw138 gw1515) rfl rfl rfl hd_X9_songs ⟨(Nat.le_of_ble_eq_true rfl), (Nat.le_of_ble_eq_true rfl)⟩) ⟨fbR, va_recv hK hP (ci := 8) (q0 := 0) rfl rfl, pR_in hP hK⟩ rfl rfl hl.1 rfl (lv_room (Nat.le_of_ble_eq_true rfl)) dX9_rivals_92 ⟨(Nat.le_of_ble_eq_true rfl), (Nat.le_of_ble_eq_true rfl)⟩) hS (fun q hq h => absurd hq (Nat.not_lt.mpr h)) (fun q h => hA q (Nat.le_trans hS.1 h)) (fun r_59 u_ t_ H58 locs ht hvm hw hB hz1 hk1 hS => ?_)
                      subst hw
                      have hP := wk hP hk1
                      have f60 := hB
                      have f61 : r_59.toInt = (f_tunes (i_bank.toInt).toNat).toInt := (ob_6 f60)
                      refine lv_idiv hx hb dX9_rivals_95 (qi_nz (ob_1395 f1 f9 f57 f7 f61)) ?_
                      refine lv_topi (fun x62 ex62 => ?_)
                      have f63 : 0 ≤ x62.toInt ∧ x62.toInt ≤ y75_5.toInt := qi_div ex62 rfl rfl (ob_350 g75_0) (ob_1395 f1 f9 f57 f7 f61)
                      have f64 : x62.toInt = (y75_5.toInt / (f_tunes (i_bank.toInt).toNat).toInt) := divnn ex62 rfl f61 (ob_350 g75_0) (ob_1396 f1 f9 f57 f7)
                      have f65 : x62.toInt < (f_tunes (i_bank.toInt).toNat).toInt := rv_div ex51 (ob_6 f46) (ob_6 f50) (ob_1397 f1 f9 f57 f7) (ob_1398 f1 f9 f57 f7) (ob_350 g75_0) (ob_1394 f56 f53) ex62 (ob_6 f61)
                      refine lv_istore (lv' := [(6, .int x62), (0, .ref (r 0)), (1, .int p0), (2, .int p1), (3, .int y10_3), (4, .int y75_4), (5, .int y75_5)]) hx hb dX9_rivals_96 hl (by decide) rfl (fun ls hl => ?_)
                      refine lv_iload hx hb dX9_rivals_98 (lv_at hl 6 rfl) ?_
                      refine lv_aload_n hx hb dX9_rivals_100 rfl (lv_at hl 1 rfl) ?_
                      refine va_calli (va_runV (As := []) (rest := [.int y75_5]) ⟨hx, hb, hml, hown, hG⟩ (kX9_songs l dC dI r ct i_taped i_size i_faultKind i_at i_end i_token i_number i_bank i_rb i_codes i_within i_piled i_unitsInRule m75_i_askHouse m75_i_askTune i_acts i_undone m75_i_laid i_knowns i_time f_text f_tunes f_houses f_hums f_told f_many f_ruleFrom f_ruleTo f_code f_eWhat f_eSign f_all f_kept f_was f_sTune f_boxAll m75_J L H58.size ⟨ie0, ie1, ie2, ie3, ie4, ie5, ie6, ie7, gi75_laid_lo, gi75_laid_hi, ie10, ie11, ie12, ie13, ie14, ie15, ie16, ie17, ie18, ie19, ie20, ie21, ie22, ie23, ie24, ie25, ie26, ie27, ie28, ie29, ie30, ie31, ie32⟩) (cwV 0 hG (goodV gw1512 gw1514 gw86 gw138 gw1515) rfl rfl rfl hd_X9_songs ⟨(Nat.le_of_ble_eq_true rfl), (Nat.le_of_ble_eq_true rfl)⟩) ⟨fbR, va_recv hK hP (ci := 8) (q0 := 0) rfl rfl, pR_in hP hK⟩ rfl rfl hl.1 rfl (lv_room (Nat.le_of_ble_eq_true rfl)) dX9_rivals_101 ⟨(Nat.le_of_ble_eq_true rfl), (Nat.le_of_ble_eq_true rfl)⟩) hS (fun q hq h => absurd hq (Nat.not_lt.mpr h)) (fun q h => hA q (Nat.le_trans hS.1 h)) (fun r_67 u_ t_ H66 locs ht hvm hw hB hz1 hk1 hS => ?_)
                      subst hw
                      have hP := wk hP hk1
                      have f68 := hB
                      have f69 : r_67.toInt = (f_tunes (i_bank.toInt).toNat).toInt := (ob_6 f68)
                      refine lv_irem hx hb dX9_rivals_104 (qi_nz (ob_1399 f57 f69)) ?_
                      refine lv_topi (fun x70 ex70 => ?_)
                      have f71 : 0 ≤ x70.toInt ∧ x70.toInt < r_67.toInt ∧ x70.toInt ≤ y75_5.toInt := qi_rem ex70 rfl rfl (ob_350 g75_0) (ob_1399 f57 f69)
                      have f72 : x70.toInt = (y75_5.toInt % (f_tunes (i_bank.toInt).toNat).toInt) := remnn ex70 rfl f69 (ob_350 g75_0) (ob_1400 f57)
                      refine lv_istore (lv' := [(7, .int x70), (6, .int x62), (0, .ref (r 0)), (1, .int p0), (2, .int p1), (3, .int y10_3), (4, .int y75_4), (5, .int y75_5)]) hx hb dX9_rivals_105 hl (by decide) rfl (fun ls hl => ?_)
                      refine lv_aload_n hx hb dX9_rivals_107 rfl (lv_at hl 2 rfl) ?_
                      refine lv_iload hx hb dX9_rivals_108 (lv_at hl 1 rfl) ?_
                      refine va_calli (va_runV (As := [.int x62]) (rest := []) ⟨hx, hb, hml, hown, hG⟩ (kX9_isOnCart l dC dI r ct i_taped i_size i_faultKind i_at i_end i_token i_number i_bank i_rb i_codes i_within i_piled i_unitsInRule m75_i_askHouse m75_i_askTune i_acts i_undone m75_i_laid i_knowns i_time f_text f_tunes f_houses f_hums f_told f_many f_ruleFrom f_ruleTo f_code f_eWhat f_eSign f_all f_kept f_was f_sTune f_boxAll m75_J L x62 H66.size ⟨ie0, ie1, ie2, ie3, ie4, ie5, ie6, ie7, gi75_laid_lo, gi75_laid_hi, ie10, ie11, ie12, ie13, ie14, ie15, ie16, ie17, ie18, ie19, ie20, ie21, ie22, ie23, ie24, ie25, ie26, ie27, ie28, ie29, ie30, ie31, ie32⟩ (ob_1401 f63 f65 f64) (ob_1402 f65 f64)) (cwV 1 hG (goodV gw1704 gw1706 gw111 gw138 gw1707) rfl rfl rfl hd_X9_isOnCart ⟨(Nat.le_of_ble_eq_true rfl), (Nat.le_of_ble_eq_true rfl)⟩) ⟨fbR, va_recv hK hP (ci := 8) (q0 := 0) rfl rfl, pR_in hP hK⟩ rfl rfl hl.1 rfl (lv_room (Nat.le_of_ble_eq_true rfl)) dX9_rivals_110 ⟨(Nat.le_of_ble_eq_true rfl), (Nat.le_of_ble_eq_true rfl)⟩) hS (fun q hq h => absurd hq (Nat.not_lt.mpr h)) (fun q h => hA q (Nat.le_trans hS.1 h)) (fun r_74 u_ t_ H73 locs ht hvm hw hB hz1 hk1 hS => ?_)
                      subst hw
                      have hP := wk hP hk1
                      obtain ⟨f75, f76, f77⟩ := hB
                      refine lv_if_eq (tgt := 170) hx hb dX9_rivals_113 (by decide) (fun c_78 => ?_) (fun c_78 => ?_)
                      · skip
                        have f79 : r_74.toInt = 0 := qi_eq c_78 rfl zc_0
                        have f80 : (f_all (x62.toInt).toNat).toInt + 1 ≠ (0 : Int) := (ob_1204 f75 f79)
                        have f81 : r_74.toInt = (0 : Int) := (ob_226 f76 f77 f79)
                        obtain ⟨x82, ex82⟩ : ∃ y : Int32, y = y75_5 + Int32.ofInt 1 := ⟨_, rfl⟩
                        have f83 : x82.toInt = y75_5.toInt + 1 := (ob_142 (qi_add ex82 rfl (by decide) (ob_140 g75_0) (ob_1403 g75_1)))
                        refine lv_iinc (v := x82) (lv' := [(5, .int x82), (7, .int x70), (6, .int x62), (0, .ref (r 0)), (1, .int p0), (2, .int p1), (3, .int y10_3), (4, .int y75_4)]) hx hb dX9_rivals_170 hl (k := 7) rfl ex82.symm (by decide) rfl (fun ls hl => ?_)
                        refine lv_goto (tgt := 75) hx hb dX9_rivals_173 (by decide) ?_
                        exact ih75 y75_4 x82 m75_i_askHouse m75_i_askTune m75_i_laid m75_J H73 _ _ (ob_149 g75_0 f83) (ob_1404 f52 f56 f53 f83) (ob_139 g75_2) (ob_1126 g75_3) gi75_laid_lo gi75_laid_hi hP hD hS (lv_sub hl [3, 4, 5, 6, 7, 0] rfl) (ob_1405 hM75 f83)
                      · skip
                        have f84 : r_74.toInt ≠ 0 := qi_ne c_78 rfl zc_0
                        have f85 : (f_all (x62.toInt).toNat).toInt + 1 = (0 : Int) := (ob_1205 f75 f84)
                        have f86 : r_74.toInt = (1 : Int) := (ob_1206 f75 f84)
                        have f87 : (1 : Int) ≤ r_74.toInt := (ob_162 f76 f77 f86)
                        refine lv_aload_n hx hb dX9_rivals_116 rfl (lv_at hl 2 rfl) ?_
                        refine lv_iload hx hb dX9_rivals_117 (lv_at hl 0 rfl) ?_
                        refine va_calli (va_runV (As := [.int x70]) (rest := []) ⟨hx, hb, hml, hown, hG⟩ (kX9_isOnCart l dC dI r ct i_taped i_size i_faultKind i_at i_end i_token i_number i_bank i_rb i_codes i_within i_piled i_unitsInRule m75_i_askHouse m75_i_askTune i_acts i_undone m75_i_laid i_knowns i_time f_text f_tunes f_houses f_hums f_told f_many f_ruleFrom f_ruleTo f_code f_eWhat f_eSign f_all f_kept f_was f_sTune f_boxAll m75_J L x70 H73.size ⟨ie0, ie1, ie2, ie3, ie4, ie5, ie6, ie7, gi75_laid_lo, gi75_laid_hi, ie10, ie11, ie12, ie13, ie14, ie15, ie16, ie17, ie18, ie19, ie20, ie21, ie22, ie23, ie24, ie25, ie26, ie27, ie28, ie29, ie30, ie31, ie32⟩ (ob_1406 f71 f69 f72) (ob_1407 f71 f69 f72)) (cwV 1 hG (goodV gw1704 gw1706 gw111 gw138 gw1707) rfl rfl rfl hd_X9_isOnCart ⟨(Nat.le_of_ble_eq_true rfl), (Nat.le_of_ble_eq_true rfl)⟩) ⟨fbR, va_recv hK hP (ci := 8) (q0 := 0) rfl rfl, pR_in hP hK⟩ rfl rfl hl.1 rfl (lv_room (Nat.le_of_ble_eq_true rfl)) dX9_rivals_119 ⟨(Nat.le_of_ble_eq_true rfl), (Nat.le_of_ble_eq_true rfl)⟩) hS (fun q hq h => absurd hq (Nat.not_lt.mpr h)) (fun q h => hA q (Nat.le_trans hS.1 h)) (fun r_89 u_ t_ H88 locs ht hvm hw hB hz1 hk1 hS => ?_)
                        subst hw
                        have hP := wk hP hk1
                        obtain ⟨f90, f91, f92⟩ := hB
                        refine lv_if_eq (tgt := 170) hx hb dX9_rivals_122 (by decide) (fun c_93 => ?_) (fun c_93 => ?_)
                        · skip
                          have f94 : r_89.toInt = 0 := qi_eq c_93 rfl zc_0
                          have f95 : (f_all (x70.toInt).toNat).toInt + 1 ≠ (0 : Int) := (ob_1204 f90 f94)
                          have f96 : r_89.toInt = (0 : Int) := (ob_226 f91 f92 f94)
                          obtain ⟨x97, ex97⟩ : ∃ y : Int32, y = y75_5 + Int32.ofInt 1 := ⟨_, rfl⟩
                          have f98 : x97.toInt = y75_5.toInt + 1 := (ob_142 (qi_add ex97 rfl (by decide) (ob_140 g75_0) (ob_1403 g75_1)))
                          refine lv_iinc (v := x97) (lv' := [(5, .int x97), (7, .int x70), (6, .int x62), (0, .ref (r 0)), (1, .int p0), (2, .int p1), (3, .int y10_3), (4, .int y75_4)]) hx hb dX9_rivals_170 hl (k := 7) rfl ex97.symm (by decide) rfl (fun ls hl => ?_)
                          refine lv_goto (tgt := 75) hx hb dX9_rivals_173 (by decide) ?_
                          exact ih75 y75_4 x97 m75_i_askHouse m75_i_askTune m75_i_laid m75_J H88 _ _ (ob_149 g75_0 f98) (ob_1404 f52 f56 f53 f98) (ob_139 g75_2) (ob_1126 g75_3) gi75_laid_lo gi75_laid_hi hP hD hS (lv_sub hl [3, 4, 5, 6, 7, 0] rfl) (ob_1405 hM75 f98)
                        · skip
                          have f99 : r_89.toInt ≠ 0 := qi_ne c_93 rfl zc_0
                          have f100 : (f_all (x70.toInt).toNat).toInt + 1 = (0 : Int) := (ob_1205 f90 f99)
                          have f101 : r_89.toInt = (1 : Int) := (ob_1206 f90 f99)
                          have f102 : (1 : Int) ≤ r_89.toInt := (ob_162 f91 f92 f101)
                          refine lv_aload_n hx hb dX9_rivals_125 rfl (lv_at hl 2 rfl) ?_
                          refine lv_iload_n hx hb dX9_rivals_126 rfl (lv_at hl 3 rfl) ?_
                          refine lv_iload_n hx hb dX9_rivals_127 rfl (lv_at hl 4 rfl) ?_
                          refine lv_iload hx hb dX9_rivals_128 (lv_at hl 1 rfl) ?_
                          refine lv_iload hx hb dX9_rivals_130 (lv_at hl 0 rfl) ?_
                          have hFc := frA hD hS hA
                          refine va_calli (va_runV (As := [.int p0, .int p1, .int x62, .int x70]) (rest := []) ⟨hx, hb, hml, hown, hG⟩ (kX9_isRest l dC dI r ct i_taped i_size i_faultKind i_at i_end i_token i_number i_bank i_rb i_codes i_within i_piled i_unitsInRule m75_i_askHouse m75_i_askTune i_acts i_undone m75_i_laid i_knowns i_time f_text f_tunes f_houses f_hums f_told f_many f_ruleFrom f_ruleTo f_code f_eWhat f_eSign f_all f_kept f_was f_sTune f_boxAll m75_J L p0 p1 x62 x70 H88.size ⟨ie0, ie1, ie2, ie3, ie4, ie5, ie6, ie7, gi75_laid_lo, gi75_laid_hi, ie10, ie11, ie12, ie13, ie14, ie15, ie16, ie17, ie18, ie19, ie20, ie21, ie22, ie23, ie24, ie25, ie26, ie27, ie28, ie29, ie30, ie31, ie32⟩ (ob_880 f20 f21) (ob_1060 f21) (ob_880 f34 f35) (ob_1060 f35) (ob_1401 f63 f65 f64) (ob_1402 f65 f64) (ob_1406 f71 f69 f72) (ob_1407 f71 f69 f72)) (cwV 4 hG (goodV gw1802 gw1804 gw120 gw138 gw1805) rfl rfl rfl hd_X9_isRest ⟨(Nat.le_of_ble_eq_true rfl), (Nat.le_of_ble_eq_true rfl)⟩) ⟨fbW, va_recv hK hP (ci := 8) (q0 := 0) rfl rfl, pW_in hP hK hD⟩ rfl rfl hl.1 rfl (lv_room (Nat.le_of_ble_eq_true rfl)) dX9_rivals_132 ⟨(Nat.le_of_ble_eq_true rfl), (Nat.le_of_ble_eq_true rfl)⟩) hS (fun q _ h => hFc q h) hFc (fun r_104 u_ t_ H103 locs ht hvm hw hB hz1 hk1 hS => ?_)
                          subst hw
                          obtain ⟨x105, x106, J107, hP1, hD1, hI111, f108, f109, f110⟩ := hB
                          rw [ht] at hP1
                          have hP := hP1
                          have hD := dW hFc hD1
                          obtain ⟨im112, im113, im114, im115, im116, im117, im118, im119, im120, im121, im122, im123, im124, im125, im126, im127, im128, im129, im130, im131, im132, im133, im134, im135, im136, im137, im138, im139, im140, im141, im142, im143, im144⟩ := id hI111
                          refine lv_if_ne (tgt := 141) hx hb dX9_rivals_135 (by decide) (fun c_145 => ?_) (fun c_145 => ?_)
                          · skip
                            have f146 : r_104.toInt ≠ 0 := qi_ne c_145 rfl zc_0
                            have f147 : r_104.toInt = (1 : Int) := (ob_1301 f108 f146)
                            have f148 : (1 : Int) ≤ r_104.toInt := (ob_162 f109 f110 f147)
                            refine lv_iload hx hb dX9_rivals_141 (lv_at hl 6 rfl) ?_
                            refine lv_if_ne (tgt := 167) hx hb dX9_rivals_143 (by decide) (fun c_149 => ?_) (fun c_149 => ?_)
                            · skip
                              have f150 : y75_4.toInt ≠ 0 := qi_ne c_149 rfl zc_0
                              obtain ⟨x151, ex151⟩ : ∃ y : Int32, y = y75_4 + Int32.ofInt 1 := ⟨_, rfl⟩
                              have f152 : (-2147483648) ≤ y75_4.toInt ∧ y75_4.toInt ≤ 2147483647 := i32_rg _
                              refine lv_iinc (v := x151) (lv' := [(4, .int x151), (7, .int x70), (6, .int x62), (0, .ref (r 0)), (1, .int p0), (2, .int p1), (3, .int y10_3), (5, .int y75_5)]) hx hb dX9_rivals_167 hl (k := 6) rfl ex151.symm (by decide) rfl (fun ls hl => ?_)
                              obtain ⟨x153, ex153⟩ : ∃ y : Int32, y = y75_5 + Int32.ofInt 1 := ⟨_, rfl⟩
                              have f154 : x153.toInt = y75_5.toInt + 1 := (ob_142 (qi_add ex153 rfl (by decide) (ob_140 g75_0) (ob_1403 g75_1)))
                              refine lv_iinc (v := x153) (lv' := [(5, .int x153), (4, .int x151), (7, .int x70), (6, .int x62), (0, .ref (r 0)), (1, .int p0), (2, .int p1), (3, .int y10_3)]) hx hb dX9_rivals_170 hl (k := 7) rfl ex153.symm (by decide) rfl (fun ls hl => ?_)
                              refine lv_goto (tgt := 75) hx hb dX9_rivals_173 (by decide) ?_
                              exact ih75 x151 x153 x105 x106 m75_i_laid J107 H103 _ _ (ob_149 g75_0 f154) (ob_1404 f52 f56 f53 f154) (ob_139 g75_2) (ob_1126 g75_3) gi75_laid_lo gi75_laid_hi hP hD hS (lv_sub hl [4, 5, 6, 7, 1, 0] rfl) (ob_1405 hM75 f154)
                            · skip
                              have f155 : y75_4.toInt = 0 := qi_eq c_149 rfl zc_0
                              refine lv_aload_n hx hb dX9_rivals_146 rfl (lv_at hl 2 rfl) ?_
                              refine gM_X9_97_0 hx hb hG hown hK hP dX9_rivals_147 ?_
                              refine lv_iconst (v := 0) hx hb dX9_rivals_150 (by decide) ?_
                              refine lv_iload hx hb dX9_rivals_151 (lv_at hl 1 rfl) ?_
                              refine stM_28 (mm := (0 : Int)) hx hb hK hP hD hS zc_0 (ob_926) (ob_1408) dX9_rivals_153 (fun J157 H156 locs hP hD hS => ?_)
                              refine lv_aload_n hx hb dX9_rivals_154 rfl (lv_at hl 2 rfl) ?_
                              refine gM_X9_97_0 hx hb hG hown hK hP dX9_rivals_155 ?_
                              refine lv_iconst (v := 1) hx hb dX9_rivals_158 (by decide) ?_
                              refine lv_iload hx hb dX9_rivals_159 (lv_at hl 0 rfl) ?_
                              refine stM_28 (mm := (1 : Int)) hx hb hK hP hD hS zc_1 (ob_1409) (ob_1410) dX9_rivals_161 (fun J159 H158 locs hP hD hS => ?_)
                              refine lv_aload_n hx hb dX9_rivals_162 rfl (lv_at hl 2 rfl) ?_
                              refine lv_iconst (v := 2) hx hb dX9_rivals_163 (by decide) ?_
                              refine pM_X9_373_0 hx hb hG hown hK hP hD hS dX9_rivals_164 (fun H160 locs hP hD hS => ?_)
                              obtain ⟨x161, ex161⟩ : ∃ y : Int32, y = y75_4 + Int32.ofInt 1 := ⟨_, rfl⟩
                              have f162 : x161.toInt = y75_4.toInt + 1 := (ob_142 (qi_add ex161 rfl (by decide) (ob_1411 f155) (ob_1412 f155)))
                              refine lv_iinc (v := x161) (lv' := [(4, .int x161), (7, .int x70), (6, .int x62), (0, .ref (r 0)), (1, .int p0), (2, .int p1), (3, .int y10_3), (5, .int y75_5)]) hx hb dX9_rivals_167 hl (k := 6) rfl ex161.symm (by decide) rfl (fun ls hl => ?_)
                              obtain ⟨x163, ex163⟩ : ∃ y : Int32, y = y75_5 + Int32.ofInt 1 := ⟨_, rfl⟩
                              have f164 : x163.toInt = y75_5.toInt + 1 := (ob_142 (qi_add ex163 rfl (by decide) (ob_140 g75_0) (ob_1403 g75_1)))
                              refine lv_iinc (v := x163) (lv' := [(5, .int x163), (4, .int x161), (7, .int x70), (6, .int x62), (0, .ref (r 0)), (1, .int p0), (2, .int p1), (3, .int y10_3)]) hx hb dX9_rivals_170 hl (k := 7) rfl ex163.symm (by decide) rfl (fun ls hl => ?_)
                              refine lv_goto (tgt := 75) hx hb dX9_rivals_173 (by decide) ?_
                              exact ih75 x161 x163 x105 x106 2 J159 H160 _ _ (ob_149 g75_0 f164) (ob_1404 f52 f56 f53 f164) (ob_471 zc_2) (ob_1413 zc_2) (ob_471 zc_2) (ob_1413 zc_2) hP hD hS (lv_sub hl [4, 5, 6, 7, 1, 0] rfl) (ob_1405 hM75 f164)
                          · skip
                            have f165 : r_104.toInt = 0 := qi_eq c_145 rfl zc_0
                            have f166 : r_104.toInt = (0 : Int) := (ob_226 f109 f110 f165)
                            refine lv_goto (tgt := 170) hx hb dX9_rivals_138 (by decide) ?_
                            obtain ⟨x167, ex167⟩ : ∃ y : Int32, y = y75_5 + Int32.ofInt 1 := ⟨_, rfl⟩
                            have f168 : x167.toInt = y75_5.toInt + 1 := (ob_142 (qi_add ex167 rfl (by decide) (ob_140 g75_0) (ob_1403 g75_1)))
                            refine lv_iinc (v := x167) (lv' := [(5, .int x167), (7, .int x70), (6, .int x62), (0, .ref (r 0)), (1, .int p0), (2, .int p1), (3, .int y10_3), (4, .int y75_4)]) hx hb dX9_rivals_170 hl (k := 7) rfl ex167.symm (by decide) rfl (fun ls hl => ?_)
                            refine lv_goto (tgt := 75) hx hb dX9_rivals_173 (by decide) ?_
                            exact ih75 y75_4 x167 x105 x106 m75_i_laid J107 H103 _ _ (ob_149 g75_0 f168) (ob_1404 f52 f56 f53 f168) (ob_139 g75_2) (ob_1126 g75_3) gi75_laid_lo gi75_laid_hi hP hD hS (lv_sub hl [3, 4, 5, 6, 7, 0] rfl) (ob_1405 hM75 f168)
                exact L75 (-1 * (0 : Int32).toInt + 25 + 1).toNat 0 0 i_askHouse i_askTune 0 J H24 _ _ (ob_1 zc_0) (ob_1414 zc_0) (ob_1 zc_0) (ob_797 zc_0) (ob_1 zc_0) (ob_797 zc_0) hP hD hS (lv_sub hl [2, 3, 4, 5, 1, 0] rfl) (mlt (ob_1415 zc_0))
              · skip
                have f169 : y10_3.toInt = 0 := qi_eq c_41 rfl zc_0
                refine lv_iconst (v := (-1)) hx hb dX9_rivals_67 (by decide) ?_
                rw [hQ]
                exact W.iret (v := (-1)) hx hb hr (fun t ht hW => ⟨⟨(-1), (-1), rfl, rfl, ⟨i_askHouse, i_askTune, 0, J, by rw [ht]; exact hP, hD, ⟨ie0, ie1, ie2, ie3, ie4, ie5, ie6, ie7, (ob_1 zc_0), (ob_797 zc_0), ie10, ie11, ie12, ie13, ie14, ie15, ie16, ie17, ie18, ie19, ie20, ie21, ie22, ie23, ie24, ie25, ie26, ie27, ie28, ie29, ie30, ie31, ie32⟩⟩⟩, hS.F ht⟩) hS.2.2 dX9_rivals_68
      · skip
        have f170 : y10_4.toInt < r_5.toInt := qi_nle c_8 rfl rfl
        refine lv_iload_n hx hb dX9_rivals_19 rfl (lv_at hl 3 rfl) ?_
        refine lv_aload_n hx hb dX9_rivals_20 rfl (lv_at hl 0 rfl) ?_
        refine lv_iload hx hb dX9_rivals_21 (lv_at hl 4 rfl) ?_
        refine va_calli (va_runV (As := [.int y10_4]) (rest := [.int y10_3]) ⟨hx, hb, hml, hown, hG⟩ (kX9_isOnCart l dC dI r ct i_taped i_size i_faultKind i_at i_end i_token i_number i_bank i_rb i_codes i_within i_piled i_unitsInRule i_askHouse i_askTune i_acts i_undone 0 i_knowns i_time f_text f_tunes f_houses f_hums f_told f_many f_ruleFrom f_ruleTo f_code f_eWhat f_eSign f_all f_kept f_was f_sTune f_boxAll J L y10_4 H4.size ⟨ie0, ie1, ie2, ie3, ie4, ie5, ie6, ie7, (ob_1 zc_0), (ob_797 zc_0), ie10, ie11, ie12, ie13, ie14, ie15, ie16, ie17, ie18, ie19, ie20, ie21, ie22, ie23, ie24, ie25, ie26, ie27, ie28, ie29, ie30, ie31, ie32⟩ (ob_139 g10_0) (ob_1054 f170 f7)) (cwV 1 hG (goodV gw1704 gw1706 gw111 gw138 gw1707) rfl rfl rfl hd_X9_isOnCart ⟨(Nat.le_of_ble_eq_true rfl), (Nat.le_of_ble_eq_true rfl)⟩) ⟨fbR, va_recv hK hP (ci := 8) (q0 := 0) rfl rfl, pR_in hP hK⟩ rfl rfl hl.1 rfl (lv_room (Nat.le_of_ble_eq_true rfl)) dX9_rivals_23 ⟨(Nat.le_of_ble_eq_true rfl), (Nat.le_of_ble_eq_true rfl)⟩) hS (fun q hq h => absurd hq (Nat.not_lt.mpr h)) (fun q h => hA q (Nat.le_trans hS.1 h)) (fun r_172 u_ t_ H171 locs ht hvm hw hB hz1 hk1 hS => ?_)
        subst hw
        have hP := wk hP hk1
        obtain ⟨f173, f174, f175⟩ := hB
        refine lv_if_eq (tgt := 33) hx hb dX9_rivals_26 (by decide) (fun c_176 => ?_) (fun c_176 => ?_)
        · skip
          have f177 : r_172.toInt = 0 := qi_eq c_176 rfl zc_0
          have f178 : (f_all (y10_4.toInt).toNat).toInt + 1 ≠ (0 : Int) := (ob_1204 f173 f177)
          have f179 : r_172.toInt = (0 : Int) := (ob_226 f174 f175 f177)
          refine lv_iconst (v := 0) hx hb dX9_rivals_33 (by decide) ?_
          refine lv_iadd hx hb dX9_rivals_34 ?_
          refine lv_topi (fun x180 ex180 => ?_)
          refine lv_istore_n (lv' := [(3, .int x180), (0, .ref (r 0)), (1, .int p0), (2, .int p1), (4, .int y10_4)]) hx hb dX9_rivals_35 rfl hl (by decide) rfl (fun ls hl => ?_)
          obtain ⟨x181, ex181⟩ : ∃ y : Int32, y = y10_4 + Int32.ofInt 1 := ⟨_, rfl⟩
          have f182 : x181.toInt = y10_4.toInt + 1 := (ob_142 (qi_add ex181 rfl (by decide) (ob_140 g10_0) (ob_804 g10_1)))
          refine lv_iinc (v := x181) (lv' := [(4, .int x181), (3, .int x180), (0, .ref (r 0)), (1, .int p0), (2, .int p1)]) hx hb dX9_rivals_36 hl (k := 4) rfl ex181.symm (by decide) rfl (fun ls hl => ?_)
          refine lv_goto (tgt := 10) hx hb dX9_rivals_39 (by decide) ?_
          exact ih10 x180 x181 H171 _ _ (ob_149 g10_0 f182) (ob_1047 f1 f170 f7 f182) hP hD hS (lv_sub hl [2, 3, 4, 1, 0] rfl) (ob_806 hM10 f182)
        · skip
          have f183 : r_172.toInt ≠ 0 := qi_ne c_176 rfl zc_0
          have f184 : (f_all (y10_4.toInt).toNat).toInt + 1 = (0 : Int) := (ob_1205 f173 f183)
          have f185 : r_172.toInt = (1 : Int) := (ob_1206 f173 f183)
          have f186 : (1 : Int) ≤ r_172.toInt := (ob_162 f174 f175 f185)
          refine lv_iconst (v := 1) hx hb dX9_rivals_29 (by decide) ?_
          refine lv_goto (tgt := 34) hx hb dX9_rivals_30 (by decide) ?_
          refine lv_iadd hx hb dX9_rivals_34 ?_
          refine lv_topi (fun x187 ex187 => ?_)
          refine lv_istore_n (lv' := [(3, .int x187), (0, .ref (r 0)), (1, .int p0), (2, .int p1), (4, .int y10_4)]) hx hb dX9_rivals_35 rfl hl (by decide) rfl (fun ls hl => ?_)
          obtain ⟨x188, ex188⟩ : ∃ y : Int32, y = y10_4 + Int32.ofInt 1 := ⟨_, rfl⟩
          have f189 : x188.toInt = y10_4.toInt + 1 := (ob_142 (qi_add ex188 rfl (by decide) (ob_140 g10_0) (ob_804 g10_1)))
          refine lv_iinc (v := x188) (lv' := [(4, .int x188), (3, .int x187), (0, .ref (r 0)), (1, .int p0), (2, .int p1)]) hx hb dX9_rivals_36 hl (k := 4) rfl ex188.symm (by decide) rfl (fun ls hl => ?_)
          refine lv_goto (tgt := 10) hx hb dX9_rivals_39 (by decide) ?_
          exact ih10 x187 x188 H171 _ _ (ob_149 g10_0 f189) (ob_1047 f1 f170 f7 f189) hP hD hS (lv_sub hl [2, 3, 4, 1, 0] rfl) (ob_806 hM10 f189)
  exact L10 (-1 * (0 : Int32).toInt + 5 + 1).toNat 0 0 H3 _ _ (ob_1 zc_0) (ob_807 zc_0) hP hD hS (lv_sub hl [2, 3, 4, 1, 0] rfl) (mlt (ob_808 zc_0))
set_option maxHeartbeats 4000000 in
set_option maxRecDepth 100000 in
theorem kX9_power_v3 (l : Launch) (dC : Nat → ClassId) (dI : Nat → Nat → Nat) (p0 p1 : Int32) (sz : Nat) (hp0 : (100 : Int) ≤ p0.toInt) (hp1 : p0.toInt ≤ (100 : Int)) (hp2 : (0 : Int) ≤ p1.toInt) (hp3 : p1.toInt ≤ (4 : Int)) : Met l yX9_power (.code yX9_power cX9_power 4 (some .int) :: GW) { frames := 2, cells := 0, slots := 0, locals := 100 } (va_Pc [.int p0, .int p1] (pR (dC, dI) [] [] sz)) (va_Qi (fun (r0 : Int32) (u : Int32) => r0 = u) (fun (u : Int32) (t : State) => (u.toInt = (pw p0.toInt (p1.toInt).toNat)) ∧ ((1 : Int) ≤ (pw p0.toInt (p1.toInt).toNat)) ∧ ((pw p0.toInt (p1.toInt).toNat) ≤ (100000000 : Int))) (fun q => sz ≤ q)) 0 0 (fun q => sz ≤ q) := by
  refine Met.ofW (cc := cX9_power) (maxL := 4) (ret := (some .int)) (by decide) rfl ?_
  intro p e s m args below meth c0 s₁ B hml hv
  obtain ⟨rfl, hsz, hP, hK⟩ := hv
  have hx := B.exec
  have hb := B.bytes
  have hr := B.returns
  have hts := atoms_spec (ws := .code yX9_power cX9_power 4 (some .int) :: GW) B.pre
  have hG : ∀ w ∈ GW, w.before _ s = true := fun w h => hts w (List.mem_cons_of_mem _ h)
  have hown : s.vm.findClass RX9 = some m.cls := findClass_of_methodNamed B.named
  subst hsz
  have hS : va_S (fun q => s.heap.size ≤ q) s.heap s.heap [] := va_S.rf
  have hP : va_P (dC, dI) vwCl [] s.heap := hP
  have hl := lv_entry ([.int p0, .int p1]) (n := 4) (Nat.le_of_ble_eq_true rfl)
  rw [lg_entry_eq]
  generalize (lg_sl ([.int p0, .int p1]) ++ List.replicate (4 - (lg_sl ([.int p0, .int p1])).length) Slot.unset).toArray = ls at hl ⊢
  have hl : lv_has ls 4 [(0, .int p0), (1, .int p1)] := hl
  refine nameQ (fun Q hQ => ?_)
  refine lv_iconst (v := 1) hx hb dX9_power_0 (by decide) ?_
  refine lv_istore_n (lv' := [(2, .int 1), (0, .int p0), (1, .int p1)]) hx hb dX9_power_1 rfl hl (by decide) rfl (fun ls hl => ?_)
  refine lv_iconst (v := 0) hx hb dX9_power_2 (by decide) ?_
  refine lv_istore_n (lv' := [(3, .int 0), (2, .int 1), (0, .int p0), (1, .int p1)]) hx hb dX9_power_3 rfl hl (by decide) rfl (fun ls hl => ?_)
  refine lv_iload_n hx hb dX9_power_4 rfl (lv_at hl 0 rfl) ?_
  refine lv_iload_n hx hb dX9_power_5 rfl (lv_at hl 3 rfl) ?_
  refine lv_icmp_ge (tgt := 19) hx hb dX9_power_6 (by decide) (fun c_1 => ?_) (fun c_1 => ?_)
  · skip
    have f2 : p1.toInt ≤ 0 := qi_le c_1 rfl zc_0
    refine lv_iload_n hx hb dX9_power_19 rfl (lv_at hl 1 rfl) ?_
    have f3 : (pw p0.toInt (p1.toInt).toNat) = 1 := pw_0 (ob_985 hp2 hp3 f2)
    rw [hQ]
    exact W.iret (v := 1) hx hb hr (fun t ht hW => ⟨⟨1, 1, rfl, rfl, ⟨(ob_986 f3 zc_1), (ob_218 f3), (ob_987 f3)⟩⟩, hS.F ht⟩) hS.2.2 dX9_power_20
  · skip
    have f4 : 0 < p1.toInt := qi_nle c_1 rfl zc_0
    refine lv_iload_n hx hb dX9_power_9 rfl (lv_at hl 1 rfl) ?_
    refine lv_iload_n hx hb dX9_power_10 rfl (lv_at hl 2 rfl) ?_
    refine lv_imul hx hb dX9_power_11 ?_
    refine lv_topi (fun x5 ex5 => ?_)
    have f6 : x5.toInt = p0.toInt := (ob_990 (qi_mul ex5 zc_1 rfl (ob_1416 hp0 hp1) (ob_1417 hp0 hp1)))
    refine lv_istore_n (lv' := [(2, .int x5), (3, .int 0), (0, .int p0), (1, .int p1)]) hx hb dX9_power_12 rfl hl (by decide) rfl (fun ls hl => ?_)
    refine lv_iinc (v := 1) (lv' := [(3, .int 1), (2, .int x5), (0, .int p0), (1, .int p1)]) hx hb dX9_power_13 hl (k := 1) rfl (by decide) (by decide) rfl (fun ls hl => ?_)
    refine lv_goto (tgt := 4) hx hb dX9_power_16 (by decide) ?_
    refine lv_iload_n hx hb dX9_power_4 rfl (lv_at hl 0 rfl) ?_
    refine lv_iload_n hx hb dX9_power_5 rfl (lv_at hl 3 rfl) ?_
    refine lv_icmp_ge (tgt := 19) hx hb dX9_power_6 (by decide) (fun c_7 => ?_) (fun c_7 => ?_)
    · skip
      have f8 : p1.toInt ≤ 1 := qi_le c_7 rfl zc_1
      refine lv_iload_n hx hb dX9_power_19 rfl (lv_at hl 1 rfl) ?_
      have f9 : (pw p0.toInt (p1.toInt).toNat) = p0.toInt := pw_1 (ob_991 f4 f8)
      rw [hQ]
      exact W.iret (v := x5) hx hb hr (fun t ht hW => ⟨⟨x5, x5, rfl, rfl, ⟨(ob_1418 hp0 hp1 f9 f6), (ob_1419 hp0 hp1 f9), (ob_1420 hp0 hp1 f9)⟩⟩, hS.F ht⟩) hS.2.2 dX9_power_20
    · skip
      have f10 : 1 < p1.toInt := qi_nle c_7 rfl zc_1
      refine lv_iload_n hx hb dX9_power_9 rfl (lv_at hl 1 rfl) ?_
      refine lv_iload_n hx hb dX9_power_10 rfl (lv_at hl 2 rfl) ?_
      refine lv_imul hx hb dX9_power_11 ?_
      refine lv_topi (fun x11 ex11 => ?_)
      have f12 : 100 * 100 ≤ x11.toInt ∧ x11.toInt ≤ 100 * 100 := qi_mulb ex11 (ob_1421 hp0 hp1 f6) (ob_1422 hp0 hp1 f6) (ob_1423 hp0 hp1) (ob_1424 hp0 hp1) (by decide) (by decide) (by decide)
      have f13 : x11.toInt = (p0.toInt * p0.toInt) := qi_mulx ex11 f6 rfl (ob_1421 hp0 hp1 f6) (ob_1422 hp0 hp1 f6) (ob_1423 hp0 hp1) (ob_1424 hp0 hp1) (by decide) (by decide) (by decide)
      refine lv_istore_n (lv' := [(2, .int x11), (3, .int 1), (0, .int p0), (1, .int p1)]) hx hb dX9_power_12 rfl hl (by decide) rfl (fun ls hl => ?_)
      refine lv_iinc (v := 2) (lv' := [(3, .int 2), (2, .int x11), (0, .int p0), (1, .int p1)]) hx hb dX9_power_13 hl (k := 1) rfl (by decide) (by decide) rfl (fun ls hl => ?_)
      refine lv_goto (tgt := 4) hx hb dX9_power_16 (by decide) ?_
      refine lv_iload_n hx hb dX9_power_4 rfl (lv_at hl 0 rfl) ?_
      refine lv_iload_n hx hb dX9_power_5 rfl (lv_at hl 3 rfl) ?_
      refine lv_icmp_ge (tgt := 19) hx hb dX9_power_6 (by decide) (fun c_14 => ?_) (fun c_14 => ?_)
      · skip
        have f15 : p1.toInt ≤ 2 := qi_le c_14 rfl zc_2
        refine lv_iload_n hx hb dX9_power_19 rfl (lv_at hl 1 rfl) ?_
        have f16 : (pw p0.toInt (p1.toInt).toNat) = (p0.toInt * p0.toInt) := pw_2 (ob_999 f10 f15)
        rw [hQ]
        exact W.iret (v := x11) hx hb hr (fun t ht hW => ⟨⟨x11, x11, rfl, rfl, ⟨(ob_1425 f12 f16 f13), (ob_1426 f12 f16 f13), (ob_1427 f12 f16 f13)⟩⟩, hS.F ht⟩) hS.2.2 dX9_power_20
      · skip
        have f17 : 2 < p1.toInt := qi_nle c_14 rfl zc_2
        refine lv_iload_n hx hb dX9_power_9 rfl (lv_at hl 1 rfl) ?_
        refine lv_iload_n hx hb dX9_power_10 rfl (lv_at hl 2 rfl) ?_
        refine lv_imul hx hb dX9_power_11 ?_
        refine lv_topi (fun x18 ex18 => ?_)
        have f19 : 10000 * 100 ≤ x18.toInt ∧ x18.toInt ≤ 10000 * 100 := qi_mulb ex18 (ob_1428 f12 f13) (ob_1429 f12 f13) (ob_1423 hp0 hp1) (ob_1424 hp0 hp1) (by decide) (by decide) (by decide)
        have f20 : x18.toInt = ((p0.toInt * p0.toInt) * p0.toInt) := qi_mulx ex18 f13 rfl (ob_1428 f12 f13) (ob_1429 f12 f13) (ob_1423 hp0 hp1) (ob_1424 hp0 hp1) (by decide) (by decide) (by decide)
        refine lv_istore_n (lv' := [(2, .int x18), (3, .int 2), (0, .int p0), (1, .int p1)]) hx hb dX9_power_12 rfl hl (by decide) rfl (fun ls hl => ?_)
        refine lv_iinc (v := 3) (lv' := [(3, .int 3), (2, .int x18), (0, .int p0), (1, .int p1)]) hx hb dX9_power_13 hl (k := 1) rfl (by decide) (by decide) rfl (fun ls hl => ?_)
        refine lv_goto (tgt := 4) hx hb dX9_power_16 (by decide) ?_
        refine lv_iload_n hx hb dX9_power_4 rfl (lv_at hl 0 rfl) ?_
        refine lv_iload_n hx hb dX9_power_5 rfl (lv_at hl 3 rfl) ?_
        refine lv_icmp_ge (tgt := 19) hx hb dX9_power_6 (by decide) (fun c_21 => ?_) (fun c_21 => ?_)
        · skip
          have f22 : p1.toInt ≤ 3 := qi_le c_21 rfl zc_3
          refine lv_iload_n hx hb dX9_power_19 rfl (lv_at hl 1 rfl) ?_
          have f23 : (pw p0.toInt (p1.toInt).toNat) = ((p0.toInt * p0.toInt) * p0.toInt) := pw_3 (ob_1005 f17 f22)
          rw [hQ]
          exact W.iret (v := x18) hx hb hr (fun t ht hW => ⟨⟨x18, x18, rfl, rfl, ⟨(ob_1430 f19 f23 f20), (ob_1431 f19 f23 f20), (ob_1432 f19 f23 f20)⟩⟩, hS.F ht⟩) hS.2.2 dX9_power_20
        · skip
          have f24 : 3 < p1.toInt := qi_nle c_21 rfl zc_3
          refine lv_iload_n hx hb dX9_power_9 rfl (lv_at hl 1 rfl) ?_
          refine lv_iload_n hx hb dX9_power_10 rfl (lv_at hl 2 rfl) ?_
          refine lv_imul hx hb dX9_power_11 ?_
          refine lv_topi (fun x25 ex25 => ?_)
          have f26 : 1000000 * 100 ≤ x25.toInt ∧ x25.toInt ≤ 1000000 * 100 := qi_mulb ex25 (ob_1433 f19 f20) (ob_1434 f19 f20) (ob_1423 hp0 hp1) (ob_1424 hp0 hp1) (by decide) (by decide) (by decide)
          have f27 : x25.toInt = (((p0.toInt * p0.toInt) * p0.toInt) * p0.toInt) := qi_mulx ex25 f20 rfl (ob_1433 f19 f20) (ob_1434 f19 f20) (ob_1423 hp0 hp1) (ob_1424 hp0 hp1) (by decide) (by decide) (by decide)
          refine lv_istore_n (lv' := [(2, .int x25), (3, .int 3), (0, .int p0), (1, .int p1)]) hx hb dX9_power_12 rfl hl (by decide) rfl (fun ls hl => ?_)
          refine lv_iinc (v := 4) (lv' := [(3, .int 4), (2, .int x25), (0, .int p0), (1, .int p1)]) hx hb dX9_power_13 hl (k := 1) rfl (by decide) (by decide) rfl (fun ls hl => ?_)
          refine lv_goto (tgt := 4) hx hb dX9_power_16 (by decide) ?_
          refine lv_iload_n hx hb dX9_power_4 rfl (lv_at hl 0 rfl) ?_
          refine lv_iload_n hx hb dX9_power_5 rfl (lv_at hl 3 rfl) ?_
          refine lv_icmp_ge (tgt := 19) hx hb dX9_power_6 (by decide) (fun c_28 => ?_) (fun c_28 => ((ob_1011 (qi_nle c_28 rfl zc_4) hp3)).elim)
          have f29 : p1.toInt ≤ 4 := qi_le c_28 rfl zc_4
          refine lv_iload_n hx hb dX9_power_19 rfl (lv_at hl 1 rfl) ?_
          have f30 : (pw p0.toInt (p1.toInt).toNat) = (((p0.toInt * p0.toInt) * p0.toInt) * p0.toInt) := pw_4 (ob_1012 hp3 f24)
          rw [hQ]
          exact W.iret (v := x25) hx hb hr (fun t ht hW => ⟨⟨x25, x25, rfl, rfl, ⟨(ob_1435 f26 f30 f27), (ob_1436 f26 f30 f27), (ob_1437 f26 f30 f27)⟩⟩, hS.F ht⟩) hS.2.2 dX9_power_20
set_option maxHeartbeats 4000000 in
set_option maxRecDepth 100000 in
theorem kX9_odds (l : Launch) (dC : Nat → ClassId) (dI : Nat → Nat → Nat) (r : Nat → Nat) (ct : Nat → ClassId) (i_taped i_size i_faultKind i_at i_end i_token i_number i_bank i_rb i_codes i_within i_piled i_unitsInRule i_askHouse i_askTune i_acts i_undone i_laid i_knowns i_time : Int32) (f_text f_tunes f_houses f_hums f_told f_many f_ruleFrom f_ruleTo f_code f_eWhat f_eSign f_all f_kept f_was f_sTune f_boxAll : Nat → Int32) (J : Nat → Nat → Int32) (L : Nat → Nat → Int64) (p0 p1 : Int32) (sz : Nat) (hI : (IM i_taped i_size i_faultKind i_at i_end i_bank i_rb i_acts i_undone i_laid i_knowns i_time f_tunes f_houses f_hums f_told f_many f_ruleFrom f_ruleTo f_code f_all f_kept f_was f_sTune f_boxAll)) : Met l yX9_odds (.code yX9_odds cX9_odds 5 (some .int) :: GW) { frames := 4, cells := 0, slots := 0, locals := 164 } (va_Pc [.ref (r 0), .int p0, .int p1] (pR (dC, dI) (WM r ct i_taped i_size i_faultKind i_at i_end i_token i_number i_bank i_rb i_codes i_within i_piled i_unitsInRule i_askHouse i_askTune i_acts i_undone i_laid i_knowns i_time f_text f_tunes f_houses f_hums f_told f_many f_ruleFrom f_ruleTo f_code f_eWhat f_eSign f_all f_kept f_was f_sTune f_boxAll J L) (TM ct) sz)) (va_Qi (fun (r0 : Int32) (u : Int32) => r0 = u) (fun (u : Int32) (t : State) => True) (fun q => sz ≤ q)) 0 0 (fun q => sz ≤ q) := by
  refine Met.ofW (cc := cX9_odds) (maxL := 5) (ret := (some .int)) (by decide) rfl ?_
  intro p e s m args below meth c0 s₁ B hml hv
  obtain ⟨rfl, hsz, hP, hK⟩ := hv
  have hx := B.exec
  have hb := B.bytes
  have hr := B.returns
  have hts := atoms_spec (ws := .code yX9_odds cX9_odds 5 (some .int) :: GW) B.pre
  have hG : ∀ w ∈ GW, w.before _ s = true := fun w h => hts w (List.mem_cons_of_mem _ h)
  have hown : s.vm.findClass RX9 = some m.cls := findClass_of_methodNamed B.named
  subst hsz
  have hS : va_S (fun q => s.heap.size ≤ q) s.heap s.heap [] := va_S.rf
  have hP : va_P (dC, dI) vwCl (WM r ct i_taped i_size i_faultKind i_at i_end i_token i_number i_bank i_rb i_codes i_within i_piled i_unitsInRule i_askHouse i_askTune i_acts i_undone i_laid i_knowns i_time f_text f_tunes f_houses f_hums f_told f_many f_ruleFrom f_ruleTo f_code f_eWhat f_eSign f_all f_kept f_was f_sTune f_boxAll J L) s.heap := hP
  have hl := lv_entry ([.ref (r 0), .int p0, .int p1]) (n := 5) (Nat.le_of_ble_eq_true rfl)
  rw [lg_entry_eq]
  generalize (lg_sl ([.ref (r 0), .int p0, .int p1]) ++ List.replicate (5 - (lg_sl ([.ref (r 0), .int p0, .int p1])).length) Slot.unset).toArray = ls at hl ⊢
  have hl : lv_has ls 5 [(0, .ref (r 0)), (1, .int p0), (2, .int p1)] := hl
  refine nameQ (fun Q hQ => ?_)
  obtain ⟨ie0, ie1, ie2, ie3, ie4, ie5, ie6, ie7, ie8, ie9, ie10, ie11, ie12, ie13, ie14, ie15, ie16, ie17, ie18, ie19, ie20, ie21, ie22, ie23, ie24, ie25, ie26, ie27, ie28, ie29, ie30, ie31, ie32⟩ := id hI
  have f1 : 0 ≤ (f_tunes (i_bank.toInt).toNat).toInt ∧ (f_tunes (i_bank.toInt).toNat).toInt ≤ 5 := ie21 (i_bank.toInt)
  have f2 : 0 ≤ (f_houses (i_bank.toInt).toNat).toInt ∧ (f_houses (i_bank.toInt).toNat).toInt ≤ 4 := ie22 (i_bank.toInt)
  refine lv_iload_n hx hb dX9_odds_0 rfl (lv_at hl 1 rfl) ?_
  refine lv_iconst (v := 0) hx hb dX9_odds_1 (by decide) ?_
  refine lv_iconst (v := 4) hx hb dX9_odds_2 (by decide) ?_
  refine va_calli (va_runS (As := [.int p0, .int 0, .int 4]) (rest := []) ⟨hx, hb, hml, hown, hG⟩ (kX9_isIn l dC dI p0 0 4 s.heap.size) (va_cwS 3 hG (goodS gw1516 gw1517 gw138 gw1518) rfl rfl rfl hd_X9_isIn ⟨(Nat.le_of_ble_eq_true rfl), (Nat.le_of_ble_eq_true rfl)⟩) ⟨fbR, pR_in emptyP (emptyK hK)⟩ rfl rfl hl.1 rfl (lv_room (Nat.le_of_ble_eq_true rfl)) dX9_odds_3 ⟨(Nat.le_of_ble_eq_true rfl), (Nat.le_of_ble_eq_true rfl)⟩) hS (fun q hq h => absurd hq (Nat.not_lt.mpr h)) (fun q h => Nat.le_trans hS.1 h) (fun r_4 u_ t_ H3 locs ht hvm hw hB hz1 hk1 hS => ?_)
  subst hw
  have hP := wk hP hk1
  obtain ⟨f5, f6, f7⟩ := hB
  refine lv_if_eq (tgt := 18) hx hb dX9_odds_6 (by decide) (fun c_8 => ?_) (fun c_8 => ?_)
  · skip
    have f9 : r_4.toInt = 0 := qi_eq c_8 rfl zc_0
    refine lv_iconst (v := (-1)) hx hb dX9_odds_18 (by decide) ?_
    rw [hQ]
    exact W.iret (v := (-1)) hx hb hr (fun t ht hW => ⟨⟨(-1), (-1), rfl, rfl, trivial⟩, hS.F ht⟩) hS.2.2 dX9_odds_19
  · skip
    have f10 : r_4.toInt ≠ 0 := qi_ne c_8 rfl zc_0
    have f11 : (0 : Int) ≤ p0.toInt := (ob_1438 f5 f10 zc_4 zc_0)
    have f12 : p0.toInt ≤ (4 : Int) := (ob_1439 f5 f10 zc_4 zc_0)
    have f13 : r_4.toInt = (1 : Int) := (ob_1440 f5 f10 zc_4 zc_0)
    have f14 : (1 : Int) ≤ r_4.toInt := (ob_162 f6 f7 f13)
    refine lv_iload_n hx hb dX9_odds_9 rfl (lv_at hl 2 rfl) ?_
    refine lv_iconst (v := 0) hx hb dX9_odds_10 (by decide) ?_
    refine lv_iconst (v := 1) hx hb dX9_odds_11 (by decide) ?_
    refine va_calli (va_runS (As := [.int p1, .int 0, .int 1]) (rest := []) ⟨hx, hb, hml, hown, hG⟩ (kX9_isIn l dC dI p1 0 1 H3.size) (va_cwS 3 hG (goodS gw1516 gw1517 gw138 gw1518) rfl rfl rfl hd_X9_isIn ⟨(Nat.le_of_ble_eq_true rfl), (Nat.le_of_ble_eq_true rfl)⟩) ⟨fbR, pR_in emptyP (emptyK hK)⟩ rfl rfl hl.1 rfl (lv_room (Nat.le_of_ble_eq_true rfl)) dX9_odds_12 ⟨(Nat.le_of_ble_eq_true rfl), (Nat.le_of_ble_eq_true rfl)⟩) hS (fun q hq h => absurd hq (Nat.not_lt.mpr h)) (fun q h => Nat.le_trans hS.1 h) (fun r_16 u_ t_ H15 locs ht hvm hw hB hz1 hk1 hS => ?_)
    subst hw
    have hP := wk hP hk1
    obtain ⟨f17, f18, f19⟩ := hB
    refine lv_if_ne (tgt := 20) hx hb dX9_odds_15 (by decide) (fun c_20 => ?_) (fun c_20 => ?_)
    · skip
      have f21 : r_16.toInt ≠ 0 := qi_ne c_20 rfl zc_0
      have f22 : (0 : Int) ≤ p1.toInt := (ob_1129 f17 f21 zc_1 zc_0)
      have f23 : p1.toInt ≤ (1 : Int) := (ob_1130 f17 f21 zc_1 zc_0)
      have f24 : r_16.toInt = (1 : Int) := (ob_1131 f17 f21 zc_1 zc_0)
      have f25 : (1 : Int) ≤ r_16.toInt := (ob_162 f18 f19 f24)
      refine lv_bipush (v := 100) hx hb dX9_odds_20 (by decide) ?_
      refine lv_aload_n hx hb dX9_odds_22 rfl (lv_at hl 0 rfl) ?_
      refine gM_X9_33_0 hx hb hG hown hK hP dX9_odds_23 ?_
      refine lv_aload_n hx hb dX9_odds_26 rfl (lv_at hl 0 rfl) ?_
      refine gM_X9_249_0 hx hb hG hown hK hP dX9_odds_27 ?_
      refine ldM_7 (mm := i_bank.toInt) hx hb hK hP rfl (ob_263 ie4 ie5) (ob_264 ie4 ie5) dX9_odds_30 ?_
      have f26 : 0 ≤ (f_hums (i_bank.toInt).toNat).toInt ∧ (f_hums (i_bank.toInt).toNat).toInt ≤ 100 := ie24 (i_bank.toInt)
      refine lv_isub hx hb dX9_odds_31 ?_
      refine lv_topi (fun x27 ex27 => ?_)
      have f28 : x27.toInt = -1 * (f_hums (i_bank.toInt).toNat).toInt + 100 := (ob_1443 (qi_sub ex27 zc_100 rfl (ob_1441 f26) (ob_1442 f26)))
      refine lv_iload_n hx hb dX9_odds_32 rfl (lv_at hl 1 rfl) ?_
      refine va_calli (va_runS (As := [.int x27, .int p0]) (rest := []) ⟨hx, hb, hml, hown, hG⟩ (kX9_power l dC dI x27 p0 H15.size (ob_1444 f26 f28) (ob_1445 f26 f28) (ob_1446 f11 f12) (ob_1447 f11 f12)) (va_cwS 2 hG (goodS gw1756 gw1757 gw138 gw1758) rfl rfl rfl hd_X9_power ⟨(Nat.le_of_ble_eq_true rfl), (Nat.le_of_ble_eq_true rfl)⟩) ⟨fbR, pR_in emptyP (emptyK hK)⟩ rfl rfl hl.1 rfl (lv_room (Nat.le_of_ble_eq_true rfl)) dX9_odds_33 ⟨(Nat.le_of_ble_eq_true rfl), (Nat.le_of_ble_eq_true rfl)⟩) hS (fun q hq h => absurd hq (Nat.not_lt.mpr h)) (fun q h => Nat.le_trans hS.1 h) (fun r_30 u_ t_ H29 locs ht hvm hw hB hz1 hk1 hS => ?_)
      subst hw
      have hP := wk hP hk1
      obtain ⟨f31, f32, f33⟩ := hB
      have f34 : (pw x27.toInt (p0.toInt).toNat) = (pw (-1 * (f_hums (i_bank.toInt).toNat).toInt + 100) (p0.toInt).toNat) := by rw [f28]
      have f35 : r_30.toInt = (pw (-1 * (f_hums (i_bank.toInt).toNat).toInt + 100) (p0.toInt).toNat) := (ob_1270 f31 f34)
      refine lv_istore_n (lv' := [(3, .int r_30), (0, .ref (r 0)), (1, .int p0), (2, .int p1)]) hx hb dX9_odds_36 rfl hl (by decide) rfl (fun ls hl => ?_)
      refine lv_bipush (v := 100) hx hb dX9_odds_37 (by decide) ?_
      refine lv_iload_n hx hb dX9_odds_39 rfl (lv_at hl 2 rfl) ?_
      refine va_calli (va_runS (As := [.int 100, .int p0]) (rest := []) ⟨hx, hb, hml, hown, hG⟩ (kX9_power_v3 l dC dI 100 p0 H29.size (ob_1448 zc_100) (ob_1449 zc_100) (ob_1446 f11 f12) (ob_1447 f11 f12)) (va_cwS 2 hG (goodS gw1756 gw1757 gw138 gw1758) rfl rfl rfl hd_X9_power ⟨(Nat.le_of_ble_eq_true rfl), (Nat.le_of_ble_eq_true rfl)⟩) ⟨fbR, pR_in emptyP (emptyK hK)⟩ rfl rfl hl.1 rfl (lv_room (Nat.le_of_ble_eq_true rfl)) dX9_odds_40 ⟨(Nat.le_of_ble_eq_true rfl), (Nat.le_of_ble_eq_true rfl)⟩) hS (fun q hq h => absurd hq (Nat.not_lt.mpr h)) (fun q h => Nat.le_trans hS.1 h) (fun r_37 u_ t_ H36 locs ht hvm hw hB hz1 hk1 hS => ?_)
      subst hw
      have hP := wk hP hk1
      obtain ⟨f38, f39, f40⟩ := hB
      have f41 : r_37.toInt = (pw (100 : Int32).toInt (p0.toInt).toNat) := (ob_1286 f38 f34)
      refine lv_istore (lv' := [(4, .int r_37), (3, .int r_30), (0, .ref (r 0)), (1, .int p0), (2, .int p1)]) hx hb dX9_odds_43 hl (by decide) rfl (fun ls hl => ?_)
      refine lv_iload_n hx hb dX9_odds_45 rfl (lv_at hl 4 rfl) ?_
      refine lv_if_ne (tgt := 53) hx hb dX9_odds_46 (by decide) (fun c_42 => ?_) (fun c_42 => ?_)
      · skip
        have f43 : p1.toInt ≠ 0 := qi_ne c_42 rfl zc_0
        have f44 : (1 : Int) ≤ p1.toInt := (ob_22 f22 f43)
        refine lv_iload hx hb dX9_odds_53 (lv_at hl 0 rfl) ?_
        refine lv_iload hx hb dX9_odds_55 (lv_at hl 0 rfl) ?_
        refine lv_iload_n hx hb dX9_odds_57 rfl (lv_at hl 1 rfl) ?_
        refine va_calli (va_runS (As := [.int r_37, .int r_30]) (rest := [.int r_37]) ⟨hx, hb, hml, hown, hG⟩ (kX9_divisor l dC dI r_37 r_30 H36.size (ob_1450 f39 f40 f41) (ob_1451 f34 f32 f33 f35)) (va_cwS 2 hG (goodS gw1814 gw1815 gw138 gw1816) rfl rfl rfl hd_X9_divisor ⟨(Nat.le_of_ble_eq_true rfl), (Nat.le_of_ble_eq_true rfl)⟩) ⟨fbR, pR_in emptyP (emptyK hK)⟩ rfl rfl hl.1 rfl (lv_room (Nat.le_of_ble_eq_true rfl)) dX9_odds_58 ⟨(Nat.le_of_ble_eq_true rfl), (Nat.le_of_ble_eq_true rfl)⟩) hS (fun q hq h => absurd hq (Nat.not_lt.mpr h)) (fun q h => Nat.le_trans hS.1 h) (fun r_46 u_ t_ H45 locs ht hvm hw hB hz1 hk1 hS => ?_)
        subst hw
        have hP := wk hP hk1
        obtain ⟨f47, f48⟩ := hB
        refine lv_idiv hx hb dX9_odds_61 (qi_nz (ob_398 f47)) ?_
        refine lv_topi (fun x49 ex49 => ?_)
        have f50 : 0 ≤ x49.toInt ∧ x49.toInt ≤ r_37.toInt := qi_div ex49 rfl rfl (ob_1452 f39 f40 f41) (ob_398 f47)
        have f51 : x49.toInt = ((pw (100 : Int32).toInt (p0.toInt).toNat) / r_46.toInt) := divnn ex49 f41 rfl (ob_1453 f39 f40 f50 f41) (ob_398 f47)
        rw [hQ]
        exact W.iret (v := x49) hx hb hr (fun t ht hW => ⟨⟨x49, x49, rfl, rfl, trivial⟩, hS.F ht⟩) hS.2.2 dX9_odds_62
      · skip
        have f52 : p1.toInt = 0 := qi_eq c_42 rfl zc_0
        refine lv_iload_n hx hb dX9_odds_49 rfl (lv_at hl 1 rfl) ?_
        refine lv_goto (tgt := 55) hx hb dX9_odds_50 (by decide) ?_
        refine lv_iload hx hb dX9_odds_55 (lv_at hl 0 rfl) ?_
        refine lv_iload_n hx hb dX9_odds_57 rfl (lv_at hl 1 rfl) ?_
        refine va_calli (va_runS (As := [.int r_37, .int r_30]) (rest := [.int r_30]) ⟨hx, hb, hml, hown, hG⟩ (kX9_divisor l dC dI r_37 r_30 H36.size (ob_1450 f39 f40 f41) (ob_1451 f34 f32 f33 f35)) (va_cwS 2 hG (goodS gw1814 gw1815 gw138 gw1816) rfl rfl rfl hd_X9_divisor ⟨(Nat.le_of_ble_eq_true rfl), (Nat.le_of_ble_eq_true rfl)⟩) ⟨fbR, pR_in emptyP (emptyK hK)⟩ rfl rfl hl.1 rfl (lv_room (Nat.le_of_ble_eq_true rfl)) dX9_odds_58 ⟨(Nat.le_of_ble_eq_true rfl), (Nat.le_of_ble_eq_true rfl)⟩) hS (fun q hq h => absurd hq (Nat.not_lt.mpr h)) (fun q h => Nat.le_trans hS.1 h) (fun r_54 u_ t_ H53 locs ht hvm hw hB hz1 hk1 hS => ?_)
        subst hw
        have hP := wk hP hk1
        obtain ⟨f55, f56⟩ := hB
        refine lv_idiv hx hb dX9_odds_61 (qi_nz (ob_398 f55)) ?_
        refine lv_topi (fun x57 ex57 => ?_)
        have f58 : 0 ≤ x57.toInt ∧ x57.toInt ≤ r_30.toInt := qi_div ex57 rfl rfl (ob_1454 f34 f32 f33 f35) (ob_398 f55)
        have f59 : x57.toInt = ((pw (-1 * (f_hums (i_bank.toInt).toNat).toInt + 100) (p0.toInt).toNat) / r_54.toInt) := divnn ex57 f35 rfl (ob_1455 f34 f58 f35) (ob_398 f55)
        rw [hQ]
        exact W.iret (v := x57) hx hb hr (fun t ht hW => ⟨⟨x57, x57, rfl, rfl, trivial⟩, hS.F ht⟩) hS.2.2 dX9_odds_62
    · skip
      have f60 : r_16.toInt = 0 := qi_eq c_20 rfl zc_0
      refine lv_iconst (v := (-1)) hx hb dX9_odds_18 (by decide) ?_
      rw [hQ]
      exact W.iret (v := (-1)) hx hb hr (fun t ht hW => ⟨⟨(-1), (-1), rfl, rfl, trivial⟩, hS.F ht⟩) hS.2.2 dX9_odds_19
set_option maxHeartbeats 4000000 in
set_option maxRecDepth 100000 in
theorem kX9_known (l : Launch) (dC : Nat → ClassId) (dI : Nat → Nat → Nat) (r : Nat → Nat) (ct : Nat → ClassId) (i_taped i_size i_faultKind i_at i_end i_token i_number i_bank i_rb i_codes i_within i_piled i_unitsInRule i_askHouse i_askTune i_acts i_undone i_laid i_knowns i_time : Int32) (f_text f_tunes f_houses f_hums f_told f_many f_ruleFrom f_ruleTo f_code f_eWhat f_eSign f_all f_kept f_was f_sTune f_boxAll : Nat → Int32) (J : Nat → Nat → Int32) (L : Nat → Nat → Int64) (p0 p1 p2 : Int32) (sz : Nat) (hI : (IM i_taped i_size i_faultKind i_at i_end i_bank i_rb i_acts i_undone i_laid i_knowns i_time f_tunes f_houses f_hums f_told f_many f_ruleFrom f_ruleTo f_code f_all f_kept f_was f_sTune f_boxAll)) (hz_p2 : 0 ≤ p2.toInt ∧ p2.toInt ≤ 1) : Met l yX9_known (.code yX9_known cX9_known 4 (some .int) :: GW) { frames := 6, cells := 0, slots := 0, locals := 223 } (va_Pc [.ref (r 0), .int p0, .int p1, .int p2] (pW (dC, dI) (WM r ct i_taped i_size i_faultKind i_at i_end i_token i_number i_bank i_rb i_codes i_within i_piled i_unitsInRule i_askHouse i_askTune i_acts i_undone i_laid i_knowns i_time f_text f_tunes f_houses f_hums f_told f_many f_ruleFrom f_ruleTo f_code f_eWhat f_eSign f_all f_kept f_was f_sTune f_boxAll J L) (TM ct) sz)) (va_Qi (fun (r0 : Int32) (u : Int32) => r0 = u) (fun (u : Int32) (t : State) => ∃ (n_i_knowns : Int32) (n_f_sTune : Nat → Int32) (n_J : Nat → Nat → Int32), va_P (dC, dI) vwCl (WM r ct i_taped i_size i_faultKind i_at i_end i_token i_number i_bank i_rb i_codes i_within i_piled i_unitsInRule i_askHouse i_askTune i_acts i_undone i_laid n_i_knowns i_time f_text f_tunes f_houses f_hums f_told f_many f_ruleFrom f_ruleTo f_code f_eWhat f_eSign f_all f_kept f_was n_f_sTune f_boxAll n_J L) t.heap ∧ va_D (va_A (WM r ct i_taped i_size i_faultKind i_at i_end i_token i_number i_bank i_rb i_codes i_within i_piled i_unitsInRule i_askHouse i_askTune i_acts i_undone i_laid i_knowns i_time f_text f_tunes f_houses f_hums f_told f_many f_ruleFrom f_ruleTo f_code f_eWhat f_eSign f_all f_kept f_was f_sTune f_boxAll J L) sz) (WM r ct i_taped i_size i_faultKind i_at i_end i_token i_number i_bank i_rb i_codes i_within i_piled i_unitsInRule i_askHouse i_askTune i_acts i_undone i_laid n_i_knowns i_time f_text f_tunes f_houses f_hums f_told f_many f_ruleFrom f_ruleTo f_code f_eWhat f_eSign f_all f_kept f_was n_f_sTune f_boxAll n_J L) ∧ (IM i_taped i_size i_faultKind i_at i_end i_bank i_rb i_acts i_undone i_laid n_i_knowns i_time f_tunes f_houses f_hums f_told f_many f_ruleFrom f_ruleTo f_code f_all f_kept f_was n_f_sTune f_boxAll)) (va_A (WM r ct i_taped i_size i_faultKind i_at i_end i_token i_number i_bank i_rb i_codes i_within i_piled i_unitsInRule i_askHouse i_askTune i_acts i_undone i_laid i_knowns i_time f_text f_tunes f_houses f_hums f_told f_many f_ruleFrom f_ruleTo f_code f_eWhat f_eSign f_all f_kept f_was f_sTune f_boxAll J L) sz)) 0 0 (va_A (WM r ct i_taped i_size i_faultKind i_at i_end i_token i_number i_bank i_rb i_codes i_within i_piled i_unitsInRule i_askHouse i_askTune i_acts i_undone i_laid i_knowns i_time f_text f_tunes f_houses f_hums f_told f_many f_ruleFrom f_ruleTo f_code f_eWhat f_eSign f_all f_kept f_was f_sTune f_boxAll J L) sz) := by
  refine Met.ofW (cc := cX9_known) (maxL := 4) (ret := (some .int)) (by decide) rfl ?_
  intro p e s m args below meth c0 s₁ B hml hv
  obtain ⟨rfl, hsz, hP, hK, hD0⟩ := hv
  have hx := B.exec
  have hb := B.bytes
  have hr := B.returns
  have hts := atoms_spec (ws := .code yX9_known cX9_known 4 (some .int) :: GW) B.pre
  have hG : ∀ w ∈ GW, w.before _ s = true := fun w h => hts w (List.mem_cons_of_mem _ h)
  have hown : s.vm.findClass RX9 = some m.cls := findClass_of_methodNamed B.named
  subst hsz
  have hD := hD0.self (sz := s.heap.size)
  generalize hAe : va_A (WM r ct i_taped i_size i_faultKind i_at i_end i_token i_number i_bank i_rb i_codes i_within i_piled i_unitsInRule i_askHouse i_askTune i_acts i_undone i_laid i_knowns i_time f_text f_tunes f_houses f_hums f_told f_many f_ruleFrom f_ruleTo f_code f_eWhat f_eSign f_all f_kept f_was f_sTune f_boxAll J L) s.heap.size = A at hD ⊢
  have hA : ∀ q : Nat, s.heap.size ≤ q → A q := fun q h => by rw [← hAe]; exact Or.inr h
  have hS : va_S A s.heap s.heap [] := va_S.rf
  have hP : va_P (dC, dI) vwCl (WM r ct i_taped i_size i_faultKind i_at i_end i_token i_number i_bank i_rb i_codes i_within i_piled i_unitsInRule i_askHouse i_askTune i_acts i_undone i_laid i_knowns i_time f_text f_tunes f_houses f_hums f_told f_many f_ruleFrom f_ruleTo f_code f_eWhat f_eSign f_all f_kept f_was f_sTune f_boxAll J L) s.heap := hP
  have hl := lv_entry ([.ref (r 0), .int p0, .int p1, .int p2]) (n := 4) (Nat.le_of_ble_eq_true rfl)
  rw [lg_entry_eq]
  generalize (lg_sl ([.ref (r 0), .int p0, .int p1, .int p2]) ++ List.replicate (4 - (lg_sl ([.ref (r 0), .int p0, .int p1, .int p2])).length) Slot.unset).toArray = ls at hl ⊢
  have hl : lv_has ls 4 [(0, .ref (r 0)), (1, .int p0), (2, .int p1), (3, .int p2)] := hl
  refine nameQ (fun Q hQ => ?_)
  obtain ⟨ie0, ie1, ie2, ie3, ie4, ie5, ie6, ie7, ie8, ie9, ie10, ie11, ie12, ie13, ie14, ie15, ie16, ie17, ie18, ie19, ie20, ie21, ie22, ie23, ie24, ie25, ie26, ie27, ie28, ie29, ie30, ie31, ie32⟩ := id hI
  have f1 : 0 ≤ (f_tunes (i_bank.toInt).toNat).toInt ∧ (f_tunes (i_bank.toInt).toNat).toInt ≤ 5 := ie21 (i_bank.toInt)
  have f2 : 0 ≤ (f_houses (i_bank.toInt).toNat).toInt ∧ (f_houses (i_bank.toInt).toNat).toInt ≤ 4 := ie22 (i_bank.toInt)
  refine lv_aload_n hx hb dX9_known_0 rfl (lv_at hl 0 rfl) ?_
  refine lv_iload_n hx hb dX9_known_1 rfl (lv_at hl 1 rfl) ?_
  refine va_calli (va_runV (As := [.int p0]) (rest := []) ⟨hx, hb, hml, hown, hG⟩ (kX9_isTune l dC dI r ct i_taped i_size i_faultKind i_at i_end i_token i_number i_bank i_rb i_codes i_within i_piled i_unitsInRule i_askHouse i_askTune i_acts i_undone i_laid i_knowns i_time f_text f_tunes f_houses f_hums f_told f_many f_ruleFrom f_ruleTo f_code f_eWhat f_eSign f_all f_kept f_was f_sTune f_boxAll J L p0 s.heap.size hI) (cwV 1 hG (goodV gw1508 gw1510 gw85 gw138 gw1511) rfl rfl rfl hd_X9_isTune ⟨(Nat.le_of_ble_eq_true rfl), (Nat.le_of_ble_eq_true rfl)⟩) ⟨fbR, va_recv hK hP (ci := 8) (q0 := 0) rfl rfl, pR_in hP hK⟩ rfl rfl hl.1 rfl (lv_room (Nat.le_of_ble_eq_true rfl)) dX9_known_2 ⟨(Nat.le_of_ble_eq_true rfl), (Nat.le_of_ble_eq_true rfl)⟩) hS (fun q hq h => absurd hq (Nat.not_lt.mpr h)) (fun q h => hA q (Nat.le_trans hS.1 h)) (fun r_4 u_ t_ H3 locs ht hvm hw hB hz1 hk1 hS => ?_)
  subst hw
  have hP := wk hP hk1
  obtain ⟨f5, f6, f7, f8, f9⟩ := hB
  refine lv_if_eq (tgt := 37) hx hb dX9_known_5 (by decide) (fun c_10 => ?_) (fun c_10 => ?_)
  · skip
    have f11 : r_4.toInt = 0 := qi_eq c_10 rfl zc_0
    refine lv_iconst (v := (-1)) hx hb dX9_known_37 (by decide) ?_
    rw [hQ]
    exact W.iret (v := (-1)) hx hb hr (fun t ht hW => ⟨⟨(-1), (-1), rfl, rfl, ⟨i_knowns, f_sTune, J, by rw [ht]; exact hP, hD, hI⟩⟩, hS.F ht⟩) hS.2.2 dX9_known_38
  · skip
    have f12 : r_4.toInt ≠ 0 := qi_ne c_10 rfl zc_0
    have f13 : (0 : Int) ≤ p0.toInt := (ob_1090 f5 f12)
    have f14 : p0.toInt + 1 ≤ (f_tunes (i_bank.toInt).toNat).toInt := (ob_1091 f5 f12)
    have f15 : r_4.toInt = (1 : Int) := (ob_1092 f5 f12)
    have f16 : (1 : Int) ≤ r_4.toInt := (ob_395 f15)
    refine lv_iload_n hx hb dX9_known_8 rfl (lv_at hl 2 rfl) ?_
    refine lv_sipush (v := (-999)) hx hb dX9_known_9 (by decide) ?_
    refine lv_sipush (v := 999) hx hb dX9_known_12 (by decide) ?_
    refine va_calli (va_runS (As := [.int p1, .int (-999), .int 999]) (rest := []) ⟨hx, hb, hml, hown, hG⟩ (kX9_isIn l dC dI p1 (-999) 999 H3.size) (va_cwS 3 hG (goodS gw1516 gw1517 gw138 gw1518) rfl rfl rfl hd_X9_isIn ⟨(Nat.le_of_ble_eq_true rfl), (Nat.le_of_ble_eq_true rfl)⟩) ⟨fbR, pR_in emptyP (emptyK hK)⟩ rfl rfl hl.1 rfl (lv_room (Nat.le_of_ble_eq_true rfl)) dX9_known_15 ⟨(Nat.le_of_ble_eq_true rfl), (Nat.le_of_ble_eq_true rfl)⟩) hS (fun q hq h => absurd hq (Nat.not_lt.mpr h)) (fun q h => hA q (Nat.le_trans hS.1 h)) (fun r_18 u_ t_ H17 locs ht hvm hw hB hz1 hk1 hS => ?_)
    subst hw
    have hP := wk hP hk1
    obtain ⟨f19, f20, f21⟩ := hB
    refine lv_if_eq (tgt := 37) hx hb dX9_known_18 (by decide) (fun c_22 => ?_) (fun c_22 => ?_)
    · skip
      have f23 : r_18.toInt = 0 := qi_eq c_22 rfl zc_0
      refine lv_iconst (v := (-1)) hx hb dX9_known_37 (by decide) ?_
      rw [hQ]
      exact W.iret (v := (-1)) hx hb hr (fun t ht hW => ⟨⟨(-1), (-1), rfl, rfl, ⟨i_knowns, f_sTune, J, by rw [ht]; exact hP, hD, hI⟩⟩, hS.F ht⟩) hS.2.2 dX9_known_38
    · skip
      have f24 : r_18.toInt ≠ 0 := qi_ne c_22 rfl zc_0
      have f25 : (0 : Int) ≤ p1.toInt + 999 := (ob_1456 f19 f24 zc_999 zc_m999)
      have f26 : p1.toInt ≤ (999 : Int) := (ob_1457 f19 f24 zc_999 zc_m999)
      have f27 : r_18.toInt = (1 : Int) := (ob_1458 f19 f24 zc_999 zc_m999)
      have f28 : (1 : Int) ≤ r_18.toInt := (ob_162 f20 f21 f27)
      refine lv_aload_n hx hb dX9_known_21 rfl (lv_at hl 0 rfl) ?_
      refine gM_X9_370_0 hx hb hG hown hK hP dX9_known_22 ?_
      refine lv_bipush (v := 30) hx hb dX9_known_25 (by decide) ?_
      refine lv_icmp_eq (tgt := 37) hx hb dX9_known_27 (by decide) (fun c_29 => ?_) (fun c_29 => ?_)
      · skip
        have f30 : i_knowns.toInt = 30 := qi_eq c_29 rfl zc_30
        refine lv_iconst (v := (-1)) hx hb dX9_known_37 (by decide) ?_
        rw [hQ]
        exact W.iret (v := (-1)) hx hb hr (fun t ht hW => ⟨⟨(-1), (-1), rfl, rfl, ⟨i_knowns, f_sTune, J, by rw [ht]; exact hP, hD, hI⟩⟩, hS.F ht⟩) hS.2.2 dX9_known_38
      · skip
        have f31 : i_knowns.toInt ≠ 30 := qi_ne c_29 rfl zc_30
        have f32 : i_knowns.toInt ≤ (29 : Int) := (ob_1459 ie10 ie11 f31)
        refine lv_aload_n hx hb dX9_known_30 rfl (lv_at hl 0 rfl) ?_
        refine va_calli (va_runV (As := []) (rest := []) ⟨hx, hb, hml, hown, hG⟩ (kX9_homes l dC dI r ct i_taped i_size i_faultKind i_at i_end i_token i_number i_bank i_rb i_codes i_within i_piled i_unitsInRule i_askHouse i_askTune i_acts i_undone i_laid i_knowns i_time f_text f_tunes f_houses f_hums f_told f_many f_ruleFrom f_ruleTo f_code f_eWhat f_eSign f_all f_kept f_was f_sTune f_boxAll J L H17.size hI) (cwV 0 hG (goodV gw1167 gw1169 gw58 gw138 gw1170) rfl rfl rfl hd_X9_homes ⟨(Nat.le_of_ble_eq_true rfl), (Nat.le_of_ble_eq_true rfl)⟩) ⟨fbR, va_recv hK hP (ci := 8) (q0 := 0) rfl rfl, pR_in hP hK⟩ rfl rfl hl.1 rfl (lv_room (Nat.le_of_ble_eq_true rfl)) dX9_known_31 ⟨(Nat.le_of_ble_eq_true rfl), (Nat.le_of_ble_eq_true rfl)⟩) hS (fun q hq h => absurd hq (Nat.not_lt.mpr h)) (fun q h => hA q (Nat.le_trans hS.1 h)) (fun r_34 u_ t_ H33 locs ht hvm hw hB hz1 hk1 hS => ?_)
        subst hw
        have hP := wk hP hk1
        have f35 := hB
        have f36 : r_34.toInt = (f_houses (i_bank.toInt).toNat).toInt := (ob_6 f35)
        refine lv_if_ne (tgt := 39) hx hb dX9_known_34 (by decide) (fun c_37 => ?_) (fun c_37 => ?_)
        · skip
          have f38 : r_34.toInt ≠ 0 := qi_ne c_37 rfl zc_0
          have f39 : (1 : Int) ≤ (f_houses (i_bank.toInt).toNat).toInt := (ob_1132 f2 f38 f36)
          refine lv_aload_n hx hb dX9_known_39 rfl (lv_at hl 0 rfl) ?_
          refine gM_X9_103_0 hx hb hG hown hK hP dX9_known_40 ?_
          refine lv_aload_n hx hb dX9_known_43 rfl (lv_at hl 0 rfl) ?_
          refine gM_X9_370_0 hx hb hG hown hK hP dX9_known_44 ?_
          refine lv_iload_n hx hb dX9_known_47 rfl (lv_at hl 1 rfl) ?_
          refine stM_30 (mm := i_knowns.toInt) hx hb hK hP hD hS rfl (ob_1460 ie10 ie11 f32) (ob_1461 ie10 ie11 f32) dX9_known_48 (fun z41 H40 locs ez41 hP hD hS => ?_)
          have g42 : EB 0 4 z41 := ez41 ▸ EB_upd ie26 (ob_1029 f13 f14) (ob_1462 f1 f14)
          refine lv_aload_n hx hb dX9_known_49 rfl (lv_at hl 0 rfl) ?_
          refine gM_X9_106_0 hx hb hG hown hK hP dX9_known_50 ?_
          refine lv_aload_n hx hb dX9_known_53 rfl (lv_at hl 0 rfl) ?_
          refine gM_X9_370_0 hx hb hG hown hK hP dX9_known_54 ?_
          refine lv_iload_n hx hb dX9_known_57 rfl (lv_at hl 2 rfl) ?_
          refine stM_31 (mm := i_knowns.toInt) hx hb hK hP hD hS rfl (ob_1460 ie10 ie11 f32) (ob_1461 ie10 ie11 f32) dX9_known_58 (fun J44 H43 locs hP hD hS => ?_)
          refine lv_aload_n hx hb dX9_known_59 rfl (lv_at hl 0 rfl) ?_
          refine gM_X9_109_0 hx hb hG hown hK hP dX9_known_60 ?_
          refine lv_aload_n hx hb dX9_known_63 rfl (lv_at hl 0 rfl) ?_
          refine gM_X9_370_0 hx hb hG hown hK hP dX9_known_64 ?_
          refine lv_iload_n hx hb dX9_known_67 rfl (lv_at hl 3 rfl) ?_
          refine lv_if_eq (tgt := 75) hx hb dX9_known_68 (by decide) (fun c_45 => ?_) (fun c_45 => ?_)
          · skip
            have f46 : p2.toInt = 0 := qi_eq c_45 rfl zc_0
            refine lv_iconst (v := 0) hx hb dX9_known_75 (by decide) ?_
            refine stM_32 (mm := i_knowns.toInt) hx hb hK hP hD hS rfl (ob_1460 ie10 ie11 f32) (ob_1461 ie10 ie11 f32) dX9_known_76 (fun J48 H47 locs hP hD hS => ?_)
            refine lv_aload_n hx hb dX9_known_77 rfl (lv_at hl 0 rfl) ?_
            refine gM_X9_112_0 hx hb hG hown hK hP dX9_known_78 ?_
            refine lv_aload_n hx hb dX9_known_81 rfl (lv_at hl 0 rfl) ?_
            refine gM_X9_370_0 hx hb hG hown hK hP dX9_known_82 ?_
            refine lv_aload_n hx hb dX9_known_85 rfl (lv_at hl 0 rfl) ?_
            refine gM_X9_492_0 hx hb hG hown hK hP dX9_known_86 ?_
            refine stM_33 (mm := i_knowns.toInt) hx hb hK hP hD hS rfl (ob_1460 ie10 ie11 f32) (ob_1461 ie10 ie11 f32) dX9_known_89 (fun J50 H49 locs hP hD hS => ?_)
            refine lv_aload_n hx hb dX9_known_90 rfl (lv_at hl 0 rfl) ?_
            refine gM_X9_115_0 hx hb hG hown hK hP dX9_known_91 ?_
            refine lv_aload_n hx hb dX9_known_94 rfl (lv_at hl 0 rfl) ?_
            refine gM_X9_370_0 hx hb hG hown hK hP dX9_known_95 ?_
            refine lv_iconst (v := (-1)) hx hb dX9_known_98 (by decide) ?_
            refine stM_34 (mm := i_knowns.toInt) hx hb hK hP hD hS rfl (ob_1460 ie10 ie11 f32) (ob_1461 ie10 ie11 f32) dX9_known_99 (fun J52 H51 locs hP hD hS => ?_)
            refine lv_aload_n hx hb dX9_known_100 rfl (lv_at hl 0 rfl) ?_
            refine lv_dup hx hb dX9_known_101 rfl ?_
            refine gM_X9_370_0 hx hb hG hown hK hP dX9_known_102 ?_
            refine lv_iconst (v := 1) hx hb dX9_known_105 (by decide) ?_
            refine lv_iadd hx hb dX9_known_106 ?_
            refine lv_topi (fun x53 ex53 => ?_)
            have f54 : x53.toInt = i_knowns.toInt + 1 := (ob_142 (qi_add ex53 rfl zc_1 (ob_1463 ie10 ie11 f32) (ob_1464 ie10 ie11 f32)))
            refine pM_X9_370_0 hx hb hG hown hK hP hD hS dX9_known_107 (fun H55 locs hP hD hS => ?_)
            refine lv_aload_n hx hb dX9_known_110 rfl (lv_at hl 0 rfl) ?_
            refine gM_X9_370_0 hx hb hG hown hK hP dX9_known_111 ?_
            refine lv_iconst (v := 1) hx hb dX9_known_114 (by decide) ?_
            refine lv_isub hx hb dX9_known_115 ?_
            refine lv_topi (fun x56 ex56 => ?_)
            have f57 : x56.toInt = i_knowns.toInt := (ob_1467 (qi_sub ex56 rfl zc_1 (ob_1465 ie10 ie11 f32 f54) (ob_1466 ie10 ie11 f32 f54)) f54)
            rw [hQ]
            exact W.iret (v := x56) hx hb hr (fun t ht hW => ⟨⟨x56, x56, rfl, rfl, ⟨x53, z41, J52, by rw [ht]; exact hP, hD, ⟨ie0, ie1, ie2, ie3, ie4, ie5, ie6, ie7, ie8, ie9, (ob_1468 ie10 ie11 f32 f54), (ob_1469 ie10 ie11 f32 f54), ie12, ie13, ie14, ie15, ie16, ie17, ie18, ie19, ie20, ie21, ie22, ie23, ie24, ie25, g42, ie27, ie28, ie29, ie30, ie31, ie32⟩⟩⟩, hS.F ht⟩) hS.2.2 dX9_known_116
          · skip
            have f58 : p2.toInt ≠ 0 := qi_ne c_45 rfl zc_0
            have f59 : (1 : Int) ≤ p2.toInt := (ob_222 hz_p2 f58)
            refine lv_iconst (v := 1) hx hb dX9_known_71 (by decide) ?_
            refine lv_goto (tgt := 76) hx hb dX9_known_72 (by decide) ?_
            refine stM_32 (mm := i_knowns.toInt) hx hb hK hP hD hS rfl (ob_1460 ie10 ie11 f32) (ob_1461 ie10 ie11 f32) dX9_known_76 (fun J61 H60 locs hP hD hS => ?_)
            refine lv_aload_n hx hb dX9_known_77 rfl (lv_at hl 0 rfl) ?_
            refine gM_X9_112_0 hx hb hG hown hK hP dX9_known_78 ?_
            refine lv_aload_n hx hb dX9_known_81 rfl (lv_at hl 0 rfl) ?_
            refine gM_X9_370_0 hx hb hG hown hK hP dX9_known_82 ?_
            refine lv_aload_n hx hb dX9_known_85 rfl (lv_at hl 0 rfl) ?_
            refine gM_X9_492_0 hx hb hG hown hK hP dX9_known_86 ?_
            refine stM_33 (mm := i_knowns.toInt) hx hb hK hP hD hS rfl (ob_1460 ie10 ie11 f32) (ob_1461 ie10 ie11 f32) dX9_known_89 (fun J63 H62 locs hP hD hS => ?_)
            refine lv_aload_n hx hb dX9_known_90 rfl (lv_at hl 0 rfl) ?_
            refine gM_X9_115_0 hx hb hG hown hK hP dX9_known_91 ?_
            refine lv_aload_n hx hb dX9_known_94 rfl (lv_at hl 0 rfl) ?_
            refine gM_X9_370_0 hx hb hG hown hK hP dX9_known_95 ?_
            refine lv_iconst (v := (-1)) hx hb dX9_known_98 (by decide) ?_
            refine stM_34 (mm := i_knowns.toInt) hx hb hK hP hD hS rfl (ob_1460 ie10 ie11 f32) (ob_1461 ie10 ie11 f32) dX9_known_99 (fun J65 H64 locs hP hD hS => ?_)
            refine lv_aload_n hx hb dX9_known_100 rfl (lv_at hl 0 rfl) ?_
            refine lv_dup hx hb dX9_known_101 rfl ?_
            refine gM_X9_370_0 hx hb hG hown hK hP dX9_known_102 ?_
            refine lv_iconst (v := 1) hx hb dX9_known_105 (by decide) ?_
            refine lv_iadd hx hb dX9_known_106 ?_
            refine lv_topi (fun x66 ex66 => ?_)
            have f67 : x66.toInt = i_knowns.toInt + 1 := (ob_142 (qi_add ex66 rfl zc_1 (ob_1463 ie10 ie11 f32) (ob_1464 ie10 ie11 f32)))
            refine pM_X9_370_0 hx hb hG hown hK hP hD hS dX9_known_107 (fun H68 locs hP hD hS => ?_)
            refine lv_aload_n hx hb dX9_known_110 rfl (lv_at hl 0 rfl) ?_
            refine gM_X9_370_0 hx hb hG hown hK hP dX9_known_111 ?_
            refine lv_iconst (v := 1) hx hb dX9_known_114 (by decide) ?_
            refine lv_isub hx hb dX9_known_115 ?_
            refine lv_topi (fun x69 ex69 => ?_)
            have f70 : x69.toInt = i_knowns.toInt := (ob_1467 (qi_sub ex69 rfl zc_1 (ob_1465 ie10 ie11 f32 f67) (ob_1466 ie10 ie11 f32 f67)) f67)
            rw [hQ]
            exact W.iret (v := x69) hx hb hr (fun t ht hW => ⟨⟨x69, x69, rfl, rfl, ⟨x66, z41, J65, by rw [ht]; exact hP, hD, ⟨ie0, ie1, ie2, ie3, ie4, ie5, ie6, ie7, ie8, ie9, (ob_1468 ie10 ie11 f32 f67), (ob_1469 ie10 ie11 f32 f67), ie12, ie13, ie14, ie15, ie16, ie17, ie18, ie19, ie20, ie21, ie22, ie23, ie24, ie25, g42, ie27, ie28, ie29, ie30, ie31, ie32⟩⟩⟩, hS.F ht⟩) hS.2.2 dX9_known_116
        · skip
          have f71 : r_34.toInt = 0 := qi_eq c_37 rfl zc_0
          refine lv_iconst (v := (-1)) hx hb dX9_known_37 (by decide) ?_
          rw [hQ]
          exact W.iret (v := (-1)) hx hb hr (fun t ht hW => ⟨⟨(-1), (-1), rfl, rfl, ⟨i_knowns, f_sTune, J, by rw [ht]; exact hP, hD, hI⟩⟩, hS.F ht⟩) hS.2.2 dX9_known_38
set_option maxHeartbeats 4000000 in
set_option maxRecDepth 100000 in
theorem kX9_untell (l : Launch) (dC : Nat → ClassId) (dI : Nat → Nat → Nat) (r : Nat → Nat) (ct : Nat → ClassId) (i_taped i_size i_faultKind i_at i_end i_token i_number i_bank i_rb i_codes i_within i_piled i_unitsInRule i_askHouse i_askTune i_acts i_undone i_laid i_knowns i_time : Int32) (f_text f_tunes f_houses f_hums f_told f_many f_ruleFrom f_ruleTo f_code f_eWhat f_eSign f_all f_kept f_was f_sTune f_boxAll : Nat → Int32) (J : Nat → Nat → Int32) (L : Nat → Nat → Int64) (p0 : Int32) (sz : Nat) (hI : (IM i_taped i_size i_faultKind i_at i_end i_bank i_rb i_acts i_undone i_laid i_knowns i_time f_tunes f_houses f_hums f_told f_many f_ruleFrom f_ruleTo f_code f_all f_kept f_was f_sTune f_boxAll)) : Met l yX9_untell (.code yX9_untell cX9_untell 2 (some .boolean) :: GW) { frames := 4, cells := 0, slots := 0, locals := 162 } (va_Pc [.ref (r 0), .int p0] (pW (dC, dI) (WM r ct i_taped i_size i_faultKind i_at i_end i_token i_number i_bank i_rb i_codes i_within i_piled i_unitsInRule i_askHouse i_askTune i_acts i_undone i_laid i_knowns i_time f_text f_tunes f_houses f_hums f_told f_many f_ruleFrom f_ruleTo f_code f_eWhat f_eSign f_all f_kept f_was f_sTune f_boxAll J L) (TM ct) sz)) (va_Qi (fun (r0 : Int32) (u : Int32) => r0 = u) (fun (u : Int32) (t : State) => ∃ (n_J : Nat → Nat → Int32), va_P (dC, dI) vwCl (WM r ct i_taped i_size i_faultKind i_at i_end i_token i_number i_bank i_rb i_codes i_within i_piled i_unitsInRule i_askHouse i_askTune i_acts i_undone i_laid i_knowns i_time f_text f_tunes f_houses f_hums f_told f_many f_ruleFrom f_ruleTo f_code f_eWhat f_eSign f_all f_kept f_was f_sTune f_boxAll n_J L) t.heap ∧ va_D (va_A (WM r ct i_taped i_size i_faultKind i_at i_end i_token i_number i_bank i_rb i_codes i_within i_piled i_unitsInRule i_askHouse i_askTune i_acts i_undone i_laid i_knowns i_time f_text f_tunes f_houses f_hums f_told f_many f_ruleFrom f_ruleTo f_code f_eWhat f_eSign f_all f_kept f_was f_sTune f_boxAll J L) sz) (WM r ct i_taped i_size i_faultKind i_at i_end i_token i_number i_bank i_rb i_codes i_within i_piled i_unitsInRule i_askHouse i_askTune i_acts i_undone i_laid i_knowns i_time f_text f_tunes f_houses f_hums f_told f_many f_ruleFrom f_ruleTo f_code f_eWhat f_eSign f_all f_kept f_was f_sTune f_boxAll n_J L) ∧ (IM i_taped i_size i_faultKind i_at i_end i_bank i_rb i_acts i_undone i_laid i_knowns i_time f_tunes f_houses f_hums f_told f_many f_ruleFrom f_ruleTo f_code f_all f_kept f_was f_sTune f_boxAll)) (va_A (WM r ct i_taped i_size i_faultKind i_at i_end i_token i_number i_bank i_rb i_codes i_within i_piled i_unitsInRule i_askHouse i_askTune i_acts i_undone i_laid i_knowns i_time f_text f_tunes f_houses f_hums f_told f_many f_ruleFrom f_ruleTo f_code f_eWhat f_eSign f_all f_kept f_was f_sTune f_boxAll J L) sz)) 0 0 (va_A (WM r ct i_taped i_size i_faultKind i_at i_end i_token i_number i_bank i_rb i_codes i_within i_piled i_unitsInRule i_askHouse i_askTune i_acts i_undone i_laid i_knowns i_time f_text f_tunes f_houses f_hums f_told f_many f_ruleFrom f_ruleTo f_code f_eWhat f_eSign f_all f_kept f_was f_sTune f_boxAll J L) sz) := by
  refine Met.ofW (cc := cX9_untell) (maxL := 2) (ret := (some .boolean)) (by decide) rfl ?_
  intro p e s m args below meth c0 s₁ B hml hv
  obtain ⟨rfl, hsz, hP, hK, hD0⟩ := hv
  have hx := B.exec
  have hb := B.bytes
  have hr := B.returns
  have hts := atoms_spec (ws := .code yX9_untell cX9_untell 2 (some .boolean) :: GW) B.pre
  have hG : ∀ w ∈ GW, w.before _ s = true := fun w h => hts w (List.mem_cons_of_mem _ h)
  have hown : s.vm.findClass RX9 = some m.cls := findClass_of_methodNamed B.named
  subst hsz
  have hD := hD0.self (sz := s.heap.size)
  generalize hAe : va_A (WM r ct i_taped i_size i_faultKind i_at i_end i_token i_number i_bank i_rb i_codes i_within i_piled i_unitsInRule i_askHouse i_askTune i_acts i_undone i_laid i_knowns i_time f_text f_tunes f_houses f_hums f_told f_many f_ruleFrom f_ruleTo f_code f_eWhat f_eSign f_all f_kept f_was f_sTune f_boxAll J L) s.heap.size = A at hD ⊢
  have hA : ∀ q : Nat, s.heap.size ≤ q → A q := fun q h => by rw [← hAe]; exact Or.inr h
  have hS : va_S A s.heap s.heap [] := va_S.rf
  have hP : va_P (dC, dI) vwCl (WM r ct i_taped i_size i_faultKind i_at i_end i_token i_number i_bank i_rb i_codes i_within i_piled i_unitsInRule i_askHouse i_askTune i_acts i_undone i_laid i_knowns i_time f_text f_tunes f_houses f_hums f_told f_many f_ruleFrom f_ruleTo f_code f_eWhat f_eSign f_all f_kept f_was f_sTune f_boxAll J L) s.heap := hP
  have hl := lv_entry ([.ref (r 0), .int p0]) (n := 2) (Nat.le_of_ble_eq_true rfl)
  rw [lg_entry_eq]
  generalize (lg_sl ([.ref (r 0), .int p0]) ++ List.replicate (2 - (lg_sl ([.ref (r 0), .int p0])).length) Slot.unset).toArray = ls at hl ⊢
  have hl : lv_has ls 2 [(0, .ref (r 0)), (1, .int p0)] := hl
  refine nameQ (fun Q hQ => ?_)
  obtain ⟨ie0, ie1, ie2, ie3, ie4, ie5, ie6, ie7, ie8, ie9, ie10, ie11, ie12, ie13, ie14, ie15, ie16, ie17, ie18, ie19, ie20, ie21, ie22, ie23, ie24, ie25, ie26, ie27, ie28, ie29, ie30, ie31, ie32⟩ := id hI
  have f1 : 0 ≤ (f_tunes (i_bank.toInt).toNat).toInt ∧ (f_tunes (i_bank.toInt).toNat).toInt ≤ 5 := ie21 (i_bank.toInt)
  have f2 : 0 ≤ (f_houses (i_bank.toInt).toNat).toInt ∧ (f_houses (i_bank.toInt).toNat).toInt ≤ 4 := ie22 (i_bank.toInt)
  refine lv_iload_n hx hb dX9_untell_0 rfl (lv_at hl 1 rfl) ?_
  refine lv_iconst (v := 0) hx hb dX9_untell_1 (by decide) ?_
  refine lv_aload_n hx hb dX9_untell_2 rfl (lv_at hl 0 rfl) ?_
  refine gM_X9_370_0 hx hb hG hown hK hP dX9_untell_3 ?_
  refine lv_iconst (v := 1) hx hb dX9_untell_6 (by decide) ?_
  refine lv_isub hx hb dX9_untell_7 ?_
  refine lv_topi (fun x3 ex3 => ?_)
  have f4 : x3.toInt = i_knowns.toInt + (-1) := (ob_346 (qi_sub ex3 rfl zc_1 (ob_1470 ie10 ie11) (ob_1471 ie10 ie11)))
  refine va_calli (va_runS (As := [.int p0, .int 0, .int x3]) (rest := []) ⟨hx, hb, hml, hown, hG⟩ (kX9_isIn l dC dI p0 0 x3 s.heap.size) (va_cwS 3 hG (goodS gw1516 gw1517 gw138 gw1518) rfl rfl rfl hd_X9_isIn ⟨(Nat.le_of_ble_eq_true rfl), (Nat.le_of_ble_eq_true rfl)⟩) ⟨fbR, pR_in emptyP (emptyK hK)⟩ rfl rfl hl.1 rfl (lv_room (Nat.le_of_ble_eq_true rfl)) dX9_untell_8 ⟨(Nat.le_of_ble_eq_true rfl), (Nat.le_of_ble_eq_true rfl)⟩) hS (fun q hq h => absurd hq (Nat.not_lt.mpr h)) (fun q h => hA q (Nat.le_trans hS.1 h)) (fun r_6 u_ t_ H5 locs ht hvm hw hB hz1 hk1 hS => ?_)
  subst hw
  have hP := wk hP hk1
  obtain ⟨f7, f8, f9⟩ := hB
  refine lv_if_eq (tgt := 23) hx hb dX9_untell_11 (by decide) (fun c_10 => ?_) (fun c_10 => ?_)
  · skip
    have f11 : r_6.toInt = 0 := qi_eq c_10 rfl zc_0
    refine lv_iconst (v := 0) hx hb dX9_untell_23 (by decide) ?_
    rw [hQ]
    exact W.zret (v := 0) hx hb hr (by decide) (fun t ht hW => ⟨⟨0, 0, rfl, rfl, ⟨J, by rw [ht]; exact hP, hD, hI⟩⟩, hS.F ht⟩) hS.2.2 dX9_untell_24
  · skip
    have f12 : r_6.toInt ≠ 0 := qi_ne c_10 rfl zc_0
    have f13 : (0 : Int) ≤ p0.toInt := (ob_1101 f7 f12 f4 zc_0)
    have f14 : p0.toInt + 1 ≤ i_knowns.toInt := (ob_1102 f7 f12 f4 zc_0)
    have f15 : r_6.toInt = (1 : Int) := (ob_1103 f7 f12 f4 zc_0)
    have f16 : (1 : Int) ≤ r_6.toInt := (ob_162 f8 f9 f15)
    refine lv_aload_n hx hb dX9_untell_14 rfl (lv_at hl 0 rfl) ?_
    refine gM_X9_115_0 hx hb hG hown hK hP dX9_untell_15 ?_
    refine lv_iload_n hx hb dX9_untell_18 rfl (lv_at hl 1 rfl) ?_
    refine ldM_34 (mm := p0.toInt) hx hb hK hP rfl (ob_1029 f13 f14) (ob_1472 ie11 f14) dX9_untell_19 (fun x17 => ?_)
    refine lv_if_lt (tgt := 25) hx hb dX9_untell_20 (by decide) (fun c_18 => ?_) (fun c_18 => ?_)
    · skip
      have f19 : x17.toInt < 0 := qi_lt c_18 rfl zc_0
      refine lv_aload_n hx hb dX9_untell_25 rfl (lv_at hl 0 rfl) ?_
      refine gM_X9_115_0 hx hb hG hown hK hP dX9_untell_26 ?_
      refine lv_iload_n hx hb dX9_untell_29 rfl (lv_at hl 1 rfl) ?_
      refine lv_aload_n hx hb dX9_untell_30 rfl (lv_at hl 0 rfl) ?_
      refine gM_X9_492_0 hx hb hG hown hK hP dX9_untell_31 ?_
      refine stM_34 (mm := p0.toInt) hx hb hK hP hD hS rfl (ob_1029 f13 f14) (ob_1472 ie11 f14) dX9_untell_34 (fun J21 H20 locs hP hD hS => ?_)
      refine lv_iconst (v := 1) hx hb dX9_untell_35 (by decide) ?_
      rw [hQ]
      exact W.zret (v := 1) hx hb hr (by decide) (fun t ht hW => ⟨⟨1, 1, rfl, rfl, ⟨J21, by rw [ht]; exact hP, hD, hI⟩⟩, hS.F ht⟩) hS.2.2 dX9_untell_36
    · skip
      have f22 : 0 ≤ x17.toInt := qi_nlt c_18 rfl zc_0
      refine lv_iconst (v := 0) hx hb dX9_untell_23 (by decide) ?_
      rw [hQ]
      exact W.zret (v := 0) hx hb hr (by decide) (fun t ht hW => ⟨⟨0, 0, rfl, rfl, ⟨J, by rw [ht]; exact hP, hD, hI⟩⟩, hS.F ht⟩) hS.2.2 dX9_untell_24
set_option maxHeartbeats 4000000 in
set_option maxRecDepth 100000 in
theorem kX9_later (l : Launch) (dC : Nat → ClassId) (dI : Nat → Nat → Nat) (r : Nat → Nat) (ct : Nat → ClassId) (i_taped i_size i_faultKind i_at i_end i_token i_number i_bank i_rb i_codes i_within i_piled i_unitsInRule i_askHouse i_askTune i_acts i_undone i_laid i_knowns i_time : Int32) (f_text f_tunes f_houses f_hums f_told f_many f_ruleFrom f_ruleTo f_code f_eWhat f_eSign f_all f_kept f_was f_sTune f_boxAll : Nat → Int32) (J : Nat → Nat → Int32) (L : Nat → Nat → Int64) (p0 : Int32) (sz : Nat) (hI : (IM i_taped i_size i_faultKind i_at i_end i_bank i_rb i_acts i_undone i_laid i_knowns i_time f_tunes f_houses f_hums f_told f_many f_ruleFrom f_ruleTo f_code f_all f_kept f_was f_sTune f_boxAll)) : Met l yX9_later (.code yX9_later cX9_later 2 (some .int) :: GW) { frames := 4, cells := 0, slots := 0, locals := 162 } (va_Pc [.ref (r 0), .int p0] (pW (dC, dI) (WM r ct i_taped i_size i_faultKind i_at i_end i_token i_number i_bank i_rb i_codes i_within i_piled i_unitsInRule i_askHouse i_askTune i_acts i_undone i_laid i_knowns i_time f_text f_tunes f_houses f_hums f_told f_many f_ruleFrom f_ruleTo f_code f_eWhat f_eSign f_all f_kept f_was f_sTune f_boxAll J L) (TM ct) sz)) (va_Qi (fun (r0 : Int32) (u : Int32) => r0 = u) (fun (u : Int32) (t : State) => ∃ (n_i_time : Int32), va_P (dC, dI) vwCl (WM r ct i_taped i_size i_faultKind i_at i_end i_token i_number i_bank i_rb i_codes i_within i_piled i_unitsInRule i_askHouse i_askTune i_acts i_undone i_laid i_knowns n_i_time f_text f_tunes f_houses f_hums f_told f_many f_ruleFrom f_ruleTo f_code f_eWhat f_eSign f_all f_kept f_was f_sTune f_boxAll J L) t.heap ∧ va_D (va_A (WM r ct i_taped i_size i_faultKind i_at i_end i_token i_number i_bank i_rb i_codes i_within i_piled i_unitsInRule i_askHouse i_askTune i_acts i_undone i_laid i_knowns i_time f_text f_tunes f_houses f_hums f_told f_many f_ruleFrom f_ruleTo f_code f_eWhat f_eSign f_all f_kept f_was f_sTune f_boxAll J L) sz) (WM r ct i_taped i_size i_faultKind i_at i_end i_token i_number i_bank i_rb i_codes i_within i_piled i_unitsInRule i_askHouse i_askTune i_acts i_undone i_laid i_knowns n_i_time f_text f_tunes f_houses f_hums f_told f_many f_ruleFrom f_ruleTo f_code f_eWhat f_eSign f_all f_kept f_was f_sTune f_boxAll J L) ∧ (IM i_taped i_size i_faultKind i_at i_end i_bank i_rb i_acts i_undone i_laid i_knowns n_i_time f_tunes f_houses f_hums f_told f_many f_ruleFrom f_ruleTo f_code f_all f_kept f_was f_sTune f_boxAll) ∧ (((u.toInt + 1 = (0 : Int))) ∨ ((i_time.toInt + p0.toInt ≤ (100000 : Int)) ∧ (u.toInt = i_time.toInt + p0.toInt)) ∨ (((100001 : Int) ≤ i_time.toInt + p0.toInt) ∧ (u.toInt + 1 = (0 : Int)))) ∧ ((0 : Int) ≤ u.toInt + 1) ∧ (u.toInt ≤ (101000 : Int))) (va_A (WM r ct i_taped i_size i_faultKind i_at i_end i_token i_number i_bank i_rb i_codes i_within i_piled i_unitsInRule i_askHouse i_askTune i_acts i_undone i_laid i_knowns i_time f_text f_tunes f_houses f_hums f_told f_many f_ruleFrom f_ruleTo f_code f_eWhat f_eSign f_all f_kept f_was f_sTune f_boxAll J L) sz)) 0 0 (va_A (WM r ct i_taped i_size i_faultKind i_at i_end i_token i_number i_bank i_rb i_codes i_within i_piled i_unitsInRule i_askHouse i_askTune i_acts i_undone i_laid i_knowns i_time f_text f_tunes f_houses f_hums f_told f_many f_ruleFrom f_ruleTo f_code f_eWhat f_eSign f_all f_kept f_was f_sTune f_boxAll J L) sz) := by
  refine Met.ofW (cc := cX9_later) (maxL := 2) (ret := (some .int)) (by decide) rfl ?_
  intro p e s m args below meth c0 s₁ B hml hv
  obtain ⟨rfl, hsz, hP, hK, hD0⟩ := hv
  have hx := B.exec
  have hb := B.bytes
  have hr := B.returns
  have hts := atoms_spec (ws := .code yX9_later cX9_later 2 (some .int) :: GW) B.pre
  have hG : ∀ w ∈ GW, w.before _ s = true := fun w h => hts w (List.mem_cons_of_mem _ h)
  have hown : s.vm.findClass RX9 = some m.cls := findClass_of_methodNamed B.named
  subst hsz
  have hD := hD0.self (sz := s.heap.size)
  generalize hAe : va_A (WM r ct i_taped i_size i_faultKind i_at i_end i_token i_number i_bank i_rb i_codes i_within i_piled i_unitsInRule i_askHouse i_askTune i_acts i_undone i_laid i_knowns i_time f_text f_tunes f_houses f_hums f_told f_many f_ruleFrom f_ruleTo f_code f_eWhat f_eSign f_all f_kept f_was f_sTune f_boxAll J L) s.heap.size = A at hD ⊢
  have hA : ∀ q : Nat, s.heap.size ≤ q → A q := fun q h => by rw [← hAe]; exact Or.inr h
  have hS : va_S A s.heap s.heap [] := va_S.rf
  have hP : va_P (dC, dI) vwCl (WM r ct i_taped i_size i_faultKind i_at i_end i_token i_number i_bank i_rb i_codes i_within i_piled i_unitsInRule i_askHouse i_askTune i_acts i_undone i_laid i_knowns i_time f_text f_tunes f_houses f_hums f_told f_many f_ruleFrom f_ruleTo f_code f_eWhat f_eSign f_all f_kept f_was f_sTune f_boxAll J L) s.heap := hP
  have hl := lv_entry ([.ref (r 0), .int p0]) (n := 2) (Nat.le_of_ble_eq_true rfl)
  rw [lg_entry_eq]
  generalize (lg_sl ([.ref (r 0), .int p0]) ++ List.replicate (2 - (lg_sl ([.ref (r 0), .int p0])).length) Slot.unset).toArray = ls at hl ⊢
  have hl : lv_has ls 2 [(0, .ref (r 0)), (1, .int p0)] := hl
  refine nameQ (fun Q hQ => ?_)
  obtain ⟨ie0, ie1, ie2, ie3, ie4, ie5, ie6, ie7, ie8, ie9, ie10, ie11, ie12, ie13, ie14, ie15, ie16, ie17, ie18, ie19, ie20, ie21, ie22, ie23, ie24, ie25, ie26, ie27, ie28, ie29, ie30, ie31, ie32⟩ := id hI
  have f1 : 0 ≤ (f_tunes (i_bank.toInt).toNat).toInt ∧ (f_tunes (i_bank.toInt).toNat).toInt ≤ 5 := ie21 (i_bank.toInt)
  have f2 : 0 ≤ (f_houses (i_bank.toInt).toNat).toInt ∧ (f_houses (i_bank.toInt).toNat).toInt ≤ 4 := ie22 (i_bank.toInt)
  refine lv_iload_n hx hb dX9_later_0 rfl (lv_at hl 1 rfl) ?_
  refine lv_iconst (v := 0) hx hb dX9_later_1 (by decide) ?_
  refine lv_sipush (v := 1000) hx hb dX9_later_2 (by decide) ?_
  refine va_calli (va_runS (As := [.int p0, .int 0, .int 1000]) (rest := []) ⟨hx, hb, hml, hown, hG⟩ (kX9_isIn l dC dI p0 0 1000 s.heap.size) (va_cwS 3 hG (goodS gw1516 gw1517 gw138 gw1518) rfl rfl rfl hd_X9_isIn ⟨(Nat.le_of_ble_eq_true rfl), (Nat.le_of_ble_eq_true rfl)⟩) ⟨fbR, pR_in emptyP (emptyK hK)⟩ rfl rfl hl.1 rfl (lv_room (Nat.le_of_ble_eq_true rfl)) dX9_later_5 ⟨(Nat.le_of_ble_eq_true rfl), (Nat.le_of_ble_eq_true rfl)⟩) hS (fun q hq h => absurd hq (Nat.not_lt.mpr h)) (fun q h => hA q (Nat.le_trans hS.1 h)) (fun r_4 u_ t_ H3 locs ht hvm hw hB hz1 hk1 hS => ?_)
  subst hw
  have hP := wk hP hk1
  obtain ⟨f5, f6, f7⟩ := hB
  refine lv_if_eq (tgt := 23) hx hb dX9_later_8 (by decide) (fun c_8 => ?_) (fun c_8 => ?_)
  · skip
    have f9 : r_4.toInt = 0 := qi_eq c_8 rfl zc_0
    refine lv_iconst (v := (-1)) hx hb dX9_later_23 (by decide) ?_
    rw [hQ]
    exact W.iret (v := (-1)) hx hb hr (fun t ht hW => ⟨⟨(-1), (-1), rfl, rfl, ⟨i_time, by rw [ht]; exact hP, hD, hI, (ob_1473 ie12 ie13 zc_m1), (ob_1042 zc_m1), (ob_1474 zc_m1)⟩⟩, hS.F ht⟩) hS.2.2 dX9_later_24
  · skip
    have f10 : r_4.toInt ≠ 0 := qi_ne c_8 rfl zc_0
    have f11 : (0 : Int) ≤ p0.toInt := (ob_1475 f5 f10 zc_1000 zc_0)
    have f12 : p0.toInt ≤ (1000 : Int) := (ob_1476 f5 f10 zc_1000 zc_0)
    have f13 : r_4.toInt = (1 : Int) := (ob_1477 f5 f10 zc_1000 zc_0)
    have f14 : (1 : Int) ≤ r_4.toInt := (ob_162 f6 f7 f13)
    refine lv_aload_n hx hb dX9_later_11 rfl (lv_at hl 0 rfl) ?_
    refine gM_X9_492_0 hx hb hG hown hK hP dX9_later_12 ?_
    refine lv_iload_n hx hb dX9_later_15 rfl (lv_at hl 1 rfl) ?_
    refine lv_iadd hx hb dX9_later_16 ?_
    refine lv_topi (fun x15 ex15 => ?_)
    have f16 : x15.toInt = i_time.toInt + p0.toInt := (ob_647 (qi_add ex15 rfl rfl (ob_645 ie12 f11) (ob_1478 ie13 f12)))
    refine lv_ldcw (v := 100000) hx hb hown (hG _ gw1829) dX9_later_17 ?_
    refine lv_icmp_le (tgt := 25) hx hb dX9_later_20 (by decide) (fun c_17 => ?_) (fun c_17 => ?_)
    · skip
      have f18 : x15.toInt ≤ 100000 := qi_le c_17 rfl zc_100000
      refine lv_aload_n hx hb dX9_later_25 rfl (lv_at hl 0 rfl) ?_
      refine lv_dup hx hb dX9_later_26 rfl ?_
      refine gM_X9_492_0 hx hb hG hown hK hP dX9_later_27 ?_
      refine lv_iload_n hx hb dX9_later_30 rfl (lv_at hl 1 rfl) ?_
      refine lv_iadd hx hb dX9_later_31 ?_
      refine lv_topi (fun x19 ex19 => ?_)
      have f20 : x19.toInt = i_time.toInt + p0.toInt := (ob_647 (qi_add ex19 rfl rfl (ob_645 ie12 f11) (ob_1478 ie13 f12)))
      refine pM_X9_492_0 hx hb hG hown hK hP hD hS dX9_later_32 (fun H21 locs hP hD hS => ?_)
      refine lv_aload_n hx hb dX9_later_35 rfl (lv_at hl 0 rfl) ?_
      refine gM_X9_492_0 hx hb hG hown hK hP dX9_later_36 ?_
      rw [hQ]
      exact W.iret (v := x19) hx hb hr (fun t ht hW => ⟨⟨x19, x19, rfl, rfl, ⟨x19, by rw [ht]; exact hP, hD, ⟨ie0, ie1, ie2, ie3, ie4, ie5, ie6, ie7, ie8, ie9, ie10, ie11, (ob_1482 ie12 f11 f20), (ob_1483 f18 f16 f20), ie14, ie15, ie16, ie17, ie18, ie19, ie20, ie21, ie22, ie23, ie24, ie25, ie26, ie27, ie28, ie29, ie30, ie31, ie32⟩, (ob_1479 f18 f16 f20), (ob_1480 ie12 f11 f20), (ob_1481 ie13 f12 f20)⟩⟩, hS.F ht⟩) hS.2.2 dX9_later_39
    · skip
      have f22 : 100000 < x15.toInt := qi_nle c_17 rfl zc_100000
      refine lv_iconst (v := (-1)) hx hb dX9_later_23 (by decide) ?_
      rw [hQ]
      exact W.iret (v := (-1)) hx hb hr (fun t ht hW => ⟨⟨(-1), (-1), rfl, rfl, ⟨i_time, by rw [ht]; exact hP, hD, hI, (ob_1484 zc_m1), (ob_1042 zc_m1), (ob_1474 zc_m1)⟩⟩, hS.F ht⟩) hS.2.2 dX9_later_24
set_option maxHeartbeats 4000000 in
set_option maxRecDepth 100000 in
theorem kX9_noteIn (l : Launch) (dC : Nat → ClassId) (dI : Nat → Nat → Nat) (p0 p1 : Int32) (sz : Nat) (hp0 : (0 : Int) ≤ p0.toInt) (hp1 : p0.toInt ≤ (342 : Int)) : Met l yX9_noteIn (.code yX9_noteIn cX9_noteIn 2 (some .int) :: GW) { frames := 2, cells := 0, slots := 0, locals := 100 } (va_Pc [.int p0, .int p1] (pR (dC, dI) [] [] sz)) (va_Qi (fun (r0 : Int32) (u : Int32) => r0 = u) (fun (u : Int32) (t : State) => (((p1.toInt ≠ (0 : Int)) ∧ (p1.toInt ≠ (1 : Int)) ∧ ((0 : Int) ≤ u.toInt) ∧ (u.toInt ≤ (6 : Int)) ∧ (u.toInt ≤ p0.toInt) ∧ (p0.toInt = 7 * (p0.toInt / 7) + u.toInt)) ∨ ((p1.toInt ≠ (0 : Int)) ∧ (p1.toInt = (1 : Int)) ∧ ((1 : Int) ≤ p1.toInt) ∧ ((0 : Int) ≤ u.toInt) ∧ (u.toInt ≤ (6 : Int))) ∨ ((p1.toInt = (0 : Int)) ∧ ((0 : Int) ≤ u.toInt) ∧ (u.toInt ≤ p0.toInt) ∧ (49 * u.toInt ≤ p0.toInt) ∧ (p0.toInt ≤ 49 * u.toInt + 48))) ∧ ((0 : Int) ≤ u.toInt) ∧ (u.toInt ≤ (6 : Int))) (fun q => sz ≤ q)) 0 0 (fun q => sz ≤ q) := by
  refine Met.ofW (cc := cX9_noteIn) (maxL := 2) (ret := (some .int)) (by decide) rfl ?_
  intro p e s m args below meth c0 s₁ B hml hv
  obtain ⟨rfl, hsz, hP, hK⟩ := hv
  have hx := B.exec
  have hb := B.bytes
  have hr := B.returns
  have hts := atoms_spec (ws := .code yX9_noteIn cX9_noteIn 2 (some .int) :: GW) B.pre
  have hG : ∀ w ∈ GW, w.before _ s = true := fun w h => hts w (List.mem_cons_of_mem _ h)
  have hown : s.vm.findClass RX9 = some m.cls := findClass_of_methodNamed B.named
  subst hsz
  have hS : va_S (fun q => s.heap.size ≤ q) s.heap s.heap [] := va_S.rf
  have hP : va_P (dC, dI) vwCl [] s.heap := hP
  have hl := lv_entry ([.int p0, .int p1]) (n := 2) (Nat.le_of_ble_eq_true rfl)
  rw [lg_entry_eq]
  generalize (lg_sl ([.int p0, .int p1]) ++ List.replicate (2 - (lg_sl ([.int p0, .int p1])).length) Slot.unset).toArray = ls at hl ⊢
  have hl : lv_has ls 2 [(0, .int p0), (1, .int p1)] := hl
  refine nameQ (fun Q hQ => ?_)
  refine lv_iload_n hx hb dX9_noteIn_0 rfl (lv_at hl 1 rfl) ?_
  refine lv_if_ne (tgt := 11) hx hb dX9_noteIn_1 (by decide) (fun c_1 => ?_) (fun c_1 => ?_)
  · skip
    have f2 : p1.toInt ≠ 0 := qi_ne c_1 rfl zc_0
    refine lv_iload_n hx hb dX9_noteIn_11 rfl (lv_at hl 1 rfl) ?_
    refine lv_iconst (v := 1) hx hb dX9_noteIn_12 (by decide) ?_
    refine lv_icmp_ne (tgt := 26) hx hb dX9_noteIn_13 (by decide) (fun c_3 => ?_) (fun c_3 => ?_)
    · skip
      have f4 : p1.toInt ≠ 1 := qi_ne c_3 rfl zc_1
      refine lv_iload_n hx hb dX9_noteIn_26 rfl (lv_at hl 0 rfl) ?_
      refine lv_bipush (v := 7) hx hb dX9_noteIn_27 (by decide) ?_
      refine lv_irem hx hb dX9_noteIn_29 (by decide) ?_
      refine lv_topi (fun x5 ex5 => ?_)
      have f6 : 0 ≤ x5.toInt ∧ x5.toInt < 7 ∧ x5.toInt ≤ p0.toInt := qi_rem ex5 rfl zc_7 (ob_1485 hp0 hp1) (by decide)
      have f7 : p0.toInt = 7 * (p0.toInt / 7) + x5.toInt := qi_remq ex5 rfl zc_7 (ob_1485 hp0 hp1) (by decide)
      rw [hQ]
      exact W.iret (v := x5) hx hb hr (fun t ht hW => ⟨⟨x5, x5, rfl, rfl, ⟨(ob_1486 f2 f6 f7), (ob_1487 f6 f7), (ob_1488 f6 f7)⟩⟩, hS.F ht⟩) hS.2.2 dX9_noteIn_30
    · skip
      have f8 : p1.toInt = 1 := qi_eq c_3 rfl zc_1
      have f9 : (1 : Int) ≤ p1.toInt := (ob_218 f8)
      refine lv_iload_n hx hb dX9_noteIn_16 rfl (lv_at hl 0 rfl) ?_
      refine lv_bipush (v := 7) hx hb dX9_noteIn_17 (by decide) ?_
      refine lv_idiv hx hb dX9_noteIn_19 (by decide) ?_
      refine lv_topi (fun x10 ex10 => ?_)
      have f11 : 0 ≤ x10.toInt ∧ x10.toInt ≤ p0.toInt := qi_div ex10 rfl zc_7 (ob_1485 hp0 hp1) (by decide)
      have f12 : 7 * x10.toInt ≤ p0.toInt ∧ p0.toInt < 7 * x10.toInt + 7 := qi_divc ex10 rfl zc_7 (ob_1485 hp0 hp1) (by decide)
      refine lv_bipush (v := 7) hx hb dX9_noteIn_20 (by decide) ?_
      refine lv_irem hx hb dX9_noteIn_22 (by decide) ?_
      refine lv_topi (fun x13 ex13 => ?_)
      have f14 : 0 ≤ x13.toInt ∧ x13.toInt < 7 ∧ x13.toInt ≤ x10.toInt := qi_rem ex13 rfl zc_7 (ob_1489 f11 f12) (by decide)
      have f15 : x10.toInt = 7 * (x10.toInt / 7) + x13.toInt := qi_remq ex13 rfl zc_7 (ob_1489 f11 f12) (by decide)
      refine lv_goto (tgt := 30) hx hb dX9_noteIn_23 (by decide) ?_
      rw [hQ]
      exact W.iret (v := x13) hx hb hr (fun t ht hW => ⟨⟨x13, x13, rfl, rfl, ⟨(ob_1490 f8 f14), (ob_1487 f14 f15), (ob_1488 f14 f15)⟩⟩, hS.F ht⟩) hS.2.2 dX9_noteIn_30
  · skip
    have f16 : p1.toInt = 0 := qi_eq c_1 rfl zc_0
    refine lv_iload_n hx hb dX9_noteIn_4 rfl (lv_at hl 0 rfl) ?_
    refine lv_bipush (v := 49) hx hb dX9_noteIn_5 (by decide) ?_
    refine lv_idiv hx hb dX9_noteIn_7 (by decide) ?_
    refine lv_topi (fun x17 ex17 => ?_)
    have f18 : 0 ≤ x17.toInt ∧ x17.toInt ≤ p0.toInt := qi_div ex17 rfl zc_49 (ob_1485 hp0 hp1) (by decide)
    have f19 : 49 * x17.toInt ≤ p0.toInt ∧ p0.toInt < 49 * x17.toInt + 49 := qi_divc ex17 rfl zc_49 (ob_1485 hp0 hp1) (by decide)
    refine lv_goto (tgt := 30) hx hb dX9_noteIn_8 (by decide) ?_
    rw [hQ]
    exact W.iret (v := x17) hx hb hr (fun t ht hW => ⟨⟨x17, x17, rfl, rfl, ⟨(ob_1491 hp0 f16 f19), (ob_1492 f18 f19), (ob_1493 hp1 f19)⟩⟩, hS.F ht⟩) hS.2.2 dX9_noteIn_30
