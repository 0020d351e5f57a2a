set_option maxHeartbeats 4000000 in
set_option maxRecDepth 100000 in
theorem kX9_barterOf (l : Launch) (dC : Nat → ClassId) (dI : Nat → Nat → Nat) (r : Nat → Nat) (ct : Nat → ClassId) (i_taped i_size i_faultKind i_at i_end i_token i_number i_bank i_rb i_codes i_within i_piled i_unitsInRule i_askHouse i_askTune i_acts i_undone i_laid i_knowns i_time : Int32) (f_text f_tunes f_houses f_hums f_told f_many f_ruleFrom f_ruleTo f_code f_eWhat f_eSign f_all f_kept f_was f_sTune f_boxAll : Nat → Int32) (J : Nat → Nat → Int32) (L : Nat → Nat → Int64) (p0 : Int32) (sz : Nat) (hI : (IM i_taped i_size i_faultKind i_at i_end i_bank i_rb i_acts i_undone i_laid i_knowns i_time f_tunes f_houses f_hums f_told f_many f_ruleFrom f_ruleTo f_code f_all f_kept f_was f_sTune f_boxAll)) (hp0 : (0 : Int) ≤ p0.toInt) : Met l yX9_barterOf (.code yX9_barterOf cX9_barterOf 7 (some .int) :: GW) { frames := 22, cells := 0, slots := 0, locals := 729 } (va_Pc [.ref (r 0), .int p0] (pW (dC, dI) (WM r ct i_taped i_size i_faultKind i_at i_end i_token i_number i_bank i_rb i_codes i_within i_piled i_unitsInRule i_askHouse i_askTune i_acts i_undone i_laid i_knowns i_time f_text f_tunes f_houses f_hums f_told f_many f_ruleFrom f_ruleTo f_code f_eWhat f_eSign f_all f_kept f_was f_sTune f_boxAll J L) (TM ct) sz)) (va_Qi (fun (r0 : Int32) (u : Int32) => r0 = u) (fun (u : Int32) (t : State) => ∃ (n_i_askHouse n_i_askTune : Int32) (n_J : Nat → Nat → Int32), va_P (dC, dI) vwCl (WM r ct i_taped i_size i_faultKind i_at i_end i_token i_number i_bank i_rb i_codes i_within i_piled i_unitsInRule n_i_askHouse n_i_askTune i_acts i_undone i_laid i_knowns i_time f_text f_tunes f_houses f_hums f_told f_many f_ruleFrom f_ruleTo f_code f_eWhat f_eSign f_all f_kept f_was f_sTune f_boxAll n_J L) t.heap ∧ va_D (va_A (WM r ct i_taped i_size i_faultKind i_at i_end i_token i_number i_bank i_rb i_codes i_within i_piled i_unitsInRule i_askHouse i_askTune i_acts i_undone i_laid i_knowns i_time f_text f_tunes f_houses f_hums f_told f_many f_ruleFrom f_ruleTo f_code f_eWhat f_eSign f_all f_kept f_was f_sTune f_boxAll J L) sz) (WM r ct i_taped i_size i_faultKind i_at i_end i_token i_number i_bank i_rb i_codes i_within i_piled i_unitsInRule n_i_askHouse n_i_askTune i_acts i_undone i_laid i_knowns i_time f_text f_tunes f_houses f_hums f_told f_many f_ruleFrom f_ruleTo f_code f_eWhat f_eSign f_all f_kept f_was f_sTune f_boxAll n_J L) ∧ (IM i_taped i_size i_faultKind i_at i_end i_bank i_rb i_acts i_undone i_laid i_knowns i_time f_tunes f_houses f_hums f_told f_many f_ruleFrom f_ruleTo f_code f_all f_kept f_was f_sTune f_boxAll)) (va_A (WM r ct i_taped i_size i_faultKind i_at i_end i_token i_number i_bank i_rb i_codes i_within i_piled i_unitsInRule i_askHouse i_askTune i_acts i_undone i_laid i_knowns i_time f_text f_tunes f_houses f_hums f_told f_many f_ruleFrom f_ruleTo f_code f_eWhat f_eSign f_all f_kept f_was f_sTune f_boxAll J L) sz)) 0 0 (va_A (WM r ct i_taped i_size i_faultKind i_at i_end i_token i_number i_bank i_rb i_codes i_within i_piled i_unitsInRule i_askHouse i_askTune i_acts i_undone i_laid i_knowns i_time f_text f_tunes f_houses f_hums f_told f_many f_ruleFrom f_ruleTo f_code f_eWhat f_eSign f_all f_kept f_was f_sTune f_boxAll J L) sz) := by
  refine Met.ofW (cc := cX9_barterOf) (maxL := 7) (ret := (some .int)) (by decide) rfl ?_
  intro p e s m args below meth c0 s₁ B hml hv
  obtain ⟨rfl, hsz, hP, hK, hD0⟩ := hv
  have hx := B.exec
  have hb := B.bytes
  have hr := B.returns
  have hts := atoms_spec (ws := .code yX9_barterOf cX9_barterOf 7 (some .int) :: GW) B.pre
  have hG : ∀ w ∈ GW, w.before _ s = true := fun w h => hts w (List.mem_cons_of_mem _ h)
  have hown : s.vm.findClass RX9 = some m.cls := findClass_of_methodNamed B.named
  subst hsz
  have hD := hD0.self (sz := s.heap.size)
  generalize hAe : va_A (WM r ct i_taped i_size i_faultKind i_at i_end i_token i_number i_bank i_rb i_codes i_within i_piled i_unitsInRule i_askHouse i_askTune i_acts i_undone i_laid i_knowns i_time f_text f_tunes f_houses f_hums f_told f_many f_ruleFrom f_ruleTo f_code f_eWhat f_eSign f_all f_kept f_was f_sTune f_boxAll J L) s.heap.size = A at hD ⊢
  have hA : ∀ q : Nat, s.heap.size ≤ q → A q := fun q h => by rw [← hAe]; exact Or.inr h
  have hS : va_S A s.heap s.heap [] := va_S.rf
  have hP : va_P (dC, dI) vwCl (WM r ct i_taped i_size i_faultKind i_at i_end i_token i_number i_bank i_rb i_codes i_within i_piled i_unitsInRule i_askHouse i_askTune i_acts i_undone i_laid i_knowns i_time f_text f_tunes f_houses f_hums f_told f_many f_ruleFrom f_ruleTo f_code f_eWhat f_eSign f_all f_kept f_was f_sTune f_boxAll J L) s.heap := hP
  have hl := lv_entry ([.ref (r 0), .int p0]) (n := 7) (Nat.le_of_ble_eq_true rfl)
  rw [lg_entry_eq]
  generalize (lg_sl ([.ref (r 0), .int p0]) ++ List.replicate (7 - (lg_sl ([.ref (r 0), .int p0])).length) Slot.unset).toArray = ls at hl ⊢
  have hl : lv_has ls 7 [(0, .ref (r 0)), (1, .int p0)] := hl
  refine nameQ (fun Q hQ => ?_)
  obtain ⟨ie0, ie1, ie2, ie3, ie4, ie5, ie6, ie7, ie8, ie9, ie10, ie11, ie12, ie13, ie14, ie15, ie16, ie17, ie18, ie19, ie20, ie21, ie22, ie23, ie24, ie25, ie26, ie27, ie28, ie29, ie30, ie31, ie32⟩ := id hI
  have f1 : 0 ≤ (f_tunes (i_bank.toInt).toNat).toInt ∧ (f_tunes (i_bank.toInt).toNat).toInt ≤ 5 := ie21 (i_bank.toInt)
  have f2 : 0 ≤ (f_houses (i_bank.toInt).toNat).toInt ∧ (f_houses (i_bank.toInt).toNat).toInt ≤ 4 := ie22 (i_bank.toInt)
  refine lv_iconst (v := 0) hx hb dX9_barterOf_0 (by decide) ?_
  refine lv_istore_n (lv' := [(2, .int 0), (0, .ref (r 0)), (1, .int p0)]) hx hb dX9_barterOf_1 rfl hl (by decide) rfl (fun ls hl => ?_)
  refine lv_iconst (v := 0) hx hb dX9_barterOf_2 (by decide) ?_
  refine lv_istore_n (lv' := [(3, .int 0), (2, .int 0), (0, .ref (r 0)), (1, .int p0)]) hx hb dX9_barterOf_3 rfl hl (by decide) rfl (fun ls hl => ?_)
  refine lv_iconst (v := 0) hx hb dX9_barterOf_4 (by decide) ?_
  refine lv_istore (lv' := [(4, .int 0), (3, .int 0), (2, .int 0), (0, .ref (r 0)), (1, .int p0)]) hx hb dX9_barterOf_5 hl (by decide) rfl (fun ls hl => ?_)
  have L7 : ∀ (N7 : Nat) (y7_2 y7_3 y7_4 : Int32) (m7_i_askHouse m7_i_askTune : Int32) (m7_J : Nat → Nat → Int32) (H7 : Heap) (locs : List Loc) (ls : Array Slot) (g7_0 : (0 : Int) ≤ y7_4.toInt) (g7_1 : y7_4.toInt ≤ (4 : Int)) (hP : va_P (dC, dI) vwCl (WM r ct i_taped i_size i_faultKind i_at i_end i_token i_number i_bank i_rb i_codes i_within i_piled i_unitsInRule m7_i_askHouse m7_i_askTune i_acts i_undone i_laid i_knowns i_time f_text f_tunes f_houses f_hums f_told f_many f_ruleFrom f_ruleTo f_code f_eWhat f_eSign f_all f_kept f_was f_sTune f_boxAll m7_J L) H7) (hD : va_D A (WM r ct i_taped i_size i_faultKind i_at i_end i_token i_number i_bank i_rb i_codes i_within i_piled i_unitsInRule m7_i_askHouse m7_i_askTune i_acts i_undone i_laid i_knowns i_time f_text f_tunes f_houses f_hums f_told f_many f_ruleFrom f_ruleTo f_code f_eWhat f_eSign f_all f_kept f_was f_sTune f_boxAll m7_J L)) (hS : va_S A s.heap H7 locs) (hl : lv_has ls 7 [(0, .ref (r 0)), (1, .int p0), (2, .int y7_2), (3, .int y7_3), (4, .int y7_4)]) (hM : -1 * y7_4.toInt + 4 < (N7 : Int)), W p l e { frames := 22, cells := 0, slots := 0, locals := 729 } s m ([.ref (r 0), .int p0] : List Value).toArray below meth c0 H7 locs 0 0 Q (F0 m 7 ls []) := by
    intro N7
    induction N7 with
    | zero =>
      intro y7_2 y7_3 y7_4 m7_i_askHouse m7_i_askTune m7_J H7 locs ls g7_0 g7_1 hP hD hS hl hM
      exact ((ob_778 hM g7_0 g7_1)).elim
    | succ N7 ih7 =>
      intro y7_2 y7_3 y7_4 m7_i_askHouse m7_i_askTune m7_J H7 locs ls g7_0 g7_1 hP hD hS hl hM
      have hM7 := msucc hM
      refine lv_iload hx hb dX9_barterOf_7 (lv_at hl 4 rfl) ?_
      refine lv_aload_n hx hb dX9_barterOf_9 rfl (lv_at hl 0 rfl) ?_
      refine va_calli (va_runV (As := []) (rest := [.int y7_4]) ⟨hx, hb, hml, hown, hG⟩ (kX9_homes l dC dI r ct i_taped i_size i_faultKind i_at i_end i_token i_number i_bank i_rb i_codes i_within i_piled i_unitsInRule m7_i_askHouse m7_i_askTune i_acts i_undone i_laid i_knowns i_time f_text f_tunes f_houses f_hums f_told f_many f_ruleFrom f_ruleTo f_code f_eWhat f_eSign f_all f_kept f_was f_sTune f_boxAll m7_J L H7.size hI) (cwV 0 hG (goodV gw1167 gw1169 gw58 gw138 gw1170) rfl rfl rfl hd_X9_homes ⟨(Nat.le_of_ble_eq_true rfl), (Nat.le_of_ble_eq_true rfl)⟩) ⟨fbR, va_recv hK hP (ci := 8) (q0 := 0) rfl rfl, pR_in hP hK⟩ rfl rfl hl.1 rfl (lv_room (Nat.le_of_ble_eq_true rfl)) dX9_barterOf_10 ⟨(Nat.le_of_ble_eq_true rfl), (Nat.le_of_ble_eq_true rfl)⟩) hS (fun q hq h => absurd hq (Nat.not_lt.mpr h)) (fun q h => hA q (Nat.le_trans hS.1 h)) (fun r_4 u_ t_ H3 locs ht hvm hw hB hz1 hk1 hS => ?_)
      subst hw
      have hP := wk hP hk1
      have f5 := hB
      have f6 : r_4.toInt = (f_houses (i_bank.toInt).toNat).toInt := (ob_6 f5)
      refine lv_icmp_ge (tgt := 135) hx hb dX9_barterOf_13 (by decide) (fun c_7 => ?_) (fun c_7 => ?_)
      · skip
        have f8 : r_4.toInt ≤ y7_4.toInt := qi_le c_7 rfl rfl
        refine lv_iload_n hx hb dX9_barterOf_135 rfl (lv_at hl 3 rfl) ?_
        rw [hQ]
        exact W.iret (v := y7_3) hx hb hr (fun t ht hW => ⟨⟨y7_3, y7_3, rfl, rfl, ⟨m7_i_askHouse, m7_i_askTune, m7_J, by rw [ht]; exact hP, hD, hI⟩⟩, hS.F ht⟩) hS.2.2 dX9_barterOf_136
      · skip
        have f9 : y7_4.toInt < r_4.toInt := qi_nle c_7 rfl rfl
        refine lv_aload_n hx hb dX9_barterOf_16 rfl (lv_at hl 0 rfl) ?_
        refine lv_iload hx hb dX9_barterOf_17 (lv_at hl 4 rfl) ?_
        refine va_calli (va_runV (As := [.int y7_4]) (rest := []) ⟨hx, hb, hml, hown, hG⟩ (kX9_triedBy l dC dI r ct i_taped i_size i_faultKind i_at i_end i_token i_number i_bank i_rb i_codes i_within i_piled i_unitsInRule m7_i_askHouse m7_i_askTune i_acts i_undone i_laid i_knowns i_time f_text f_tunes f_houses f_hums f_told f_many f_ruleFrom f_ruleTo f_code f_eWhat f_eSign f_all f_kept f_was f_sTune f_boxAll m7_J L y7_4 H3.size hI) (cwV 1 hG (goodV gw1550 gw1552 gw92 gw138 gw1553) rfl rfl rfl hd_X9_triedBy ⟨(Nat.le_of_ble_eq_true rfl), (Nat.le_of_ble_eq_true rfl)⟩) ⟨fbR, va_recv hK hP (ci := 8) (q0 := 0) rfl rfl, pR_in hP hK⟩ rfl rfl hl.1 rfl (lv_room (Nat.le_of_ble_eq_true rfl)) dX9_barterOf_19 ⟨(Nat.le_of_ble_eq_true rfl), (Nat.le_of_ble_eq_true rfl)⟩) hS (fun q hq h => absurd hq (Nat.not_lt.mpr h)) (fun q h => hA q (Nat.le_trans hS.1 h)) (fun r_11 u_ t_ H10 locs ht hvm hw hB hz1 hk1 hS => ?_)
        subst hw
        have hP := wk hP hk1
        obtain ⟨f12, f13, f14⟩ := hB
        have f15 : r_11.toInt = (trb f_all y7_4.toInt (f_tunes (i_bank.toInt).toNat).toInt (6 - ((0 : Int32).toInt)).toNat ((0 : Int32).toInt)) := (ob_6 f14)
        refine lv_istore (lv' := [(5, .int r_11), (0, .ref (r 0)), (1, .int p0), (2, .int y7_2), (3, .int y7_3), (4, .int y7_4)]) hx hb dX9_barterOf_22 hl (by decide) rfl (fun ls hl => ?_)
        refine lv_aload_n hx hb dX9_barterOf_24 rfl (lv_at hl 1 rfl) ?_
        refine lv_iload_n hx hb dX9_barterOf_25 rfl (lv_at hl 2 rfl) ?_
        refine lv_aload_n hx hb dX9_barterOf_26 rfl (lv_at hl 1 rfl) ?_
        refine va_calli (va_runV (As := []) (rest := [.int p0, .ref (r 0)]) ⟨hx, hb, hml, hown, hG⟩ (kX9_songs l dC dI r ct i_taped i_size i_faultKind i_at i_end i_token i_number i_bank i_rb i_codes i_within i_piled i_unitsInRule m7_i_askHouse m7_i_askTune i_acts i_undone i_laid i_knowns i_time f_text f_tunes f_houses f_hums f_told f_many f_ruleFrom f_ruleTo f_code f_eWhat f_eSign f_all f_kept f_was f_sTune f_boxAll m7_J L H10.size hI) (cwV 0 hG (goodV gw1512 gw1514 gw86 gw138 gw1515) rfl rfl rfl hd_X9_songs ⟨(Nat.le_of_ble_eq_true rfl), (Nat.le_of_ble_eq_true rfl)⟩) ⟨fbR, va_recv hK hP (ci := 8) (q0 := 0) rfl rfl, pR_in hP hK⟩ rfl rfl hl.1 rfl (lv_room (Nat.le_of_ble_eq_true rfl)) dX9_barterOf_27 ⟨(Nat.le_of_ble_eq_true rfl), (Nat.le_of_ble_eq_true rfl)⟩) hS (fun q hq h => absurd hq (Nat.not_lt.mpr h)) (fun q h => hA q (Nat.le_trans hS.1 h)) (fun r_17 u_ t_ H16 locs ht hvm hw hB hz1 hk1 hS => ?_)
        subst hw
        have hP := wk hP hk1
        have f18 := hB
        have f19 : r_17.toInt = (f_tunes (i_bank.toInt).toNat).toInt := (ob_6 f18)
        refine lv_iconst (v := 1) hx hb dX9_barterOf_30 (by decide) ?_
        refine lv_iadd hx hb dX9_barterOf_31 ?_
        refine lv_topi (fun x20 ex20 => ?_)
        have f21 : x20.toInt = (f_tunes (i_bank.toInt).toNat).toInt + 1 := (ob_1283 (qi_add ex20 rfl zc_1 (ob_1350 f1 f13 f15 f19) (ob_1351 f1 f13 f15 f19)) f19)
        refine lv_iload hx hb dX9_barterOf_32 (lv_at hl 5 rfl) ?_
        refine va_calli (va_runV (As := [.int p0, .int x20, .int y7_4]) (rest := []) ⟨hx, hb, hml, hown, hG⟩ (kX9_digit_v1 l dC dI r ct i_taped i_size i_faultKind i_at i_end i_token i_number i_bank i_rb i_codes i_within i_piled i_unitsInRule m7_i_askHouse m7_i_askTune i_acts i_undone i_laid i_knowns i_time f_text f_tunes f_houses f_hums f_told f_many f_ruleFrom f_ruleTo f_code f_eWhat f_eSign f_all f_kept f_was f_sTune f_boxAll m7_J L p0 x20 y7_4 H16.size hI (ob_1352 f1 f13 f15 f21) (ob_1353 f1 f13 f15 f21) (ob_139 g7_0) (ob_1054 f9 f6) (ob_139 hp0)) (cwV 3 hG (goodV gw1763 gw1765 gw116 gw138 gw1766) rfl rfl rfl hd_X9_digit ⟨(Nat.le_of_ble_eq_true rfl), (Nat.le_of_ble_eq_true rfl)⟩) ⟨fbR, va_recv hK hP (ci := 8) (q0 := 0) rfl rfl, pR_in hP hK⟩ rfl rfl hl.1 rfl (lv_room (Nat.le_of_ble_eq_true rfl)) dX9_barterOf_34 ⟨(Nat.le_of_ble_eq_true rfl), (Nat.le_of_ble_eq_true rfl)⟩) hS (fun q hq h => absurd hq (Nat.not_lt.mpr h)) (fun q h => hA q (Nat.le_trans hS.1 h)) (fun r_23 u_ t_ H22 locs ht hvm hw hB hz1 hk1 hS => ?_)
        subst hw
        have hP := wk hP hk1
        obtain ⟨f24, f25, f26, f27⟩ := hB
        have f28 : ((p0.toInt / (pw x20.toInt (((f_houses (i_bank.toInt).toNat).toInt + -1 * y7_4.toInt + (-1))).toNat)) % x20.toInt) = ((p0.toInt / (pw ((f_tunes (i_bank.toInt).toNat).toInt + 1) (((f_houses (i_bank.toInt).toNat).toInt + -1 * y7_4.toInt + (-1))).toNat)) % ((f_tunes (i_bank.toInt).toNat).toInt + 1)) := by rw [f21]
        have f29 : r_23.toInt = ((p0.toInt / (pw ((f_tunes (i_bank.toInt).toNat).toInt + 1) (((f_houses (i_bank.toInt).toNat).toInt + -1 * y7_4.toInt + (-1))).toNat)) % ((f_tunes (i_bank.toInt).toNat).toInt + 1)) := (ob_1270 f24 f28)
        refine lv_istore (lv' := [(6, .int r_23), (5, .int r_11), (0, .ref (r 0)), (1, .int p0), (2, .int y7_2), (3, .int y7_3), (4, .int y7_4)]) hx hb dX9_barterOf_37 hl (by decide) rfl (fun ls hl => ?_)
        refine lv_iload hx hb dX9_barterOf_39 (lv_at hl 1 rfl) ?_
        refine lv_if_ge (tgt := 56) hx hb dX9_barterOf_41 (by decide) (fun c_30 => ?_) (fun c_30 => ?_)
        · skip
          have f31 : 0 ≤ r_11.toInt := qi_le c_30 zc_0 rfl
          refine lv_iload hx hb dX9_barterOf_56 (lv_at hl 1 rfl) ?_
          refine lv_if_lt (tgt := 107) hx hb dX9_barterOf_58 (by decide) (fun c_32 => ((ob_1354 (qi_lt c_32 rfl zc_0) f12 f13 f31 f15)).elim) (fun c_32 => ?_)
          have f33 : 0 ≤ r_11.toInt := qi_nlt c_32 rfl zc_0
          refine lv_iload hx hb dX9_barterOf_61 (lv_at hl 0 rfl) ?_
          refine lv_aload_n hx hb dX9_barterOf_63 rfl (lv_at hl 2 rfl) ?_
          refine va_calli (va_runV (As := []) (rest := [.int r_23]) ⟨hx, hb, hml, hown, hG⟩ (kX9_songs l dC dI r ct i_taped i_size i_faultKind i_at i_end i_token i_number i_bank i_rb i_codes i_within i_piled i_unitsInRule m7_i_askHouse m7_i_askTune i_acts i_undone i_laid i_knowns i_time f_text f_tunes f_houses f_hums f_told f_many f_ruleFrom f_ruleTo f_code f_eWhat f_eSign f_all f_kept f_was f_sTune f_boxAll m7_J L H22.size hI) (cwV 0 hG (goodV gw1512 gw1514 gw86 gw138 gw1515) rfl rfl rfl hd_X9_songs ⟨(Nat.le_of_ble_eq_true rfl), (Nat.le_of_ble_eq_true rfl)⟩) ⟨fbR, va_recv hK hP (ci := 8) (q0 := 0) rfl rfl, pR_in hP hK⟩ rfl rfl hl.1 rfl (lv_room (Nat.le_of_ble_eq_true rfl)) dX9_barterOf_64 ⟨(Nat.le_of_ble_eq_true rfl), (Nat.le_of_ble_eq_true rfl)⟩) hS (fun q hq h => absurd hq (Nat.not_lt.mpr h)) (fun q h => hA q (Nat.le_trans hS.1 h)) (fun r_35 u_ t_ H34 locs ht hvm hw hB hz1 hk1 hS => ?_)
          subst hw
          have hP := wk hP hk1
          have f36 := hB
          have f37 : r_35.toInt = (f_tunes (i_bank.toInt).toNat).toInt := (ob_1286 f36 f28)
          refine lv_icmp_eq (tgt := 107) hx hb dX9_barterOf_67 (by decide) (fun c_38 => ?_) (fun c_38 => ?_)
          · skip
            have f39 : r_23.toInt = r_35.toInt := qi_eq c_38 rfl rfl
            refine lv_ldcw (v := (-1000000000)) hx hb hown (hG _ gw1601) dX9_barterOf_107 ?_
            rw [hQ]
            exact W.iret (v := (-1000000000)) hx hb hr (fun t ht hW => ⟨⟨(-1000000000), (-1000000000), rfl, rfl, ⟨m7_i_askHouse, m7_i_askTune, m7_J, by rw [ht]; exact hP, hD, hI⟩⟩, hS.F ht⟩) hS.2.2 dX9_barterOf_110
          · skip
            have f40 : r_23.toInt ≠ r_35.toInt := qi_ne c_38 rfl rfl
            have f41 : ((p0.toInt / (pw ((f_tunes (i_bank.toInt).toNat).toInt + 1) (((f_houses (i_bank.toInt).toNat).toInt + -1 * y7_4.toInt + (-1))).toNat)) % ((f_tunes (i_bank.toInt).toNat).toInt + 1)) + 1 ≤ (f_tunes (i_bank.toInt).toNat).toInt := (ob_1287 f28 f26 f40 f37 f29 f21)
            refine lv_iload_n hx hb dX9_barterOf_70 rfl (lv_at hl 4 rfl) ?_
            refine lv_iload hx hb dX9_barterOf_71 (lv_at hl 0 rfl) ?_
            refine va_calli (va_runS (As := [.int y7_2, .int r_23]) (rest := []) ⟨hx, hb, hml, hown, hG⟩ (kX9_bit l dC dI y7_2 r_23 H34.size) (va_cwS 2 hG (goodS gw1417 gw1418 gw138 gw1419) rfl rfl rfl hd_X9_bit ⟨(Nat.le_of_ble_eq_true rfl), (Nat.le_of_ble_eq_true rfl)⟩) ⟨fbR, pR_in emptyP (emptyK hK)⟩ rfl rfl hl.1 rfl (lv_room (Nat.le_of_ble_eq_true rfl)) dX9_barterOf_73 ⟨(Nat.le_of_ble_eq_true rfl), (Nat.le_of_ble_eq_true rfl)⟩) hS (fun q hq h => absurd hq (Nat.not_lt.mpr h)) (fun q h => hA q (Nat.le_trans hS.1 h)) (fun r_43 u_ t_ H42 locs ht hvm hw hB hz1 hk1 hS => ?_)
            subst hw
            have hP := wk hP hk1
            obtain ⟨f44, f45, f46, f47⟩ := hB
            refine lv_if_ne (tgt := 107) hx hb dX9_barterOf_76 (by decide) (fun c_48 => ?_) (fun c_48 => ?_)
            · skip
              have f49 : r_43.toInt ≠ 0 := qi_ne c_48 rfl zc_0
              have f50 : (1 : Int) ≤ r_43.toInt := (ob_157 f44 f45 f49)
              refine lv_ldcw (v := (-1000000000)) hx hb hown (hG _ gw1601) dX9_barterOf_107 ?_
              rw [hQ]
              exact W.iret (v := (-1000000000)) hx hb hr (fun t ht hW => ⟨⟨(-1000000000), (-1000000000), rfl, rfl, ⟨m7_i_askHouse, m7_i_askTune, m7_J, by rw [ht]; exact hP, hD, hI⟩⟩, hS.F ht⟩) hS.2.2 dX9_barterOf_110
            · skip
              have f51 : r_43.toInt = 0 := qi_eq c_48 rfl zc_0
              refine lv_aload_n hx hb dX9_barterOf_79 rfl (lv_at hl 2 rfl) ?_
              refine lv_iload hx hb dX9_barterOf_80 (lv_at hl 0 rfl) ?_
              refine va_calli (va_runV (As := [.int r_23]) (rest := []) ⟨hx, hb, hml, hown, hG⟩ (kX9_isTried l dC dI r ct i_taped i_size i_faultKind i_at i_end i_token i_number i_bank i_rb i_codes i_within i_piled i_unitsInRule m7_i_askHouse m7_i_askTune i_acts i_undone i_laid i_knowns i_time f_text f_tunes f_houses f_hums f_told f_many f_ruleFrom f_ruleTo f_code f_eWhat f_eSign f_all f_kept f_was f_sTune f_boxAll m7_J L r_23 H42.size hI (ob_1289 f28 f25 f29) (ob_1290 f41 f29)) (cwV 1 hG (goodV gw1668 gw1670 gw106 gw138 gw1671) rfl rfl rfl hd_X9_isTried ⟨(Nat.le_of_ble_eq_true rfl), (Nat.le_of_ble_eq_true rfl)⟩) ⟨fbR, va_recv hK hP (ci := 8) (q0 := 0) rfl rfl, pR_in hP hK⟩ rfl rfl hl.1 rfl (lv_room (Nat.le_of_ble_eq_true rfl)) dX9_barterOf_82 ⟨(Nat.le_of_ble_eq_true rfl), (Nat.le_of_ble_eq_true rfl)⟩) hS (fun q hq h => absurd hq (Nat.not_lt.mpr h)) (fun q h => hA q (Nat.le_trans hS.1 h)) (fun r_53 u_ t_ H52 locs ht hvm hw hB hz1 hk1 hS => ?_)
              subst hw
              have hP := wk hP hk1
              obtain ⟨f54, f55, f56⟩ := hB
              refine lv_if_eq (tgt := 107) hx hb dX9_barterOf_85 (by decide) (fun c_57 => ?_) (fun c_57 => ?_)
              · skip
                have f58 : r_53.toInt = 0 := qi_eq c_57 rfl zc_0
                refine lv_ldcw (v := (-1000000000)) hx hb hown (hG _ gw1601) dX9_barterOf_107 ?_
                rw [hQ]
                exact W.iret (v := (-1000000000)) hx hb hr (fun t ht hW => ⟨⟨(-1000000000), (-1000000000), rfl, rfl, ⟨m7_i_askHouse, m7_i_askTune, m7_J, by rw [ht]; exact hP, hD, hI⟩⟩, hS.F ht⟩) hS.2.2 dX9_barterOf_110
              · skip
                have f59 : r_53.toInt ≠ 0 := qi_ne c_57 rfl zc_0
                have f60 : (0 : Int) ≤ (f_all (r_23.toInt).toNat).toInt := (ob_1151 f54 f59)
                have f61 : (f_all (r_23.toInt + 5).toNat).toInt = (0 : Int) := (ob_1152 f54 f59)
                have f62 : r_53.toInt = (1 : Int) := (ob_1153 f54 f59)
                have f63 : (1 : Int) ≤ r_53.toInt := (ob_162 f55 f56 f62)
                refine lv_aload_n hx hb dX9_barterOf_88 rfl (lv_at hl 2 rfl) ?_
                refine lv_iload hx hb dX9_barterOf_89 (lv_at hl 6 rfl) ?_
                refine lv_iload hx hb dX9_barterOf_91 (lv_at hl 0 rfl) ?_
                have hFc := frA hD hS hA
                refine va_calli (va_runV (As := [.int y7_4, .int r_23]) (rest := []) ⟨hx, hb, hml, hown, hG⟩ (kX9_gladAnew l dC dI r ct i_taped i_size i_faultKind i_at i_end i_token i_number i_bank i_rb i_codes i_within i_piled i_unitsInRule m7_i_askHouse m7_i_askTune i_acts i_undone i_laid i_knowns i_time f_text f_tunes f_houses f_hums f_told f_many f_ruleFrom f_ruleTo f_code f_eWhat f_eSign f_all f_kept f_was f_sTune f_boxAll m7_J L y7_4 r_23 H52.size hI (ob_139 g7_0) (ob_1054 f9 f6) (ob_1289 f28 f25 f29) (ob_1290 f41 f29)) (cwV 2 hG (goodV gw1786 gw1788 gw119 gw138 gw1789) rfl rfl rfl hd_X9_gladAnew ⟨(Nat.le_of_ble_eq_true rfl), (Nat.le_of_ble_eq_true rfl)⟩) ⟨fbW, va_recv hK hP (ci := 8) (q0 := 0) rfl rfl, pW_in hP hK hD⟩ rfl rfl hl.1 rfl (lv_room (Nat.le_of_ble_eq_true rfl)) dX9_barterOf_93 ⟨(Nat.le_of_ble_eq_true rfl), (Nat.le_of_ble_eq_true rfl)⟩) hS (fun q _ h => hFc q h) hFc (fun r_65 u_ t_ H64 locs ht hvm hw hB hz1 hk1 hS => ?_)
                subst hw
                obtain ⟨x66, x67, J68, hP1, hD1, hI69⟩ := hB
                rw [ht] at hP1
                have hP := hP1
                have hD := dW hFc hD1
                obtain ⟨im70, im71, im72, im73, im74, im75, im76, im77, im78, im79, im80, im81, im82, im83, im84, im85, im86, im87, im88, im89, im90, im91, im92, im93, im94, im95, im96, im97, im98, im99, im100, im101, im102⟩ := id hI69
                refine lv_aload_n hx hb dX9_barterOf_96 rfl (lv_at hl 2 rfl) ?_
                refine lv_iload hx hb dX9_barterOf_97 (lv_at hl 6 rfl) ?_
                refine lv_iload hx hb dX9_barterOf_99 (lv_at hl 1 rfl) ?_
                have hFc := frA hD hS hA
                refine va_calli (va_runV (As := [.int y7_4, .int r_11]) (rest := [.int r_65]) ⟨hx, hb, hml, hown, hG⟩ (kX9_gladNow l dC dI r ct i_taped i_size i_faultKind i_at i_end i_token i_number i_bank i_rb i_codes i_within i_piled i_unitsInRule x66 x67 i_acts i_undone i_laid i_knowns i_time f_text f_tunes f_houses f_hums f_told f_many f_ruleFrom f_ruleTo f_code f_eWhat f_eSign f_all f_kept f_was f_sTune f_boxAll J68 L y7_4 r_11 H64.size hI69 (ob_139 g7_0) (ob_1054 f9 f6) (ob_1355 f31 f15) (ob_1089 f13 f15)) (cwV 2 hG (goodV gw1562 gw1564 gw94 gw138 gw1565) rfl rfl rfl hd_X9_gladNow ⟨(Nat.le_of_ble_eq_true rfl), (Nat.le_of_ble_eq_true rfl)⟩) ⟨fbW, va_recv hK hP (ci := 8) (q0 := 0) rfl rfl, pW_in hP hK hD⟩ rfl rfl hl.1 rfl (lv_room (Nat.le_of_ble_eq_true rfl)) dX9_barterOf_101 ⟨(Nat.le_of_ble_eq_true rfl), (Nat.le_of_ble_eq_true rfl)⟩) hS (fun q _ h => hFc q h) hFc (fun r_104 u_ t_ H103 locs ht hvm hw hB hz1 hk1 hS => ?_)
                subst hw
                obtain ⟨x105, x106, J107, hP1, hD1, hI108⟩ := hB
                rw [ht] at hP1
                have hP := hP1
                have hD := dW hFc hD1
                obtain ⟨im109, im110, im111, im112, im113, im114, im115, im116, im117, im118, im119, im120, im121, im122, im123, im124, im125, im126, im127, im128, im129, im130, im131, im132, im133, im134, im135, im136, im137, im138, im139, im140, im141⟩ := id hI108
                refine lv_icmp_ge (tgt := 111) hx hb dX9_barterOf_104 (by decide) (fun c_142 => ?_) (fun c_142 => ?_)
                · skip
                  have f143 : r_104.toInt ≤ r_65.toInt := qi_le c_142 rfl rfl
                  refine lv_iload_n hx hb dX9_barterOf_111 rfl (lv_at hl 4 rfl) ?_
                  refine lv_iconst (v := 1) hx hb dX9_barterOf_112 (by decide) ?_
                  refine lv_iload hx hb dX9_barterOf_113 (lv_at hl 0 rfl) ?_
                  refine lv_ishl hx hb dX9_barterOf_115 ?_
                  refine lv_topi (fun x144 ex144 => ?_)
                  refine lv_ior hx hb dX9_barterOf_116 ?_
                  refine lv_topi (fun x145 ex145 => ?_)
                  refine lv_istore_n (lv' := [(2, .int x145), (6, .int r_23), (5, .int r_11), (0, .ref (r 0)), (1, .int p0), (3, .int y7_3), (4, .int y7_4)]) hx hb dX9_barterOf_117 rfl hl (by decide) rfl (fun ls hl => ?_)
                  refine lv_iload_n hx hb dX9_barterOf_118 rfl (lv_at hl 5 rfl) ?_
                  refine lv_aload_n hx hb dX9_barterOf_119 rfl (lv_at hl 3 rfl) ?_
                  refine lv_iload hx hb dX9_barterOf_120 (lv_at hl 6 rfl) ?_
                  refine lv_iload hx hb dX9_barterOf_122 (lv_at hl 1 rfl) ?_
                  have hFc := frA hD hS hA
                  refine va_calli (va_runV (As := [.int y7_4, .int r_23]) (rest := [.int y7_3]) ⟨hx, hb, hml, hown, hG⟩ (kX9_gladAnew l dC dI r ct i_taped i_size i_faultKind i_at i_end i_token i_number i_bank i_rb i_codes i_within i_piled i_unitsInRule x105 x106 i_acts i_undone i_laid i_knowns i_time f_text f_tunes f_houses f_hums f_told f_many f_ruleFrom f_ruleTo f_code f_eWhat f_eSign f_all f_kept f_was f_sTune f_boxAll J107 L y7_4 r_23 H103.size hI108 (ob_139 g7_0) (ob_1054 f9 f6) (ob_1289 f28 f25 f29) (ob_1290 f41 f29)) (cwV 2 hG (goodV gw1786 gw1788 gw119 gw138 gw1789) rfl rfl rfl hd_X9_gladAnew ⟨(Nat.le_of_ble_eq_true rfl), (Nat.le_of_ble_eq_true rfl)⟩) ⟨fbW, va_recv hK hP (ci := 8) (q0 := 0) rfl rfl, pW_in hP hK hD⟩ rfl rfl hl.1 rfl (lv_room (Nat.le_of_ble_eq_true rfl)) dX9_barterOf_124 ⟨(Nat.le_of_ble_eq_true rfl), (Nat.le_of_ble_eq_true rfl)⟩) hS (fun q _ h => hFc q h) hFc (fun r_147 u_ t_ H146 locs ht hvm hw hB hz1 hk1 hS => ?_)
                  subst hw
                  obtain ⟨x148, x149, J150, hP1, hD1, hI151⟩ := hB
                  rw [ht] at hP1
                  have hP := hP1
                  have hD := dW hFc hD1
                  obtain ⟨im152, im153, im154, im155, im156, im157, im158, im159, im160, im161, im162, im163, im164, im165, im166, im167, im168, im169, im170, im171, im172, im173, im174, im175, im176, im177, im178, im179, im180, im181, im182, im183, im184⟩ := id hI151
                  refine lv_iadd hx hb dX9_barterOf_127 ?_
                  refine lv_topi (fun x185 ex185 => ?_)
                  refine lv_istore_n (lv' := [(3, .int x185), (2, .int x145), (6, .int r_23), (5, .int r_11), (0, .ref (r 0)), (1, .int p0), (4, .int y7_4)]) hx hb dX9_barterOf_128 rfl hl (by decide) rfl (fun ls hl => ?_)
                  obtain ⟨x186, ex186⟩ : ∃ y : Int32, y = y7_4 + Int32.ofInt 1 := ⟨_, rfl⟩
                  have f187 : x186.toInt = y7_4.toInt + 1 := (ob_142 (qi_add ex186 rfl (by decide) (ob_140 g7_0) (ob_794 g7_1)))
                  refine lv_iinc (v := x186) (lv' := [(4, .int x186), (3, .int x185), (2, .int x145), (6, .int r_23), (5, .int r_11), (0, .ref (r 0)), (1, .int p0)]) hx hb dX9_barterOf_129 hl (k := 6) rfl ex186.symm (by decide) rfl (fun ls hl => ?_)
                  refine lv_goto (tgt := 7) hx hb dX9_barterOf_132 (by decide) ?_
                  exact ih7 x145 x185 x186 x148 x149 J150 H146 _ _ (ob_149 g7_0 f187) (ob_795 f2 f9 f6 f187) hP hD hS (lv_sub hl [5, 6, 2, 1, 0] rfl) (ob_796 hM7 f187)
                · skip
                  have f188 : r_65.toInt < r_104.toInt := qi_nle c_142 rfl rfl
                  refine lv_ldcw (v := (-1000000000)) hx hb hown (hG _ gw1601) dX9_barterOf_107 ?_
                  rw [hQ]
                  exact W.iret (v := (-1000000000)) hx hb hr (fun t ht hW => ⟨⟨(-1000000000), (-1000000000), rfl, rfl, ⟨x105, x106, J107, by rw [ht]; exact hP, hD, hI108⟩⟩, hS.F ht⟩) hS.2.2 dX9_barterOf_110
        · skip
          have f189 : r_11.toInt < 0 := qi_nle c_30 zc_0 rfl
          refine lv_iload hx hb dX9_barterOf_44 (lv_at hl 0 rfl) ?_
          refine lv_aload_n hx hb dX9_barterOf_46 rfl (lv_at hl 2 rfl) ?_
          refine va_calli (va_runV (As := []) (rest := [.int r_23]) ⟨hx, hb, hml, hown, hG⟩ (kX9_songs l dC dI r ct i_taped i_size i_faultKind i_at i_end i_token i_number i_bank i_rb i_codes i_within i_piled i_unitsInRule m7_i_askHouse m7_i_askTune i_acts i_undone i_laid i_knowns i_time f_text f_tunes f_houses f_hums f_told f_many f_ruleFrom f_ruleTo f_code f_eWhat f_eSign f_all f_kept f_was f_sTune f_boxAll m7_J L H22.size hI) (cwV 0 hG (goodV gw1512 gw1514 gw86 gw138 gw1515) rfl rfl rfl hd_X9_songs ⟨(Nat.le_of_ble_eq_true rfl), (Nat.le_of_ble_eq_true rfl)⟩) ⟨fbR, va_recv hK hP (ci := 8) (q0 := 0) rfl rfl, pR_in hP hK⟩ rfl rfl hl.1 rfl (lv_room (Nat.le_of_ble_eq_true rfl)) dX9_barterOf_47 ⟨(Nat.le_of_ble_eq_true rfl), (Nat.le_of_ble_eq_true rfl)⟩) hS (fun q hq h => absurd hq (Nat.not_lt.mpr h)) (fun q h => hA q (Nat.le_trans hS.1 h)) (fun r_191 u_ t_ H190 locs ht hvm hw hB hz1 hk1 hS => ?_)
          subst hw
          have hP := wk hP hk1
          have f192 := hB
          have f193 : r_191.toInt = (f_tunes (i_bank.toInt).toNat).toInt := (ob_1286 f192 f28)
          refine lv_icmp_ne (tgt := 56) hx hb dX9_barterOf_50 (by decide) (fun c_194 => ?_) (fun c_194 => ?_)
          · skip
            have f195 : r_23.toInt ≠ r_191.toInt := qi_ne c_194 rfl rfl
            have f196 : ((p0.toInt / (pw ((f_tunes (i_bank.toInt).toNat).toInt + 1) (((f_houses (i_bank.toInt).toNat).toInt + -1 * y7_4.toInt + (-1))).toNat)) % ((f_tunes (i_bank.toInt).toNat).toInt + 1)) + 1 ≤ (f_tunes (i_bank.toInt).toNat).toInt := (ob_1287 f28 f26 f195 f193 f29 f21)
            refine lv_iload hx hb dX9_barterOf_56 (lv_at hl 1 rfl) ?_
            refine lv_if_lt (tgt := 107) hx hb dX9_barterOf_58 (by decide) (fun c_197 => ?_) (fun c_197 => ((ob_1356 (qi_nlt c_197 rfl zc_0) f12 f13 f189 f15)).elim)
            have f198 : r_11.toInt < 0 := qi_lt c_197 rfl zc_0
            refine lv_ldcw (v := (-1000000000)) hx hb hown (hG _ gw1601) dX9_barterOf_107 ?_
            rw [hQ]
            exact W.iret (v := (-1000000000)) hx hb hr (fun t ht hW => ⟨⟨(-1000000000), (-1000000000), rfl, rfl, ⟨m7_i_askHouse, m7_i_askTune, m7_J, by rw [ht]; exact hP, hD, hI⟩⟩, hS.F ht⟩) hS.2.2 dX9_barterOf_110
          · skip
            have f199 : r_23.toInt = r_191.toInt := qi_eq c_194 rfl rfl
            refine lv_goto (tgt := 129) hx hb dX9_barterOf_53 (by decide) ?_
            obtain ⟨x200, ex200⟩ : ∃ y : Int32, y = y7_4 + Int32.ofInt 1 := ⟨_, rfl⟩
            have f201 : x200.toInt = y7_4.toInt + 1 := (ob_142 (qi_add ex200 rfl (by decide) (ob_140 g7_0) (ob_794 g7_1)))
            refine lv_iinc (v := x200) (lv' := [(4, .int x200), (6, .int r_23), (5, .int r_11), (0, .ref (r 0)), (1, .int p0), (2, .int y7_2), (3, .int y7_3)]) hx hb dX9_barterOf_129 hl (k := 6) rfl ex200.symm (by decide) rfl (fun ls hl => ?_)
            refine lv_goto (tgt := 7) hx hb dX9_barterOf_132 (by decide) ?_
            exact ih7 y7_2 y7_3 x200 m7_i_askHouse m7_i_askTune m7_J H190 _ _ (ob_149 g7_0 f201) (ob_795 f2 f9 f6 f201) hP hD hS (lv_sub hl [3, 4, 5, 6, 0] rfl) (ob_796 hM7 f201)
  exact L7 (-1 * (0 : Int32).toInt + 4 + 1).toNat 0 0 0 i_askHouse i_askTune J s.heap _ _ (ob_1 zc_0) (ob_797 zc_0) hP hD hS (lv_sub hl [3, 4, 2, 1, 0] rfl) (mlt (ob_798 zc_0))
set_option maxHeartbeats 4000000 in
set_option maxRecDepth 100000 in
theorem kX9_barter (l : Launch) (dC : Nat → ClassId) (dI : Nat → Nat → Nat) (r : Nat → Nat) (ct : Nat → ClassId) (i_taped i_size i_faultKind i_at i_end i_token i_number i_bank i_rb i_codes i_within i_piled i_unitsInRule i_askHouse i_askTune i_acts i_undone i_laid i_knowns i_time : Int32) (f_text f_tunes f_houses f_hums f_told f_many f_ruleFrom f_ruleTo f_code f_eWhat f_eSign f_all f_kept f_was f_sTune f_boxAll : Nat → Int32) (J : Nat → Nat → Int32) (L : Nat → Nat → Int64) (sz : Nat) (hI : (IM i_taped i_size i_faultKind i_at i_end i_bank i_rb i_acts i_undone i_laid i_knowns i_time f_tunes f_houses f_hums f_told f_many f_ruleFrom f_ruleTo f_code f_all f_kept f_was f_sTune f_boxAll)) : Met l yX9_barter (.code yX9_barter cX9_barter 5 (some .int) :: GW) { frames := 24, cells := 0, slots := 0, locals := 795 } (va_Pc [.ref (r 0)] (pW (dC, dI) (WM r ct i_taped i_size i_faultKind i_at i_end i_token i_number i_bank i_rb i_codes i_within i_piled i_unitsInRule i_askHouse i_askTune i_acts i_undone i_laid i_knowns i_time f_text f_tunes f_houses f_hums f_told f_many f_ruleFrom f_ruleTo f_code f_eWhat f_eSign f_all f_kept f_was f_sTune f_boxAll J L) (TM ct) sz)) (va_Qi (fun (r0 : Int32) (u : Int32) => r0 = u) (fun (u : Int32) (t : State) => ∃ (n_i_askHouse n_i_askTune n_i_laid : Int32) (n_J : Nat → Nat → Int32), va_P (dC, dI) vwCl (WM r ct i_taped i_size i_faultKind i_at i_end i_token i_number i_bank i_rb i_codes i_within i_piled i_unitsInRule n_i_askHouse n_i_askTune i_acts i_undone n_i_laid i_knowns i_time f_text f_tunes f_houses f_hums f_told f_many f_ruleFrom f_ruleTo f_code f_eWhat f_eSign f_all f_kept f_was f_sTune f_boxAll n_J L) t.heap ∧ va_D (va_A (WM r ct i_taped i_size i_faultKind i_at i_end i_token i_number i_bank i_rb i_codes i_within i_piled i_unitsInRule i_askHouse i_askTune i_acts i_undone i_laid i_knowns i_time f_text f_tunes f_houses f_hums f_told f_many f_ruleFrom f_ruleTo f_code f_eWhat f_eSign f_all f_kept f_was f_sTune f_boxAll J L) sz) (WM r ct i_taped i_size i_faultKind i_at i_end i_token i_number i_bank i_rb i_codes i_within i_piled i_unitsInRule n_i_askHouse n_i_askTune i_acts i_undone n_i_laid i_knowns i_time f_text f_tunes f_houses f_hums f_told f_many f_ruleFrom f_ruleTo f_code f_eWhat f_eSign f_all f_kept f_was f_sTune f_boxAll n_J L) ∧ (IM i_taped i_size i_faultKind i_at i_end i_bank i_rb i_acts i_undone n_i_laid i_knowns i_time f_tunes f_houses f_hums f_told f_many f_ruleFrom f_ruleTo f_code f_all f_kept f_was f_sTune f_boxAll)) (va_A (WM r ct i_taped i_size i_faultKind i_at i_end i_token i_number i_bank i_rb i_codes i_within i_piled i_unitsInRule i_askHouse i_askTune i_acts i_undone i_laid i_knowns i_time f_text f_tunes f_houses f_hums f_told f_many f_ruleFrom f_ruleTo f_code f_eWhat f_eSign f_all f_kept f_was f_sTune f_boxAll J L) sz)) 0 0 (va_A (WM r ct i_taped i_size i_faultKind i_at i_end i_token i_number i_bank i_rb i_codes i_within i_piled i_unitsInRule i_askHouse i_askTune i_acts i_undone i_laid i_knowns i_time f_text f_tunes f_houses f_hums f_told f_many f_ruleFrom f_ruleTo f_code f_eWhat f_eSign f_all f_kept f_was f_sTune f_boxAll J L) sz) := by
  refine Met.ofW (cc := cX9_barter) (maxL := 5) (ret := (some .int)) (by decide) rfl ?_
  intro p e s m args below meth c0 s₁ B hml hv
  obtain ⟨rfl, hsz, hP, hK, hD0⟩ := hv
  have hx := B.exec
  have hb := B.bytes
  have hr := B.returns
  have hts := atoms_spec (ws := .code yX9_barter cX9_barter 5 (some .int) :: GW) B.pre
  have hG : ∀ w ∈ GW, w.before _ s = true := fun w h => hts w (List.mem_cons_of_mem _ h)
  have hown : s.vm.findClass RX9 = some m.cls := findClass_of_methodNamed B.named
  subst hsz
  have hD := hD0.self (sz := s.heap.size)
  generalize hAe : va_A (WM r ct i_taped i_size i_faultKind i_at i_end i_token i_number i_bank i_rb i_codes i_within i_piled i_unitsInRule i_askHouse i_askTune i_acts i_undone i_laid i_knowns i_time f_text f_tunes f_houses f_hums f_told f_many f_ruleFrom f_ruleTo f_code f_eWhat f_eSign f_all f_kept f_was f_sTune f_boxAll J L) s.heap.size = A at hD ⊢
  have hA : ∀ q : Nat, s.heap.size ≤ q → A q := fun q h => by rw [← hAe]; exact Or.inr h
  have hS : va_S A s.heap s.heap [] := va_S.rf
  have hP : va_P (dC, dI) vwCl (WM r ct i_taped i_size i_faultKind i_at i_end i_token i_number i_bank i_rb i_codes i_within i_piled i_unitsInRule i_askHouse i_askTune i_acts i_undone i_laid i_knowns i_time f_text f_tunes f_houses f_hums f_told f_many f_ruleFrom f_ruleTo f_code f_eWhat f_eSign f_all f_kept f_was f_sTune f_boxAll J L) s.heap := hP
  have hl := lv_entry ([.ref (r 0)]) (n := 5) (Nat.le_of_ble_eq_true rfl)
  rw [lg_entry_eq]
  generalize (lg_sl ([.ref (r 0)]) ++ List.replicate (5 - (lg_sl ([.ref (r 0)])).length) Slot.unset).toArray = ls at hl ⊢
  have hl : lv_has ls 5 [(0, .ref (r 0))] := hl
  refine nameQ (fun Q hQ => ?_)
  obtain ⟨ie0, ie1, ie2, ie3, ie4, ie5, ie6, ie7, ie8, ie9, ie10, ie11, ie12, ie13, ie14, ie15, ie16, ie17, ie18, ie19, ie20, ie21, ie22, ie23, ie24, ie25, ie26, ie27, ie28, ie29, ie30, ie31, ie32⟩ := id hI
  have f1 : 0 ≤ (f_tunes (i_bank.toInt).toNat).toInt ∧ (f_tunes (i_bank.toInt).toNat).toInt ≤ 5 := ie21 (i_bank.toInt)
  have f2 : 0 ≤ (f_houses (i_bank.toInt).toNat).toInt ∧ (f_houses (i_bank.toInt).toNat).toInt ≤ 4 := ie22 (i_bank.toInt)
  refine lv_iconst (v := (-1)) hx hb dX9_barter_0 (by decide) ?_
  refine lv_istore_n (lv' := [(1, .int (-1)), (0, .ref (r 0))]) hx hb dX9_barter_1 rfl hl (by decide) rfl (fun ls hl => ?_)
  refine lv_ldcw (v := (-1000000000)) hx hb hown (hG _ gw1601) dX9_barter_2 ?_
  refine lv_istore_n (lv' := [(2, .int (-1000000000)), (1, .int (-1)), (0, .ref (r 0))]) hx hb dX9_barter_5 rfl hl (by decide) rfl (fun ls hl => ?_)
  refine lv_iconst (v := 0) hx hb dX9_barter_6 (by decide) ?_
  refine lv_istore_n (lv' := [(3, .int 0), (2, .int (-1000000000)), (1, .int (-1)), (0, .ref (r 0))]) hx hb dX9_barter_7 rfl hl (by decide) rfl (fun ls hl => ?_)
  have L8 : ∀ (N8 : Nat) (y8_1 y8_2 y8_3 : Int32) (m8_i_askHouse m8_i_askTune : Int32) (m8_J : Nat → Nat → Int32) (H8 : Heap) (locs : List Loc) (ls : Array Slot) (g8_0 : (0 : Int) ≤ y8_1.toInt + 1) (g8_1 : y8_1.toInt ≤ (1048576 : Int)) (g8_2 : (0 : Int) ≤ y8_2.toInt + 1000000000) (g8_3 : (0 : Int) ≤ y8_3.toInt) (g8_4 : y8_3.toInt ≤ (1296 : Int)) (hP : va_P (dC, dI) vwCl (WM r ct i_taped i_size i_faultKind i_at i_end i_token i_number i_bank i_rb i_codes i_within i_piled i_unitsInRule m8_i_askHouse m8_i_askTune i_acts i_undone i_laid i_knowns i_time f_text f_tunes f_houses f_hums f_told f_many f_ruleFrom f_ruleTo f_code f_eWhat f_eSign f_all f_kept f_was f_sTune f_boxAll m8_J L) H8) (hD : va_D A (WM r ct i_taped i_size i_faultKind i_at i_end i_token i_number i_bank i_rb i_codes i_within i_piled i_unitsInRule m8_i_askHouse m8_i_askTune i_acts i_undone i_laid i_knowns i_time f_text f_tunes f_houses f_hums f_told f_many f_ruleFrom f_ruleTo f_code f_eWhat f_eSign f_all f_kept f_was f_sTune f_boxAll m8_J L)) (hS : va_S A s.heap H8 locs) (hl : lv_has ls 5 [(0, .ref (r 0)), (1, .int y8_1), (2, .int y8_2), (3, .int y8_3)]) (hM : -1 * y8_3.toInt + 1296 < (N8 : Int)), W p l e { frames := 24, cells := 0, slots := 0, locals := 795 } s m ([.ref (r 0)] : List Value).toArray below meth c0 H8 locs 0 0 Q (F0 m 8 ls []) := by
    intro N8
    induction N8 with
    | zero =>
      intro y8_1 y8_2 y8_3 m8_i_askHouse m8_i_askTune m8_J H8 locs ls g8_0 g8_1 g8_2 g8_3 g8_4 hP hD hS hl hM
      exact ((ob_1291 hM g8_3 g8_4)).elim
    | succ N8 ih8 =>
      intro y8_1 y8_2 y8_3 m8_i_askHouse m8_i_askTune m8_J H8 locs ls g8_0 g8_1 g8_2 g8_3 g8_4 hP hD hS hl hM
      have hM8 := msucc hM
      refine lv_iload_n hx hb dX9_barter_8 rfl (lv_at hl 3 rfl) ?_
      refine lv_aload_n hx hb dX9_barter_9 rfl (lv_at hl 0 rfl) ?_
      refine va_calli (va_runV (As := []) (rest := [.int y8_3]) ⟨hx, hb, hml, hown, hG⟩ (kX9_songs l dC dI r ct i_taped i_size i_faultKind i_at i_end i_token i_number i_bank i_rb i_codes i_within i_piled i_unitsInRule m8_i_askHouse m8_i_askTune i_acts i_undone i_laid i_knowns i_time f_text f_tunes f_houses f_hums f_told f_many f_ruleFrom f_ruleTo f_code f_eWhat f_eSign f_all f_kept f_was f_sTune f_boxAll m8_J L H8.size hI) (cwV 0 hG (goodV gw1512 gw1514 gw86 gw138 gw1515) rfl rfl rfl hd_X9_songs ⟨(Nat.le_of_ble_eq_true rfl), (Nat.le_of_ble_eq_true rfl)⟩) ⟨fbR, va_recv hK hP (ci := 8) (q0 := 0) rfl rfl, pR_in hP hK⟩ rfl rfl hl.1 rfl (lv_room (Nat.le_of_ble_eq_true rfl)) dX9_barter_10 ⟨(Nat.le_of_ble_eq_true rfl), (Nat.le_of_ble_eq_true rfl)⟩) hS (fun q hq h => absurd hq (Nat.not_lt.mpr h)) (fun q h => hA q (Nat.le_trans hS.1 h)) (fun r_4 u_ t_ H3 locs ht hvm hw hB hz1 hk1 hS => ?_)
      subst hw
      have hP := wk hP hk1
      have f5 := hB
      have f6 : r_4.toInt = (f_tunes (i_bank.toInt).toNat).toInt := (ob_6 f5)
      refine lv_iconst (v := 1) hx hb dX9_barter_13 (by decide) ?_
      refine lv_iadd hx hb dX9_barter_14 ?_
      refine lv_topi (fun x7 ex7 => ?_)
      have f8 : x7.toInt = (f_tunes (i_bank.toInt).toNat).toInt + 1 := (ob_1283 (qi_add ex7 rfl zc_1 (ob_1281 f1 f6) (ob_1282 f1 f6)) f6)
      refine lv_aload_n hx hb dX9_barter_15 rfl (lv_at hl 0 rfl) ?_
      refine va_calli (va_runV (As := []) (rest := [.int x7, .int y8_3]) ⟨hx, hb, hml, hown, hG⟩ (kX9_homes l dC dI r ct i_taped i_size i_faultKind i_at i_end i_token i_number i_bank i_rb i_codes i_within i_piled i_unitsInRule m8_i_askHouse m8_i_askTune i_acts i_undone i_laid i_knowns i_time f_text f_tunes f_houses f_hums f_told f_many f_ruleFrom f_ruleTo f_code f_eWhat f_eSign f_all f_kept f_was f_sTune f_boxAll m8_J L H3.size hI) (cwV 0 hG (goodV gw1167 gw1169 gw58 gw138 gw1170) rfl rfl rfl hd_X9_homes ⟨(Nat.le_of_ble_eq_true rfl), (Nat.le_of_ble_eq_true rfl)⟩) ⟨fbR, va_recv hK hP (ci := 8) (q0 := 0) rfl rfl, pR_in hP hK⟩ rfl rfl hl.1 rfl (lv_room (Nat.le_of_ble_eq_true rfl)) dX9_barter_16 ⟨(Nat.le_of_ble_eq_true rfl), (Nat.le_of_ble_eq_true rfl)⟩) hS (fun q hq h => absurd hq (Nat.not_lt.mpr h)) (fun q h => hA q (Nat.le_trans hS.1 h)) (fun r_10 u_ t_ H9 locs ht hvm hw hB hz1 hk1 hS => ?_)
      subst hw
      have hP := wk hP hk1
      have f11 := hB
      have f12 : r_10.toInt = (f_houses (i_bank.toInt).toNat).toInt := (ob_6 f11)
      refine va_calli (va_runS (As := [.int x7, .int r_10]) (rest := [.int y8_3]) ⟨hx, hb, hml, hown, hG⟩ (kX9_power_v1 l dC dI x7 r_10 H9.size (ob_1284 f1 f8) (ob_1285 f1 f8) (ob_1292 f2 f12) (ob_1293 f2 f12)) (va_cwS 2 hG (goodS gw1756 gw1757 gw138 gw1758) rfl rfl rfl hd_X9_power ⟨(Nat.le_of_ble_eq_true rfl), (Nat.le_of_ble_eq_true rfl)⟩) ⟨fbR, pR_in emptyP (emptyK hK)⟩ rfl rfl hl.1 rfl (lv_room (Nat.le_of_ble_eq_true rfl)) dX9_barter_19 ⟨(Nat.le_of_ble_eq_true rfl), (Nat.le_of_ble_eq_true rfl)⟩) hS (fun q hq h => absurd hq (Nat.not_lt.mpr h)) (fun q h => hA q (Nat.le_trans hS.1 h)) (fun r_14 u_ t_ H13 locs ht hvm hw hB hz1 hk1 hS => ?_)
      subst hw
      have hP := wk hP hk1
      obtain ⟨f15, f16, f17⟩ := hB
      have f18 : (pw x7.toInt (r_10.toInt).toNat) = (pw ((f_tunes (i_bank.toInt).toNat).toInt + 1) (r_10.toInt).toNat) := by rw [f8]
      have f19 : (pw ((f_tunes (i_bank.toInt).toNat).toInt + 1) (r_10.toInt).toNat) = (pw ((f_tunes (i_bank.toInt).toNat).toInt + 1) (((f_houses (i_bank.toInt).toNat).toInt)).toNat) := by rw [f12]
      have f20 : r_14.toInt = (pw ((f_tunes (i_bank.toInt).toNat).toInt + 1) (((f_houses (i_bank.toInt).toNat).toInt)).toNat) := (ob_1294 f15 f18 f19)
      refine lv_icmp_ge (tgt := 52) hx hb dX9_barter_22 (by decide) (fun c_21 => ?_) (fun c_21 => ?_)
      · skip
        have f22 : r_14.toInt ≤ y8_3.toInt := qi_le c_21 rfl rfl
        refine lv_aload_n hx hb dX9_barter_52 rfl (lv_at hl 0 rfl) ?_
        refine lv_aload_n hx hb dX9_barter_53 rfl (lv_at hl 0 rfl) ?_
        refine va_calli (va_runV (As := []) (rest := [.ref (r 0)]) ⟨hx, hb, hml, hown, hG⟩ (kX9_homes l dC dI r ct i_taped i_size i_faultKind i_at i_end i_token i_number i_bank i_rb i_codes i_within i_piled i_unitsInRule m8_i_askHouse m8_i_askTune i_acts i_undone i_laid i_knowns i_time f_text f_tunes f_houses f_hums f_told f_many f_ruleFrom f_ruleTo f_code f_eWhat f_eSign f_all f_kept f_was f_sTune f_boxAll m8_J L H13.size hI) (cwV 0 hG (goodV gw1167 gw1169 gw58 gw138 gw1170) rfl rfl rfl hd_X9_homes ⟨(Nat.le_of_ble_eq_true rfl), (Nat.le_of_ble_eq_true rfl)⟩) ⟨fbR, va_recv hK hP (ci := 8) (q0 := 0) rfl rfl, pR_in hP hK⟩ rfl rfl hl.1 rfl (lv_room (Nat.le_of_ble_eq_true rfl)) dX9_barter_54 ⟨(Nat.le_of_ble_eq_true rfl), (Nat.le_of_ble_eq_true rfl)⟩) hS (fun q hq h => absurd hq (Nat.not_lt.mpr h)) (fun q h => hA q (Nat.le_trans hS.1 h)) (fun r_24 u_ t_ H23 locs ht hvm hw hB hz1 hk1 hS => ?_)
        subst hw
        have hP := wk hP hk1
        have f25 := hB
        have f26 : r_24.toInt = (f_houses (i_bank.toInt).toNat).toInt := (ob_1295 f25 f18 f19)
        refine pM_X9_373_0 hx hb hG hown hK hP hD hS dX9_barter_57 (fun H27 locs hP hD hS => ?_)
        refine lv_iconst (v := 0) hx hb dX9_barter_60 (by decide) ?_
        refine lv_istore_n (lv' := [(3, .int 0), (0, .ref (r 0)), (1, .int y8_1), (2, .int y8_2)]) hx hb dX9_barter_61 rfl hl (by decide) rfl (fun ls hl => ?_)
        have L62 : ∀ (N62 : Nat) (y62_3 : Int32) (m62_J : Nat → Nat → Int32) (H62 : Heap) (locs : List Loc) (ls : Array Slot) (g62_0 : (0 : Int) ≤ y62_3.toInt) (g62_1 : y62_3.toInt ≤ (4 : Int)) (hP : va_P (dC, dI) vwCl (WM r ct i_taped i_size i_faultKind i_at i_end i_token i_number i_bank i_rb i_codes i_within i_piled i_unitsInRule m8_i_askHouse m8_i_askTune i_acts i_undone r_24 i_knowns i_time f_text f_tunes f_houses f_hums f_told f_many f_ruleFrom f_ruleTo f_code f_eWhat f_eSign f_all f_kept f_was f_sTune f_boxAll m62_J L) H62) (hD : va_D A (WM r ct i_taped i_size i_faultKind i_at i_end i_token i_number i_bank i_rb i_codes i_within i_piled i_unitsInRule m8_i_askHouse m8_i_askTune i_acts i_undone r_24 i_knowns i_time f_text f_tunes f_houses f_hums f_told f_many f_ruleFrom f_ruleTo f_code f_eWhat f_eSign f_all f_kept f_was f_sTune f_boxAll m62_J L)) (hS : va_S A s.heap H62 locs) (hl : lv_has ls 5 [(0, .ref (r 0)), (1, .int y8_1), (2, .int y8_2), (3, .int y62_3)]) (hM : -1 * y62_3.toInt + 4 < (N62 : Int)), W p l e { frames := 24, cells := 0, slots := 0, locals := 795 } s m ([.ref (r 0)] : List Value).toArray below meth c0 H62 locs 0 0 Q (F0 m 62 ls []) := by
          intro N62
          induction N62 with
          | zero =>
            intro y62_3 m62_J H62 locs ls g62_0 g62_1 hP hD hS hl hM
            exact ((ob_778 hM g62_0 g62_1)).elim
          | succ N62 ih62 =>
            intro y62_3 m62_J H62 locs ls g62_0 g62_1 hP hD hS hl hM
            have hM62 := msucc hM
            refine lv_iload_n hx hb dX9_barter_62 rfl (lv_at hl 3 rfl) ?_
            refine lv_aload_n hx hb dX9_barter_63 rfl (lv_at hl 0 rfl) ?_
            refine va_calli (va_runV (As := []) (rest := [.int y62_3]) ⟨hx, hb, hml, hown, hG⟩ (kX9_homes l dC dI r ct i_taped i_size i_faultKind i_at i_end i_token i_number i_bank i_rb i_codes i_within i_piled i_unitsInRule m8_i_askHouse m8_i_askTune i_acts i_undone r_24 i_knowns i_time f_text f_tunes f_houses f_hums f_told f_many f_ruleFrom f_ruleTo f_code f_eWhat f_eSign f_all f_kept f_was f_sTune f_boxAll m62_J L H62.size ⟨ie0, ie1, ie2, ie3, ie4, ie5, ie6, ie7, (ob_1292 f2 f26), (ob_1293 f2 f26), ie10, ie11, ie12, ie13, ie14, ie15, ie16, ie17, ie18, ie19, ie20, ie21, ie22, ie23, ie24, ie25, ie26, ie27, ie28, ie29, ie30, ie31, ie32⟩) (cwV 0 hG (goodV gw1167 gw1169 gw58 gw138 gw1170) rfl rfl rfl hd_X9_homes ⟨(Nat.le_of_ble_eq_true rfl), (Nat.le_of_ble_eq_true rfl)⟩) ⟨fbR, va_recv hK hP (ci := 8) (q0 := 0) rfl rfl, pR_in hP hK⟩ rfl rfl hl.1 rfl (lv_room (Nat.le_of_ble_eq_true rfl)) dX9_barter_64 ⟨(Nat.le_of_ble_eq_true rfl), (Nat.le_of_ble_eq_true rfl)⟩) hS (fun q hq h => absurd hq (Nat.not_lt.mpr h)) (fun q h => hA q (Nat.le_trans hS.1 h)) (fun r_29 u_ t_ H28 locs ht hvm hw hB hz1 hk1 hS => ?_)
            subst hw
            have hP := wk hP hk1
            have f30 := hB
            have f31 : r_29.toInt = (f_houses (i_bank.toInt).toNat).toInt := (ob_1295 f30 f18 f19)
            refine lv_icmp_ge (tgt := 117) hx hb dX9_barter_67 (by decide) (fun c_32 => ?_) (fun c_32 => ?_)
            · skip
              have f33 : r_29.toInt ≤ y62_3.toInt := qi_le c_32 rfl rfl
              refine lv_iload_n hx hb dX9_barter_117 rfl (lv_at hl 2 rfl) ?_
              rw [hQ]
              exact W.iret (v := y8_2) hx hb hr (fun t ht hW => ⟨⟨y8_2, y8_2, rfl, rfl, ⟨m8_i_askHouse, m8_i_askTune, r_24, m62_J, by rw [ht]; exact hP, hD, ⟨ie0, ie1, ie2, ie3, ie4, ie5, ie6, ie7, (ob_1296 f2 f33 f31 f26), (ob_1297 f2 f33 f31 f26), ie10, ie11, ie12, ie13, ie14, ie15, ie16, ie17, ie18, ie19, ie20, ie21, ie22, ie23, ie24, ie25, ie26, ie27, ie28, ie29, ie30, ie31, ie32⟩⟩⟩, hS.F ht⟩) hS.2.2 dX9_barter_118
            · skip
              have f34 : y62_3.toInt < r_29.toInt := qi_nle c_32 rfl rfl
              refine lv_aload_n hx hb dX9_barter_70 rfl (lv_at hl 0 rfl) ?_
              refine gM_X9_97_0 hx hb hG hown hK hP dX9_barter_71 ?_
              refine lv_iload_n hx hb dX9_barter_74 rfl (lv_at hl 3 rfl) ?_
              refine lv_aload_n hx hb dX9_barter_75 rfl (lv_at hl 0 rfl) ?_
              refine lv_iload_n hx hb dX9_barter_76 rfl (lv_at hl 1 rfl) ?_
              refine lv_aload_n hx hb dX9_barter_77 rfl (lv_at hl 0 rfl) ?_
              refine va_calli (va_runV (As := []) (rest := [.int y8_1, .ref (r 0), .int y62_3, .ref (r 28)]) ⟨hx, hb, hml, hown, hG⟩ (kX9_songs l dC dI r ct i_taped i_size i_faultKind i_at i_end i_token i_number i_bank i_rb i_codes i_within i_piled i_unitsInRule m8_i_askHouse m8_i_askTune i_acts i_undone r_24 i_knowns i_time f_text f_tunes f_houses f_hums f_told f_many f_ruleFrom f_ruleTo f_code f_eWhat f_eSign f_all f_kept f_was f_sTune f_boxAll m62_J L H28.size ⟨ie0, ie1, ie2, ie3, ie4, ie5, ie6, ie7, (ob_1298 f2 f34 f31 f26), (ob_1299 f2 f34 f31 f26), ie10, ie11, ie12, ie13, ie14, ie15, ie16, ie17, ie18, ie19, ie20, ie21, ie22, ie23, ie24, ie25, ie26, ie27, ie28, ie29, ie30, ie31, ie32⟩) (cwV 0 hG (goodV gw1512 gw1514 gw86 gw138 gw1515) rfl rfl rfl hd_X9_songs ⟨(Nat.le_of_ble_eq_true rfl), (Nat.le_of_ble_eq_true rfl)⟩) ⟨fbR, va_recv hK hP (ci := 8) (q0 := 0) rfl rfl, pR_in hP hK⟩ rfl rfl hl.1 rfl (lv_room (Nat.le_of_ble_eq_true rfl)) dX9_barter_78 ⟨(Nat.le_of_ble_eq_true rfl), (Nat.le_of_ble_eq_true rfl)⟩) hS (fun q hq h => absurd hq (Nat.not_lt.mpr h)) (fun q h => hA q (Nat.le_trans hS.1 h)) (fun r_36 u_ t_ H35 locs ht hvm hw hB hz1 hk1 hS => ?_)
              subst hw
              have hP := wk hP hk1
              have f37 := hB
              have f38 : r_36.toInt = (f_tunes (i_bank.toInt).toNat).toInt := (ob_1295 f37 f18 f19)
              refine lv_iconst (v := 1) hx hb dX9_barter_81 (by decide) ?_
              refine lv_iadd hx hb dX9_barter_82 ?_
              refine lv_topi (fun x39 ex39 => ?_)
              have f40 : x39.toInt = (f_tunes (i_bank.toInt).toNat).toInt + 1 := (ob_1283 (qi_add ex39 rfl zc_1 (ob_1281 f1 f38) (ob_1282 f1 f38)) f38)
              refine lv_iload_n hx hb dX9_barter_83 rfl (lv_at hl 3 rfl) ?_
              refine va_calli (va_runV (As := [.int y8_1, .int x39, .int y62_3]) (rest := [.int y62_3, .ref (r 28)]) ⟨hx, hb, hml, hown, hG⟩ (kX9_digit l dC dI r ct i_taped i_size i_faultKind i_at i_end i_token i_number i_bank i_rb i_codes i_within i_piled i_unitsInRule m8_i_askHouse m8_i_askTune i_acts i_undone r_24 i_knowns i_time f_text f_tunes f_houses f_hums f_told f_many f_ruleFrom f_ruleTo f_code f_eWhat f_eSign f_all f_kept f_was f_sTune f_boxAll m62_J L y8_1 x39 y62_3 H35.size ⟨ie0, ie1, ie2, ie3, ie4, ie5, ie6, ie7, (ob_1298 f2 f34 f31 f26), (ob_1299 f2 f34 f31 f26), ie10, ie11, ie12, ie13, ie14, ie15, ie16, ie17, ie18, ie19, ie20, ie21, ie22, ie23, ie24, ie25, ie26, ie27, ie28, ie29, ie30, ie31, ie32⟩ (ob_1284 f1 f40) (ob_1285 f1 f40) (ob_139 g62_0) (ob_1054 f34 f31)) (cwV 3 hG (goodV gw1763 gw1765 gw116 gw138 gw1766) rfl rfl rfl hd_X9_digit ⟨(Nat.le_of_ble_eq_true rfl), (Nat.le_of_ble_eq_true rfl)⟩) ⟨fbR, va_recv hK hP (ci := 8) (q0 := 0) rfl rfl, pR_in hP hK⟩ rfl rfl hl.1 rfl (lv_room (Nat.le_of_ble_eq_true rfl)) dX9_barter_84 ⟨(Nat.le_of_ble_eq_true rfl), (Nat.le_of_ble_eq_true rfl)⟩) hS (fun q hq h => absurd hq (Nat.not_lt.mpr h)) (fun q h => hA q (Nat.le_trans hS.1 h)) (fun r_42 u_ t_ H41 locs ht hvm hw hB hz1 hk1 hS => ?_)
              subst hw
              have hP := wk hP hk1
              refine lv_aload_n hx hb dX9_barter_87 rfl (lv_at hl 0 rfl) ?_
              refine va_calli (va_runV (As := []) (rest := [.int r_42, .int y62_3, .ref (r 28)]) ⟨hx, hb, hml, hown, hG⟩ (kX9_songs l dC dI r ct i_taped i_size i_faultKind i_at i_end i_token i_number i_bank i_rb i_codes i_within i_piled i_unitsInRule m8_i_askHouse m8_i_askTune i_acts i_undone r_24 i_knowns i_time f_text f_tunes f_houses f_hums f_told f_many f_ruleFrom f_ruleTo f_code f_eWhat f_eSign f_all f_kept f_was f_sTune f_boxAll m62_J L H41.size ⟨ie0, ie1, ie2, ie3, ie4, ie5, ie6, ie7, (ob_1298 f2 f34 f31 f26), (ob_1299 f2 f34 f31 f26), ie10, ie11, ie12, ie13, ie14, ie15, ie16, ie17, ie18, ie19, ie20, ie21, ie22, ie23, ie24, ie25, ie26, ie27, ie28, ie29, ie30, ie31, ie32⟩) (cwV 0 hG (goodV gw1512 gw1514 gw86 gw138 gw1515) rfl rfl rfl hd_X9_songs ⟨(Nat.le_of_ble_eq_true rfl), (Nat.le_of_ble_eq_true rfl)⟩) ⟨fbR, va_recv hK hP (ci := 8) (q0 := 0) rfl rfl, pR_in hP hK⟩ rfl rfl hl.1 rfl (lv_room (Nat.le_of_ble_eq_true rfl)) dX9_barter_88 ⟨(Nat.le_of_ble_eq_true rfl), (Nat.le_of_ble_eq_true rfl)⟩) hS (fun q hq h => absurd hq (Nat.not_lt.mpr h)) (fun q h => hA q (Nat.le_trans hS.1 h)) (fun r_44 u_ t_ H43 locs ht hvm hw hB hz1 hk1 hS => ?_)
              subst hw
              have hP := wk hP hk1
              have f45 := hB
              have f46 : r_44.toInt = (f_tunes (i_bank.toInt).toNat).toInt := (ob_1295 f45 f18 f19)
              refine lv_icmp_ne (tgt := 98) hx hb dX9_barter_91 (by decide) (fun c_47 => ?_) (fun c_47 => ?_)
              · skip
                have f48 : r_42.toInt ≠ r_44.toInt := qi_ne c_47 rfl rfl
                refine lv_aload_n hx hb dX9_barter_98 rfl (lv_at hl 0 rfl) ?_
                refine lv_iload_n hx hb dX9_barter_99 rfl (lv_at hl 1 rfl) ?_
                refine lv_aload_n hx hb dX9_barter_100 rfl (lv_at hl 0 rfl) ?_
                refine va_calli (va_runV (As := []) (rest := [.int y8_1, .ref (r 0), .int y62_3, .ref (r 28)]) ⟨hx, hb, hml, hown, hG⟩ (kX9_songs l dC dI r ct i_taped i_size i_faultKind i_at i_end i_token i_number i_bank i_rb i_codes i_within i_piled i_unitsInRule m8_i_askHouse m8_i_askTune i_acts i_undone r_24 i_knowns i_time f_text f_tunes f_houses f_hums f_told f_many f_ruleFrom f_ruleTo f_code f_eWhat f_eSign f_all f_kept f_was f_sTune f_boxAll m62_J L H43.size ⟨ie0, ie1, ie2, ie3, ie4, ie5, ie6, ie7, (ob_1298 f2 f34 f31 f26), (ob_1299 f2 f34 f31 f26), ie10, ie11, ie12, ie13, ie14, ie15, ie16, ie17, ie18, ie19, ie20, ie21, ie22, ie23, ie24, ie25, ie26, ie27, ie28, ie29, ie30, ie31, ie32⟩) (cwV 0 hG (goodV gw1512 gw1514 gw86 gw138 gw1515) rfl rfl rfl hd_X9_songs ⟨(Nat.le_of_ble_eq_true rfl), (Nat.le_of_ble_eq_true rfl)⟩) ⟨fbR, va_recv hK hP (ci := 8) (q0 := 0) rfl rfl, pR_in hP hK⟩ rfl rfl hl.1 rfl (lv_room (Nat.le_of_ble_eq_true rfl)) dX9_barter_101 ⟨(Nat.le_of_ble_eq_true rfl), (Nat.le_of_ble_eq_true rfl)⟩) hS (fun q hq h => absurd hq (Nat.not_lt.mpr h)) (fun q h => hA q (Nat.le_trans hS.1 h)) (fun r_50 u_ t_ H49 locs ht hvm hw hB hz1 hk1 hS => ?_)
                subst hw
                have hP := wk hP hk1
                have f51 := hB
                have f52 : r_50.toInt = (f_tunes (i_bank.toInt).toNat).toInt := (ob_1295 f51 f18 f19)
                refine lv_iconst (v := 1) hx hb dX9_barter_104 (by decide) ?_
                refine lv_iadd hx hb dX9_barter_105 ?_
                refine lv_topi (fun x53 ex53 => ?_)
                have f54 : x53.toInt = (f_tunes (i_bank.toInt).toNat).toInt + 1 := (ob_1283 (qi_add ex53 rfl zc_1 (ob_1281 f1 f52) (ob_1282 f1 f52)) f52)
                refine lv_iload_n hx hb dX9_barter_106 rfl (lv_at hl 3 rfl) ?_
                refine va_calli (va_runV (As := [.int y8_1, .int x53, .int y62_3]) (rest := [.int y62_3, .ref (r 28)]) ⟨hx, hb, hml, hown, hG⟩ (kX9_digit l dC dI r ct i_taped i_size i_faultKind i_at i_end i_token i_number i_bank i_rb i_codes i_within i_piled i_unitsInRule m8_i_askHouse m8_i_askTune i_acts i_undone r_24 i_knowns i_time f_text f_tunes f_houses f_hums f_told f_many f_ruleFrom f_ruleTo f_code f_eWhat f_eSign f_all f_kept f_was f_sTune f_boxAll m62_J L y8_1 x53 y62_3 H49.size ⟨ie0, ie1, ie2, ie3, ie4, ie5, ie6, ie7, (ob_1298 f2 f34 f31 f26), (ob_1299 f2 f34 f31 f26), ie10, ie11, ie12, ie13, ie14, ie15, ie16, ie17, ie18, ie19, ie20, ie21, ie22, ie23, ie24, ie25, ie26, ie27, ie28, ie29, ie30, ie31, ie32⟩ (ob_1284 f1 f54) (ob_1285 f1 f54) (ob_139 g62_0) (ob_1054 f34 f31)) (cwV 3 hG (goodV gw1763 gw1765 gw116 gw138 gw1766) rfl rfl rfl hd_X9_digit ⟨(Nat.le_of_ble_eq_true rfl), (Nat.le_of_ble_eq_true rfl)⟩) ⟨fbR, va_recv hK hP (ci := 8) (q0 := 0) rfl rfl, pR_in hP hK⟩ rfl rfl hl.1 rfl (lv_room (Nat.le_of_ble_eq_true rfl)) dX9_barter_107 ⟨(Nat.le_of_ble_eq_true rfl), (Nat.le_of_ble_eq_true rfl)⟩) hS (fun q hq h => absurd hq (Nat.not_lt.mpr h)) (fun q h => hA q (Nat.le_trans hS.1 h)) (fun r_56 u_ t_ H55 locs ht hvm hw hB hz1 hk1 hS => ?_)
                subst hw
                have hP := wk hP hk1
                refine stM_28 (mm := y62_3.toInt) hx hb hK hP hD hS rfl (ob_350 g62_0) (ob_1300 f2 f34 f31) dX9_barter_110 (fun J58 H57 locs hP hD hS => ?_)
                obtain ⟨x59, ex59⟩ : ∃ y : Int32, y = y62_3 + Int32.ofInt 1 := ⟨_, rfl⟩
                have f60 : x59.toInt = y62_3.toInt + 1 := (ob_142 (qi_add ex59 rfl (by decide) (ob_140 g62_0) (ob_794 g62_1)))
                refine lv_iinc (v := x59) (lv' := [(3, .int x59), (0, .ref (r 0)), (1, .int y8_1), (2, .int y8_2)]) hx hb dX9_barter_111 hl (k := 3) rfl ex59.symm (by decide) rfl (fun ls hl => ?_)
                refine lv_goto (tgt := 62) hx hb dX9_barter_114 (by decide) ?_
                exact ih62 x59 J58 H57 _ _ (ob_149 g62_0 f60) (ob_795 f2 f34 f31 f60) hP hD hS (lv_sub hl [1, 2, 3, 0] rfl) (ob_796 hM62 f60)
              · skip
                have f61 : r_42.toInt = r_44.toInt := qi_eq c_47 rfl rfl
                refine lv_iconst (v := (-1)) hx hb dX9_barter_94 (by decide) ?_
                refine lv_goto (tgt := 110) hx hb dX9_barter_95 (by decide) ?_
                refine stM_28 (mm := y62_3.toInt) hx hb hK hP hD hS rfl (ob_350 g62_0) (ob_1300 f2 f34 f31) dX9_barter_110 (fun J63 H62 locs hP hD hS => ?_)
                obtain ⟨x64, ex64⟩ : ∃ y : Int32, y = y62_3 + Int32.ofInt 1 := ⟨_, rfl⟩
                have f65 : x64.toInt = y62_3.toInt + 1 := (ob_142 (qi_add ex64 rfl (by decide) (ob_140 g62_0) (ob_794 g62_1)))
                refine lv_iinc (v := x64) (lv' := [(3, .int x64), (0, .ref (r 0)), (1, .int y8_1), (2, .int y8_2)]) hx hb dX9_barter_111 hl (k := 3) rfl ex64.symm (by decide) rfl (fun ls hl => ?_)
                refine lv_goto (tgt := 62) hx hb dX9_barter_114 (by decide) ?_
                exact ih62 x64 J63 H62 _ _ (ob_149 g62_0 f65) (ob_795 f2 f34 f31 f65) hP hD hS (lv_sub hl [1, 2, 3, 0] rfl) (ob_796 hM62 f65)
        exact L62 (-1 * (0 : Int32).toInt + 4 + 1).toNat 0 m8_J H27 _ _ (ob_1 zc_0) (ob_797 zc_0) hP hD hS (lv_sub hl [1, 2, 3, 0] rfl) (mlt (ob_798 zc_0))
      · skip
        have f66 : y8_3.toInt < r_14.toInt := qi_nle c_21 rfl rfl
        refine lv_aload_n hx hb dX9_barter_25 rfl (lv_at hl 0 rfl) ?_
        refine lv_iload_n hx hb dX9_barter_26 rfl (lv_at hl 3 rfl) ?_
        have hFc := frA hD hS hA
        refine va_calli (va_runV (As := [.int y8_3]) (rest := []) ⟨hx, hb, hml, hown, hG⟩ (kX9_barterOf l dC dI r ct i_taped i_size i_faultKind i_at i_end i_token i_number i_bank i_rb i_codes i_within i_piled i_unitsInRule m8_i_askHouse m8_i_askTune i_acts i_undone i_laid i_knowns i_time f_text f_tunes f_houses f_hums f_told f_many f_ruleFrom f_ruleTo f_code f_eWhat f_eSign f_all f_kept f_was f_sTune f_boxAll m8_J L y8_3 H13.size hI (ob_139 g8_3)) (cwV 1 hG (goodV gw1782 gw1784 gw118 gw138 gw1785) rfl rfl rfl hd_X9_barterOf ⟨(Nat.le_of_ble_eq_true rfl), (Nat.le_of_ble_eq_true rfl)⟩) ⟨fbW, va_recv hK hP (ci := 8) (q0 := 0) rfl rfl, pW_in hP hK hD⟩ rfl rfl hl.1 rfl (lv_room (Nat.le_of_ble_eq_true rfl)) dX9_barter_27 ⟨(Nat.le_of_ble_eq_true rfl), (Nat.le_of_ble_eq_true rfl)⟩) hS (fun q _ h => hFc q h) hFc (fun r_68 u_ t_ H67 locs ht hvm hw hB hz1 hk1 hS => ?_)
        subst hw
        obtain ⟨x69, x70, J71, hP1, hD1, hI72⟩ := hB
        rw [ht] at hP1
        have hP := hP1
        have hD := dW hFc hD1
        obtain ⟨im73, im74, im75, im76, im77, im78, im79, im80, im81, im82, im83, im84, im85, im86, im87, im88, im89, im90, im91, im92, im93, im94, im95, im96, im97, im98, im99, im100, im101, im102, im103, im104, im105⟩ := id hI72
        refine lv_istore (lv' := [(4, .int r_68), (0, .ref (r 0)), (1, .int y8_1), (2, .int y8_2), (3, .int y8_3)]) hx hb dX9_barter_30 hl (by decide) rfl (fun ls hl => ?_)
        refine lv_iload hx hb dX9_barter_32 (lv_at hl 0 rfl) ?_
        refine lv_iload_n hx hb dX9_barter_34 rfl (lv_at hl 3 rfl) ?_
        refine lv_icmp_gt (tgt := 41) hx hb dX9_barter_35 (by decide) (fun c_106 => ?_) (fun c_106 => ?_)
        · skip
          have f107 : y8_2.toInt < r_68.toInt := qi_lt c_106 rfl rfl
          refine lv_iload_n hx hb dX9_barter_41 rfl (lv_at hl 4 rfl) ?_
          refine lv_istore_n (lv' := [(1, .int y8_3), (4, .int r_68), (0, .ref (r 0)), (2, .int y8_2), (3, .int y8_3)]) hx hb dX9_barter_42 rfl hl (by decide) rfl (fun ls hl => ?_)
          refine lv_iload hx hb dX9_barter_43 (lv_at hl 1 rfl) ?_
          refine lv_istore_n (lv' := [(2, .int r_68), (1, .int y8_3), (4, .int r_68), (0, .ref (r 0)), (3, .int y8_3)]) hx hb dX9_barter_45 rfl hl (by decide) rfl (fun ls hl => ?_)
          obtain ⟨x108, ex108⟩ : ∃ y : Int32, y = y8_3 + Int32.ofInt 1 := ⟨_, rfl⟩
          have f109 : x108.toInt = y8_3.toInt + 1 := (ob_142 (qi_add ex108 rfl (by decide) (ob_140 g8_3) (ob_1302 g8_4)))
          refine lv_iinc (v := x108) (lv' := [(3, .int x108), (2, .int r_68), (1, .int y8_3), (4, .int r_68), (0, .ref (r 0))]) hx hb dX9_barter_46 hl (k := 4) rfl ex108.symm (by decide) rfl (fun ls hl => ?_)
          refine lv_goto (tgt := 8) hx hb dX9_barter_49 (by decide) ?_
          exact ih8 y8_3 r_68 x108 x69 x70 J71 H67 _ _ (ob_1053 g8_3) (ob_1303 g8_4) (ob_1357 g8_2 f107) (ob_149 g8_3 f109) (ob_1305 f18 f19 f17 f66 f20 f109) hP hD hS (lv_sub hl [4, 2, 1, 0] rfl) (ob_1306 hM8 f109)
        · skip
          have f110 : r_68.toInt ≤ y8_2.toInt := qi_nlt c_106 rfl rfl
          refine lv_goto (tgt := 46) hx hb dX9_barter_38 (by decide) ?_
          obtain ⟨x111, ex111⟩ : ∃ y : Int32, y = y8_3 + Int32.ofInt 1 := ⟨_, rfl⟩
          have f112 : x111.toInt = y8_3.toInt + 1 := (ob_142 (qi_add ex111 rfl (by decide) (ob_140 g8_3) (ob_1302 g8_4)))
          refine lv_iinc (v := x111) (lv' := [(3, .int x111), (4, .int r_68), (0, .ref (r 0)), (1, .int y8_1), (2, .int y8_2)]) hx hb dX9_barter_46 hl (k := 4) rfl ex111.symm (by decide) rfl (fun ls hl => ?_)
          refine lv_goto (tgt := 8) hx hb dX9_barter_49 (by decide) ?_
          exact ih8 y8_1 y8_2 x111 x69 x70 J71 H67 _ _ (ob_1145 g8_0 g8_1) (ob_1146 g8_0 g8_1) (ob_1358 g8_2 f110) (ob_149 g8_3 f112) (ob_1305 f18 f19 f17 f66 f20 f112) hP hD hS (lv_sub hl [2, 3, 4, 0] rfl) (ob_1306 hM8 f112)
  exact L8 (-1 * (0 : Int32).toInt + 1296 + 1).toNat (-1) (-1000000000) 0 i_askHouse i_askTune J s.heap _ _ (ob_1042 zc_m1) (ob_1148 zc_m1) (ob_1359 zc_m1000000000) (ob_1 zc_0) (ob_1316 zc_0) hP hD hS (lv_sub hl [3, 2, 1, 0] rfl) (mlt (ob_1317 zc_0))
set_option maxHeartbeats 4000000 in
set_option maxRecDepth 100000 in
theorem kX9_swap (l : Launch) (dC : Nat → ClassId) (dI : Nat → Nat → Nat) (r : Nat → Nat) (ct : Nat → ClassId) (i_taped i_size i_faultKind i_at i_end i_token i_number i_bank i_rb i_codes i_within i_piled i_unitsInRule i_askHouse i_askTune i_acts i_undone i_laid i_knowns i_time : Int32) (f_text f_tunes f_houses f_hums f_told f_many f_ruleFrom f_ruleTo f_code f_eWhat f_eSign f_all f_kept f_was f_sTune f_boxAll : Nat → Int32) (J : Nat → Nat → Int32) (L : Nat → Nat → Int64) (p0 : Int32) (sz : Nat) (hI : (IM i_taped i_size i_faultKind i_at i_end i_bank i_rb i_acts i_undone i_laid i_knowns i_time f_tunes f_houses f_hums f_told f_many f_ruleFrom f_ruleTo f_code f_all f_kept f_was f_sTune f_boxAll)) : Met l yX9_swap (.code yX9_swap cX9_swap 5 (some .int) :: GW) { frames := 22, cells := 0, slots := 0, locals := 729 } (va_Pc [.ref (r 0), .int p0] (pW (dC, dI) (WM r ct i_taped i_size i_faultKind i_at i_end i_token i_number i_bank i_rb i_codes i_within i_piled i_unitsInRule i_askHouse i_askTune i_acts i_undone i_laid i_knowns i_time f_text f_tunes f_houses f_hums f_told f_many f_ruleFrom f_ruleTo f_code f_eWhat f_eSign f_all f_kept f_was f_sTune f_boxAll J L) (TM ct) sz)) (va_Qi (fun (r0 : Int32) (u : Int32) => r0 = u) (fun (u : Int32) (t : State) => ∃ (n_i_askHouse n_i_askTune : Int32) (n_J : Nat → Nat → Int32), va_P (dC, dI) vwCl (WM r ct i_taped i_size i_faultKind i_at i_end i_token i_number i_bank i_rb i_codes i_within i_piled i_unitsInRule n_i_askHouse n_i_askTune i_acts i_undone i_laid i_knowns i_time f_text f_tunes f_houses f_hums f_told f_many f_ruleFrom f_ruleTo f_code f_eWhat f_eSign f_all f_kept f_was f_sTune f_boxAll n_J L) t.heap ∧ va_D (va_A (WM r ct i_taped i_size i_faultKind i_at i_end i_token i_number i_bank i_rb i_codes i_within i_piled i_unitsInRule i_askHouse i_askTune i_acts i_undone i_laid i_knowns i_time f_text f_tunes f_houses f_hums f_told f_many f_ruleFrom f_ruleTo f_code f_eWhat f_eSign f_all f_kept f_was f_sTune f_boxAll J L) sz) (WM r ct i_taped i_size i_faultKind i_at i_end i_token i_number i_bank i_rb i_codes i_within i_piled i_unitsInRule n_i_askHouse n_i_askTune i_acts i_undone i_laid i_knowns i_time f_text f_tunes f_houses f_hums f_told f_many f_ruleFrom f_ruleTo f_code f_eWhat f_eSign f_all f_kept f_was f_sTune f_boxAll n_J L) ∧ (IM i_taped i_size i_faultKind i_at i_end i_bank i_rb i_acts i_undone i_laid i_knowns i_time f_tunes f_houses f_hums f_told f_many f_ruleFrom f_ruleTo f_code f_all f_kept f_was f_sTune f_boxAll)) (va_A (WM r ct i_taped i_size i_faultKind i_at i_end i_token i_number i_bank i_rb i_codes i_within i_piled i_unitsInRule i_askHouse i_askTune i_acts i_undone i_laid i_knowns i_time f_text f_tunes f_houses f_hums f_told f_many f_ruleFrom f_ruleTo f_code f_eWhat f_eSign f_all f_kept f_was f_sTune f_boxAll J L) sz)) 0 0 (va_A (WM r ct i_taped i_size i_faultKind i_at i_end i_token i_number i_bank i_rb i_codes i_within i_piled i_unitsInRule i_askHouse i_askTune i_acts i_undone i_laid i_knowns i_time f_text f_tunes f_houses f_hums f_told f_many f_ruleFrom f_ruleTo f_code f_eWhat f_eSign f_all f_kept f_was f_sTune f_boxAll J L) sz) := by
  refine Met.ofW (cc := cX9_swap) (maxL := 5) (ret := (some .int)) (by decide) rfl ?_
  intro p e s m args below meth c0 s₁ B hml hv
  obtain ⟨rfl, hsz, hP, hK, hD0⟩ := hv
  have hx := B.exec
  have hb := B.bytes
  have hr := B.returns
  have hts := atoms_spec (ws := .code yX9_swap cX9_swap 5 (some .int) :: GW) B.pre
  have hG : ∀ w ∈ GW, w.before _ s = true := fun w h => hts w (List.mem_cons_of_mem _ h)
  have hown : s.vm.findClass RX9 = some m.cls := findClass_of_methodNamed B.named
  subst hsz
  have hD := hD0.self (sz := s.heap.size)
  generalize hAe : va_A (WM r ct i_taped i_size i_faultKind i_at i_end i_token i_number i_bank i_rb i_codes i_within i_piled i_unitsInRule i_askHouse i_askTune i_acts i_undone i_laid i_knowns i_time f_text f_tunes f_houses f_hums f_told f_many f_ruleFrom f_ruleTo f_code f_eWhat f_eSign f_all f_kept f_was f_sTune f_boxAll J L) s.heap.size = A at hD ⊢
  have hA : ∀ q : Nat, s.heap.size ≤ q → A q := fun q h => by rw [← hAe]; exact Or.inr h
  have hS : va_S A s.heap s.heap [] := va_S.rf
  have hP : va_P (dC, dI) vwCl (WM r ct i_taped i_size i_faultKind i_at i_end i_token i_number i_bank i_rb i_codes i_within i_piled i_unitsInRule i_askHouse i_askTune i_acts i_undone i_laid i_knowns i_time f_text f_tunes f_houses f_hums f_told f_many f_ruleFrom f_ruleTo f_code f_eWhat f_eSign f_all f_kept f_was f_sTune f_boxAll J L) s.heap := hP
  have hl := lv_entry ([.ref (r 0), .int p0]) (n := 5) (Nat.le_of_ble_eq_true rfl)
  rw [lg_entry_eq]
  generalize (lg_sl ([.ref (r 0), .int p0]) ++ List.replicate (5 - (lg_sl ([.ref (r 0), .int p0])).length) Slot.unset).toArray = ls at hl ⊢
  have hl : lv_has ls 5 [(0, .ref (r 0)), (1, .int p0)] := hl
  refine nameQ (fun Q hQ => ?_)
  obtain ⟨ie0, ie1, ie2, ie3, ie4, ie5, ie6, ie7, ie8, ie9, ie10, ie11, ie12, ie13, ie14, ie15, ie16, ie17, ie18, ie19, ie20, ie21, ie22, ie23, ie24, ie25, ie26, ie27, ie28, ie29, ie30, ie31, ie32⟩ := id hI
  have f1 : 0 ≤ (f_tunes (i_bank.toInt).toNat).toInt ∧ (f_tunes (i_bank.toInt).toNat).toInt ≤ 5 := ie21 (i_bank.toInt)
  have f2 : 0 ≤ (f_houses (i_bank.toInt).toNat).toInt ∧ (f_houses (i_bank.toInt).toNat).toInt ≤ 4 := ie22 (i_bank.toInt)
  refine lv_iload_n hx hb dX9_swap_0 rfl (lv_at hl 1 rfl) ?_
  refine lv_iconst (v := 0) hx hb dX9_swap_1 (by decide) ?_
  refine lv_iconst (v := 1) hx hb dX9_swap_2 (by decide) ?_
  refine va_calli (va_runS (As := [.int p0, .int 0, .int 1]) (rest := []) ⟨hx, hb, hml, hown, hG⟩ (kX9_isIn l dC dI p0 0 1 s.heap.size) (va_cwS 3 hG (goodS gw1516 gw1517 gw138 gw1518) rfl rfl rfl hd_X9_isIn ⟨(Nat.le_of_ble_eq_true rfl), (Nat.le_of_ble_eq_true rfl)⟩) ⟨fbR, pR_in emptyP (emptyK hK)⟩ rfl rfl hl.1 rfl (lv_room (Nat.le_of_ble_eq_true rfl)) dX9_swap_3 ⟨(Nat.le_of_ble_eq_true rfl), (Nat.le_of_ble_eq_true rfl)⟩) hS (fun q hq h => absurd hq (Nat.not_lt.mpr h)) (fun q h => hA q (Nat.le_trans hS.1 h)) (fun r_4 u_ t_ H3 locs ht hvm hw hB hz1 hk1 hS => ?_)
  subst hw
  have hP := wk hP hk1
  obtain ⟨f5, f6, f7⟩ := hB
  refine lv_if_ne (tgt := 11) hx hb dX9_swap_6 (by decide) (fun c_8 => ?_) (fun c_8 => ?_)
  · skip
    have f9 : r_4.toInt ≠ 0 := qi_ne c_8 rfl zc_0
    have f10 : (0 : Int) ≤ p0.toInt := (ob_1129 f5 f9 zc_1 zc_0)
    have f11 : p0.toInt ≤ (1 : Int) := (ob_1130 f5 f9 zc_1 zc_0)
    have f12 : r_4.toInt = (1 : Int) := (ob_1131 f5 f9 zc_1 zc_0)
    have f13 : (1 : Int) ≤ r_4.toInt := (ob_162 f6 f7 f12)
    refine lv_iconst (v := 0) hx hb dX9_swap_11 (by decide) ?_
    refine lv_istore_n (lv' := [(2, .int 0), (0, .ref (r 0)), (1, .int p0)]) hx hb dX9_swap_12 rfl hl (by decide) rfl (fun ls hl => ?_)
    have L13 : ∀ (N13 : Nat) (y13_2 : Int32) (m13_i_askHouse m13_i_askTune : Int32) (m13_J : Nat → Nat → Int32) (H13 : Heap) (locs : List Loc) (ls : Array Slot) (g13_0 : (0 : Int) ≤ y13_2.toInt) (g13_1 : y13_2.toInt ≤ (16 : Int)) (hP : va_P (dC, dI) vwCl (WM r ct i_taped i_size i_faultKind i_at i_end i_token i_number i_bank i_rb i_codes i_within i_piled i_unitsInRule m13_i_askHouse m13_i_askTune i_acts i_undone i_laid i_knowns i_time f_text f_tunes f_houses f_hums f_told f_many f_ruleFrom f_ruleTo f_code f_eWhat f_eSign f_all f_kept f_was f_sTune f_boxAll m13_J L) H13) (hD : va_D A (WM r ct i_taped i_size i_faultKind i_at i_end i_token i_number i_bank i_rb i_codes i_within i_piled i_unitsInRule m13_i_askHouse m13_i_askTune i_acts i_undone i_laid i_knowns i_time f_text f_tunes f_houses f_hums f_told f_many f_ruleFrom f_ruleTo f_code f_eWhat f_eSign f_all f_kept f_was f_sTune f_boxAll m13_J L)) (hS : va_S A s.heap H13 locs) (hl : lv_has ls 5 [(0, .ref (r 0)), (1, .int p0), (2, .int y13_2)]) (hM : -1 * y13_2.toInt + 16 < (N13 : Int)), W p l e { frames := 22, cells := 0, slots := 0, locals := 729 } s m ([.ref (r 0), .int p0] : List Value).toArray below meth c0 H13 locs 0 0 Q (F0 m 13 ls []) := by
      intro N13
      induction N13 with
      | zero =>
        intro y13_2 m13_i_askHouse m13_i_askTune m13_J H13 locs ls g13_0 g13_1 hP hD hS hl hM
        exact ((ob_1360 hM g13_0 g13_1)).elim
      | succ N13 ih13 =>
        intro y13_2 m13_i_askHouse m13_i_askTune m13_J H13 locs ls g13_0 g13_1 hP hD hS hl hM
        have hM13 := msucc hM
        refine lv_iload_n hx hb dX9_swap_13 rfl (lv_at hl 2 rfl) ?_
        refine lv_bipush (v := 16) hx hb dX9_swap_14 (by decide) ?_
        refine lv_icmp_ge (tgt := 130) hx hb dX9_swap_16 (by decide) (fun c_14 => ?_) (fun c_14 => ?_)
        · skip
          have f15 : 16 ≤ y13_2.toInt := qi_le c_14 zc_16 rfl
          refine lv_iconst (v := (-1)) hx hb dX9_swap_130 (by decide) ?_
          rw [hQ]
          exact W.iret (v := (-1)) hx hb hr (fun t ht hW => ⟨⟨(-1), (-1), rfl, rfl, ⟨m13_i_askHouse, m13_i_askTune, m13_J, by rw [ht]; exact hP, hD, hI⟩⟩, hS.F ht⟩) hS.2.2 dX9_swap_131
        · skip
          have f16 : y13_2.toInt < 16 := qi_nle c_14 zc_16 rfl
          refine lv_iload_n hx hb dX9_swap_19 rfl (lv_at hl 2 rfl) ?_
          refine lv_iconst (v := 4) hx hb dX9_swap_20 (by decide) ?_
          refine lv_idiv hx hb dX9_swap_21 (by decide) ?_
          refine lv_topi (fun x17 ex17 => ?_)
          have f18 : 0 ≤ x17.toInt ∧ x17.toInt ≤ y13_2.toInt := qi_div ex17 rfl zc_4 (ob_350 g13_0) (by decide)
          have f19 : 4 * x17.toInt ≤ y13_2.toInt ∧ y13_2.toInt < 4 * x17.toInt + 4 := qi_divc ex17 rfl zc_4 (ob_350 g13_0) (by decide)
          refine lv_istore_n (lv' := [(3, .int x17), (0, .ref (r 0)), (1, .int p0), (2, .int y13_2)]) hx hb dX9_swap_22 rfl hl (by decide) rfl (fun ls hl => ?_)
          refine lv_iload_n hx hb dX9_swap_23 rfl (lv_at hl 3 rfl) ?_
          refine lv_iconst (v := 4) hx hb dX9_swap_24 (by decide) ?_
          refine lv_irem hx hb dX9_swap_25 (by decide) ?_
          refine lv_topi (fun x20 ex20 => ?_)
          have f21 : 0 ≤ x20.toInt ∧ x20.toInt < 4 ∧ x20.toInt ≤ y13_2.toInt := qi_rem ex20 rfl zc_4 (ob_350 g13_0) (by decide)
          have f22 : y13_2.toInt = 4 * (y13_2.toInt / 4) + x20.toInt := qi_remq ex20 rfl zc_4 (ob_350 g13_0) (by decide)
          refine lv_istore (lv' := [(4, .int x20), (3, .int x17), (0, .ref (r 0)), (1, .int p0), (2, .int y13_2)]) hx hb dX9_swap_26 hl (by decide) rfl (fun ls hl => ?_)
          refine lv_iload_n hx hb dX9_swap_28 rfl (lv_at hl 1 rfl) ?_
          refine lv_iload hx hb dX9_swap_29 (lv_at hl 0 rfl) ?_
          refine lv_icmp_ge (tgt := 124) hx hb dX9_swap_31 (by decide) (fun c_23 => ?_) (fun c_23 => ?_)
          · skip
            have f24 : x20.toInt ≤ x17.toInt := qi_le c_23 rfl rfl
            obtain ⟨x25, ex25⟩ : ∃ y : Int32, y = y13_2 + Int32.ofInt 1 := ⟨_, rfl⟩
            have f26 : x25.toInt = y13_2.toInt + 1 := (ob_142 (qi_add ex25 rfl (by decide) (ob_140 g13_0) (ob_1361 g13_1)))
            refine lv_iinc (v := x25) (lv' := [(2, .int x25), (4, .int x20), (3, .int x17), (0, .ref (r 0)), (1, .int p0)]) hx hb dX9_swap_124 hl (k := 4) rfl ex25.symm (by decide) rfl (fun ls hl => ?_)
            refine lv_goto (tgt := 13) hx hb dX9_swap_127 (by decide) ?_
            exact ih13 x25 m13_i_askHouse m13_i_askTune m13_J H13 _ _ (ob_149 g13_0 f26) (ob_1362 f16 f26) hP hD hS (lv_sub hl [3, 4, 0] rfl) (ob_1363 hM13 f26)
          · skip
            have f27 : x17.toInt < x20.toInt := qi_nle c_23 rfl rfl
            refine lv_aload_n hx hb dX9_swap_34 rfl (lv_at hl 2 rfl) ?_
            refine lv_iload hx hb dX9_swap_35 (lv_at hl 0 rfl) ?_
            refine va_calli (va_runV (As := [.int x20]) (rest := []) ⟨hx, hb, hml, hown, hG⟩ (kX9_isHouse l dC dI r ct i_taped i_size i_faultKind i_at i_end i_token i_number i_bank i_rb i_codes i_within i_piled i_unitsInRule m13_i_askHouse m13_i_askTune i_acts i_undone i_laid i_knowns i_time f_text f_tunes f_houses f_hums f_told f_many f_ruleFrom f_ruleTo f_code f_eWhat f_eSign f_all f_kept f_was f_sTune f_boxAll m13_J L x20 H13.size hI) (cwV 1 hG (goodV gw1542 gw1544 gw90 gw138 gw1545) rfl rfl rfl hd_X9_isHouse ⟨(Nat.le_of_ble_eq_true rfl), (Nat.le_of_ble_eq_true rfl)⟩) ⟨fbR, va_recv hK hP (ci := 8) (q0 := 0) rfl rfl, pR_in hP hK⟩ rfl rfl hl.1 rfl (lv_room (Nat.le_of_ble_eq_true rfl)) dX9_swap_37 ⟨(Nat.le_of_ble_eq_true rfl), (Nat.le_of_ble_eq_true rfl)⟩) hS (fun q hq h => absurd hq (Nat.not_lt.mpr h)) (fun q h => hA q (Nat.le_trans hS.1 h)) (fun r_29 u_ t_ H28 locs ht hvm hw hB hz1 hk1 hS => ?_)
            subst hw
            have hP := wk hP hk1
            obtain ⟨f30, f31, f32, f33, f34⟩ := hB
            refine lv_if_eq (tgt := 124) hx hb dX9_swap_40 (by decide) (fun c_35 => ?_) (fun c_35 => ?_)
            · skip
              have f36 : r_29.toInt = 0 := qi_eq c_35 rfl zc_0
              have f37 : (0 : Int) ≤ x20.toInt := (ob_1364 f21 f22 f27)
              have f38 : (f_houses (i_bank.toInt).toNat).toInt ≤ x20.toInt := (ob_1365 f21 f30 f36)
              have f39 : r_29.toInt = (0 : Int) := (ob_25 f36)
              obtain ⟨x40, ex40⟩ : ∃ y : Int32, y = y13_2 + Int32.ofInt 1 := ⟨_, rfl⟩
              have f41 : x40.toInt = y13_2.toInt + 1 := (ob_142 (qi_add ex40 rfl (by decide) (ob_140 g13_0) (ob_1361 g13_1)))
              refine lv_iinc (v := x40) (lv' := [(2, .int x40), (4, .int x20), (3, .int x17), (0, .ref (r 0)), (1, .int p0)]) hx hb dX9_swap_124 hl (k := 4) rfl ex40.symm (by decide) rfl (fun ls hl => ?_)
              refine lv_goto (tgt := 13) hx hb dX9_swap_127 (by decide) ?_
              exact ih13 x40 m13_i_askHouse m13_i_askTune m13_J H28 _ _ (ob_149 g13_0 f41) (ob_1362 f16 f41) hP hD hS (lv_sub hl [3, 4, 0] rfl) (ob_1363 hM13 f41)
            · skip
              have f42 : r_29.toInt ≠ 0 := qi_ne c_35 rfl zc_0
              have f43 : (0 : Int) ≤ x20.toInt := (ob_1364 f21 f22 f27)
              have f44 : x20.toInt + 1 ≤ (f_houses (i_bank.toInt).toNat).toInt := (ob_1091 f30 f42)
              have f45 : r_29.toInt = (1 : Int) := (ob_1092 f30 f42)
              have f46 : (1 : Int) ≤ r_29.toInt := (ob_395 f45)
              refine lv_aload_n hx hb dX9_swap_43 rfl (lv_at hl 2 rfl) ?_
              refine lv_iload_n hx hb dX9_swap_44 rfl (lv_at hl 1 rfl) ?_
              refine va_calli (va_runV (As := [.int x17]) (rest := []) ⟨hx, hb, hml, hown, hG⟩ (kX9_triedBy l dC dI r ct i_taped i_size i_faultKind i_at i_end i_token i_number i_bank i_rb i_codes i_within i_piled i_unitsInRule m13_i_askHouse m13_i_askTune i_acts i_undone i_laid i_knowns i_time f_text f_tunes f_houses f_hums f_told f_many f_ruleFrom f_ruleTo f_code f_eWhat f_eSign f_all f_kept f_was f_sTune f_boxAll m13_J L x17 H28.size hI) (cwV 1 hG (goodV gw1550 gw1552 gw92 gw138 gw1553) rfl rfl rfl hd_X9_triedBy ⟨(Nat.le_of_ble_eq_true rfl), (Nat.le_of_ble_eq_true rfl)⟩) ⟨fbR, va_recv hK hP (ci := 8) (q0 := 0) rfl rfl, pR_in hP hK⟩ rfl rfl hl.1 rfl (lv_room (Nat.le_of_ble_eq_true rfl)) dX9_swap_45 ⟨(Nat.le_of_ble_eq_true rfl), (Nat.le_of_ble_eq_true rfl)⟩) hS (fun q hq h => absurd hq (Nat.not_lt.mpr h)) (fun q h => hA q (Nat.le_trans hS.1 h)) (fun r_48 u_ t_ H47 locs ht hvm hw hB hz1 hk1 hS => ?_)
              subst hw
              have hP := wk hP hk1
              obtain ⟨f49, f50, f51⟩ := hB
              have f52 : r_48.toInt = (trb f_all x17.toInt (f_tunes (i_bank.toInt).toNat).toInt (6 - ((0 : Int32).toInt)).toNat ((0 : Int32).toInt)) := (ob_6 f51)
              refine lv_if_lt (tgt := 124) hx hb dX9_swap_48 (by decide) (fun c_53 => ?_) (fun c_53 => ?_)
              · skip
                have f54 : r_48.toInt < 0 := qi_lt c_53 rfl zc_0
                obtain ⟨x55, ex55⟩ : ∃ y : Int32, y = y13_2 + Int32.ofInt 1 := ⟨_, rfl⟩
                have f56 : x55.toInt = y13_2.toInt + 1 := (ob_142 (qi_add ex55 rfl (by decide) (ob_140 g13_0) (ob_1361 g13_1)))
                refine lv_iinc (v := x55) (lv' := [(2, .int x55), (4, .int x20), (3, .int x17), (0, .ref (r 0)), (1, .int p0)]) hx hb dX9_swap_124 hl (k := 4) rfl ex55.symm (by decide) rfl (fun ls hl => ?_)
                refine lv_goto (tgt := 13) hx hb dX9_swap_127 (by decide) ?_
                exact ih13 x55 m13_i_askHouse m13_i_askTune m13_J H47 _ _ (ob_149 g13_0 f56) (ob_1362 f16 f56) hP hD hS (lv_sub hl [3, 4, 0] rfl) (ob_1363 hM13 f56)
              · skip
                have f57 : 0 ≤ r_48.toInt := qi_nlt c_53 rfl zc_0
                refine lv_aload_n hx hb dX9_swap_51 rfl (lv_at hl 2 rfl) ?_
                refine lv_iload hx hb dX9_swap_52 (lv_at hl 0 rfl) ?_
                refine va_calli (va_runV (As := [.int x20]) (rest := []) ⟨hx, hb, hml, hown, hG⟩ (kX9_triedBy l dC dI r ct i_taped i_size i_faultKind i_at i_end i_token i_number i_bank i_rb i_codes i_within i_piled i_unitsInRule m13_i_askHouse m13_i_askTune i_acts i_undone i_laid i_knowns i_time f_text f_tunes f_houses f_hums f_told f_many f_ruleFrom f_ruleTo f_code f_eWhat f_eSign f_all f_kept f_was f_sTune f_boxAll m13_J L x20 H47.size hI) (cwV 1 hG (goodV gw1550 gw1552 gw92 gw138 gw1553) rfl rfl rfl hd_X9_triedBy ⟨(Nat.le_of_ble_eq_true rfl), (Nat.le_of_ble_eq_true rfl)⟩) ⟨fbR, va_recv hK hP (ci := 8) (q0 := 0) rfl rfl, pR_in hP hK⟩ rfl rfl hl.1 rfl (lv_room (Nat.le_of_ble_eq_true rfl)) dX9_swap_54 ⟨(Nat.le_of_ble_eq_true rfl), (Nat.le_of_ble_eq_true rfl)⟩) hS (fun q hq h => absurd hq (Nat.not_lt.mpr h)) (fun q h => hA q (Nat.le_trans hS.1 h)) (fun r_59 u_ t_ H58 locs ht hvm hw hB hz1 hk1 hS => ?_)
                subst hw
                have hP := wk hP hk1
                obtain ⟨f60, f61, f62⟩ := hB
                have f63 : r_59.toInt = (trb f_all x20.toInt (f_tunes (i_bank.toInt).toNat).toInt (6 - ((0 : Int32).toInt)).toNat ((0 : Int32).toInt)) := (ob_6 f62)
                refine lv_if_ge (tgt := 63) hx hb dX9_swap_57 (by decide) (fun c_64 => ?_) (fun c_64 => ?_)
                · skip
                  have f65 : 0 ≤ r_59.toInt := qi_le c_64 zc_0 rfl
                  refine lv_aload_n hx hb dX9_swap_63 rfl (lv_at hl 2 rfl) ?_
                  refine lv_iload_n hx hb dX9_swap_64 rfl (lv_at hl 1 rfl) ?_
                  refine lv_aload_n hx hb dX9_swap_65 rfl (lv_at hl 2 rfl) ?_
                  refine lv_iload hx hb dX9_swap_66 (lv_at hl 0 rfl) ?_
                  refine va_calli (va_runV (As := [.int x20]) (rest := [.int x17, .ref (r 0)]) ⟨hx, hb, hml, hown, hG⟩ (kX9_triedBy l dC dI r ct i_taped i_size i_faultKind i_at i_end i_token i_number i_bank i_rb i_codes i_within i_piled i_unitsInRule m13_i_askHouse m13_i_askTune i_acts i_undone i_laid i_knowns i_time f_text f_tunes f_houses f_hums f_told f_many f_ruleFrom f_ruleTo f_code f_eWhat f_eSign f_all f_kept f_was f_sTune f_boxAll m13_J L x20 H58.size hI) (cwV 1 hG (goodV gw1550 gw1552 gw92 gw138 gw1553) rfl rfl rfl hd_X9_triedBy ⟨(Nat.le_of_ble_eq_true rfl), (Nat.le_of_ble_eq_true rfl)⟩) ⟨fbR, va_recv hK hP (ci := 8) (q0 := 0) rfl rfl, pR_in hP hK⟩ rfl rfl hl.1 rfl (lv_room (Nat.le_of_ble_eq_true rfl)) dX9_swap_68 ⟨(Nat.le_of_ble_eq_true rfl), (Nat.le_of_ble_eq_true rfl)⟩) hS (fun q hq h => absurd hq (Nat.not_lt.mpr h)) (fun q h => hA q (Nat.le_trans hS.1 h)) (fun r_67 u_ t_ H66 locs ht hvm hw hB hz1 hk1 hS => ?_)
                  subst hw
                  have hP := wk hP hk1
                  obtain ⟨f68, f69, f70⟩ := hB
                  have f71 : r_67.toInt = (trb f_all x20.toInt (f_tunes (i_bank.toInt).toNat).toInt (6 - ((0 : Int32).toInt)).toNat ((0 : Int32).toInt)) := (ob_6 f70)
                  have hFc := frA hD hS hA
                  refine va_calli (va_runV (As := [.int x17, .int r_67]) (rest := []) ⟨hx, hb, hml, hown, hG⟩ (kX9_gladAnew l dC dI r ct i_taped i_size i_faultKind i_at i_end i_token i_number i_bank i_rb i_codes i_within i_piled i_unitsInRule m13_i_askHouse m13_i_askTune i_acts i_undone i_laid i_knowns i_time f_text f_tunes f_houses f_hums f_told f_many f_ruleFrom f_ruleTo f_code f_eWhat f_eSign f_all f_kept f_was f_sTune f_boxAll m13_J L x17 r_67 H66.size hI (ob_1366 f18 f19 f27) (ob_1367 f27 f44) (ob_1368 f65 f63 f71) (ob_1369 f61 f63 f71)) (cwV 2 hG (goodV gw1786 gw1788 gw119 gw138 gw1789) rfl rfl rfl hd_X9_gladAnew ⟨(Nat.le_of_ble_eq_true rfl), (Nat.le_of_ble_eq_true rfl)⟩) ⟨fbW, va_recv hK hP (ci := 8) (q0 := 0) rfl rfl, pW_in hP hK hD⟩ rfl rfl hl.1 rfl (lv_room (Nat.le_of_ble_eq_true rfl)) dX9_swap_71 ⟨(Nat.le_of_ble_eq_true rfl), (Nat.le_of_ble_eq_true rfl)⟩) hS (fun q _ h => hFc q h) hFc (fun r_73 u_ t_ H72 locs ht hvm hw hB hz1 hk1 hS => ?_)
                  subst hw
                  obtain ⟨x74, x75, J76, hP1, hD1, hI77⟩ := hB
                  rw [ht] at hP1
                  have hP := hP1
                  have hD := dW hFc hD1
                  obtain ⟨im78, im79, im80, im81, im82, im83, im84, im85, im86, im87, im88, im89, im90, im91, im92, im93, im94, im95, im96, im97, im98, im99, im100, im101, im102, im103, im104, im105, im106, im107, im108, im109, im110⟩ := id hI77
                  refine lv_aload_n hx hb dX9_swap_74 rfl (lv_at hl 2 rfl) ?_
                  refine lv_iload_n hx hb dX9_swap_75 rfl (lv_at hl 1 rfl) ?_
                  refine lv_aload_n hx hb dX9_swap_76 rfl (lv_at hl 2 rfl) ?_
                  refine lv_iload_n hx hb dX9_swap_77 rfl (lv_at hl 1 rfl) ?_
                  refine va_calli (va_runV (As := [.int x17]) (rest := [.int x17, .ref (r 0), .int r_73]) ⟨hx, hb, hml, hown, hG⟩ (kX9_triedBy l dC dI r ct i_taped i_size i_faultKind i_at i_end i_token i_number i_bank i_rb i_codes i_within i_piled i_unitsInRule x74 x75 i_acts i_undone i_laid i_knowns i_time f_text f_tunes f_houses f_hums f_told f_many f_ruleFrom f_ruleTo f_code f_eWhat f_eSign f_all f_kept f_was f_sTune f_boxAll J76 L x17 H72.size hI77) (cwV 1 hG (goodV gw1550 gw1552 gw92 gw138 gw1553) rfl rfl rfl hd_X9_triedBy ⟨(Nat.le_of_ble_eq_true rfl), (Nat.le_of_ble_eq_true rfl)⟩) ⟨fbR, va_recv hK hP (ci := 8) (q0 := 0) rfl rfl, pR_in hP hK⟩ rfl rfl hl.1 rfl (lv_room (Nat.le_of_ble_eq_true rfl)) dX9_swap_78 ⟨(Nat.le_of_ble_eq_true rfl), (Nat.le_of_ble_eq_true rfl)⟩) hS (fun q hq h => absurd hq (Nat.not_lt.mpr h)) (fun q h => hA q (Nat.le_trans hS.1 h)) (fun r_112 u_ t_ H111 locs ht hvm hw hB hz1 hk1 hS => ?_)
                  subst hw
                  have hP := wk hP hk1
                  obtain ⟨f113, f114, f115⟩ := hB
                  have f116 : r_112.toInt = (trb f_all x17.toInt (f_tunes (i_bank.toInt).toNat).toInt (6 - ((0 : Int32).toInt)).toNat ((0 : Int32).toInt)) := (ob_6 f115)
                  have hFc := frA hD hS hA
                  refine va_calli (va_runV (As := [.int x17, .int r_112]) (rest := [.int r_73]) ⟨hx, hb, hml, hown, hG⟩ (kX9_gladNow l dC dI r ct i_taped i_size i_faultKind i_at i_end i_token i_number i_bank i_rb i_codes i_within i_piled i_unitsInRule x74 x75 i_acts i_undone i_laid i_knowns i_time f_text f_tunes f_houses f_hums f_told f_many f_ruleFrom f_ruleTo f_code f_eWhat f_eSign f_all f_kept f_was f_sTune f_boxAll J76 L x17 r_112 H111.size hI77 (ob_1366 f18 f19 f27) (ob_1367 f27 f44) (ob_1368 f57 f52 f116) (ob_1369 f50 f52 f116)) (cwV 2 hG (goodV gw1562 gw1564 gw94 gw138 gw1565) rfl rfl rfl hd_X9_gladNow ⟨(Nat.le_of_ble_eq_true rfl), (Nat.le_of_ble_eq_true rfl)⟩) ⟨fbW, va_recv hK hP (ci := 8) (q0 := 0) rfl rfl, pW_in hP hK hD⟩ rfl rfl hl.1 rfl (lv_room (Nat.le_of_ble_eq_true rfl)) dX9_swap_81 ⟨(Nat.le_of_ble_eq_true rfl), (Nat.le_of_ble_eq_true rfl)⟩) hS (fun q _ h => hFc q h) hFc (fun r_118 u_ t_ H117 locs ht hvm hw hB hz1 hk1 hS => ?_)
                  subst hw
                  obtain ⟨x119, x120, J121, hP1, hD1, hI122⟩ := hB
                  rw [ht] at hP1
                  have hP := hP1
                  have hD := dW hFc hD1
                  obtain ⟨im123, im124, im125, im126, im127, im128, im129, im130, im131, im132, im133, im134, im135, im136, im137, im138, im139, im140, im141, im142, im143, im144, im145, im146, im147, im148, im149, im150, im151, im152, im153, im154, im155⟩ := id hI122
                  refine lv_icmp_le (tgt := 124) hx hb dX9_swap_84 (by decide) (fun c_156 => ?_) (fun c_156 => ?_)
                  · skip
                    have f157 : r_73.toInt ≤ r_118.toInt := qi_le c_156 rfl rfl
                    obtain ⟨x158, ex158⟩ : ∃ y : Int32, y = y13_2 + Int32.ofInt 1 := ⟨_, rfl⟩
                    have f159 : x158.toInt = y13_2.toInt + 1 := (ob_142 (qi_add ex158 rfl (by decide) (ob_140 g13_0) (ob_1361 g13_1)))
                    refine lv_iinc (v := x158) (lv' := [(2, .int x158), (4, .int x20), (3, .int x17), (0, .ref (r 0)), (1, .int p0)]) hx hb dX9_swap_124 hl (k := 4) rfl ex158.symm (by decide) rfl (fun ls hl => ?_)
                    refine lv_goto (tgt := 13) hx hb dX9_swap_127 (by decide) ?_
                    exact ih13 x158 x119 x120 J121 H117 _ _ (ob_149 g13_0 f159) (ob_1362 f16 f159) hP hD hS (lv_sub hl [3, 4, 0] rfl) (ob_1363 hM13 f159)
                  · skip
                    have f160 : r_118.toInt < r_73.toInt := qi_nle c_156 rfl rfl
                    refine lv_aload_n hx hb dX9_swap_87 rfl (lv_at hl 2 rfl) ?_
                    refine lv_iload hx hb dX9_swap_88 (lv_at hl 0 rfl) ?_
                    refine lv_aload_n hx hb dX9_swap_90 rfl (lv_at hl 2 rfl) ?_
                    refine lv_iload_n hx hb dX9_swap_91 rfl (lv_at hl 1 rfl) ?_
                    refine va_calli (va_runV (As := [.int x17]) (rest := [.int x20, .ref (r 0)]) ⟨hx, hb, hml, hown, hG⟩ (kX9_triedBy l dC dI r ct i_taped i_size i_faultKind i_at i_end i_token i_number i_bank i_rb i_codes i_within i_piled i_unitsInRule x119 x120 i_acts i_undone i_laid i_knowns i_time f_text f_tunes f_houses f_hums f_told f_many f_ruleFrom f_ruleTo f_code f_eWhat f_eSign f_all f_kept f_was f_sTune f_boxAll J121 L x17 H117.size hI122) (cwV 1 hG (goodV gw1550 gw1552 gw92 gw138 gw1553) rfl rfl rfl hd_X9_triedBy ⟨(Nat.le_of_ble_eq_true rfl), (Nat.le_of_ble_eq_true rfl)⟩) ⟨fbR, va_recv hK hP (ci := 8) (q0 := 0) rfl rfl, pR_in hP hK⟩ rfl rfl hl.1 rfl (lv_room (Nat.le_of_ble_eq_true rfl)) dX9_swap_92 ⟨(Nat.le_of_ble_eq_true rfl), (Nat.le_of_ble_eq_true rfl)⟩) hS (fun q hq h => absurd hq (Nat.not_lt.mpr h)) (fun q h => hA q (Nat.le_trans hS.1 h)) (fun r_162 u_ t_ H161 locs ht hvm hw hB hz1 hk1 hS => ?_)
                    subst hw
                    have hP := wk hP hk1
                    obtain ⟨f163, f164, f165⟩ := hB
                    have f166 : r_162.toInt = (trb f_all x17.toInt (f_tunes (i_bank.toInt).toNat).toInt (6 - ((0 : Int32).toInt)).toNat ((0 : Int32).toInt)) := (ob_6 f165)
                    have hFc := frA hD hS hA
                    refine va_calli (va_runV (As := [.int x20, .int r_162]) (rest := []) ⟨hx, hb, hml, hown, hG⟩ (kX9_gladAnew l dC dI r ct i_taped i_size i_faultKind i_at i_end i_token i_number i_bank i_rb i_codes i_within i_piled i_unitsInRule x119 x120 i_acts i_undone i_laid i_knowns i_time f_text f_tunes f_houses f_hums f_told f_many f_ruleFrom f_ruleTo f_code f_eWhat f_eSign f_all f_kept f_was f_sTune f_boxAll J121 L x20 r_162 H161.size hI122 (ob_1370 f21) (ob_1060 f44) (ob_1368 f57 f52 f166) (ob_1369 f50 f52 f166)) (cwV 2 hG (goodV gw1786 gw1788 gw119 gw138 gw1789) rfl rfl rfl hd_X9_gladAnew ⟨(Nat.le_of_ble_eq_true rfl), (Nat.le_of_ble_eq_true rfl)⟩) ⟨fbW, va_recv hK hP (ci := 8) (q0 := 0) rfl rfl, pW_in hP hK hD⟩ rfl rfl hl.1 rfl (lv_room (Nat.le_of_ble_eq_true rfl)) dX9_swap_95 ⟨(Nat.le_of_ble_eq_true rfl), (Nat.le_of_ble_eq_true rfl)⟩) hS (fun q _ h => hFc q h) hFc (fun r_168 u_ t_ H167 locs ht hvm hw hB hz1 hk1 hS => ?_)
                    subst hw
                    obtain ⟨x169, x170, J171, hP1, hD1, hI172⟩ := hB
                    rw [ht] at hP1
                    have hP := hP1
                    have hD := dW hFc hD1
                    obtain ⟨im173, im174, im175, im176, im177, im178, im179, im180, im181, im182, im183, im184, im185, im186, im187, im188, im189, im190, im191, im192, im193, im194, im195, im196, im197, im198, im199, im200, im201, im202, im203, im204, im205⟩ := id hI172
                    refine lv_aload_n hx hb dX9_swap_98 rfl (lv_at hl 2 rfl) ?_
                    refine lv_iload hx hb dX9_swap_99 (lv_at hl 0 rfl) ?_
                    refine lv_aload_n hx hb dX9_swap_101 rfl (lv_at hl 2 rfl) ?_
                    refine lv_iload hx hb dX9_swap_102 (lv_at hl 0 rfl) ?_
                    refine va_calli (va_runV (As := [.int x20]) (rest := [.int x20, .ref (r 0), .int r_168]) ⟨hx, hb, hml, hown, hG⟩ (kX9_triedBy l dC dI r ct i_taped i_size i_faultKind i_at i_end i_token i_number i_bank i_rb i_codes i_within i_piled i_unitsInRule x169 x170 i_acts i_undone i_laid i_knowns i_time f_text f_tunes f_houses f_hums f_told f_many f_ruleFrom f_ruleTo f_code f_eWhat f_eSign f_all f_kept f_was f_sTune f_boxAll J171 L x20 H167.size hI172) (cwV 1 hG (goodV gw1550 gw1552 gw92 gw138 gw1553) rfl rfl rfl hd_X9_triedBy ⟨(Nat.le_of_ble_eq_true rfl), (Nat.le_of_ble_eq_true rfl)⟩) ⟨fbR, va_recv hK hP (ci := 8) (q0 := 0) rfl rfl, pR_in hP hK⟩ rfl rfl hl.1 rfl (lv_room (Nat.le_of_ble_eq_true rfl)) dX9_swap_104 ⟨(Nat.le_of_ble_eq_true rfl), (Nat.le_of_ble_eq_true rfl)⟩) hS (fun q hq h => absurd hq (Nat.not_lt.mpr h)) (fun q h => hA q (Nat.le_trans hS.1 h)) (fun r_207 u_ t_ H206 locs ht hvm hw hB hz1 hk1 hS => ?_)
                    subst hw
                    have hP := wk hP hk1
                    obtain ⟨f208, f209, f210⟩ := hB
                    have f211 : r_207.toInt = (trb f_all x20.toInt (f_tunes (i_bank.toInt).toNat).toInt (6 - ((0 : Int32).toInt)).toNat ((0 : Int32).toInt)) := (ob_6 f210)
                    have hFc := frA hD hS hA
                    refine va_calli (va_runV (As := [.int x20, .int r_207]) (rest := [.int r_168]) ⟨hx, hb, hml, hown, hG⟩ (kX9_gladNow l dC dI r ct i_taped i_size i_faultKind i_at i_end i_token i_number i_bank i_rb i_codes i_within i_piled i_unitsInRule x169 x170 i_acts i_undone i_laid i_knowns i_time f_text f_tunes f_houses f_hums f_told f_many f_ruleFrom f_ruleTo f_code f_eWhat f_eSign f_all f_kept f_was f_sTune f_boxAll J171 L x20 r_207 H206.size hI172 (ob_1370 f21) (ob_1060 f44) (ob_1368 f65 f63 f211) (ob_1369 f61 f63 f211)) (cwV 2 hG (goodV gw1562 gw1564 gw94 gw138 gw1565) rfl rfl rfl hd_X9_gladNow ⟨(Nat.le_of_ble_eq_true rfl), (Nat.le_of_ble_eq_true rfl)⟩) ⟨fbW, va_recv hK hP (ci := 8) (q0 := 0) rfl rfl, pW_in hP hK hD⟩ rfl rfl hl.1 rfl (lv_room (Nat.le_of_ble_eq_true rfl)) dX9_swap_107 ⟨(Nat.le_of_ble_eq_true rfl), (Nat.le_of_ble_eq_true rfl)⟩) hS (fun q _ h => hFc q h) hFc (fun r_213 u_ t_ H212 locs ht hvm hw hB hz1 hk1 hS => ?_)
                    subst hw
                    obtain ⟨x214, x215, J216, hP1, hD1, hI217⟩ := hB
                    rw [ht] at hP1
                    have hP := hP1
                    have hD := dW hFc hD1
                    obtain ⟨im218, im219, im220, im221, im222, im223, im224, im225, im226, im227, im228, im229, im230, im231, im232, im233, im234, im235, im236, im237, im238, im239, im240, im241, im242, im243, im244, im245, im246, im247, im248, im249, im250⟩ := id hI217
                    refine lv_icmp_le (tgt := 124) hx hb dX9_swap_110 (by decide) (fun c_251 => ?_) (fun c_251 => ?_)
                    · skip
                      have f252 : r_168.toInt ≤ r_213.toInt := qi_le c_251 rfl rfl
                      obtain ⟨x253, ex253⟩ : ∃ y : Int32, y = y13_2 + Int32.ofInt 1 := ⟨_, rfl⟩
                      have f254 : x253.toInt = y13_2.toInt + 1 := (ob_142 (qi_add ex253 rfl (by decide) (ob_140 g13_0) (ob_1361 g13_1)))
                      refine lv_iinc (v := x253) (lv' := [(2, .int x253), (4, .int x20), (3, .int x17), (0, .ref (r 0)), (1, .int p0)]) hx hb dX9_swap_124 hl (k := 4) rfl ex253.symm (by decide) rfl (fun ls hl => ?_)
                      refine lv_goto (tgt := 13) hx hb dX9_swap_127 (by decide) ?_
                      exact ih13 x253 x214 x215 J216 H212 _ _ (ob_149 g13_0 f254) (ob_1362 f16 f254) hP hD hS (lv_sub hl [3, 4, 0] rfl) (ob_1363 hM13 f254)
                    · skip
                      have f255 : r_213.toInt < r_168.toInt := qi_nle c_251 rfl rfl
                      refine lv_iload_n hx hb dX9_swap_113 rfl (lv_at hl 3 rfl) ?_
                      refine lv_if_ne (tgt := 121) hx hb dX9_swap_114 (by decide) (fun c_256 => ?_) (fun c_256 => ?_)
                      · skip
                        have f257 : p0.toInt ≠ 0 := qi_ne c_256 rfl zc_0
                        have f258 : (1 : Int) ≤ p0.toInt := (ob_22 f10 f257)
                        refine lv_iload hx hb dX9_swap_121 (lv_at hl 0 rfl) ?_
                        rw [hQ]
                        exact W.iret (v := x20) hx hb hr (fun t ht hW => ⟨⟨x20, x20, rfl, rfl, ⟨x214, x215, J216, by rw [ht]; exact hP, hD, hI217⟩⟩, hS.F ht⟩) hS.2.2 dX9_swap_123
                      · skip
                        have f259 : p0.toInt = 0 := qi_eq c_256 rfl zc_0
                        refine lv_iload_n hx hb dX9_swap_117 rfl (lv_at hl 1 rfl) ?_
                        refine lv_goto (tgt := 123) hx hb dX9_swap_118 (by decide) ?_
                        rw [hQ]
                        exact W.iret (v := x17) hx hb hr (fun t ht hW => ⟨⟨x17, x17, rfl, rfl, ⟨x214, x215, J216, by rw [ht]; exact hP, hD, hI217⟩⟩, hS.F ht⟩) hS.2.2 dX9_swap_123
                · skip
                  have f260 : r_59.toInt < 0 := qi_nle c_64 zc_0 rfl
                  refine lv_goto (tgt := 124) hx hb dX9_swap_60 (by decide) ?_
                  obtain ⟨x261, ex261⟩ : ∃ y : Int32, y = y13_2 + Int32.ofInt 1 := ⟨_, rfl⟩
                  have f262 : x261.toInt = y13_2.toInt + 1 := (ob_142 (qi_add ex261 rfl (by decide) (ob_140 g13_0) (ob_1361 g13_1)))
                  refine lv_iinc (v := x261) (lv' := [(2, .int x261), (4, .int x20), (3, .int x17), (0, .ref (r 0)), (1, .int p0)]) hx hb dX9_swap_124 hl (k := 4) rfl ex261.symm (by decide) rfl (fun ls hl => ?_)
                  refine lv_goto (tgt := 13) hx hb dX9_swap_127 (by decide) ?_
                  exact ih13 x261 m13_i_askHouse m13_i_askTune m13_J H58 _ _ (ob_149 g13_0 f262) (ob_1362 f16 f262) hP hD hS (lv_sub hl [3, 4, 0] rfl) (ob_1363 hM13 f262)
    exact L13 (-1 * (0 : Int32).toInt + 16 + 1).toNat 0 i_askHouse i_askTune J H3 _ _ (ob_1 zc_0) (ob_1371 zc_0) hP hD hS (lv_sub hl [1, 2, 0] rfl) (mlt (ob_1372 zc_0))
  · skip
    have f263 : r_4.toInt = 0 := qi_eq c_8 rfl zc_0
    refine lv_iconst (v := (-1)) hx hb dX9_swap_9 (by decide) ?_
    rw [hQ]
    exact W.iret (v := (-1)) hx hb hr (fun t ht hW => ⟨⟨(-1), (-1), rfl, rfl, ⟨i_askHouse, i_askTune, J, by rw [ht]; exact hP, hD, hI⟩⟩, hS.F ht⟩) hS.2.2 dX9_swap_10
set_option maxHeartbeats 4000000 in
set_option maxRecDepth 100000 in
theorem kX9_sale (l : Launch) (dC : Nat → ClassId) (dI : Nat → Nat → Nat) (r : Nat → Nat) (ct : Nat → ClassId) (i_taped i_size i_faultKind i_at i_end i_token i_number i_bank i_rb i_codes i_within i_piled i_unitsInRule i_askHouse i_askTune i_acts i_undone i_laid i_knowns i_time : Int32) (f_text f_tunes f_houses f_hums f_told f_many f_ruleFrom f_ruleTo f_code f_eWhat f_eSign f_all f_kept f_was f_sTune f_boxAll : Nat → Int32) (J : Nat → Nat → Int32) (L : Nat → Nat → Int64) (p0 p1 : Int32) (sz : Nat) (hI : (IM i_taped i_size i_faultKind i_at i_end i_bank i_rb i_acts i_undone i_laid i_knowns i_time f_tunes f_houses f_hums f_told f_many f_ruleFrom f_ruleTo f_code f_all f_kept f_was f_sTune f_boxAll)) : Met l yX9_sale (.code yX9_sale cX9_sale 9 (some .int) :: GW) { frames := 22, cells := 0, slots := 0, locals := 729 } (va_Pc [.ref (r 0), .int p0, .int p1] (pW (dC, dI) (WM r ct i_taped i_size i_faultKind i_at i_end i_token i_number i_bank i_rb i_codes i_within i_piled i_unitsInRule i_askHouse i_askTune i_acts i_undone i_laid i_knowns i_time f_text f_tunes f_houses f_hums f_told f_many f_ruleFrom f_ruleTo f_code f_eWhat f_eSign f_all f_kept f_was f_sTune f_boxAll J L) (TM ct) sz)) (va_Qi (fun (r0 : Int32) (u : Int32) => r0 = u) (fun (u : Int32) (t : State) => ∃ (n_i_askHouse n_i_askTune : Int32) (n_J : Nat → Nat → Int32), va_P (dC, dI) vwCl (WM r ct i_taped i_size i_faultKind i_at i_end i_token i_number i_bank i_rb i_codes i_within i_piled i_unitsInRule n_i_askHouse n_i_askTune i_acts i_undone i_laid i_knowns i_time f_text f_tunes f_houses f_hums f_told f_many f_ruleFrom f_ruleTo f_code f_eWhat f_eSign f_all f_kept f_was f_sTune f_boxAll n_J L) t.heap ∧ va_D (va_A (WM r ct i_taped i_size i_faultKind i_at i_end i_token i_number i_bank i_rb i_codes i_within i_piled i_unitsInRule i_askHouse i_askTune i_acts i_undone i_laid i_knowns i_time f_text f_tunes f_houses f_hums f_told f_many f_ruleFrom f_ruleTo f_code f_eWhat f_eSign f_all f_kept f_was f_sTune f_boxAll J L) sz) (WM r ct i_taped i_size i_faultKind i_at i_end i_token i_number i_bank i_rb i_codes i_within i_piled i_unitsInRule n_i_askHouse n_i_askTune i_acts i_undone i_laid i_knowns i_time f_text f_tunes f_houses f_hums f_told f_many f_ruleFrom f_ruleTo f_code f_eWhat f_eSign f_all f_kept f_was f_sTune f_boxAll n_J L) ∧ (IM i_taped i_size i_faultKind i_at i_end i_bank i_rb i_acts i_undone i_laid i_knowns i_time f_tunes f_houses f_hums f_told f_many f_ruleFrom f_ruleTo f_code f_all f_kept f_was f_sTune f_boxAll)) (va_A (WM r ct i_taped i_size i_faultKind i_at i_end i_token i_number i_bank i_rb i_codes i_within i_piled i_unitsInRule i_askHouse i_askTune i_acts i_undone i_laid i_knowns i_time f_text f_tunes f_houses f_hums f_told f_many f_ruleFrom f_ruleTo f_code f_eWhat f_eSign f_all f_kept f_was f_sTune f_boxAll J L) sz)) 0 0 (va_A (WM r ct i_taped i_size i_faultKind i_at i_end i_token i_number i_bank i_rb i_codes i_within i_piled i_unitsInRule i_askHouse i_askTune i_acts i_undone i_laid i_knowns i_time f_text f_tunes f_houses f_hums f_told f_many f_ruleFrom f_ruleTo f_code f_eWhat f_eSign f_all f_kept f_was f_sTune f_boxAll J L) sz) := by
  refine Met.ofW (cc := cX9_sale) (maxL := 9) (ret := (some .int)) (by decide) rfl ?_
  intro p e s m args below meth c0 s₁ B hml hv
  obtain ⟨rfl, hsz, hP, hK, hD0⟩ := hv
  have hx := B.exec
  have hb := B.bytes
  have hr := B.returns
  have hts := atoms_spec (ws := .code yX9_sale cX9_sale 9 (some .int) :: GW) B.pre
  have hG : ∀ w ∈ GW, w.before _ s = true := fun w h => hts w (List.mem_cons_of_mem _ h)
  have hown : s.vm.findClass RX9 = some m.cls := findClass_of_methodNamed B.named
  subst hsz
  have hD := hD0.self (sz := s.heap.size)
  generalize hAe : va_A (WM r ct i_taped i_size i_faultKind i_at i_end i_token i_number i_bank i_rb i_codes i_within i_piled i_unitsInRule i_askHouse i_askTune i_acts i_undone i_laid i_knowns i_time f_text f_tunes f_houses f_hums f_told f_many f_ruleFrom f_ruleTo f_code f_eWhat f_eSign f_all f_kept f_was f_sTune f_boxAll J L) s.heap.size = A at hD ⊢
  have hA : ∀ q : Nat, s.heap.size ≤ q → A q := fun q h => by rw [← hAe]; exact Or.inr h
  have hS : va_S A s.heap s.heap [] := va_S.rf
  have hP : va_P (dC, dI) vwCl (WM r ct i_taped i_size i_faultKind i_at i_end i_token i_number i_bank i_rb i_codes i_within i_piled i_unitsInRule i_askHouse i_askTune i_acts i_undone i_laid i_knowns i_time f_text f_tunes f_houses f_hums f_told f_many f_ruleFrom f_ruleTo f_code f_eWhat f_eSign f_all f_kept f_was f_sTune f_boxAll J L) s.heap := hP
  have hl := lv_entry ([.ref (r 0), .int p0, .int p1]) (n := 9) (Nat.le_of_ble_eq_true rfl)
  rw [lg_entry_eq]
  generalize (lg_sl ([.ref (r 0), .int p0, .int p1]) ++ List.replicate (9 - (lg_sl ([.ref (r 0), .int p0, .int p1])).length) Slot.unset).toArray = ls at hl ⊢
  have hl : lv_has ls 9 [(0, .ref (r 0)), (1, .int p0), (2, .int p1)] := hl
  refine nameQ (fun Q hQ => ?_)
  obtain ⟨ie0, ie1, ie2, ie3, ie4, ie5, ie6, ie7, ie8, ie9, ie10, ie11, ie12, ie13, ie14, ie15, ie16, ie17, ie18, ie19, ie20, ie21, ie22, ie23, ie24, ie25, ie26, ie27, ie28, ie29, ie30, ie31, ie32⟩ := id hI
  have f1 : 0 ≤ (f_tunes (i_bank.toInt).toNat).toInt ∧ (f_tunes (i_bank.toInt).toNat).toInt ≤ 5 := ie21 (i_bank.toInt)
  have f2 : 0 ≤ (f_houses (i_bank.toInt).toNat).toInt ∧ (f_houses (i_bank.toInt).toNat).toInt ≤ 4 := ie22 (i_bank.toInt)
  refine lv_aload_n hx hb dX9_sale_0 rfl (lv_at hl 0 rfl) ?_
  refine lv_iload_n hx hb dX9_sale_1 rfl (lv_at hl 1 rfl) ?_
  refine va_calli (va_runV (As := [.int p0]) (rest := []) ⟨hx, hb, hml, hown, hG⟩ (kX9_isHouse l dC dI r ct i_taped i_size i_faultKind i_at i_end i_token i_number i_bank i_rb i_codes i_within i_piled i_unitsInRule i_askHouse i_askTune i_acts i_undone i_laid i_knowns i_time f_text f_tunes f_houses f_hums f_told f_many f_ruleFrom f_ruleTo f_code f_eWhat f_eSign f_all f_kept f_was f_sTune f_boxAll J L p0 s.heap.size hI) (cwV 1 hG (goodV gw1542 gw1544 gw90 gw138 gw1545) rfl rfl rfl hd_X9_isHouse ⟨(Nat.le_of_ble_eq_true rfl), (Nat.le_of_ble_eq_true rfl)⟩) ⟨fbR, va_recv hK hP (ci := 8) (q0 := 0) rfl rfl, pR_in hP hK⟩ rfl rfl hl.1 rfl (lv_room (Nat.le_of_ble_eq_true rfl)) dX9_sale_2 ⟨(Nat.le_of_ble_eq_true rfl), (Nat.le_of_ble_eq_true rfl)⟩) hS (fun q hq h => absurd hq (Nat.not_lt.mpr h)) (fun q h => hA q (Nat.le_trans hS.1 h)) (fun r_4 u_ t_ H3 locs ht hvm hw hB hz1 hk1 hS => ?_)
  subst hw
  have hP := wk hP hk1
  obtain ⟨f5, f6, f7, f8, f9⟩ := hB
  refine lv_if_eq (tgt := 17) hx hb dX9_sale_5 (by decide) (fun c_10 => ?_) (fun c_10 => ?_)
  · skip
    have f11 : r_4.toInt = 0 := qi_eq c_10 rfl zc_0
    refine lv_iconst (v := (-1)) hx hb dX9_sale_17 (by decide) ?_
    rw [hQ]
    exact W.iret (v := (-1)) hx hb hr (fun t ht hW => ⟨⟨(-1), (-1), rfl, rfl, ⟨i_askHouse, i_askTune, J, by rw [ht]; exact hP, hD, hI⟩⟩, hS.F ht⟩) hS.2.2 dX9_sale_18
  · skip
    have f12 : r_4.toInt ≠ 0 := qi_ne c_10 rfl zc_0
    have f13 : (0 : Int) ≤ p0.toInt := (ob_1090 f5 f12)
    have f14 : p0.toInt + 1 ≤ (f_houses (i_bank.toInt).toNat).toInt := (ob_1091 f5 f12)
    have f15 : r_4.toInt = (1 : Int) := (ob_1092 f5 f12)
    have f16 : (1 : Int) ≤ r_4.toInt := (ob_395 f15)
    refine lv_iload_n hx hb dX9_sale_8 rfl (lv_at hl 2 rfl) ?_
    refine lv_iconst (v := 0) hx hb dX9_sale_9 (by decide) ?_
    refine lv_iconst (v := 1) hx hb dX9_sale_10 (by decide) ?_
    refine va_calli (va_runS (As := [.int p1, .int 0, .int 1]) (rest := []) ⟨hx, hb, hml, hown, hG⟩ (kX9_isIn l dC dI p1 0 1 H3.size) (va_cwS 3 hG (goodS gw1516 gw1517 gw138 gw1518) rfl rfl rfl hd_X9_isIn ⟨(Nat.le_of_ble_eq_true rfl), (Nat.le_of_ble_eq_true rfl)⟩) ⟨fbR, pR_in emptyP (emptyK hK)⟩ rfl rfl hl.1 rfl (lv_room (Nat.le_of_ble_eq_true rfl)) dX9_sale_11 ⟨(Nat.le_of_ble_eq_true rfl), (Nat.le_of_ble_eq_true rfl)⟩) hS (fun q hq h => absurd hq (Nat.not_lt.mpr h)) (fun q h => hA q (Nat.le_trans hS.1 h)) (fun r_18 u_ t_ H17 locs ht hvm hw hB hz1 hk1 hS => ?_)
    subst hw
    have hP := wk hP hk1
    obtain ⟨f19, f20, f21⟩ := hB
    refine lv_if_ne (tgt := 19) hx hb dX9_sale_14 (by decide) (fun c_22 => ?_) (fun c_22 => ?_)
    · skip
      have f23 : r_18.toInt ≠ 0 := qi_ne c_22 rfl zc_0
      have f24 : (0 : Int) ≤ p1.toInt := (ob_1129 f19 f23 zc_1 zc_0)
      have f25 : p1.toInt ≤ (1 : Int) := (ob_1130 f19 f23 zc_1 zc_0)
      have f26 : r_18.toInt = (1 : Int) := (ob_1131 f19 f23 zc_1 zc_0)
      have f27 : (1 : Int) ≤ r_18.toInt := (ob_162 f20 f21 f26)
      refine lv_iconst (v := 0) hx hb dX9_sale_19 (by decide) ?_
      refine lv_istore_n (lv' := [(3, .int 0), (0, .ref (r 0)), (1, .int p0), (2, .int p1)]) hx hb dX9_sale_20 rfl hl (by decide) rfl (fun ls hl => ?_)
      refine lv_iconst (v := 0) hx hb dX9_sale_21 (by decide) ?_
      refine lv_istore (lv' := [(4, .int 0), (3, .int 0), (0, .ref (r 0)), (1, .int p0), (2, .int p1)]) hx hb dX9_sale_22 hl (by decide) rfl (fun ls hl => ?_)
      refine lv_iconst (v := 1) hx hb dX9_sale_24 (by decide) ?_
      refine lv_istore (lv' := [(5, .int 1), (4, .int 0), (3, .int 0), (0, .ref (r 0)), (1, .int p0), (2, .int p1)]) hx hb dX9_sale_25 hl (by decide) rfl (fun ls hl => ?_)
      have L27 : ∀ (N27 : Nat) (y27_3 y27_4 y27_5 : Int32) (m27_i_askHouse m27_i_askTune : Int32) (m27_J : Nat → Nat → Int32) (H27 : Heap) (locs : List Loc) (ls : Array Slot) (g27_0 : (0 : Int) ≤ y27_3.toInt) (g27_1 : (0 : Int) ≤ y27_4.toInt) (g27_2 : (1 : Int) ≤ y27_5.toInt) (g27_3 : y27_5.toInt ≤ (2147483647 : Int)) (hP : va_P (dC, dI) vwCl (WM r ct i_taped i_size i_faultKind i_at i_end i_token i_number i_bank i_rb i_codes i_within i_piled i_unitsInRule m27_i_askHouse m27_i_askTune i_acts i_undone i_laid i_knowns i_time f_text f_tunes f_houses f_hums f_told f_many f_ruleFrom f_ruleTo f_code f_eWhat f_eSign f_all f_kept f_was f_sTune f_boxAll m27_J L) H27) (hD : va_D A (WM r ct i_taped i_size i_faultKind i_at i_end i_token i_number i_bank i_rb i_codes i_within i_piled i_unitsInRule m27_i_askHouse m27_i_askTune i_acts i_undone i_laid i_knowns i_time f_text f_tunes f_houses f_hums f_told f_many f_ruleFrom f_ruleTo f_code f_eWhat f_eSign f_all f_kept f_was f_sTune f_boxAll m27_J L)) (hS : va_S A s.heap H27 locs) (hl : lv_has ls 9 [(0, .ref (r 0)), (1, .int p0), (2, .int p1), (3, .int y27_3), (4, .int y27_4), (5, .int y27_5)]) (hM : -1 * y27_5.toInt + 2147483647 < (N27 : Int)), W p l e { frames := 22, cells := 0, slots := 0, locals := 729 } s m ([.ref (r 0), .int p0, .int p1] : List Value).toArray below meth c0 H27 locs 0 0 Q (F0 m 27 ls []) := by
        intro N27
        induction N27 with
        | zero =>
          intro y27_3 y27_4 y27_5 m27_i_askHouse m27_i_askTune m27_J H27 locs ls g27_0 g27_1 g27_2 g27_3 hP hD hS hl hM
          exact ((ob_1373 hM g27_2 g27_3)).elim
        | succ N27 ih27 =>
          intro y27_3 y27_4 y27_5 m27_i_askHouse m27_i_askTune m27_J H27 locs ls g27_0 g27_1 g27_2 g27_3 hP hD hS hl hM
          have hM27 := msucc hM
          refine lv_iload hx hb dX9_sale_27 (lv_at hl 5 rfl) ?_
          refine lv_iconst (v := 1) hx hb dX9_sale_29 (by decide) ?_
          refine lv_aload_n hx hb dX9_sale_30 rfl (lv_at hl 0 rfl) ?_
          refine va_calli (va_runV (As := []) (rest := [.int 1, .int y27_5]) ⟨hx, hb, hml, hown, hG⟩ (kX9_songs l dC dI r ct i_taped i_size i_faultKind i_at i_end i_token i_number i_bank i_rb i_codes i_within i_piled i_unitsInRule m27_i_askHouse m27_i_askTune i_acts i_undone i_laid i_knowns i_time f_text f_tunes f_houses f_hums f_told f_many f_ruleFrom f_ruleTo f_code f_eWhat f_eSign f_all f_kept f_was f_sTune f_boxAll m27_J L H27.size hI) (cwV 0 hG (goodV gw1512 gw1514 gw86 gw138 gw1515) rfl rfl rfl hd_X9_songs ⟨(Nat.le_of_ble_eq_true rfl), (Nat.le_of_ble_eq_true rfl)⟩) ⟨fbR, va_recv hK hP (ci := 8) (q0 := 0) rfl rfl, pR_in hP hK⟩ rfl rfl hl.1 rfl (lv_room (Nat.le_of_ble_eq_true rfl)) dX9_sale_31 ⟨(Nat.le_of_ble_eq_true rfl), (Nat.le_of_ble_eq_true rfl)⟩) hS (fun q hq h => absurd hq (Nat.not_lt.mpr h)) (fun q h => hA q (Nat.le_trans hS.1 h)) (fun r_29 u_ t_ H28 locs ht hvm hw hB hz1 hk1 hS => ?_)
          subst hw
          have hP := wk hP hk1
          have f30 := hB
          have f31 : r_29.toInt = (f_tunes (i_bank.toInt).toNat).toInt := (ob_6 f30)
          refine lv_ishl hx hb dX9_sale_34 ?_
          refine lv_topi (fun x32 ex32 => ?_)
          refine lv_icmp_ge (tgt := 178) hx hb dX9_sale_35 (by decide) (fun c_33 => ?_) (fun c_33 => ?_)
          · skip
            have f34 : x32.toInt ≤ y27_5.toInt := qi_le c_33 rfl rfl
            refine lv_iload_n hx hb dX9_sale_178 rfl (lv_at hl 2 rfl) ?_
            refine lv_if_ne (tgt := 187) hx hb dX9_sale_179 (by decide) (fun c_35 => ?_) (fun c_35 => ?_)
            · skip
              have f36 : p1.toInt ≠ 0 := qi_ne c_35 rfl zc_0
              have f37 : (1 : Int) ≤ p1.toInt := (ob_22 f24 f36)
              refine lv_iload_n hx hb dX9_sale_187 rfl (lv_at hl 3 rfl) ?_
              rw [hQ]
              exact W.iret (v := y27_3) hx hb hr (fun t ht hW => ⟨⟨y27_3, y27_3, rfl, rfl, ⟨m27_i_askHouse, m27_i_askTune, m27_J, by rw [ht]; exact hP, hD, hI⟩⟩, hS.F ht⟩) hS.2.2 dX9_sale_188
            · skip
              have f38 : p1.toInt = 0 := qi_eq c_35 rfl zc_0
              refine lv_iload hx hb dX9_sale_182 (lv_at hl 4 rfl) ?_
              refine lv_goto (tgt := 188) hx hb dX9_sale_184 (by decide) ?_
              rw [hQ]
              exact W.iret (v := y27_4) hx hb hr (fun t ht hW => ⟨⟨y27_4, y27_4, rfl, rfl, ⟨m27_i_askHouse, m27_i_askTune, m27_J, by rw [ht]; exact hP, hD, hI⟩⟩, hS.F ht⟩) hS.2.2 dX9_sale_188
          · skip
            have f39 : y27_5.toInt < x32.toInt := qi_nle c_33 rfl rfl
            refine lv_iconst (v := 0) hx hb dX9_sale_38 (by decide) ?_
            refine lv_istore (lv' := [(6, .int 0), (0, .ref (r 0)), (1, .int p0), (2, .int p1), (3, .int y27_3), (4, .int y27_4), (5, .int y27_5)]) hx hb dX9_sale_39 hl (by decide) rfl (fun ls hl => ?_)
            refine lv_iconst (v := 1) hx hb dX9_sale_41 (by decide) ?_
            refine lv_istore (lv' := [(7, .int 1), (6, .int 0), (0, .ref (r 0)), (1, .int p0), (2, .int p1), (3, .int y27_3), (4, .int y27_4), (5, .int y27_5)]) hx hb dX9_sale_42 hl (by decide) rfl (fun ls hl => ?_)
            refine lv_iconst (v := 0) hx hb dX9_sale_44 (by decide) ?_
            refine lv_istore (lv' := [(8, .int 0), (7, .int 1), (6, .int 0), (0, .ref (r 0)), (1, .int p0), (2, .int p1), (3, .int y27_3), (4, .int y27_4), (5, .int y27_5)]) hx hb dX9_sale_45 hl (by decide) rfl (fun ls hl => ?_)
            have L47 : ∀ (N47 : Nat) (y47_6 y47_7 y47_8 : Int32) (m47_i_askHouse m47_i_askTune : Int32) (m47_J : Nat → Nat → Int32) (H47 : Heap) (locs : List Loc) (ls : Array Slot) (g47_0 : (0 : Int) ≤ y47_7.toInt + 1048576) (g47_1 : y47_7.toInt ≤ (1 : Int)) (g47_2 : (0 : Int) ≤ y47_8.toInt) (g47_3 : y47_8.toInt ≤ (5 : Int)) (hP : va_P (dC, dI) vwCl (WM r ct i_taped i_size i_faultKind i_at i_end i_token i_number i_bank i_rb i_codes i_within i_piled i_unitsInRule m47_i_askHouse m47_i_askTune i_acts i_undone i_laid i_knowns i_time f_text f_tunes f_houses f_hums f_told f_many f_ruleFrom f_ruleTo f_code f_eWhat f_eSign f_all f_kept f_was f_sTune f_boxAll m47_J L) H47) (hD : va_D A (WM r ct i_taped i_size i_faultKind i_at i_end i_token i_number i_bank i_rb i_codes i_within i_piled i_unitsInRule m47_i_askHouse m47_i_askTune i_acts i_undone i_laid i_knowns i_time f_text f_tunes f_houses f_hums f_told f_many f_ruleFrom f_ruleTo f_code f_eWhat f_eSign f_all f_kept f_was f_sTune f_boxAll m47_J L)) (hS : va_S A s.heap H47 locs) (hl : lv_has ls 9 [(0, .ref (r 0)), (1, .int p0), (2, .int p1), (3, .int y27_3), (4, .int y27_4), (5, .int y27_5), (6, .int y47_6), (7, .int y47_7), (8, .int y47_8)]) (hM : -1 * y47_8.toInt + 5 < (N47 : Int)), W p l e { frames := 22, cells := 0, slots := 0, locals := 729 } s m ([.ref (r 0), .int p0, .int p1] : List Value).toArray below meth c0 H47 locs 0 0 Q (F0 m 47 ls []) := by
              intro N47
              induction N47 with
              | zero =>
                intro y47_6 y47_7 y47_8 m47_i_askHouse m47_i_askTune m47_J H47 locs ls g47_0 g47_1 g47_2 g47_3 hP hD hS hl hM
                exact ((ob_777 hM g47_2 g47_3)).elim
              | succ N47 ih47 =>
                intro y47_6 y47_7 y47_8 m47_i_askHouse m47_i_askTune m47_J H47 locs ls g47_0 g47_1 g47_2 g47_3 hP hD hS hl hM
                have hM47 := msucc hM
                refine lv_iload hx hb dX9_sale_47 (lv_at hl 8 rfl) ?_
                refine lv_aload_n hx hb dX9_sale_49 rfl (lv_at hl 0 rfl) ?_
                refine va_calli (va_runV (As := []) (rest := [.int y47_8]) ⟨hx, hb, hml, hown, hG⟩ (kX9_songs l dC dI r ct i_taped i_size i_faultKind i_at i_end i_token i_number i_bank i_rb i_codes i_within i_piled i_unitsInRule m47_i_askHouse m47_i_askTune i_acts i_undone i_laid i_knowns i_time f_text f_tunes f_houses f_hums f_told f_many f_ruleFrom f_ruleTo f_code f_eWhat f_eSign f_all f_kept f_was f_sTune f_boxAll m47_J L H47.size hI) (cwV 0 hG (goodV gw1512 gw1514 gw86 gw138 gw1515) rfl rfl rfl hd_X9_songs ⟨(Nat.le_of_ble_eq_true rfl), (Nat.le_of_ble_eq_true rfl)⟩) ⟨fbR, va_recv hK hP (ci := 8) (q0 := 0) rfl rfl, pR_in hP hK⟩ rfl rfl hl.1 rfl (lv_room (Nat.le_of_ble_eq_true rfl)) dX9_sale_50 ⟨(Nat.le_of_ble_eq_true rfl), (Nat.le_of_ble_eq_true rfl)⟩) hS (fun q hq h => absurd hq (Nat.not_lt.mpr h)) (fun q h => hA q (Nat.le_trans hS.1 h)) (fun r_41 u_ t_ H40 locs ht hvm hw hB hz1 hk1 hS => ?_)
                subst hw
                have hP := wk hP hk1
                have f42 := hB
                have f43 : r_41.toInt = (f_tunes (i_bank.toInt).toNat).toInt := (ob_6 f42)
                refine lv_icmp_ge (tgt := 117) hx hb dX9_sale_53 (by decide) (fun c_44 => ?_) (fun c_44 => ?_)
                · skip
                  have f45 : r_41.toInt ≤ y47_8.toInt := qi_le c_44 rfl rfl
                  refine lv_iload hx hb dX9_sale_117 (lv_at hl 7 rfl) ?_
                  refine lv_if_eq (tgt := 172) hx hb dX9_sale_119 (by decide) (fun c_46 => ?_) (fun c_46 => ?_)
                  · skip
                    have f47 : y47_7.toInt = 0 := qi_eq c_46 rfl zc_0
                    obtain ⟨x48, ex48⟩ : ∃ y : Int32, y = y27_5 + Int32.ofInt 1 := ⟨_, rfl⟩
                    have f49 : (-2147483648) ≤ x32.toInt ∧ x32.toInt ≤ 2147483647 := i32_rg _
                    have f50 : (-2147483648) ≤ y27_5.toInt ∧ y27_5.toInt ≤ 2147483647 := i32_rg _
                    have f51 : x48.toInt = y27_5.toInt + 1 := (ob_142 (qi_add ex48 rfl (by decide) (ob_193 g27_2) (ob_1374 f39 f49)))
                    refine lv_iinc (v := x48) (lv' := [(5, .int x48), (0, .ref (r 0)), (1, .int p0), (2, .int p1), (3, .int y27_3), (4, .int y27_4), (6, .int y47_6), (7, .int y47_7), (8, .int y47_8)]) hx hb dX9_sale_172 hl (k := 5) rfl ex48.symm (by decide) rfl (fun ls hl => ?_)
                    refine lv_goto (tgt := 27) hx hb dX9_sale_175 (by decide) ?_
                    exact ih27 y27_3 y27_4 x48 m47_i_askHouse m47_i_askTune m47_J H40 _ _ (ob_139 g27_0) (ob_139 g27_1) (ob_195 g27_2 f51) (ob_1375 f39 f49 f51) hP hD hS (lv_sub hl [1, 2, 3, 4, 5, 0] rfl) (ob_1376 hM27 f51)
                  · skip
                    have f52 : y47_7.toInt ≠ 0 := qi_ne c_46 rfl zc_0
                    refine lv_iload hx hb dX9_sale_122 (lv_at hl 6 rfl) ?_
                    refine lv_aload_n hx hb dX9_sale_124 rfl (lv_at hl 0 rfl) ?_
                    refine gM_X9_88_0 hx hb hG hown hK hP dX9_sale_125 ?_
                    refine lv_bipush (v := 20) hx hb dX9_sale_128 (by decide) ?_
                    refine lv_iload_n hx hb dX9_sale_130 rfl (lv_at hl 1 rfl) ?_
                    refine lv_iadd hx hb dX9_sale_131 ?_
                    refine lv_topi (fun x53 ex53 => ?_)
                    have f54 : x53.toInt = p0.toInt + 20 := (ob_784 (qi_add ex53 zc_20 rfl (ob_921 f13 f14) (ob_1105 f2 f14)))
                    refine ldM_25 (mm := p0.toInt + 20) hx hb hK hP f54 (ob_923 f13 f14) (ob_1106 f2 f14) dX9_sale_132 ?_
                    refine lv_icmp_gt (tgt := 172) hx hb dX9_sale_133 (by decide) (fun c_55 => ?_) (fun c_55 => ?_)
                    · skip
                      have f56 : (f_all (p0.toInt + 20).toNat).toInt < y47_6.toInt := qi_lt c_55 rfl rfl
                      obtain ⟨x57, ex57⟩ : ∃ y : Int32, y = y27_5 + Int32.ofInt 1 := ⟨_, rfl⟩
                      have f58 : (-2147483648) ≤ x32.toInt ∧ x32.toInt ≤ 2147483647 := i32_rg _
                      have f59 : (-2147483648) ≤ y27_5.toInt ∧ y27_5.toInt ≤ 2147483647 := i32_rg _
                      have f60 : x57.toInt = y27_5.toInt + 1 := (ob_142 (qi_add ex57 rfl (by decide) (ob_193 g27_2) (ob_1374 f39 f58)))
                      refine lv_iinc (v := x57) (lv' := [(5, .int x57), (0, .ref (r 0)), (1, .int p0), (2, .int p1), (3, .int y27_3), (4, .int y27_4), (6, .int y47_6), (7, .int y47_7), (8, .int y47_8)]) hx hb dX9_sale_172 hl (k := 5) rfl ex57.symm (by decide) rfl (fun ls hl => ?_)
                      refine lv_goto (tgt := 27) hx hb dX9_sale_175 (by decide) ?_
                      exact ih27 y27_3 y27_4 x57 m47_i_askHouse m47_i_askTune m47_J H40 _ _ (ob_139 g27_0) (ob_139 g27_1) (ob_195 g27_2 f60) (ob_1375 f39 f58 f60) hP hD hS (lv_sub hl [1, 2, 3, 4, 5, 0] rfl) (ob_1376 hM27 f60)
                    · skip
                      have f61 : y47_6.toInt ≤ (f_all (p0.toInt + 20).toNat).toInt := qi_nlt c_55 rfl rfl
                      refine lv_iload hx hb dX9_sale_136 (lv_at hl 6 rfl) ?_
                      refine lv_iload hx hb dX9_sale_138 (lv_at hl 4 rfl) ?_
                      refine lv_icmp_lt (tgt := 172) hx hb dX9_sale_140 (by decide) (fun c_62 => ?_) (fun c_62 => ?_)
                      · skip
                        have f63 : y47_6.toInt < y27_4.toInt := qi_lt c_62 rfl rfl
                        obtain ⟨x64, ex64⟩ : ∃ y : Int32, y = y27_5 + Int32.ofInt 1 := ⟨_, rfl⟩
                        have f65 : (-2147483648) ≤ x32.toInt ∧ x32.toInt ≤ 2147483647 := i32_rg _
                        have f66 : (-2147483648) ≤ y27_5.toInt ∧ y27_5.toInt ≤ 2147483647 := i32_rg _
                        have f67 : x64.toInt = y27_5.toInt + 1 := (ob_142 (qi_add ex64 rfl (by decide) (ob_193 g27_2) (ob_1374 f39 f65)))
                        refine lv_iinc (v := x64) (lv' := [(5, .int x64), (0, .ref (r 0)), (1, .int p0), (2, .int p1), (3, .int y27_3), (4, .int y27_4), (6, .int y47_6), (7, .int y47_7), (8, .int y47_8)]) hx hb dX9_sale_172 hl (k := 5) rfl ex64.symm (by decide) rfl (fun ls hl => ?_)
                        refine lv_goto (tgt := 27) hx hb dX9_sale_175 (by decide) ?_
                        exact ih27 y27_3 y27_4 x64 m47_i_askHouse m47_i_askTune m47_J H40 _ _ (ob_139 g27_0) (ob_1377 g27_1 f63) (ob_195 g27_2 f67) (ob_1375 f39 f65 f67) hP hD hS (lv_sub hl [1, 2, 3, 4, 5, 0] rfl) (ob_1376 hM27 f67)
                      · skip
                        have f68 : y27_4.toInt ≤ y47_6.toInt := qi_nlt c_62 rfl rfl
                        refine lv_iload hx hb dX9_sale_143 (lv_at hl 6 rfl) ?_
                        refine lv_iload hx hb dX9_sale_145 (lv_at hl 4 rfl) ?_
                        refine lv_icmp_ne (tgt := 165) hx hb dX9_sale_147 (by decide) (fun c_69 => ?_) (fun c_69 => ?_)
                        · skip
                          have f70 : y47_6.toInt ≠ y27_4.toInt := qi_ne c_69 rfl rfl
                          have f71 : y27_4.toInt + 1 ≤ y47_6.toInt := (ob_1378 f68 f70)
                          refine lv_iload hx hb dX9_sale_165 (lv_at hl 5 rfl) ?_
                          refine lv_istore_n (lv' := [(3, .int y27_5), (0, .ref (r 0)), (1, .int p0), (2, .int p1), (4, .int y27_4), (5, .int y27_5), (6, .int y47_6), (7, .int y47_7), (8, .int y47_8)]) hx hb dX9_sale_167 rfl hl (by decide) rfl (fun ls hl => ?_)
                          refine lv_iload hx hb dX9_sale_168 (lv_at hl 6 rfl) ?_
                          refine lv_istore (lv' := [(4, .int y47_6), (3, .int y27_5), (0, .ref (r 0)), (1, .int p0), (2, .int p1), (5, .int y27_5), (6, .int y47_6), (7, .int y47_7), (8, .int y47_8)]) hx hb dX9_sale_170 hl (by decide) rfl (fun ls hl => ?_)
                          obtain ⟨x72, ex72⟩ : ∃ y : Int32, y = y27_5 + Int32.ofInt 1 := ⟨_, rfl⟩
                          have f73 : (-2147483648) ≤ x32.toInt ∧ x32.toInt ≤ 2147483647 := i32_rg _
                          have f74 : (-2147483648) ≤ y27_5.toInt ∧ y27_5.toInt ≤ 2147483647 := i32_rg _
                          have f75 : x72.toInt = y27_5.toInt + 1 := (ob_142 (qi_add ex72 rfl (by decide) (ob_193 g27_2) (ob_1374 f39 f73)))
                          refine lv_iinc (v := x72) (lv' := [(5, .int x72), (4, .int y47_6), (3, .int y27_5), (0, .ref (r 0)), (1, .int p0), (2, .int p1), (6, .int y47_6), (7, .int y47_7), (8, .int y47_8)]) hx hb dX9_sale_172 hl (k := 5) rfl ex72.symm (by decide) rfl (fun ls hl => ?_)
                          refine lv_goto (tgt := 27) hx hb dX9_sale_175 (by decide) ?_
                          exact ih27 y27_5 y47_6 x72 m47_i_askHouse m47_i_askTune m47_J H40 _ _ (ob_20 g27_2) (ob_1379 g27_1 f68) (ob_195 g27_2 f75) (ob_1375 f39 f73 f75) hP hD hS (lv_sub hl [3, 4, 5, 2, 1, 0] rfl) (ob_1376 hM27 f75)
                        · skip
                          have f76 : y47_6.toInt = y27_4.toInt := qi_eq c_69 rfl rfl
                          refine lv_iload hx hb dX9_sale_150 (lv_at hl 5 rfl) ?_
                          refine va_calli (va_runS (As := [.int y27_5]) (rest := []) ⟨hx, hb, hml, hown, hG⟩ (kX9_bitsOf l dC dI y27_5 H40.size) (va_cwS 1 hG (goodS gw1618 gw1619 gw138 gw1620) rfl rfl rfl hd_X9_bitsOf ⟨(Nat.le_of_ble_eq_true rfl), (Nat.le_of_ble_eq_true rfl)⟩) ⟨fbR, pR_in emptyP (emptyK hK)⟩ rfl rfl hl.1 rfl (lv_room (Nat.le_of_ble_eq_true rfl)) dX9_sale_152 ⟨(Nat.le_of_ble_eq_true rfl), (Nat.le_of_ble_eq_true rfl)⟩) hS (fun q hq h => absurd hq (Nat.not_lt.mpr h)) (fun q h => hA q (Nat.le_trans hS.1 h)) (fun r_78 u_ t_ H77 locs ht hvm hw hB hz1 hk1 hS => ?_)
                          subst hw
                          have hP := wk hP hk1
                          refine lv_iload_n hx hb dX9_sale_155 rfl (lv_at hl 3 rfl) ?_
                          refine va_calli (va_runS (As := [.int y27_3]) (rest := [.int r_78]) ⟨hx, hb, hml, hown, hG⟩ (kX9_bitsOf l dC dI y27_3 H77.size) (va_cwS 1 hG (goodS gw1618 gw1619 gw138 gw1620) rfl rfl rfl hd_X9_bitsOf ⟨(Nat.le_of_ble_eq_true rfl), (Nat.le_of_ble_eq_true rfl)⟩) ⟨fbR, pR_in emptyP (emptyK hK)⟩ rfl rfl hl.1 rfl (lv_room (Nat.le_of_ble_eq_true rfl)) dX9_sale_156 ⟨(Nat.le_of_ble_eq_true rfl), (Nat.le_of_ble_eq_true rfl)⟩) hS (fun q hq h => absurd hq (Nat.not_lt.mpr h)) (fun q h => hA q (Nat.le_trans hS.1 h)) (fun r_80 u_ t_ H79 locs ht hvm hw hB hz1 hk1 hS => ?_)
                          subst hw
                          have hP := wk hP hk1
                          refine lv_icmp_lt (tgt := 165) hx hb dX9_sale_159 (by decide) (fun c_81 => ?_) (fun c_81 => ?_)
                          · skip
                            have f82 : r_78.toInt < r_80.toInt := qi_lt c_81 rfl rfl
                            refine lv_iload hx hb dX9_sale_165 (lv_at hl 5 rfl) ?_
                            refine lv_istore_n (lv' := [(3, .int y27_5), (0, .ref (r 0)), (1, .int p0), (2, .int p1), (4, .int y27_4), (5, .int y27_5), (6, .int y47_6), (7, .int y47_7), (8, .int y47_8)]) hx hb dX9_sale_167 rfl hl (by decide) rfl (fun ls hl => ?_)
                            refine lv_iload hx hb dX9_sale_168 (lv_at hl 6 rfl) ?_
                            refine lv_istore (lv' := [(4, .int y47_6), (3, .int y27_5), (0, .ref (r 0)), (1, .int p0), (2, .int p1), (5, .int y27_5), (6, .int y47_6), (7, .int y47_7), (8, .int y47_8)]) hx hb dX9_sale_170 hl (by decide) rfl (fun ls hl => ?_)
                            obtain ⟨x83, ex83⟩ : ∃ y : Int32, y = y27_5 + Int32.ofInt 1 := ⟨_, rfl⟩
                            have f84 : (-2147483648) ≤ x32.toInt ∧ x32.toInt ≤ 2147483647 := i32_rg _
                            have f85 : (-2147483648) ≤ y27_5.toInt ∧ y27_5.toInt ≤ 2147483647 := i32_rg _
                            have f86 : x83.toInt = y27_5.toInt + 1 := (ob_142 (qi_add ex83 rfl (by decide) (ob_193 g27_2) (ob_1374 f39 f84)))
                            refine lv_iinc (v := x83) (lv' := [(5, .int x83), (4, .int y47_6), (3, .int y27_5), (0, .ref (r 0)), (1, .int p0), (2, .int p1), (6, .int y47_6), (7, .int y47_7), (8, .int y47_8)]) hx hb dX9_sale_172 hl (k := 5) rfl ex83.symm (by decide) rfl (fun ls hl => ?_)
                            refine lv_goto (tgt := 27) hx hb dX9_sale_175 (by decide) ?_
                            exact ih27 y27_5 y47_6 x83 m47_i_askHouse m47_i_askTune m47_J H79 _ _ (ob_20 g27_2) (ob_1379 g27_1 f68) (ob_195 g27_2 f86) (ob_1375 f39 f84 f86) hP hD hS (lv_sub hl [3, 4, 5, 2, 1, 0] rfl) (ob_1376 hM27 f86)
                          · skip
                            have f87 : r_80.toInt ≤ r_78.toInt := qi_nlt c_81 rfl rfl
                            refine lv_goto (tgt := 172) hx hb dX9_sale_162 (by decide) ?_
                            obtain ⟨x88, ex88⟩ : ∃ y : Int32, y = y27_5 + Int32.ofInt 1 := ⟨_, rfl⟩
                            have f89 : (-2147483648) ≤ x32.toInt ∧ x32.toInt ≤ 2147483647 := i32_rg _
                            have f90 : (-2147483648) ≤ y27_5.toInt ∧ y27_5.toInt ≤ 2147483647 := i32_rg _
                            have f91 : x88.toInt = y27_5.toInt + 1 := (ob_142 (qi_add ex88 rfl (by decide) (ob_193 g27_2) (ob_1374 f39 f89)))
                            refine lv_iinc (v := x88) (lv' := [(5, .int x88), (0, .ref (r 0)), (1, .int p0), (2, .int p1), (3, .int y27_3), (4, .int y27_4), (6, .int y47_6), (7, .int y47_7), (8, .int y47_8)]) hx hb dX9_sale_172 hl (k := 5) rfl ex88.symm (by decide) rfl (fun ls hl => ?_)
                            refine lv_goto (tgt := 27) hx hb dX9_sale_175 (by decide) ?_
                            exact ih27 y27_3 y27_4 x88 m47_i_askHouse m47_i_askTune m47_J H79 _ _ (ob_139 g27_0) (ob_1380 g27_1 f68 f76) (ob_195 g27_2 f91) (ob_1375 f39 f89 f91) hP hD hS (lv_sub hl [1, 2, 3, 4, 5, 0] rfl) (ob_1376 hM27 f91)
                · skip
                  have f92 : y47_8.toInt < r_41.toInt := qi_nle c_44 rfl rfl
                  refine lv_iload hx hb dX9_sale_56 (lv_at hl 5 rfl) ?_
                  refine lv_iload hx hb dX9_sale_58 (lv_at hl 8 rfl) ?_
                  refine va_calli (va_runS (As := [.int y27_5, .int y47_8]) (rest := []) ⟨hx, hb, hml, hown, hG⟩ (kX9_bit l dC dI y27_5 y47_8 H40.size) (va_cwS 2 hG (goodS gw1417 gw1418 gw138 gw1419) rfl rfl rfl hd_X9_bit ⟨(Nat.le_of_ble_eq_true rfl), (Nat.le_of_ble_eq_true rfl)⟩) ⟨fbR, pR_in emptyP (emptyK hK)⟩ rfl rfl hl.1 rfl (lv_room (Nat.le_of_ble_eq_true rfl)) dX9_sale_60 ⟨(Nat.le_of_ble_eq_true rfl), (Nat.le_of_ble_eq_true rfl)⟩) hS (fun q hq h => absurd hq (Nat.not_lt.mpr h)) (fun q h => hA q (Nat.le_trans hS.1 h)) (fun r_94 u_ t_ H93 locs ht hvm hw hB hz1 hk1 hS => ?_)
                  subst hw
                  have hP := wk hP hk1
                  obtain ⟨f95, f96, f97, f98⟩ := hB
                  refine lv_if_ne (tgt := 69) hx hb dX9_sale_63 (by decide) (fun c_99 => ?_) (fun c_99 => ?_)
                  · skip
                    have f100 : r_94.toInt ≠ 0 := qi_ne c_99 rfl zc_0
                    have f101 : (1 : Int) ≤ r_94.toInt := (ob_157 f95 f96 f100)
                    refine lv_iload hx hb dX9_sale_69 (lv_at hl 6 rfl) ?_
                    refine lv_aload_n hx hb dX9_sale_71 rfl (lv_at hl 0 rfl) ?_
                    refine lv_iload hx hb dX9_sale_72 (lv_at hl 8 rfl) ?_
                    refine va_calli (va_runV (As := [.int y47_8]) (rest := [.int y47_6]) ⟨hx, hb, hml, hown, hG⟩ (kX9_priceOf l dC dI r ct i_taped i_size i_faultKind i_at i_end i_token i_number i_bank i_rb i_codes i_within i_piled i_unitsInRule m47_i_askHouse m47_i_askTune i_acts i_undone i_laid i_knowns i_time f_text f_tunes f_houses f_hums f_told f_many f_ruleFrom f_ruleTo f_code f_eWhat f_eSign f_all f_kept f_was f_sTune f_boxAll m47_J L y47_8 H93.size hI (ob_139 g47_2) (ob_1054 f92 f43)) (cwV 1 hG (goodV gw1519 gw1521 gw87 gw138 gw1522) rfl rfl rfl hd_X9_priceOf ⟨(Nat.le_of_ble_eq_true rfl), (Nat.le_of_ble_eq_true rfl)⟩) ⟨fbR, va_recv hK hP (ci := 8) (q0 := 0) rfl rfl, pR_in hP hK⟩ rfl rfl hl.1 rfl (lv_room (Nat.le_of_ble_eq_true rfl)) dX9_sale_74 ⟨(Nat.le_of_ble_eq_true rfl), (Nat.le_of_ble_eq_true rfl)⟩) hS (fun q hq h => absurd hq (Nat.not_lt.mpr h)) (fun q h => hA q (Nat.le_trans hS.1 h)) (fun r_103 u_ t_ H102 locs ht hvm hw hB hz1 hk1 hS => ?_)
                    subst hw
                    have hP := wk hP hk1
                    refine lv_iadd hx hb dX9_sale_77 ?_
                    refine lv_topi (fun x104 ex104 => ?_)
                    refine lv_istore (lv' := [(6, .int x104), (0, .ref (r 0)), (1, .int p0), (2, .int p1), (3, .int y27_3), (4, .int y27_4), (5, .int y27_5), (7, .int y47_7), (8, .int y47_8)]) hx hb dX9_sale_78 hl (by decide) rfl (fun ls hl => ?_)
                    refine lv_iload hx hb dX9_sale_80 (lv_at hl 7 rfl) ?_
                    refine lv_if_eq (tgt := 108) hx hb dX9_sale_82 (by decide) (fun c_105 => ?_) (fun c_105 => ?_)
                    · skip
                      have f106 : y47_7.toInt = 0 := qi_eq c_105 rfl zc_0
                      refine lv_iconst (v := 0) hx hb dX9_sale_108 (by decide) ?_
                      refine lv_istore (lv' := [(7, .int 0), (6, .int x104), (0, .ref (r 0)), (1, .int p0), (2, .int p1), (3, .int y27_3), (4, .int y27_4), (5, .int y27_5), (8, .int y47_8)]) hx hb dX9_sale_109 hl (by decide) rfl (fun ls hl => ?_)
                      obtain ⟨x107, ex107⟩ : ∃ y : Int32, y = y47_8 + Int32.ofInt 1 := ⟨_, rfl⟩
                      have f108 : x107.toInt = y47_8.toInt + 1 := (ob_142 (qi_add ex107 rfl (by decide) (ob_140 g47_2) (ob_804 g47_3)))
                      refine lv_iinc (v := x107) (lv' := [(8, .int x107), (7, .int 0), (6, .int x104), (0, .ref (r 0)), (1, .int p0), (2, .int p1), (3, .int y27_3), (4, .int y27_4), (5, .int y27_5)]) hx hb dX9_sale_111 hl (k := 8) rfl ex107.symm (by decide) rfl (fun ls hl => ?_)
                      refine lv_goto (tgt := 47) hx hb dX9_sale_114 (by decide) ?_
                      exact ih47 x104 0 x107 m47_i_askHouse m47_i_askTune m47_J H102 _ _ (ob_1381 zc_0) (ob_11 zc_0) (ob_149 g47_2 f108) (ob_1047 f1 f92 f43 f108) hP hD hS (lv_sub hl [3, 4, 5, 6, 7, 8, 2, 1, 0] rfl) (ob_806 hM47 f108)
                    · skip
                      have f109 : y47_7.toInt ≠ 0 := qi_ne c_105 rfl zc_0
                      refine lv_aload_n hx hb dX9_sale_85 rfl (lv_at hl 1 rfl) ?_
                      refine lv_iload hx hb dX9_sale_86 (lv_at hl 8 rfl) ?_
                      refine va_calli (va_runV (As := [.int y47_8]) (rest := []) ⟨hx, hb, hml, hown, hG⟩ (kX9_isOnCart l dC dI r ct i_taped i_size i_faultKind i_at i_end i_token i_number i_bank i_rb i_codes i_within i_piled i_unitsInRule m47_i_askHouse m47_i_askTune i_acts i_undone i_laid i_knowns i_time f_text f_tunes f_houses f_hums f_told f_many f_ruleFrom f_ruleTo f_code f_eWhat f_eSign f_all f_kept f_was f_sTune f_boxAll m47_J L y47_8 H102.size hI (ob_139 g47_2) (ob_1054 f92 f43)) (cwV 1 hG (goodV gw1704 gw1706 gw111 gw138 gw1707) rfl rfl rfl hd_X9_isOnCart ⟨(Nat.le_of_ble_eq_true rfl), (Nat.le_of_ble_eq_true rfl)⟩) ⟨fbR, va_recv hK hP (ci := 8) (q0 := 0) rfl rfl, pR_in hP hK⟩ rfl rfl hl.1 rfl (lv_room (Nat.le_of_ble_eq_true rfl)) dX9_sale_88 ⟨(Nat.le_of_ble_eq_true rfl), (Nat.le_of_ble_eq_true rfl)⟩) hS (fun q hq h => absurd hq (Nat.not_lt.mpr h)) (fun q h => hA q (Nat.le_trans hS.1 h)) (fun r_111 u_ t_ H110 locs ht hvm hw hB hz1 hk1 hS => ?_)
                      subst hw
                      have hP := wk hP hk1
                      obtain ⟨f112, f113, f114⟩ := hB
                      refine lv_if_eq (tgt := 108) hx hb dX9_sale_91 (by decide) (fun c_115 => ?_) (fun c_115 => ?_)
                      · skip
                        have f116 : r_111.toInt = 0 := qi_eq c_115 rfl zc_0
                        have f117 : (f_all (y47_8.toInt).toNat).toInt + 1 ≠ (0 : Int) := (ob_1204 f112 f116)
                        have f118 : r_111.toInt = (0 : Int) := (ob_226 f113 f114 f116)
                        refine lv_iconst (v := 0) hx hb dX9_sale_108 (by decide) ?_
                        refine lv_istore (lv' := [(7, .int 0), (6, .int x104), (0, .ref (r 0)), (1, .int p0), (2, .int p1), (3, .int y27_3), (4, .int y27_4), (5, .int y27_5), (8, .int y47_8)]) hx hb dX9_sale_109 hl (by decide) rfl (fun ls hl => ?_)
                        obtain ⟨x119, ex119⟩ : ∃ y : Int32, y = y47_8 + Int32.ofInt 1 := ⟨_, rfl⟩
                        have f120 : x119.toInt = y47_8.toInt + 1 := (ob_142 (qi_add ex119 rfl (by decide) (ob_140 g47_2) (ob_804 g47_3)))
                        refine lv_iinc (v := x119) (lv' := [(8, .int x119), (7, .int 0), (6, .int x104), (0, .ref (r 0)), (1, .int p0), (2, .int p1), (3, .int y27_3), (4, .int y27_4), (5, .int y27_5)]) hx hb dX9_sale_111 hl (k := 8) rfl ex119.symm (by decide) rfl (fun ls hl => ?_)
                        refine lv_goto (tgt := 47) hx hb dX9_sale_114 (by decide) ?_
                        exact ih47 x104 0 x119 m47_i_askHouse m47_i_askTune m47_J H110 _ _ (ob_1381 zc_0) (ob_11 zc_0) (ob_149 g47_2 f120) (ob_1047 f1 f92 f43 f120) hP hD hS (lv_sub hl [3, 4, 5, 6, 7, 8, 2, 1, 0] rfl) (ob_806 hM47 f120)
                      · skip
                        have f121 : r_111.toInt ≠ 0 := qi_ne c_115 rfl zc_0
                        have f122 : (f_all (y47_8.toInt).toNat).toInt + 1 = (0 : Int) := (ob_1205 f112 f121)
                        have f123 : r_111.toInt = (1 : Int) := (ob_1206 f112 f121)
                        have f124 : (1 : Int) ≤ r_111.toInt := (ob_162 f113 f114 f123)
                        refine lv_aload_n hx hb dX9_sale_94 rfl (lv_at hl 1 rfl) ?_
                        refine lv_iload_n hx hb dX9_sale_95 rfl (lv_at hl 2 rfl) ?_
                        refine lv_iload hx hb dX9_sale_96 (lv_at hl 8 rfl) ?_
                        have hFc := frA hD hS hA
                        refine va_calli (va_runV (As := [.int p0, .int y47_8]) (rest := []) ⟨hx, hb, hml, hown, hG⟩ (kX9_doesTake l dC dI r ct i_taped i_size i_faultKind i_at i_end i_token i_number i_bank i_rb i_codes i_within i_piled i_unitsInRule m47_i_askHouse m47_i_askTune i_acts i_undone i_laid i_knowns i_time f_text f_tunes f_houses f_hums f_told f_many f_ruleFrom f_ruleTo f_code f_eWhat f_eSign f_all f_kept f_was f_sTune f_boxAll m47_J L p0 y47_8 H110.size hI (ob_880 f13 f14) (ob_898 f2 f13 f14) (ob_139 g47_2) (ob_1054 f92 f43)) (cwV 2 hG (goodV gw1610 gw1612 gw104 gw138 gw1613) rfl rfl rfl hd_X9_doesTake ⟨(Nat.le_of_ble_eq_true rfl), (Nat.le_of_ble_eq_true rfl)⟩) ⟨fbW, va_recv hK hP (ci := 8) (q0 := 0) rfl rfl, pW_in hP hK hD⟩ rfl rfl hl.1 rfl (lv_room (Nat.le_of_ble_eq_true rfl)) dX9_sale_98 ⟨(Nat.le_of_ble_eq_true rfl), (Nat.le_of_ble_eq_true rfl)⟩) hS (fun q _ h => hFc q h) hFc (fun r_126 u_ t_ H125 locs ht hvm hw hB hz1 hk1 hS => ?_)
                        subst hw
                        obtain ⟨x127, x128, J129, hP1, hD1, hI133, f130, f131, f132⟩ := hB
                        rw [ht] at hP1
                        have hP := hP1
                        have hD := dW hFc hD1
                        obtain ⟨im134, im135, im136, im137, im138, im139, im140, im141, im142, im143, im144, im145, im146, im147, im148, im149, im150, im151, im152, im153, im154, im155, im156, im157, im158, im159, im160, im161, im162, im163, im164, im165, im166⟩ := id hI133
                        refine lv_if_eq (tgt := 108) hx hb dX9_sale_101 (by decide) (fun c_167 => ?_) (fun c_167 => ?_)
                        · skip
                          have f168 : r_126.toInt = 0 := qi_eq c_167 rfl zc_0
                          have f169 : r_126.toInt = (0 : Int) := (ob_226 f131 f132 f168)
                          refine lv_iconst (v := 0) hx hb dX9_sale_108 (by decide) ?_
                          refine lv_istore (lv' := [(7, .int 0), (6, .int x104), (0, .ref (r 0)), (1, .int p0), (2, .int p1), (3, .int y27_3), (4, .int y27_4), (5, .int y27_5), (8, .int y47_8)]) hx hb dX9_sale_109 hl (by decide) rfl (fun ls hl => ?_)
                          obtain ⟨x170, ex170⟩ : ∃ y : Int32, y = y47_8 + Int32.ofInt 1 := ⟨_, rfl⟩
                          have f171 : x170.toInt = y47_8.toInt + 1 := (ob_142 (qi_add ex170 rfl (by decide) (ob_140 g47_2) (ob_804 g47_3)))
                          refine lv_iinc (v := x170) (lv' := [(8, .int x170), (7, .int 0), (6, .int x104), (0, .ref (r 0)), (1, .int p0), (2, .int p1), (3, .int y27_3), (4, .int y27_4), (5, .int y27_5)]) hx hb dX9_sale_111 hl (k := 8) rfl ex170.symm (by decide) rfl (fun ls hl => ?_)
                          refine lv_goto (tgt := 47) hx hb dX9_sale_114 (by decide) ?_
                          exact ih47 x104 0 x170 x127 x128 J129 H125 _ _ (ob_1381 zc_0) (ob_11 zc_0) (ob_149 g47_2 f171) (ob_1047 f1 f92 f43 f171) hP hD hS (lv_sub hl [3, 4, 5, 6, 7, 8, 2, 1, 0] rfl) (ob_806 hM47 f171)
                        · skip
                          have f172 : r_126.toInt ≠ 0 := qi_ne c_167 rfl zc_0
                          have f173 : r_126.toInt = (1 : Int) := (ob_592 f130 f172)
                          have f174 : (1 : Int) ≤ r_126.toInt := (ob_162 f131 f132 f173)
                          refine lv_iconst (v := 1) hx hb dX9_sale_104 (by decide) ?_
                          refine lv_goto (tgt := 109) hx hb dX9_sale_105 (by decide) ?_
                          refine lv_istore (lv' := [(7, .int 1), (6, .int x104), (0, .ref (r 0)), (1, .int p0), (2, .int p1), (3, .int y27_3), (4, .int y27_4), (5, .int y27_5), (8, .int y47_8)]) hx hb dX9_sale_109 hl (by decide) rfl (fun ls hl => ?_)
                          obtain ⟨x175, ex175⟩ : ∃ y : Int32, y = y47_8 + Int32.ofInt 1 := ⟨_, rfl⟩
                          have f176 : x175.toInt = y47_8.toInt + 1 := (ob_142 (qi_add ex175 rfl (by decide) (ob_140 g47_2) (ob_804 g47_3)))
                          refine lv_iinc (v := x175) (lv' := [(8, .int x175), (7, .int 1), (6, .int x104), (0, .ref (r 0)), (1, .int p0), (2, .int p1), (3, .int y27_3), (4, .int y27_4), (5, .int y27_5)]) hx hb dX9_sale_111 hl (k := 8) rfl ex175.symm (by decide) rfl (fun ls hl => ?_)
                          refine lv_goto (tgt := 47) hx hb dX9_sale_114 (by decide) ?_
                          exact ih47 x104 1 x175 x127 x128 J129 H125 _ _ (ob_1382 zc_1) (ob_15 zc_1) (ob_149 g47_2 f176) (ob_1047 f1 f92 f43 f176) hP hD hS (lv_sub hl [3, 4, 5, 6, 7, 8, 2, 1, 0] rfl) (ob_806 hM47 f176)
                  · skip
                    have f177 : r_94.toInt = 0 := qi_eq c_99 rfl zc_0
                    refine lv_goto (tgt := 111) hx hb dX9_sale_66 (by decide) ?_
                    obtain ⟨x178, ex178⟩ : ∃ y : Int32, y = y47_8 + Int32.ofInt 1 := ⟨_, rfl⟩
                    have f179 : x178.toInt = y47_8.toInt + 1 := (ob_142 (qi_add ex178 rfl (by decide) (ob_140 g47_2) (ob_804 g47_3)))
                    refine lv_iinc (v := x178) (lv' := [(8, .int x178), (0, .ref (r 0)), (1, .int p0), (2, .int p1), (3, .int y27_3), (4, .int y27_4), (5, .int y27_5), (6, .int y47_6), (7, .int y47_7)]) hx hb dX9_sale_111 hl (k := 8) rfl ex178.symm (by decide) rfl (fun ls hl => ?_)
                    refine lv_goto (tgt := 47) hx hb dX9_sale_114 (by decide) ?_
                    exact ih47 y47_6 y47_7 x178 m47_i_askHouse m47_i_askTune m47_J H93 _ _ (ob_1383 g47_0 g47_1) (ob_1384 g47_0 g47_1) (ob_149 g47_2 f179) (ob_1047 f1 f92 f43 f179) hP hD hS (lv_sub hl [1, 2, 3, 4, 5, 6, 7, 8, 0] rfl) (ob_806 hM47 f179)
            exact L47 (-1 * (0 : Int32).toInt + 5 + 1).toNat 0 1 0 m27_i_askHouse m27_i_askTune m27_J H28 _ _ (ob_1382 zc_1) (ob_15 zc_1) (ob_1 zc_0) (ob_807 zc_0) hP hD hS (lv_sub hl [3, 4, 5, 6, 7, 8, 2, 1, 0] rfl) (mlt (ob_808 zc_0))
      exact L27 (-1 * (1 : Int32).toInt + 2147483647 + 1).toNat 0 0 1 i_askHouse i_askTune J H17 _ _ (ob_1 zc_0) (ob_1 zc_0) (ob_218 zc_1) (ob_1385 zc_1) hP hD hS (lv_sub hl [3, 4, 5, 2, 1, 0] rfl) (mlt (ob_1386 zc_1))
    · skip
      have f180 : r_18.toInt = 0 := qi_eq c_22 rfl zc_0
      refine lv_iconst (v := (-1)) hx hb dX9_sale_17 (by decide) ?_
      rw [hQ]
      exact W.iret (v := (-1)) hx hb hr (fun t ht hW => ⟨⟨(-1), (-1), rfl, rfl, ⟨i_askHouse, i_askTune, J, by rw [ht]; exact hP, hD, hI⟩⟩, hS.F ht⟩) hS.2.2 dX9_sale_18
set_option maxHeartbeats 4000000 in
set_option maxRecDepth 100000 in
theorem kX9_gainOf (l : Launch) (dC : Nat → ClassId) (dI : Nat → Nat → Nat) (r : Nat → Nat) (ct : Nat → ClassId) (i_taped i_size i_faultKind i_at i_end i_token i_number i_bank i_rb i_codes i_within i_piled i_unitsInRule i_askHouse i_askTune i_acts i_undone i_laid i_knowns i_time : Int32) (f_text f_tunes f_houses f_hums f_told f_many f_ruleFrom f_ruleTo f_code f_eWhat f_eSign f_all f_kept f_was f_sTune f_boxAll : Nat → Int32) (J : Nat → Nat → Int32) (L : Nat → Nat → Int64) (p0 p1 p2 : Int32) (sz : Nat) (hI : (IM i_taped i_size i_faultKind i_at i_end i_bank i_rb i_acts i_undone i_laid i_knowns i_time f_tunes f_houses f_hums f_told f_many f_ruleFrom f_ruleTo f_code f_all f_kept f_was f_sTune f_boxAll)) (hp0 : (0 : Int) ≤ p0.toInt) (hp1 : p0.toInt + 1 ≤ (f_houses (i_bank.toInt).toNat).toInt) (hp2 : (0 : Int) ≤ p1.toInt) (hp3 : p1.toInt + 1 ≤ (f_tunes (i_bank.toInt).toNat).toInt) : Met l yX9_gainOf (.code yX9_gainOf cX9_gainOf 4 (some .int) :: GW) { frames := 20, cells := 0, slots := 0, locals := 667 } (va_Pc [.ref (r 0), .int p0, .int p1, .int p2] (pW (dC, dI) (WM r ct i_taped i_size i_faultKind i_at i_end i_token i_number i_bank i_rb i_codes i_within i_piled i_unitsInRule i_askHouse i_askTune i_acts i_undone i_laid i_knowns i_time f_text f_tunes f_houses f_hums f_told f_many f_ruleFrom f_ruleTo f_code f_eWhat f_eSign f_all f_kept f_was f_sTune f_boxAll J L) (TM ct) sz)) (va_Qi (fun (r0 : Int32) (u : Int32) => r0 = u) (fun (u : Int32) (t : State) => ∃ (n_i_askHouse n_i_askTune : Int32) (n_J : Nat → Nat → Int32), va_P (dC, dI) vwCl (WM r ct i_taped i_size i_faultKind i_at i_end i_token i_number i_bank i_rb i_codes i_within i_piled i_unitsInRule n_i_askHouse n_i_askTune i_acts i_undone i_laid i_knowns i_time f_text f_tunes f_houses f_hums f_told f_many f_ruleFrom f_ruleTo f_code f_eWhat f_eSign f_all f_kept f_was f_sTune f_boxAll n_J L) t.heap ∧ va_D (va_A (WM r ct i_taped i_size i_faultKind i_at i_end i_token i_number i_bank i_rb i_codes i_within i_piled i_unitsInRule i_askHouse i_askTune i_acts i_undone i_laid i_knowns i_time f_text f_tunes f_houses f_hums f_told f_many f_ruleFrom f_ruleTo f_code f_eWhat f_eSign f_all f_kept f_was f_sTune f_boxAll J L) sz) (WM r ct i_taped i_size i_faultKind i_at i_end i_token i_number i_bank i_rb i_codes i_within i_piled i_unitsInRule n_i_askHouse n_i_askTune i_acts i_undone i_laid i_knowns i_time f_text f_tunes f_houses f_hums f_told f_many f_ruleFrom f_ruleTo f_code f_eWhat f_eSign f_all f_kept f_was f_sTune f_boxAll n_J L) ∧ (IM i_taped i_size i_faultKind i_at i_end i_bank i_rb i_acts i_undone i_laid i_knowns i_time f_tunes f_houses f_hums f_told f_many f_ruleFrom f_ruleTo f_code f_all f_kept f_was f_sTune f_boxAll) ∧ (((p1.toInt ≠ p2.toInt)) ∨ ((p1.toInt = p2.toInt) ∧ (u.toInt = (0 : Int))))) (va_A (WM r ct i_taped i_size i_faultKind i_at i_end i_token i_number i_bank i_rb i_codes i_within i_piled i_unitsInRule i_askHouse i_askTune i_acts i_undone i_laid i_knowns i_time f_text f_tunes f_houses f_hums f_told f_many f_ruleFrom f_ruleTo f_code f_eWhat f_eSign f_all f_kept f_was f_sTune f_boxAll J L) sz)) 0 0 (va_A (WM r ct i_taped i_size i_faultKind i_at i_end i_token i_number i_bank i_rb i_codes i_within i_piled i_unitsInRule i_askHouse i_askTune i_acts i_undone i_laid i_knowns i_time f_text f_tunes f_houses f_hums f_told f_many f_ruleFrom f_ruleTo f_code f_eWhat f_eSign f_all f_kept f_was f_sTune f_boxAll J L) sz) := by
  refine Met.ofW (cc := cX9_gainOf) (maxL := 4) (ret := (some .int)) (by decide) rfl ?_
  intro p e s m args below meth c0 s₁ B hml hv
  obtain ⟨rfl, hsz, hP, hK, hD0⟩ := hv
  have hx := B.exec
  have hb := B.bytes
  have hr := B.returns
  have hts := atoms_spec (ws := .code yX9_gainOf cX9_gainOf 4 (some .int) :: GW) B.pre
  have hG : ∀ w ∈ GW, w.before _ s = true := fun w h => hts w (List.mem_cons_of_mem _ h)
  have hown : s.vm.findClass RX9 = some m.cls := findClass_of_methodNamed B.named
  subst hsz
  have hD := hD0.self (sz := s.heap.size)
  generalize hAe : va_A (WM r ct i_taped i_size i_faultKind i_at i_end i_token i_number i_bank i_rb i_codes i_within i_piled i_unitsInRule i_askHouse i_askTune i_acts i_undone i_laid i_knowns i_time f_text f_tunes f_houses f_hums f_told f_many f_ruleFrom f_ruleTo f_code f_eWhat f_eSign f_all f_kept f_was f_sTune f_boxAll J L) s.heap.size = A at hD ⊢
  have hA : ∀ q : Nat, s.heap.size ≤ q → A q := fun q h => by rw [← hAe]; exact Or.inr h
  have hS : va_S A s.heap s.heap [] := va_S.rf
  have hP : va_P (dC, dI) vwCl (WM r ct i_taped i_size i_faultKind i_at i_end i_token i_number i_bank i_rb i_codes i_within i_piled i_unitsInRule i_askHouse i_askTune i_acts i_undone i_laid i_knowns i_time f_text f_tunes f_houses f_hums f_told f_many f_ruleFrom f_ruleTo f_code f_eWhat f_eSign f_all f_kept f_was f_sTune f_boxAll J L) s.heap := hP
  have hl := lv_entry ([.ref (r 0), .int p0, .int p1, .int p2]) (n := 4) (Nat.le_of_ble_eq_true rfl)
  rw [lg_entry_eq]
  generalize (lg_sl ([.ref (r 0), .int p0, .int p1, .int p2]) ++ List.replicate (4 - (lg_sl ([.ref (r 0), .int p0, .int p1, .int p2])).length) Slot.unset).toArray = ls at hl ⊢
  have hl : lv_has ls 4 [(0, .ref (r 0)), (1, .int p0), (2, .int p1), (3, .int p2)] := hl
  refine nameQ (fun Q hQ => ?_)
  obtain ⟨ie0, ie1, ie2, ie3, ie4, ie5, ie6, ie7, ie8, ie9, ie10, ie11, ie12, ie13, ie14, ie15, ie16, ie17, ie18, ie19, ie20, ie21, ie22, ie23, ie24, ie25, ie26, ie27, ie28, ie29, ie30, ie31, ie32⟩ := id hI
  have f1 : 0 ≤ (f_tunes (i_bank.toInt).toNat).toInt ∧ (f_tunes (i_bank.toInt).toNat).toInt ≤ 5 := ie21 (i_bank.toInt)
  have f2 : 0 ≤ (f_houses (i_bank.toInt).toNat).toInt ∧ (f_houses (i_bank.toInt).toNat).toInt ≤ 4 := ie22 (i_bank.toInt)
  refine lv_iload_n hx hb dX9_gainOf_0 rfl (lv_at hl 2 rfl) ?_
  refine lv_iload_n hx hb dX9_gainOf_1 rfl (lv_at hl 3 rfl) ?_
  refine lv_icmp_ne (tgt := 9) hx hb dX9_gainOf_2 (by decide) (fun c_3 => ?_) (fun c_3 => ?_)
  · skip
    have f4 : p1.toInt ≠ p2.toInt := qi_ne c_3 rfl rfl
    refine lv_aload_n hx hb dX9_gainOf_9 rfl (lv_at hl 0 rfl) ?_
    refine lv_iload_n hx hb dX9_gainOf_10 rfl (lv_at hl 1 rfl) ?_
    refine lv_iload_n hx hb dX9_gainOf_11 rfl (lv_at hl 2 rfl) ?_
    refine lv_iconst (v := 0) hx hb dX9_gainOf_12 (by decide) ?_
    have hFc := frA hD hS hA
    refine va_calli (va_runV (As := [.int p0, .int p1, .int 0]) (rest := []) ⟨hx, hb, hml, hown, hG⟩ (kX9_gladBy l dC dI r ct i_taped i_size i_faultKind i_at i_end i_token i_number i_bank i_rb i_codes i_within i_piled i_unitsInRule i_askHouse i_askTune i_acts i_undone i_laid i_knowns i_time f_text f_tunes f_houses f_hums f_told f_many f_ruleFrom f_ruleTo f_code f_eWhat f_eSign f_all f_kept f_was f_sTune f_boxAll J L p0 p1 0 s.heap.size hI (ob_880 hp0 hp1) (ob_898 f2 hp0 hp1) (ob_880 hp2 hp3) (ob_881 f1 hp2 hp3)) (cwV 3 hG (goodV gw1566 gw1568 gw95 gw138 gw1569) rfl rfl rfl hd_X9_gladBy ⟨(Nat.le_of_ble_eq_true rfl), (Nat.le_of_ble_eq_true rfl)⟩) ⟨fbW, va_recv hK hP (ci := 8) (q0 := 0) rfl rfl, pW_in hP hK hD⟩ rfl rfl hl.1 rfl (lv_room (Nat.le_of_ble_eq_true rfl)) dX9_gainOf_13 ⟨(Nat.le_of_ble_eq_true rfl), (Nat.le_of_ble_eq_true rfl)⟩) hS (fun q _ h => hFc q h) hFc (fun r_6 u_ t_ H5 locs ht hvm hw hB hz1 hk1 hS => ?_)
    subst hw
    obtain ⟨x7, x8, J9, hP1, hD1, hI10⟩ := hB
    rw [ht] at hP1
    have hP := hP1
    have hD := dW hFc hD1
    obtain ⟨im11, im12, im13, im14, im15, im16, im17, im18, im19, im20, im21, im22, im23, im24, im25, im26, im27, im28, im29, im30, im31, im32, im33, im34, im35, im36, im37, im38, im39, im40, im41, im42, im43⟩ := id hI10
    rw [hQ]
    exact W.iret (v := r_6) hx hb hr (fun t ht hW => ⟨⟨r_6, r_6, rfl, rfl, ⟨x7, x8, J9, by rw [ht]; exact hP, hD, hI10, (ob_1387 hp2 hp3 f4)⟩⟩, hS.F ht⟩) hS.2.2 dX9_gainOf_16
  · skip
    have f44 : p1.toInt = p2.toInt := qi_eq c_3 rfl rfl
    refine lv_iconst (v := 0) hx hb dX9_gainOf_5 (by decide) ?_
    refine lv_goto (tgt := 16) hx hb dX9_gainOf_6 (by decide) ?_
    rw [hQ]
    exact W.iret (v := 0) hx hb hr (fun t ht hW => ⟨⟨0, 0, rfl, rfl, ⟨i_askHouse, i_askTune, J, by rw [ht]; exact hP, hD, hI, (ob_1388 hp2 hp3 f44 zc_0)⟩⟩, hS.F ht⟩) hS.2.2 dX9_gainOf_16
