set_option maxHeartbeats 4000000 in
set_option maxRecDepth 100000 in
theorem kX9_round (l : Launch) (dC : Nat → ClassId) (dI : Nat → Nat → Nat) (r : Nat → Nat) (ct : Nat → ClassId) (i_taped i_size i_faultKind i_at i_end i_token i_number i_bank i_rb i_codes i_within i_piled i_unitsInRule i_askHouse i_askTune i_acts i_undone i_laid i_knowns i_time : Int32) (f_text f_tunes f_houses f_hums f_told f_many f_ruleFrom f_ruleTo f_code f_eWhat f_eSign f_all f_kept f_was f_sTune f_boxAll : Nat → Int32) (J : Nat → Nat → Int32) (L : Nat → Nat → Int64) (p0 : Int32) (sz : Nat) (hI : (IM i_taped i_size i_faultKind i_at i_end i_bank i_rb i_acts i_undone i_laid i_knowns i_time f_tunes f_houses f_hums f_told f_many f_ruleFrom f_ruleTo f_code f_all f_kept f_was f_sTune f_boxAll)) : Met l yX9_round (.code yX9_round cX9_round 7 (some .int) :: GW) { frames := 24, cells := 0, slots := 0, locals := 793 } (va_Pc [.ref (r 0), .int p0] (pW (dC, dI) (WM r ct i_taped i_size i_faultKind i_at i_end i_token i_number i_bank i_rb i_codes i_within i_piled i_unitsInRule i_askHouse i_askTune i_acts i_undone i_laid i_knowns i_time f_text f_tunes f_houses f_hums f_told f_many f_ruleFrom f_ruleTo f_code f_eWhat f_eSign f_all f_kept f_was f_sTune f_boxAll J L) (TM ct) sz)) (va_Qi (fun (r0 : Int32) (u : Int32) => r0 = u) (fun (u : Int32) (t : State) => ∃ (n_i_askHouse n_i_askTune n_i_laid : Int32) (n_J : Nat → Nat → Int32), va_P (dC, dI) vwCl (WM r ct i_taped i_size i_faultKind i_at i_end i_token i_number i_bank i_rb i_codes i_within i_piled i_unitsInRule n_i_askHouse n_i_askTune i_acts i_undone n_i_laid i_knowns i_time f_text f_tunes f_houses f_hums f_told f_many f_ruleFrom f_ruleTo f_code f_eWhat f_eSign f_all f_kept f_was f_sTune f_boxAll n_J L) t.heap ∧ va_D (va_A (WM r ct i_taped i_size i_faultKind i_at i_end i_token i_number i_bank i_rb i_codes i_within i_piled i_unitsInRule i_askHouse i_askTune i_acts i_undone i_laid i_knowns i_time f_text f_tunes f_houses f_hums f_told f_many f_ruleFrom f_ruleTo f_code f_eWhat f_eSign f_all f_kept f_was f_sTune f_boxAll J L) sz) (WM r ct i_taped i_size i_faultKind i_at i_end i_token i_number i_bank i_rb i_codes i_within i_piled i_unitsInRule n_i_askHouse n_i_askTune i_acts i_undone n_i_laid i_knowns i_time f_text f_tunes f_houses f_hums f_told f_many f_ruleFrom f_ruleTo f_code f_eWhat f_eSign f_all f_kept f_was f_sTune f_boxAll n_J L) ∧ (IM i_taped i_size i_faultKind i_at i_end i_bank i_rb i_acts i_undone n_i_laid i_knowns i_time f_tunes f_houses f_hums f_told f_many f_ruleFrom f_ruleTo f_code f_all f_kept f_was f_sTune f_boxAll)) (va_A (WM r ct i_taped i_size i_faultKind i_at i_end i_token i_number i_bank i_rb i_codes i_within i_piled i_unitsInRule i_askHouse i_askTune i_acts i_undone i_laid i_knowns i_time f_text f_tunes f_houses f_hums f_told f_many f_ruleFrom f_ruleTo f_code f_eWhat f_eSign f_all f_kept f_was f_sTune f_boxAll J L) sz)) 0 0 (va_A (WM r ct i_taped i_size i_faultKind i_at i_end i_token i_number i_bank i_rb i_codes i_within i_piled i_unitsInRule i_askHouse i_askTune i_acts i_undone i_laid i_knowns i_time f_text f_tunes f_houses f_hums f_told f_many f_ruleFrom f_ruleTo f_code f_eWhat f_eSign f_all f_kept f_was f_sTune f_boxAll J L) sz) := by
  refine Met.ofW (cc := cX9_round) (maxL := 7) (ret := (some .int)) (by decide) rfl ?_
  intro p e s m args below meth c0 s₁ B hml hv
  obtain ⟨rfl, hsz, hP, hK, hD0⟩ := hv
  have hx := B.exec
  have hb := B.bytes
  have hr := B.returns
  have hts := atoms_spec (ws := .code yX9_round cX9_round 7 (some .int) :: GW) B.pre
  have hG : ∀ w ∈ GW, w.before _ s = true := fun w h => hts w (List.mem_cons_of_mem _ h)
  have hown : s.vm.findClass RX9 = some m.cls := findClass_of_methodNamed B.named
  subst hsz
  have hD := hD0.self (sz := s.heap.size)
  generalize hAe : va_A (WM r ct i_taped i_size i_faultKind i_at i_end i_token i_number i_bank i_rb i_codes i_within i_piled i_unitsInRule i_askHouse i_askTune i_acts i_undone i_laid i_knowns i_time f_text f_tunes f_houses f_hums f_told f_many f_ruleFrom f_ruleTo f_code f_eWhat f_eSign f_all f_kept f_was f_sTune f_boxAll J L) s.heap.size = A at hD ⊢
  have hA : ∀ q : Nat, s.heap.size ≤ q → A q := fun q h => by rw [← hAe]; exact Or.inr h
  have hS : va_S A s.heap s.heap [] := va_S.rf
  have hP : va_P (dC, dI) vwCl (WM r ct i_taped i_size i_faultKind i_at i_end i_token i_number i_bank i_rb i_codes i_within i_piled i_unitsInRule i_askHouse i_askTune i_acts i_undone i_laid i_knowns i_time f_text f_tunes f_houses f_hums f_told f_many f_ruleFrom f_ruleTo f_code f_eWhat f_eSign f_all f_kept f_was f_sTune f_boxAll J L) s.heap := hP
  have hl := lv_entry ([.ref (r 0), .int p0]) (n := 7) (Nat.le_of_ble_eq_true rfl)
  rw [lg_entry_eq]
  generalize (lg_sl ([.ref (r 0), .int p0]) ++ List.replicate (7 - (lg_sl ([.ref (r 0), .int p0])).length) Slot.unset).toArray = ls at hl ⊢
  have hl : lv_has ls 7 [(0, .ref (r 0)), (1, .int p0)] := hl
  refine nameQ (fun Q hQ => ?_)
  obtain ⟨ie0, ie1, ie2, ie3, ie4, ie5, ie6, ie7, ie8, ie9, ie10, ie11, ie12, ie13, ie14, ie15, ie16, ie17, ie18, ie19, ie20, ie21, ie22, ie23, ie24, ie25, ie26, ie27, ie28, ie29, ie30, ie31, ie32⟩ := id hI
  have f1 : 0 ≤ (f_tunes (i_bank.toInt).toNat).toInt ∧ (f_tunes (i_bank.toInt).toNat).toInt ≤ 5 := ie21 (i_bank.toInt)
  have f2 : 0 ≤ (f_houses (i_bank.toInt).toNat).toInt ∧ (f_houses (i_bank.toInt).toNat).toInt ≤ 4 := ie22 (i_bank.toInt)
  refine lv_iload_n hx hb dX9_round_0 rfl (lv_at hl 1 rfl) ?_
  refine lv_iconst (v := 0) hx hb dX9_round_1 (by decide) ?_
  refine lv_iconst (v := 1) hx hb dX9_round_2 (by decide) ?_
  refine va_calli (va_runS (As := [.int p0, .int 0, .int 1]) (rest := []) ⟨hx, hb, hml, hown, hG⟩ (kX9_isIn l dC dI p0 0 1 s.heap.size) (va_cwS 3 hG (goodS gw1516 gw1517 gw138 gw1518) rfl rfl rfl hd_X9_isIn ⟨(Nat.le_of_ble_eq_true rfl), (Nat.le_of_ble_eq_true rfl)⟩) ⟨fbR, pR_in emptyP (emptyK hK)⟩ rfl rfl hl.1 rfl (lv_room (Nat.le_of_ble_eq_true rfl)) dX9_round_3 ⟨(Nat.le_of_ble_eq_true rfl), (Nat.le_of_ble_eq_true rfl)⟩) hS (fun q hq h => absurd hq (Nat.not_lt.mpr h)) (fun q h => hA q (Nat.le_trans hS.1 h)) (fun r_4 u_ t_ H3 locs ht hvm hw hB hz1 hk1 hS => ?_)
  subst hw
  have hP := wk hP hk1
  obtain ⟨f5, f6, f7⟩ := hB
  refine lv_if_ne (tgt := 11) hx hb dX9_round_6 (by decide) (fun c_8 => ?_) (fun c_8 => ?_)
  · skip
    have f9 : r_4.toInt ≠ 0 := qi_ne c_8 rfl zc_0
    have f10 : (0 : Int) ≤ p0.toInt := (ob_1129 f5 f9 zc_1 zc_0)
    have f11 : p0.toInt ≤ (1 : Int) := (ob_1130 f5 f9 zc_1 zc_0)
    have f12 : r_4.toInt = (1 : Int) := (ob_1131 f5 f9 zc_1 zc_0)
    have f13 : (1 : Int) ≤ r_4.toInt := (ob_162 f6 f7 f12)
    refine lv_iconst (v := (-1)) hx hb dX9_round_11 (by decide) ?_
    refine lv_istore_n (lv' := [(2, .int (-1)), (0, .ref (r 0)), (1, .int p0)]) hx hb dX9_round_12 rfl hl (by decide) rfl (fun ls hl => ?_)
    refine lv_iconst (v := (-1)) hx hb dX9_round_13 (by decide) ?_
    refine lv_istore_n (lv' := [(3, .int (-1)), (2, .int (-1)), (0, .ref (r 0)), (1, .int p0)]) hx hb dX9_round_14 rfl hl (by decide) rfl (fun ls hl => ?_)
    refine lv_iconst (v := 0) hx hb dX9_round_15 (by decide) ?_
    refine lv_istore (lv' := [(4, .int 0), (3, .int (-1)), (2, .int (-1)), (0, .ref (r 0)), (1, .int p0)]) hx hb dX9_round_16 hl (by decide) rfl (fun ls hl => ?_)
    have L18 : ∀ (N18 : Nat) (y18_2 y18_3 y18_4 : Int32) (m18_i_askHouse m18_i_askTune : Int32) (m18_J : Nat → Nat → Int32) (H18 : Heap) (locs : List Loc) (ls : Array Slot) (g18_0 : (0 : Int) ≤ y18_2.toInt + 1) (g18_1 : y18_2.toInt ≤ (1048576 : Int)) (g18_2 : (0 : Int) ≤ y18_3.toInt + 1) (g18_3 : (0 : Int) ≤ y18_4.toInt) (g18_4 : y18_4.toInt ≤ (1296 : Int)) (hP : va_P (dC, dI) vwCl (WM r ct i_taped i_size i_faultKind i_at i_end i_token i_number i_bank i_rb i_codes i_within i_piled i_unitsInRule m18_i_askHouse m18_i_askTune i_acts i_undone i_laid i_knowns i_time f_text f_tunes f_houses f_hums f_told f_many f_ruleFrom f_ruleTo f_code f_eWhat f_eSign f_all f_kept f_was f_sTune f_boxAll m18_J L) H18) (hD : va_D A (WM r ct i_taped i_size i_faultKind i_at i_end i_token i_number i_bank i_rb i_codes i_within i_piled i_unitsInRule m18_i_askHouse m18_i_askTune i_acts i_undone i_laid i_knowns i_time f_text f_tunes f_houses f_hums f_told f_many f_ruleFrom f_ruleTo f_code f_eWhat f_eSign f_all f_kept f_was f_sTune f_boxAll m18_J L)) (hS : va_S A s.heap H18 locs) (hl : lv_has ls 7 [(0, .ref (r 0)), (1, .int p0), (2, .int y18_2), (3, .int y18_3), (4, .int y18_4)]) (hM : -1 * y18_4.toInt + 1296 < (N18 : Int)), W p l e { frames := 24, cells := 0, slots := 0, locals := 793 } s m ([.ref (r 0), .int p0] : List Value).toArray below meth c0 H18 locs 0 0 Q (F0 m 18 ls []) := by
      intro N18
      induction N18 with
      | zero =>
        intro y18_2 y18_3 y18_4 m18_i_askHouse m18_i_askTune m18_J H18 locs ls g18_0 g18_1 g18_2 g18_3 g18_4 hP hD hS hl hM
        exact ((ob_1291 hM g18_3 g18_4)).elim
      | succ N18 ih18 =>
        intro y18_2 y18_3 y18_4 m18_i_askHouse m18_i_askTune m18_J H18 locs ls g18_0 g18_1 g18_2 g18_3 g18_4 hP hD hS hl hM
        have hM18 := msucc hM
        refine lv_iload hx hb dX9_round_18 (lv_at hl 4 rfl) ?_
        refine lv_aload_n hx hb dX9_round_20 rfl (lv_at hl 0 rfl) ?_
        refine va_calli (va_runV (As := []) (rest := [.int y18_4]) ⟨hx, hb, hml, hown, hG⟩ (kX9_songs l dC dI r ct i_taped i_size i_faultKind i_at i_end i_token i_number i_bank i_rb i_codes i_within i_piled i_unitsInRule m18_i_askHouse m18_i_askTune i_acts i_undone i_laid i_knowns i_time f_text f_tunes f_houses f_hums f_told f_many f_ruleFrom f_ruleTo f_code f_eWhat f_eSign f_all f_kept f_was f_sTune f_boxAll m18_J L H18.size hI) (cwV 0 hG (goodV gw1512 gw1514 gw86 gw138 gw1515) rfl rfl rfl hd_X9_songs ⟨(Nat.le_of_ble_eq_true rfl), (Nat.le_of_ble_eq_true rfl)⟩) ⟨fbR, va_recv hK hP (ci := 8) (q0 := 0) rfl rfl, pR_in hP hK⟩ rfl rfl hl.1 rfl (lv_room (Nat.le_of_ble_eq_true rfl)) dX9_round_21 ⟨(Nat.le_of_ble_eq_true rfl), (Nat.le_of_ble_eq_true rfl)⟩) hS (fun q hq h => absurd hq (Nat.not_lt.mpr h)) (fun q h => hA q (Nat.le_trans hS.1 h)) (fun r_15 u_ t_ H14 locs ht hvm hw hB hz1 hk1 hS => ?_)
        subst hw
        have hP := wk hP hk1
        have f16 := hB
        have f17 : r_15.toInt = (f_tunes (i_bank.toInt).toNat).toInt := (ob_6 f16)
        refine lv_iconst (v := 1) hx hb dX9_round_24 (by decide) ?_
        refine lv_iadd hx hb dX9_round_25 ?_
        refine lv_topi (fun x18 ex18 => ?_)
        have f19 : x18.toInt = (f_tunes (i_bank.toInt).toNat).toInt + 1 := (ob_1283 (qi_add ex18 rfl zc_1 (ob_1281 f1 f17) (ob_1282 f1 f17)) f17)
        refine lv_aload_n hx hb dX9_round_26 rfl (lv_at hl 0 rfl) ?_
        refine va_calli (va_runV (As := []) (rest := [.int x18, .int y18_4]) ⟨hx, hb, hml, hown, hG⟩ (kX9_homes l dC dI r ct i_taped i_size i_faultKind i_at i_end i_token i_number i_bank i_rb i_codes i_within i_piled i_unitsInRule m18_i_askHouse m18_i_askTune i_acts i_undone i_laid i_knowns i_time f_text f_tunes f_houses f_hums f_told f_many f_ruleFrom f_ruleTo f_code f_eWhat f_eSign f_all f_kept f_was f_sTune f_boxAll m18_J L H14.size hI) (cwV 0 hG (goodV gw1167 gw1169 gw58 gw138 gw1170) rfl rfl rfl hd_X9_homes ⟨(Nat.le_of_ble_eq_true rfl), (Nat.le_of_ble_eq_true rfl)⟩) ⟨fbR, va_recv hK hP (ci := 8) (q0 := 0) rfl rfl, pR_in hP hK⟩ rfl rfl hl.1 rfl (lv_room (Nat.le_of_ble_eq_true rfl)) dX9_round_27 ⟨(Nat.le_of_ble_eq_true rfl), (Nat.le_of_ble_eq_true rfl)⟩) hS (fun q hq h => absurd hq (Nat.not_lt.mpr h)) (fun q h => hA q (Nat.le_trans hS.1 h)) (fun r_21 u_ t_ H20 locs ht hvm hw hB hz1 hk1 hS => ?_)
        subst hw
        have hP := wk hP hk1
        have f22 := hB
        have f23 : r_21.toInt = (f_houses (i_bank.toInt).toNat).toInt := (ob_6 f22)
        refine va_calli (va_runS (As := [.int x18, .int r_21]) (rest := [.int y18_4]) ⟨hx, hb, hml, hown, hG⟩ (kX9_power_v1 l dC dI x18 r_21 H20.size (ob_1284 f1 f19) (ob_1285 f1 f19) (ob_1292 f2 f23) (ob_1293 f2 f23)) (va_cwS 2 hG (goodS gw1756 gw1757 gw138 gw1758) rfl rfl rfl hd_X9_power ⟨(Nat.le_of_ble_eq_true rfl), (Nat.le_of_ble_eq_true rfl)⟩) ⟨fbR, pR_in emptyP (emptyK hK)⟩ rfl rfl hl.1 rfl (lv_room (Nat.le_of_ble_eq_true rfl)) dX9_round_30 ⟨(Nat.le_of_ble_eq_true rfl), (Nat.le_of_ble_eq_true rfl)⟩) hS (fun q hq h => absurd hq (Nat.not_lt.mpr h)) (fun q h => hA q (Nat.le_trans hS.1 h)) (fun r_25 u_ t_ H24 locs ht hvm hw hB hz1 hk1 hS => ?_)
        subst hw
        have hP := wk hP hk1
        obtain ⟨f26, f27, f28⟩ := hB
        have f29 : (pw x18.toInt (r_21.toInt).toNat) = (pw ((f_tunes (i_bank.toInt).toNat).toInt + 1) (r_21.toInt).toNat) := by rw [f19]
        have f30 : (pw ((f_tunes (i_bank.toInt).toNat).toInt + 1) (r_21.toInt).toNat) = (pw ((f_tunes (i_bank.toInt).toNat).toInt + 1) (((f_houses (i_bank.toInt).toNat).toInt)).toNat) := by rw [f23]
        have f31 : r_25.toInt = (pw ((f_tunes (i_bank.toInt).toNat).toInt + 1) (((f_houses (i_bank.toInt).toNat).toInt)).toNat) := (ob_1294 f26 f29 f30)
        refine lv_icmp_ge (tgt := 142) hx hb dX9_round_33 (by decide) (fun c_32 => ?_) (fun c_32 => ?_)
        · skip
          have f33 : r_25.toInt ≤ y18_4.toInt := qi_le c_32 rfl rfl
          refine lv_aload_n hx hb dX9_round_142 rfl (lv_at hl 0 rfl) ?_
          refine lv_aload_n hx hb dX9_round_143 rfl (lv_at hl 0 rfl) ?_
          refine va_calli (va_runV (As := []) (rest := [.ref (r 0)]) ⟨hx, hb, hml, hown, hG⟩ (kX9_homes l dC dI r ct i_taped i_size i_faultKind i_at i_end i_token i_number i_bank i_rb i_codes i_within i_piled i_unitsInRule m18_i_askHouse m18_i_askTune i_acts i_undone i_laid i_knowns i_time f_text f_tunes f_houses f_hums f_told f_many f_ruleFrom f_ruleTo f_code f_eWhat f_eSign f_all f_kept f_was f_sTune f_boxAll m18_J L H24.size hI) (cwV 0 hG (goodV gw1167 gw1169 gw58 gw138 gw1170) rfl rfl rfl hd_X9_homes ⟨(Nat.le_of_ble_eq_true rfl), (Nat.le_of_ble_eq_true rfl)⟩) ⟨fbR, va_recv hK hP (ci := 8) (q0 := 0) rfl rfl, pR_in hP hK⟩ rfl rfl hl.1 rfl (lv_room (Nat.le_of_ble_eq_true rfl)) dX9_round_144 ⟨(Nat.le_of_ble_eq_true rfl), (Nat.le_of_ble_eq_true rfl)⟩) hS (fun q hq h => absurd hq (Nat.not_lt.mpr h)) (fun q h => hA q (Nat.le_trans hS.1 h)) (fun r_35 u_ t_ H34 locs ht hvm hw hB hz1 hk1 hS => ?_)
          subst hw
          have hP := wk hP hk1
          have f36 := hB
          have f37 : r_35.toInt = (f_houses (i_bank.toInt).toNat).toInt := (ob_1295 f36 f29 f30)
          refine pM_X9_373_0 hx hb hG hown hK hP hD hS dX9_round_147 (fun H38 locs hP hD hS => ?_)
          refine lv_iconst (v := 0) hx hb dX9_round_150 (by decide) ?_
          refine lv_istore (lv' := [(4, .int 0), (0, .ref (r 0)), (1, .int p0), (2, .int y18_2), (3, .int y18_3)]) hx hb dX9_round_151 hl (by decide) rfl (fun ls hl => ?_)
          have L153 : ∀ (N153 : Nat) (y153_4 : Int32) (m153_J : Nat → Nat → Int32) (H153 : Heap) (locs : List Loc) (ls : Array Slot) (g153_0 : (0 : Int) ≤ y153_4.toInt) (g153_1 : y153_4.toInt ≤ (4 : Int)) (hP : va_P (dC, dI) vwCl (WM r ct i_taped i_size i_faultKind i_at i_end i_token i_number i_bank i_rb i_codes i_within i_piled i_unitsInRule m18_i_askHouse m18_i_askTune i_acts i_undone r_35 i_knowns i_time f_text f_tunes f_houses f_hums f_told f_many f_ruleFrom f_ruleTo f_code f_eWhat f_eSign f_all f_kept f_was f_sTune f_boxAll m153_J L) H153) (hD : va_D A (WM r ct i_taped i_size i_faultKind i_at i_end i_token i_number i_bank i_rb i_codes i_within i_piled i_unitsInRule m18_i_askHouse m18_i_askTune i_acts i_undone r_35 i_knowns i_time f_text f_tunes f_houses f_hums f_told f_many f_ruleFrom f_ruleTo f_code f_eWhat f_eSign f_all f_kept f_was f_sTune f_boxAll m153_J L)) (hS : va_S A s.heap H153 locs) (hl : lv_has ls 7 [(0, .ref (r 0)), (1, .int p0), (2, .int y18_2), (3, .int y18_3), (4, .int y153_4)]) (hM : -1 * y153_4.toInt + 4 < (N153 : Int)), W p l e { frames := 24, cells := 0, slots := 0, locals := 793 } s m ([.ref (r 0), .int p0] : List Value).toArray below meth c0 H153 locs 0 0 Q (F0 m 153 ls []) := by
            intro N153
            induction N153 with
            | zero =>
              intro y153_4 m153_J H153 locs ls g153_0 g153_1 hP hD hS hl hM
              exact ((ob_778 hM g153_0 g153_1)).elim
            | succ N153 ih153 =>
              intro y153_4 m153_J H153 locs ls g153_0 g153_1 hP hD hS hl hM
              have hM153 := msucc hM
              refine lv_iload hx hb dX9_round_153 (lv_at hl 4 rfl) ?_
              refine lv_aload_n hx hb dX9_round_155 rfl (lv_at hl 0 rfl) ?_
              refine va_calli (va_runV (As := []) (rest := [.int y153_4]) ⟨hx, hb, hml, hown, hG⟩ (kX9_homes l dC dI r ct i_taped i_size i_faultKind i_at i_end i_token i_number i_bank i_rb i_codes i_within i_piled i_unitsInRule m18_i_askHouse m18_i_askTune i_acts i_undone r_35 i_knowns i_time f_text f_tunes f_houses f_hums f_told f_many f_ruleFrom f_ruleTo f_code f_eWhat f_eSign f_all f_kept f_was f_sTune f_boxAll m153_J L H153.size ⟨ie0, ie1, ie2, ie3, ie4, ie5, ie6, ie7, (ob_1292 f2 f37), (ob_1293 f2 f37), ie10, ie11, ie12, ie13, ie14, ie15, ie16, ie17, ie18, ie19, ie20, ie21, ie22, ie23, ie24, ie25, ie26, ie27, ie28, ie29, ie30, ie31, ie32⟩) (cwV 0 hG (goodV gw1167 gw1169 gw58 gw138 gw1170) rfl rfl rfl hd_X9_homes ⟨(Nat.le_of_ble_eq_true rfl), (Nat.le_of_ble_eq_true rfl)⟩) ⟨fbR, va_recv hK hP (ci := 8) (q0 := 0) rfl rfl, pR_in hP hK⟩ rfl rfl hl.1 rfl (lv_room (Nat.le_of_ble_eq_true rfl)) dX9_round_156 ⟨(Nat.le_of_ble_eq_true rfl), (Nat.le_of_ble_eq_true rfl)⟩) hS (fun q hq h => absurd hq (Nat.not_lt.mpr h)) (fun q h => hA q (Nat.le_trans hS.1 h)) (fun r_40 u_ t_ H39 locs ht hvm hw hB hz1 hk1 hS => ?_)
              subst hw
              have hP := wk hP hk1
              have f41 := hB
              have f42 : r_40.toInt = (f_houses (i_bank.toInt).toNat).toInt := (ob_1295 f41 f29 f30)
              refine lv_icmp_ge (tgt := 212) hx hb dX9_round_159 (by decide) (fun c_43 => ?_) (fun c_43 => ?_)
              · skip
                have f44 : r_40.toInt ≤ y153_4.toInt := qi_le c_43 rfl rfl
                refine lv_iload_n hx hb dX9_round_212 rfl (lv_at hl 1 rfl) ?_
                refine lv_if_ne (tgt := 224) hx hb dX9_round_213 (by decide) (fun c_45 => ?_) (fun c_45 => ?_)
                · skip
                  have f46 : p0.toInt ≠ 0 := qi_ne c_45 rfl zc_0
                  have f47 : (1 : Int) ≤ p0.toInt := (ob_22 f10 f46)
                  refine lv_iload_n hx hb dX9_round_224 rfl (lv_at hl 3 rfl) ?_
                  refine lv_sipush (v := 1000) hx hb dX9_round_225 (by decide) ?_
                  refine lv_irem hx hb dX9_round_228 (by decide) ?_
                  refine lv_topi (fun x48 ex48 => ?_)
                  rw [hQ]
                  exact W.iret (v := x48) hx hb hr (fun t ht hW => ⟨⟨x48, x48, rfl, rfl, ⟨m18_i_askHouse, m18_i_askTune, r_35, m153_J, by rw [ht]; exact hP, hD, ⟨ie0, ie1, ie2, ie3, ie4, ie5, ie6, ie7, (ob_1296 f2 f44 f42 f37), (ob_1297 f2 f44 f42 f37), ie10, ie11, ie12, ie13, ie14, ie15, ie16, ie17, ie18, ie19, ie20, ie21, ie22, ie23, ie24, ie25, ie26, ie27, ie28, ie29, ie30, ie31, ie32⟩⟩⟩, hS.F ht⟩) hS.2.2 dX9_round_229
                · skip
                  have f49 : p0.toInt = 0 := qi_eq c_45 rfl zc_0
                  refine lv_iload_n hx hb dX9_round_216 rfl (lv_at hl 3 rfl) ?_
                  refine lv_sipush (v := 1000) hx hb dX9_round_217 (by decide) ?_
                  refine lv_idiv hx hb dX9_round_220 (by decide) ?_
                  refine lv_topi (fun x50 ex50 => ?_)
                  refine lv_goto (tgt := 229) hx hb dX9_round_221 (by decide) ?_
                  rw [hQ]
                  exact W.iret (v := x50) hx hb hr (fun t ht hW => ⟨⟨x50, x50, rfl, rfl, ⟨m18_i_askHouse, m18_i_askTune, r_35, m153_J, by rw [ht]; exact hP, hD, ⟨ie0, ie1, ie2, ie3, ie4, ie5, ie6, ie7, (ob_1296 f2 f44 f42 f37), (ob_1297 f2 f44 f42 f37), ie10, ie11, ie12, ie13, ie14, ie15, ie16, ie17, ie18, ie19, ie20, ie21, ie22, ie23, ie24, ie25, ie26, ie27, ie28, ie29, ie30, ie31, ie32⟩⟩⟩, hS.F ht⟩) hS.2.2 dX9_round_229
              · skip
                have f51 : y153_4.toInt < r_40.toInt := qi_nle c_43 rfl rfl
                refine lv_aload_n hx hb dX9_round_162 rfl (lv_at hl 0 rfl) ?_
                refine gM_X9_97_0 hx hb hG hown hK hP dX9_round_163 ?_
                refine lv_iload hx hb dX9_round_166 (lv_at hl 4 rfl) ?_
                refine lv_aload_n hx hb dX9_round_168 rfl (lv_at hl 0 rfl) ?_
                refine lv_iload_n hx hb dX9_round_169 rfl (lv_at hl 2 rfl) ?_
                refine lv_aload_n hx hb dX9_round_170 rfl (lv_at hl 0 rfl) ?_
                refine va_calli (va_runV (As := []) (rest := [.int y18_2, .ref (r 0), .int y153_4, .ref (r 28)]) ⟨hx, hb, hml, hown, hG⟩ (kX9_songs l dC dI r ct i_taped i_size i_faultKind i_at i_end i_token i_number i_bank i_rb i_codes i_within i_piled i_unitsInRule m18_i_askHouse m18_i_askTune i_acts i_undone r_35 i_knowns i_time f_text f_tunes f_houses f_hums f_told f_many f_ruleFrom f_ruleTo f_code f_eWhat f_eSign f_all f_kept f_was f_sTune f_boxAll m153_J L H39.size ⟨ie0, ie1, ie2, ie3, ie4, ie5, ie6, ie7, (ob_1298 f2 f51 f42 f37), (ob_1299 f2 f51 f42 f37), ie10, ie11, ie12, ie13, ie14, ie15, ie16, ie17, ie18, ie19, ie20, ie21, ie22, ie23, ie24, ie25, ie26, ie27, ie28, ie29, ie30, ie31, ie32⟩) (cwV 0 hG (goodV gw1512 gw1514 gw86 gw138 gw1515) rfl rfl rfl hd_X9_songs ⟨(Nat.le_of_ble_eq_true rfl), (Nat.le_of_ble_eq_true rfl)⟩) ⟨fbR, va_recv hK hP (ci := 8) (q0 := 0) rfl rfl, pR_in hP hK⟩ rfl rfl hl.1 rfl (lv_room (Nat.le_of_ble_eq_true rfl)) dX9_round_171 ⟨(Nat.le_of_ble_eq_true rfl), (Nat.le_of_ble_eq_true rfl)⟩) hS (fun q hq h => absurd hq (Nat.not_lt.mpr h)) (fun q h => hA q (Nat.le_trans hS.1 h)) (fun r_53 u_ t_ H52 locs ht hvm hw hB hz1 hk1 hS => ?_)
                subst hw
                have hP := wk hP hk1
                have f54 := hB
                have f55 : r_53.toInt = (f_tunes (i_bank.toInt).toNat).toInt := (ob_1295 f54 f29 f30)
                refine lv_iconst (v := 1) hx hb dX9_round_174 (by decide) ?_
                refine lv_iadd hx hb dX9_round_175 ?_
                refine lv_topi (fun x56 ex56 => ?_)
                have f57 : x56.toInt = (f_tunes (i_bank.toInt).toNat).toInt + 1 := (ob_1283 (qi_add ex56 rfl zc_1 (ob_1281 f1 f55) (ob_1282 f1 f55)) f55)
                refine lv_iload hx hb dX9_round_176 (lv_at hl 4 rfl) ?_
                refine va_calli (va_runV (As := [.int y18_2, .int x56, .int y153_4]) (rest := [.int y153_4, .ref (r 28)]) ⟨hx, hb, hml, hown, hG⟩ (kX9_digit l dC dI r ct i_taped i_size i_faultKind i_at i_end i_token i_number i_bank i_rb i_codes i_within i_piled i_unitsInRule m18_i_askHouse m18_i_askTune i_acts i_undone r_35 i_knowns i_time f_text f_tunes f_houses f_hums f_told f_many f_ruleFrom f_ruleTo f_code f_eWhat f_eSign f_all f_kept f_was f_sTune f_boxAll m153_J L y18_2 x56 y153_4 H52.size ⟨ie0, ie1, ie2, ie3, ie4, ie5, ie6, ie7, (ob_1298 f2 f51 f42 f37), (ob_1299 f2 f51 f42 f37), ie10, ie11, ie12, ie13, ie14, ie15, ie16, ie17, ie18, ie19, ie20, ie21, ie22, ie23, ie24, ie25, ie26, ie27, ie28, ie29, ie30, ie31, ie32⟩ (ob_1284 f1 f57) (ob_1285 f1 f57) (ob_139 g153_0) (ob_1054 f51 f42)) (cwV 3 hG (goodV gw1763 gw1765 gw116 gw138 gw1766) rfl rfl rfl hd_X9_digit ⟨(Nat.le_of_ble_eq_true rfl), (Nat.le_of_ble_eq_true rfl)⟩) ⟨fbR, va_recv hK hP (ci := 8) (q0 := 0) rfl rfl, pR_in hP hK⟩ rfl rfl hl.1 rfl (lv_room (Nat.le_of_ble_eq_true rfl)) dX9_round_178 ⟨(Nat.le_of_ble_eq_true rfl), (Nat.le_of_ble_eq_true rfl)⟩) hS (fun q hq h => absurd hq (Nat.not_lt.mpr h)) (fun q h => hA q (Nat.le_trans hS.1 h)) (fun r_59 u_ t_ H58 locs ht hvm hw hB hz1 hk1 hS => ?_)
                subst hw
                have hP := wk hP hk1
                refine lv_aload_n hx hb dX9_round_181 rfl (lv_at hl 0 rfl) ?_
                refine va_calli (va_runV (As := []) (rest := [.int r_59, .int y153_4, .ref (r 28)]) ⟨hx, hb, hml, hown, hG⟩ (kX9_songs l dC dI r ct i_taped i_size i_faultKind i_at i_end i_token i_number i_bank i_rb i_codes i_within i_piled i_unitsInRule m18_i_askHouse m18_i_askTune i_acts i_undone r_35 i_knowns i_time f_text f_tunes f_houses f_hums f_told f_many f_ruleFrom f_ruleTo f_code f_eWhat f_eSign f_all f_kept f_was f_sTune f_boxAll m153_J L H58.size ⟨ie0, ie1, ie2, ie3, ie4, ie5, ie6, ie7, (ob_1298 f2 f51 f42 f37), (ob_1299 f2 f51 f42 f37), ie10, ie11, ie12, ie13, ie14, ie15, ie16, ie17, ie18, ie19, ie20, ie21, ie22, ie23, ie24, ie25, ie26, ie27, ie28, ie29, ie30, ie31, ie32⟩) (cwV 0 hG (goodV gw1512 gw1514 gw86 gw138 gw1515) rfl rfl rfl hd_X9_songs ⟨(Nat.le_of_ble_eq_true rfl), (Nat.le_of_ble_eq_true rfl)⟩) ⟨fbR, va_recv hK hP (ci := 8) (q0 := 0) rfl rfl, pR_in hP hK⟩ rfl rfl hl.1 rfl (lv_room (Nat.le_of_ble_eq_true rfl)) dX9_round_182 ⟨(Nat.le_of_ble_eq_true rfl), (Nat.le_of_ble_eq_true rfl)⟩) hS (fun q hq h => absurd hq (Nat.not_lt.mpr h)) (fun q h => hA q (Nat.le_trans hS.1 h)) (fun r_61 u_ t_ H60 locs ht hvm hw hB hz1 hk1 hS => ?_)
                subst hw
                have hP := wk hP hk1
                have f62 := hB
                have f63 : r_61.toInt = (f_tunes (i_bank.toInt).toNat).toInt := (ob_1295 f62 f29 f30)
                refine lv_icmp_ne (tgt := 192) hx hb dX9_round_185 (by decide) (fun c_64 => ?_) (fun c_64 => ?_)
                · skip
                  have f65 : r_59.toInt ≠ r_61.toInt := qi_ne c_64 rfl rfl
                  refine lv_aload_n hx hb dX9_round_192 rfl (lv_at hl 0 rfl) ?_
                  refine lv_iload_n hx hb dX9_round_193 rfl (lv_at hl 2 rfl) ?_
                  refine lv_aload_n hx hb dX9_round_194 rfl (lv_at hl 0 rfl) ?_
                  refine va_calli (va_runV (As := []) (rest := [.int y18_2, .ref (r 0), .int y153_4, .ref (r 28)]) ⟨hx, hb, hml, hown, hG⟩ (kX9_songs l dC dI r ct i_taped i_size i_faultKind i_at i_end i_token i_number i_bank i_rb i_codes i_within i_piled i_unitsInRule m18_i_askHouse m18_i_askTune i_acts i_undone r_35 i_knowns i_time f_text f_tunes f_houses f_hums f_told f_many f_ruleFrom f_ruleTo f_code f_eWhat f_eSign f_all f_kept f_was f_sTune f_boxAll m153_J L H60.size ⟨ie0, ie1, ie2, ie3, ie4, ie5, ie6, ie7, (ob_1298 f2 f51 f42 f37), (ob_1299 f2 f51 f42 f37), ie10, ie11, ie12, ie13, ie14, ie15, ie16, ie17, ie18, ie19, ie20, ie21, ie22, ie23, ie24, ie25, ie26, ie27, ie28, ie29, ie30, ie31, ie32⟩) (cwV 0 hG (goodV gw1512 gw1514 gw86 gw138 gw1515) rfl rfl rfl hd_X9_songs ⟨(Nat.le_of_ble_eq_true rfl), (Nat.le_of_ble_eq_true rfl)⟩) ⟨fbR, va_recv hK hP (ci := 8) (q0 := 0) rfl rfl, pR_in hP hK⟩ rfl rfl hl.1 rfl (lv_room (Nat.le_of_ble_eq_true rfl)) dX9_round_195 ⟨(Nat.le_of_ble_eq_true rfl), (Nat.le_of_ble_eq_true rfl)⟩) hS (fun q hq h => absurd hq (Nat.not_lt.mpr h)) (fun q h => hA q (Nat.le_trans hS.1 h)) (fun r_67 u_ t_ H66 locs ht hvm hw hB hz1 hk1 hS => ?_)
                  subst hw
                  have hP := wk hP hk1
                  have f68 := hB
                  have f69 : r_67.toInt = (f_tunes (i_bank.toInt).toNat).toInt := (ob_1295 f68 f29 f30)
                  refine lv_iconst (v := 1) hx hb dX9_round_198 (by decide) ?_
                  refine lv_iadd hx hb dX9_round_199 ?_
                  refine lv_topi (fun x70 ex70 => ?_)
                  have f71 : x70.toInt = (f_tunes (i_bank.toInt).toNat).toInt + 1 := (ob_1283 (qi_add ex70 rfl zc_1 (ob_1281 f1 f69) (ob_1282 f1 f69)) f69)
                  refine lv_iload hx hb dX9_round_200 (lv_at hl 4 rfl) ?_
                  refine va_calli (va_runV (As := [.int y18_2, .int x70, .int y153_4]) (rest := [.int y153_4, .ref (r 28)]) ⟨hx, hb, hml, hown, hG⟩ (kX9_digit l dC dI r ct i_taped i_size i_faultKind i_at i_end i_token i_number i_bank i_rb i_codes i_within i_piled i_unitsInRule m18_i_askHouse m18_i_askTune i_acts i_undone r_35 i_knowns i_time f_text f_tunes f_houses f_hums f_told f_many f_ruleFrom f_ruleTo f_code f_eWhat f_eSign f_all f_kept f_was f_sTune f_boxAll m153_J L y18_2 x70 y153_4 H66.size ⟨ie0, ie1, ie2, ie3, ie4, ie5, ie6, ie7, (ob_1298 f2 f51 f42 f37), (ob_1299 f2 f51 f42 f37), ie10, ie11, ie12, ie13, ie14, ie15, ie16, ie17, ie18, ie19, ie20, ie21, ie22, ie23, ie24, ie25, ie26, ie27, ie28, ie29, ie30, ie31, ie32⟩ (ob_1284 f1 f71) (ob_1285 f1 f71) (ob_139 g153_0) (ob_1054 f51 f42)) (cwV 3 hG (goodV gw1763 gw1765 gw116 gw138 gw1766) rfl rfl rfl hd_X9_digit ⟨(Nat.le_of_ble_eq_true rfl), (Nat.le_of_ble_eq_true rfl)⟩) ⟨fbR, va_recv hK hP (ci := 8) (q0 := 0) rfl rfl, pR_in hP hK⟩ rfl rfl hl.1 rfl (lv_room (Nat.le_of_ble_eq_true rfl)) dX9_round_202 ⟨(Nat.le_of_ble_eq_true rfl), (Nat.le_of_ble_eq_true rfl)⟩) hS (fun q hq h => absurd hq (Nat.not_lt.mpr h)) (fun q h => hA q (Nat.le_trans hS.1 h)) (fun r_73 u_ t_ H72 locs ht hvm hw hB hz1 hk1 hS => ?_)
                  subst hw
                  have hP := wk hP hk1
                  refine stM_28 (mm := y153_4.toInt) hx hb hK hP hD hS rfl (ob_350 g153_0) (ob_1300 f2 f51 f42) dX9_round_205 (fun J75 H74 locs hP hD hS => ?_)
                  obtain ⟨x76, ex76⟩ : ∃ y : Int32, y = y153_4 + Int32.ofInt 1 := ⟨_, rfl⟩
                  have f77 : x76.toInt = y153_4.toInt + 1 := (ob_142 (qi_add ex76 rfl (by decide) (ob_140 g153_0) (ob_794 g153_1)))
                  refine lv_iinc (v := x76) (lv' := [(4, .int x76), (0, .ref (r 0)), (1, .int p0), (2, .int y18_2), (3, .int y18_3)]) hx hb dX9_round_206 hl (k := 4) rfl ex76.symm (by decide) rfl (fun ls hl => ?_)
                  refine lv_goto (tgt := 153) hx hb dX9_round_209 (by decide) ?_
                  exact ih153 x76 J75 H74 _ _ (ob_149 g153_0 f77) (ob_795 f2 f51 f42 f77) hP hD hS (lv_sub hl [1, 2, 3, 4, 0] rfl) (ob_796 hM153 f77)
                · skip
                  have f78 : r_59.toInt = r_61.toInt := qi_eq c_64 rfl rfl
                  refine lv_iconst (v := (-1)) hx hb dX9_round_188 (by decide) ?_
                  refine lv_goto (tgt := 205) hx hb dX9_round_189 (by decide) ?_
                  refine stM_28 (mm := y153_4.toInt) hx hb hK hP hD hS rfl (ob_350 g153_0) (ob_1300 f2 f51 f42) dX9_round_205 (fun J80 H79 locs hP hD hS => ?_)
                  obtain ⟨x81, ex81⟩ : ∃ y : Int32, y = y153_4 + Int32.ofInt 1 := ⟨_, rfl⟩
                  have f82 : x81.toInt = y153_4.toInt + 1 := (ob_142 (qi_add ex81 rfl (by decide) (ob_140 g153_0) (ob_794 g153_1)))
                  refine lv_iinc (v := x81) (lv' := [(4, .int x81), (0, .ref (r 0)), (1, .int p0), (2, .int y18_2), (3, .int y18_3)]) hx hb dX9_round_206 hl (k := 4) rfl ex81.symm (by decide) rfl (fun ls hl => ?_)
                  refine lv_goto (tgt := 153) hx hb dX9_round_209 (by decide) ?_
                  exact ih153 x81 J80 H79 _ _ (ob_149 g153_0 f82) (ob_795 f2 f51 f42 f82) hP hD hS (lv_sub hl [1, 2, 3, 4, 0] rfl) (ob_796 hM153 f82)
          exact L153 (-1 * (0 : Int32).toInt + 4 + 1).toNat 0 m18_J H38 _ _ (ob_1 zc_0) (ob_797 zc_0) hP hD hS (lv_sub hl [1, 2, 3, 4, 0] rfl) (mlt (ob_798 zc_0))
        · skip
          have f83 : y18_4.toInt < r_25.toInt := qi_nle c_32 rfl rfl
          refine lv_aload_n hx hb dX9_round_36 rfl (lv_at hl 0 rfl) ?_
          refine lv_iload hx hb dX9_round_37 (lv_at hl 4 rfl) ?_
          have hFc := frA hD hS hA
          refine va_calli (va_runV (As := [.int y18_4]) (rest := []) ⟨hx, hb, hml, hown, hG⟩ (kX9_isRound l dC dI r ct i_taped i_size i_faultKind i_at i_end i_token i_number i_bank i_rb i_codes i_within i_piled i_unitsInRule m18_i_askHouse m18_i_askTune i_acts i_undone i_laid i_knowns i_time f_text f_tunes f_houses f_hums f_told f_many f_ruleFrom f_ruleTo f_code f_eWhat f_eSign f_all f_kept f_was f_sTune f_boxAll m18_J L y18_4 H24.size hI (ob_139 g18_3)) (cwV 1 hG (goodV gw1759 gw1761 gw115 gw138 gw1762) rfl rfl rfl hd_X9_isRound ⟨(Nat.le_of_ble_eq_true rfl), (Nat.le_of_ble_eq_true rfl)⟩) ⟨fbW, va_recv hK hP (ci := 8) (q0 := 0) rfl rfl, pW_in hP hK hD⟩ rfl rfl hl.1 rfl (lv_room (Nat.le_of_ble_eq_true rfl)) dX9_round_39 ⟨(Nat.le_of_ble_eq_true rfl), (Nat.le_of_ble_eq_true rfl)⟩) hS (fun q _ h => hFc q h) hFc (fun r_85 u_ t_ H84 locs ht hvm hw hB hz1 hk1 hS => ?_)
          subst hw
          obtain ⟨x86, x87, J88, hP1, hD1, hI92, f89, f90, f91⟩ := hB
          rw [ht] at hP1
          have hP := hP1
          have hD := dW hFc hD1
          obtain ⟨im93, im94, im95, im96, im97, im98, im99, im100, im101, im102, im103, im104, im105, im106, im107, im108, im109, im110, im111, im112, im113, im114, im115, im116, im117, im118, im119, im120, im121, im122, im123, im124, im125⟩ := id hI92
          refine lv_if_ne (tgt := 48) hx hb dX9_round_42 (by decide) (fun c_126 => ?_) (fun c_126 => ?_)
          · skip
            have f127 : r_85.toInt ≠ 0 := qi_ne c_126 rfl zc_0
            have f128 : r_85.toInt = (1 : Int) := (ob_1301 f89 f127)
            have f129 : (1 : Int) ≤ r_85.toInt := (ob_162 f90 f91 f128)
            refine lv_iconst (v := 0) hx hb dX9_round_48 (by decide) ?_
            refine lv_istore (lv' := [(5, .int 0), (0, .ref (r 0)), (1, .int p0), (2, .int y18_2), (3, .int y18_3), (4, .int y18_4)]) hx hb dX9_round_49 hl (by decide) rfl (fun ls hl => ?_)
            refine lv_iconst (v := 0) hx hb dX9_round_51 (by decide) ?_
            refine lv_istore (lv' := [(6, .int 0), (5, .int 0), (0, .ref (r 0)), (1, .int p0), (2, .int y18_2), (3, .int y18_3), (4, .int y18_4)]) hx hb dX9_round_52 hl (by decide) rfl (fun ls hl => ?_)
            have L54 : ∀ (N54 : Nat) (y54_5 y54_6 : Int32) (H54 : Heap) (locs : List Loc) (ls : Array Slot) (g54_0 : (0 : Int) ≤ y54_6.toInt) (g54_1 : y54_6.toInt ≤ (4 : Int)) (hP : va_P (dC, dI) vwCl (WM r ct i_taped i_size i_faultKind i_at i_end i_token i_number i_bank i_rb i_codes i_within i_piled i_unitsInRule x86 x87 i_acts i_undone i_laid i_knowns i_time f_text f_tunes f_houses f_hums f_told f_many f_ruleFrom f_ruleTo f_code f_eWhat f_eSign f_all f_kept f_was f_sTune f_boxAll J88 L) H54) (hD : va_D A (WM r ct i_taped i_size i_faultKind i_at i_end i_token i_number i_bank i_rb i_codes i_within i_piled i_unitsInRule x86 x87 i_acts i_undone i_laid i_knowns i_time f_text f_tunes f_houses f_hums f_told f_many f_ruleFrom f_ruleTo f_code f_eWhat f_eSign f_all f_kept f_was f_sTune f_boxAll J88 L)) (hS : va_S A s.heap H54 locs) (hl : lv_has ls 7 [(0, .ref (r 0)), (1, .int p0), (2, .int y18_2), (3, .int y18_3), (4, .int y18_4), (5, .int y54_5), (6, .int y54_6)]) (hM : -1 * y54_6.toInt + 4 < (N54 : Int)), W p l e { frames := 24, cells := 0, slots := 0, locals := 793 } s m ([.ref (r 0), .int p0] : List Value).toArray below meth c0 H54 locs 0 0 Q (F0 m 54 ls []) := by
              intro N54
              induction N54 with
              | zero =>
                intro y54_5 y54_6 H54 locs ls g54_0 g54_1 hP hD hS hl hM
                exact ((ob_778 hM g54_0 g54_1)).elim
              | succ N54 ih54 =>
                intro y54_5 y54_6 H54 locs ls g54_0 g54_1 hP hD hS hl hM
                have hM54 := msucc hM
                refine lv_iload hx hb dX9_round_54 (lv_at hl 6 rfl) ?_
                refine lv_aload_n hx hb dX9_round_56 rfl (lv_at hl 0 rfl) ?_
                refine va_calli (va_runV (As := []) (rest := [.int y54_6]) ⟨hx, hb, hml, hown, hG⟩ (kX9_homes l dC dI r ct i_taped i_size i_faultKind i_at i_end i_token i_number i_bank i_rb i_codes i_within i_piled i_unitsInRule x86 x87 i_acts i_undone i_laid i_knowns i_time f_text f_tunes f_houses f_hums f_told f_many f_ruleFrom f_ruleTo f_code f_eWhat f_eSign f_all f_kept f_was f_sTune f_boxAll J88 L H54.size hI92) (cwV 0 hG (goodV gw1167 gw1169 gw58 gw138 gw1170) rfl rfl rfl hd_X9_homes ⟨(Nat.le_of_ble_eq_true rfl), (Nat.le_of_ble_eq_true rfl)⟩) ⟨fbR, va_recv hK hP (ci := 8) (q0 := 0) rfl rfl, pR_in hP hK⟩ rfl rfl hl.1 rfl (lv_room (Nat.le_of_ble_eq_true rfl)) dX9_round_57 ⟨(Nat.le_of_ble_eq_true rfl), (Nat.le_of_ble_eq_true rfl)⟩) hS (fun q hq h => absurd hq (Nat.not_lt.mpr h)) (fun q h => hA q (Nat.le_trans hS.1 h)) (fun r_131 u_ t_ H130 locs ht hvm hw hB hz1 hk1 hS => ?_)
                subst hw
                have hP := wk hP hk1
                have f132 := hB
                have f133 : r_131.toInt = (f_houses (i_bank.toInt).toNat).toInt := (ob_1295 f132 f29 f30)
                refine lv_icmp_ge (tgt := 121) hx hb dX9_round_60 (by decide) (fun c_134 => ?_) (fun c_134 => ?_)
                · skip
                  have f135 : r_131.toInt ≤ y54_6.toInt := qi_le c_134 rfl rfl
                  refine lv_iload hx hb dX9_round_121 (lv_at hl 5 rfl) ?_
                  refine lv_iload_n hx hb dX9_round_123 rfl (lv_at hl 3 rfl) ?_
                  refine lv_icmp_gt (tgt := 130) hx hb dX9_round_124 (by decide) (fun c_136 => ?_) (fun c_136 => ?_)
                  · skip
                    have f137 : y18_3.toInt < y54_5.toInt := qi_lt c_136 rfl rfl
                    refine lv_iload hx hb dX9_round_130 (lv_at hl 4 rfl) ?_
                    refine lv_istore_n (lv' := [(2, .int y18_4), (0, .ref (r 0)), (1, .int p0), (3, .int y18_3), (4, .int y18_4), (5, .int y54_5), (6, .int y54_6)]) hx hb dX9_round_132 rfl hl (by decide) rfl (fun ls hl => ?_)
                    refine lv_iload hx hb dX9_round_133 (lv_at hl 5 rfl) ?_
                    refine lv_istore_n (lv' := [(3, .int y54_5), (2, .int y18_4), (0, .ref (r 0)), (1, .int p0), (4, .int y18_4), (5, .int y54_5), (6, .int y54_6)]) hx hb dX9_round_135 rfl hl (by decide) rfl (fun ls hl => ?_)
                    obtain ⟨x138, ex138⟩ : ∃ y : Int32, y = y18_4 + Int32.ofInt 1 := ⟨_, rfl⟩
                    have f139 : x138.toInt = y18_4.toInt + 1 := (ob_142 (qi_add ex138 rfl (by decide) (ob_140 g18_3) (ob_1302 g18_4)))
                    refine lv_iinc (v := x138) (lv' := [(4, .int x138), (3, .int y54_5), (2, .int y18_4), (0, .ref (r 0)), (1, .int p0), (5, .int y54_5), (6, .int y54_6)]) hx hb dX9_round_136 hl (k := 4) rfl ex138.symm (by decide) rfl (fun ls hl => ?_)
                    refine lv_goto (tgt := 18) hx hb dX9_round_139 (by decide) ?_
                    exact ih18 y18_4 y54_5 x138 x86 x87 J88 H130 _ _ (ob_1053 g18_3) (ob_1303 g18_4) (ob_1304 g18_2 f137) (ob_149 g18_3 f139) (ob_1305 f29 f30 f28 f83 f31 f139) hP hD hS (lv_sub hl [3, 4, 2, 1, 0] rfl) (ob_1306 hM18 f139)
                  · skip
                    have f140 : y54_5.toInt ≤ y18_3.toInt := qi_nlt c_136 rfl rfl
                    refine lv_goto (tgt := 136) hx hb dX9_round_127 (by decide) ?_
                    obtain ⟨x141, ex141⟩ : ∃ y : Int32, y = y18_4 + Int32.ofInt 1 := ⟨_, rfl⟩
                    have f142 : x141.toInt = y18_4.toInt + 1 := (ob_142 (qi_add ex141 rfl (by decide) (ob_140 g18_3) (ob_1302 g18_4)))
                    refine lv_iinc (v := x141) (lv' := [(4, .int x141), (0, .ref (r 0)), (1, .int p0), (2, .int y18_2), (3, .int y18_3), (5, .int y54_5), (6, .int y54_6)]) hx hb dX9_round_136 hl (k := 4) rfl ex141.symm (by decide) rfl (fun ls hl => ?_)
                    refine lv_goto (tgt := 18) hx hb dX9_round_139 (by decide) ?_
                    exact ih18 y18_2 y18_3 x141 x86 x87 J88 H130 _ _ (ob_1145 g18_0 g18_1) (ob_1146 g18_0 g18_1) (ob_1307 g18_2 f140) (ob_149 g18_3 f142) (ob_1305 f29 f30 f28 f83 f31 f142) hP hD hS (lv_sub hl [1, 2, 3, 4, 0] rfl) (ob_1306 hM18 f142)
                · skip
                  have f143 : y54_6.toInt < r_131.toInt := qi_nle c_134 rfl rfl
                  refine lv_iload hx hb dX9_round_63 (lv_at hl 5 rfl) ?_
                  refine lv_aload_n hx hb dX9_round_65 rfl (lv_at hl 0 rfl) ?_
                  refine lv_iload hx hb dX9_round_66 (lv_at hl 4 rfl) ?_
                  refine lv_aload_n hx hb dX9_round_68 rfl (lv_at hl 0 rfl) ?_
                  refine va_calli (va_runV (As := []) (rest := [.int y18_4, .ref (r 0), .int y54_5]) ⟨hx, hb, hml, hown, hG⟩ (kX9_songs l dC dI r ct i_taped i_size i_faultKind i_at i_end i_token i_number i_bank i_rb i_codes i_within i_piled i_unitsInRule x86 x87 i_acts i_undone i_laid i_knowns i_time f_text f_tunes f_houses f_hums f_told f_many f_ruleFrom f_ruleTo f_code f_eWhat f_eSign f_all f_kept f_was f_sTune f_boxAll J88 L H130.size hI92) (cwV 0 hG (goodV gw1512 gw1514 gw86 gw138 gw1515) rfl rfl rfl hd_X9_songs ⟨(Nat.le_of_ble_eq_true rfl), (Nat.le_of_ble_eq_true rfl)⟩) ⟨fbR, va_recv hK hP (ci := 8) (q0 := 0) rfl rfl, pR_in hP hK⟩ rfl rfl hl.1 rfl (lv_room (Nat.le_of_ble_eq_true rfl)) dX9_round_69 ⟨(Nat.le_of_ble_eq_true rfl), (Nat.le_of_ble_eq_true rfl)⟩) hS (fun q hq h => absurd hq (Nat.not_lt.mpr h)) (fun q h => hA q (Nat.le_trans hS.1 h)) (fun r_145 u_ t_ H144 locs ht hvm hw hB hz1 hk1 hS => ?_)
                  subst hw
                  have hP := wk hP hk1
                  have f146 := hB
                  have f147 : r_145.toInt = (f_tunes (i_bank.toInt).toNat).toInt := (ob_1295 f146 f29 f30)
                  refine lv_iconst (v := 1) hx hb dX9_round_72 (by decide) ?_
                  refine lv_iadd hx hb dX9_round_73 ?_
                  refine lv_topi (fun x148 ex148 => ?_)
                  have f149 : x148.toInt = (f_tunes (i_bank.toInt).toNat).toInt + 1 := (ob_1283 (qi_add ex148 rfl zc_1 (ob_1281 f1 f147) (ob_1282 f1 f147)) f147)
                  refine lv_iload hx hb dX9_round_74 (lv_at hl 6 rfl) ?_
                  refine va_calli (va_runV (As := [.int y18_4, .int x148, .int y54_6]) (rest := [.int y54_5]) ⟨hx, hb, hml, hown, hG⟩ (kX9_digit_v1 l dC dI r ct i_taped i_size i_faultKind i_at i_end i_token i_number i_bank i_rb i_codes i_within i_piled i_unitsInRule x86 x87 i_acts i_undone i_laid i_knowns i_time f_text f_tunes f_houses f_hums f_told f_many f_ruleFrom f_ruleTo f_code f_eWhat f_eSign f_all f_kept f_was f_sTune f_boxAll J88 L y18_4 x148 y54_6 H144.size hI92 (ob_1284 f1 f149) (ob_1285 f1 f149) (ob_139 g54_0) (ob_1054 f143 f133) (ob_139 g18_3)) (cwV 3 hG (goodV gw1763 gw1765 gw116 gw138 gw1766) rfl rfl rfl hd_X9_digit ⟨(Nat.le_of_ble_eq_true rfl), (Nat.le_of_ble_eq_true rfl)⟩) ⟨fbR, va_recv hK hP (ci := 8) (q0 := 0) rfl rfl, pR_in hP hK⟩ rfl rfl hl.1 rfl (lv_room (Nat.le_of_ble_eq_true rfl)) dX9_round_76 ⟨(Nat.le_of_ble_eq_true rfl), (Nat.le_of_ble_eq_true rfl)⟩) hS (fun q hq h => absurd hq (Nat.not_lt.mpr h)) (fun q h => hA q (Nat.le_trans hS.1 h)) (fun r_151 u_ t_ H150 locs ht hvm hw hB hz1 hk1 hS => ?_)
                  subst hw
                  have hP := wk hP hk1
                  obtain ⟨f152, f153, f154, f155⟩ := hB
                  have f156 : ((y18_4.toInt / (pw x148.toInt (((f_houses (i_bank.toInt).toNat).toInt + -1 * y54_6.toInt + (-1))).toNat)) % x148.toInt) = ((y18_4.toInt / (pw ((f_tunes (i_bank.toInt).toNat).toInt + 1) (((f_houses (i_bank.toInt).toNat).toInt + -1 * y54_6.toInt + (-1))).toNat)) % ((f_tunes (i_bank.toInt).toNat).toInt + 1)) := by rw [f149]
                  have f157 : r_151.toInt = ((y18_4.toInt / (pw ((f_tunes (i_bank.toInt).toNat).toInt + 1) (((f_houses (i_bank.toInt).toNat).toInt + -1 * y54_6.toInt + (-1))).toNat)) % ((f_tunes (i_bank.toInt).toNat).toInt + 1)) := (ob_1308 f152 f29 f30 f156)
                  refine lv_aload_n hx hb dX9_round_79 rfl (lv_at hl 0 rfl) ?_
                  refine va_calli (va_runV (As := []) (rest := [.int r_151, .int y54_5]) ⟨hx, hb, hml, hown, hG⟩ (kX9_songs l dC dI r ct i_taped i_size i_faultKind i_at i_end i_token i_number i_bank i_rb i_codes i_within i_piled i_unitsInRule x86 x87 i_acts i_undone i_laid i_knowns i_time f_text f_tunes f_houses f_hums f_told f_many f_ruleFrom f_ruleTo f_code f_eWhat f_eSign f_all f_kept f_was f_sTune f_boxAll J88 L H150.size hI92) (cwV 0 hG (goodV gw1512 gw1514 gw86 gw138 gw1515) rfl rfl rfl hd_X9_songs ⟨(Nat.le_of_ble_eq_true rfl), (Nat.le_of_ble_eq_true rfl)⟩) ⟨fbR, va_recv hK hP (ci := 8) (q0 := 0) rfl rfl, pR_in hP hK⟩ rfl rfl hl.1 rfl (lv_room (Nat.le_of_ble_eq_true rfl)) dX9_round_80 ⟨(Nat.le_of_ble_eq_true rfl), (Nat.le_of_ble_eq_true rfl)⟩) hS (fun q hq h => absurd hq (Nat.not_lt.mpr h)) (fun q h => hA q (Nat.le_trans hS.1 h)) (fun r_159 u_ t_ H158 locs ht hvm hw hB hz1 hk1 hS => ?_)
                  subst hw
                  have hP := wk hP hk1
                  have f160 := hB
                  have f161 : r_159.toInt = (f_tunes (i_bank.toInt).toNat).toInt := (ob_1309 f160 f29 f30 f156)
                  refine lv_icmp_ge (tgt := 111) hx hb dX9_round_83 (by decide) (fun c_162 => ?_) (fun c_162 => ?_)
                  · skip
                    have f163 : r_159.toInt ≤ r_151.toInt := qi_le c_162 rfl rfl
                    refine lv_iconst (v := 0) hx hb dX9_round_111 (by decide) ?_
                    refine lv_iadd hx hb dX9_round_112 ?_
                    refine lv_topi (fun x164 ex164 => ?_)
                    refine lv_istore (lv' := [(5, .int x164), (0, .ref (r 0)), (1, .int p0), (2, .int y18_2), (3, .int y18_3), (4, .int y18_4), (6, .int y54_6)]) hx hb dX9_round_113 hl (by decide) rfl (fun ls hl => ?_)
                    obtain ⟨x165, ex165⟩ : ∃ y : Int32, y = y54_6 + Int32.ofInt 1 := ⟨_, rfl⟩
                    have f166 : x165.toInt = y54_6.toInt + 1 := (ob_142 (qi_add ex165 rfl (by decide) (ob_140 g54_0) (ob_794 g54_1)))
                    refine lv_iinc (v := x165) (lv' := [(6, .int x165), (5, .int x164), (0, .ref (r 0)), (1, .int p0), (2, .int y18_2), (3, .int y18_3), (4, .int y18_4)]) hx hb dX9_round_115 hl (k := 6) rfl ex165.symm (by decide) rfl (fun ls hl => ?_)
                    refine lv_goto (tgt := 54) hx hb dX9_round_118 (by decide) ?_
                    exact ih54 x164 x165 H158 _ _ (ob_149 g54_0 f166) (ob_795 f2 f143 f133 f166) hP hD hS (lv_sub hl [2, 3, 4, 5, 6, 1, 0] rfl) (ob_796 hM54 f166)
                  · skip
                    have f167 : r_151.toInt < r_159.toInt := qi_nle c_162 rfl rfl
                    refine lv_sipush (v := 1000) hx hb dX9_round_86 (by decide) ?_
                    refine lv_aload_n hx hb dX9_round_89 rfl (lv_at hl 0 rfl) ?_
                    refine lv_aload_n hx hb dX9_round_90 rfl (lv_at hl 0 rfl) ?_
                    refine lv_iload hx hb dX9_round_91 (lv_at hl 4 rfl) ?_
                    refine lv_aload_n hx hb dX9_round_93 rfl (lv_at hl 0 rfl) ?_
                    refine va_calli (va_runV (As := []) (rest := [.int y18_4, .ref (r 0), .ref (r 0), .int 1000, .int y54_5]) ⟨hx, hb, hml, hown, hG⟩ (kX9_songs l dC dI r ct i_taped i_size i_faultKind i_at i_end i_token i_number i_bank i_rb i_codes i_within i_piled i_unitsInRule x86 x87 i_acts i_undone i_laid i_knowns i_time f_text f_tunes f_houses f_hums f_told f_many f_ruleFrom f_ruleTo f_code f_eWhat f_eSign f_all f_kept f_was f_sTune f_boxAll J88 L H158.size hI92) (cwV 0 hG (goodV gw1512 gw1514 gw86 gw138 gw1515) rfl rfl rfl hd_X9_songs ⟨(Nat.le_of_ble_eq_true rfl), (Nat.le_of_ble_eq_true rfl)⟩) ⟨fbR, va_recv hK hP (ci := 8) (q0 := 0) rfl rfl, pR_in hP hK⟩ rfl rfl hl.1 rfl (lv_room (Nat.le_of_ble_eq_true rfl)) dX9_round_94 ⟨(Nat.le_of_ble_eq_true rfl), (Nat.le_of_ble_eq_true rfl)⟩) hS (fun q hq h => absurd hq (Nat.not_lt.mpr h)) (fun q h => hA q (Nat.le_trans hS.1 h)) (fun r_169 u_ t_ H168 locs ht hvm hw hB hz1 hk1 hS => ?_)
                    subst hw
                    have hP := wk hP hk1
                    have f170 := hB
                    have f171 : r_169.toInt = (f_tunes (i_bank.toInt).toNat).toInt := (ob_1309 f170 f29 f30 f156)
                    refine lv_iconst (v := 1) hx hb dX9_round_97 (by decide) ?_
                    refine lv_iadd hx hb dX9_round_98 ?_
                    refine lv_topi (fun x172 ex172 => ?_)
                    have f173 : x172.toInt = (f_tunes (i_bank.toInt).toNat).toInt + 1 := (ob_1283 (qi_add ex172 rfl zc_1 (ob_1310 f1 f154 f167 f157 f161 f149 f171) (ob_1311 f1 f154 f167 f157 f161 f149 f171)) f171)
                    refine lv_iload hx hb dX9_round_99 (lv_at hl 6 rfl) ?_
                    refine va_calli (va_runV (As := [.int y18_4, .int x172, .int y54_6]) (rest := [.ref (r 0), .int 1000, .int y54_5]) ⟨hx, hb, hml, hown, hG⟩ (kX9_digit_v1 l dC dI r ct i_taped i_size i_faultKind i_at i_end i_token i_number i_bank i_rb i_codes i_within i_piled i_unitsInRule x86 x87 i_acts i_undone i_laid i_knowns i_time f_text f_tunes f_houses f_hums f_told f_many f_ruleFrom f_ruleTo f_code f_eWhat f_eSign f_all f_kept f_was f_sTune f_boxAll J88 L y18_4 x172 y54_6 H168.size hI92 (ob_1312 f1 f154 f167 f157 f161 f149 f173) (ob_1313 f1 f154 f167 f157 f161 f149 f173) (ob_139 g54_0) (ob_1054 f143 f133) (ob_139 g18_3)) (cwV 3 hG (goodV gw1763 gw1765 gw116 gw138 gw1766) rfl rfl rfl hd_X9_digit ⟨(Nat.le_of_ble_eq_true rfl), (Nat.le_of_ble_eq_true rfl)⟩) ⟨fbR, va_recv hK hP (ci := 8) (q0 := 0) rfl rfl, pR_in hP hK⟩ rfl rfl hl.1 rfl (lv_room (Nat.le_of_ble_eq_true rfl)) dX9_round_101 ⟨(Nat.le_of_ble_eq_true rfl), (Nat.le_of_ble_eq_true rfl)⟩) hS (fun q hq h => absurd hq (Nat.not_lt.mpr h)) (fun q h => hA q (Nat.le_trans hS.1 h)) (fun r_175 u_ t_ H174 locs ht hvm hw hB hz1 hk1 hS => ?_)
                    subst hw
                    have hP := wk hP hk1
                    obtain ⟨f176, f177, f178, f179⟩ := hB
                    have f180 : ((y18_4.toInt / (pw x172.toInt (((f_houses (i_bank.toInt).toNat).toInt + -1 * y54_6.toInt + (-1))).toNat)) % x172.toInt) = ((y18_4.toInt / (pw ((f_tunes (i_bank.toInt).toNat).toInt + 1) (((f_houses (i_bank.toInt).toNat).toInt + -1 * y54_6.toInt + (-1))).toNat)) % ((f_tunes (i_bank.toInt).toNat).toInt + 1)) := by rw [f173]
                    have f181 : r_175.toInt = ((y18_4.toInt / (pw ((f_tunes (i_bank.toInt).toNat).toInt + 1) (((f_houses (i_bank.toInt).toNat).toInt + -1 * y54_6.toInt + (-1))).toNat)) % ((f_tunes (i_bank.toInt).toNat).toInt + 1)) := (ob_1314 f176 f29 f30 f156 f180)
                    refine va_calli (va_runV (As := [.int r_175]) (rest := [.int 1000, .int y54_5]) ⟨hx, hb, hml, hown, hG⟩ (kX9_priceOf l dC dI r ct i_taped i_size i_faultKind i_at i_end i_token i_number i_bank i_rb i_codes i_within i_piled i_unitsInRule x86 x87 i_acts i_undone i_laid i_knowns i_time f_text f_tunes f_houses f_hums f_told f_many f_ruleFrom f_ruleTo f_code f_eWhat f_eSign f_all f_kept f_was f_sTune f_boxAll J88 L r_175 H174.size hI92 (ob_1289 f156 f153 f181) (ob_1315 f167 f157 f161 f181)) (cwV 1 hG (goodV gw1519 gw1521 gw87 gw138 gw1522) rfl rfl rfl hd_X9_priceOf ⟨(Nat.le_of_ble_eq_true rfl), (Nat.le_of_ble_eq_true rfl)⟩) ⟨fbR, va_recv hK hP (ci := 8) (q0 := 0) rfl rfl, pR_in hP hK⟩ rfl rfl hl.1 rfl (lv_room (Nat.le_of_ble_eq_true rfl)) dX9_round_104 ⟨(Nat.le_of_ble_eq_true rfl), (Nat.le_of_ble_eq_true rfl)⟩) hS (fun q hq h => absurd hq (Nat.not_lt.mpr h)) (fun q h => hA q (Nat.le_trans hS.1 h)) (fun r_183 u_ t_ H182 locs ht hvm hw hB hz1 hk1 hS => ?_)
                    subst hw
                    have hP := wk hP hk1
                    refine lv_iadd hx hb dX9_round_107 ?_
                    refine lv_topi (fun x184 ex184 => ?_)
                    refine lv_goto (tgt := 112) hx hb dX9_round_108 (by decide) ?_
                    refine lv_iadd hx hb dX9_round_112 ?_
                    refine lv_topi (fun x185 ex185 => ?_)
                    refine lv_istore (lv' := [(5, .int x185), (0, .ref (r 0)), (1, .int p0), (2, .int y18_2), (3, .int y18_3), (4, .int y18_4), (6, .int y54_6)]) hx hb dX9_round_113 hl (by decide) rfl (fun ls hl => ?_)
                    obtain ⟨x186, ex186⟩ : ∃ y : Int32, y = y54_6 + Int32.ofInt 1 := ⟨_, rfl⟩
                    have f187 : x186.toInt = y54_6.toInt + 1 := (ob_142 (qi_add ex186 rfl (by decide) (ob_140 g54_0) (ob_794 g54_1)))
                    refine lv_iinc (v := x186) (lv' := [(6, .int x186), (5, .int x185), (0, .ref (r 0)), (1, .int p0), (2, .int y18_2), (3, .int y18_3), (4, .int y18_4)]) hx hb dX9_round_115 hl (k := 6) rfl ex186.symm (by decide) rfl (fun ls hl => ?_)
                    refine lv_goto (tgt := 54) hx hb dX9_round_118 (by decide) ?_
                    exact ih54 x185 x186 H182 _ _ (ob_149 g54_0 f187) (ob_795 f2 f143 f133 f187) hP hD hS (lv_sub hl [2, 3, 4, 5, 6, 1, 0] rfl) (ob_796 hM54 f187)
            exact L54 (-1 * (0 : Int32).toInt + 4 + 1).toNat 0 0 H84 _ _ (ob_1 zc_0) (ob_797 zc_0) hP hD hS (lv_sub hl [2, 3, 4, 5, 6, 1, 0] rfl) (mlt (ob_798 zc_0))
          · skip
            have f188 : r_85.toInt = 0 := qi_eq c_126 rfl zc_0
            have f189 : r_85.toInt = (0 : Int) := (ob_226 f90 f91 f188)
            refine lv_goto (tgt := 136) hx hb dX9_round_45 (by decide) ?_
            obtain ⟨x190, ex190⟩ : ∃ y : Int32, y = y18_4 + Int32.ofInt 1 := ⟨_, rfl⟩
            have f191 : x190.toInt = y18_4.toInt + 1 := (ob_142 (qi_add ex190 rfl (by decide) (ob_140 g18_3) (ob_1302 g18_4)))
            refine lv_iinc (v := x190) (lv' := [(4, .int x190), (0, .ref (r 0)), (1, .int p0), (2, .int y18_2), (3, .int y18_3)]) hx hb dX9_round_136 hl (k := 4) rfl ex190.symm (by decide) rfl (fun ls hl => ?_)
            refine lv_goto (tgt := 18) hx hb dX9_round_139 (by decide) ?_
            exact ih18 y18_2 y18_3 x190 x86 x87 J88 H84 _ _ (ob_1145 g18_0 g18_1) (ob_1146 g18_0 g18_1) (ob_1125 g18_2) (ob_149 g18_3 f191) (ob_1305 f29 f30 f28 f83 f31 f191) hP hD hS (lv_sub hl [1, 2, 3, 4, 0] rfl) (ob_1306 hM18 f191)
    exact L18 (-1 * (0 : Int32).toInt + 1296 + 1).toNat (-1) (-1) 0 i_askHouse i_askTune J H3 _ _ (ob_1042 zc_m1) (ob_1148 zc_m1) (ob_1042 zc_m1) (ob_1 zc_0) (ob_1316 zc_0) hP hD hS (lv_sub hl [3, 4, 2, 1, 0] rfl) (mlt (ob_1317 zc_0))
  · skip
    have f192 : r_4.toInt = 0 := qi_eq c_8 rfl zc_0
    refine lv_iconst (v := (-1)) hx hb dX9_round_9 (by decide) ?_
    rw [hQ]
    exact W.iret (v := (-1)) hx hb hr (fun t ht hW => ⟨⟨(-1), (-1), rfl, rfl, ⟨i_askHouse, i_askTune, i_laid, J, by rw [ht]; exact hP, hD, hI⟩⟩, hS.F ht⟩) hS.2.2 dX9_round_10
set_option maxHeartbeats 4000000 in
set_option maxRecDepth 100000 in
theorem kX9_wayOf (l : Launch) (dC : Nat → ClassId) (dI : Nat → Nat → Nat) (r : Nat → Nat) (ct : Nat → ClassId) (i_taped i_size i_faultKind i_at i_end i_token i_number i_bank i_rb i_codes i_within i_piled i_unitsInRule i_askHouse i_askTune i_acts i_undone i_laid i_knowns i_time : Int32) (f_text f_tunes f_houses f_hums f_told f_many f_ruleFrom f_ruleTo f_code f_eWhat f_eSign f_all f_kept f_was f_sTune f_boxAll : Nat → Int32) (J : Nat → Nat → Int32) (L : Nat → Nat → Int64) (p0 p1 : Int32) (sz : Nat) (hI : (IM i_taped i_size i_faultKind i_at i_end i_bank i_rb i_acts i_undone i_laid i_knowns i_time f_tunes f_houses f_hums f_told f_many f_ruleFrom f_ruleTo f_code f_all f_kept f_was f_sTune f_boxAll)) (hp0 : (0 : Int) ≤ p0.toInt) : Met l yX9_wayOf (.code yX9_wayOf cX9_wayOf 8 (some .int) :: GW) { frames := 6, cells := 0, slots := 0, locals := 226 } (va_Pc [.ref (r 0), .int p0, .int p1] (pR (dC, dI) (WM r ct i_taped i_size i_faultKind i_at i_end i_token i_number i_bank i_rb i_codes i_within i_piled i_unitsInRule i_askHouse i_askTune i_acts i_undone i_laid i_knowns i_time f_text f_tunes f_houses f_hums f_told f_many f_ruleFrom f_ruleTo f_code f_eWhat f_eSign f_all f_kept f_was f_sTune f_boxAll J L) (TM ct) sz)) (va_Qi (fun (r0 : Int32) (u : Int32) => r0 = u) (fun (u : Int32) (t : State) => True) (fun q => sz ≤ q)) 0 0 (fun q => sz ≤ q) := by
  refine Met.ofW (cc := cX9_wayOf) (maxL := 8) (ret := (some .int)) (by decide) rfl ?_
  intro p e s m args below meth c0 s₁ B hml hv
  obtain ⟨rfl, hsz, hP, hK⟩ := hv
  have hx := B.exec
  have hb := B.bytes
  have hr := B.returns
  have hts := atoms_spec (ws := .code yX9_wayOf cX9_wayOf 8 (some .int) :: GW) B.pre
  have hG : ∀ w ∈ GW, w.before _ s = true := fun w h => hts w (List.mem_cons_of_mem _ h)
  have hown : s.vm.findClass RX9 = some m.cls := findClass_of_methodNamed B.named
  subst hsz
  have hS : va_S (fun q => s.heap.size ≤ q) s.heap s.heap [] := va_S.rf
  have hP : va_P (dC, dI) vwCl (WM r ct i_taped i_size i_faultKind i_at i_end i_token i_number i_bank i_rb i_codes i_within i_piled i_unitsInRule i_askHouse i_askTune i_acts i_undone i_laid i_knowns i_time f_text f_tunes f_houses f_hums f_told f_many f_ruleFrom f_ruleTo f_code f_eWhat f_eSign f_all f_kept f_was f_sTune f_boxAll J L) s.heap := hP
  have hl := lv_entry ([.ref (r 0), .int p0, .int p1]) (n := 8) (Nat.le_of_ble_eq_true rfl)
  rw [lg_entry_eq]
  generalize (lg_sl ([.ref (r 0), .int p0, .int p1]) ++ List.replicate (8 - (lg_sl ([.ref (r 0), .int p0, .int p1])).length) Slot.unset).toArray = ls at hl ⊢
  have hl : lv_has ls 8 [(0, .ref (r 0)), (1, .int p0), (2, .int p1)] := hl
  refine nameQ (fun Q hQ => ?_)
  obtain ⟨ie0, ie1, ie2, ie3, ie4, ie5, ie6, ie7, ie8, ie9, ie10, ie11, ie12, ie13, ie14, ie15, ie16, ie17, ie18, ie19, ie20, ie21, ie22, ie23, ie24, ie25, ie26, ie27, ie28, ie29, ie30, ie31, ie32⟩ := id hI
  have f1 : 0 ≤ (f_tunes (i_bank.toInt).toNat).toInt ∧ (f_tunes (i_bank.toInt).toNat).toInt ≤ 5 := ie21 (i_bank.toInt)
  have f2 : 0 ≤ (f_houses (i_bank.toInt).toNat).toInt ∧ (f_houses (i_bank.toInt).toNat).toInt ≤ 4 := ie22 (i_bank.toInt)
  refine lv_iconst (v := 0) hx hb dX9_wayOf_0 (by decide) ?_
  refine lv_istore_n (lv' := [(3, .int 0), (0, .ref (r 0)), (1, .int p0), (2, .int p1)]) hx hb dX9_wayOf_1 rfl hl (by decide) rfl (fun ls hl => ?_)
  refine lv_iconst (v := 0) hx hb dX9_wayOf_2 (by decide) ?_
  refine lv_istore (lv' := [(4, .int 0), (3, .int 0), (0, .ref (r 0)), (1, .int p0), (2, .int p1)]) hx hb dX9_wayOf_3 hl (by decide) rfl (fun ls hl => ?_)
  refine lv_iload_n hx hb dX9_wayOf_5 rfl (lv_at hl 4 rfl) ?_
  refine lv_istore (lv' := [(5, .int p1), (4, .int 0), (3, .int 0), (0, .ref (r 0)), (1, .int p0), (2, .int p1)]) hx hb dX9_wayOf_6 hl (by decide) rfl (fun ls hl => ?_)
  refine lv_iconst (v := 0) hx hb dX9_wayOf_8 (by decide) ?_
  refine lv_istore (lv' := [(6, .int 0), (5, .int p1), (4, .int 0), (3, .int 0), (0, .ref (r 0)), (1, .int p0), (2, .int p1)]) hx hb dX9_wayOf_9 hl (by decide) rfl (fun ls hl => ?_)
  have L11 : ∀ (N11 : Nat) (y11_3 y11_4 y11_5 y11_6 : Int32) (H11 : Heap) (locs : List Loc) (ls : Array Slot) (g11_0 : (0 : Int) ≤ y11_6.toInt) (g11_1 : y11_6.toInt ≤ (4 : Int)) (hP : va_P (dC, dI) vwCl (WM r ct i_taped i_size i_faultKind i_at i_end i_token i_number i_bank i_rb i_codes i_within i_piled i_unitsInRule i_askHouse i_askTune i_acts i_undone i_laid i_knowns i_time f_text f_tunes f_houses f_hums f_told f_many f_ruleFrom f_ruleTo f_code f_eWhat f_eSign f_all f_kept f_was f_sTune f_boxAll J L) H11) (hS : va_S (fun q => s.heap.size ≤ q) s.heap H11 locs) (hl : lv_has ls 8 [(0, .ref (r 0)), (1, .int p0), (2, .int p1), (3, .int y11_3), (4, .int y11_4), (5, .int y11_5), (6, .int y11_6)]) (hM : -1 * y11_6.toInt + 4 < (N11 : Int)), W p l e { frames := 6, cells := 0, slots := 0, locals := 226 } s m ([.ref (r 0), .int p0, .int p1] : List Value).toArray below meth c0 H11 locs 0 0 Q (F0 m 11 ls []) := by
    intro N11
    induction N11 with
    | zero =>
      intro y11_3 y11_4 y11_5 y11_6 H11 locs ls g11_0 g11_1 hP hS hl hM
      exact ((ob_778 hM g11_0 g11_1)).elim
    | succ N11 ih11 =>
      intro y11_3 y11_4 y11_5 y11_6 H11 locs ls g11_0 g11_1 hP hS hl hM
      have hM11 := msucc hM
      refine lv_iload hx hb dX9_wayOf_11 (lv_at hl 6 rfl) ?_
      refine lv_aload_n hx hb dX9_wayOf_13 rfl (lv_at hl 0 rfl) ?_
      refine va_calli (va_runV (As := []) (rest := [.int y11_6]) ⟨hx, hb, hml, hown, hG⟩ (kX9_homes l dC dI r ct i_taped i_size i_faultKind i_at i_end i_token i_number i_bank i_rb i_codes i_within i_piled i_unitsInRule i_askHouse i_askTune i_acts i_undone i_laid i_knowns i_time f_text f_tunes f_houses f_hums f_told f_many f_ruleFrom f_ruleTo f_code f_eWhat f_eSign f_all f_kept f_was f_sTune f_boxAll J L H11.size hI) (cwV 0 hG (goodV gw1167 gw1169 gw58 gw138 gw1170) rfl rfl rfl hd_X9_homes ⟨(Nat.le_of_ble_eq_true rfl), (Nat.le_of_ble_eq_true rfl)⟩) ⟨fbR, va_recv hK hP (ci := 8) (q0 := 0) rfl rfl, pR_in hP hK⟩ rfl rfl hl.1 rfl (lv_room (Nat.le_of_ble_eq_true rfl)) dX9_wayOf_14 ⟨(Nat.le_of_ble_eq_true rfl), (Nat.le_of_ble_eq_true rfl)⟩) hS (fun q hq h => absurd hq (Nat.not_lt.mpr h)) (fun q h => Nat.le_trans hS.1 h) (fun r_4 u_ t_ H3 locs ht hvm hw hB hz1 hk1 hS => ?_)
      subst hw
      have hP := wk hP hk1
      have f5 := hB
      have f6 : r_4.toInt = (f_houses (i_bank.toInt).toNat).toInt := (ob_6 f5)
      refine lv_icmp_ge (tgt := 82) hx hb dX9_wayOf_17 (by decide) (fun c_7 => ?_) (fun c_7 => ?_)
      · skip
        have f8 : r_4.toInt ≤ y11_6.toInt := qi_le c_7 rfl rfl
        refine lv_iload hx hb dX9_wayOf_82 (lv_at hl 4 rfl) ?_
        rw [hQ]
        exact W.iret (v := y11_4) hx hb hr (fun t ht hW => ⟨⟨y11_4, y11_4, rfl, rfl, trivial⟩, hS.F ht⟩) hS.2.2 dX9_wayOf_84
      · skip
        have f9 : y11_6.toInt < r_4.toInt := qi_nle c_7 rfl rfl
        refine lv_aload_n hx hb dX9_wayOf_20 rfl (lv_at hl 0 rfl) ?_
        refine lv_iload_n hx hb dX9_wayOf_21 rfl (lv_at hl 1 rfl) ?_
        refine lv_aload_n hx hb dX9_wayOf_22 rfl (lv_at hl 0 rfl) ?_
        refine va_calli (va_runV (As := []) (rest := [.int p0, .ref (r 0)]) ⟨hx, hb, hml, hown, hG⟩ (kX9_homes l dC dI r ct i_taped i_size i_faultKind i_at i_end i_token i_number i_bank i_rb i_codes i_within i_piled i_unitsInRule i_askHouse i_askTune i_acts i_undone i_laid i_knowns i_time f_text f_tunes f_houses f_hums f_told f_many f_ruleFrom f_ruleTo f_code f_eWhat f_eSign f_all f_kept f_was f_sTune f_boxAll J L H3.size hI) (cwV 0 hG (goodV gw1167 gw1169 gw58 gw138 gw1170) rfl rfl rfl hd_X9_homes ⟨(Nat.le_of_ble_eq_true rfl), (Nat.le_of_ble_eq_true rfl)⟩) ⟨fbR, va_recv hK hP (ci := 8) (q0 := 0) rfl rfl, pR_in hP hK⟩ rfl rfl hl.1 rfl (lv_room (Nat.le_of_ble_eq_true rfl)) dX9_wayOf_23 ⟨(Nat.le_of_ble_eq_true rfl), (Nat.le_of_ble_eq_true rfl)⟩) hS (fun q hq h => absurd hq (Nat.not_lt.mpr h)) (fun q h => Nat.le_trans hS.1 h) (fun r_11 u_ t_ H10 locs ht hvm hw hB hz1 hk1 hS => ?_)
        subst hw
        have hP := wk hP hk1
        have f12 := hB
        have f13 : r_11.toInt = (f_houses (i_bank.toInt).toNat).toInt := (ob_6 f12)
        refine lv_iload hx hb dX9_wayOf_26 (lv_at hl 6 rfl) ?_
        refine va_calli (va_runV (As := [.int p0, .int r_11, .int y11_6]) (rest := []) ⟨hx, hb, hml, hown, hG⟩ (kX9_digit_v1 l dC dI r ct i_taped i_size i_faultKind i_at i_end i_token i_number i_bank i_rb i_codes i_within i_piled i_unitsInRule i_askHouse i_askTune i_acts i_undone i_laid i_knowns i_time f_text f_tunes f_houses f_hums f_told f_many f_ruleFrom f_ruleTo f_code f_eWhat f_eSign f_all f_kept f_was f_sTune f_boxAll J L p0 r_11 y11_6 H10.size hI (ob_1318 g11_0 f9 f6 f13) (ob_1319 f2 f9 f6 f13) (ob_139 g11_0) (ob_1054 f9 f6) (ob_139 hp0)) (cwV 3 hG (goodV gw1763 gw1765 gw116 gw138 gw1766) rfl rfl rfl hd_X9_digit ⟨(Nat.le_of_ble_eq_true rfl), (Nat.le_of_ble_eq_true rfl)⟩) ⟨fbR, va_recv hK hP (ci := 8) (q0 := 0) rfl rfl, pR_in hP hK⟩ rfl rfl hl.1 rfl (lv_room (Nat.le_of_ble_eq_true rfl)) dX9_wayOf_28 ⟨(Nat.le_of_ble_eq_true rfl), (Nat.le_of_ble_eq_true rfl)⟩) hS (fun q hq h => absurd hq (Nat.not_lt.mpr h)) (fun q h => Nat.le_trans hS.1 h) (fun r_15 u_ t_ H14 locs ht hvm hw hB hz1 hk1 hS => ?_)
        subst hw
        have hP := wk hP hk1
        obtain ⟨f16, f17, f18, f19⟩ := hB
        have f20 : ((p0.toInt / (pw r_11.toInt (((f_houses (i_bank.toInt).toNat).toInt + -1 * y11_6.toInt + (-1))).toNat)) % r_11.toInt) = ((p0.toInt / (pw ((f_houses (i_bank.toInt).toNat).toInt) (((f_houses (i_bank.toInt).toNat).toInt + -1 * y11_6.toInt + (-1))).toNat)) % ((f_houses (i_bank.toInt).toNat).toInt)) := by rw [f13]
        have f21 : r_15.toInt = ((p0.toInt / (pw ((f_houses (i_bank.toInt).toNat).toInt) (((f_houses (i_bank.toInt).toNat).toInt + -1 * y11_6.toInt + (-1))).toNat)) % ((f_houses (i_bank.toInt).toNat).toInt)) := (ob_1270 f16 f20)
        refine lv_istore (lv' := [(7, .int r_15), (0, .ref (r 0)), (1, .int p0), (2, .int p1), (3, .int y11_3), (4, .int y11_4), (5, .int y11_5), (6, .int y11_6)]) hx hb dX9_wayOf_31 hl (by decide) rfl (fun ls hl => ?_)
        refine lv_iload_n hx hb dX9_wayOf_33 rfl (lv_at hl 4 rfl) ?_
        refine lv_iload hx hb dX9_wayOf_34 (lv_at hl 0 rfl) ?_
        refine va_calli (va_runS (As := [.int y11_3, .int r_15]) (rest := []) ⟨hx, hb, hml, hown, hG⟩ (kX9_bit l dC dI y11_3 r_15 H14.size) (va_cwS 2 hG (goodS gw1417 gw1418 gw138 gw1419) rfl rfl rfl hd_X9_bit ⟨(Nat.le_of_ble_eq_true rfl), (Nat.le_of_ble_eq_true rfl)⟩) ⟨fbR, pR_in emptyP (emptyK hK)⟩ rfl rfl hl.1 rfl (lv_room (Nat.le_of_ble_eq_true rfl)) dX9_wayOf_36 ⟨(Nat.le_of_ble_eq_true rfl), (Nat.le_of_ble_eq_true rfl)⟩) hS (fun q hq h => absurd hq (Nat.not_lt.mpr h)) (fun q h => Nat.le_trans hS.1 h) (fun r_23 u_ t_ H22 locs ht hvm hw hB hz1 hk1 hS => ?_)
        subst hw
        have hP := wk hP hk1
        obtain ⟨f24, f25, f26, f27⟩ := hB
        refine lv_if_eq (tgt := 44) hx hb dX9_wayOf_39 (by decide) (fun c_28 => ?_) (fun c_28 => ?_)
        · skip
          have f29 : r_23.toInt = 0 := qi_eq c_28 rfl zc_0
          refine lv_iload_n hx hb dX9_wayOf_44 rfl (lv_at hl 4 rfl) ?_
          refine lv_iconst (v := 1) hx hb dX9_wayOf_45 (by decide) ?_
          refine lv_iload hx hb dX9_wayOf_46 (lv_at hl 0 rfl) ?_
          refine lv_ishl hx hb dX9_wayOf_48 ?_
          refine lv_topi (fun x30 ex30 => ?_)
          refine lv_ior hx hb dX9_wayOf_49 ?_
          refine lv_topi (fun x31 ex31 => ?_)
          refine lv_istore_n (lv' := [(3, .int x31), (7, .int r_15), (0, .ref (r 0)), (1, .int p0), (2, .int p1), (4, .int y11_4), (5, .int y11_5), (6, .int y11_6)]) hx hb dX9_wayOf_50 rfl hl (by decide) rfl (fun ls hl => ?_)
          refine lv_iload hx hb dX9_wayOf_51 (lv_at hl 5 rfl) ?_
          refine lv_aload_n hx hb dX9_wayOf_53 rfl (lv_at hl 2 rfl) ?_
          refine lv_iload hx hb dX9_wayOf_54 (lv_at hl 1 rfl) ?_
          refine va_calli (va_runV (As := [.int r_15]) (rest := [.int y11_4]) ⟨hx, hb, hml, hown, hG⟩ (kX9_placeOf l dC dI r ct i_taped i_size i_faultKind i_at i_end i_token i_number i_bank i_rb i_codes i_within i_piled i_unitsInRule i_askHouse i_askTune i_acts i_undone i_laid i_knowns i_time f_text f_tunes f_houses f_hums f_told f_many f_ruleFrom f_ruleTo f_code f_eWhat f_eSign f_all f_kept f_was f_sTune f_boxAll J L r_15 H22.size hI (ob_1289 f20 f17 f21) (ob_1320 f20 f18 f13 f21)) (cwV 1 hG (goodV gw1546 gw1548 gw91 gw138 gw1549) rfl rfl rfl hd_X9_placeOf ⟨(Nat.le_of_ble_eq_true rfl), (Nat.le_of_ble_eq_true rfl)⟩) ⟨fbR, va_recv hK hP (ci := 8) (q0 := 0) rfl rfl, pR_in hP hK⟩ rfl rfl hl.1 rfl (lv_room (Nat.le_of_ble_eq_true rfl)) dX9_wayOf_56 ⟨(Nat.le_of_ble_eq_true rfl), (Nat.le_of_ble_eq_true rfl)⟩) hS (fun q hq h => absurd hq (Nat.not_lt.mpr h)) (fun q h => Nat.le_trans hS.1 h) (fun r_33 u_ t_ H32 locs ht hvm hw hB hz1 hk1 hS => ?_)
          subst hw
          have hP := wk hP hk1
          refine lv_iload hx hb dX9_wayOf_59 (lv_at hl 6 rfl) ?_
          refine lv_isub hx hb dX9_wayOf_61 ?_
          refine lv_topi (fun x34 ex34 => ?_)
          refine va_calli (va_runS (As := [.int x34]) (rest := [.int y11_4]) ⟨hx, hb, hml, hown, hG⟩ (kX9_absolute l dC dI x34 H32.size) (va_cwS 1 hG (goodS gw1775 gw1776 gw138 gw1777) rfl rfl rfl hd_X9_absolute ⟨(Nat.le_of_ble_eq_true rfl), (Nat.le_of_ble_eq_true rfl)⟩) ⟨fbR, pR_in emptyP (emptyK hK)⟩ rfl rfl hl.1 rfl (lv_room (Nat.le_of_ble_eq_true rfl)) dX9_wayOf_62 ⟨(Nat.le_of_ble_eq_true rfl), (Nat.le_of_ble_eq_true rfl)⟩) hS (fun q hq h => absurd hq (Nat.not_lt.mpr h)) (fun q h => Nat.le_trans hS.1 h) (fun r_36 u_ t_ H35 locs ht hvm hw hB hz1 hk1 hS => ?_)
          subst hw
          have hP := wk hP hk1
          have f37 := hB
          refine lv_iadd hx hb dX9_wayOf_65 ?_
          refine lv_topi (fun x38 ex38 => ?_)
          refine lv_istore (lv' := [(4, .int x38), (3, .int x31), (7, .int r_15), (0, .ref (r 0)), (1, .int p0), (2, .int p1), (5, .int y11_5), (6, .int y11_6)]) hx hb dX9_wayOf_66 hl (by decide) rfl (fun ls hl => ?_)
          refine lv_aload_n hx hb dX9_wayOf_68 rfl (lv_at hl 3 rfl) ?_
          refine lv_iload hx hb dX9_wayOf_69 (lv_at hl 2 rfl) ?_
          refine va_calli (va_runV (As := [.int r_15]) (rest := []) ⟨hx, hb, hml, hown, hG⟩ (kX9_placeOf l dC dI r ct i_taped i_size i_faultKind i_at i_end i_token i_number i_bank i_rb i_codes i_within i_piled i_unitsInRule i_askHouse i_askTune i_acts i_undone i_laid i_knowns i_time f_text f_tunes f_houses f_hums f_told f_many f_ruleFrom f_ruleTo f_code f_eWhat f_eSign f_all f_kept f_was f_sTune f_boxAll J L r_15 H35.size hI (ob_1289 f20 f17 f21) (ob_1320 f20 f18 f13 f21)) (cwV 1 hG (goodV gw1546 gw1548 gw91 gw138 gw1549) rfl rfl rfl hd_X9_placeOf ⟨(Nat.le_of_ble_eq_true rfl), (Nat.le_of_ble_eq_true rfl)⟩) ⟨fbR, va_recv hK hP (ci := 8) (q0 := 0) rfl rfl, pR_in hP hK⟩ rfl rfl hl.1 rfl (lv_room (Nat.le_of_ble_eq_true rfl)) dX9_wayOf_71 ⟨(Nat.le_of_ble_eq_true rfl), (Nat.le_of_ble_eq_true rfl)⟩) hS (fun q hq h => absurd hq (Nat.not_lt.mpr h)) (fun q h => Nat.le_trans hS.1 h) (fun r_40 u_ t_ H39 locs ht hvm hw hB hz1 hk1 hS => ?_)
          subst hw
          have hP := wk hP hk1
          refine lv_istore (lv' := [(5, .int r_40), (4, .int x38), (3, .int x31), (7, .int r_15), (0, .ref (r 0)), (1, .int p0), (2, .int p1), (6, .int y11_6)]) hx hb dX9_wayOf_74 hl (by decide) rfl (fun ls hl => ?_)
          obtain ⟨x41, ex41⟩ : ∃ y : Int32, y = y11_6 + Int32.ofInt 1 := ⟨_, rfl⟩
          have f42 : x41.toInt = y11_6.toInt + 1 := (ob_142 (qi_add ex41 rfl (by decide) (ob_140 g11_0) (ob_794 g11_1)))
          refine lv_iinc (v := x41) (lv' := [(6, .int x41), (5, .int r_40), (4, .int x38), (3, .int x31), (7, .int r_15), (0, .ref (r 0)), (1, .int p0), (2, .int p1)]) hx hb dX9_wayOf_76 hl (k := 7) rfl ex41.symm (by decide) rfl (fun ls hl => ?_)
          refine lv_goto (tgt := 11) hx hb dX9_wayOf_79 (by decide) ?_
          exact ih11 x31 x38 r_40 x41 H39 _ _ (ob_149 g11_0 f42) (ob_795 f2 f9 f6 f42) hP hS (lv_sub hl [5, 6, 7, 3, 2, 1, 0] rfl) (ob_796 hM11 f42)
        · skip
          have f43 : r_23.toInt ≠ 0 := qi_ne c_28 rfl zc_0
          have f44 : (1 : Int) ≤ r_23.toInt := (ob_157 f24 f25 f43)
          refine lv_iconst (v := (-1)) hx hb dX9_wayOf_42 (by decide) ?_
          rw [hQ]
          exact W.iret (v := (-1)) hx hb hr (fun t ht hW => ⟨⟨(-1), (-1), rfl, rfl, trivial⟩, hS.F ht⟩) hS.2.2 dX9_wayOf_43
  exact L11 (-1 * (0 : Int32).toInt + 4 + 1).toNat 0 0 p1 0 s.heap _ _ (ob_1 zc_0) (ob_797 zc_0) hP hS (lv_sub hl [4, 5, 6, 3, 2, 1, 0] rfl) (mlt (ob_798 zc_0))
set_option maxHeartbeats 4000000 in
set_option maxRecDepth 100000 in
theorem kX9_power_v2 (l : Launch) (dC : Nat → ClassId) (dI : Nat → Nat → Nat) (p0 p1 : Int32) (sz : Nat) (hp0 : (0 : Int) ≤ p0.toInt) (hp1 : p0.toInt ≤ (6 : Int)) (hp2 : (0 : Int) ≤ p1.toInt) (hp3 : p1.toInt ≤ (4 : Int)) : Met l yX9_power (.code yX9_power cX9_power 4 (some .int) :: GW) { frames := 2, cells := 0, slots := 0, locals := 100 } (va_Pc [.int p0, .int p1] (pR (dC, dI) [] [] sz)) (va_Qi (fun (r0 : Int32) (u : Int32) => r0 = u) (fun (u : Int32) (t : State) => (u.toInt = (pw p0.toInt (p1.toInt).toNat)) ∧ ((0 : Int) ≤ (pw p0.toInt (p1.toInt).toNat)) ∧ ((pw p0.toInt (p1.toInt).toNat) ≤ (1296 : Int))) (fun q => sz ≤ q)) 0 0 (fun q => sz ≤ q) := by
  refine Met.ofW (cc := cX9_power) (maxL := 4) (ret := (some .int)) (by decide) rfl ?_
  intro p e s m args below meth c0 s₁ B hml hv
  obtain ⟨rfl, hsz, hP, hK⟩ := hv
  have hx := B.exec
  have hb := B.bytes
  have hr := B.returns
  have hts := atoms_spec (ws := .code yX9_power cX9_power 4 (some .int) :: GW) B.pre
  have hG : ∀ w ∈ GW, w.before _ s = true := fun w h => hts w (List.mem_cons_of_mem _ h)
  have hown : s.vm.findClass RX9 = some m.cls := findClass_of_methodNamed B.named
  subst hsz
  have hS : va_S (fun q => s.heap.size ≤ q) s.heap s.heap [] := va_S.rf
  have hP : va_P (dC, dI) vwCl [] s.heap := hP
  have hl := lv_entry ([.int p0, .int p1]) (n := 4) (Nat.le_of_ble_eq_true rfl)
  rw [lg_entry_eq]
  generalize (lg_sl ([.int p0, .int p1]) ++ List.replicate (4 - (lg_sl ([.int p0, .int p1])).length) Slot.unset).toArray = ls at hl ⊢
  have hl : lv_has ls 4 [(0, .int p0), (1, .int p1)] := hl
  refine nameQ (fun Q hQ => ?_)
  refine lv_iconst (v := 1) hx hb dX9_power_0 (by decide) ?_
  refine lv_istore_n (lv' := [(2, .int 1), (0, .int p0), (1, .int p1)]) hx hb dX9_power_1 rfl hl (by decide) rfl (fun ls hl => ?_)
  refine lv_iconst (v := 0) hx hb dX9_power_2 (by decide) ?_
  refine lv_istore_n (lv' := [(3, .int 0), (2, .int 1), (0, .int p0), (1, .int p1)]) hx hb dX9_power_3 rfl hl (by decide) rfl (fun ls hl => ?_)
  refine lv_iload_n hx hb dX9_power_4 rfl (lv_at hl 0 rfl) ?_
  refine lv_iload_n hx hb dX9_power_5 rfl (lv_at hl 3 rfl) ?_
  refine lv_icmp_ge (tgt := 19) hx hb dX9_power_6 (by decide) (fun c_1 => ?_) (fun c_1 => ?_)
  · skip
    have f2 : p1.toInt ≤ 0 := qi_le c_1 rfl zc_0
    refine lv_iload_n hx hb dX9_power_19 rfl (lv_at hl 1 rfl) ?_
    have f3 : (pw p0.toInt (p1.toInt).toNat) = 1 := pw_0 (ob_985 hp2 hp3 f2)
    rw [hQ]
    exact W.iret (v := 1) hx hb hr (fun t ht hW => ⟨⟨1, 1, rfl, rfl, ⟨(ob_986 f3 zc_1), (ob_14 f3), (ob_1239 f3)⟩⟩, hS.F ht⟩) hS.2.2 dX9_power_20
  · skip
    have f4 : 0 < p1.toInt := qi_nle c_1 rfl zc_0
    refine lv_iload_n hx hb dX9_power_9 rfl (lv_at hl 1 rfl) ?_
    refine lv_iload_n hx hb dX9_power_10 rfl (lv_at hl 2 rfl) ?_
    refine lv_imul hx hb dX9_power_11 ?_
    refine lv_topi (fun x5 ex5 => ?_)
    have f6 : x5.toInt = p0.toInt := (ob_990 (qi_mul ex5 zc_1 rfl (ob_1321 hp0 hp1) (ob_1322 hp0 hp1)))
    refine lv_istore_n (lv' := [(2, .int x5), (3, .int 0), (0, .int p0), (1, .int p1)]) hx hb dX9_power_12 rfl hl (by decide) rfl (fun ls hl => ?_)
    refine lv_iinc (v := 1) (lv' := [(3, .int 1), (2, .int x5), (0, .int p0), (1, .int p1)]) hx hb dX9_power_13 hl (k := 1) rfl (by decide) (by decide) rfl (fun ls hl => ?_)
    refine lv_goto (tgt := 4) hx hb dX9_power_16 (by decide) ?_
    refine lv_iload_n hx hb dX9_power_4 rfl (lv_at hl 0 rfl) ?_
    refine lv_iload_n hx hb dX9_power_5 rfl (lv_at hl 3 rfl) ?_
    refine lv_icmp_ge (tgt := 19) hx hb dX9_power_6 (by decide) (fun c_7 => ?_) (fun c_7 => ?_)
    · skip
      have f8 : p1.toInt ≤ 1 := qi_le c_7 rfl zc_1
      refine lv_iload_n hx hb dX9_power_19 rfl (lv_at hl 1 rfl) ?_
      have f9 : (pw p0.toInt (p1.toInt).toNat) = p0.toInt := pw_1 (ob_991 f4 f8)
      rw [hQ]
      exact W.iret (v := x5) hx hb hr (fun t ht hW => ⟨⟨x5, x5, rfl, rfl, ⟨(ob_1323 hp0 hp1 f9 f6), (ob_1324 hp0 hp1 f9), (ob_1325 hp0 hp1 f9)⟩⟩, hS.F ht⟩) hS.2.2 dX9_power_20
    · skip
      have f10 : 1 < p1.toInt := qi_nle c_7 rfl zc_1
      refine lv_iload_n hx hb dX9_power_9 rfl (lv_at hl 1 rfl) ?_
      refine lv_iload_n hx hb dX9_power_10 rfl (lv_at hl 2 rfl) ?_
      refine lv_imul hx hb dX9_power_11 ?_
      refine lv_topi (fun x11 ex11 => ?_)
      have f12 : 0 * 0 ≤ x11.toInt ∧ x11.toInt ≤ 6 * 6 := qi_mulb ex11 (ob_1326 hp0 hp1 f6) (ob_1327 hp0 hp1 f6) (ob_1328 hp0 hp1) (ob_1329 hp0 hp1) (by decide) (by decide) (by decide)
      have f13 : x11.toInt = (p0.toInt * p0.toInt) := qi_mulx ex11 f6 rfl (ob_1326 hp0 hp1 f6) (ob_1327 hp0 hp1 f6) (ob_1328 hp0 hp1) (ob_1329 hp0 hp1) (by decide) (by decide) (by decide)
      refine lv_istore_n (lv' := [(2, .int x11), (3, .int 1), (0, .int p0), (1, .int p1)]) hx hb dX9_power_12 rfl hl (by decide) rfl (fun ls hl => ?_)
      refine lv_iinc (v := 2) (lv' := [(3, .int 2), (2, .int x11), (0, .int p0), (1, .int p1)]) hx hb dX9_power_13 hl (k := 1) rfl (by decide) (by decide) rfl (fun ls hl => ?_)
      refine lv_goto (tgt := 4) hx hb dX9_power_16 (by decide) ?_
      refine lv_iload_n hx hb dX9_power_4 rfl (lv_at hl 0 rfl) ?_
      refine lv_iload_n hx hb dX9_power_5 rfl (lv_at hl 3 rfl) ?_
      refine lv_icmp_ge (tgt := 19) hx hb dX9_power_6 (by decide) (fun c_14 => ?_) (fun c_14 => ?_)
      · skip
        have f15 : p1.toInt ≤ 2 := qi_le c_14 rfl zc_2
        refine lv_iload_n hx hb dX9_power_19 rfl (lv_at hl 1 rfl) ?_
        have f16 : (pw p0.toInt (p1.toInt).toNat) = (p0.toInt * p0.toInt) := pw_2 (ob_999 f10 f15)
        rw [hQ]
        exact W.iret (v := x11) hx hb hr (fun t ht hW => ⟨⟨x11, x11, rfl, rfl, ⟨(ob_1330 f12 f16 f13), (ob_1331 f12 f16 f13), (ob_1332 f12 f16 f13)⟩⟩, hS.F ht⟩) hS.2.2 dX9_power_20
      · skip
        have f17 : 2 < p1.toInt := qi_nle c_14 rfl zc_2
        refine lv_iload_n hx hb dX9_power_9 rfl (lv_at hl 1 rfl) ?_
        refine lv_iload_n hx hb dX9_power_10 rfl (lv_at hl 2 rfl) ?_
        refine lv_imul hx hb dX9_power_11 ?_
        refine lv_topi (fun x18 ex18 => ?_)
        have f19 : 0 * 0 ≤ x18.toInt ∧ x18.toInt ≤ 36 * 6 := qi_mulb ex18 (ob_1333 f12 f13) (ob_1334 f12 f13) (ob_1328 hp0 hp1) (ob_1329 hp0 hp1) (by decide) (by decide) (by decide)
        have f20 : x18.toInt = ((p0.toInt * p0.toInt) * p0.toInt) := qi_mulx ex18 f13 rfl (ob_1333 f12 f13) (ob_1334 f12 f13) (ob_1328 hp0 hp1) (ob_1329 hp0 hp1) (by decide) (by decide) (by decide)
        refine lv_istore_n (lv' := [(2, .int x18), (3, .int 2), (0, .int p0), (1, .int p1)]) hx hb dX9_power_12 rfl hl (by decide) rfl (fun ls hl => ?_)
        refine lv_iinc (v := 3) (lv' := [(3, .int 3), (2, .int x18), (0, .int p0), (1, .int p1)]) hx hb dX9_power_13 hl (k := 1) rfl (by decide) (by decide) rfl (fun ls hl => ?_)
        refine lv_goto (tgt := 4) hx hb dX9_power_16 (by decide) ?_
        refine lv_iload_n hx hb dX9_power_4 rfl (lv_at hl 0 rfl) ?_
        refine lv_iload_n hx hb dX9_power_5 rfl (lv_at hl 3 rfl) ?_
        refine lv_icmp_ge (tgt := 19) hx hb dX9_power_6 (by decide) (fun c_21 => ?_) (fun c_21 => ?_)
        · skip
          have f22 : p1.toInt ≤ 3 := qi_le c_21 rfl zc_3
          refine lv_iload_n hx hb dX9_power_19 rfl (lv_at hl 1 rfl) ?_
          have f23 : (pw p0.toInt (p1.toInt).toNat) = ((p0.toInt * p0.toInt) * p0.toInt) := pw_3 (ob_1005 f17 f22)
          rw [hQ]
          exact W.iret (v := x18) hx hb hr (fun t ht hW => ⟨⟨x18, x18, rfl, rfl, ⟨(ob_1335 f19 f23 f20), (ob_1336 f19 f23 f20), (ob_1337 f19 f23 f20)⟩⟩, hS.F ht⟩) hS.2.2 dX9_power_20
        · skip
          have f24 : 3 < p1.toInt := qi_nle c_21 rfl zc_3
          refine lv_iload_n hx hb dX9_power_9 rfl (lv_at hl 1 rfl) ?_
          refine lv_iload_n hx hb dX9_power_10 rfl (lv_at hl 2 rfl) ?_
          refine lv_imul hx hb dX9_power_11 ?_
          refine lv_topi (fun x25 ex25 => ?_)
          have f26 : 0 * 0 ≤ x25.toInt ∧ x25.toInt ≤ 216 * 6 := qi_mulb ex25 (ob_1338 f19 f20) (ob_1339 f19 f20) (ob_1328 hp0 hp1) (ob_1329 hp0 hp1) (by decide) (by decide) (by decide)
          have f27 : x25.toInt = (((p0.toInt * p0.toInt) * p0.toInt) * p0.toInt) := qi_mulx ex25 f20 rfl (ob_1338 f19 f20) (ob_1339 f19 f20) (ob_1328 hp0 hp1) (ob_1329 hp0 hp1) (by decide) (by decide) (by decide)
          refine lv_istore_n (lv' := [(2, .int x25), (3, .int 3), (0, .int p0), (1, .int p1)]) hx hb dX9_power_12 rfl hl (by decide) rfl (fun ls hl => ?_)
          refine lv_iinc (v := 4) (lv' := [(3, .int 4), (2, .int x25), (0, .int p0), (1, .int p1)]) hx hb dX9_power_13 hl (k := 1) rfl (by decide) (by decide) rfl (fun ls hl => ?_)
          refine lv_goto (tgt := 4) hx hb dX9_power_16 (by decide) ?_
          refine lv_iload_n hx hb dX9_power_4 rfl (lv_at hl 0 rfl) ?_
          refine lv_iload_n hx hb dX9_power_5 rfl (lv_at hl 3 rfl) ?_
          refine lv_icmp_ge (tgt := 19) hx hb dX9_power_6 (by decide) (fun c_28 => ?_) (fun c_28 => ((ob_1011 (qi_nle c_28 rfl zc_4) hp3)).elim)
          have f29 : p1.toInt ≤ 4 := qi_le c_28 rfl zc_4
          refine lv_iload_n hx hb dX9_power_19 rfl (lv_at hl 1 rfl) ?_
          have f30 : (pw p0.toInt (p1.toInt).toNat) = (((p0.toInt * p0.toInt) * p0.toInt) * p0.toInt) := pw_4 (ob_1012 hp3 f24)
          rw [hQ]
          exact W.iret (v := x25) hx hb hr (fun t ht hW => ⟨⟨x25, x25, rfl, rfl, ⟨(ob_1340 f26 f30 f27), (ob_1341 f26 f30 f27), (ob_1342 f26 f30 f27)⟩⟩, hS.F ht⟩) hS.2.2 dX9_power_20
set_option maxHeartbeats 4000000 in
set_option maxRecDepth 100000 in
theorem kX9_walk (l : Launch) (dC : Nat → ClassId) (dI : Nat → Nat → Nat) (r : Nat → Nat) (ct : Nat → ClassId) (i_taped i_size i_faultKind i_at i_end i_token i_number i_bank i_rb i_codes i_within i_piled i_unitsInRule i_askHouse i_askTune i_acts i_undone i_laid i_knowns i_time : Int32) (f_text f_tunes f_houses f_hums f_told f_many f_ruleFrom f_ruleTo f_code f_eWhat f_eSign f_all f_kept f_was f_sTune f_boxAll : Nat → Int32) (J : Nat → Nat → Int32) (L : Nat → Nat → Int64) (p0 : Int32) (sz : Nat) (hI : (IM i_taped i_size i_faultKind i_at i_end i_bank i_rb i_acts i_undone i_laid i_knowns i_time f_tunes f_houses f_hums f_told f_many f_ruleFrom f_ruleTo f_code f_all f_kept f_was f_sTune f_boxAll)) : Met l yX9_walk (.code yX9_walk cX9_walk 6 (some .int) :: GW) { frames := 8, cells := 0, slots := 0, locals := 293 } (va_Pc [.ref (r 0), .int p0] (pW (dC, dI) (WM r ct i_taped i_size i_faultKind i_at i_end i_token i_number i_bank i_rb i_codes i_within i_piled i_unitsInRule i_askHouse i_askTune i_acts i_undone i_laid i_knowns i_time f_text f_tunes f_houses f_hums f_told f_many f_ruleFrom f_ruleTo f_code f_eWhat f_eSign f_all f_kept f_was f_sTune f_boxAll J L) (TM ct) sz)) (va_Qi (fun (r0 : Int32) (u : Int32) => r0 = u) (fun (u : Int32) (t : State) => ∃ (n_i_laid : Int32) (n_J : Nat → Nat → Int32), va_P (dC, dI) vwCl (WM r ct i_taped i_size i_faultKind i_at i_end i_token i_number i_bank i_rb i_codes i_within i_piled i_unitsInRule i_askHouse i_askTune i_acts i_undone n_i_laid i_knowns i_time f_text f_tunes f_houses f_hums f_told f_many f_ruleFrom f_ruleTo f_code f_eWhat f_eSign f_all f_kept f_was f_sTune f_boxAll n_J L) t.heap ∧ va_D (va_A (WM r ct i_taped i_size i_faultKind i_at i_end i_token i_number i_bank i_rb i_codes i_within i_piled i_unitsInRule i_askHouse i_askTune i_acts i_undone i_laid i_knowns i_time f_text f_tunes f_houses f_hums f_told f_many f_ruleFrom f_ruleTo f_code f_eWhat f_eSign f_all f_kept f_was f_sTune f_boxAll J L) sz) (WM r ct i_taped i_size i_faultKind i_at i_end i_token i_number i_bank i_rb i_codes i_within i_piled i_unitsInRule i_askHouse i_askTune i_acts i_undone n_i_laid i_knowns i_time f_text f_tunes f_houses f_hums f_told f_many f_ruleFrom f_ruleTo f_code f_eWhat f_eSign f_all f_kept f_was f_sTune f_boxAll n_J L) ∧ (IM i_taped i_size i_faultKind i_at i_end i_bank i_rb i_acts i_undone n_i_laid i_knowns i_time f_tunes f_houses f_hums f_told f_many f_ruleFrom f_ruleTo f_code f_all f_kept f_was f_sTune f_boxAll)) (va_A (WM r ct i_taped i_size i_faultKind i_at i_end i_token i_number i_bank i_rb i_codes i_within i_piled i_unitsInRule i_askHouse i_askTune i_acts i_undone i_laid i_knowns i_time f_text f_tunes f_houses f_hums f_told f_many f_ruleFrom f_ruleTo f_code f_eWhat f_eSign f_all f_kept f_was f_sTune f_boxAll J L) sz)) 0 0 (va_A (WM r ct i_taped i_size i_faultKind i_at i_end i_token i_number i_bank i_rb i_codes i_within i_piled i_unitsInRule i_askHouse i_askTune i_acts i_undone i_laid i_knowns i_time f_text f_tunes f_houses f_hums f_told f_many f_ruleFrom f_ruleTo f_code f_eWhat f_eSign f_all f_kept f_was f_sTune f_boxAll J L) sz) := by
  refine Met.ofW (cc := cX9_walk) (maxL := 6) (ret := (some .int)) (by decide) rfl ?_
  intro p e s m args below meth c0 s₁ B hml hv
  obtain ⟨rfl, hsz, hP, hK, hD0⟩ := hv
  have hx := B.exec
  have hb := B.bytes
  have hr := B.returns
  have hts := atoms_spec (ws := .code yX9_walk cX9_walk 6 (some .int) :: GW) B.pre
  have hG : ∀ w ∈ GW, w.before _ s = true := fun w h => hts w (List.mem_cons_of_mem _ h)
  have hown : s.vm.findClass RX9 = some m.cls := findClass_of_methodNamed B.named
  subst hsz
  have hD := hD0.self (sz := s.heap.size)
  generalize hAe : va_A (WM r ct i_taped i_size i_faultKind i_at i_end i_token i_number i_bank i_rb i_codes i_within i_piled i_unitsInRule i_askHouse i_askTune i_acts i_undone i_laid i_knowns i_time f_text f_tunes f_houses f_hums f_told f_many f_ruleFrom f_ruleTo f_code f_eWhat f_eSign f_all f_kept f_was f_sTune f_boxAll J L) s.heap.size = A at hD ⊢
  have hA : ∀ q : Nat, s.heap.size ≤ q → A q := fun q h => by rw [← hAe]; exact Or.inr h
  have hS : va_S A s.heap s.heap [] := va_S.rf
  have hP : va_P (dC, dI) vwCl (WM r ct i_taped i_size i_faultKind i_at i_end i_token i_number i_bank i_rb i_codes i_within i_piled i_unitsInRule i_askHouse i_askTune i_acts i_undone i_laid i_knowns i_time f_text f_tunes f_houses f_hums f_told f_many f_ruleFrom f_ruleTo f_code f_eWhat f_eSign f_all f_kept f_was f_sTune f_boxAll J L) s.heap := hP
  have hl := lv_entry ([.ref (r 0), .int p0]) (n := 6) (Nat.le_of_ble_eq_true rfl)
  rw [lg_entry_eq]
  generalize (lg_sl ([.ref (r 0), .int p0]) ++ List.replicate (6 - (lg_sl ([.ref (r 0), .int p0])).length) Slot.unset).toArray = ls at hl ⊢
  have hl : lv_has ls 6 [(0, .ref (r 0)), (1, .int p0)] := hl
  refine nameQ (fun Q hQ => ?_)
  obtain ⟨ie0, ie1, ie2, ie3, ie4, ie5, ie6, ie7, ie8, ie9, ie10, ie11, ie12, ie13, ie14, ie15, ie16, ie17, ie18, ie19, ie20, ie21, ie22, ie23, ie24, ie25, ie26, ie27, ie28, ie29, ie30, ie31, ie32⟩ := id hI
  have f1 : 0 ≤ (f_tunes (i_bank.toInt).toNat).toInt ∧ (f_tunes (i_bank.toInt).toNat).toInt ≤ 5 := ie21 (i_bank.toInt)
  have f2 : 0 ≤ (f_houses (i_bank.toInt).toNat).toInt ∧ (f_houses (i_bank.toInt).toNat).toInt ≤ 4 := ie22 (i_bank.toInt)
  refine lv_iload_n hx hb dX9_walk_0 rfl (lv_at hl 1 rfl) ?_
  refine lv_iconst (v := 0) hx hb dX9_walk_1 (by decide) ?_
  refine lv_bipush (v := 99) hx hb dX9_walk_2 (by decide) ?_
  refine va_calli (va_runS (As := [.int p0, .int 0, .int 99]) (rest := []) ⟨hx, hb, hml, hown, hG⟩ (kX9_isIn l dC dI p0 0 99 s.heap.size) (va_cwS 3 hG (goodS gw1516 gw1517 gw138 gw1518) rfl rfl rfl hd_X9_isIn ⟨(Nat.le_of_ble_eq_true rfl), (Nat.le_of_ble_eq_true rfl)⟩) ⟨fbR, pR_in emptyP (emptyK hK)⟩ rfl rfl hl.1 rfl (lv_room (Nat.le_of_ble_eq_true rfl)) dX9_walk_4 ⟨(Nat.le_of_ble_eq_true rfl), (Nat.le_of_ble_eq_true rfl)⟩) hS (fun q hq h => absurd hq (Nat.not_lt.mpr h)) (fun q h => hA q (Nat.le_trans hS.1 h)) (fun r_4 u_ t_ H3 locs ht hvm hw hB hz1 hk1 hS => ?_)
  subst hw
  have hP := wk hP hk1
  obtain ⟨f5, f6, f7⟩ := hB
  refine lv_if_ne (tgt := 12) hx hb dX9_walk_7 (by decide) (fun c_8 => ?_) (fun c_8 => ?_)
  · skip
    have f9 : r_4.toInt ≠ 0 := qi_ne c_8 rfl zc_0
    have f10 : (0 : Int) ≤ p0.toInt := (ob_1154 f5 f9 zc_99 zc_0)
    have f11 : p0.toInt ≤ (99 : Int) := (ob_1155 f5 f9 zc_99 zc_0)
    have f12 : r_4.toInt = (1 : Int) := (ob_1156 f5 f9 zc_99 zc_0)
    have f13 : (1 : Int) ≤ r_4.toInt := (ob_162 f6 f7 f12)
    refine lv_iconst (v := 0) hx hb dX9_walk_12 (by decide) ?_
    refine lv_istore_n (lv' := [(2, .int 0), (0, .ref (r 0)), (1, .int p0)]) hx hb dX9_walk_13 rfl hl (by decide) rfl (fun ls hl => ?_)
    refine lv_iconst (v := (-1)) hx hb dX9_walk_14 (by decide) ?_
    refine lv_istore_n (lv' := [(3, .int (-1)), (2, .int 0), (0, .ref (r 0)), (1, .int p0)]) hx hb dX9_walk_15 rfl hl (by decide) rfl (fun ls hl => ?_)
    refine lv_iconst (v := 0) hx hb dX9_walk_16 (by decide) ?_
    refine lv_istore (lv' := [(4, .int 0), (3, .int (-1)), (2, .int 0), (0, .ref (r 0)), (1, .int p0)]) hx hb dX9_walk_17 hl (by decide) rfl (fun ls hl => ?_)
    have L19 : ∀ (N19 : Nat) (y19_2 y19_3 y19_4 : Int32) (H19 : Heap) (locs : List Loc) (ls : Array Slot) (g19_0 : (0 : Int) ≤ y19_2.toInt) (g19_1 : y19_2.toInt ≤ (1048576 : Int)) (g19_2 : (0 : Int) ≤ y19_3.toInt + 1) (g19_3 : (0 : Int) ≤ y19_4.toInt) (g19_4 : y19_4.toInt ≤ (1296 : Int)) (hP : va_P (dC, dI) vwCl (WM r ct i_taped i_size i_faultKind i_at i_end i_token i_number i_bank i_rb i_codes i_within i_piled i_unitsInRule i_askHouse i_askTune i_acts i_undone i_laid i_knowns i_time f_text f_tunes f_houses f_hums f_told f_many f_ruleFrom f_ruleTo f_code f_eWhat f_eSign f_all f_kept f_was f_sTune f_boxAll J L) H19) (hD : va_D A (WM r ct i_taped i_size i_faultKind i_at i_end i_token i_number i_bank i_rb i_codes i_within i_piled i_unitsInRule i_askHouse i_askTune i_acts i_undone i_laid i_knowns i_time f_text f_tunes f_houses f_hums f_told f_many f_ruleFrom f_ruleTo f_code f_eWhat f_eSign f_all f_kept f_was f_sTune f_boxAll J L)) (hS : va_S A s.heap H19 locs) (hl : lv_has ls 6 [(0, .ref (r 0)), (1, .int p0), (2, .int y19_2), (3, .int y19_3), (4, .int y19_4)]) (hM : -1 * y19_4.toInt + 1296 < (N19 : Int)), W p l e { frames := 8, cells := 0, slots := 0, locals := 293 } s m ([.ref (r 0), .int p0] : List Value).toArray below meth c0 H19 locs 0 0 Q (F0 m 19 ls []) := by
      intro N19
      induction N19 with
      | zero =>
        intro y19_2 y19_3 y19_4 H19 locs ls g19_0 g19_1 g19_2 g19_3 g19_4 hP hD hS hl hM
        exact ((ob_1291 hM g19_3 g19_4)).elim
      | succ N19 ih19 =>
        intro y19_2 y19_3 y19_4 H19 locs ls g19_0 g19_1 g19_2 g19_3 g19_4 hP hD hS hl hM
        have hM19 := msucc hM
        refine lv_iload hx hb dX9_walk_19 (lv_at hl 4 rfl) ?_
        refine lv_aload_n hx hb dX9_walk_21 rfl (lv_at hl 0 rfl) ?_
        refine va_calli (va_runV (As := []) (rest := [.int y19_4]) ⟨hx, hb, hml, hown, hG⟩ (kX9_homes l dC dI r ct i_taped i_size i_faultKind i_at i_end i_token i_number i_bank i_rb i_codes i_within i_piled i_unitsInRule i_askHouse i_askTune i_acts i_undone i_laid i_knowns i_time f_text f_tunes f_houses f_hums f_told f_many f_ruleFrom f_ruleTo f_code f_eWhat f_eSign f_all f_kept f_was f_sTune f_boxAll J L H19.size hI) (cwV 0 hG (goodV gw1167 gw1169 gw58 gw138 gw1170) rfl rfl rfl hd_X9_homes ⟨(Nat.le_of_ble_eq_true rfl), (Nat.le_of_ble_eq_true rfl)⟩) ⟨fbR, va_recv hK hP (ci := 8) (q0 := 0) rfl rfl, pR_in hP hK⟩ rfl rfl hl.1 rfl (lv_room (Nat.le_of_ble_eq_true rfl)) dX9_walk_22 ⟨(Nat.le_of_ble_eq_true rfl), (Nat.le_of_ble_eq_true rfl)⟩) hS (fun q hq h => absurd hq (Nat.not_lt.mpr h)) (fun q h => hA q (Nat.le_trans hS.1 h)) (fun r_15 u_ t_ H14 locs ht hvm hw hB hz1 hk1 hS => ?_)
        subst hw
        have hP := wk hP hk1
        have f16 := hB
        have f17 : r_15.toInt = (f_houses (i_bank.toInt).toNat).toInt := (ob_6 f16)
        refine lv_aload_n hx hb dX9_walk_25 rfl (lv_at hl 0 rfl) ?_
        refine va_calli (va_runV (As := []) (rest := [.int r_15, .int y19_4]) ⟨hx, hb, hml, hown, hG⟩ (kX9_homes l dC dI r ct i_taped i_size i_faultKind i_at i_end i_token i_number i_bank i_rb i_codes i_within i_piled i_unitsInRule i_askHouse i_askTune i_acts i_undone i_laid i_knowns i_time f_text f_tunes f_houses f_hums f_told f_many f_ruleFrom f_ruleTo f_code f_eWhat f_eSign f_all f_kept f_was f_sTune f_boxAll J L H14.size hI) (cwV 0 hG (goodV gw1167 gw1169 gw58 gw138 gw1170) rfl rfl rfl hd_X9_homes ⟨(Nat.le_of_ble_eq_true rfl), (Nat.le_of_ble_eq_true rfl)⟩) ⟨fbR, va_recv hK hP (ci := 8) (q0 := 0) rfl rfl, pR_in hP hK⟩ rfl rfl hl.1 rfl (lv_room (Nat.le_of_ble_eq_true rfl)) dX9_walk_26 ⟨(Nat.le_of_ble_eq_true rfl), (Nat.le_of_ble_eq_true rfl)⟩) hS (fun q hq h => absurd hq (Nat.not_lt.mpr h)) (fun q h => hA q (Nat.le_trans hS.1 h)) (fun r_19 u_ t_ H18 locs ht hvm hw hB hz1 hk1 hS => ?_)
        subst hw
        have hP := wk hP hk1
        have f20 := hB
        have f21 : r_19.toInt = (f_houses (i_bank.toInt).toNat).toInt := (ob_6 f20)
        refine va_calli (va_runS (As := [.int r_15, .int r_19]) (rest := [.int y19_4]) ⟨hx, hb, hml, hown, hG⟩ (kX9_power_v2 l dC dI r_15 r_19 H18.size (ob_1292 f2 f17) (ob_1343 f2 f17) (ob_1292 f2 f21) (ob_1293 f2 f21)) (va_cwS 2 hG (goodS gw1756 gw1757 gw138 gw1758) rfl rfl rfl hd_X9_power ⟨(Nat.le_of_ble_eq_true rfl), (Nat.le_of_ble_eq_true rfl)⟩) ⟨fbR, pR_in emptyP (emptyK hK)⟩ rfl rfl hl.1 rfl (lv_room (Nat.le_of_ble_eq_true rfl)) dX9_walk_29 ⟨(Nat.le_of_ble_eq_true rfl), (Nat.le_of_ble_eq_true rfl)⟩) hS (fun q hq h => absurd hq (Nat.not_lt.mpr h)) (fun q h => hA q (Nat.le_trans hS.1 h)) (fun r_23 u_ t_ H22 locs ht hvm hw hB hz1 hk1 hS => ?_)
        subst hw
        have hP := wk hP hk1
        obtain ⟨f24, f25, f26⟩ := hB
        have f27 : (pw r_15.toInt (r_19.toInt).toNat) = (pw ((f_houses (i_bank.toInt).toNat).toInt) (r_19.toInt).toNat) := by rw [f17]
        have f28 : (pw ((f_houses (i_bank.toInt).toNat).toInt) (r_19.toInt).toNat) = (pw ((f_houses (i_bank.toInt).toNat).toInt) (((f_houses (i_bank.toInt).toNat).toInt)).toNat) := by rw [f21]
        have f29 : r_23.toInt = (pw ((f_houses (i_bank.toInt).toNat).toInt) (((f_houses (i_bank.toInt).toNat).toInt)).toNat) := (ob_1294 f24 f27 f28)
        refine lv_icmp_ge (tgt := 74) hx hb dX9_walk_32 (by decide) (fun c_30 => ?_) (fun c_30 => ?_)
        · skip
          have f31 : r_23.toInt ≤ y19_4.toInt := qi_le c_30 rfl rfl
          refine lv_aload_n hx hb dX9_walk_74 rfl (lv_at hl 0 rfl) ?_
          refine lv_aload_n hx hb dX9_walk_75 rfl (lv_at hl 0 rfl) ?_
          refine va_calli (va_runV (As := []) (rest := [.ref (r 0)]) ⟨hx, hb, hml, hown, hG⟩ (kX9_homes l dC dI r ct i_taped i_size i_faultKind i_at i_end i_token i_number i_bank i_rb i_codes i_within i_piled i_unitsInRule i_askHouse i_askTune i_acts i_undone i_laid i_knowns i_time f_text f_tunes f_houses f_hums f_told f_many f_ruleFrom f_ruleTo f_code f_eWhat f_eSign f_all f_kept f_was f_sTune f_boxAll J L H22.size hI) (cwV 0 hG (goodV gw1167 gw1169 gw58 gw138 gw1170) rfl rfl rfl hd_X9_homes ⟨(Nat.le_of_ble_eq_true rfl), (Nat.le_of_ble_eq_true rfl)⟩) ⟨fbR, va_recv hK hP (ci := 8) (q0 := 0) rfl rfl, pR_in hP hK⟩ rfl rfl hl.1 rfl (lv_room (Nat.le_of_ble_eq_true rfl)) dX9_walk_76 ⟨(Nat.le_of_ble_eq_true rfl), (Nat.le_of_ble_eq_true rfl)⟩) hS (fun q hq h => absurd hq (Nat.not_lt.mpr h)) (fun q h => hA q (Nat.le_trans hS.1 h)) (fun r_33 u_ t_ H32 locs ht hvm hw hB hz1 hk1 hS => ?_)
          subst hw
          have hP := wk hP hk1
          have f34 := hB
          have f35 : r_33.toInt = (f_houses (i_bank.toInt).toNat).toInt := (ob_1295 f34 f27 f28)
          refine pM_X9_373_0 hx hb hG hown hK hP hD hS dX9_walk_79 (fun H36 locs hP hD hS => ?_)
          refine lv_iconst (v := 0) hx hb dX9_walk_82 (by decide) ?_
          refine lv_istore (lv' := [(4, .int 0), (0, .ref (r 0)), (1, .int p0), (2, .int y19_2), (3, .int y19_3)]) hx hb dX9_walk_83 hl (by decide) rfl (fun ls hl => ?_)
          have L85 : ∀ (N85 : Nat) (y85_4 : Int32) (m85_J : Nat → Nat → Int32) (H85 : Heap) (locs : List Loc) (ls : Array Slot) (g85_0 : (0 : Int) ≤ y85_4.toInt) (g85_1 : y85_4.toInt ≤ (4 : Int)) (hP : va_P (dC, dI) vwCl (WM r ct i_taped i_size i_faultKind i_at i_end i_token i_number i_bank i_rb i_codes i_within i_piled i_unitsInRule i_askHouse i_askTune i_acts i_undone r_33 i_knowns i_time f_text f_tunes f_houses f_hums f_told f_many f_ruleFrom f_ruleTo f_code f_eWhat f_eSign f_all f_kept f_was f_sTune f_boxAll m85_J L) H85) (hD : va_D A (WM r ct i_taped i_size i_faultKind i_at i_end i_token i_number i_bank i_rb i_codes i_within i_piled i_unitsInRule i_askHouse i_askTune i_acts i_undone r_33 i_knowns i_time f_text f_tunes f_houses f_hums f_told f_many f_ruleFrom f_ruleTo f_code f_eWhat f_eSign f_all f_kept f_was f_sTune f_boxAll m85_J L)) (hS : va_S A s.heap H85 locs) (hl : lv_has ls 6 [(0, .ref (r 0)), (1, .int p0), (2, .int y19_2), (3, .int y19_3), (4, .int y85_4)]) (hM : -1 * y85_4.toInt + 4 < (N85 : Int)), W p l e { frames := 8, cells := 0, slots := 0, locals := 293 } s m ([.ref (r 0), .int p0] : List Value).toArray below meth c0 H85 locs 0 0 Q (F0 m 85 ls []) := by
            intro N85
            induction N85 with
            | zero =>
              intro y85_4 m85_J H85 locs ls g85_0 g85_1 hP hD hS hl hM
              exact ((ob_778 hM g85_0 g85_1)).elim
            | succ N85 ih85 =>
              intro y85_4 m85_J H85 locs ls g85_0 g85_1 hP hD hS hl hM
              have hM85 := msucc hM
              refine lv_iload hx hb dX9_walk_85 (lv_at hl 4 rfl) ?_
              refine lv_aload_n hx hb dX9_walk_87 rfl (lv_at hl 0 rfl) ?_
              refine va_calli (va_runV (As := []) (rest := [.int y85_4]) ⟨hx, hb, hml, hown, hG⟩ (kX9_homes l dC dI r ct i_taped i_size i_faultKind i_at i_end i_token i_number i_bank i_rb i_codes i_within i_piled i_unitsInRule i_askHouse i_askTune i_acts i_undone r_33 i_knowns i_time f_text f_tunes f_houses f_hums f_told f_many f_ruleFrom f_ruleTo f_code f_eWhat f_eSign f_all f_kept f_was f_sTune f_boxAll m85_J L H85.size ⟨ie0, ie1, ie2, ie3, ie4, ie5, ie6, ie7, (ob_1292 f2 f35), (ob_1293 f2 f35), ie10, ie11, ie12, ie13, ie14, ie15, ie16, ie17, ie18, ie19, ie20, ie21, ie22, ie23, ie24, ie25, ie26, ie27, ie28, ie29, ie30, ie31, ie32⟩) (cwV 0 hG (goodV gw1167 gw1169 gw58 gw138 gw1170) rfl rfl rfl hd_X9_homes ⟨(Nat.le_of_ble_eq_true rfl), (Nat.le_of_ble_eq_true rfl)⟩) ⟨fbR, va_recv hK hP (ci := 8) (q0 := 0) rfl rfl, pR_in hP hK⟩ rfl rfl hl.1 rfl (lv_room (Nat.le_of_ble_eq_true rfl)) dX9_walk_88 ⟨(Nat.le_of_ble_eq_true rfl), (Nat.le_of_ble_eq_true rfl)⟩) hS (fun q hq h => absurd hq (Nat.not_lt.mpr h)) (fun q h => hA q (Nat.le_trans hS.1 h)) (fun r_38 u_ t_ H37 locs ht hvm hw hB hz1 hk1 hS => ?_)
              subst hw
              have hP := wk hP hk1
              have f39 := hB
              have f40 : r_38.toInt = (f_houses (i_bank.toInt).toNat).toInt := (ob_1295 f39 f27 f28)
              refine lv_icmp_ge (tgt := 118) hx hb dX9_walk_91 (by decide) (fun c_41 => ?_) (fun c_41 => ?_)
              · skip
                have f42 : r_38.toInt ≤ y85_4.toInt := qi_le c_41 rfl rfl
                refine lv_iload_n hx hb dX9_walk_118 rfl (lv_at hl 3 rfl) ?_
                rw [hQ]
                exact W.iret (v := y19_3) hx hb hr (fun t ht hW => ⟨⟨y19_3, y19_3, rfl, rfl, ⟨r_33, m85_J, by rw [ht]; exact hP, hD, ⟨ie0, ie1, ie2, ie3, ie4, ie5, ie6, ie7, (ob_1296 f2 f42 f40 f35), (ob_1297 f2 f42 f40 f35), ie10, ie11, ie12, ie13, ie14, ie15, ie16, ie17, ie18, ie19, ie20, ie21, ie22, ie23, ie24, ie25, ie26, ie27, ie28, ie29, ie30, ie31, ie32⟩⟩⟩, hS.F ht⟩) hS.2.2 dX9_walk_119
              · skip
                have f43 : y85_4.toInt < r_38.toInt := qi_nle c_41 rfl rfl
                refine lv_aload_n hx hb dX9_walk_94 rfl (lv_at hl 0 rfl) ?_
                refine gM_X9_97_0 hx hb hG hown hK hP dX9_walk_95 ?_
                refine lv_iload hx hb dX9_walk_98 (lv_at hl 4 rfl) ?_
                refine lv_aload_n hx hb dX9_walk_100 rfl (lv_at hl 0 rfl) ?_
                refine lv_iload_n hx hb dX9_walk_101 rfl (lv_at hl 2 rfl) ?_
                refine lv_aload_n hx hb dX9_walk_102 rfl (lv_at hl 0 rfl) ?_
                refine va_calli (va_runV (As := []) (rest := [.int y19_2, .ref (r 0), .int y85_4, .ref (r 28)]) ⟨hx, hb, hml, hown, hG⟩ (kX9_homes l dC dI r ct i_taped i_size i_faultKind i_at i_end i_token i_number i_bank i_rb i_codes i_within i_piled i_unitsInRule i_askHouse i_askTune i_acts i_undone r_33 i_knowns i_time f_text f_tunes f_houses f_hums f_told f_many f_ruleFrom f_ruleTo f_code f_eWhat f_eSign f_all f_kept f_was f_sTune f_boxAll m85_J L H37.size ⟨ie0, ie1, ie2, ie3, ie4, ie5, ie6, ie7, (ob_1298 f2 f43 f40 f35), (ob_1299 f2 f43 f40 f35), ie10, ie11, ie12, ie13, ie14, ie15, ie16, ie17, ie18, ie19, ie20, ie21, ie22, ie23, ie24, ie25, ie26, ie27, ie28, ie29, ie30, ie31, ie32⟩) (cwV 0 hG (goodV gw1167 gw1169 gw58 gw138 gw1170) rfl rfl rfl hd_X9_homes ⟨(Nat.le_of_ble_eq_true rfl), (Nat.le_of_ble_eq_true rfl)⟩) ⟨fbR, va_recv hK hP (ci := 8) (q0 := 0) rfl rfl, pR_in hP hK⟩ rfl rfl hl.1 rfl (lv_room (Nat.le_of_ble_eq_true rfl)) dX9_walk_103 ⟨(Nat.le_of_ble_eq_true rfl), (Nat.le_of_ble_eq_true rfl)⟩) hS (fun q hq h => absurd hq (Nat.not_lt.mpr h)) (fun q h => hA q (Nat.le_trans hS.1 h)) (fun r_45 u_ t_ H44 locs ht hvm hw hB hz1 hk1 hS => ?_)
                subst hw
                have hP := wk hP hk1
                have f46 := hB
                have f47 : r_45.toInt = (f_houses (i_bank.toInt).toNat).toInt := (ob_1295 f46 f27 f28)
                refine lv_iload hx hb dX9_walk_106 (lv_at hl 4 rfl) ?_
                refine va_calli (va_runV (As := [.int y19_2, .int r_45, .int y85_4]) (rest := [.int y85_4, .ref (r 28)]) ⟨hx, hb, hml, hown, hG⟩ (kX9_digit_v1 l dC dI r ct i_taped i_size i_faultKind i_at i_end i_token i_number i_bank i_rb i_codes i_within i_piled i_unitsInRule i_askHouse i_askTune i_acts i_undone r_33 i_knowns i_time f_text f_tunes f_houses f_hums f_told f_many f_ruleFrom f_ruleTo f_code f_eWhat f_eSign f_all f_kept f_was f_sTune f_boxAll m85_J L y19_2 r_45 y85_4 H44.size ⟨ie0, ie1, ie2, ie3, ie4, ie5, ie6, ie7, (ob_1298 f2 f43 f40 f35), (ob_1299 f2 f43 f40 f35), ie10, ie11, ie12, ie13, ie14, ie15, ie16, ie17, ie18, ie19, ie20, ie21, ie22, ie23, ie24, ie25, ie26, ie27, ie28, ie29, ie30, ie31, ie32⟩ (ob_1318 g85_0 f43 f40 f47) (ob_1319 f2 f43 f40 f47) (ob_139 g85_0) (ob_1054 f43 f40) (ob_1344 g19_0 g19_1)) (cwV 3 hG (goodV gw1763 gw1765 gw116 gw138 gw1766) rfl rfl rfl hd_X9_digit ⟨(Nat.le_of_ble_eq_true rfl), (Nat.le_of_ble_eq_true rfl)⟩) ⟨fbR, va_recv hK hP (ci := 8) (q0 := 0) rfl rfl, pR_in hP hK⟩ rfl rfl hl.1 rfl (lv_room (Nat.le_of_ble_eq_true rfl)) dX9_walk_108 ⟨(Nat.le_of_ble_eq_true rfl), (Nat.le_of_ble_eq_true rfl)⟩) hS (fun q hq h => absurd hq (Nat.not_lt.mpr h)) (fun q h => hA q (Nat.le_trans hS.1 h)) (fun r_49 u_ t_ H48 locs ht hvm hw hB hz1 hk1 hS => ?_)
                subst hw
                have hP := wk hP hk1
                obtain ⟨f50, f51, f52, f53⟩ := hB
                have f54 : ((y19_2.toInt / (pw r_45.toInt (((f_houses (i_bank.toInt).toNat).toInt + -1 * y85_4.toInt + (-1))).toNat)) % r_45.toInt) = ((y19_2.toInt / (pw ((f_houses (i_bank.toInt).toNat).toInt) (((f_houses (i_bank.toInt).toNat).toInt + -1 * y85_4.toInt + (-1))).toNat)) % ((f_houses (i_bank.toInt).toNat).toInt)) := by rw [f47]
                have f55 : r_49.toInt = ((y19_2.toInt / (pw ((f_houses (i_bank.toInt).toNat).toInt) (((f_houses (i_bank.toInt).toNat).toInt + -1 * y85_4.toInt + (-1))).toNat)) % ((f_houses (i_bank.toInt).toNat).toInt)) := (ob_1308 f50 f27 f28 f54)
                refine stM_28 (mm := y85_4.toInt) hx hb hK hP hD hS rfl (ob_350 g85_0) (ob_1300 f2 f43 f40) dX9_walk_111 (fun J57 H56 locs hP hD hS => ?_)
                obtain ⟨x58, ex58⟩ : ∃ y : Int32, y = y85_4 + Int32.ofInt 1 := ⟨_, rfl⟩
                have f59 : x58.toInt = y85_4.toInt + 1 := (ob_142 (qi_add ex58 rfl (by decide) (ob_140 g85_0) (ob_794 g85_1)))
                refine lv_iinc (v := x58) (lv' := [(4, .int x58), (0, .ref (r 0)), (1, .int p0), (2, .int y19_2), (3, .int y19_3)]) hx hb dX9_walk_112 hl (k := 4) rfl ex58.symm (by decide) rfl (fun ls hl => ?_)
                refine lv_goto (tgt := 85) hx hb dX9_walk_115 (by decide) ?_
                exact ih85 x58 J57 H56 _ _ (ob_149 g85_0 f59) (ob_795 f2 f43 f40 f59) hP hD hS (lv_sub hl [1, 2, 3, 4, 0] rfl) (ob_796 hM85 f59)
          exact L85 (-1 * (0 : Int32).toInt + 4 + 1).toNat 0 J H36 _ _ (ob_1 zc_0) (ob_797 zc_0) hP hD hS (lv_sub hl [1, 2, 3, 4, 0] rfl) (mlt (ob_798 zc_0))
        · skip
          have f60 : y19_4.toInt < r_23.toInt := qi_nle c_30 rfl rfl
          refine lv_aload_n hx hb dX9_walk_35 rfl (lv_at hl 0 rfl) ?_
          refine lv_iload hx hb dX9_walk_36 (lv_at hl 4 rfl) ?_
          refine lv_iload_n hx hb dX9_walk_38 rfl (lv_at hl 1 rfl) ?_
          refine va_calli (va_runV (As := [.int y19_4, .int p0]) (rest := []) ⟨hx, hb, hml, hown, hG⟩ (kX9_wayOf l dC dI r ct i_taped i_size i_faultKind i_at i_end i_token i_number i_bank i_rb i_codes i_within i_piled i_unitsInRule i_askHouse i_askTune i_acts i_undone i_laid i_knowns i_time f_text f_tunes f_houses f_hums f_told f_many f_ruleFrom f_ruleTo f_code f_eWhat f_eSign f_all f_kept f_was f_sTune f_boxAll J L y19_4 p0 H22.size hI (ob_139 g19_3)) (cwV 2 hG (goodV gw1771 gw1773 gw117 gw138 gw1774) rfl rfl rfl hd_X9_wayOf ⟨(Nat.le_of_ble_eq_true rfl), (Nat.le_of_ble_eq_true rfl)⟩) ⟨fbR, va_recv hK hP (ci := 8) (q0 := 0) rfl rfl, pR_in hP hK⟩ rfl rfl hl.1 rfl (lv_room (Nat.le_of_ble_eq_true rfl)) dX9_walk_39 ⟨(Nat.le_of_ble_eq_true rfl), (Nat.le_of_ble_eq_true rfl)⟩) hS (fun q hq h => absurd hq (Nat.not_lt.mpr h)) (fun q h => hA q (Nat.le_trans hS.1 h)) (fun r_62 u_ t_ H61 locs ht hvm hw hB hz1 hk1 hS => ?_)
          subst hw
          have hP := wk hP hk1
          refine lv_istore (lv' := [(5, .int r_62), (0, .ref (r 0)), (1, .int p0), (2, .int y19_2), (3, .int y19_3), (4, .int y19_4)]) hx hb dX9_walk_42 hl (by decide) rfl (fun ls hl => ?_)
          refine lv_iload hx hb dX9_walk_44 (lv_at hl 0 rfl) ?_
          refine lv_if_lt (tgt := 68) hx hb dX9_walk_46 (by decide) (fun c_63 => ?_) (fun c_63 => ?_)
          · skip
            have f64 : r_62.toInt < 0 := qi_lt c_63 rfl zc_0
            obtain ⟨x65, ex65⟩ : ∃ y : Int32, y = y19_4 + Int32.ofInt 1 := ⟨_, rfl⟩
            have f66 : x65.toInt = y19_4.toInt + 1 := (ob_142 (qi_add ex65 rfl (by decide) (ob_140 g19_3) (ob_1302 g19_4)))
            refine lv_iinc (v := x65) (lv' := [(4, .int x65), (5, .int r_62), (0, .ref (r 0)), (1, .int p0), (2, .int y19_2), (3, .int y19_3)]) hx hb dX9_walk_68 hl (k := 5) rfl ex65.symm (by decide) rfl (fun ls hl => ?_)
            refine lv_goto (tgt := 19) hx hb dX9_walk_71 (by decide) ?_
            exact ih19 y19_2 y19_3 x65 H61 _ _ (ob_1344 g19_0 g19_1) (ob_1345 g19_0 g19_1) (ob_1125 g19_2) (ob_149 g19_3 f66) (ob_1305 f27 f28 f26 f60 f29 f66) hP hD hS (lv_sub hl [2, 3, 4, 5, 0] rfl) (ob_1306 hM19 f66)
          · skip
            have f67 : 0 ≤ r_62.toInt := qi_nlt c_63 rfl zc_0
            refine lv_iload_n hx hb dX9_walk_49 rfl (lv_at hl 4 rfl) ?_
            refine lv_if_lt (tgt := 62) hx hb dX9_walk_50 (by decide) (fun c_68 => ?_) (fun c_68 => ?_)
            · skip
              have f69 : y19_3.toInt < 0 := qi_lt c_68 rfl zc_0
              refine lv_iload hx hb dX9_walk_62 (lv_at hl 5 rfl) ?_
              refine lv_istore_n (lv' := [(2, .int y19_4), (5, .int r_62), (0, .ref (r 0)), (1, .int p0), (3, .int y19_3), (4, .int y19_4)]) hx hb dX9_walk_64 rfl hl (by decide) rfl (fun ls hl => ?_)
              refine lv_iload hx hb dX9_walk_65 (lv_at hl 1 rfl) ?_
              refine lv_istore_n (lv' := [(3, .int r_62), (2, .int y19_4), (5, .int r_62), (0, .ref (r 0)), (1, .int p0), (4, .int y19_4)]) hx hb dX9_walk_67 rfl hl (by decide) rfl (fun ls hl => ?_)
              obtain ⟨x70, ex70⟩ : ∃ y : Int32, y = y19_4 + Int32.ofInt 1 := ⟨_, rfl⟩
              have f71 : x70.toInt = y19_4.toInt + 1 := (ob_142 (qi_add ex70 rfl (by decide) (ob_140 g19_3) (ob_1302 g19_4)))
              refine lv_iinc (v := x70) (lv' := [(4, .int x70), (3, .int r_62), (2, .int y19_4), (5, .int r_62), (0, .ref (r 0)), (1, .int p0)]) hx hb dX9_walk_68 hl (k := 5) rfl ex70.symm (by decide) rfl (fun ls hl => ?_)
              refine lv_goto (tgt := 19) hx hb dX9_walk_71 (by decide) ?_
              exact ih19 y19_4 r_62 x70 H61 _ _ (ob_139 g19_3) (ob_1303 g19_4) (ob_1346 f67) (ob_149 g19_3 f71) (ob_1305 f27 f28 f26 f60 f29 f71) hP hD hS (lv_sub hl [4, 5, 2, 1, 0] rfl) (ob_1306 hM19 f71)
            · skip
              have f72 : 0 ≤ y19_3.toInt := qi_nlt c_68 rfl zc_0
              refine lv_iload hx hb dX9_walk_53 (lv_at hl 0 rfl) ?_
              refine lv_iload_n hx hb dX9_walk_55 rfl (lv_at hl 4 rfl) ?_
              refine lv_icmp_lt (tgt := 62) hx hb dX9_walk_56 (by decide) (fun c_73 => ?_) (fun c_73 => ?_)
              · skip
                have f74 : r_62.toInt < y19_3.toInt := qi_lt c_73 rfl rfl
                refine lv_iload hx hb dX9_walk_62 (lv_at hl 5 rfl) ?_
                refine lv_istore_n (lv' := [(2, .int y19_4), (5, .int r_62), (0, .ref (r 0)), (1, .int p0), (3, .int y19_3), (4, .int y19_4)]) hx hb dX9_walk_64 rfl hl (by decide) rfl (fun ls hl => ?_)
                refine lv_iload hx hb dX9_walk_65 (lv_at hl 1 rfl) ?_
                refine lv_istore_n (lv' := [(3, .int r_62), (2, .int y19_4), (5, .int r_62), (0, .ref (r 0)), (1, .int p0), (4, .int y19_4)]) hx hb dX9_walk_67 rfl hl (by decide) rfl (fun ls hl => ?_)
                obtain ⟨x75, ex75⟩ : ∃ y : Int32, y = y19_4 + Int32.ofInt 1 := ⟨_, rfl⟩
                have f76 : x75.toInt = y19_4.toInt + 1 := (ob_142 (qi_add ex75 rfl (by decide) (ob_140 g19_3) (ob_1302 g19_4)))
                refine lv_iinc (v := x75) (lv' := [(4, .int x75), (3, .int r_62), (2, .int y19_4), (5, .int r_62), (0, .ref (r 0)), (1, .int p0)]) hx hb dX9_walk_68 hl (k := 5) rfl ex75.symm (by decide) rfl (fun ls hl => ?_)
                refine lv_goto (tgt := 19) hx hb dX9_walk_71 (by decide) ?_
                exact ih19 y19_4 r_62 x75 H61 _ _ (ob_139 g19_3) (ob_1303 g19_4) (ob_1347 f67 f74) (ob_149 g19_3 f76) (ob_1305 f27 f28 f26 f60 f29 f76) hP hD hS (lv_sub hl [4, 5, 2, 1, 0] rfl) (ob_1306 hM19 f76)
              · skip
                have f77 : y19_3.toInt ≤ r_62.toInt := qi_nlt c_73 rfl rfl
                refine lv_goto (tgt := 68) hx hb dX9_walk_59 (by decide) ?_
                obtain ⟨x78, ex78⟩ : ∃ y : Int32, y = y19_4 + Int32.ofInt 1 := ⟨_, rfl⟩
                have f79 : x78.toInt = y19_4.toInt + 1 := (ob_142 (qi_add ex78 rfl (by decide) (ob_140 g19_3) (ob_1302 g19_4)))
                refine lv_iinc (v := x78) (lv' := [(4, .int x78), (5, .int r_62), (0, .ref (r 0)), (1, .int p0), (2, .int y19_2), (3, .int y19_3)]) hx hb dX9_walk_68 hl (k := 5) rfl ex78.symm (by decide) rfl (fun ls hl => ?_)
                refine lv_goto (tgt := 19) hx hb dX9_walk_71 (by decide) ?_
                exact ih19 y19_2 y19_3 x78 H61 _ _ (ob_1344 g19_0 g19_1) (ob_1345 g19_0 g19_1) (ob_1348 g19_2 f72 f77) (ob_149 g19_3 f79) (ob_1305 f27 f28 f26 f60 f29 f79) hP hD hS (lv_sub hl [2, 3, 4, 5, 0] rfl) (ob_1306 hM19 f79)
    exact L19 (-1 * (0 : Int32).toInt + 1296 + 1).toNat 0 (-1) 0 H3 _ _ (ob_1 zc_0) (ob_1349 zc_0) (ob_1042 zc_m1) (ob_1 zc_0) (ob_1316 zc_0) hP hD hS (lv_sub hl [3, 4, 2, 1, 0] rfl) (mlt (ob_1317 zc_0))
  · skip
    have f80 : r_4.toInt = 0 := qi_eq c_8 rfl zc_0
    refine lv_iconst (v := (-1)) hx hb dX9_walk_10 (by decide) ?_
    rw [hQ]
    exact W.iret (v := (-1)) hx hb hr (fun t ht hW => ⟨⟨(-1), (-1), rfl, rfl, ⟨i_laid, J, by rw [ht]; exact hP, hD, hI⟩⟩, hS.F ht⟩) hS.2.2 dX9_walk_11
set_option maxHeartbeats 4000000 in
set_option maxRecDepth 100000 in
theorem kX9_gladAnew (l : Launch) (dC : Nat → ClassId) (dI : Nat → Nat → Nat) (r : Nat → Nat) (ct : Nat → ClassId) (i_taped i_size i_faultKind i_at i_end i_token i_number i_bank i_rb i_codes i_within i_piled i_unitsInRule i_askHouse i_askTune i_acts i_undone i_laid i_knowns i_time : Int32) (f_text f_tunes f_houses f_hums f_told f_many f_ruleFrom f_ruleTo f_code f_eWhat f_eSign f_all f_kept f_was f_sTune f_boxAll : Nat → Int32) (J : Nat → Nat → Int32) (L : Nat → Nat → Int64) (p0 p1 : Int32) (sz : Nat) (hI : (IM i_taped i_size i_faultKind i_at i_end i_bank i_rb i_acts i_undone i_laid i_knowns i_time f_tunes f_houses f_hums f_told f_many f_ruleFrom f_ruleTo f_code f_all f_kept f_was f_sTune f_boxAll)) (hp0 : (0 : Int) ≤ p0.toInt) (hp1 : p0.toInt + 1 ≤ (f_houses (i_bank.toInt).toNat).toInt) (hp2 : (0 : Int) ≤ p1.toInt) (hp3 : p1.toInt + 1 ≤ (f_tunes (i_bank.toInt).toNat).toInt) : Met l yX9_gladAnew (.code yX9_gladAnew cX9_gladAnew 3 (some .int) :: GW) { frames := 20, cells := 0, slots := 0, locals := 667 } (va_Pc [.ref (r 0), .int p0, .int p1] (pW (dC, dI) (WM r ct i_taped i_size i_faultKind i_at i_end i_token i_number i_bank i_rb i_codes i_within i_piled i_unitsInRule i_askHouse i_askTune i_acts i_undone i_laid i_knowns i_time f_text f_tunes f_houses f_hums f_told f_many f_ruleFrom f_ruleTo f_code f_eWhat f_eSign f_all f_kept f_was f_sTune f_boxAll J L) (TM ct) sz)) (va_Qi (fun (r0 : Int32) (u : Int32) => r0 = u) (fun (u : Int32) (t : State) => ∃ (n_i_askHouse n_i_askTune : Int32) (n_J : Nat → Nat → Int32), va_P (dC, dI) vwCl (WM r ct i_taped i_size i_faultKind i_at i_end i_token i_number i_bank i_rb i_codes i_within i_piled i_unitsInRule n_i_askHouse n_i_askTune i_acts i_undone i_laid i_knowns i_time f_text f_tunes f_houses f_hums f_told f_many f_ruleFrom f_ruleTo f_code f_eWhat f_eSign f_all f_kept f_was f_sTune f_boxAll n_J L) t.heap ∧ va_D (va_A (WM r ct i_taped i_size i_faultKind i_at i_end i_token i_number i_bank i_rb i_codes i_within i_piled i_unitsInRule i_askHouse i_askTune i_acts i_undone i_laid i_knowns i_time f_text f_tunes f_houses f_hums f_told f_many f_ruleFrom f_ruleTo f_code f_eWhat f_eSign f_all f_kept f_was f_sTune f_boxAll J L) sz) (WM r ct i_taped i_size i_faultKind i_at i_end i_token i_number i_bank i_rb i_codes i_within i_piled i_unitsInRule n_i_askHouse n_i_askTune i_acts i_undone i_laid i_knowns i_time f_text f_tunes f_houses f_hums f_told f_many f_ruleFrom f_ruleTo f_code f_eWhat f_eSign f_all f_kept f_was f_sTune f_boxAll n_J L) ∧ (IM i_taped i_size i_faultKind i_at i_end i_bank i_rb i_acts i_undone i_laid i_knowns i_time f_tunes f_houses f_hums f_told f_many f_ruleFrom f_ruleTo f_code f_all f_kept f_was f_sTune f_boxAll)) (va_A (WM r ct i_taped i_size i_faultKind i_at i_end i_token i_number i_bank i_rb i_codes i_within i_piled i_unitsInRule i_askHouse i_askTune i_acts i_undone i_laid i_knowns i_time f_text f_tunes f_houses f_hums f_told f_many f_ruleFrom f_ruleTo f_code f_eWhat f_eSign f_all f_kept f_was f_sTune f_boxAll J L) sz)) 0 0 (va_A (WM r ct i_taped i_size i_faultKind i_at i_end i_token i_number i_bank i_rb i_codes i_within i_piled i_unitsInRule i_askHouse i_askTune i_acts i_undone i_laid i_knowns i_time f_text f_tunes f_houses f_hums f_told f_many f_ruleFrom f_ruleTo f_code f_eWhat f_eSign f_all f_kept f_was f_sTune f_boxAll J L) sz) := by
  refine Met.ofW (cc := cX9_gladAnew) (maxL := 3) (ret := (some .int)) (by decide) rfl ?_
  intro p e s m args below meth c0 s₁ B hml hv
  obtain ⟨rfl, hsz, hP, hK, hD0⟩ := hv
  have hx := B.exec
  have hb := B.bytes
  have hr := B.returns
  have hts := atoms_spec (ws := .code yX9_gladAnew cX9_gladAnew 3 (some .int) :: GW) B.pre
  have hG : ∀ w ∈ GW, w.before _ s = true := fun w h => hts w (List.mem_cons_of_mem _ h)
  have hown : s.vm.findClass RX9 = some m.cls := findClass_of_methodNamed B.named
  subst hsz
  have hD := hD0.self (sz := s.heap.size)
  generalize hAe : va_A (WM r ct i_taped i_size i_faultKind i_at i_end i_token i_number i_bank i_rb i_codes i_within i_piled i_unitsInRule i_askHouse i_askTune i_acts i_undone i_laid i_knowns i_time f_text f_tunes f_houses f_hums f_told f_many f_ruleFrom f_ruleTo f_code f_eWhat f_eSign f_all f_kept f_was f_sTune f_boxAll J L) s.heap.size = A at hD ⊢
  have hA : ∀ q : Nat, s.heap.size ≤ q → A q := fun q h => by rw [← hAe]; exact Or.inr h
  have hS : va_S A s.heap s.heap [] := va_S.rf
  have hP : va_P (dC, dI) vwCl (WM r ct i_taped i_size i_faultKind i_at i_end i_token i_number i_bank i_rb i_codes i_within i_piled i_unitsInRule i_askHouse i_askTune i_acts i_undone i_laid i_knowns i_time f_text f_tunes f_houses f_hums f_told f_many f_ruleFrom f_ruleTo f_code f_eWhat f_eSign f_all f_kept f_was f_sTune f_boxAll J L) s.heap := hP
  have hl := lv_entry ([.ref (r 0), .int p0, .int p1]) (n := 3) (Nat.le_of_ble_eq_true rfl)
  rw [lg_entry_eq]
  generalize (lg_sl ([.ref (r 0), .int p0, .int p1]) ++ List.replicate (3 - (lg_sl ([.ref (r 0), .int p0, .int p1])).length) Slot.unset).toArray = ls at hl ⊢
  have hl : lv_has ls 3 [(0, .ref (r 0)), (1, .int p0), (2, .int p1)] := hl
  refine nameQ (fun Q hQ => ?_)
  obtain ⟨ie0, ie1, ie2, ie3, ie4, ie5, ie6, ie7, ie8, ie9, ie10, ie11, ie12, ie13, ie14, ie15, ie16, ie17, ie18, ie19, ie20, ie21, ie22, ie23, ie24, ie25, ie26, ie27, ie28, ie29, ie30, ie31, ie32⟩ := id hI
  have f1 : 0 ≤ (f_tunes (i_bank.toInt).toNat).toInt ∧ (f_tunes (i_bank.toInt).toNat).toInt ≤ 5 := ie21 (i_bank.toInt)
  have f2 : 0 ≤ (f_houses (i_bank.toInt).toNat).toInt ∧ (f_houses (i_bank.toInt).toNat).toInt ≤ 4 := ie22 (i_bank.toInt)
  refine lv_aload_n hx hb dX9_gladAnew_0 rfl (lv_at hl 0 rfl) ?_
  refine lv_iload_n hx hb dX9_gladAnew_1 rfl (lv_at hl 1 rfl) ?_
  refine lv_iload_n hx hb dX9_gladAnew_2 rfl (lv_at hl 2 rfl) ?_
  refine lv_aload_n hx hb dX9_gladAnew_3 rfl (lv_at hl 0 rfl) ?_
  refine lv_iload_n hx hb dX9_gladAnew_4 rfl (lv_at hl 1 rfl) ?_
  refine va_calli (va_runV (As := [.int p0]) (rest := [.int p1, .int p0, .ref (r 0)]) ⟨hx, hb, hml, hown, hG⟩ (kX9_triedBy l dC dI r ct i_taped i_size i_faultKind i_at i_end i_token i_number i_bank i_rb i_codes i_within i_piled i_unitsInRule i_askHouse i_askTune i_acts i_undone i_laid i_knowns i_time f_text f_tunes f_houses f_hums f_told f_many f_ruleFrom f_ruleTo f_code f_eWhat f_eSign f_all f_kept f_was f_sTune f_boxAll J L p0 s.heap.size hI) (cwV 1 hG (goodV gw1550 gw1552 gw92 gw138 gw1553) rfl rfl rfl hd_X9_triedBy ⟨(Nat.le_of_ble_eq_true rfl), (Nat.le_of_ble_eq_true rfl)⟩) ⟨fbR, va_recv hK hP (ci := 8) (q0 := 0) rfl rfl, pR_in hP hK⟩ rfl rfl hl.1 rfl (lv_room (Nat.le_of_ble_eq_true rfl)) dX9_gladAnew_5 ⟨(Nat.le_of_ble_eq_true rfl), (Nat.le_of_ble_eq_true rfl)⟩) hS (fun q hq h => absurd hq (Nat.not_lt.mpr h)) (fun q h => hA q (Nat.le_trans hS.1 h)) (fun r_4 u_ t_ H3 locs ht hvm hw hB hz1 hk1 hS => ?_)
  subst hw
  have hP := wk hP hk1
  obtain ⟨f5, f6, f7⟩ := hB
  have f8 : r_4.toInt = (trb f_all p0.toInt (f_tunes (i_bank.toInt).toNat).toInt (6 - ((0 : Int32).toInt)).toNat ((0 : Int32).toInt)) := (ob_6 f7)
  refine lv_iload_n hx hb dX9_gladAnew_8 rfl (lv_at hl 2 rfl) ?_
  refine lv_icmp_ne (tgt := 24) hx hb dX9_gladAnew_9 (by decide) (fun c_9 => ?_) (fun c_9 => ?_)
  · skip
    have f10 : r_4.toInt ≠ p1.toInt := qi_ne c_9 rfl rfl
    refine lv_iconst (v := 0) hx hb dX9_gladAnew_24 (by decide) ?_
    have hFc := frA hD hS hA
    refine va_calli (va_runV (As := [.int p0, .int p1, .int 0]) (rest := []) ⟨hx, hb, hml, hown, hG⟩ (kX9_gladBy l dC dI r ct i_taped i_size i_faultKind i_at i_end i_token i_number i_bank i_rb i_codes i_within i_piled i_unitsInRule i_askHouse i_askTune i_acts i_undone i_laid i_knowns i_time f_text f_tunes f_houses f_hums f_told f_many f_ruleFrom f_ruleTo f_code f_eWhat f_eSign f_all f_kept f_was f_sTune f_boxAll J L p0 p1 0 H3.size hI (ob_880 hp0 hp1) (ob_898 f2 hp0 hp1) (ob_880 hp2 hp3) (ob_1060 hp3)) (cwV 3 hG (goodV gw1566 gw1568 gw95 gw138 gw1569) rfl rfl rfl hd_X9_gladBy ⟨(Nat.le_of_ble_eq_true rfl), (Nat.le_of_ble_eq_true rfl)⟩) ⟨fbW, va_recv hK hP (ci := 8) (q0 := 0) rfl rfl, pW_in hP hK hD⟩ rfl rfl hl.1 rfl (lv_room (Nat.le_of_ble_eq_true rfl)) dX9_gladAnew_25 ⟨(Nat.le_of_ble_eq_true rfl), (Nat.le_of_ble_eq_true rfl)⟩) hS (fun q _ h => hFc q h) hFc (fun r_12 u_ t_ H11 locs ht hvm hw hB hz1 hk1 hS => ?_)
    subst hw
    obtain ⟨x13, x14, J15, hP1, hD1, hI16⟩ := hB
    rw [ht] at hP1
    have hP := hP1
    have hD := dW hFc hD1
    obtain ⟨im17, im18, im19, im20, im21, im22, im23, im24, im25, im26, im27, im28, im29, im30, im31, im32, im33, im34, im35, im36, im37, im38, im39, im40, im41, im42, im43, im44, im45, im46, im47, im48, im49⟩ := id hI16
    rw [hQ]
    exact W.iret (v := r_12) hx hb hr (fun t ht hW => ⟨⟨r_12, r_12, rfl, rfl, ⟨x13, x14, J15, by rw [ht]; exact hP, hD, hI16⟩⟩, hS.F ht⟩) hS.2.2 dX9_gladAnew_28
  · skip
    have f50 : r_4.toInt = p1.toInt := qi_eq c_9 rfl rfl
    refine lv_aload_n hx hb dX9_gladAnew_12 rfl (lv_at hl 0 rfl) ?_
    refine gM_X9_88_0 hx hb hG hown hK hP dX9_gladAnew_13 ?_
    refine lv_bipush (v := 15) hx hb dX9_gladAnew_16 (by decide) ?_
    refine lv_iload_n hx hb dX9_gladAnew_18 rfl (lv_at hl 2 rfl) ?_
    refine lv_iadd hx hb dX9_gladAnew_19 ?_
    refine lv_topi (fun x51 ex51 => ?_)
    have f52 : x51.toInt = p1.toInt + 15 := (ob_1063 (qi_add ex51 zc_15 rfl (ob_1061 hp2 hp3 f50 f8) (ob_1062 f1 hp3)))
    refine ldM_25 (mm := p1.toInt + 15) hx hb hK hP f52 (ob_1064 hp2 hp3 f50 f8) (ob_1065 f1 hp3) dX9_gladAnew_20 ?_
    refine lv_goto (tgt := 25) hx hb dX9_gladAnew_21 (by decide) ?_
    have hFc := frA hD hS hA
    refine va_calli (va_runV (As := [.int p0, .int p1, .int (f_all (p1.toInt + 15).toNat)]) (rest := []) ⟨hx, hb, hml, hown, hG⟩ (kX9_gladBy l dC dI r ct i_taped i_size i_faultKind i_at i_end i_token i_number i_bank i_rb i_codes i_within i_piled i_unitsInRule i_askHouse i_askTune i_acts i_undone i_laid i_knowns i_time f_text f_tunes f_houses f_hums f_told f_many f_ruleFrom f_ruleTo f_code f_eWhat f_eSign f_all f_kept f_was f_sTune f_boxAll J L p0 p1 (f_all (p1.toInt + 15).toNat) H3.size hI (ob_880 hp0 hp1) (ob_898 f2 hp0 hp1) (ob_1066 hp2 hp3 f50 f8) (ob_1060 hp3)) (cwV 3 hG (goodV gw1566 gw1568 gw95 gw138 gw1569) rfl rfl rfl hd_X9_gladBy ⟨(Nat.le_of_ble_eq_true rfl), (Nat.le_of_ble_eq_true rfl)⟩) ⟨fbW, va_recv hK hP (ci := 8) (q0 := 0) rfl rfl, pW_in hP hK hD⟩ rfl rfl hl.1 rfl (lv_room (Nat.le_of_ble_eq_true rfl)) dX9_gladAnew_25 ⟨(Nat.le_of_ble_eq_true rfl), (Nat.le_of_ble_eq_true rfl)⟩) hS (fun q _ h => hFc q h) hFc (fun r_54 u_ t_ H53 locs ht hvm hw hB hz1 hk1 hS => ?_)
    subst hw
    obtain ⟨x55, x56, J57, hP1, hD1, hI58⟩ := hB
    rw [ht] at hP1
    have hP := hP1
    have hD := dW hFc hD1
    obtain ⟨im59, im60, im61, im62, im63, im64, im65, im66, im67, im68, im69, im70, im71, im72, im73, im74, im75, im76, im77, im78, im79, im80, im81, im82, im83, im84, im85, im86, im87, im88, im89, im90, im91⟩ := id hI58
    rw [hQ]
    exact W.iret (v := r_54) hx hb hr (fun t ht hW => ⟨⟨r_54, r_54, rfl, rfl, ⟨x55, x56, J57, by rw [ht]; exact hP, hD, hI58⟩⟩, hS.F ht⟩) hS.2.2 dX9_gladAnew_28
