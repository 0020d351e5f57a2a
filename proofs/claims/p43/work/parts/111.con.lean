set_option maxHeartbeats 4000000 in
set_option maxRecDepth 100000 in
theorem kX9_idle (l : Launch) (dC : Nat → ClassId) (dI : Nat → Nat → Nat) (r : Nat → Nat) (ct : Nat → ClassId) (i_taped i_size i_faultKind i_at i_end i_token i_number i_bank i_rb i_codes i_within i_piled i_unitsInRule i_askHouse i_askTune i_acts i_undone i_laid i_knowns i_time : Int32) (f_text f_tunes f_houses f_hums f_told f_many f_ruleFrom f_ruleTo f_code f_eWhat f_eSign f_all f_kept f_was f_sTune f_boxAll : Nat → Int32) (J : Nat → Nat → Int32) (L : Nat → Nat → Int64) (sz : Nat) (hI : (IM i_taped i_size i_faultKind i_at i_end i_bank i_rb i_acts i_undone i_laid i_knowns i_time f_tunes f_houses f_hums f_told f_many f_ruleFrom f_ruleTo f_code f_all f_kept f_was f_sTune f_boxAll)) : Met l yX9_idle (.code yX9_idle cX9_idle 3 (some .int) :: GW) { frames := 6, cells := 0, slots := 0, locals := 222 } (va_Pc [.ref (r 0)] (pR (dC, dI) (WM r ct i_taped i_size i_faultKind i_at i_end i_token i_number i_bank i_rb i_codes i_within i_piled i_unitsInRule i_askHouse i_askTune i_acts i_undone i_laid i_knowns i_time f_text f_tunes f_houses f_hums f_told f_many f_ruleFrom f_ruleTo f_code f_eWhat f_eSign f_all f_kept f_was f_sTune f_boxAll J L) (TM ct) sz)) (va_Qi (fun (r0 : Int32) (u : Int32) => r0 = u) (fun (u : Int32) (t : State) => True) (fun q => sz ≤ q)) 0 0 (fun q => sz ≤ q) := by
  refine Met.ofW (cc := cX9_idle) (maxL := 3) (ret := (some .int)) (by decide) rfl ?_
  intro p e s m args below meth c0 s₁ B hml hv
  obtain ⟨rfl, hsz, hP, hK⟩ := hv
  have hx := B.exec
  have hb := B.bytes
  have hr := B.returns
  have hts := atoms_spec (ws := .code yX9_idle cX9_idle 3 (some .int) :: GW) B.pre
  have hG : ∀ w ∈ GW, w.before _ s = true := fun w h => hts w (List.mem_cons_of_mem _ h)
  have hown : s.vm.findClass RX9 = some m.cls := findClass_of_methodNamed B.named
  subst hsz
  have hS : va_S (fun q => s.heap.size ≤ q) s.heap s.heap [] := va_S.rf
  have hP : va_P (dC, dI) vwCl (WM r ct i_taped i_size i_faultKind i_at i_end i_token i_number i_bank i_rb i_codes i_within i_piled i_unitsInRule i_askHouse i_askTune i_acts i_undone i_laid i_knowns i_time f_text f_tunes f_houses f_hums f_told f_many f_ruleFrom f_ruleTo f_code f_eWhat f_eSign f_all f_kept f_was f_sTune f_boxAll J L) s.heap := hP
  have hl := lv_entry ([.ref (r 0)]) (n := 3) (Nat.le_of_ble_eq_true rfl)
  rw [lg_entry_eq]
  generalize (lg_sl ([.ref (r 0)]) ++ List.replicate (3 - (lg_sl ([.ref (r 0)])).length) Slot.unset).toArray = ls at hl ⊢
  have hl : lv_has ls 3 [(0, .ref (r 0))] := hl
  refine nameQ (fun Q hQ => ?_)
  obtain ⟨ie0, ie1, ie2, ie3, ie4, ie5, ie6, ie7, ie8, ie9, ie10, ie11, ie12, ie13, ie14, ie15, ie16, ie17, ie18, ie19, ie20, ie21, ie22, ie23, ie24, ie25, ie26, ie27, ie28, ie29, ie30, ie31, ie32⟩ := id hI
  have f1 : 0 ≤ (f_tunes (i_bank.toInt).toNat).toInt ∧ (f_tunes (i_bank.toInt).toNat).toInt ≤ 5 := ie21 (i_bank.toInt)
  have f2 : 0 ≤ (f_houses (i_bank.toInt).toNat).toInt ∧ (f_houses (i_bank.toInt).toNat).toInt ≤ 4 := ie22 (i_bank.toInt)
  refine lv_iconst (v := 0) hx hb dX9_idle_0 (by decide) ?_
  refine lv_istore_n (lv' := [(1, .int 0), (0, .ref (r 0))]) hx hb dX9_idle_1 rfl hl (by decide) rfl (fun ls hl => ?_)
  refine lv_iconst (v := 0) hx hb dX9_idle_2 (by decide) ?_
  refine lv_istore_n (lv' := [(2, .int 0), (1, .int 0), (0, .ref (r 0))]) hx hb dX9_idle_3 rfl hl (by decide) rfl (fun ls hl => ?_)
  have L4 : ∀ (N4 : Nat) (y4_1 y4_2 : Int32) (H4 : Heap) (locs : List Loc) (ls : Array Slot) (g4_0 : (0 : Int) ≤ y4_2.toInt) (g4_1 : y4_2.toInt ≤ (4 : Int)) (hP : va_P (dC, dI) vwCl (WM r ct i_taped i_size i_faultKind i_at i_end i_token i_number i_bank i_rb i_codes i_within i_piled i_unitsInRule i_askHouse i_askTune i_acts i_undone i_laid i_knowns i_time f_text f_tunes f_houses f_hums f_told f_many f_ruleFrom f_ruleTo f_code f_eWhat f_eSign f_all f_kept f_was f_sTune f_boxAll J L) H4) (hS : va_S (fun q => s.heap.size ≤ q) s.heap H4 locs) (hl : lv_has ls 3 [(0, .ref (r 0)), (1, .int y4_1), (2, .int y4_2)]) (hM : -1 * y4_2.toInt + 4 < (N4 : Int)), W p l e { frames := 6, cells := 0, slots := 0, locals := 222 } s m ([.ref (r 0)] : List Value).toArray below meth c0 H4 locs 0 0 Q (F0 m 4 ls []) := by
    intro N4
    induction N4 with
    | zero =>
      intro y4_1 y4_2 H4 locs ls g4_0 g4_1 hP hS hl hM
      exact ((ob_778 hM g4_0 g4_1)).elim
    | succ N4 ih4 =>
      intro y4_1 y4_2 H4 locs ls g4_0 g4_1 hP hS hl hM
      have hM4 := msucc hM
      refine lv_iload_n hx hb dX9_idle_4 rfl (lv_at hl 2 rfl) ?_
      refine lv_aload_n hx hb dX9_idle_5 rfl (lv_at hl 0 rfl) ?_
      refine va_calli (va_runV (As := []) (rest := [.int y4_2]) ⟨hx, hb, hml, hown, hG⟩ (kX9_homes l dC dI r ct i_taped i_size i_faultKind i_at i_end i_token i_number i_bank i_rb i_codes i_within i_piled i_unitsInRule i_askHouse i_askTune i_acts i_undone i_laid i_knowns i_time f_text f_tunes f_houses f_hums f_told f_many f_ruleFrom f_ruleTo f_code f_eWhat f_eSign f_all f_kept f_was f_sTune f_boxAll J L H4.size hI) (cwV 0 hG (goodV gw1167 gw1169 gw58 gw138 gw1170) rfl rfl rfl hd_X9_homes ⟨(Nat.le_of_ble_eq_true rfl), (Nat.le_of_ble_eq_true rfl)⟩) ⟨fbR, va_recv hK hP (ci := 8) (q0 := 0) rfl rfl, pR_in hP hK⟩ rfl rfl hl.1 rfl (lv_room (Nat.le_of_ble_eq_true rfl)) dX9_idle_6 ⟨(Nat.le_of_ble_eq_true rfl), (Nat.le_of_ble_eq_true rfl)⟩) hS (fun q hq h => absurd hq (Nat.not_lt.mpr h)) (fun q h => Nat.le_trans hS.1 h) (fun r_4 u_ t_ H3 locs ht hvm hw hB hz1 hk1 hS => ?_)
      subst hw
      have hP := wk hP hk1
      have f5 := hB
      have f6 : r_4.toInt = (f_houses (i_bank.toInt).toNat).toInt := (ob_6 f5)
      refine lv_icmp_ge (tgt := 32) hx hb dX9_idle_9 (by decide) (fun c_7 => ?_) (fun c_7 => ?_)
      · skip
        have f8 : r_4.toInt ≤ y4_2.toInt := qi_le c_7 rfl rfl
        refine lv_iload_n hx hb dX9_idle_32 rfl (lv_at hl 1 rfl) ?_
        rw [hQ]
        exact W.iret (v := y4_1) hx hb hr (fun t ht hW => ⟨⟨y4_1, y4_1, rfl, rfl, trivial⟩, hS.F ht⟩) hS.2.2 dX9_idle_33
      · skip
        have f9 : y4_2.toInt < r_4.toInt := qi_nle c_7 rfl rfl
        refine lv_aload_n hx hb dX9_idle_12 rfl (lv_at hl 0 rfl) ?_
        refine lv_iload_n hx hb dX9_idle_13 rfl (lv_at hl 2 rfl) ?_
        refine va_calli (va_runV (As := [.int y4_2]) (rest := []) ⟨hx, hb, hml, hown, hG⟩ (kX9_triedBy l dC dI r ct i_taped i_size i_faultKind i_at i_end i_token i_number i_bank i_rb i_codes i_within i_piled i_unitsInRule i_askHouse i_askTune i_acts i_undone i_laid i_knowns i_time f_text f_tunes f_houses f_hums f_told f_many f_ruleFrom f_ruleTo f_code f_eWhat f_eSign f_all f_kept f_was f_sTune f_boxAll J L y4_2 H3.size hI) (cwV 1 hG (goodV gw1550 gw1552 gw92 gw138 gw1553) rfl rfl rfl hd_X9_triedBy ⟨(Nat.le_of_ble_eq_true rfl), (Nat.le_of_ble_eq_true rfl)⟩) ⟨fbR, va_recv hK hP (ci := 8) (q0 := 0) rfl rfl, pR_in hP hK⟩ rfl rfl hl.1 rfl (lv_room (Nat.le_of_ble_eq_true rfl)) dX9_idle_14 ⟨(Nat.le_of_ble_eq_true rfl), (Nat.le_of_ble_eq_true rfl)⟩) hS (fun q hq h => absurd hq (Nat.not_lt.mpr h)) (fun q h => Nat.le_trans hS.1 h) (fun r_11 u_ t_ H10 locs ht hvm hw hB hz1 hk1 hS => ?_)
        subst hw
        have hP := wk hP hk1
        obtain ⟨f12, f13, f14⟩ := hB
        have f15 : r_11.toInt = (trb f_all y4_2.toInt (f_tunes (i_bank.toInt).toNat).toInt (6 - ((0 : Int32).toInt)).toNat ((0 : Int32).toInt)) := (ob_6 f14)
        refine lv_if_ge (tgt := 26) hx hb dX9_idle_17 (by decide) (fun c_16 => ?_) (fun c_16 => ?_)
        · skip
          have f17 : 0 ≤ r_11.toInt := qi_le c_16 zc_0 rfl
          obtain ⟨x18, ex18⟩ : ∃ y : Int32, y = y4_2 + Int32.ofInt 1 := ⟨_, rfl⟩
          have f19 : x18.toInt = y4_2.toInt + 1 := (ob_142 (qi_add ex18 rfl (by decide) (ob_140 g4_0) (ob_794 g4_1)))
          refine lv_iinc (v := x18) (lv' := [(2, .int x18), (0, .ref (r 0)), (1, .int y4_1)]) hx hb dX9_idle_26 hl (k := 2) rfl ex18.symm (by decide) rfl (fun ls hl => ?_)
          refine lv_goto (tgt := 4) hx hb dX9_idle_29 (by decide) ?_
          exact ih4 y4_1 x18 H10 _ _ (ob_149 g4_0 f19) (ob_795 f2 f9 f6 f19) hP hS (lv_sub hl [1, 2, 0] rfl) (ob_796 hM4 f19)
        · skip
          have f20 : r_11.toInt < 0 := qi_nle c_16 zc_0 rfl
          refine lv_iload_n hx hb dX9_idle_20 rfl (lv_at hl 1 rfl) ?_
          refine lv_iconst (v := 1) hx hb dX9_idle_21 (by decide) ?_
          refine lv_iload_n hx hb dX9_idle_22 rfl (lv_at hl 2 rfl) ?_
          refine lv_ishl hx hb dX9_idle_23 ?_
          refine lv_topi (fun x21 ex21 => ?_)
          refine lv_ior hx hb dX9_idle_24 ?_
          refine lv_topi (fun x22 ex22 => ?_)
          refine lv_istore_n (lv' := [(1, .int x22), (0, .ref (r 0)), (2, .int y4_2)]) hx hb dX9_idle_25 rfl hl (by decide) rfl (fun ls hl => ?_)
          obtain ⟨x23, ex23⟩ : ∃ y : Int32, y = y4_2 + Int32.ofInt 1 := ⟨_, rfl⟩
          have f24 : x23.toInt = y4_2.toInt + 1 := (ob_142 (qi_add ex23 rfl (by decide) (ob_140 g4_0) (ob_794 g4_1)))
          refine lv_iinc (v := x23) (lv' := [(2, .int x23), (1, .int x22), (0, .ref (r 0))]) hx hb dX9_idle_26 hl (k := 2) rfl ex23.symm (by decide) rfl (fun ls hl => ?_)
          refine lv_goto (tgt := 4) hx hb dX9_idle_29 (by decide) ?_
          exact ih4 x22 x23 H10 _ _ (ob_149 g4_0 f24) (ob_795 f2 f9 f6 f24) hP hS (lv_sub hl [2, 1, 0] rfl) (ob_796 hM4 f24)
  exact L4 (-1 * (0 : Int32).toInt + 4 + 1).toNat 0 0 s.heap _ _ (ob_1 zc_0) (ob_797 zc_0) hP hS (lv_sub hl [2, 1, 0] rfl) (mlt (ob_798 zc_0))
set_option maxHeartbeats 4000000 in
set_option maxRecDepth 100000 in
theorem kX9_fashion (l : Launch) (dC : Nat → ClassId) (dI : Nat → Nat → Nat) (r : Nat → Nat) (ct : Nat → ClassId) (i_taped i_size i_faultKind i_at i_end i_token i_number i_bank i_rb i_codes i_within i_piled i_unitsInRule i_askHouse i_askTune i_acts i_undone i_laid i_knowns i_time : Int32) (f_text f_tunes f_houses f_hums f_told f_many f_ruleFrom f_ruleTo f_code f_eWhat f_eSign f_all f_kept f_was f_sTune f_boxAll : Nat → Int32) (J : Nat → Nat → Int32) (L : Nat → Nat → Int64) (sz : Nat) (hI : (IM i_taped i_size i_faultKind i_at i_end i_bank i_rb i_acts i_undone i_laid i_knowns i_time f_tunes f_houses f_hums f_told f_many f_ruleFrom f_ruleTo f_code f_all f_kept f_was f_sTune f_boxAll)) : Met l yX9_fashion (.code yX9_fashion cX9_fashion 6 (some .int) :: GW) { frames := 4, cells := 0, slots := 0, locals := 162 } (va_Pc [.ref (r 0)] (pR (dC, dI) (WM r ct i_taped i_size i_faultKind i_at i_end i_token i_number i_bank i_rb i_codes i_within i_piled i_unitsInRule i_askHouse i_askTune i_acts i_undone i_laid i_knowns i_time f_text f_tunes f_houses f_hums f_told f_many f_ruleFrom f_ruleTo f_code f_eWhat f_eSign f_all f_kept f_was f_sTune f_boxAll J L) (TM ct) sz)) (va_Qi (fun (r0 : Int32) (u : Int32) => r0 = u) (fun (u : Int32) (t : State) => True) (fun q => sz ≤ q)) 0 0 (fun q => sz ≤ q) := by
  refine Met.ofW (cc := cX9_fashion) (maxL := 6) (ret := (some .int)) (by decide) rfl ?_
  intro p e s m args below meth c0 s₁ B hml hv
  obtain ⟨rfl, hsz, hP, hK⟩ := hv
  have hx := B.exec
  have hb := B.bytes
  have hr := B.returns
  have hts := atoms_spec (ws := .code yX9_fashion cX9_fashion 6 (some .int) :: GW) B.pre
  have hG : ∀ w ∈ GW, w.before _ s = true := fun w h => hts w (List.mem_cons_of_mem _ h)
  have hown : s.vm.findClass RX9 = some m.cls := findClass_of_methodNamed B.named
  subst hsz
  have hS : va_S (fun q => s.heap.size ≤ q) s.heap s.heap [] := va_S.rf
  have hP : va_P (dC, dI) vwCl (WM r ct i_taped i_size i_faultKind i_at i_end i_token i_number i_bank i_rb i_codes i_within i_piled i_unitsInRule i_askHouse i_askTune i_acts i_undone i_laid i_knowns i_time f_text f_tunes f_houses f_hums f_told f_many f_ruleFrom f_ruleTo f_code f_eWhat f_eSign f_all f_kept f_was f_sTune f_boxAll J L) s.heap := hP
  have hl := lv_entry ([.ref (r 0)]) (n := 6) (Nat.le_of_ble_eq_true rfl)
  rw [lg_entry_eq]
  generalize (lg_sl ([.ref (r 0)]) ++ List.replicate (6 - (lg_sl ([.ref (r 0)])).length) Slot.unset).toArray = ls at hl ⊢
  have hl : lv_has ls 6 [(0, .ref (r 0))] := hl
  refine nameQ (fun Q hQ => ?_)
  obtain ⟨ie0, ie1, ie2, ie3, ie4, ie5, ie6, ie7, ie8, ie9, ie10, ie11, ie12, ie13, ie14, ie15, ie16, ie17, ie18, ie19, ie20, ie21, ie22, ie23, ie24, ie25, ie26, ie27, ie28, ie29, ie30, ie31, ie32⟩ := id hI
  have f1 : 0 ≤ (f_tunes (i_bank.toInt).toNat).toInt ∧ (f_tunes (i_bank.toInt).toNat).toInt ≤ 5 := ie21 (i_bank.toInt)
  have f2 : 0 ≤ (f_houses (i_bank.toInt).toNat).toInt ∧ (f_houses (i_bank.toInt).toNat).toInt ≤ 4 := ie22 (i_bank.toInt)
  refine lv_iconst (v := (-1)) hx hb dX9_fashion_0 (by decide) ?_
  refine lv_istore_n (lv' := [(1, .int (-1)), (0, .ref (r 0))]) hx hb dX9_fashion_1 rfl hl (by decide) rfl (fun ls hl => ?_)
  refine lv_iconst (v := 0) hx hb dX9_fashion_2 (by decide) ?_
  refine lv_istore_n (lv' := [(2, .int 0), (1, .int (-1)), (0, .ref (r 0))]) hx hb dX9_fashion_3 rfl hl (by decide) rfl (fun ls hl => ?_)
  refine lv_iconst (v := 0) hx hb dX9_fashion_4 (by decide) ?_
  refine lv_istore_n (lv' := [(3, .int 0), (2, .int 0), (1, .int (-1)), (0, .ref (r 0))]) hx hb dX9_fashion_5 rfl hl (by decide) rfl (fun ls hl => ?_)
  have L6 : ∀ (N6 : Nat) (y6_1 y6_2 y6_3 : Int32) (H6 : Heap) (locs : List Loc) (ls : Array Slot) (g6_0 : (0 : Int) ≤ y6_1.toInt + 1) (g6_1 : y6_1.toInt ≤ (1048576 : Int)) (g6_2 : (0 : Int) ≤ y6_2.toInt) (g6_3 : (0 : Int) ≤ y6_3.toInt) (g6_4 : y6_3.toInt ≤ (7 : Int)) (hP : va_P (dC, dI) vwCl (WM r ct i_taped i_size i_faultKind i_at i_end i_token i_number i_bank i_rb i_codes i_within i_piled i_unitsInRule i_askHouse i_askTune i_acts i_undone i_laid i_knowns i_time f_text f_tunes f_houses f_hums f_told f_many f_ruleFrom f_ruleTo f_code f_eWhat f_eSign f_all f_kept f_was f_sTune f_boxAll J L) H6) (hS : va_S (fun q => s.heap.size ≤ q) s.heap H6 locs) (hl : lv_has ls 6 [(0, .ref (r 0)), (1, .int y6_1), (2, .int y6_2), (3, .int y6_3)]) (hM : -1 * y6_3.toInt + 7 < (N6 : Int)), W p l e { frames := 4, cells := 0, slots := 0, locals := 162 } s m ([.ref (r 0)] : List Value).toArray below meth c0 H6 locs 0 0 Q (F0 m 6 ls []) := by
    intro N6
    induction N6 with
    | zero =>
      intro y6_1 y6_2 y6_3 H6 locs ls g6_0 g6_1 g6_2 g6_3 g6_4 hP hS hl hM
      exact ((ob_1140 hM g6_3 g6_4)).elim
    | succ N6 ih6 =>
      intro y6_1 y6_2 y6_3 H6 locs ls g6_0 g6_1 g6_2 g6_3 g6_4 hP hS hl hM
      have hM6 := msucc hM
      refine lv_iload_n hx hb dX9_fashion_6 rfl (lv_at hl 3 rfl) ?_
      refine lv_bipush (v := 7) hx hb dX9_fashion_7 (by decide) ?_
      refine lv_icmp_ge (tgt := 96) hx hb dX9_fashion_9 (by decide) (fun c_3 => ?_) (fun c_3 => ?_)
      · skip
        have f4 : 7 ≤ y6_3.toInt := qi_le c_3 zc_7 rfl
        refine lv_iload_n hx hb dX9_fashion_96 rfl (lv_at hl 1 rfl) ?_
        rw [hQ]
        exact W.iret (v := y6_1) hx hb hr (fun t ht hW => ⟨⟨y6_1, y6_1, rfl, rfl, trivial⟩, hS.F ht⟩) hS.2.2 dX9_fashion_97
      · skip
        have f5 : y6_3.toInt < 7 := qi_nle c_3 zc_7 rfl
        refine lv_iconst (v := 0) hx hb dX9_fashion_12 (by decide) ?_
        refine lv_istore (lv' := [(4, .int 0), (0, .ref (r 0)), (1, .int y6_1), (2, .int y6_2), (3, .int y6_3)]) hx hb dX9_fashion_13 hl (by decide) rfl (fun ls hl => ?_)
        refine lv_iconst (v := 0) hx hb dX9_fashion_15 (by decide) ?_
        refine lv_istore (lv' := [(5, .int 0), (4, .int 0), (0, .ref (r 0)), (1, .int y6_1), (2, .int y6_2), (3, .int y6_3)]) hx hb dX9_fashion_16 hl (by decide) rfl (fun ls hl => ?_)
        have L18 : ∀ (N18 : Nat) (y18_4 y18_5 : Int32) (H18 : Heap) (locs : List Loc) (ls : Array Slot) (g18_0 : (0 : Int) ≤ y18_5.toInt) (g18_1 : y18_5.toInt ≤ (4 : Int)) (hP : va_P (dC, dI) vwCl (WM r ct i_taped i_size i_faultKind i_at i_end i_token i_number i_bank i_rb i_codes i_within i_piled i_unitsInRule i_askHouse i_askTune i_acts i_undone i_laid i_knowns i_time f_text f_tunes f_houses f_hums f_told f_many f_ruleFrom f_ruleTo f_code f_eWhat f_eSign f_all f_kept f_was f_sTune f_boxAll J L) H18) (hS : va_S (fun q => s.heap.size ≤ q) s.heap H18 locs) (hl : lv_has ls 6 [(0, .ref (r 0)), (1, .int y6_1), (2, .int y6_2), (3, .int y6_3), (4, .int y18_4), (5, .int y18_5)]) (hM : -1 * y18_5.toInt + 4 < (N18 : Int)), W p l e { frames := 4, cells := 0, slots := 0, locals := 162 } s m ([.ref (r 0)] : List Value).toArray below meth c0 H18 locs 0 0 Q (F0 m 18 ls []) := by
          intro N18
          induction N18 with
          | zero =>
            intro y18_4 y18_5 H18 locs ls g18_0 g18_1 hP hS hl hM
            exact ((ob_778 hM g18_0 g18_1)).elim
          | succ N18 ih18 =>
            intro y18_4 y18_5 H18 locs ls g18_0 g18_1 hP hS hl hM
            have hM18 := msucc hM
            refine lv_iload hx hb dX9_fashion_18 (lv_at hl 5 rfl) ?_
            refine lv_aload_n hx hb dX9_fashion_20 rfl (lv_at hl 0 rfl) ?_
            refine va_calli (va_runV (As := []) (rest := [.int y18_5]) ⟨hx, hb, hml, hown, hG⟩ (kX9_homes l dC dI r ct i_taped i_size i_faultKind i_at i_end i_token i_number i_bank i_rb i_codes i_within i_piled i_unitsInRule i_askHouse i_askTune i_acts i_undone i_laid i_knowns i_time f_text f_tunes f_houses f_hums f_told f_many f_ruleFrom f_ruleTo f_code f_eWhat f_eSign f_all f_kept f_was f_sTune f_boxAll J L H18.size hI) (cwV 0 hG (goodV gw1167 gw1169 gw58 gw138 gw1170) rfl rfl rfl hd_X9_homes ⟨(Nat.le_of_ble_eq_true rfl), (Nat.le_of_ble_eq_true rfl)⟩) ⟨fbR, va_recv hK hP (ci := 8) (q0 := 0) rfl rfl, pR_in hP hK⟩ rfl rfl hl.1 rfl (lv_room (Nat.le_of_ble_eq_true rfl)) dX9_fashion_21 ⟨(Nat.le_of_ble_eq_true rfl), (Nat.le_of_ble_eq_true rfl)⟩) hS (fun q hq h => absurd hq (Nat.not_lt.mpr h)) (fun q h => Nat.le_trans hS.1 h) (fun r_7 u_ t_ H6 locs ht hvm hw hB hz1 hk1 hS => ?_)
            subst hw
            have hP := wk hP hk1
            have f8 := hB
            have f9 : r_7.toInt = (f_houses (i_bank.toInt).toNat).toInt := (ob_6 f8)
            refine lv_icmp_ge (tgt := 76) hx hb dX9_fashion_24 (by decide) (fun c_10 => ?_) (fun c_10 => ?_)
            · skip
              have f11 : r_7.toInt ≤ y18_5.toInt := qi_le c_10 rfl rfl
              refine lv_iload hx hb dX9_fashion_76 (lv_at hl 4 rfl) ?_
              refine lv_iload_n hx hb dX9_fashion_78 rfl (lv_at hl 2 rfl) ?_
              refine lv_icmp_gt (tgt := 85) hx hb dX9_fashion_79 (by decide) (fun c_12 => ?_) (fun c_12 => ?_)
              · skip
                have f13 : y6_2.toInt < y18_4.toInt := qi_lt c_12 rfl rfl
                refine lv_iload_n hx hb dX9_fashion_85 rfl (lv_at hl 3 rfl) ?_
                refine lv_istore_n (lv' := [(1, .int y6_3), (0, .ref (r 0)), (2, .int y6_2), (3, .int y6_3), (4, .int y18_4), (5, .int y18_5)]) hx hb dX9_fashion_86 rfl hl (by decide) rfl (fun ls hl => ?_)
                refine lv_iload hx hb dX9_fashion_87 (lv_at hl 4 rfl) ?_
                refine lv_istore_n (lv' := [(2, .int y18_4), (1, .int y6_3), (0, .ref (r 0)), (3, .int y6_3), (4, .int y18_4), (5, .int y18_5)]) hx hb dX9_fashion_89 rfl hl (by decide) rfl (fun ls hl => ?_)
                obtain ⟨x14, ex14⟩ : ∃ y : Int32, y = y6_3 + Int32.ofInt 1 := ⟨_, rfl⟩
                have f15 : x14.toInt = y6_3.toInt + 1 := (ob_142 (qi_add ex14 rfl (by decide) (ob_140 g6_3) (ob_399 g6_4)))
                refine lv_iinc (v := x14) (lv' := [(3, .int x14), (2, .int y18_4), (1, .int y6_3), (0, .ref (r 0)), (4, .int y18_4), (5, .int y18_5)]) hx hb dX9_fashion_90 hl (k := 3) rfl ex14.symm (by decide) rfl (fun ls hl => ?_)
                refine lv_goto (tgt := 6) hx hb dX9_fashion_93 (by decide) ?_
                exact ih6 y6_3 y18_4 x14 H6 _ _ (ob_1053 g6_3) (ob_1141 g6_4) (ob_1142 g6_2 f13) (ob_149 g6_3 f15) (ob_1143 f5 f15) hP hS (lv_sub hl [3, 2, 1, 0] rfl) (ob_1144 hM6 f15)
              · skip
                have f16 : y18_4.toInt ≤ y6_2.toInt := qi_nlt c_12 rfl rfl
                refine lv_goto (tgt := 90) hx hb dX9_fashion_82 (by decide) ?_
                obtain ⟨x17, ex17⟩ : ∃ y : Int32, y = y6_3 + Int32.ofInt 1 := ⟨_, rfl⟩
                have f18 : x17.toInt = y6_3.toInt + 1 := (ob_142 (qi_add ex17 rfl (by decide) (ob_140 g6_3) (ob_399 g6_4)))
                refine lv_iinc (v := x17) (lv' := [(3, .int x17), (0, .ref (r 0)), (1, .int y6_1), (2, .int y6_2), (4, .int y18_4), (5, .int y18_5)]) hx hb dX9_fashion_90 hl (k := 3) rfl ex17.symm (by decide) rfl (fun ls hl => ?_)
                refine lv_goto (tgt := 6) hx hb dX9_fashion_93 (by decide) ?_
                exact ih6 y6_1 y6_2 x17 H6 _ _ (ob_1145 g6_0 g6_1) (ob_1146 g6_0 g6_1) (ob_1147 g6_2 f16) (ob_149 g6_3 f18) (ob_1143 f5 f18) hP hS (lv_sub hl [1, 2, 3, 0] rfl) (ob_1144 hM6 f18)
            · skip
              have f19 : y18_5.toInt < r_7.toInt := qi_nle c_10 rfl rfl
              refine lv_iload hx hb dX9_fashion_27 (lv_at hl 4 rfl) ?_
              refine lv_aload_n hx hb dX9_fashion_29 rfl (lv_at hl 0 rfl) ?_
              refine lv_iload hx hb dX9_fashion_30 (lv_at hl 5 rfl) ?_
              refine lv_iconst (v := 0) hx hb dX9_fashion_32 (by decide) ?_
              refine va_calli (va_runV (As := [.int y18_5, .int 0]) (rest := [.int y18_4]) ⟨hx, hb, hml, hown, hG⟩ (kX9_likesOf l dC dI r ct i_taped i_size i_faultKind i_at i_end i_token i_number i_bank i_rb i_codes i_within i_piled i_unitsInRule i_askHouse i_askTune i_acts i_undone i_laid i_knowns i_time f_text f_tunes f_houses f_hums f_told f_many f_ruleFrom f_ruleTo f_code f_eWhat f_eSign f_all f_kept f_was f_sTune f_boxAll J L y18_5 0 H6.size hI (ob_139 g18_0) (ob_1054 f19 f9) (ob_1 zc_0) (ob_899 zc_0)) (cwV 2 hG (goodV gw1582 gw1584 gw99 gw138 gw1585) rfl rfl rfl hd_X9_likesOf ⟨(Nat.le_of_ble_eq_true rfl), (Nat.le_of_ble_eq_true rfl)⟩) ⟨fbR, va_recv hK hP (ci := 8) (q0 := 0) rfl rfl, pR_in hP hK⟩ rfl rfl hl.1 rfl (lv_room (Nat.le_of_ble_eq_true rfl)) dX9_fashion_33 ⟨(Nat.le_of_ble_eq_true rfl), (Nat.le_of_ble_eq_true rfl)⟩) hS (fun q hq h => absurd hq (Nat.not_lt.mpr h)) (fun q h => Nat.le_trans hS.1 h) (fun r_21 u_ t_ H20 locs ht hvm hw hB hz1 hk1 hS => ?_)
              subst hw
              have hP := wk hP hk1
              refine lv_iload_n hx hb dX9_fashion_36 rfl (lv_at hl 3 rfl) ?_
              refine lv_icmp_eq (tgt := 62) hx hb dX9_fashion_37 (by decide) (fun c_22 => ?_) (fun c_22 => ?_)
              · skip
                have f23 : r_21.toInt = y6_3.toInt := qi_eq c_22 rfl rfl
                refine lv_iconst (v := 1) hx hb dX9_fashion_62 (by decide) ?_
                refine lv_goto (tgt := 67) hx hb dX9_fashion_63 (by decide) ?_
                refine lv_iadd hx hb dX9_fashion_67 ?_
                refine lv_topi (fun x24 ex24 => ?_)
                refine lv_istore (lv' := [(4, .int x24), (0, .ref (r 0)), (1, .int y6_1), (2, .int y6_2), (3, .int y6_3), (5, .int y18_5)]) hx hb dX9_fashion_68 hl (by decide) rfl (fun ls hl => ?_)
                obtain ⟨x25, ex25⟩ : ∃ y : Int32, y = y18_5 + Int32.ofInt 1 := ⟨_, rfl⟩
                have f26 : x25.toInt = y18_5.toInt + 1 := (ob_142 (qi_add ex25 rfl (by decide) (ob_140 g18_0) (ob_794 g18_1)))
                refine lv_iinc (v := x25) (lv' := [(5, .int x25), (4, .int x24), (0, .ref (r 0)), (1, .int y6_1), (2, .int y6_2), (3, .int y6_3)]) hx hb dX9_fashion_70 hl (k := 5) rfl ex25.symm (by decide) rfl (fun ls hl => ?_)
                refine lv_goto (tgt := 18) hx hb dX9_fashion_73 (by decide) ?_
                exact ih18 x24 x25 H20 _ _ (ob_149 g18_0 f26) (ob_795 f2 f19 f9 f26) hP hS (lv_sub hl [2, 3, 4, 5, 1, 0] rfl) (ob_796 hM18 f26)
              · skip
                have f27 : r_21.toInt ≠ y6_3.toInt := qi_ne c_22 rfl rfl
                refine lv_aload_n hx hb dX9_fashion_40 rfl (lv_at hl 0 rfl) ?_
                refine lv_iload hx hb dX9_fashion_41 (lv_at hl 5 rfl) ?_
                refine lv_iconst (v := 1) hx hb dX9_fashion_43 (by decide) ?_
                refine va_calli (va_runV (As := [.int y18_5, .int 1]) (rest := [.int y18_4]) ⟨hx, hb, hml, hown, hG⟩ (kX9_likesOf l dC dI r ct i_taped i_size i_faultKind i_at i_end i_token i_number i_bank i_rb i_codes i_within i_piled i_unitsInRule i_askHouse i_askTune i_acts i_undone i_laid i_knowns i_time f_text f_tunes f_houses f_hums f_told f_many f_ruleFrom f_ruleTo f_code f_eWhat f_eSign f_all f_kept f_was f_sTune f_boxAll J L y18_5 1 H20.size hI (ob_139 g18_0) (ob_1054 f19 f9) (ob_14 zc_1) (ob_535 zc_1)) (cwV 2 hG (goodV gw1582 gw1584 gw99 gw138 gw1585) rfl rfl rfl hd_X9_likesOf ⟨(Nat.le_of_ble_eq_true rfl), (Nat.le_of_ble_eq_true rfl)⟩) ⟨fbR, va_recv hK hP (ci := 8) (q0 := 0) rfl rfl, pR_in hP hK⟩ rfl rfl hl.1 rfl (lv_room (Nat.le_of_ble_eq_true rfl)) dX9_fashion_44 ⟨(Nat.le_of_ble_eq_true rfl), (Nat.le_of_ble_eq_true rfl)⟩) hS (fun q hq h => absurd hq (Nat.not_lt.mpr h)) (fun q h => Nat.le_trans hS.1 h) (fun r_29 u_ t_ H28 locs ht hvm hw hB hz1 hk1 hS => ?_)
                subst hw
                have hP := wk hP hk1
                refine lv_iload_n hx hb dX9_fashion_47 rfl (lv_at hl 3 rfl) ?_
                refine lv_icmp_eq (tgt := 62) hx hb dX9_fashion_48 (by decide) (fun c_30 => ?_) (fun c_30 => ?_)
                · skip
                  have f31 : r_29.toInt = y6_3.toInt := qi_eq c_30 rfl rfl
                  refine lv_iconst (v := 1) hx hb dX9_fashion_62 (by decide) ?_
                  refine lv_goto (tgt := 67) hx hb dX9_fashion_63 (by decide) ?_
                  refine lv_iadd hx hb dX9_fashion_67 ?_
                  refine lv_topi (fun x32 ex32 => ?_)
                  refine lv_istore (lv' := [(4, .int x32), (0, .ref (r 0)), (1, .int y6_1), (2, .int y6_2), (3, .int y6_3), (5, .int y18_5)]) hx hb dX9_fashion_68 hl (by decide) rfl (fun ls hl => ?_)
                  obtain ⟨x33, ex33⟩ : ∃ y : Int32, y = y18_5 + Int32.ofInt 1 := ⟨_, rfl⟩
                  have f34 : x33.toInt = y18_5.toInt + 1 := (ob_142 (qi_add ex33 rfl (by decide) (ob_140 g18_0) (ob_794 g18_1)))
                  refine lv_iinc (v := x33) (lv' := [(5, .int x33), (4, .int x32), (0, .ref (r 0)), (1, .int y6_1), (2, .int y6_2), (3, .int y6_3)]) hx hb dX9_fashion_70 hl (k := 5) rfl ex33.symm (by decide) rfl (fun ls hl => ?_)
                  refine lv_goto (tgt := 18) hx hb dX9_fashion_73 (by decide) ?_
                  exact ih18 x32 x33 H28 _ _ (ob_149 g18_0 f34) (ob_795 f2 f19 f9 f34) hP hS (lv_sub hl [2, 3, 4, 5, 1, 0] rfl) (ob_796 hM18 f34)
                · skip
                  have f35 : r_29.toInt ≠ y6_3.toInt := qi_ne c_30 rfl rfl
                  refine lv_aload_n hx hb dX9_fashion_51 rfl (lv_at hl 0 rfl) ?_
                  refine lv_iload hx hb dX9_fashion_52 (lv_at hl 5 rfl) ?_
                  refine lv_iconst (v := 2) hx hb dX9_fashion_54 (by decide) ?_
                  refine va_calli (va_runV (As := [.int y18_5, .int 2]) (rest := [.int y18_4]) ⟨hx, hb, hml, hown, hG⟩ (kX9_likesOf l dC dI r ct i_taped i_size i_faultKind i_at i_end i_token i_number i_bank i_rb i_codes i_within i_piled i_unitsInRule i_askHouse i_askTune i_acts i_undone i_laid i_knowns i_time f_text f_tunes f_houses f_hums f_told f_many f_ruleFrom f_ruleTo f_code f_eWhat f_eSign f_all f_kept f_was f_sTune f_boxAll J L y18_5 2 H28.size hI (ob_139 g18_0) (ob_1054 f19 f9) (ob_471 zc_2) (ob_540 zc_2)) (cwV 2 hG (goodV gw1582 gw1584 gw99 gw138 gw1585) rfl rfl rfl hd_X9_likesOf ⟨(Nat.le_of_ble_eq_true rfl), (Nat.le_of_ble_eq_true rfl)⟩) ⟨fbR, va_recv hK hP (ci := 8) (q0 := 0) rfl rfl, pR_in hP hK⟩ rfl rfl hl.1 rfl (lv_room (Nat.le_of_ble_eq_true rfl)) dX9_fashion_55 ⟨(Nat.le_of_ble_eq_true rfl), (Nat.le_of_ble_eq_true rfl)⟩) hS (fun q hq h => absurd hq (Nat.not_lt.mpr h)) (fun q h => Nat.le_trans hS.1 h) (fun r_37 u_ t_ H36 locs ht hvm hw hB hz1 hk1 hS => ?_)
                  subst hw
                  have hP := wk hP hk1
                  refine lv_iload_n hx hb dX9_fashion_58 rfl (lv_at hl 3 rfl) ?_
                  refine lv_icmp_ne (tgt := 66) hx hb dX9_fashion_59 (by decide) (fun c_38 => ?_) (fun c_38 => ?_)
                  · skip
                    have f39 : r_37.toInt ≠ y6_3.toInt := qi_ne c_38 rfl rfl
                    refine lv_iconst (v := 0) hx hb dX9_fashion_66 (by decide) ?_
                    refine lv_iadd hx hb dX9_fashion_67 ?_
                    refine lv_topi (fun x40 ex40 => ?_)
                    refine lv_istore (lv' := [(4, .int x40), (0, .ref (r 0)), (1, .int y6_1), (2, .int y6_2), (3, .int y6_3), (5, .int y18_5)]) hx hb dX9_fashion_68 hl (by decide) rfl (fun ls hl => ?_)
                    obtain ⟨x41, ex41⟩ : ∃ y : Int32, y = y18_5 + Int32.ofInt 1 := ⟨_, rfl⟩
                    have f42 : x41.toInt = y18_5.toInt + 1 := (ob_142 (qi_add ex41 rfl (by decide) (ob_140 g18_0) (ob_794 g18_1)))
                    refine lv_iinc (v := x41) (lv' := [(5, .int x41), (4, .int x40), (0, .ref (r 0)), (1, .int y6_1), (2, .int y6_2), (3, .int y6_3)]) hx hb dX9_fashion_70 hl (k := 5) rfl ex41.symm (by decide) rfl (fun ls hl => ?_)
                    refine lv_goto (tgt := 18) hx hb dX9_fashion_73 (by decide) ?_
                    exact ih18 x40 x41 H36 _ _ (ob_149 g18_0 f42) (ob_795 f2 f19 f9 f42) hP hS (lv_sub hl [2, 3, 4, 5, 1, 0] rfl) (ob_796 hM18 f42)
                  · skip
                    have f43 : r_37.toInt = y6_3.toInt := qi_eq c_38 rfl rfl
                    refine lv_iconst (v := 1) hx hb dX9_fashion_62 (by decide) ?_
                    refine lv_goto (tgt := 67) hx hb dX9_fashion_63 (by decide) ?_
                    refine lv_iadd hx hb dX9_fashion_67 ?_
                    refine lv_topi (fun x44 ex44 => ?_)
                    refine lv_istore (lv' := [(4, .int x44), (0, .ref (r 0)), (1, .int y6_1), (2, .int y6_2), (3, .int y6_3), (5, .int y18_5)]) hx hb dX9_fashion_68 hl (by decide) rfl (fun ls hl => ?_)
                    obtain ⟨x45, ex45⟩ : ∃ y : Int32, y = y18_5 + Int32.ofInt 1 := ⟨_, rfl⟩
                    have f46 : x45.toInt = y18_5.toInt + 1 := (ob_142 (qi_add ex45 rfl (by decide) (ob_140 g18_0) (ob_794 g18_1)))
                    refine lv_iinc (v := x45) (lv' := [(5, .int x45), (4, .int x44), (0, .ref (r 0)), (1, .int y6_1), (2, .int y6_2), (3, .int y6_3)]) hx hb dX9_fashion_70 hl (k := 5) rfl ex45.symm (by decide) rfl (fun ls hl => ?_)
                    refine lv_goto (tgt := 18) hx hb dX9_fashion_73 (by decide) ?_
                    exact ih18 x44 x45 H36 _ _ (ob_149 g18_0 f46) (ob_795 f2 f19 f9 f46) hP hS (lv_sub hl [2, 3, 4, 5, 1, 0] rfl) (ob_796 hM18 f46)
        exact L18 (-1 * (0 : Int32).toInt + 4 + 1).toNat 0 0 H6 _ _ (ob_1 zc_0) (ob_797 zc_0) hP hS (lv_sub hl [2, 3, 4, 5, 1, 0] rfl) (mlt (ob_798 zc_0))
  exact L6 (-1 * (0 : Int32).toInt + 7 + 1).toNat (-1) 0 0 s.heap _ _ (ob_1042 zc_m1) (ob_1148 zc_m1) (ob_1 zc_0) (ob_1 zc_0) (ob_1149 zc_0) hP hS (lv_sub hl [3, 2, 1, 0] rfl) (mlt (ob_1150 zc_0))
set_option maxHeartbeats 4000000 in
set_option maxRecDepth 100000 in
theorem kX9_due (l : Launch) (dC : Nat → ClassId) (dI : Nat → Nat → Nat) (r : Nat → Nat) (ct : Nat → ClassId) (i_taped i_size i_faultKind i_at i_end i_token i_number i_bank i_rb i_codes i_within i_piled i_unitsInRule i_askHouse i_askTune i_acts i_undone i_laid i_knowns i_time : Int32) (f_text f_tunes f_houses f_hums f_told f_many f_ruleFrom f_ruleTo f_code f_eWhat f_eSign f_all f_kept f_was f_sTune f_boxAll : Nat → Int32) (J : Nat → Nat → Int32) (L : Nat → Nat → Int64) (p0 : Int32) (sz : Nat) (hI : (IM i_taped i_size i_faultKind i_at i_end i_bank i_rb i_acts i_undone i_laid i_knowns i_time f_tunes f_houses f_hums f_told f_many f_ruleFrom f_ruleTo f_code f_all f_kept f_was f_sTune f_boxAll)) : Met l yX9_due (.code yX9_due cX9_due 2 (some .int) :: GW) { frames := 6, cells := 0, slots := 0, locals := 223 } (va_Pc [.ref (r 0), .int p0] (pR (dC, dI) (WM r ct i_taped i_size i_faultKind i_at i_end i_token i_number i_bank i_rb i_codes i_within i_piled i_unitsInRule i_askHouse i_askTune i_acts i_undone i_laid i_knowns i_time f_text f_tunes f_houses f_hums f_told f_many f_ruleFrom f_ruleTo f_code f_eWhat f_eSign f_all f_kept f_was f_sTune f_boxAll J L) (TM ct) sz)) (va_Qi (fun (r0 : Int32) (u : Int32) => r0 = u) (fun (u : Int32) (t : State) => True) (fun q => sz ≤ q)) 0 0 (fun q => sz ≤ q) := by
  refine Met.ofW (cc := cX9_due) (maxL := 2) (ret := (some .int)) (by decide) rfl ?_
  intro p e s m args below meth c0 s₁ B hml hv
  obtain ⟨rfl, hsz, hP, hK⟩ := hv
  have hx := B.exec
  have hb := B.bytes
  have hr := B.returns
  have hts := atoms_spec (ws := .code yX9_due cX9_due 2 (some .int) :: GW) B.pre
  have hG : ∀ w ∈ GW, w.before _ s = true := fun w h => hts w (List.mem_cons_of_mem _ h)
  have hown : s.vm.findClass RX9 = some m.cls := findClass_of_methodNamed B.named
  subst hsz
  have hS : va_S (fun q => s.heap.size ≤ q) s.heap s.heap [] := va_S.rf
  have hP : va_P (dC, dI) vwCl (WM r ct i_taped i_size i_faultKind i_at i_end i_token i_number i_bank i_rb i_codes i_within i_piled i_unitsInRule i_askHouse i_askTune i_acts i_undone i_laid i_knowns i_time f_text f_tunes f_houses f_hums f_told f_many f_ruleFrom f_ruleTo f_code f_eWhat f_eSign f_all f_kept f_was f_sTune f_boxAll J L) s.heap := hP
  have hl := lv_entry ([.ref (r 0), .int p0]) (n := 2) (Nat.le_of_ble_eq_true rfl)
  rw [lg_entry_eq]
  generalize (lg_sl ([.ref (r 0), .int p0]) ++ List.replicate (2 - (lg_sl ([.ref (r 0), .int p0])).length) Slot.unset).toArray = ls at hl ⊢
  have hl : lv_has ls 2 [(0, .ref (r 0)), (1, .int p0)] := hl
  refine nameQ (fun Q hQ => ?_)
  obtain ⟨ie0, ie1, ie2, ie3, ie4, ie5, ie6, ie7, ie8, ie9, ie10, ie11, ie12, ie13, ie14, ie15, ie16, ie17, ie18, ie19, ie20, ie21, ie22, ie23, ie24, ie25, ie26, ie27, ie28, ie29, ie30, ie31, ie32⟩ := id hI
  have f1 : 0 ≤ (f_tunes (i_bank.toInt).toNat).toInt ∧ (f_tunes (i_bank.toInt).toNat).toInt ≤ 5 := ie21 (i_bank.toInt)
  have f2 : 0 ≤ (f_houses (i_bank.toInt).toNat).toInt ∧ (f_houses (i_bank.toInt).toNat).toInt ≤ 4 := ie22 (i_bank.toInt)
  refine lv_aload_n hx hb dX9_due_0 rfl (lv_at hl 0 rfl) ?_
  refine lv_iload_n hx hb dX9_due_1 rfl (lv_at hl 1 rfl) ?_
  refine va_calli (va_runV (As := [.int p0]) (rest := []) ⟨hx, hb, hml, hown, hG⟩ (kX9_isTune l dC dI r ct i_taped i_size i_faultKind i_at i_end i_token i_number i_bank i_rb i_codes i_within i_piled i_unitsInRule i_askHouse i_askTune i_acts i_undone i_laid i_knowns i_time f_text f_tunes f_houses f_hums f_told f_many f_ruleFrom f_ruleTo f_code f_eWhat f_eSign f_all f_kept f_was f_sTune f_boxAll J L p0 s.heap.size hI) (cwV 1 hG (goodV gw1508 gw1510 gw85 gw138 gw1511) rfl rfl rfl hd_X9_isTune ⟨(Nat.le_of_ble_eq_true rfl), (Nat.le_of_ble_eq_true rfl)⟩) ⟨fbR, va_recv hK hP (ci := 8) (q0 := 0) rfl rfl, pR_in hP hK⟩ rfl rfl hl.1 rfl (lv_room (Nat.le_of_ble_eq_true rfl)) dX9_due_2 ⟨(Nat.le_of_ble_eq_true rfl), (Nat.le_of_ble_eq_true rfl)⟩) hS (fun q hq h => absurd hq (Nat.not_lt.mpr h)) (fun q h => Nat.le_trans hS.1 h) (fun r_4 u_ t_ H3 locs ht hvm hw hB hz1 hk1 hS => ?_)
  subst hw
  have hP := wk hP hk1
  obtain ⟨f5, f6, f7, f8, f9⟩ := hB
  refine lv_if_eq (tgt := 44) hx hb dX9_due_5 (by decide) (fun c_10 => ?_) (fun c_10 => ?_)
  · skip
    have f11 : r_4.toInt = 0 := qi_eq c_10 rfl zc_0
    refine lv_iconst (v := (-1)) hx hb dX9_due_44 (by decide) ?_
    rw [hQ]
    exact W.iret (v := (-1)) hx hb hr (fun t ht hW => ⟨⟨(-1), (-1), rfl, rfl, trivial⟩, hS.F ht⟩) hS.2.2 dX9_due_45
  · skip
    have f12 : r_4.toInt ≠ 0 := qi_ne c_10 rfl zc_0
    have f13 : (0 : Int) ≤ p0.toInt := (ob_1090 f5 f12)
    have f14 : p0.toInt + 1 ≤ (f_tunes (i_bank.toInt).toNat).toInt := (ob_1091 f5 f12)
    have f15 : r_4.toInt = (1 : Int) := (ob_1092 f5 f12)
    have f16 : (1 : Int) ≤ r_4.toInt := (ob_395 f15)
    refine lv_aload_n hx hb dX9_due_8 rfl (lv_at hl 0 rfl) ?_
    refine lv_iload_n hx hb dX9_due_9 rfl (lv_at hl 1 rfl) ?_
    refine va_calli (va_runV (As := [.int p0]) (rest := []) ⟨hx, hb, hml, hown, hG⟩ (kX9_isTried l dC dI r ct i_taped i_size i_faultKind i_at i_end i_token i_number i_bank i_rb i_codes i_within i_piled i_unitsInRule i_askHouse i_askTune i_acts i_undone i_laid i_knowns i_time f_text f_tunes f_houses f_hums f_told f_many f_ruleFrom f_ruleTo f_code f_eWhat f_eSign f_all f_kept f_was f_sTune f_boxAll J L p0 H3.size hI (ob_880 f13 f14) (ob_881 f1 f13 f14)) (cwV 1 hG (goodV gw1668 gw1670 gw106 gw138 gw1671) rfl rfl rfl hd_X9_isTried ⟨(Nat.le_of_ble_eq_true rfl), (Nat.le_of_ble_eq_true rfl)⟩) ⟨fbR, va_recv hK hP (ci := 8) (q0 := 0) rfl rfl, pR_in hP hK⟩ rfl rfl hl.1 rfl (lv_room (Nat.le_of_ble_eq_true rfl)) dX9_due_10 ⟨(Nat.le_of_ble_eq_true rfl), (Nat.le_of_ble_eq_true rfl)⟩) hS (fun q hq h => absurd hq (Nat.not_lt.mpr h)) (fun q h => Nat.le_trans hS.1 h) (fun r_18 u_ t_ H17 locs ht hvm hw hB hz1 hk1 hS => ?_)
    subst hw
    have hP := wk hP hk1
    obtain ⟨f19, f20, f21⟩ := hB
    refine lv_if_eq (tgt := 44) hx hb dX9_due_13 (by decide) (fun c_22 => ?_) (fun c_22 => ?_)
    · skip
      have f23 : r_18.toInt = 0 := qi_eq c_22 rfl zc_0
      refine lv_iconst (v := (-1)) hx hb dX9_due_44 (by decide) ?_
      rw [hQ]
      exact W.iret (v := (-1)) hx hb hr (fun t ht hW => ⟨⟨(-1), (-1), rfl, rfl, trivial⟩, hS.F ht⟩) hS.2.2 dX9_due_45
    · skip
      have f24 : r_18.toInt ≠ 0 := qi_ne c_22 rfl zc_0
      have f25 : (0 : Int) ≤ (f_all (p0.toInt).toNat).toInt := (ob_1151 f19 f24)
      have f26 : (f_all (p0.toInt + 5).toNat).toInt = (0 : Int) := (ob_1152 f19 f24)
      have f27 : r_18.toInt = (1 : Int) := (ob_1153 f19 f24)
      have f28 : (1 : Int) ≤ r_18.toInt := (ob_162 f20 f21 f27)
      refine lv_aload_n hx hb dX9_due_16 rfl (lv_at hl 0 rfl) ?_
      refine gM_X9_20_0 hx hb hG hown hK hP dX9_due_17 ?_
      refine lv_aload_n hx hb dX9_due_20 rfl (lv_at hl 0 rfl) ?_
      refine gM_X9_249_0 hx hb hG hown hK hP dX9_due_21 ?_
      refine ldM_3 (mm := i_bank.toInt) hx hb hK hP rfl (ob_263 ie4 ie5) (ob_264 ie4 ie5) dX9_due_24 (fun x29 => ?_)
      refine lv_aload_n hx hb dX9_due_25 rfl (lv_at hl 0 rfl) ?_
      refine gM_X9_88_0 hx hb hG hown hK hP dX9_due_26 ?_
      refine lv_bipush (v := 15) hx hb dX9_due_29 (by decide) ?_
      refine lv_iload_n hx hb dX9_due_31 rfl (lv_at hl 1 rfl) ?_
      refine lv_iadd hx hb dX9_due_32 ?_
      refine lv_topi (fun x30 ex30 => ?_)
      have f31 : x30.toInt = p0.toInt + 15 := (ob_1063 (qi_add ex30 zc_15 rfl (ob_1069 f13 f14) (ob_1062 f1 f14)))
      refine ldM_25 (mm := p0.toInt + 15) hx hb hK hP f31 (ob_1071 f13 f14) (ob_1065 f1 f14) dX9_due_33 ?_
      refine lv_isub hx hb dX9_due_34 ?_
      refine lv_topi (fun x32 ex32 => ?_)
      refine lv_iconst (v := 1) hx hb dX9_due_35 (by decide) ?_
      refine lv_bipush (v := 60) hx hb dX9_due_36 (by decide) ?_
      refine va_calli (va_runS (As := [.int x32, .int 1, .int 60]) (rest := []) ⟨hx, hb, hml, hown, hG⟩ (kX9_held l dC dI x32 1 60 H17.size) (va_cwS 3 hG (goodS gw1527 gw1528 gw138 gw1529) rfl rfl rfl hd_X9_held ⟨(Nat.le_of_ble_eq_true rfl), (Nat.le_of_ble_eq_true rfl)⟩) ⟨fbR, pR_in emptyP (emptyK hK)⟩ rfl rfl hl.1 rfl (lv_room (Nat.le_of_ble_eq_true rfl)) dX9_due_38 ⟨(Nat.le_of_ble_eq_true rfl), (Nat.le_of_ble_eq_true rfl)⟩) hS (fun q hq h => absurd hq (Nat.not_lt.mpr h)) (fun q h => Nat.le_trans hS.1 h) (fun r_34 u_ t_ H33 locs ht hvm hw hB hz1 hk1 hS => ?_)
      subst hw
      have hP := wk hP hk1
      have f35 := hB
      refine lv_goto (tgt := 45) hx hb dX9_due_41 (by decide) ?_
      rw [hQ]
      exact W.iret (v := r_34) hx hb hr (fun t ht hW => ⟨⟨r_34, r_34, rfl, rfl, trivial⟩, hS.F ht⟩) hS.2.2 dX9_due_45
set_option maxHeartbeats 4000000 in
set_option maxRecDepth 100000 in
theorem kX9_along (l : Launch) (dC : Nat → ClassId) (dI : Nat → Nat → Nat) (r : Nat → Nat) (ct : Nat → ClassId) (i_taped i_size i_faultKind i_at i_end i_token i_number i_bank i_rb i_codes i_within i_piled i_unitsInRule i_askHouse i_askTune i_acts i_undone i_laid i_knowns i_time : Int32) (f_text f_tunes f_houses f_hums f_told f_many f_ruleFrom f_ruleTo f_code f_eWhat f_eSign f_all f_kept f_was f_sTune f_boxAll : Nat → Int32) (J : Nat → Nat → Int32) (L : Nat → Nat → Int64) (p0 p1 : Int32) (sz : Nat) (hI : (IM i_taped i_size i_faultKind i_at i_end i_bank i_rb i_acts i_undone i_laid i_knowns i_time f_tunes f_houses f_hums f_told f_many f_ruleFrom f_ruleTo f_code f_all f_kept f_was f_sTune f_boxAll)) : Met l yX9_along (.code yX9_along cX9_along 5 (some .int) :: GW) { frames := 4, cells := 0, slots := 0, locals := 162 } (va_Pc [.ref (r 0), .int p0, .int p1] (pR (dC, dI) (WM r ct i_taped i_size i_faultKind i_at i_end i_token i_number i_bank i_rb i_codes i_within i_piled i_unitsInRule i_askHouse i_askTune i_acts i_undone i_laid i_knowns i_time f_text f_tunes f_houses f_hums f_told f_many f_ruleFrom f_ruleTo f_code f_eWhat f_eSign f_all f_kept f_was f_sTune f_boxAll J L) (TM ct) sz)) (va_Qi (fun (r0 : Int32) (u : Int32) => r0 = u) (fun (u : Int32) (t : State) => True) (fun q => sz ≤ q)) 0 0 (fun q => sz ≤ q) := by
  refine Met.ofW (cc := cX9_along) (maxL := 5) (ret := (some .int)) (by decide) rfl ?_
  intro p e s m args below meth c0 s₁ B hml hv
  obtain ⟨rfl, hsz, hP, hK⟩ := hv
  have hx := B.exec
  have hb := B.bytes
  have hr := B.returns
  have hts := atoms_spec (ws := .code yX9_along cX9_along 5 (some .int) :: GW) B.pre
  have hG : ∀ w ∈ GW, w.before _ s = true := fun w h => hts w (List.mem_cons_of_mem _ h)
  have hown : s.vm.findClass RX9 = some m.cls := findClass_of_methodNamed B.named
  subst hsz
  have hS : va_S (fun q => s.heap.size ≤ q) s.heap s.heap [] := va_S.rf
  have hP : va_P (dC, dI) vwCl (WM r ct i_taped i_size i_faultKind i_at i_end i_token i_number i_bank i_rb i_codes i_within i_piled i_unitsInRule i_askHouse i_askTune i_acts i_undone i_laid i_knowns i_time f_text f_tunes f_houses f_hums f_told f_many f_ruleFrom f_ruleTo f_code f_eWhat f_eSign f_all f_kept f_was f_sTune f_boxAll J L) s.heap := hP
  have hl := lv_entry ([.ref (r 0), .int p0, .int p1]) (n := 5) (Nat.le_of_ble_eq_true rfl)
  rw [lg_entry_eq]
  generalize (lg_sl ([.ref (r 0), .int p0, .int p1]) ++ List.replicate (5 - (lg_sl ([.ref (r 0), .int p0, .int p1])).length) Slot.unset).toArray = ls at hl ⊢
  have hl : lv_has ls 5 [(0, .ref (r 0)), (1, .int p0), (2, .int p1)] := hl
  refine nameQ (fun Q hQ => ?_)
  obtain ⟨ie0, ie1, ie2, ie3, ie4, ie5, ie6, ie7, ie8, ie9, ie10, ie11, ie12, ie13, ie14, ie15, ie16, ie17, ie18, ie19, ie20, ie21, ie22, ie23, ie24, ie25, ie26, ie27, ie28, ie29, ie30, ie31, ie32⟩ := id hI
  have f1 : 0 ≤ (f_tunes (i_bank.toInt).toNat).toInt ∧ (f_tunes (i_bank.toInt).toNat).toInt ≤ 5 := ie21 (i_bank.toInt)
  have f2 : 0 ≤ (f_houses (i_bank.toInt).toNat).toInt ∧ (f_houses (i_bank.toInt).toNat).toInt ≤ 4 := ie22 (i_bank.toInt)
  refine lv_iload_n hx hb dX9_along_0 rfl (lv_at hl 1 rfl) ?_
  refine lv_iconst (v := 0) hx hb dX9_along_1 (by decide) ?_
  refine lv_bipush (v := 99) hx hb dX9_along_2 (by decide) ?_
  refine va_calli (va_runS (As := [.int p0, .int 0, .int 99]) (rest := []) ⟨hx, hb, hml, hown, hG⟩ (kX9_isIn l dC dI p0 0 99 s.heap.size) (va_cwS 3 hG (goodS gw1516 gw1517 gw138 gw1518) rfl rfl rfl hd_X9_isIn ⟨(Nat.le_of_ble_eq_true rfl), (Nat.le_of_ble_eq_true rfl)⟩) ⟨fbR, pR_in emptyP (emptyK hK)⟩ rfl rfl hl.1 rfl (lv_room (Nat.le_of_ble_eq_true rfl)) dX9_along_4 ⟨(Nat.le_of_ble_eq_true rfl), (Nat.le_of_ble_eq_true rfl)⟩) hS (fun q hq h => absurd hq (Nat.not_lt.mpr h)) (fun q h => Nat.le_trans hS.1 h) (fun r_4 u_ t_ H3 locs ht hvm hw hB hz1 hk1 hS => ?_)
  subst hw
  have hP := wk hP hk1
  obtain ⟨f5, f6, f7⟩ := hB
  refine lv_if_eq (tgt := 20) hx hb dX9_along_7 (by decide) (fun c_8 => ?_) (fun c_8 => ?_)
  · skip
    have f9 : r_4.toInt = 0 := qi_eq c_8 rfl zc_0
    refine lv_iconst (v := (-1)) hx hb dX9_along_20 (by decide) ?_
    rw [hQ]
    exact W.iret (v := (-1)) hx hb hr (fun t ht hW => ⟨⟨(-1), (-1), rfl, rfl, trivial⟩, hS.F ht⟩) hS.2.2 dX9_along_21
  · skip
    have f10 : r_4.toInt ≠ 0 := qi_ne c_8 rfl zc_0
    have f11 : (0 : Int) ≤ p0.toInt := (ob_1154 f5 f10 zc_99 zc_0)
    have f12 : p0.toInt ≤ (99 : Int) := (ob_1155 f5 f10 zc_99 zc_0)
    have f13 : r_4.toInt = (1 : Int) := (ob_1156 f5 f10 zc_99 zc_0)
    have f14 : (1 : Int) ≤ r_4.toInt := (ob_162 f6 f7 f13)
    refine lv_iload_n hx hb dX9_along_10 rfl (lv_at hl 2 rfl) ?_
    refine lv_iconst (v := 0) hx hb dX9_along_11 (by decide) ?_
    refine lv_bipush (v := 99) hx hb dX9_along_12 (by decide) ?_
    refine va_calli (va_runS (As := [.int p1, .int 0, .int 99]) (rest := []) ⟨hx, hb, hml, hown, hG⟩ (kX9_isIn l dC dI p1 0 99 H3.size) (va_cwS 3 hG (goodS gw1516 gw1517 gw138 gw1518) rfl rfl rfl hd_X9_isIn ⟨(Nat.le_of_ble_eq_true rfl), (Nat.le_of_ble_eq_true rfl)⟩) ⟨fbR, pR_in emptyP (emptyK hK)⟩ rfl rfl hl.1 rfl (lv_room (Nat.le_of_ble_eq_true rfl)) dX9_along_14 ⟨(Nat.le_of_ble_eq_true rfl), (Nat.le_of_ble_eq_true rfl)⟩) hS (fun q hq h => absurd hq (Nat.not_lt.mpr h)) (fun q h => Nat.le_trans hS.1 h) (fun r_16 u_ t_ H15 locs ht hvm hw hB hz1 hk1 hS => ?_)
    subst hw
    have hP := wk hP hk1
    obtain ⟨f17, f18, f19⟩ := hB
    refine lv_if_ne (tgt := 22) hx hb dX9_along_17 (by decide) (fun c_20 => ?_) (fun c_20 => ?_)
    · skip
      have f21 : r_16.toInt ≠ 0 := qi_ne c_20 rfl zc_0
      have f22 : (0 : Int) ≤ p1.toInt := (ob_1154 f17 f21 zc_99 zc_0)
      have f23 : p1.toInt ≤ (99 : Int) := (ob_1155 f17 f21 zc_99 zc_0)
      have f24 : r_16.toInt = (1 : Int) := (ob_1156 f17 f21 zc_99 zc_0)
      have f25 : (1 : Int) ≤ r_16.toInt := (ob_162 f18 f19 f24)
      refine lv_iconst (v := 0) hx hb dX9_along_22 (by decide) ?_
      refine lv_istore_n (lv' := [(3, .int 0), (0, .ref (r 0)), (1, .int p0), (2, .int p1)]) hx hb dX9_along_23 rfl hl (by decide) rfl (fun ls hl => ?_)
      refine lv_iconst (v := 0) hx hb dX9_along_24 (by decide) ?_
      refine lv_istore (lv' := [(4, .int 0), (3, .int 0), (0, .ref (r 0)), (1, .int p0), (2, .int p1)]) hx hb dX9_along_25 hl (by decide) rfl (fun ls hl => ?_)
      have L27 : ∀ (N27 : Nat) (y27_3 y27_4 : Int32) (H27 : Heap) (locs : List Loc) (ls : Array Slot) (g27_0 : (0 : Int) ≤ y27_4.toInt) (g27_1 : y27_4.toInt ≤ (4 : Int)) (hP : va_P (dC, dI) vwCl (WM r ct i_taped i_size i_faultKind i_at i_end i_token i_number i_bank i_rb i_codes i_within i_piled i_unitsInRule i_askHouse i_askTune i_acts i_undone i_laid i_knowns i_time f_text f_tunes f_houses f_hums f_told f_many f_ruleFrom f_ruleTo f_code f_eWhat f_eSign f_all f_kept f_was f_sTune f_boxAll J L) H27) (hS : va_S (fun q => s.heap.size ≤ q) s.heap H27 locs) (hl : lv_has ls 5 [(0, .ref (r 0)), (1, .int p0), (2, .int p1), (3, .int y27_3), (4, .int y27_4)]) (hM : -1 * y27_4.toInt + 4 < (N27 : Int)), W p l e { frames := 4, cells := 0, slots := 0, locals := 162 } s m ([.ref (r 0), .int p0, .int p1] : List Value).toArray below meth c0 H27 locs 0 0 Q (F0 m 27 ls []) := by
        intro N27
        induction N27 with
        | zero =>
          intro y27_3 y27_4 H27 locs ls g27_0 g27_1 hP hS hl hM
          exact ((ob_778 hM g27_0 g27_1)).elim
        | succ N27 ih27 =>
          intro y27_3 y27_4 H27 locs ls g27_0 g27_1 hP hS hl hM
          have hM27 := msucc hM
          refine lv_iload hx hb dX9_along_27 (lv_at hl 4 rfl) ?_
          refine lv_aload_n hx hb dX9_along_29 rfl (lv_at hl 0 rfl) ?_
          refine va_calli (va_runV (As := []) (rest := [.int y27_4]) ⟨hx, hb, hml, hown, hG⟩ (kX9_homes l dC dI r ct i_taped i_size i_faultKind i_at i_end i_token i_number i_bank i_rb i_codes i_within i_piled i_unitsInRule i_askHouse i_askTune i_acts i_undone i_laid i_knowns i_time f_text f_tunes f_houses f_hums f_told f_many f_ruleFrom f_ruleTo f_code f_eWhat f_eSign f_all f_kept f_was f_sTune f_boxAll J L H27.size hI) (cwV 0 hG (goodV gw1167 gw1169 gw58 gw138 gw1170) rfl rfl rfl hd_X9_homes ⟨(Nat.le_of_ble_eq_true rfl), (Nat.le_of_ble_eq_true rfl)⟩) ⟨fbR, va_recv hK hP (ci := 8) (q0 := 0) rfl rfl, pR_in hP hK⟩ rfl rfl hl.1 rfl (lv_room (Nat.le_of_ble_eq_true rfl)) dX9_along_30 ⟨(Nat.le_of_ble_eq_true rfl), (Nat.le_of_ble_eq_true rfl)⟩) hS (fun q hq h => absurd hq (Nat.not_lt.mpr h)) (fun q h => Nat.le_trans hS.1 h) (fun r_27 u_ t_ H26 locs ht hvm hw hB hz1 hk1 hS => ?_)
          subst hw
          have hP := wk hP hk1
          have f28 := hB
          have f29 : r_27.toInt = (f_houses (i_bank.toInt).toNat).toInt := (ob_6 f28)
          refine lv_icmp_ge (tgt := 77) hx hb dX9_along_33 (by decide) (fun c_30 => ?_) (fun c_30 => ?_)
          · skip
            have f31 : r_27.toInt ≤ y27_4.toInt := qi_le c_30 rfl rfl
            refine lv_iload_n hx hb dX9_along_77 rfl (lv_at hl 3 rfl) ?_
            rw [hQ]
            exact W.iret (v := y27_3) hx hb hr (fun t ht hW => ⟨⟨y27_3, y27_3, rfl, rfl, trivial⟩, hS.F ht⟩) hS.2.2 dX9_along_78
          · skip
            have f32 : y27_4.toInt < r_27.toInt := qi_nle c_30 rfl rfl
            refine lv_aload_n hx hb dX9_along_36 rfl (lv_at hl 0 rfl) ?_
            refine lv_iload hx hb dX9_along_37 (lv_at hl 4 rfl) ?_
            refine va_calli (va_runV (As := [.int y27_4]) (rest := []) ⟨hx, hb, hml, hown, hG⟩ (kX9_placeOf l dC dI r ct i_taped i_size i_faultKind i_at i_end i_token i_number i_bank i_rb i_codes i_within i_piled i_unitsInRule i_askHouse i_askTune i_acts i_undone i_laid i_knowns i_time f_text f_tunes f_houses f_hums f_told f_many f_ruleFrom f_ruleTo f_code f_eWhat f_eSign f_all f_kept f_was f_sTune f_boxAll J L y27_4 H26.size hI (ob_139 g27_0) (ob_1054 f32 f29)) (cwV 1 hG (goodV gw1546 gw1548 gw91 gw138 gw1549) rfl rfl rfl hd_X9_placeOf ⟨(Nat.le_of_ble_eq_true rfl), (Nat.le_of_ble_eq_true rfl)⟩) ⟨fbR, va_recv hK hP (ci := 8) (q0 := 0) rfl rfl, pR_in hP hK⟩ rfl rfl hl.1 rfl (lv_room (Nat.le_of_ble_eq_true rfl)) dX9_along_39 ⟨(Nat.le_of_ble_eq_true rfl), (Nat.le_of_ble_eq_true rfl)⟩) hS (fun q hq h => absurd hq (Nat.not_lt.mpr h)) (fun q h => Nat.le_trans hS.1 h) (fun r_34 u_ t_ H33 locs ht hvm hw hB hz1 hk1 hS => ?_)
            subst hw
            have hP := wk hP hk1
            refine lv_iload_n hx hb dX9_along_42 rfl (lv_at hl 1 rfl) ?_
            refine lv_iload_n hx hb dX9_along_43 rfl (lv_at hl 2 rfl) ?_
            refine va_calli (va_runS (As := [.int r_34, .int p0, .int p1]) (rest := []) ⟨hx, hb, hml, hown, hG⟩ (kX9_isIn l dC dI r_34 p0 p1 H33.size) (va_cwS 3 hG (goodS gw1516 gw1517 gw138 gw1518) rfl rfl rfl hd_X9_isIn ⟨(Nat.le_of_ble_eq_true rfl), (Nat.le_of_ble_eq_true rfl)⟩) ⟨fbR, pR_in emptyP (emptyK hK)⟩ rfl rfl hl.1 rfl (lv_room (Nat.le_of_ble_eq_true rfl)) dX9_along_44 ⟨(Nat.le_of_ble_eq_true rfl), (Nat.le_of_ble_eq_true rfl)⟩) hS (fun q hq h => absurd hq (Nat.not_lt.mpr h)) (fun q h => Nat.le_trans hS.1 h) (fun r_36 u_ t_ H35 locs ht hvm hw hB hz1 hk1 hS => ?_)
            subst hw
            have hP := wk hP hk1
            obtain ⟨f37, f38, f39⟩ := hB
            refine lv_if_ne (tgt := 64) hx hb dX9_along_47 (by decide) (fun c_40 => ?_) (fun c_40 => ?_)
            · skip
              have f41 : r_36.toInt ≠ 0 := qi_ne c_40 rfl zc_0
              have f42 : p0.toInt ≤ r_34.toInt := (ob_1157 f37 f41)
              have f43 : r_34.toInt ≤ p1.toInt := (ob_1158 f37 f41)
              have f44 : r_36.toInt = (1 : Int) := (ob_1159 f37 f41)
              have f45 : (1 : Int) ≤ r_36.toInt := (ob_162 f38 f39 f44)
              refine lv_iload_n hx hb dX9_along_64 rfl (lv_at hl 3 rfl) ?_
              refine lv_iconst (v := 1) hx hb dX9_along_65 (by decide) ?_
              refine lv_iload hx hb dX9_along_66 (lv_at hl 4 rfl) ?_
              refine lv_ishl hx hb dX9_along_68 ?_
              refine lv_topi (fun x46 ex46 => ?_)
              refine lv_ior hx hb dX9_along_69 ?_
              refine lv_topi (fun x47 ex47 => ?_)
              refine lv_istore_n (lv' := [(3, .int x47), (0, .ref (r 0)), (1, .int p0), (2, .int p1), (4, .int y27_4)]) hx hb dX9_along_70 rfl hl (by decide) rfl (fun ls hl => ?_)
              obtain ⟨x48, ex48⟩ : ∃ y : Int32, y = y27_4 + Int32.ofInt 1 := ⟨_, rfl⟩
              have f49 : x48.toInt = y27_4.toInt + 1 := (ob_142 (qi_add ex48 rfl (by decide) (ob_140 g27_0) (ob_794 g27_1)))
              refine lv_iinc (v := x48) (lv' := [(4, .int x48), (3, .int x47), (0, .ref (r 0)), (1, .int p0), (2, .int p1)]) hx hb dX9_along_71 hl (k := 4) rfl ex48.symm (by decide) rfl (fun ls hl => ?_)
              refine lv_goto (tgt := 27) hx hb dX9_along_74 (by decide) ?_
              exact ih27 x47 x48 H35 _ _ (ob_149 g27_0 f49) (ob_795 f2 f32 f29 f49) hP hS (lv_sub hl [2, 3, 4, 1, 0] rfl) (ob_796 hM27 f49)
            · skip
              have f50 : r_36.toInt = 0 := qi_eq c_40 rfl zc_0
              refine lv_aload_n hx hb dX9_along_50 rfl (lv_at hl 0 rfl) ?_
              refine lv_iload hx hb dX9_along_51 (lv_at hl 4 rfl) ?_
              refine va_calli (va_runV (As := [.int y27_4]) (rest := []) ⟨hx, hb, hml, hown, hG⟩ (kX9_placeOf l dC dI r ct i_taped i_size i_faultKind i_at i_end i_token i_number i_bank i_rb i_codes i_within i_piled i_unitsInRule i_askHouse i_askTune i_acts i_undone i_laid i_knowns i_time f_text f_tunes f_houses f_hums f_told f_many f_ruleFrom f_ruleTo f_code f_eWhat f_eSign f_all f_kept f_was f_sTune f_boxAll J L y27_4 H35.size hI (ob_139 g27_0) (ob_1054 f32 f29)) (cwV 1 hG (goodV gw1546 gw1548 gw91 gw138 gw1549) rfl rfl rfl hd_X9_placeOf ⟨(Nat.le_of_ble_eq_true rfl), (Nat.le_of_ble_eq_true rfl)⟩) ⟨fbR, va_recv hK hP (ci := 8) (q0 := 0) rfl rfl, pR_in hP hK⟩ rfl rfl hl.1 rfl (lv_room (Nat.le_of_ble_eq_true rfl)) dX9_along_53 ⟨(Nat.le_of_ble_eq_true rfl), (Nat.le_of_ble_eq_true rfl)⟩) hS (fun q hq h => absurd hq (Nat.not_lt.mpr h)) (fun q h => Nat.le_trans hS.1 h) (fun r_52 u_ t_ H51 locs ht hvm hw hB hz1 hk1 hS => ?_)
              subst hw
              have hP := wk hP hk1
              refine lv_iload_n hx hb dX9_along_56 rfl (lv_at hl 2 rfl) ?_
              refine lv_iload_n hx hb dX9_along_57 rfl (lv_at hl 1 rfl) ?_
              refine va_calli (va_runS (As := [.int r_52, .int p1, .int p0]) (rest := []) ⟨hx, hb, hml, hown, hG⟩ (kX9_isIn l dC dI r_52 p1 p0 H51.size) (va_cwS 3 hG (goodS gw1516 gw1517 gw138 gw1518) rfl rfl rfl hd_X9_isIn ⟨(Nat.le_of_ble_eq_true rfl), (Nat.le_of_ble_eq_true rfl)⟩) ⟨fbR, pR_in emptyP (emptyK hK)⟩ rfl rfl hl.1 rfl (lv_room (Nat.le_of_ble_eq_true rfl)) dX9_along_58 ⟨(Nat.le_of_ble_eq_true rfl), (Nat.le_of_ble_eq_true rfl)⟩) hS (fun q hq h => absurd hq (Nat.not_lt.mpr h)) (fun q h => Nat.le_trans hS.1 h) (fun r_54 u_ t_ H53 locs ht hvm hw hB hz1 hk1 hS => ?_)
              subst hw
              have hP := wk hP hk1
              obtain ⟨f55, f56, f57⟩ := hB
              refine lv_if_eq (tgt := 71) hx hb dX9_along_61 (by decide) (fun c_58 => ?_) (fun c_58 => ?_)
              · skip
                have f59 : r_54.toInt = 0 := qi_eq c_58 rfl zc_0
                obtain ⟨x60, ex60⟩ : ∃ y : Int32, y = y27_4 + Int32.ofInt 1 := ⟨_, rfl⟩
                have f61 : x60.toInt = y27_4.toInt + 1 := (ob_142 (qi_add ex60 rfl (by decide) (ob_140 g27_0) (ob_794 g27_1)))
                refine lv_iinc (v := x60) (lv' := [(4, .int x60), (0, .ref (r 0)), (1, .int p0), (2, .int p1), (3, .int y27_3)]) hx hb dX9_along_71 hl (k := 4) rfl ex60.symm (by decide) rfl (fun ls hl => ?_)
                refine lv_goto (tgt := 27) hx hb dX9_along_74 (by decide) ?_
                exact ih27 y27_3 x60 H53 _ _ (ob_149 g27_0 f61) (ob_795 f2 f32 f29 f61) hP hS (lv_sub hl [1, 2, 3, 4, 0] rfl) (ob_796 hM27 f61)
              · skip
                have f62 : r_54.toInt ≠ 0 := qi_ne c_58 rfl zc_0
                have f63 : p1.toInt ≤ r_52.toInt := (ob_1157 f55 f62)
                have f64 : r_52.toInt ≤ p0.toInt := (ob_1158 f55 f62)
                have f65 : r_54.toInt = (1 : Int) := (ob_1159 f55 f62)
                have f66 : (1 : Int) ≤ r_54.toInt := (ob_162 f56 f57 f65)
                refine lv_iload_n hx hb dX9_along_64 rfl (lv_at hl 3 rfl) ?_
                refine lv_iconst (v := 1) hx hb dX9_along_65 (by decide) ?_
                refine lv_iload hx hb dX9_along_66 (lv_at hl 4 rfl) ?_
                refine lv_ishl hx hb dX9_along_68 ?_
                refine lv_topi (fun x67 ex67 => ?_)
                refine lv_ior hx hb dX9_along_69 ?_
                refine lv_topi (fun x68 ex68 => ?_)
                refine lv_istore_n (lv' := [(3, .int x68), (0, .ref (r 0)), (1, .int p0), (2, .int p1), (4, .int y27_4)]) hx hb dX9_along_70 rfl hl (by decide) rfl (fun ls hl => ?_)
                obtain ⟨x69, ex69⟩ : ∃ y : Int32, y = y27_4 + Int32.ofInt 1 := ⟨_, rfl⟩
                have f70 : x69.toInt = y27_4.toInt + 1 := (ob_142 (qi_add ex69 rfl (by decide) (ob_140 g27_0) (ob_794 g27_1)))
                refine lv_iinc (v := x69) (lv' := [(4, .int x69), (3, .int x68), (0, .ref (r 0)), (1, .int p0), (2, .int p1)]) hx hb dX9_along_71 hl (k := 4) rfl ex69.symm (by decide) rfl (fun ls hl => ?_)
                refine lv_goto (tgt := 27) hx hb dX9_along_74 (by decide) ?_
                exact ih27 x68 x69 H53 _ _ (ob_149 g27_0 f70) (ob_795 f2 f32 f29 f70) hP hS (lv_sub hl [2, 3, 4, 1, 0] rfl) (ob_796 hM27 f70)
      exact L27 (-1 * (0 : Int32).toInt + 4 + 1).toNat 0 0 H15 _ _ (ob_1 zc_0) (ob_797 zc_0) hP hS (lv_sub hl [2, 3, 4, 1, 0] rfl) (mlt (ob_798 zc_0))
    · skip
      have f71 : r_16.toInt = 0 := qi_eq c_20 rfl zc_0
      refine lv_iconst (v := (-1)) hx hb dX9_along_20 (by decide) ?_
      rw [hQ]
      exact W.iret (v := (-1)) hx hb hr (fun t ht hW => ⟨⟨(-1), (-1), rfl, rfl, trivial⟩, hS.F ht⟩) hS.2.2 dX9_along_21
set_option maxHeartbeats 4000000 in
set_option maxRecDepth 100000 in
theorem kX9_earned (l : Launch) (dC : Nat → ClassId) (dI : Nat → Nat → Nat) (r : Nat → Nat) (ct : Nat → ClassId) (i_taped i_size i_faultKind i_at i_end i_token i_number i_bank i_rb i_codes i_within i_piled i_unitsInRule i_askHouse i_askTune i_acts i_undone i_laid i_knowns i_time : Int32) (f_text f_tunes f_houses f_hums f_told f_many f_ruleFrom f_ruleTo f_code f_eWhat f_eSign f_all f_kept f_was f_sTune f_boxAll : Nat → Int32) (J : Nat → Nat → Int32) (L : Nat → Nat → Int64) (sz : Nat) (hI : (IM i_taped i_size i_faultKind i_at i_end i_bank i_rb i_acts i_undone i_laid i_knowns i_time f_tunes f_houses f_hums f_told f_many f_ruleFrom f_ruleTo f_code f_all f_kept f_was f_sTune f_boxAll)) : Met l yX9_earned (.code yX9_earned cX9_earned 3 (some .int) :: GW) { frames := 4, cells := 0, slots := 0, locals := 161 } (va_Pc [.ref (r 0)] (pR (dC, dI) (WM r ct i_taped i_size i_faultKind i_at i_end i_token i_number i_bank i_rb i_codes i_within i_piled i_unitsInRule i_askHouse i_askTune i_acts i_undone i_laid i_knowns i_time f_text f_tunes f_houses f_hums f_told f_many f_ruleFrom f_ruleTo f_code f_eWhat f_eSign f_all f_kept f_was f_sTune f_boxAll J L) (TM ct) sz)) (va_Qi (fun (r0 : Int32) (u : Int32) => r0 = u) (fun (u : Int32) (t : State) => True) (fun q => sz ≤ q)) 0 0 (fun q => sz ≤ q) := by
  refine Met.ofW (cc := cX9_earned) (maxL := 3) (ret := (some .int)) (by decide) rfl ?_
  intro p e s m args below meth c0 s₁ B hml hv
  obtain ⟨rfl, hsz, hP, hK⟩ := hv
  have hx := B.exec
  have hb := B.bytes
  have hr := B.returns
  have hts := atoms_spec (ws := .code yX9_earned cX9_earned 3 (some .int) :: GW) B.pre
  have hG : ∀ w ∈ GW, w.before _ s = true := fun w h => hts w (List.mem_cons_of_mem _ h)
  have hown : s.vm.findClass RX9 = some m.cls := findClass_of_methodNamed B.named
  subst hsz
  have hS : va_S (fun q => s.heap.size ≤ q) s.heap s.heap [] := va_S.rf
  have hP : va_P (dC, dI) vwCl (WM r ct i_taped i_size i_faultKind i_at i_end i_token i_number i_bank i_rb i_codes i_within i_piled i_unitsInRule i_askHouse i_askTune i_acts i_undone i_laid i_knowns i_time f_text f_tunes f_houses f_hums f_told f_many f_ruleFrom f_ruleTo f_code f_eWhat f_eSign f_all f_kept f_was f_sTune f_boxAll J L) s.heap := hP
  have hl := lv_entry ([.ref (r 0)]) (n := 3) (Nat.le_of_ble_eq_true rfl)
  rw [lg_entry_eq]
  generalize (lg_sl ([.ref (r 0)]) ++ List.replicate (3 - (lg_sl ([.ref (r 0)])).length) Slot.unset).toArray = ls at hl ⊢
  have hl : lv_has ls 3 [(0, .ref (r 0))] := hl
  refine nameQ (fun Q hQ => ?_)
  obtain ⟨ie0, ie1, ie2, ie3, ie4, ie5, ie6, ie7, ie8, ie9, ie10, ie11, ie12, ie13, ie14, ie15, ie16, ie17, ie18, ie19, ie20, ie21, ie22, ie23, ie24, ie25, ie26, ie27, ie28, ie29, ie30, ie31, ie32⟩ := id hI
  have f1 : 0 ≤ (f_tunes (i_bank.toInt).toNat).toInt ∧ (f_tunes (i_bank.toInt).toNat).toInt ≤ 5 := ie21 (i_bank.toInt)
  have f2 : 0 ≤ (f_houses (i_bank.toInt).toNat).toInt ∧ (f_houses (i_bank.toInt).toNat).toInt ≤ 4 := ie22 (i_bank.toInt)
  refine lv_iconst (v := 0) hx hb dX9_earned_0 (by decide) ?_
  refine lv_istore_n (lv' := [(1, .int 0), (0, .ref (r 0))]) hx hb dX9_earned_1 rfl hl (by decide) rfl (fun ls hl => ?_)
  refine lv_iconst (v := 0) hx hb dX9_earned_2 (by decide) ?_
  refine lv_istore_n (lv' := [(2, .int 0), (1, .int 0), (0, .ref (r 0))]) hx hb dX9_earned_3 rfl hl (by decide) rfl (fun ls hl => ?_)
  have L4 : ∀ (N4 : Nat) (y4_1 y4_2 : Int32) (H4 : Heap) (locs : List Loc) (ls : Array Slot) (g4_0 : (0 : Int) ≤ y4_2.toInt) (g4_1 : y4_2.toInt ≤ (5 : Int)) (hP : va_P (dC, dI) vwCl (WM r ct i_taped i_size i_faultKind i_at i_end i_token i_number i_bank i_rb i_codes i_within i_piled i_unitsInRule i_askHouse i_askTune i_acts i_undone i_laid i_knowns i_time f_text f_tunes f_houses f_hums f_told f_many f_ruleFrom f_ruleTo f_code f_eWhat f_eSign f_all f_kept f_was f_sTune f_boxAll J L) H4) (hS : va_S (fun q => s.heap.size ≤ q) s.heap H4 locs) (hl : lv_has ls 3 [(0, .ref (r 0)), (1, .int y4_1), (2, .int y4_2)]) (hM : -1 * y4_2.toInt + 5 < (N4 : Int)), W p l e { frames := 4, cells := 0, slots := 0, locals := 161 } s m ([.ref (r 0)] : List Value).toArray below meth c0 H4 locs 0 0 Q (F0 m 4 ls []) := by
    intro N4
    induction N4 with
    | zero =>
      intro y4_1 y4_2 H4 locs ls g4_0 g4_1 hP hS hl hM
      exact ((ob_777 hM g4_0 g4_1)).elim
    | succ N4 ih4 =>
      intro y4_1 y4_2 H4 locs ls g4_0 g4_1 hP hS hl hM
      have hM4 := msucc hM
      refine lv_iload_n hx hb dX9_earned_4 rfl (lv_at hl 2 rfl) ?_
      refine lv_aload_n hx hb dX9_earned_5 rfl (lv_at hl 0 rfl) ?_
      refine va_calli (va_runV (As := []) (rest := [.int y4_2]) ⟨hx, hb, hml, hown, hG⟩ (kX9_songs l dC dI r ct i_taped i_size i_faultKind i_at i_end i_token i_number i_bank i_rb i_codes i_within i_piled i_unitsInRule i_askHouse i_askTune i_acts i_undone i_laid i_knowns i_time f_text f_tunes f_houses f_hums f_told f_many f_ruleFrom f_ruleTo f_code f_eWhat f_eSign f_all f_kept f_was f_sTune f_boxAll J L H4.size hI) (cwV 0 hG (goodV gw1512 gw1514 gw86 gw138 gw1515) rfl rfl rfl hd_X9_songs ⟨(Nat.le_of_ble_eq_true rfl), (Nat.le_of_ble_eq_true rfl)⟩) ⟨fbR, va_recv hK hP (ci := 8) (q0 := 0) rfl rfl, pR_in hP hK⟩ rfl rfl hl.1 rfl (lv_room (Nat.le_of_ble_eq_true rfl)) dX9_earned_6 ⟨(Nat.le_of_ble_eq_true rfl), (Nat.le_of_ble_eq_true rfl)⟩) hS (fun q hq h => absurd hq (Nat.not_lt.mpr h)) (fun q h => Nat.le_trans hS.1 h) (fun r_4 u_ t_ H3 locs ht hvm hw hB hz1 hk1 hS => ?_)
      subst hw
      have hP := wk hP hk1
      have f5 := hB
      have f6 : r_4.toInt = (f_tunes (i_bank.toInt).toNat).toInt := (ob_6 f5)
      refine lv_icmp_ge (tgt := 35) hx hb dX9_earned_9 (by decide) (fun c_7 => ?_) (fun c_7 => ?_)
      · skip
        have f8 : r_4.toInt ≤ y4_2.toInt := qi_le c_7 rfl rfl
        refine lv_iload_n hx hb dX9_earned_35 rfl (lv_at hl 1 rfl) ?_
        rw [hQ]
        exact W.iret (v := y4_1) hx hb hr (fun t ht hW => ⟨⟨y4_1, y4_1, rfl, rfl, trivial⟩, hS.F ht⟩) hS.2.2 dX9_earned_36
      · skip
        have f9 : y4_2.toInt < r_4.toInt := qi_nle c_7 rfl rfl
        refine lv_iload_n hx hb dX9_earned_12 rfl (lv_at hl 1 rfl) ?_
        refine lv_aload_n hx hb dX9_earned_13 rfl (lv_at hl 0 rfl) ?_
        refine gM_X9_88_0 hx hb hG hown hK hP dX9_earned_14 ?_
        refine lv_iconst (v := 5) hx hb dX9_earned_17 (by decide) ?_
        refine lv_iload_n hx hb dX9_earned_18 rfl (lv_at hl 2 rfl) ?_
        refine lv_iadd hx hb dX9_earned_19 ?_
        refine lv_topi (fun x10 ex10 => ?_)
        have f11 : x10.toInt = y4_2.toInt + 5 := (ob_1036 (qi_add ex10 zc_5 rfl (ob_1049 g4_0) (ob_1050 g4_1)))
        refine ldM_25 (mm := y4_2.toInt + 5) hx hb hK hP f11 (ob_1051 g4_0) (ob_1052 g4_1) dX9_earned_20 ?_
        refine lv_aload_n hx hb dX9_earned_21 rfl (lv_at hl 0 rfl) ?_
        refine lv_iload_n hx hb dX9_earned_22 rfl (lv_at hl 2 rfl) ?_
        refine va_calli (va_runV (As := [.int y4_2]) (rest := [.int (f_all (y4_2.toInt + 5).toNat), .int y4_1]) ⟨hx, hb, hml, hown, hG⟩ (kX9_priceOf l dC dI r ct i_taped i_size i_faultKind i_at i_end i_token i_number i_bank i_rb i_codes i_within i_piled i_unitsInRule i_askHouse i_askTune i_acts i_undone i_laid i_knowns i_time f_text f_tunes f_houses f_hums f_told f_many f_ruleFrom f_ruleTo f_code f_eWhat f_eSign f_all f_kept f_was f_sTune f_boxAll J L y4_2 H3.size hI (ob_139 g4_0) (ob_1054 f9 f6)) (cwV 1 hG (goodV gw1519 gw1521 gw87 gw138 gw1522) rfl rfl rfl hd_X9_priceOf ⟨(Nat.le_of_ble_eq_true rfl), (Nat.le_of_ble_eq_true rfl)⟩) ⟨fbR, va_recv hK hP (ci := 8) (q0 := 0) rfl rfl, pR_in hP hK⟩ rfl rfl hl.1 rfl (lv_room (Nat.le_of_ble_eq_true rfl)) dX9_earned_23 ⟨(Nat.le_of_ble_eq_true rfl), (Nat.le_of_ble_eq_true rfl)⟩) hS (fun q hq h => absurd hq (Nat.not_lt.mpr h)) (fun q h => Nat.le_trans hS.1 h) (fun r_13 u_ t_ H12 locs ht hvm hw hB hz1 hk1 hS => ?_)
        subst hw
        have hP := wk hP hk1
        refine lv_imul hx hb dX9_earned_26 ?_
        refine lv_topi (fun x14 ex14 => ?_)
        refine lv_iadd hx hb dX9_earned_27 ?_
        refine lv_topi (fun x15 ex15 => ?_)
        refine lv_istore_n (lv' := [(1, .int x15), (0, .ref (r 0)), (2, .int y4_2)]) hx hb dX9_earned_28 rfl hl (by decide) rfl (fun ls hl => ?_)
        obtain ⟨x16, ex16⟩ : ∃ y : Int32, y = y4_2 + Int32.ofInt 1 := ⟨_, rfl⟩
        have f17 : x16.toInt = y4_2.toInt + 1 := (ob_142 (qi_add ex16 rfl (by decide) (ob_140 g4_0) (ob_804 g4_1)))
        refine lv_iinc (v := x16) (lv' := [(2, .int x16), (1, .int x15), (0, .ref (r 0))]) hx hb dX9_earned_29 hl (k := 2) rfl ex16.symm (by decide) rfl (fun ls hl => ?_)
        refine lv_goto (tgt := 4) hx hb dX9_earned_32 (by decide) ?_
        exact ih4 x15 x16 H12 _ _ (ob_149 g4_0 f17) (ob_1047 f1 f9 f6 f17) hP hS (lv_sub hl [2, 1, 0] rfl) (ob_806 hM4 f17)
  exact L4 (-1 * (0 : Int32).toInt + 5 + 1).toNat 0 0 s.heap _ _ (ob_1 zc_0) (ob_807 zc_0) hP hS (lv_sub hl [2, 1, 0] rfl) (mlt (ob_808 zc_0))
set_option maxHeartbeats 4000000 in
set_option maxRecDepth 100000 in
theorem kX9_keepAct (l : Launch) (dC : Nat → ClassId) (dI : Nat → Nat → Nat) (r : Nat → Nat) (ct : Nat → ClassId) (i_taped i_size i_faultKind i_at i_end i_token i_number i_bank i_rb i_codes i_within i_piled i_unitsInRule i_askHouse i_askTune i_acts i_undone i_laid i_knowns i_time : Int32) (f_text f_tunes f_houses f_hums f_told f_many f_ruleFrom f_ruleTo f_code f_eWhat f_eSign f_all f_kept f_was f_sTune f_boxAll : Nat → Int32) (J : Nat → Nat → Int32) (L : Nat → Nat → Int64) (sz : Nat) (hI : (IM i_taped i_size i_faultKind i_at i_end i_bank i_rb i_acts i_undone i_laid i_knowns i_time f_tunes f_houses f_hums f_told f_many f_ruleFrom f_ruleTo f_code f_all f_kept f_was f_sTune f_boxAll)) : Met l yX9_keepAct (.code yX9_keepAct cX9_keepAct 2 none :: GW) { frames := 2, cells := 0, slots := 0, locals := 100 } (va_Pc [.ref (r 0)] (pW (dC, dI) (WM r ct i_taped i_size i_faultKind i_at i_end i_token i_number i_bank i_rb i_codes i_within i_piled i_unitsInRule i_askHouse i_askTune i_acts i_undone i_laid i_knowns i_time f_text f_tunes f_houses f_hums f_told f_many f_ruleFrom f_ruleTo f_code f_eWhat f_eSign f_all f_kept f_was f_sTune f_boxAll J L) (TM ct) sz)) (va_Qv (fun _ : Unit => True) (fun (_ : Unit) (t : State) => ∃ (n_i_acts n_i_undone : Int32) (n_f_was : Nat → Int32), va_P (dC, dI) vwCl (WM r ct i_taped i_size i_faultKind i_at i_end i_token i_number i_bank i_rb i_codes i_within i_piled i_unitsInRule i_askHouse i_askTune n_i_acts n_i_undone i_laid i_knowns i_time f_text f_tunes f_houses f_hums f_told f_many f_ruleFrom f_ruleTo f_code f_eWhat f_eSign f_all f_kept n_f_was f_sTune f_boxAll J L) t.heap ∧ va_D (va_A (WM r ct i_taped i_size i_faultKind i_at i_end i_token i_number i_bank i_rb i_codes i_within i_piled i_unitsInRule i_askHouse i_askTune i_acts i_undone i_laid i_knowns i_time f_text f_tunes f_houses f_hums f_told f_many f_ruleFrom f_ruleTo f_code f_eWhat f_eSign f_all f_kept f_was f_sTune f_boxAll J L) sz) (WM r ct i_taped i_size i_faultKind i_at i_end i_token i_number i_bank i_rb i_codes i_within i_piled i_unitsInRule i_askHouse i_askTune n_i_acts n_i_undone i_laid i_knowns i_time f_text f_tunes f_houses f_hums f_told f_many f_ruleFrom f_ruleTo f_code f_eWhat f_eSign f_all f_kept n_f_was f_sTune f_boxAll J L) ∧ (IM i_taped i_size i_faultKind i_at i_end i_bank i_rb n_i_acts n_i_undone i_laid i_knowns i_time f_tunes f_houses f_hums f_told f_many f_ruleFrom f_ruleTo f_code f_all f_kept n_f_was f_sTune f_boxAll)) (va_A (WM r ct i_taped i_size i_faultKind i_at i_end i_token i_number i_bank i_rb i_codes i_within i_piled i_unitsInRule i_askHouse i_askTune i_acts i_undone i_laid i_knowns i_time f_text f_tunes f_houses f_hums f_told f_many f_ruleFrom f_ruleTo f_code f_eWhat f_eSign f_all f_kept f_was f_sTune f_boxAll J L) sz)) 0 0 (va_A (WM r ct i_taped i_size i_faultKind i_at i_end i_token i_number i_bank i_rb i_codes i_within i_piled i_unitsInRule i_askHouse i_askTune i_acts i_undone i_laid i_knowns i_time f_text f_tunes f_houses f_hums f_told f_many f_ruleFrom f_ruleTo f_code f_eWhat f_eSign f_all f_kept f_was f_sTune f_boxAll J L) sz) := by
  refine Met.ofW (cc := cX9_keepAct) (maxL := 2) (ret := none) (by decide) rfl ?_
  intro p e s m args below meth c0 s₁ B hml hv
  obtain ⟨rfl, hsz, hP, hK, hD0⟩ := hv
  have hx := B.exec
  have hb := B.bytes
  have hr := B.returns
  have hts := atoms_spec (ws := .code yX9_keepAct cX9_keepAct 2 none :: GW) B.pre
  have hG : ∀ w ∈ GW, w.before _ s = true := fun w h => hts w (List.mem_cons_of_mem _ h)
  have hown : s.vm.findClass RX9 = some m.cls := findClass_of_methodNamed B.named
  subst hsz
  have hD := hD0.self (sz := s.heap.size)
  generalize hAe : va_A (WM r ct i_taped i_size i_faultKind i_at i_end i_token i_number i_bank i_rb i_codes i_within i_piled i_unitsInRule i_askHouse i_askTune i_acts i_undone i_laid i_knowns i_time f_text f_tunes f_houses f_hums f_told f_many f_ruleFrom f_ruleTo f_code f_eWhat f_eSign f_all f_kept f_was f_sTune f_boxAll J L) s.heap.size = A at hD ⊢
  have hA : ∀ q : Nat, s.heap.size ≤ q → A q := fun q h => by rw [← hAe]; exact Or.inr h
  have hS : va_S A s.heap s.heap [] := va_S.rf
  have hP : va_P (dC, dI) vwCl (WM r ct i_taped i_size i_faultKind i_at i_end i_token i_number i_bank i_rb i_codes i_within i_piled i_unitsInRule i_askHouse i_askTune i_acts i_undone i_laid i_knowns i_time f_text f_tunes f_houses f_hums f_told f_many f_ruleFrom f_ruleTo f_code f_eWhat f_eSign f_all f_kept f_was f_sTune f_boxAll J L) s.heap := hP
  have hl := lv_entry ([.ref (r 0)]) (n := 2) (Nat.le_of_ble_eq_true rfl)
  rw [lg_entry_eq]
  generalize (lg_sl ([.ref (r 0)]) ++ List.replicate (2 - (lg_sl ([.ref (r 0)])).length) Slot.unset).toArray = ls at hl ⊢
  have hl : lv_has ls 2 [(0, .ref (r 0))] := hl
  refine nameQ (fun Q hQ => ?_)
  obtain ⟨ie0, ie1, ie2, ie3, ie4, ie5, ie6, ie7, ie8, ie9, ie10, ie11, ie12, ie13, ie14, ie15, ie16, ie17, ie18, ie19, ie20, ie21, ie22, ie23, ie24, ie25, ie26, ie27, ie28, ie29, ie30, ie31, ie32⟩ := id hI
  have f1 : 0 ≤ (f_tunes (i_bank.toInt).toNat).toInt ∧ (f_tunes (i_bank.toInt).toNat).toInt ≤ 5 := ie21 (i_bank.toInt)
  have f2 : 0 ≤ (f_houses (i_bank.toInt).toNat).toInt ∧ (f_houses (i_bank.toInt).toNat).toInt ≤ 4 := ie22 (i_bank.toInt)
  refine lv_aload_n hx hb dX9_keepAct_0 rfl (lv_at hl 0 rfl) ?_
  refine gM_X9_364_0 hx hb hG hown hK hP dX9_keepAct_1 ?_
  refine lv_bipush (v := 40) hx hb dX9_keepAct_4 (by decide) ?_
  refine lv_icmp_ne (tgt := 49) hx hb dX9_keepAct_6 (by decide) (fun c_3 => ?_) (fun c_3 => ?_)
  · skip
    have f4 : i_acts.toInt ≠ 40 := qi_ne c_3 rfl zc_40
    refine lv_iconst (v := 0) hx hb dX9_keepAct_49 (by decide) ?_
    refine lv_istore_n (lv' := [(1, .int 0), (0, .ref (r 0))]) hx hb dX9_keepAct_50 rfl hl (by decide) rfl (fun ls hl => ?_)
    have L51 : ∀ (N51 : Nat) (y51_1 : Int32) (m51_f_was : Nat → Int32) (H51 : Heap) (locs : List Loc) (ls : Array Slot) (g51_0 : (0 : Int) ≤ y51_1.toInt) (g51_1 : y51_1.toInt ≤ (26 : Int)) (gi51_was_p : EW m51_f_was) (hP : va_P (dC, dI) vwCl (WM r ct i_taped i_size i_faultKind i_at i_end i_token i_number i_bank i_rb i_codes i_within i_piled i_unitsInRule i_askHouse i_askTune i_acts i_undone i_laid i_knowns i_time f_text f_tunes f_houses f_hums f_told f_many f_ruleFrom f_ruleTo f_code f_eWhat f_eSign f_all f_kept m51_f_was f_sTune f_boxAll J L) H51) (hD : va_D A (WM r ct i_taped i_size i_faultKind i_at i_end i_token i_number i_bank i_rb i_codes i_within i_piled i_unitsInRule i_askHouse i_askTune i_acts i_undone i_laid i_knowns i_time f_text f_tunes f_houses f_hums f_told f_many f_ruleFrom f_ruleTo f_code f_eWhat f_eSign f_all f_kept m51_f_was f_sTune f_boxAll J L)) (hS : va_S A s.heap H51 locs) (hl : lv_has ls 2 [(0, .ref (r 0)), (1, .int y51_1)]) (hM : -1 * y51_1.toInt + 26 < (N51 : Int)), W p l e { frames := 2, cells := 0, slots := 0, locals := 100 } s m ([.ref (r 0)] : List Value).toArray below meth c0 H51 locs 0 0 Q (F0 m 51 ls []) := by
      intro N51
      induction N51 with
      | zero =>
        intro y51_1 m51_f_was H51 locs ls g51_0 g51_1 gi51_was_p hP hD hS hl hM
        exact ((ob_776 hM g51_0 g51_1)).elim
      | succ N51 ih51 =>
        intro y51_1 m51_f_was H51 locs ls g51_0 g51_1 gi51_was_p hP hD hS hl hM
        have hM51 := msucc hM
        refine lv_iload_n hx hb dX9_keepAct_51 rfl (lv_at hl 1 rfl) ?_
        refine lv_bipush (v := 26) hx hb dX9_keepAct_52 (by decide) ?_
        refine lv_icmp_ge (tgt := 83) hx hb dX9_keepAct_54 (by decide) (fun c_5 => ?_) (fun c_5 => ?_)
        · skip
          have f6 : 26 ≤ y51_1.toInt := qi_le c_5 zc_26 rfl
          refine lv_aload_n hx hb dX9_keepAct_83 rfl (lv_at hl 0 rfl) ?_
          refine lv_dup hx hb dX9_keepAct_84 rfl ?_
          refine gM_X9_364_0 hx hb hG hown hK hP dX9_keepAct_85 ?_
          refine lv_iconst (v := 1) hx hb dX9_keepAct_88 (by decide) ?_
          refine lv_iadd hx hb dX9_keepAct_89 ?_
          refine lv_topi (fun x7 ex7 => ?_)
          have f8 : x7.toInt = i_acts.toInt + 1 := (ob_142 (qi_add ex7 rfl zc_1 (ob_1160 ie18 ie20) (ob_1161 ie18 ie19 ie20)))
          refine pM_X9_364_0 hx hb hG hown hK hP hD hS dX9_keepAct_90 (fun H9 locs hP hD hS => ?_)
          refine lv_aload_n hx hb dX9_keepAct_93 rfl (lv_at hl 0 rfl) ?_
          refine lv_iconst (v := 0) hx hb dX9_keepAct_94 (by decide) ?_
          refine pM_X9_367_0 hx hb hG hown hK hP hD hS dX9_keepAct_95 (fun H10 locs hP hD hS => ?_)
          rw [hQ]
          exact W.vret hx hb hr (fun t ht hW => ⟨⟨(), rfl, trivial, ⟨x7, 0, m51_f_was, by rw [ht]; exact hP, hD, ⟨ie0, ie1, ie2, ie3, ie4, ie5, ie6, ie7, ie8, ie9, ie10, ie11, ie12, ie13, ie14, ie15, ie16, ie17, (ob_1162 ie18 ie20 f8), (ob_1 zc_0), (ob_1163 ie19 ie20 f4 zc_0 f8), ie21, ie22, ie23, ie24, ie25, ie26, ie27, ie28, gi51_was_p, ie30, ie31, ie32⟩⟩⟩, hS.F ht⟩) hS.2.2 dX9_keepAct_98
        · skip
          have f11 : y51_1.toInt < 26 := qi_nle c_5 zc_26 rfl
          refine lv_aload_n hx hb dX9_keepAct_57 rfl (lv_at hl 0 rfl) ?_
          refine gM_X9_94_0 hx hb hG hown hK hP dX9_keepAct_58 ?_
          refine lv_bipush (v := 26) hx hb dX9_keepAct_61 (by decide) ?_
          refine lv_aload_n hx hb dX9_keepAct_63 rfl (lv_at hl 0 rfl) ?_
          refine gM_X9_364_0 hx hb hG hown hK hP dX9_keepAct_64 ?_
          refine lv_imul hx hb dX9_keepAct_67 ?_
          refine lv_topi (fun x12 ex12 => ?_)
          have f13 : x12.toInt = 26 * i_acts.toInt := (ob_1166 (qi_mul ex12 zc_26 rfl (ob_1164 ie18 ie20) (ob_1165 ie18 ie19 ie20)))
          refine lv_iload_n hx hb dX9_keepAct_68 rfl (lv_at hl 1 rfl) ?_
          refine lv_iadd hx hb dX9_keepAct_69 ?_
          refine lv_topi (fun x14 ex14 => ?_)
          have f15 : x14.toInt = y51_1.toInt + 26 * i_acts.toInt := (ob_1169 (qi_add ex14 rfl rfl (ob_1167 ie18 g51_0 f13) (ob_1168 ie19 ie20 g51_1 f13)) f13)
          refine lv_aload_n hx hb dX9_keepAct_70 rfl (lv_at hl 0 rfl) ?_
          refine gM_X9_88_0 hx hb hG hown hK hP dX9_keepAct_71 ?_
          refine lv_iload_n hx hb dX9_keepAct_74 rfl (lv_at hl 1 rfl) ?_
          refine ldM_25 (mm := y51_1.toInt) hx hb hK hP rfl (ob_350 g51_0) (ob_809 f11) dX9_keepAct_75 ?_
          refine stM_27 (mm := y51_1.toInt + 26 * i_acts.toInt) hx hb hK hP hD hS f15 (ob_1170 ie18 g51_0) (ob_1171 ie19 ie20 f11) dX9_keepAct_76 (fun z17 H16 locs ez17 hP hD hS => ?_)
          have g18 : EW z17 := ez17 ▸ EW.updc gi51_was_p ie27 (ob_1170 ie18 g51_0) (ob_350 g51_0) (ob_1172)
          obtain ⟨x19, ex19⟩ : ∃ y : Int32, y = y51_1 + Int32.ofInt 1 := ⟨_, rfl⟩
          have f20 : x19.toInt = y51_1.toInt + 1 := (ob_142 (qi_add ex19 rfl (by decide) (ob_140 g51_0) (ob_810 g51_1)))
          refine lv_iinc (v := x19) (lv' := [(1, .int x19), (0, .ref (r 0))]) hx hb dX9_keepAct_77 hl (k := 1) rfl ex19.symm (by decide) rfl (fun ls hl => ?_)
          refine lv_goto (tgt := 51) hx hb dX9_keepAct_80 (by decide) ?_
          exact ih51 x19 z17 H16 _ _ (ob_149 g51_0 f20) (ob_811 f11 f20) g18 hP hD hS (lv_sub hl [1, 0] rfl) (ob_812 hM51 f20)
    exact L51 (-1 * (0 : Int32).toInt + 26 + 1).toNat 0 f_was s.heap _ _ (ob_1 zc_0) (ob_813 zc_0) ie29 hP hD hS (lv_sub hl [1, 0] rfl) (mlt (ob_814 zc_0))
  · skip
    have f21 : i_acts.toInt = 40 := qi_eq c_3 rfl zc_40
    refine lv_iconst (v := 0) hx hb dX9_keepAct_9 (by decide) ?_
    refine lv_istore_n (lv' := [(1, .int 0), (0, .ref (r 0))]) hx hb dX9_keepAct_10 rfl hl (by decide) rfl (fun ls hl => ?_)
    have L11 : ∀ (N11 : Nat) (y11_1 : Int32) (m11_f_was : Nat → Int32) (H11 : Heap) (locs : List Loc) (ls : Array Slot) (g11_0 : (0 : Int) ≤ y11_1.toInt) (g11_1 : y11_1.toInt ≤ (1040 : Int)) (gi11_was_p : EW m11_f_was) (hP : va_P (dC, dI) vwCl (WM r ct i_taped i_size i_faultKind i_at i_end i_token i_number i_bank i_rb i_codes i_within i_piled i_unitsInRule i_askHouse i_askTune i_acts i_undone i_laid i_knowns i_time f_text f_tunes f_houses f_hums f_told f_many f_ruleFrom f_ruleTo f_code f_eWhat f_eSign f_all f_kept m11_f_was f_sTune f_boxAll J L) H11) (hD : va_D A (WM r ct i_taped i_size i_faultKind i_at i_end i_token i_number i_bank i_rb i_codes i_within i_piled i_unitsInRule i_askHouse i_askTune i_acts i_undone i_laid i_knowns i_time f_text f_tunes f_houses f_hums f_told f_many f_ruleFrom f_ruleTo f_code f_eWhat f_eSign f_all f_kept m11_f_was f_sTune f_boxAll J L)) (hS : va_S A s.heap H11 locs) (hl : lv_has ls 2 [(0, .ref (r 0)), (1, .int y11_1)]) (hM : -1 * y11_1.toInt + 1040 < (N11 : Int)), W p l e { frames := 2, cells := 0, slots := 0, locals := 100 } s m ([.ref (r 0)] : List Value).toArray below meth c0 H11 locs 0 0 Q (F0 m 11 ls []) := by
      intro N11
      induction N11 with
      | zero =>
        intro y11_1 m11_f_was H11 locs ls g11_0 g11_1 gi11_was_p hP hD hS hl hM
        exact ((ob_1173 hM g11_0 g11_1)).elim
      | succ N11 ih11 =>
        intro y11_1 m11_f_was H11 locs ls g11_0 g11_1 gi11_was_p hP hD hS hl hM
        have hM11 := msucc hM
        refine lv_iload_n hx hb dX9_keepAct_11 rfl (lv_at hl 1 rfl) ?_
        refine lv_sipush (v := 1040) hx hb dX9_keepAct_12 (by decide) ?_
        refine lv_icmp_ge (tgt := 39) hx hb dX9_keepAct_15 (by decide) (fun c_22 => ?_) (fun c_22 => ?_)
        · skip
          have f23 : 1040 ≤ y11_1.toInt := qi_le c_22 zc_1040 rfl
          refine lv_aload_n hx hb dX9_keepAct_39 rfl (lv_at hl 0 rfl) ?_
          refine lv_dup hx hb dX9_keepAct_40 rfl ?_
          refine gM_X9_364_0 hx hb hG hown hK hP dX9_keepAct_41 ?_
          refine lv_iconst (v := 1) hx hb dX9_keepAct_44 (by decide) ?_
          refine lv_isub hx hb dX9_keepAct_45 ?_
          refine lv_topi (fun x24 ex24 => ?_)
          have f25 : x24.toInt = i_acts.toInt + (-1) := (ob_346 (qi_sub ex24 rfl zc_1 (ob_1174 ie18 ie20 f21) (ob_1175 ie18 ie20 f21)))
          refine pM_X9_364_0 hx hb hG hown hK hP hD hS dX9_keepAct_46 (fun H26 locs hP hD hS => ?_)
          refine lv_iconst (v := 0) hx hb dX9_keepAct_49 (by decide) ?_
          refine lv_istore_n (lv' := [(1, .int 0), (0, .ref (r 0))]) hx hb dX9_keepAct_50 rfl hl (by decide) rfl (fun ls hl => ?_)
          have L51 : ∀ (N51 : Nat) (y51_1 : Int32) (m51_f_was : Nat → Int32) (H51 : Heap) (locs : List Loc) (ls : Array Slot) (g51_0 : (0 : Int) ≤ y51_1.toInt) (g51_1 : y51_1.toInt ≤ (26 : Int)) (gi51_was_p : EW m51_f_was) (hP : va_P (dC, dI) vwCl (WM r ct i_taped i_size i_faultKind i_at i_end i_token i_number i_bank i_rb i_codes i_within i_piled i_unitsInRule i_askHouse i_askTune x24 i_undone i_laid i_knowns i_time f_text f_tunes f_houses f_hums f_told f_many f_ruleFrom f_ruleTo f_code f_eWhat f_eSign f_all f_kept m51_f_was f_sTune f_boxAll J L) H51) (hD : va_D A (WM r ct i_taped i_size i_faultKind i_at i_end i_token i_number i_bank i_rb i_codes i_within i_piled i_unitsInRule i_askHouse i_askTune x24 i_undone i_laid i_knowns i_time f_text f_tunes f_houses f_hums f_told f_many f_ruleFrom f_ruleTo f_code f_eWhat f_eSign f_all f_kept m51_f_was f_sTune f_boxAll J L)) (hS : va_S A s.heap H51 locs) (hl : lv_has ls 2 [(0, .ref (r 0)), (1, .int y51_1)]) (hM : -1 * y51_1.toInt + 26 < (N51 : Int)), W p l e { frames := 2, cells := 0, slots := 0, locals := 100 } s m ([.ref (r 0)] : List Value).toArray below meth c0 H51 locs 0 0 Q (F0 m 51 ls []) := by
            intro N51
            induction N51 with
            | zero =>
              intro y51_1 m51_f_was H51 locs ls g51_0 g51_1 gi51_was_p hP hD hS hl hM
              exact ((ob_776 hM g51_0 g51_1)).elim
            | succ N51 ih51 =>
              intro y51_1 m51_f_was H51 locs ls g51_0 g51_1 gi51_was_p hP hD hS hl hM
              have hM51 := msucc hM
              refine lv_iload_n hx hb dX9_keepAct_51 rfl (lv_at hl 1 rfl) ?_
              refine lv_bipush (v := 26) hx hb dX9_keepAct_52 (by decide) ?_
              refine lv_icmp_ge (tgt := 83) hx hb dX9_keepAct_54 (by decide) (fun c_27 => ?_) (fun c_27 => ?_)
              · skip
                have f28 : 26 ≤ y51_1.toInt := qi_le c_27 zc_26 rfl
                refine lv_aload_n hx hb dX9_keepAct_83 rfl (lv_at hl 0 rfl) ?_
                refine lv_dup hx hb dX9_keepAct_84 rfl ?_
                refine gM_X9_364_0 hx hb hG hown hK hP dX9_keepAct_85 ?_
                refine lv_iconst (v := 1) hx hb dX9_keepAct_88 (by decide) ?_
                refine lv_iadd hx hb dX9_keepAct_89 ?_
                refine lv_topi (fun x29 ex29 => ?_)
                have f30 : x29.toInt = i_acts.toInt := (ob_1178 (qi_add ex29 rfl zc_1 (ob_1176 ie18 ie20 f21 f25) (ob_1177 ie18 ie20 f21 f25)) f25)
                refine pM_X9_364_0 hx hb hG hown hK hP hD hS dX9_keepAct_90 (fun H31 locs hP hD hS => ?_)
                refine lv_aload_n hx hb dX9_keepAct_93 rfl (lv_at hl 0 rfl) ?_
                refine lv_iconst (v := 0) hx hb dX9_keepAct_94 (by decide) ?_
                refine pM_X9_367_0 hx hb hG hown hK hP hD hS dX9_keepAct_95 (fun H32 locs hP hD hS => ?_)
                rw [hQ]
                exact W.vret hx hb hr (fun t ht hW => ⟨⟨(), rfl, trivial, ⟨x29, 0, m51_f_was, by rw [ht]; exact hP, hD, ⟨ie0, ie1, ie2, ie3, ie4, ie5, ie6, ie7, ie8, ie9, ie10, ie11, ie12, ie13, ie14, ie15, ie16, ie17, (ob_1179 ie18 ie20 f21 f30), (ob_1 zc_0), (ob_1180 ie18 ie20 f21 zc_0 f30), ie21, ie22, ie23, ie24, ie25, ie26, ie27, ie28, gi51_was_p, ie30, ie31, ie32⟩⟩⟩, hS.F ht⟩) hS.2.2 dX9_keepAct_98
              · skip
                have f33 : y51_1.toInt < 26 := qi_nle c_27 zc_26 rfl
                refine lv_aload_n hx hb dX9_keepAct_57 rfl (lv_at hl 0 rfl) ?_
                refine gM_X9_94_0 hx hb hG hown hK hP dX9_keepAct_58 ?_
                refine lv_bipush (v := 26) hx hb dX9_keepAct_61 (by decide) ?_
                refine lv_aload_n hx hb dX9_keepAct_63 rfl (lv_at hl 0 rfl) ?_
                refine gM_X9_364_0 hx hb hG hown hK hP dX9_keepAct_64 ?_
                refine lv_imul hx hb dX9_keepAct_67 ?_
                refine lv_topi (fun x34 ex34 => ?_)
                have f35 : x34.toInt = 26 * i_acts.toInt + (-26) := (ob_1183 (qi_mul ex34 zc_26 rfl (ob_1181 ie18 ie20 f21 f25) (ob_1182 ie18 ie20 f21 f25)) f25)
                refine lv_iload_n hx hb dX9_keepAct_68 rfl (lv_at hl 1 rfl) ?_
                refine lv_iadd hx hb dX9_keepAct_69 ?_
                refine lv_topi (fun x36 ex36 => ?_)
                have f37 : x36.toInt = y51_1.toInt + 26 * i_acts.toInt + (-26) := (ob_1186 (qi_add ex36 rfl rfl (ob_1184 ie18 g51_0 f35) (ob_1185 f21 g51_1 f35)) f35)
                refine lv_aload_n hx hb dX9_keepAct_70 rfl (lv_at hl 0 rfl) ?_
                refine gM_X9_88_0 hx hb hG hown hK hP dX9_keepAct_71 ?_
                refine lv_iload_n hx hb dX9_keepAct_74 rfl (lv_at hl 1 rfl) ?_
                refine ldM_25 (mm := y51_1.toInt) hx hb hK hP rfl (ob_350 g51_0) (ob_809 f33) dX9_keepAct_75 ?_
                refine stM_27 (mm := y51_1.toInt + 26 * i_acts.toInt + (-26)) hx hb hK hP hD hS f37 (ob_1187 f21 g51_0) (ob_1188 f21 g51_1) dX9_keepAct_76 (fun z39 H38 locs ez39 hP hD hS => ?_)
                have g40 : EW z39 := ez39 ▸ EW.updc gi51_was_p ie27 (ob_1187 f21 g51_0) (ob_350 g51_0) (ob_1189)
                obtain ⟨x41, ex41⟩ : ∃ y : Int32, y = y51_1 + Int32.ofInt 1 := ⟨_, rfl⟩
                have f42 : x41.toInt = y51_1.toInt + 1 := (ob_142 (qi_add ex41 rfl (by decide) (ob_140 g51_0) (ob_810 g51_1)))
                refine lv_iinc (v := x41) (lv' := [(1, .int x41), (0, .ref (r 0))]) hx hb dX9_keepAct_77 hl (k := 1) rfl ex41.symm (by decide) rfl (fun ls hl => ?_)
                refine lv_goto (tgt := 51) hx hb dX9_keepAct_80 (by decide) ?_
                exact ih51 x41 z39 H38 _ _ (ob_149 g51_0 f42) (ob_811 f33 f42) g40 hP hD hS (lv_sub hl [1, 0] rfl) (ob_812 hM51 f42)
          exact L51 (-1 * (0 : Int32).toInt + 26 + 1).toNat 0 m11_f_was H26 _ _ (ob_1 zc_0) (ob_813 zc_0) gi11_was_p hP hD hS (lv_sub hl [1, 0] rfl) (mlt (ob_814 zc_0))
        · skip
          have f43 : y11_1.toInt < 1040 := qi_nle c_22 zc_1040 rfl
          refine lv_aload_n hx hb dX9_keepAct_18 rfl (lv_at hl 0 rfl) ?_
          refine gM_X9_94_0 hx hb hG hown hK hP dX9_keepAct_19 ?_
          refine lv_iload_n hx hb dX9_keepAct_22 rfl (lv_at hl 1 rfl) ?_
          refine lv_aload_n hx hb dX9_keepAct_23 rfl (lv_at hl 0 rfl) ?_
          refine gM_X9_94_0 hx hb hG hown hK hP dX9_keepAct_24 ?_
          refine lv_iload_n hx hb dX9_keepAct_27 rfl (lv_at hl 1 rfl) ?_
          refine lv_bipush (v := 26) hx hb dX9_keepAct_28 (by decide) ?_
          refine lv_iadd hx hb dX9_keepAct_30 ?_
          refine lv_topi (fun x44 ex44 => ?_)
          have f45 : x44.toInt = y11_1.toInt + 26 := (ob_1192 (qi_add ex44 rfl zc_26 (ob_1190 g11_0) (ob_1191 g11_1)))
          refine ldM_27 (mm := y11_1.toInt + 26) hx hb hK hP f45 (ob_1193 g11_0) (ob_1194 f43) dX9_keepAct_31 ?_
          refine stM_27 (mm := y11_1.toInt) hx hb hK hP hD hS rfl (ob_350 g11_0) (ob_1195 g11_1) dX9_keepAct_32 (fun z47 H46 locs ez47 hP hD hS => ?_)
          have g48 : EW z47 := ez47 ▸ EW.updc gi11_was_p gi11_was_p (ob_350 g11_0) (ob_1193 g11_0) (ob_1196)
          obtain ⟨x49, ex49⟩ : ∃ y : Int32, y = y11_1 + Int32.ofInt 1 := ⟨_, rfl⟩
          have f50 : x49.toInt = y11_1.toInt + 1 := (ob_142 (qi_add ex49 rfl (by decide) (ob_140 g11_0) (ob_1197 g11_1)))
          refine lv_iinc (v := x49) (lv' := [(1, .int x49), (0, .ref (r 0))]) hx hb dX9_keepAct_33 hl (k := 1) rfl ex49.symm (by decide) rfl (fun ls hl => ?_)
          refine lv_goto (tgt := 11) hx hb dX9_keepAct_36 (by decide) ?_
          exact ih11 x49 z47 H46 _ _ (ob_149 g11_0 f50) (ob_1198 f43 f50) g48 hP hD hS (lv_sub hl [1, 0] rfl) (ob_1199 hM11 f50)
    exact L11 (-1 * (0 : Int32).toInt + 1040 + 1).toNat 0 f_was s.heap _ _ (ob_1 zc_0) (ob_1200 zc_0) ie29 hP hD hS (lv_sub hl [1, 0] rfl) (mlt (ob_1201 zc_0))
set_option maxHeartbeats 4000000 in
set_option maxRecDepth 100000 in
theorem kX9_swapAll (l : Launch) (dC : Nat → ClassId) (dI : Nat → Nat → Nat) (r : Nat → Nat) (ct : Nat → ClassId) (i_taped i_size i_faultKind i_at i_end i_token i_number i_bank i_rb i_codes i_within i_piled i_unitsInRule i_askHouse i_askTune i_acts i_undone i_laid i_knowns i_time : Int32) (f_text f_tunes f_houses f_hums f_told f_many f_ruleFrom f_ruleTo f_code f_eWhat f_eSign f_all f_kept f_was f_sTune f_boxAll : Nat → Int32) (J : Nat → Nat → Int32) (L : Nat → Nat → Int64) (sz : Nat) (hI : (IM i_taped i_size i_faultKind i_at i_end i_bank i_rb i_acts i_undone i_laid i_knowns i_time f_tunes f_houses f_hums f_told f_many f_ruleFrom f_ruleTo f_code f_all f_kept f_was f_sTune f_boxAll)) : Met l yX9_swapAll (.code yX9_swapAll cX9_swapAll 3 none :: GW) { frames := 2, cells := 0, slots := 0, locals := 100 } (va_Pc [.ref (r 0)] (pW (dC, dI) (WM r ct i_taped i_size i_faultKind i_at i_end i_token i_number i_bank i_rb i_codes i_within i_piled i_unitsInRule i_askHouse i_askTune i_acts i_undone i_laid i_knowns i_time f_text f_tunes f_houses f_hums f_told f_many f_ruleFrom f_ruleTo f_code f_eWhat f_eSign f_all f_kept f_was f_sTune f_boxAll J L) (TM ct) sz)) (va_Qv (fun _ : Unit => True) (fun (_ : Unit) (t : State) => ∃ (n_f_all n_f_was : Nat → Int32), va_P (dC, dI) vwCl (WM r ct i_taped i_size i_faultKind i_at i_end i_token i_number i_bank i_rb i_codes i_within i_piled i_unitsInRule i_askHouse i_askTune i_acts i_undone i_laid i_knowns i_time f_text f_tunes f_houses f_hums f_told f_many f_ruleFrom f_ruleTo f_code f_eWhat f_eSign n_f_all f_kept n_f_was f_sTune f_boxAll J L) t.heap ∧ va_D (va_A (WM r ct i_taped i_size i_faultKind i_at i_end i_token i_number i_bank i_rb i_codes i_within i_piled i_unitsInRule i_askHouse i_askTune i_acts i_undone i_laid i_knowns i_time f_text f_tunes f_houses f_hums f_told f_many f_ruleFrom f_ruleTo f_code f_eWhat f_eSign f_all f_kept f_was f_sTune f_boxAll J L) sz) (WM r ct i_taped i_size i_faultKind i_at i_end i_token i_number i_bank i_rb i_codes i_within i_piled i_unitsInRule i_askHouse i_askTune i_acts i_undone i_laid i_knowns i_time f_text f_tunes f_houses f_hums f_told f_many f_ruleFrom f_ruleTo f_code f_eWhat f_eSign n_f_all f_kept n_f_was f_sTune f_boxAll J L) ∧ (IM i_taped i_size i_faultKind i_at i_end i_bank i_rb i_acts i_undone i_laid i_knowns i_time f_tunes f_houses f_hums f_told f_many f_ruleFrom f_ruleTo f_code n_f_all f_kept n_f_was f_sTune f_boxAll)) (va_A (WM r ct i_taped i_size i_faultKind i_at i_end i_token i_number i_bank i_rb i_codes i_within i_piled i_unitsInRule i_askHouse i_askTune i_acts i_undone i_laid i_knowns i_time f_text f_tunes f_houses f_hums f_told f_many f_ruleFrom f_ruleTo f_code f_eWhat f_eSign f_all f_kept f_was f_sTune f_boxAll J L) sz)) 0 0 (va_A (WM r ct i_taped i_size i_faultKind i_at i_end i_token i_number i_bank i_rb i_codes i_within i_piled i_unitsInRule i_askHouse i_askTune i_acts i_undone i_laid i_knowns i_time f_text f_tunes f_houses f_hums f_told f_many f_ruleFrom f_ruleTo f_code f_eWhat f_eSign f_all f_kept f_was f_sTune f_boxAll J L) sz) := by
  refine Met.ofW (cc := cX9_swapAll) (maxL := 3) (ret := none) (by decide) rfl ?_
  intro p e s m args below meth c0 s₁ B hml hv
  obtain ⟨rfl, hsz, hP, hK, hD0⟩ := hv
  have hx := B.exec
  have hb := B.bytes
  have hr := B.returns
  have hts := atoms_spec (ws := .code yX9_swapAll cX9_swapAll 3 none :: GW) B.pre
  have hG : ∀ w ∈ GW, w.before _ s = true := fun w h => hts w (List.mem_cons_of_mem _ h)
  have hown : s.vm.findClass RX9 = some m.cls := findClass_of_methodNamed B.named
  subst hsz
  have hD := hD0.self (sz := s.heap.size)
  generalize hAe : va_A (WM r ct i_taped i_size i_faultKind i_at i_end i_token i_number i_bank i_rb i_codes i_within i_piled i_unitsInRule i_askHouse i_askTune i_acts i_undone i_laid i_knowns i_time f_text f_tunes f_houses f_hums f_told f_many f_ruleFrom f_ruleTo f_code f_eWhat f_eSign f_all f_kept f_was f_sTune f_boxAll J L) s.heap.size = A at hD ⊢
  have hA : ∀ q : Nat, s.heap.size ≤ q → A q := fun q h => by rw [← hAe]; exact Or.inr h
  have hS : va_S A s.heap s.heap [] := va_S.rf
  have hP : va_P (dC, dI) vwCl (WM r ct i_taped i_size i_faultKind i_at i_end i_token i_number i_bank i_rb i_codes i_within i_piled i_unitsInRule i_askHouse i_askTune i_acts i_undone i_laid i_knowns i_time f_text f_tunes f_houses f_hums f_told f_many f_ruleFrom f_ruleTo f_code f_eWhat f_eSign f_all f_kept f_was f_sTune f_boxAll J L) s.heap := hP
  have hl := lv_entry ([.ref (r 0)]) (n := 3) (Nat.le_of_ble_eq_true rfl)
  rw [lg_entry_eq]
  generalize (lg_sl ([.ref (r 0)]) ++ List.replicate (3 - (lg_sl ([.ref (r 0)])).length) Slot.unset).toArray = ls at hl ⊢
  have hl : lv_has ls 3 [(0, .ref (r 0))] := hl
  refine nameQ (fun Q hQ => ?_)
  obtain ⟨ie0, ie1, ie2, ie3, ie4, ie5, ie6, ie7, ie8, ie9, ie10, ie11, ie12, ie13, ie14, ie15, ie16, ie17, ie18, ie19, ie20, ie21, ie22, ie23, ie24, ie25, ie26, ie27, ie28, ie29, ie30, ie31, ie32⟩ := id hI
  have f1 : 0 ≤ (f_tunes (i_bank.toInt).toNat).toInt ∧ (f_tunes (i_bank.toInt).toNat).toInt ≤ 5 := ie21 (i_bank.toInt)
  have f2 : 0 ≤ (f_houses (i_bank.toInt).toNat).toInt ∧ (f_houses (i_bank.toInt).toNat).toInt ≤ 4 := ie22 (i_bank.toInt)
  refine lv_iconst (v := 0) hx hb dX9_swapAll_0 (by decide) ?_
  refine lv_istore_n (lv' := [(1, .int 0), (0, .ref (r 0))]) hx hb dX9_swapAll_1 rfl hl (by decide) rfl (fun ls hl => ?_)
  have L2 : ∀ (N2 : Nat) (y2_1 : Int32) (m2_f_all m2_f_was : Nat → Int32) (H2 : Heap) (locs : List Loc) (ls : Array Slot) (g2_0 : (0 : Int) ≤ y2_1.toInt) (g2_1 : y2_1.toInt ≤ (26 : Int)) (gi2_all_p : EW m2_f_all) (gi2_was_p : EW m2_f_was) (hP : va_P (dC, dI) vwCl (WM r ct i_taped i_size i_faultKind i_at i_end i_token i_number i_bank i_rb i_codes i_within i_piled i_unitsInRule i_askHouse i_askTune i_acts i_undone i_laid i_knowns i_time f_text f_tunes f_houses f_hums f_told f_many f_ruleFrom f_ruleTo f_code f_eWhat f_eSign m2_f_all f_kept m2_f_was f_sTune f_boxAll J L) H2) (hD : va_D A (WM r ct i_taped i_size i_faultKind i_at i_end i_token i_number i_bank i_rb i_codes i_within i_piled i_unitsInRule i_askHouse i_askTune i_acts i_undone i_laid i_knowns i_time f_text f_tunes f_houses f_hums f_told f_many f_ruleFrom f_ruleTo f_code f_eWhat f_eSign m2_f_all f_kept m2_f_was f_sTune f_boxAll J L)) (hS : va_S A s.heap H2 locs) (hl : lv_has ls 3 [(0, .ref (r 0)), (1, .int y2_1)]) (hM : -1 * y2_1.toInt + 26 < (N2 : Int)), W p l e { frames := 2, cells := 0, slots := 0, locals := 100 } s m ([.ref (r 0)] : List Value).toArray below meth c0 H2 locs 0 0 Q (F0 m 2 ls []) := by
    intro N2
    induction N2 with
    | zero =>
      intro y2_1 m2_f_all m2_f_was H2 locs ls g2_0 g2_1 gi2_all_p gi2_was_p hP hD hS hl hM
      exact ((ob_776 hM g2_0 g2_1)).elim
    | succ N2 ih2 =>
      intro y2_1 m2_f_all m2_f_was H2 locs ls g2_0 g2_1 gi2_all_p gi2_was_p hP hD hS hl hM
      have hM2 := msucc hM
      refine lv_iload_n hx hb dX9_swapAll_2 rfl (lv_at hl 1 rfl) ?_
      refine lv_bipush (v := 26) hx hb dX9_swapAll_3 (by decide) ?_
      refine lv_icmp_ge (tgt := 56) hx hb dX9_swapAll_5 (by decide) (fun c_3 => ?_) (fun c_3 => ?_)
      · skip
        have f4 : 26 ≤ y2_1.toInt := qi_le c_3 zc_26 rfl
        rw [hQ]
        exact W.vret hx hb hr (fun t ht hW => ⟨⟨(), rfl, trivial, ⟨m2_f_all, m2_f_was, by rw [ht]; exact hP, hD, ⟨ie0, ie1, ie2, ie3, ie4, ie5, ie6, ie7, ie8, ie9, ie10, ie11, ie12, ie13, ie14, ie15, ie16, ie17, ie18, ie19, ie20, ie21, ie22, ie23, ie24, ie25, ie26, gi2_all_p, ie28, gi2_was_p, ie30, ie31, ie32⟩⟩⟩, hS.F ht⟩) hS.2.2 dX9_swapAll_56
      · skip
        have f5 : y2_1.toInt < 26 := qi_nle c_3 zc_26 rfl
        refine lv_aload_n hx hb dX9_swapAll_8 rfl (lv_at hl 0 rfl) ?_
        refine gM_X9_94_0 hx hb hG hown hK hP dX9_swapAll_9 ?_
        refine lv_bipush (v := 26) hx hb dX9_swapAll_12 (by decide) ?_
        refine lv_aload_n hx hb dX9_swapAll_14 rfl (lv_at hl 0 rfl) ?_
        refine gM_X9_364_0 hx hb hG hown hK hP dX9_swapAll_15 ?_
        refine lv_imul hx hb dX9_swapAll_18 ?_
        refine lv_topi (fun x6 ex6 => ?_)
        have f7 : x6.toInt = 26 * i_acts.toInt := (ob_1166 (qi_mul ex6 zc_26 rfl (ob_1164 ie18 ie20) (ob_1165 ie18 ie19 ie20)))
        refine lv_iload_n hx hb dX9_swapAll_19 rfl (lv_at hl 1 rfl) ?_
        refine lv_iadd hx hb dX9_swapAll_20 ?_
        refine lv_topi (fun x8 ex8 => ?_)
        have f9 : x8.toInt = y2_1.toInt + 26 * i_acts.toInt := (ob_1169 (qi_add ex8 rfl rfl (ob_1167 ie18 g2_0 f7) (ob_1168 ie19 ie20 g2_1 f7)) f7)
        refine ldM_27 (mm := y2_1.toInt + 26 * i_acts.toInt) hx hb hK hP f9 (ob_1170 ie18 g2_0) (ob_1171 ie19 ie20 f5) dX9_swapAll_21 ?_
        refine lv_istore_n (lv' := [(2, .int (m2_f_was (y2_1.toInt + 26 * i_acts.toInt).toNat)), (0, .ref (r 0)), (1, .int y2_1)]) hx hb dX9_swapAll_22 rfl hl (by decide) rfl (fun ls hl => ?_)
        refine lv_aload_n hx hb dX9_swapAll_23 rfl (lv_at hl 1 rfl) ?_
        refine gM_X9_94_0 hx hb hG hown hK hP dX9_swapAll_24 ?_
        refine lv_bipush (v := 26) hx hb dX9_swapAll_27 (by decide) ?_
        refine lv_aload_n hx hb dX9_swapAll_29 rfl (lv_at hl 1 rfl) ?_
        refine gM_X9_364_0 hx hb hG hown hK hP dX9_swapAll_30 ?_
        refine lv_imul hx hb dX9_swapAll_33 ?_
        refine lv_topi (fun x10 ex10 => ?_)
        have f11 : x10.toInt = 26 * i_acts.toInt := (ob_1166 (qi_mul ex10 zc_26 rfl (ob_1164 ie18 ie20) (ob_1165 ie18 ie19 ie20)))
        refine lv_iload_n hx hb dX9_swapAll_34 rfl (lv_at hl 2 rfl) ?_
        refine lv_iadd hx hb dX9_swapAll_35 ?_
        refine lv_topi (fun x12 ex12 => ?_)
        have f13 : x12.toInt = y2_1.toInt + 26 * i_acts.toInt := (ob_1169 (qi_add ex12 rfl rfl (ob_1167 ie18 g2_0 f11) (ob_1168 ie19 ie20 g2_1 f11)) f11)
        refine lv_aload_n hx hb dX9_swapAll_36 rfl (lv_at hl 1 rfl) ?_
        refine gM_X9_88_0 hx hb hG hown hK hP dX9_swapAll_37 ?_
        refine lv_iload_n hx hb dX9_swapAll_40 rfl (lv_at hl 2 rfl) ?_
        refine ldM_25 (mm := y2_1.toInt) hx hb hK hP rfl (ob_350 g2_0) (ob_809 f5) dX9_swapAll_41 ?_
        refine stM_27 (mm := y2_1.toInt + 26 * i_acts.toInt) hx hb hK hP hD hS f13 (ob_1170 ie18 g2_0) (ob_1171 ie19 ie20 f5) dX9_swapAll_42 (fun z15 H14 locs ez15 hP hD hS => ?_)
        have g16 : EW z15 := ez15 ▸ EW.updc gi2_was_p gi2_all_p (ob_1170 ie18 g2_0) (ob_350 g2_0) (ob_1172)
        refine lv_aload_n hx hb dX9_swapAll_43 rfl (lv_at hl 1 rfl) ?_
        refine gM_X9_88_0 hx hb hG hown hK hP dX9_swapAll_44 ?_
        refine lv_iload_n hx hb dX9_swapAll_47 rfl (lv_at hl 2 rfl) ?_
        refine lv_iload_n hx hb dX9_swapAll_48 rfl (lv_at hl 0 rfl) ?_
        refine stM_25 (mm := y2_1.toInt) hx hb hK hP hD hS rfl (ob_350 g2_0) (ob_809 f5) dX9_swapAll_49 (fun z18 H17 locs ez18 hP hD hS => ?_)
        have g19 : EW z18 := ez18 ▸ EW.updc gi2_all_p gi2_was_p (ob_350 g2_0) (ob_1170 ie18 g2_0) (ob_1202)
        obtain ⟨x20, ex20⟩ : ∃ y : Int32, y = y2_1 + Int32.ofInt 1 := ⟨_, rfl⟩
        have f21 : x20.toInt = y2_1.toInt + 1 := (ob_142 (qi_add ex20 rfl (by decide) (ob_140 g2_0) (ob_810 g2_1)))
        refine lv_iinc (v := x20) (lv' := [(1, .int x20), (2, .int (m2_f_was (y2_1.toInt + 26 * i_acts.toInt).toNat)), (0, .ref (r 0))]) hx hb dX9_swapAll_50 hl (k := 2) rfl ex20.symm (by decide) rfl (fun ls hl => ?_)
        refine lv_goto (tgt := 2) hx hb dX9_swapAll_53 (by decide) ?_
        exact ih2 x20 z18 z15 H17 _ _ (ob_149 g2_0 f21) (ob_811 f5 f21) g19 g16 hP hD hS (lv_sub hl [2, 0] rfl) (ob_812 hM2 f21)
  exact L2 (-1 * (0 : Int32).toInt + 26 + 1).toNat 0 f_all f_was s.heap _ _ (ob_1 zc_0) (ob_813 zc_0) ie27 ie29 hP hD hS (lv_sub hl [1, 0] rfl) (mlt (ob_814 zc_0))
set_option maxHeartbeats 4000000 in
set_option maxRecDepth 100000 in
theorem kX9_week (l : Launch) (dC : Nat → ClassId) (dI : Nat → Nat → Nat) (r : Nat → Nat) (ct : Nat → ClassId) (i_taped i_size i_faultKind i_at i_end i_token i_number i_bank i_rb i_codes i_within i_piled i_unitsInRule i_askHouse i_askTune i_acts i_undone i_laid i_knowns i_time : Int32) (f_text f_tunes f_houses f_hums f_told f_many f_ruleFrom f_ruleTo f_code f_eWhat f_eSign f_all f_kept f_was f_sTune f_boxAll : Nat → Int32) (J : Nat → Nat → Int32) (L : Nat → Nat → Int64) (sz : Nat) (hI : (IM i_taped i_size i_faultKind i_at i_end i_bank i_rb i_acts i_undone i_laid i_knowns i_time f_tunes f_houses f_hums f_told f_many f_ruleFrom f_ruleTo f_code f_all f_kept f_was f_sTune f_boxAll)) : Met l yX9_week (.code yX9_week cX9_week 1 (some .int) :: GW) { frames := 24, cells := 0, slots := 0, locals := 794 } (va_Pc [.ref (r 0)] (pW (dC, dI) (WM r ct i_taped i_size i_faultKind i_at i_end i_token i_number i_bank i_rb i_codes i_within i_piled i_unitsInRule i_askHouse i_askTune i_acts i_undone i_laid i_knowns i_time f_text f_tunes f_houses f_hums f_told f_many f_ruleFrom f_ruleTo f_code f_eWhat f_eSign f_all f_kept f_was f_sTune f_boxAll J L) (TM ct) sz)) (va_Qi (fun (r0 : Int32) (u : Int32) => r0 = u) (fun (u : Int32) (t : State) => ∃ (n_i_askHouse n_i_askTune n_i_acts n_i_undone : Int32) (n_f_all n_f_was : Nat → Int32) (n_J : Nat → Nat → Int32), va_P (dC, dI) vwCl (WM r ct i_taped i_size i_faultKind i_at i_end i_token i_number i_bank i_rb i_codes i_within i_piled i_unitsInRule n_i_askHouse n_i_askTune n_i_acts n_i_undone i_laid i_knowns i_time f_text f_tunes f_houses f_hums f_told f_many f_ruleFrom f_ruleTo f_code f_eWhat f_eSign n_f_all f_kept n_f_was f_sTune f_boxAll n_J L) t.heap ∧ va_D (va_A (WM r ct i_taped i_size i_faultKind i_at i_end i_token i_number i_bank i_rb i_codes i_within i_piled i_unitsInRule i_askHouse i_askTune i_acts i_undone i_laid i_knowns i_time f_text f_tunes f_houses f_hums f_told f_many f_ruleFrom f_ruleTo f_code f_eWhat f_eSign f_all f_kept f_was f_sTune f_boxAll J L) sz) (WM r ct i_taped i_size i_faultKind i_at i_end i_token i_number i_bank i_rb i_codes i_within i_piled i_unitsInRule n_i_askHouse n_i_askTune n_i_acts n_i_undone i_laid i_knowns i_time f_text f_tunes f_houses f_hums f_told f_many f_ruleFrom f_ruleTo f_code f_eWhat f_eSign n_f_all f_kept n_f_was f_sTune f_boxAll n_J L) ∧ (IM i_taped i_size i_faultKind i_at i_end i_bank i_rb n_i_acts n_i_undone i_laid i_knowns i_time f_tunes f_houses f_hums f_told f_many f_ruleFrom f_ruleTo f_code n_f_all f_kept n_f_was f_sTune f_boxAll)) (va_A (WM r ct i_taped i_size i_faultKind i_at i_end i_token i_number i_bank i_rb i_codes i_within i_piled i_unitsInRule i_askHouse i_askTune i_acts i_undone i_laid i_knowns i_time f_text f_tunes f_houses f_hums f_told f_many f_ruleFrom f_ruleTo f_code f_eWhat f_eSign f_all f_kept f_was f_sTune f_boxAll J L) sz)) 0 0 (va_A (WM r ct i_taped i_size i_faultKind i_at i_end i_token i_number i_bank i_rb i_codes i_within i_piled i_unitsInRule i_askHouse i_askTune i_acts i_undone i_laid i_knowns i_time f_text f_tunes f_houses f_hums f_told f_many f_ruleFrom f_ruleTo f_code f_eWhat f_eSign f_all f_kept f_was f_sTune f_boxAll J L) sz) := by
  refine Met.ofW (cc := cX9_week) (maxL := 1) (ret := (some .int)) (by decide) rfl ?_
  intro p e s m args below meth c0 s₁ B hml hv
  obtain ⟨rfl, hsz, hP, hK, hD0⟩ := hv
  have hx := B.exec
  have hb := B.bytes
  have hr := B.returns
  have hts := atoms_spec (ws := .code yX9_week cX9_week 1 (some .int) :: GW) B.pre
  have hG : ∀ w ∈ GW, w.before _ s = true := fun w h => hts w (List.mem_cons_of_mem _ h)
  have hown : s.vm.findClass RX9 = some m.cls := findClass_of_methodNamed B.named
  subst hsz
  have hD := hD0.self (sz := s.heap.size)
  generalize hAe : va_A (WM r ct i_taped i_size i_faultKind i_at i_end i_token i_number i_bank i_rb i_codes i_within i_piled i_unitsInRule i_askHouse i_askTune i_acts i_undone i_laid i_knowns i_time f_text f_tunes f_houses f_hums f_told f_many f_ruleFrom f_ruleTo f_code f_eWhat f_eSign f_all f_kept f_was f_sTune f_boxAll J L) s.heap.size = A at hD ⊢
  have hA : ∀ q : Nat, s.heap.size ≤ q → A q := fun q h => by rw [← hAe]; exact Or.inr h
  have hS : va_S A s.heap s.heap [] := va_S.rf
  have hP : va_P (dC, dI) vwCl (WM r ct i_taped i_size i_faultKind i_at i_end i_token i_number i_bank i_rb i_codes i_within i_piled i_unitsInRule i_askHouse i_askTune i_acts i_undone i_laid i_knowns i_time f_text f_tunes f_houses f_hums f_told f_many f_ruleFrom f_ruleTo f_code f_eWhat f_eSign f_all f_kept f_was f_sTune f_boxAll J L) s.heap := hP
  have hl := lv_entry ([.ref (r 0)]) (n := 1) (Nat.le_of_ble_eq_true rfl)
  rw [lg_entry_eq]
  generalize (lg_sl ([.ref (r 0)]) ++ List.replicate (1 - (lg_sl ([.ref (r 0)])).length) Slot.unset).toArray = ls at hl ⊢
  have hl : lv_has ls 1 [(0, .ref (r 0))] := hl
  refine nameQ (fun Q hQ => ?_)
  obtain ⟨ie0, ie1, ie2, ie3, ie4, ie5, ie6, ie7, ie8, ie9, ie10, ie11, ie12, ie13, ie14, ie15, ie16, ie17, ie18, ie19, ie20, ie21, ie22, ie23, ie24, ie25, ie26, ie27, ie28, ie29, ie30, ie31, ie32⟩ := id hI
  have f1 : 0 ≤ (f_tunes (i_bank.toInt).toNat).toInt ∧ (f_tunes (i_bank.toInt).toNat).toInt ≤ 5 := ie21 (i_bank.toInt)
  have f2 : 0 ≤ (f_houses (i_bank.toInt).toNat).toInt ∧ (f_houses (i_bank.toInt).toNat).toInt ≤ 4 := ie22 (i_bank.toInt)
  refine lv_aload_n hx hb dX9_week_0 rfl (lv_at hl 0 rfl) ?_
  refine gM_X9_88_0 hx hb hG hown hK hP dX9_week_1 ?_
  refine lv_bipush (v := 24) hx hb dX9_week_4 (by decide) ?_
  refine ldM_25 (mm := (24 : Int)) hx hb hK hP zc_24 (ob_1079) (ob_1080) dX9_week_6 ?_
  refine lv_sipush (v := 999) hx hb dX9_week_7 (by decide) ?_
  refine lv_icmp_ne (tgt := 15) hx hb dX9_week_10 (by decide) (fun c_3 => ?_) (fun c_3 => ?_)
  · skip
    have f4 : (f_all ((24 : Int)).toNat).toInt ≠ 999 := qi_ne c_3 rfl zc_999
    refine lv_aload_n hx hb dX9_week_15 rfl (lv_at hl 0 rfl) ?_
    have hFc := frA hD hS hA
    refine va_callv (va_runV (As := []) (rest := []) ⟨hx, hb, hml, hown, hG⟩ (kX9_keepAct l dC dI r ct i_taped i_size i_faultKind i_at i_end i_token i_number i_bank i_rb i_codes i_within i_piled i_unitsInRule i_askHouse i_askTune i_acts i_undone i_laid i_knowns i_time f_text f_tunes f_houses f_hums f_told f_many f_ruleFrom f_ruleTo f_code f_eWhat f_eSign f_all f_kept f_was f_sTune f_boxAll J L s.heap.size hI) (cwV 0 hG (goodV gw1684 gw1686 gw107 gw138 gw1687) rfl rfl rfl hd_X9_keepAct ⟨(Nat.le_of_ble_eq_true rfl), (Nat.le_of_ble_eq_true rfl)⟩) ⟨fbW, va_recv hK hP (ci := 8) (q0 := 0) rfl rfl, pW_in hP hK hD⟩ rfl rfl hl.1 rfl (lv_room (Nat.le_of_ble_eq_true rfl)) dX9_week_16 ⟨(Nat.le_of_ble_eq_true rfl), (Nat.le_of_ble_eq_true rfl)⟩) hS (fun q _ h => hFc q h) hFc (fun _ t_ H5 locs ht hvm hw hB hz1 hk1 hS => ?_)
    obtain ⟨x7, x8, z9, hP1, hD1, hI10⟩ := hB
    rw [ht] at hP1
    have hP := hP1
    have hD := dW hFc hD1
    obtain ⟨im11, im12, im13, im14, im15, im16, im17, im18, im19, im20, im21, im22, im23, im24, im25, im26, im27, im28, im29, im30, im31, im32, im33, im34, im35, im36, im37, im38, im39, im40, im41, im42, im43⟩ := id hI10
    refine lv_aload_n hx hb dX9_week_19 rfl (lv_at hl 0 rfl) ?_
    refine lv_iconst (v := 1) hx hb dX9_week_20 (by decide) ?_
    have hFc := frA hD hS hA
    refine va_calli (va_runV (As := [.int 1]) (rest := []) ⟨hx, hb, hml, hown, hG⟩ (kX9_goWeek l dC dI r ct i_taped i_size i_faultKind i_at i_end i_token i_number i_bank i_rb i_codes i_within i_piled i_unitsInRule i_askHouse i_askTune x7 x8 i_laid i_knowns i_time f_text f_tunes f_houses f_hums f_told f_many f_ruleFrom f_ruleTo f_code f_eWhat f_eSign f_all f_kept z9 f_sTune f_boxAll J L 1 H5.size hI10 (ob_1203 zc_1)) (cwV 1 hG (goodV gw1688 gw1690 gw108 gw138 gw1691) rfl rfl rfl hd_X9_goWeek ⟨(Nat.le_of_ble_eq_true rfl), (Nat.le_of_ble_eq_true rfl)⟩) ⟨fbW, va_recv hK hP (ci := 8) (q0 := 0) rfl rfl, pW_in hP hK hD⟩ rfl rfl hl.1 rfl (lv_room (Nat.le_of_ble_eq_true rfl)) dX9_week_21 ⟨(Nat.le_of_ble_eq_true rfl), (Nat.le_of_ble_eq_true rfl)⟩) hS (fun q _ h => hFc q h) hFc (fun r_45 u_ t_ H44 locs ht hvm hw hB hz1 hk1 hS => ?_)
    subst hw
    obtain ⟨x46, x47, z48, J49, hP1, hD1, hI50⟩ := hB
    rw [ht] at hP1
    have hP := hP1
    have hD := dW hFc hD1
    obtain ⟨im51, im52, im53, im54, im55, im56, im57, im58, im59, im60, im61, im62, im63, im64, im65, im66, im67, im68, im69, im70, im71, im72, im73, im74, im75, im76, im77, im78, im79, im80, im81, im82, im83⟩ := id hI50
    rw [hQ]
    exact W.iret (v := r_45) hx hb hr (fun t ht hW => ⟨⟨r_45, r_45, rfl, rfl, ⟨x46, x47, x7, x8, z48, z9, J49, by rw [ht]; exact hP, hD, hI50⟩⟩, hS.F ht⟩) hS.2.2 dX9_week_24
  · skip
    have f84 : (f_all ((24 : Int)).toNat).toInt = 999 := qi_eq c_3 rfl zc_999
    refine lv_iconst (v := (-1)) hx hb dX9_week_13 (by decide) ?_
    rw [hQ]
    exact W.iret (v := (-1)) hx hb hr (fun t ht hW => ⟨⟨(-1), (-1), rfl, rfl, ⟨i_askHouse, i_askTune, i_acts, i_undone, f_all, f_was, J, by rw [ht]; exact hP, hD, hI⟩⟩, hS.F ht⟩) hS.2.2 dX9_week_14
set_option maxHeartbeats 4000000 in
set_option maxRecDepth 100000 in
theorem kX9_bring (l : Launch) (dC : Nat → ClassId) (dI : Nat → Nat → Nat) (r : Nat → Nat) (ct : Nat → ClassId) (i_taped i_size i_faultKind i_at i_end i_token i_number i_bank i_rb i_codes i_within i_piled i_unitsInRule i_askHouse i_askTune i_acts i_undone i_laid i_knowns i_time : Int32) (f_text f_tunes f_houses f_hums f_told f_many f_ruleFrom f_ruleTo f_code f_eWhat f_eSign f_all f_kept f_was f_sTune f_boxAll : Nat → Int32) (J : Nat → Nat → Int32) (L : Nat → Nat → Int64) (p0 p1 : Int32) (sz : Nat) (hI : (IM i_taped i_size i_faultKind i_at i_end i_bank i_rb i_acts i_undone i_laid i_knowns i_time f_tunes f_houses f_hums f_told f_many f_ruleFrom f_ruleTo f_code f_all f_kept f_was f_sTune f_boxAll)) : Met l yX9_bring (.code yX9_bring cX9_bring 3 (some .int) :: GW) { frames := 22, cells := 0, slots := 0, locals := 729 } (va_Pc [.ref (r 0), .int p0, .int p1] (pW (dC, dI) (WM r ct i_taped i_size i_faultKind i_at i_end i_token i_number i_bank i_rb i_codes i_within i_piled i_unitsInRule i_askHouse i_askTune i_acts i_undone i_laid i_knowns i_time f_text f_tunes f_houses f_hums f_told f_many f_ruleFrom f_ruleTo f_code f_eWhat f_eSign f_all f_kept f_was f_sTune f_boxAll J L) (TM ct) sz)) (va_Qi (fun (r0 : Int32) (u : Int32) => r0 = u) (fun (u : Int32) (t : State) => ∃ (n_i_askHouse n_i_askTune n_i_acts n_i_undone : Int32) (n_f_all n_f_was : Nat → Int32) (n_J : Nat → Nat → Int32), va_P (dC, dI) vwCl (WM r ct i_taped i_size i_faultKind i_at i_end i_token i_number i_bank i_rb i_codes i_within i_piled i_unitsInRule n_i_askHouse n_i_askTune n_i_acts n_i_undone i_laid i_knowns i_time f_text f_tunes f_houses f_hums f_told f_many f_ruleFrom f_ruleTo f_code f_eWhat f_eSign n_f_all f_kept n_f_was f_sTune f_boxAll n_J L) t.heap ∧ va_D (va_A (WM r ct i_taped i_size i_faultKind i_at i_end i_token i_number i_bank i_rb i_codes i_within i_piled i_unitsInRule i_askHouse i_askTune i_acts i_undone i_laid i_knowns i_time f_text f_tunes f_houses f_hums f_told f_many f_ruleFrom f_ruleTo f_code f_eWhat f_eSign f_all f_kept f_was f_sTune f_boxAll J L) sz) (WM r ct i_taped i_size i_faultKind i_at i_end i_token i_number i_bank i_rb i_codes i_within i_piled i_unitsInRule n_i_askHouse n_i_askTune n_i_acts n_i_undone i_laid i_knowns i_time f_text f_tunes f_houses f_hums f_told f_many f_ruleFrom f_ruleTo f_code f_eWhat f_eSign n_f_all f_kept n_f_was f_sTune f_boxAll n_J L) ∧ (IM i_taped i_size i_faultKind i_at i_end i_bank i_rb n_i_acts n_i_undone i_laid i_knowns i_time f_tunes f_houses f_hums f_told f_many f_ruleFrom f_ruleTo f_code n_f_all f_kept n_f_was f_sTune f_boxAll)) (va_A (WM r ct i_taped i_size i_faultKind i_at i_end i_token i_number i_bank i_rb i_codes i_within i_piled i_unitsInRule i_askHouse i_askTune i_acts i_undone i_laid i_knowns i_time f_text f_tunes f_houses f_hums f_told f_many f_ruleFrom f_ruleTo f_code f_eWhat f_eSign f_all f_kept f_was f_sTune f_boxAll J L) sz)) 0 0 (va_A (WM r ct i_taped i_size i_faultKind i_at i_end i_token i_number i_bank i_rb i_codes i_within i_piled i_unitsInRule i_askHouse i_askTune i_acts i_undone i_laid i_knowns i_time f_text f_tunes f_houses f_hums f_told f_many f_ruleFrom f_ruleTo f_code f_eWhat f_eSign f_all f_kept f_was f_sTune f_boxAll J L) sz) := by
  refine Met.ofW (cc := cX9_bring) (maxL := 3) (ret := (some .int)) (by decide) rfl ?_
  intro p e s m args below meth c0 s₁ B hml hv
  obtain ⟨rfl, hsz, hP, hK, hD0⟩ := hv
  have hx := B.exec
  have hb := B.bytes
  have hr := B.returns
  have hts := atoms_spec (ws := .code yX9_bring cX9_bring 3 (some .int) :: GW) B.pre
  have hG : ∀ w ∈ GW, w.before _ s = true := fun w h => hts w (List.mem_cons_of_mem _ h)
  have hown : s.vm.findClass RX9 = some m.cls := findClass_of_methodNamed B.named
  subst hsz
  have hD := hD0.self (sz := s.heap.size)
  generalize hAe : va_A (WM r ct i_taped i_size i_faultKind i_at i_end i_token i_number i_bank i_rb i_codes i_within i_piled i_unitsInRule i_askHouse i_askTune i_acts i_undone i_laid i_knowns i_time f_text f_tunes f_houses f_hums f_told f_many f_ruleFrom f_ruleTo f_code f_eWhat f_eSign f_all f_kept f_was f_sTune f_boxAll J L) s.heap.size = A at hD ⊢
  have hA : ∀ q : Nat, s.heap.size ≤ q → A q := fun q h => by rw [← hAe]; exact Or.inr h
  have hS : va_S A s.heap s.heap [] := va_S.rf
  have hP : va_P (dC, dI) vwCl (WM r ct i_taped i_size i_faultKind i_at i_end i_token i_number i_bank i_rb i_codes i_within i_piled i_unitsInRule i_askHouse i_askTune i_acts i_undone i_laid i_knowns i_time f_text f_tunes f_houses f_hums f_told f_many f_ruleFrom f_ruleTo f_code f_eWhat f_eSign f_all f_kept f_was f_sTune f_boxAll J L) s.heap := hP
  have hl := lv_entry ([.ref (r 0), .int p0, .int p1]) (n := 3) (Nat.le_of_ble_eq_true rfl)
  rw [lg_entry_eq]
  generalize (lg_sl ([.ref (r 0), .int p0, .int p1]) ++ List.replicate (3 - (lg_sl ([.ref (r 0), .int p0, .int p1])).length) Slot.unset).toArray = ls at hl ⊢
  have hl : lv_has ls 3 [(0, .ref (r 0)), (1, .int p0), (2, .int p1)] := hl
  refine nameQ (fun Q hQ => ?_)
  obtain ⟨ie0, ie1, ie2, ie3, ie4, ie5, ie6, ie7, ie8, ie9, ie10, ie11, ie12, ie13, ie14, ie15, ie16, ie17, ie18, ie19, ie20, ie21, ie22, ie23, ie24, ie25, ie26, ie27, ie28, ie29, ie30, ie31, ie32⟩ := id hI
  have f1 : 0 ≤ (f_tunes (i_bank.toInt).toNat).toInt ∧ (f_tunes (i_bank.toInt).toNat).toInt ≤ 5 := ie21 (i_bank.toInt)
  have f2 : 0 ≤ (f_houses (i_bank.toInt).toNat).toInt ∧ (f_houses (i_bank.toInt).toNat).toInt ≤ 4 := ie22 (i_bank.toInt)
  refine lv_aload_n hx hb dX9_bring_0 rfl (lv_at hl 0 rfl) ?_
  refine lv_iload_n hx hb dX9_bring_1 rfl (lv_at hl 1 rfl) ?_
  refine va_calli (va_runV (As := [.int p0]) (rest := []) ⟨hx, hb, hml, hown, hG⟩ (kX9_isTune l dC dI r ct i_taped i_size i_faultKind i_at i_end i_token i_number i_bank i_rb i_codes i_within i_piled i_unitsInRule i_askHouse i_askTune i_acts i_undone i_laid i_knowns i_time f_text f_tunes f_houses f_hums f_told f_many f_ruleFrom f_ruleTo f_code f_eWhat f_eSign f_all f_kept f_was f_sTune f_boxAll J L p0 s.heap.size hI) (cwV 1 hG (goodV gw1508 gw1510 gw85 gw138 gw1511) rfl rfl rfl hd_X9_isTune ⟨(Nat.le_of_ble_eq_true rfl), (Nat.le_of_ble_eq_true rfl)⟩) ⟨fbR, va_recv hK hP (ci := 8) (q0 := 0) rfl rfl, pR_in hP hK⟩ rfl rfl hl.1 rfl (lv_room (Nat.le_of_ble_eq_true rfl)) dX9_bring_2 ⟨(Nat.le_of_ble_eq_true rfl), (Nat.le_of_ble_eq_true rfl)⟩) hS (fun q hq h => absurd hq (Nat.not_lt.mpr h)) (fun q h => hA q (Nat.le_trans hS.1 h)) (fun r_4 u_ t_ H3 locs ht hvm hw hB hz1 hk1 hS => ?_)
  subst hw
  have hP := wk hP hk1
  obtain ⟨f5, f6, f7, f8, f9⟩ := hB
  refine lv_if_eq (tgt := 32) hx hb dX9_bring_5 (by decide) (fun c_10 => ?_) (fun c_10 => ?_)
  · skip
    have f11 : r_4.toInt = 0 := qi_eq c_10 rfl zc_0
    refine lv_ldcw (v := (-1000000000)) hx hb hown (hG _ gw1601) dX9_bring_32 ?_
    rw [hQ]
    exact W.iret (v := (-1000000000)) hx hb hr (fun t ht hW => ⟨⟨(-1000000000), (-1000000000), rfl, rfl, ⟨i_askHouse, i_askTune, i_acts, i_undone, f_all, f_was, J, by rw [ht]; exact hP, hD, hI⟩⟩, hS.F ht⟩) hS.2.2 dX9_bring_35
  · skip
    have f12 : r_4.toInt ≠ 0 := qi_ne c_10 rfl zc_0
    have f13 : (0 : Int) ≤ p0.toInt := (ob_1090 f5 f12)
    have f14 : p0.toInt + 1 ≤ (f_tunes (i_bank.toInt).toNat).toInt := (ob_1091 f5 f12)
    have f15 : r_4.toInt = (1 : Int) := (ob_1092 f5 f12)
    have f16 : (1 : Int) ≤ r_4.toInt := (ob_395 f15)
    refine lv_aload_n hx hb dX9_bring_8 rfl (lv_at hl 0 rfl) ?_
    refine lv_iload_n hx hb dX9_bring_9 rfl (lv_at hl 2 rfl) ?_
    refine va_calli (va_runV (As := [.int p1]) (rest := []) ⟨hx, hb, hml, hown, hG⟩ (kX9_isHouse l dC dI r ct i_taped i_size i_faultKind i_at i_end i_token i_number i_bank i_rb i_codes i_within i_piled i_unitsInRule i_askHouse i_askTune i_acts i_undone i_laid i_knowns i_time f_text f_tunes f_houses f_hums f_told f_many f_ruleFrom f_ruleTo f_code f_eWhat f_eSign f_all f_kept f_was f_sTune f_boxAll J L p1 H3.size hI) (cwV 1 hG (goodV gw1542 gw1544 gw90 gw138 gw1545) rfl rfl rfl hd_X9_isHouse ⟨(Nat.le_of_ble_eq_true rfl), (Nat.le_of_ble_eq_true rfl)⟩) ⟨fbR, va_recv hK hP (ci := 8) (q0 := 0) rfl rfl, pR_in hP hK⟩ rfl rfl hl.1 rfl (lv_room (Nat.le_of_ble_eq_true rfl)) dX9_bring_10 ⟨(Nat.le_of_ble_eq_true rfl), (Nat.le_of_ble_eq_true rfl)⟩) hS (fun q hq h => absurd hq (Nat.not_lt.mpr h)) (fun q h => hA q (Nat.le_trans hS.1 h)) (fun r_18 u_ t_ H17 locs ht hvm hw hB hz1 hk1 hS => ?_)
    subst hw
    have hP := wk hP hk1
    obtain ⟨f19, f20, f21, f22, f23⟩ := hB
    refine lv_if_eq (tgt := 32) hx hb dX9_bring_13 (by decide) (fun c_24 => ?_) (fun c_24 => ?_)
    · skip
      have f25 : r_18.toInt = 0 := qi_eq c_24 rfl zc_0
      refine lv_ldcw (v := (-1000000000)) hx hb hown (hG _ gw1601) dX9_bring_32 ?_
      rw [hQ]
      exact W.iret (v := (-1000000000)) hx hb hr (fun t ht hW => ⟨⟨(-1000000000), (-1000000000), rfl, rfl, ⟨i_askHouse, i_askTune, i_acts, i_undone, f_all, f_was, J, by rw [ht]; exact hP, hD, hI⟩⟩, hS.F ht⟩) hS.2.2 dX9_bring_35
    · skip
      have f26 : r_18.toInt ≠ 0 := qi_ne c_24 rfl zc_0
      have f27 : (0 : Int) ≤ p1.toInt := (ob_1090 f19 f26)
      have f28 : p1.toInt + 1 ≤ (f_houses (i_bank.toInt).toNat).toInt := (ob_1091 f19 f26)
      have f29 : r_18.toInt = (1 : Int) := (ob_1092 f19 f26)
      have f30 : (1 : Int) ≤ r_18.toInt := (ob_395 f29)
      refine lv_aload_n hx hb dX9_bring_16 rfl (lv_at hl 0 rfl) ?_
      refine lv_iload_n hx hb dX9_bring_17 rfl (lv_at hl 1 rfl) ?_
      refine va_calli (va_runV (As := [.int p0]) (rest := []) ⟨hx, hb, hml, hown, hG⟩ (kX9_isOnCart l dC dI r ct i_taped i_size i_faultKind i_at i_end i_token i_number i_bank i_rb i_codes i_within i_piled i_unitsInRule i_askHouse i_askTune i_acts i_undone i_laid i_knowns i_time f_text f_tunes f_houses f_hums f_told f_many f_ruleFrom f_ruleTo f_code f_eWhat f_eSign f_all f_kept f_was f_sTune f_boxAll J L p0 H17.size hI (ob_880 f13 f14) (ob_881 f1 f13 f14)) (cwV 1 hG (goodV gw1704 gw1706 gw111 gw138 gw1707) rfl rfl rfl hd_X9_isOnCart ⟨(Nat.le_of_ble_eq_true rfl), (Nat.le_of_ble_eq_true rfl)⟩) ⟨fbR, va_recv hK hP (ci := 8) (q0 := 0) rfl rfl, pR_in hP hK⟩ rfl rfl hl.1 rfl (lv_room (Nat.le_of_ble_eq_true rfl)) dX9_bring_18 ⟨(Nat.le_of_ble_eq_true rfl), (Nat.le_of_ble_eq_true rfl)⟩) hS (fun q hq h => absurd hq (Nat.not_lt.mpr h)) (fun q h => hA q (Nat.le_trans hS.1 h)) (fun r_32 u_ t_ H31 locs ht hvm hw hB hz1 hk1 hS => ?_)
      subst hw
      have hP := wk hP hk1
      obtain ⟨f33, f34, f35⟩ := hB
      refine lv_if_eq (tgt := 32) hx hb dX9_bring_21 (by decide) (fun c_36 => ?_) (fun c_36 => ?_)
      · skip
        have f37 : r_32.toInt = 0 := qi_eq c_36 rfl zc_0
        have f38 : (f_all (p0.toInt).toNat).toInt + 1 ≠ (0 : Int) := (ob_1204 f33 f37)
        have f39 : r_32.toInt = (0 : Int) := (ob_226 f34 f35 f37)
        refine lv_ldcw (v := (-1000000000)) hx hb hown (hG _ gw1601) dX9_bring_32 ?_
        rw [hQ]
        exact W.iret (v := (-1000000000)) hx hb hr (fun t ht hW => ⟨⟨(-1000000000), (-1000000000), rfl, rfl, ⟨i_askHouse, i_askTune, i_acts, i_undone, f_all, f_was, J, by rw [ht]; exact hP, hD, hI⟩⟩, hS.F ht⟩) hS.2.2 dX9_bring_35
      · skip
        have f40 : r_32.toInt ≠ 0 := qi_ne c_36 rfl zc_0
        have f41 : (f_all (p0.toInt).toNat).toInt + 1 = (0 : Int) := (ob_1205 f33 f40)
        have f42 : r_32.toInt = (1 : Int) := (ob_1206 f33 f40)
        have f43 : (1 : Int) ≤ r_32.toInt := (ob_162 f34 f35 f42)
        refine lv_aload_n hx hb dX9_bring_24 rfl (lv_at hl 0 rfl) ?_
        refine lv_iload_n hx hb dX9_bring_25 rfl (lv_at hl 2 rfl) ?_
        refine va_calli (va_runV (As := [.int p1]) (rest := []) ⟨hx, hb, hml, hown, hG⟩ (kX9_triedBy l dC dI r ct i_taped i_size i_faultKind i_at i_end i_token i_number i_bank i_rb i_codes i_within i_piled i_unitsInRule i_askHouse i_askTune i_acts i_undone i_laid i_knowns i_time f_text f_tunes f_houses f_hums f_told f_many f_ruleFrom f_ruleTo f_code f_eWhat f_eSign f_all f_kept f_was f_sTune f_boxAll J L p1 H31.size hI) (cwV 1 hG (goodV gw1550 gw1552 gw92 gw138 gw1553) rfl rfl rfl hd_X9_triedBy ⟨(Nat.le_of_ble_eq_true rfl), (Nat.le_of_ble_eq_true rfl)⟩) ⟨fbR, va_recv hK hP (ci := 8) (q0 := 0) rfl rfl, pR_in hP hK⟩ rfl rfl hl.1 rfl (lv_room (Nat.le_of_ble_eq_true rfl)) dX9_bring_26 ⟨(Nat.le_of_ble_eq_true rfl), (Nat.le_of_ble_eq_true rfl)⟩) hS (fun q hq h => absurd hq (Nat.not_lt.mpr h)) (fun q h => hA q (Nat.le_trans hS.1 h)) (fun r_45 u_ t_ H44 locs ht hvm hw hB hz1 hk1 hS => ?_)
        subst hw
        have hP := wk hP hk1
        obtain ⟨f46, f47, f48⟩ := hB
        have f49 : r_45.toInt = (trb f_all p1.toInt (f_tunes (i_bank.toInt).toNat).toInt (6 - ((0 : Int32).toInt)).toNat ((0 : Int32).toInt)) := (ob_6 f48)
        refine lv_if_lt (tgt := 36) hx hb dX9_bring_29 (by decide) (fun c_50 => ?_) (fun c_50 => ?_)
        · skip
          have f51 : r_45.toInt < 0 := qi_lt c_50 rfl zc_0
          refine lv_aload_n hx hb dX9_bring_36 rfl (lv_at hl 0 rfl) ?_
          have hFc := frA hD hS hA
          refine va_callv (va_runV (As := []) (rest := []) ⟨hx, hb, hml, hown, hG⟩ (kX9_keepAct l dC dI r ct i_taped i_size i_faultKind i_at i_end i_token i_number i_bank i_rb i_codes i_within i_piled i_unitsInRule i_askHouse i_askTune i_acts i_undone i_laid i_knowns i_time f_text f_tunes f_houses f_hums f_told f_many f_ruleFrom f_ruleTo f_code f_eWhat f_eSign f_all f_kept f_was f_sTune f_boxAll J L H44.size hI) (cwV 0 hG (goodV gw1684 gw1686 gw107 gw138 gw1687) rfl rfl rfl hd_X9_keepAct ⟨(Nat.le_of_ble_eq_true rfl), (Nat.le_of_ble_eq_true rfl)⟩) ⟨fbW, va_recv hK hP (ci := 8) (q0 := 0) rfl rfl, pW_in hP hK hD⟩ rfl rfl hl.1 rfl (lv_room (Nat.le_of_ble_eq_true rfl)) dX9_bring_37 ⟨(Nat.le_of_ble_eq_true rfl), (Nat.le_of_ble_eq_true rfl)⟩) hS (fun q _ h => hFc q h) hFc (fun _ t_ H52 locs ht hvm hw hB hz1 hk1 hS => ?_)
          obtain ⟨x54, x55, z56, hP1, hD1, hI57⟩ := hB
          rw [ht] at hP1
          have hP := hP1
          have hD := dW hFc hD1
          obtain ⟨im58, im59, im60, im61, im62, im63, im64, im65, im66, im67, im68, im69, im70, im71, im72, im73, im74, im75, im76, im77, im78, im79, im80, im81, im82, im83, im84, im85, im86, im87, im88, im89, im90⟩ := id hI57
          refine lv_aload_n hx hb dX9_bring_40 rfl (lv_at hl 0 rfl) ?_
          refine gM_X9_88_0 hx hb hG hown hK hP dX9_bring_41 ?_
          refine lv_iconst (v := 0) hx hb dX9_bring_44 (by decide) ?_
          refine lv_iload_n hx hb dX9_bring_45 rfl (lv_at hl 1 rfl) ?_
          refine lv_iadd hx hb dX9_bring_46 ?_
          refine lv_topi (fun x91 ex91 => ?_)
          have f92 : x91.toInt = p0.toInt := (ob_801 (qi_add ex91 zc_0 rfl (ob_1027 f13 f14) (ob_1095 f1 f14)))
          refine lv_iload_n hx hb dX9_bring_47 rfl (lv_at hl 2 rfl) ?_
          refine stM_25 (mm := p0.toInt) hx hb hK hP hD hS f92 (ob_1029 f13 f14) (ob_1096 f1 f14) dX9_bring_48 (fun z94 H93 locs ez94 hP hD hS => ?_)
          have g95 : EW z94 := ez94 ▸ EW.updo ie27 (ob_1029 f13 f14) (ob_1207 f1 f6 f7 f13 f14 f15 f16 f47 f49)
          refine lv_aload_n hx hb dX9_bring_49 rfl (lv_at hl 0 rfl) ?_
          refine lv_iload_n hx hb dX9_bring_50 rfl (lv_at hl 2 rfl) ?_
          refine lv_iload_n hx hb dX9_bring_51 rfl (lv_at hl 1 rfl) ?_
          have hFc := frA hD hS hA
          refine va_calli (va_runV (As := [.int p1, .int p0]) (rest := []) ⟨hx, hb, hml, hown, hG⟩ (kX9_gladNow l dC dI r ct i_taped i_size i_faultKind i_at i_end i_token i_number i_bank i_rb i_codes i_within i_piled i_unitsInRule i_askHouse i_askTune x54 x55 i_laid i_knowns i_time f_text f_tunes f_houses f_hums f_told f_many f_ruleFrom f_ruleTo f_code f_eWhat f_eSign z94 f_kept z56 f_sTune f_boxAll J L p1 p0 H93.size ⟨ie0, ie1, ie2, ie3, ie4, ie5, ie6, ie7, ie8, ie9, ie10, ie11, ie12, ie13, ie14, ie15, ie16, ie17, im76, im77, im78, ie21, ie22, ie23, ie24, ie25, ie26, g95, ie28, im87, ie30, ie31, ie32⟩ (ob_880 f27 f28) (ob_898 f2 f27 f28) (ob_880 f13 f14) (ob_1060 f14)) (cwV 2 hG (goodV gw1562 gw1564 gw94 gw138 gw1565) rfl rfl rfl hd_X9_gladNow ⟨(Nat.le_of_ble_eq_true rfl), (Nat.le_of_ble_eq_true rfl)⟩) ⟨fbW, va_recv hK hP (ci := 8) (q0 := 0) rfl rfl, pW_in hP hK hD⟩ rfl rfl hl.1 rfl (lv_room (Nat.le_of_ble_eq_true rfl)) dX9_bring_52 ⟨(Nat.le_of_ble_eq_true rfl), (Nat.le_of_ble_eq_true rfl)⟩) hS (fun q _ h => hFc q h) hFc (fun r_97 u_ t_ H96 locs ht hvm hw hB hz1 hk1 hS => ?_)
          subst hw
          obtain ⟨x98, x99, J100, hP1, hD1, hI101⟩ := hB
          rw [ht] at hP1
          have hP := hP1
          have hD := dW hFc hD1
          obtain ⟨im102, im103, im104, im105, im106, im107, im108, im109, im110, im111, im112, im113, im114, im115, im116, im117, im118, im119, im120, im121, im122, im123, im124, im125, im126, im127, im128, im129, im130, im131, im132, im133, im134⟩ := id hI101
          rw [hQ]
          exact W.iret (v := r_97) hx hb hr (fun t ht hW => ⟨⟨r_97, r_97, rfl, rfl, ⟨x98, x99, x54, x55, z94, z56, J100, by rw [ht]; exact hP, hD, hI101⟩⟩, hS.F ht⟩) hS.2.2 dX9_bring_55
        · skip
          have f135 : 0 ≤ r_45.toInt := qi_nlt c_50 rfl zc_0
          refine lv_ldcw (v := (-1000000000)) hx hb hown (hG _ gw1601) dX9_bring_32 ?_
          rw [hQ]
          exact W.iret (v := (-1000000000)) hx hb hr (fun t ht hW => ⟨⟨(-1000000000), (-1000000000), rfl, rfl, ⟨i_askHouse, i_askTune, i_acts, i_undone, f_all, f_was, J, by rw [ht]; exact hP, hD, hI⟩⟩, hS.F ht⟩) hS.2.2 dX9_bring_35
set_option maxHeartbeats 4000000 in
set_option maxRecDepth 100000 in
theorem kX9_fetch (l : Launch) (dC : Nat → ClassId) (dI : Nat → Nat → Nat) (r : Nat → Nat) (ct : Nat → ClassId) (i_taped i_size i_faultKind i_at i_end i_token i_number i_bank i_rb i_codes i_within i_piled i_unitsInRule i_askHouse i_askTune i_acts i_undone i_laid i_knowns i_time : Int32) (f_text f_tunes f_houses f_hums f_told f_many f_ruleFrom f_ruleTo f_code f_eWhat f_eSign f_all f_kept f_was f_sTune f_boxAll : Nat → Int32) (J : Nat → Nat → Int32) (L : Nat → Nat → Int64) (p0 : Int32) (sz : Nat) (hI : (IM i_taped i_size i_faultKind i_at i_end i_bank i_rb i_acts i_undone i_laid i_knowns i_time f_tunes f_houses f_hums f_told f_many f_ruleFrom f_ruleTo f_code f_all f_kept f_was f_sTune f_boxAll)) : Met l yX9_fetch (.code yX9_fetch cX9_fetch 3 (some .int) :: GW) { frames := 6, cells := 0, slots := 0, locals := 223 } (va_Pc [.ref (r 0), .int p0] (pW (dC, dI) (WM r ct i_taped i_size i_faultKind i_at i_end i_token i_number i_bank i_rb i_codes i_within i_piled i_unitsInRule i_askHouse i_askTune i_acts i_undone i_laid i_knowns i_time f_text f_tunes f_houses f_hums f_told f_many f_ruleFrom f_ruleTo f_code f_eWhat f_eSign f_all f_kept f_was f_sTune f_boxAll J L) (TM ct) sz)) (va_Qi (fun (r0 : Int32) (u : Int32) => r0 = u) (fun (u : Int32) (t : State) => ∃ (n_i_acts n_i_undone : Int32) (n_f_all n_f_was : Nat → Int32), va_P (dC, dI) vwCl (WM r ct i_taped i_size i_faultKind i_at i_end i_token i_number i_bank i_rb i_codes i_within i_piled i_unitsInRule i_askHouse i_askTune n_i_acts n_i_undone i_laid i_knowns i_time f_text f_tunes f_houses f_hums f_told f_many f_ruleFrom f_ruleTo f_code f_eWhat f_eSign n_f_all f_kept n_f_was f_sTune f_boxAll J L) t.heap ∧ va_D (va_A (WM r ct i_taped i_size i_faultKind i_at i_end i_token i_number i_bank i_rb i_codes i_within i_piled i_unitsInRule i_askHouse i_askTune i_acts i_undone i_laid i_knowns i_time f_text f_tunes f_houses f_hums f_told f_many f_ruleFrom f_ruleTo f_code f_eWhat f_eSign f_all f_kept f_was f_sTune f_boxAll J L) sz) (WM r ct i_taped i_size i_faultKind i_at i_end i_token i_number i_bank i_rb i_codes i_within i_piled i_unitsInRule i_askHouse i_askTune n_i_acts n_i_undone i_laid i_knowns i_time f_text f_tunes f_houses f_hums f_told f_many f_ruleFrom f_ruleTo f_code f_eWhat f_eSign n_f_all f_kept n_f_was f_sTune f_boxAll J L) ∧ (IM i_taped i_size i_faultKind i_at i_end i_bank i_rb n_i_acts n_i_undone i_laid i_knowns i_time f_tunes f_houses f_hums f_told f_many f_ruleFrom f_ruleTo f_code n_f_all f_kept n_f_was f_sTune f_boxAll)) (va_A (WM r ct i_taped i_size i_faultKind i_at i_end i_token i_number i_bank i_rb i_codes i_within i_piled i_unitsInRule i_askHouse i_askTune i_acts i_undone i_laid i_knowns i_time f_text f_tunes f_houses f_hums f_told f_many f_ruleFrom f_ruleTo f_code f_eWhat f_eSign f_all f_kept f_was f_sTune f_boxAll J L) sz)) 0 0 (va_A (WM r ct i_taped i_size i_faultKind i_at i_end i_token i_number i_bank i_rb i_codes i_within i_piled i_unitsInRule i_askHouse i_askTune i_acts i_undone i_laid i_knowns i_time f_text f_tunes f_houses f_hums f_told f_many f_ruleFrom f_ruleTo f_code f_eWhat f_eSign f_all f_kept f_was f_sTune f_boxAll J L) sz) := by
  refine Met.ofW (cc := cX9_fetch) (maxL := 3) (ret := (some .int)) (by decide) rfl ?_
  intro p e s m args below meth c0 s₁ B hml hv
  obtain ⟨rfl, hsz, hP, hK, hD0⟩ := hv
  have hx := B.exec
  have hb := B.bytes
  have hr := B.returns
  have hts := atoms_spec (ws := .code yX9_fetch cX9_fetch 3 (some .int) :: GW) B.pre
  have hG : ∀ w ∈ GW, w.before _ s = true := fun w h => hts w (List.mem_cons_of_mem _ h)
  have hown : s.vm.findClass RX9 = some m.cls := findClass_of_methodNamed B.named
  subst hsz
  have hD := hD0.self (sz := s.heap.size)
  generalize hAe : va_A (WM r ct i_taped i_size i_faultKind i_at i_end i_token i_number i_bank i_rb i_codes i_within i_piled i_unitsInRule i_askHouse i_askTune i_acts i_undone i_laid i_knowns i_time f_text f_tunes f_houses f_hums f_told f_many f_ruleFrom f_ruleTo f_code f_eWhat f_eSign f_all f_kept f_was f_sTune f_boxAll J L) s.heap.size = A at hD ⊢
  have hA : ∀ q : Nat, s.heap.size ≤ q → A q := fun q h => by rw [← hAe]; exact Or.inr h
  have hS : va_S A s.heap s.heap [] := va_S.rf
  have hP : va_P (dC, dI) vwCl (WM r ct i_taped i_size i_faultKind i_at i_end i_token i_number i_bank i_rb i_codes i_within i_piled i_unitsInRule i_askHouse i_askTune i_acts i_undone i_laid i_knowns i_time f_text f_tunes f_houses f_hums f_told f_many f_ruleFrom f_ruleTo f_code f_eWhat f_eSign f_all f_kept f_was f_sTune f_boxAll J L) s.heap := hP
  have hl := lv_entry ([.ref (r 0), .int p0]) (n := 3) (Nat.le_of_ble_eq_true rfl)
  rw [lg_entry_eq]
  generalize (lg_sl ([.ref (r 0), .int p0]) ++ List.replicate (3 - (lg_sl ([.ref (r 0), .int p0])).length) Slot.unset).toArray = ls at hl ⊢
  have hl : lv_has ls 3 [(0, .ref (r 0)), (1, .int p0)] := hl
  refine nameQ (fun Q hQ => ?_)
  obtain ⟨ie0, ie1, ie2, ie3, ie4, ie5, ie6, ie7, ie8, ie9, ie10, ie11, ie12, ie13, ie14, ie15, ie16, ie17, ie18, ie19, ie20, ie21, ie22, ie23, ie24, ie25, ie26, ie27, ie28, ie29, ie30, ie31, ie32⟩ := id hI
  have f1 : 0 ≤ (f_tunes (i_bank.toInt).toNat).toInt ∧ (f_tunes (i_bank.toInt).toNat).toInt ≤ 5 := ie21 (i_bank.toInt)
  have f2 : 0 ≤ (f_houses (i_bank.toInt).toNat).toInt ∧ (f_houses (i_bank.toInt).toNat).toInt ≤ 4 := ie22 (i_bank.toInt)
  refine lv_aload_n hx hb dX9_fetch_0 rfl (lv_at hl 0 rfl) ?_
  refine lv_iload_n hx hb dX9_fetch_1 rfl (lv_at hl 1 rfl) ?_
  refine va_calli (va_runV (As := [.int p0]) (rest := []) ⟨hx, hb, hml, hown, hG⟩ (kX9_isTune l dC dI r ct i_taped i_size i_faultKind i_at i_end i_token i_number i_bank i_rb i_codes i_within i_piled i_unitsInRule i_askHouse i_askTune i_acts i_undone i_laid i_knowns i_time f_text f_tunes f_houses f_hums f_told f_many f_ruleFrom f_ruleTo f_code f_eWhat f_eSign f_all f_kept f_was f_sTune f_boxAll J L p0 s.heap.size hI) (cwV 1 hG (goodV gw1508 gw1510 gw85 gw138 gw1511) rfl rfl rfl hd_X9_isTune ⟨(Nat.le_of_ble_eq_true rfl), (Nat.le_of_ble_eq_true rfl)⟩) ⟨fbR, va_recv hK hP (ci := 8) (q0 := 0) rfl rfl, pR_in hP hK⟩ rfl rfl hl.1 rfl (lv_room (Nat.le_of_ble_eq_true rfl)) dX9_fetch_2 ⟨(Nat.le_of_ble_eq_true rfl), (Nat.le_of_ble_eq_true rfl)⟩) hS (fun q hq h => absurd hq (Nat.not_lt.mpr h)) (fun q h => hA q (Nat.le_trans hS.1 h)) (fun r_4 u_ t_ H3 locs ht hvm hw hB hz1 hk1 hS => ?_)
  subst hw
  have hP := wk hP hk1
  obtain ⟨f5, f6, f7, f8, f9⟩ := hB
  refine lv_if_eq (tgt := 16) hx hb dX9_fetch_5 (by decide) (fun c_10 => ?_) (fun c_10 => ?_)
  · skip
    have f11 : r_4.toInt = 0 := qi_eq c_10 rfl zc_0
    refine lv_iconst (v := (-1)) hx hb dX9_fetch_16 (by decide) ?_
    rw [hQ]
    exact W.iret (v := (-1)) hx hb hr (fun t ht hW => ⟨⟨(-1), (-1), rfl, rfl, ⟨i_acts, i_undone, f_all, f_was, by rw [ht]; exact hP, hD, hI⟩⟩, hS.F ht⟩) hS.2.2 dX9_fetch_17
  · skip
    have f12 : r_4.toInt ≠ 0 := qi_ne c_10 rfl zc_0
    have f13 : (0 : Int) ≤ p0.toInt := (ob_1090 f5 f12)
    have f14 : p0.toInt + 1 ≤ (f_tunes (i_bank.toInt).toNat).toInt := (ob_1091 f5 f12)
    have f15 : r_4.toInt = (1 : Int) := (ob_1092 f5 f12)
    have f16 : (1 : Int) ≤ r_4.toInt := (ob_395 f15)
    refine lv_aload_n hx hb dX9_fetch_8 rfl (lv_at hl 0 rfl) ?_
    refine lv_iload_n hx hb dX9_fetch_9 rfl (lv_at hl 1 rfl) ?_
    refine va_calli (va_runV (As := [.int p0]) (rest := []) ⟨hx, hb, hml, hown, hG⟩ (kX9_isTried l dC dI r ct i_taped i_size i_faultKind i_at i_end i_token i_number i_bank i_rb i_codes i_within i_piled i_unitsInRule i_askHouse i_askTune i_acts i_undone i_laid i_knowns i_time f_text f_tunes f_houses f_hums f_told f_many f_ruleFrom f_ruleTo f_code f_eWhat f_eSign f_all f_kept f_was f_sTune f_boxAll J L p0 H3.size hI (ob_880 f13 f14) (ob_881 f1 f13 f14)) (cwV 1 hG (goodV gw1668 gw1670 gw106 gw138 gw1671) rfl rfl rfl hd_X9_isTried ⟨(Nat.le_of_ble_eq_true rfl), (Nat.le_of_ble_eq_true rfl)⟩) ⟨fbR, va_recv hK hP (ci := 8) (q0 := 0) rfl rfl, pR_in hP hK⟩ rfl rfl hl.1 rfl (lv_room (Nat.le_of_ble_eq_true rfl)) dX9_fetch_10 ⟨(Nat.le_of_ble_eq_true rfl), (Nat.le_of_ble_eq_true rfl)⟩) hS (fun q hq h => absurd hq (Nat.not_lt.mpr h)) (fun q h => hA q (Nat.le_trans hS.1 h)) (fun r_18 u_ t_ H17 locs ht hvm hw hB hz1 hk1 hS => ?_)
    subst hw
    have hP := wk hP hk1
    obtain ⟨f19, f20, f21⟩ := hB
    refine lv_if_ne (tgt := 18) hx hb dX9_fetch_13 (by decide) (fun c_22 => ?_) (fun c_22 => ?_)
    · skip
      have f23 : r_18.toInt ≠ 0 := qi_ne c_22 rfl zc_0
      have f24 : (0 : Int) ≤ (f_all (p0.toInt).toNat).toInt := (ob_1151 f19 f23)
      have f25 : (f_all (p0.toInt + 5).toNat).toInt = (0 : Int) := (ob_1152 f19 f23)
      have f26 : r_18.toInt = (1 : Int) := (ob_1153 f19 f23)
      have f27 : (1 : Int) ≤ r_18.toInt := (ob_162 f20 f21 f26)
      refine lv_aload_n hx hb dX9_fetch_18 rfl (lv_at hl 0 rfl) ?_
      have hFc := frA hD hS hA
      refine va_callv (va_runV (As := []) (rest := []) ⟨hx, hb, hml, hown, hG⟩ (kX9_keepAct l dC dI r ct i_taped i_size i_faultKind i_at i_end i_token i_number i_bank i_rb i_codes i_within i_piled i_unitsInRule i_askHouse i_askTune i_acts i_undone i_laid i_knowns i_time f_text f_tunes f_houses f_hums f_told f_many f_ruleFrom f_ruleTo f_code f_eWhat f_eSign f_all f_kept f_was f_sTune f_boxAll J L H17.size hI) (cwV 0 hG (goodV gw1684 gw1686 gw107 gw138 gw1687) rfl rfl rfl hd_X9_keepAct ⟨(Nat.le_of_ble_eq_true rfl), (Nat.le_of_ble_eq_true rfl)⟩) ⟨fbW, va_recv hK hP (ci := 8) (q0 := 0) rfl rfl, pW_in hP hK hD⟩ rfl rfl hl.1 rfl (lv_room (Nat.le_of_ble_eq_true rfl)) dX9_fetch_19 ⟨(Nat.le_of_ble_eq_true rfl), (Nat.le_of_ble_eq_true rfl)⟩) hS (fun q _ h => hFc q h) hFc (fun _ t_ H28 locs ht hvm hw hB hz1 hk1 hS => ?_)
      obtain ⟨x30, x31, z32, hP1, hD1, hI33⟩ := hB
      rw [ht] at hP1
      have hP := hP1
      have hD := dW hFc hD1
      obtain ⟨im34, im35, im36, im37, im38, im39, im40, im41, im42, im43, im44, im45, im46, im47, im48, im49, im50, im51, im52, im53, im54, im55, im56, im57, im58, im59, im60, im61, im62, im63, im64, im65, im66⟩ := id hI33
      refine lv_aload_n hx hb dX9_fetch_22 rfl (lv_at hl 0 rfl) ?_
      refine gM_X9_88_0 hx hb hG hown hK hP dX9_fetch_23 ?_
      refine lv_iconst (v := 0) hx hb dX9_fetch_26 (by decide) ?_
      refine lv_iload_n hx hb dX9_fetch_27 rfl (lv_at hl 1 rfl) ?_
      refine lv_iadd hx hb dX9_fetch_28 ?_
      refine lv_topi (fun x67 ex67 => ?_)
      have f68 : x67.toInt = p0.toInt := (ob_801 (qi_add ex67 zc_0 rfl (ob_1027 f13 f14) (ob_1095 f1 f14)))
      refine ldM_25 (mm := p0.toInt) hx hb hK hP f68 (ob_1029 f13 f14) (ob_1096 f1 f14) dX9_fetch_29 ?_
      refine lv_istore_n (lv' := [(2, .int (f_all (p0.toInt).toNat)), (0, .ref (r 0)), (1, .int p0)]) hx hb dX9_fetch_30 rfl hl (by decide) rfl (fun ls hl => ?_)
      refine lv_aload_n hx hb dX9_fetch_31 rfl (lv_at hl 1 rfl) ?_
      refine lv_iload_n hx hb dX9_fetch_32 rfl (lv_at hl 2 rfl) ?_
      have hFc := frA hD hS hA
      refine va_callv (va_runV (As := [.int p0]) (rest := []) ⟨hx, hb, hml, hown, hG⟩ (kX9_toCart l dC dI r ct i_taped i_size i_faultKind i_at i_end i_token i_number i_bank i_rb i_codes i_within i_piled i_unitsInRule i_askHouse i_askTune x30 x31 i_laid i_knowns i_time f_text f_tunes f_houses f_hums f_told f_many f_ruleFrom f_ruleTo f_code f_eWhat f_eSign f_all f_kept z32 f_sTune f_boxAll J L p0 H28.size hI33 (ob_880 f13 f14) (ob_881 f1 f13 f14)) (cwV 1 hG (goodV gw1696 gw1698 gw110 gw138 gw1699) rfl rfl rfl hd_X9_toCart ⟨(Nat.le_of_ble_eq_true rfl), (Nat.le_of_ble_eq_true rfl)⟩) ⟨fbW, va_recv hK hP (ci := 8) (q0 := 0) rfl rfl, pW_in hP hK hD⟩ rfl rfl hl.1 rfl (lv_room (Nat.le_of_ble_eq_true rfl)) dX9_fetch_33 ⟨(Nat.le_of_ble_eq_true rfl), (Nat.le_of_ble_eq_true rfl)⟩) hS (fun q _ h => hFc q h) hFc (fun _ t_ H69 locs ht hvm hw hB hz1 hk1 hS => ?_)
      obtain ⟨z71, hP1, hD1, hI72⟩ := hB
      rw [ht] at hP1
      have hP := hP1
      have hD := dW hFc hD1
      obtain ⟨im73, im74, im75, im76, im77, im78, im79, im80, im81, im82, im83, im84, im85, im86, im87, im88, im89, im90, im91, im92, im93, im94, im95, im96, im97, im98, im99, im100, im101, im102, im103, im104, im105⟩ := id hI72
      refine lv_iload_n hx hb dX9_fetch_36 rfl (lv_at hl 0 rfl) ?_
      rw [hQ]
      exact W.iret (v := (f_all (p0.toInt).toNat)) hx hb hr (fun t ht hW => ⟨⟨(f_all (p0.toInt).toNat), (f_all (p0.toInt).toNat), rfl, rfl, ⟨x30, x31, z71, z32, by rw [ht]; exact hP, hD, hI72⟩⟩, hS.F ht⟩) hS.2.2 dX9_fetch_37
    · skip
      have f106 : r_18.toInt = 0 := qi_eq c_22 rfl zc_0
      refine lv_iconst (v := (-1)) hx hb dX9_fetch_16 (by decide) ?_
      rw [hQ]
      exact W.iret (v := (-1)) hx hb hr (fun t ht hW => ⟨⟨(-1), (-1), rfl, rfl, ⟨i_acts, i_undone, f_all, f_was, by rw [ht]; exact hP, hD, hI⟩⟩, hS.F ht⟩) hS.2.2 dX9_fetch_17
set_option maxHeartbeats 4000000 in
set_option maxRecDepth 100000 in
theorem kX9_give (l : Launch) (dC : Nat → ClassId) (dI : Nat → Nat → Nat) (r : Nat → Nat) (ct : Nat → ClassId) (i_taped i_size i_faultKind i_at i_end i_token i_number i_bank i_rb i_codes i_within i_piled i_unitsInRule i_askHouse i_askTune i_acts i_undone i_laid i_knowns i_time : Int32) (f_text f_tunes f_houses f_hums f_told f_many f_ruleFrom f_ruleTo f_code f_eWhat f_eSign f_all f_kept f_was f_sTune f_boxAll : Nat → Int32) (J : Nat → Nat → Int32) (L : Nat → Nat → Int64) (p0 : Int32) (sz : Nat) (hI : (IM i_taped i_size i_faultKind i_at i_end i_bank i_rb i_acts i_undone i_laid i_knowns i_time f_tunes f_houses f_hums f_told f_many f_ruleFrom f_ruleTo f_code f_all f_kept f_was f_sTune f_boxAll)) : Met l yX9_give (.code yX9_give cX9_give 3 (some .int) :: GW) { frames := 6, cells := 0, slots := 0, locals := 223 } (va_Pc [.ref (r 0), .int p0] (pW (dC, dI) (WM r ct i_taped i_size i_faultKind i_at i_end i_token i_number i_bank i_rb i_codes i_within i_piled i_unitsInRule i_askHouse i_askTune i_acts i_undone i_laid i_knowns i_time f_text f_tunes f_houses f_hums f_told f_many f_ruleFrom f_ruleTo f_code f_eWhat f_eSign f_all f_kept f_was f_sTune f_boxAll J L) (TM ct) sz)) (va_Qi (fun (r0 : Int32) (u : Int32) => r0 = u) (fun (u : Int32) (t : State) => ∃ (n_i_acts n_i_undone : Int32) (n_f_all n_f_was : Nat → Int32), va_P (dC, dI) vwCl (WM r ct i_taped i_size i_faultKind i_at i_end i_token i_number i_bank i_rb i_codes i_within i_piled i_unitsInRule i_askHouse i_askTune n_i_acts n_i_undone i_laid i_knowns i_time f_text f_tunes f_houses f_hums f_told f_many f_ruleFrom f_ruleTo f_code f_eWhat f_eSign n_f_all f_kept n_f_was f_sTune f_boxAll J L) t.heap ∧ va_D (va_A (WM r ct i_taped i_size i_faultKind i_at i_end i_token i_number i_bank i_rb i_codes i_within i_piled i_unitsInRule i_askHouse i_askTune i_acts i_undone i_laid i_knowns i_time f_text f_tunes f_houses f_hums f_told f_many f_ruleFrom f_ruleTo f_code f_eWhat f_eSign f_all f_kept f_was f_sTune f_boxAll J L) sz) (WM r ct i_taped i_size i_faultKind i_at i_end i_token i_number i_bank i_rb i_codes i_within i_piled i_unitsInRule i_askHouse i_askTune n_i_acts n_i_undone i_laid i_knowns i_time f_text f_tunes f_houses f_hums f_told f_many f_ruleFrom f_ruleTo f_code f_eWhat f_eSign n_f_all f_kept n_f_was f_sTune f_boxAll J L) ∧ (IM i_taped i_size i_faultKind i_at i_end i_bank i_rb n_i_acts n_i_undone i_laid i_knowns i_time f_tunes f_houses f_hums f_told f_many f_ruleFrom f_ruleTo f_code n_f_all f_kept n_f_was f_sTune f_boxAll)) (va_A (WM r ct i_taped i_size i_faultKind i_at i_end i_token i_number i_bank i_rb i_codes i_within i_piled i_unitsInRule i_askHouse i_askTune i_acts i_undone i_laid i_knowns i_time f_text f_tunes f_houses f_hums f_told f_many f_ruleFrom f_ruleTo f_code f_eWhat f_eSign f_all f_kept f_was f_sTune f_boxAll J L) sz)) 0 0 (va_A (WM r ct i_taped i_size i_faultKind i_at i_end i_token i_number i_bank i_rb i_codes i_within i_piled i_unitsInRule i_askHouse i_askTune i_acts i_undone i_laid i_knowns i_time f_text f_tunes f_houses f_hums f_told f_many f_ruleFrom f_ruleTo f_code f_eWhat f_eSign f_all f_kept f_was f_sTune f_boxAll J L) sz) := by
  refine Met.ofW (cc := cX9_give) (maxL := 3) (ret := (some .int)) (by decide) rfl ?_
  intro p e s m args below meth c0 s₁ B hml hv
  obtain ⟨rfl, hsz, hP, hK, hD0⟩ := hv
  have hx := B.exec
  have hb := B.bytes
  have hr := B.returns
  have hts := atoms_spec (ws := .code yX9_give cX9_give 3 (some .int) :: GW) B.pre
  have hG : ∀ w ∈ GW, w.before _ s = true := fun w h => hts w (List.mem_cons_of_mem _ h)
  have hown : s.vm.findClass RX9 = some m.cls := findClass_of_methodNamed B.named
  subst hsz
  have hD := hD0.self (sz := s.heap.size)
  generalize hAe : va_A (WM r ct i_taped i_size i_faultKind i_at i_end i_token i_number i_bank i_rb i_codes i_within i_piled i_unitsInRule i_askHouse i_askTune i_acts i_undone i_laid i_knowns i_time f_text f_tunes f_houses f_hums f_told f_many f_ruleFrom f_ruleTo f_code f_eWhat f_eSign f_all f_kept f_was f_sTune f_boxAll J L) s.heap.size = A at hD ⊢
  have hA : ∀ q : Nat, s.heap.size ≤ q → A q := fun q h => by rw [← hAe]; exact Or.inr h
  have hS : va_S A s.heap s.heap [] := va_S.rf
  have hP : va_P (dC, dI) vwCl (WM r ct i_taped i_size i_faultKind i_at i_end i_token i_number i_bank i_rb i_codes i_within i_piled i_unitsInRule i_askHouse i_askTune i_acts i_undone i_laid i_knowns i_time f_text f_tunes f_houses f_hums f_told f_many f_ruleFrom f_ruleTo f_code f_eWhat f_eSign f_all f_kept f_was f_sTune f_boxAll J L) s.heap := hP
  have hl := lv_entry ([.ref (r 0), .int p0]) (n := 3) (Nat.le_of_ble_eq_true rfl)
  rw [lg_entry_eq]
  generalize (lg_sl ([.ref (r 0), .int p0]) ++ List.replicate (3 - (lg_sl ([.ref (r 0), .int p0])).length) Slot.unset).toArray = ls at hl ⊢
  have hl : lv_has ls 3 [(0, .ref (r 0)), (1, .int p0)] := hl
  refine nameQ (fun Q hQ => ?_)
  obtain ⟨ie0, ie1, ie2, ie3, ie4, ie5, ie6, ie7, ie8, ie9, ie10, ie11, ie12, ie13, ie14, ie15, ie16, ie17, ie18, ie19, ie20, ie21, ie22, ie23, ie24, ie25, ie26, ie27, ie28, ie29, ie30, ie31, ie32⟩ := id hI
  have f1 : 0 ≤ (f_tunes (i_bank.toInt).toNat).toInt ∧ (f_tunes (i_bank.toInt).toNat).toInt ≤ 5 := ie21 (i_bank.toInt)
  have f2 : 0 ≤ (f_houses (i_bank.toInt).toNat).toInt ∧ (f_houses (i_bank.toInt).toNat).toInt ≤ 4 := ie22 (i_bank.toInt)
  refine lv_aload_n hx hb dX9_give_0 rfl (lv_at hl 0 rfl) ?_
  refine lv_iload_n hx hb dX9_give_1 rfl (lv_at hl 1 rfl) ?_
  refine va_calli (va_runV (As := [.int p0]) (rest := []) ⟨hx, hb, hml, hown, hG⟩ (kX9_isTune l dC dI r ct i_taped i_size i_faultKind i_at i_end i_token i_number i_bank i_rb i_codes i_within i_piled i_unitsInRule i_askHouse i_askTune i_acts i_undone i_laid i_knowns i_time f_text f_tunes f_houses f_hums f_told f_many f_ruleFrom f_ruleTo f_code f_eWhat f_eSign f_all f_kept f_was f_sTune f_boxAll J L p0 s.heap.size hI) (cwV 1 hG (goodV gw1508 gw1510 gw85 gw138 gw1511) rfl rfl rfl hd_X9_isTune ⟨(Nat.le_of_ble_eq_true rfl), (Nat.le_of_ble_eq_true rfl)⟩) ⟨fbR, va_recv hK hP (ci := 8) (q0 := 0) rfl rfl, pR_in hP hK⟩ rfl rfl hl.1 rfl (lv_room (Nat.le_of_ble_eq_true rfl)) dX9_give_2 ⟨(Nat.le_of_ble_eq_true rfl), (Nat.le_of_ble_eq_true rfl)⟩) hS (fun q hq h => absurd hq (Nat.not_lt.mpr h)) (fun q h => hA q (Nat.le_trans hS.1 h)) (fun r_4 u_ t_ H3 locs ht hvm hw hB hz1 hk1 hS => ?_)
  subst hw
  have hP := wk hP hk1
  obtain ⟨f5, f6, f7, f8, f9⟩ := hB
  refine lv_if_eq (tgt := 19) hx hb dX9_give_5 (by decide) (fun c_10 => ?_) (fun c_10 => ?_)
  · skip
    have f11 : r_4.toInt = 0 := qi_eq c_10 rfl zc_0
    refine lv_iconst (v := (-1)) hx hb dX9_give_19 (by decide) ?_
    rw [hQ]
    exact W.iret (v := (-1)) hx hb hr (fun t ht hW => ⟨⟨(-1), (-1), rfl, rfl, ⟨i_acts, i_undone, f_all, f_was, by rw [ht]; exact hP, hD, hI⟩⟩, hS.F ht⟩) hS.2.2 dX9_give_20
  · skip
    have f12 : r_4.toInt ≠ 0 := qi_ne c_10 rfl zc_0
    have f13 : (0 : Int) ≤ p0.toInt := (ob_1090 f5 f12)
    have f14 : p0.toInt + 1 ≤ (f_tunes (i_bank.toInt).toNat).toInt := (ob_1091 f5 f12)
    have f15 : r_4.toInt = (1 : Int) := (ob_1092 f5 f12)
    have f16 : (1 : Int) ≤ r_4.toInt := (ob_395 f15)
    refine lv_aload_n hx hb dX9_give_8 rfl (lv_at hl 0 rfl) ?_
    refine gM_X9_88_0 hx hb hG hown hK hP dX9_give_9 ?_
    refine lv_iconst (v := 5) hx hb dX9_give_12 (by decide) ?_
    refine lv_iload_n hx hb dX9_give_13 rfl (lv_at hl 1 rfl) ?_
    refine lv_iadd hx hb dX9_give_14 ?_
    refine lv_topi (fun x17 ex17 => ?_)
    have f18 : x17.toInt = p0.toInt + 5 := (ob_1036 (qi_add ex17 zc_5 rfl (ob_1034 f13 f14) (ob_1097 f1 f14)))
    refine ldM_25 (mm := p0.toInt + 5) hx hb hK hP f18 (ob_1037 f13 f14) (ob_1098 f1 f14) dX9_give_15 ?_
    refine lv_if_ne (tgt := 21) hx hb dX9_give_16 (by decide) (fun c_19 => ?_) (fun c_19 => ?_)
    · skip
      have f20 : (f_all (p0.toInt + 5).toNat).toInt ≠ 0 := qi_ne c_19 rfl zc_0
      refine lv_aload_n hx hb dX9_give_21 rfl (lv_at hl 0 rfl) ?_
      have hFc := frA hD hS hA
      refine va_callv (va_runV (As := []) (rest := []) ⟨hx, hb, hml, hown, hG⟩ (kX9_keepAct l dC dI r ct i_taped i_size i_faultKind i_at i_end i_token i_number i_bank i_rb i_codes i_within i_piled i_unitsInRule i_askHouse i_askTune i_acts i_undone i_laid i_knowns i_time f_text f_tunes f_houses f_hums f_told f_many f_ruleFrom f_ruleTo f_code f_eWhat f_eSign f_all f_kept f_was f_sTune f_boxAll J L H3.size hI) (cwV 0 hG (goodV gw1684 gw1686 gw107 gw138 gw1687) rfl rfl rfl hd_X9_keepAct ⟨(Nat.le_of_ble_eq_true rfl), (Nat.le_of_ble_eq_true rfl)⟩) ⟨fbW, va_recv hK hP (ci := 8) (q0 := 0) rfl rfl, pW_in hP hK hD⟩ rfl rfl hl.1 rfl (lv_room (Nat.le_of_ble_eq_true rfl)) dX9_give_22 ⟨(Nat.le_of_ble_eq_true rfl), (Nat.le_of_ble_eq_true rfl)⟩) hS (fun q _ h => hFc q h) hFc (fun _ t_ H21 locs ht hvm hw hB hz1 hk1 hS => ?_)
      obtain ⟨x23, x24, z25, hP1, hD1, hI26⟩ := hB
      rw [ht] at hP1
      have hP := hP1
      have hD := dW hFc hD1
      obtain ⟨im27, im28, im29, im30, im31, im32, im33, im34, im35, im36, im37, im38, im39, im40, im41, im42, im43, im44, im45, im46, im47, im48, im49, im50, im51, im52, im53, im54, im55, im56, im57, im58, im59⟩ := id hI26
      refine lv_aload_n hx hb dX9_give_25 rfl (lv_at hl 0 rfl) ?_
      refine gM_X9_88_0 hx hb hG hown hK hP dX9_give_26 ?_
      refine lv_iconst (v := 0) hx hb dX9_give_29 (by decide) ?_
      refine lv_iload_n hx hb dX9_give_30 rfl (lv_at hl 1 rfl) ?_
      refine lv_iadd hx hb dX9_give_31 ?_
      refine lv_topi (fun x60 ex60 => ?_)
      have f61 : x60.toInt = p0.toInt := (ob_801 (qi_add ex60 zc_0 rfl (ob_1027 f13 f14) (ob_1095 f1 f14)))
      refine ldM_25 (mm := p0.toInt) hx hb hK hP f61 (ob_1029 f13 f14) (ob_1096 f1 f14) dX9_give_32 ?_
      refine lv_istore_n (lv' := [(2, .int (f_all (p0.toInt).toNat)), (0, .ref (r 0)), (1, .int p0)]) hx hb dX9_give_33 rfl hl (by decide) rfl (fun ls hl => ?_)
      refine lv_aload_n hx hb dX9_give_34 rfl (lv_at hl 1 rfl) ?_
      refine lv_iload_n hx hb dX9_give_35 rfl (lv_at hl 2 rfl) ?_
      have hFc := frA hD hS hA
      refine va_callv (va_runV (As := [.int p0]) (rest := []) ⟨hx, hb, hml, hown, hG⟩ (kX9_toCart l dC dI r ct i_taped i_size i_faultKind i_at i_end i_token i_number i_bank i_rb i_codes i_within i_piled i_unitsInRule i_askHouse i_askTune x23 x24 i_laid i_knowns i_time f_text f_tunes f_houses f_hums f_told f_many f_ruleFrom f_ruleTo f_code f_eWhat f_eSign f_all f_kept z25 f_sTune f_boxAll J L p0 H21.size hI26 (ob_880 f13 f14) (ob_881 f1 f13 f14)) (cwV 1 hG (goodV gw1696 gw1698 gw110 gw138 gw1699) rfl rfl rfl hd_X9_toCart ⟨(Nat.le_of_ble_eq_true rfl), (Nat.le_of_ble_eq_true rfl)⟩) ⟨fbW, va_recv hK hP (ci := 8) (q0 := 0) rfl rfl, pW_in hP hK hD⟩ rfl rfl hl.1 rfl (lv_room (Nat.le_of_ble_eq_true rfl)) dX9_give_36 ⟨(Nat.le_of_ble_eq_true rfl), (Nat.le_of_ble_eq_true rfl)⟩) hS (fun q _ h => hFc q h) hFc (fun _ t_ H62 locs ht hvm hw hB hz1 hk1 hS => ?_)
      obtain ⟨z64, hP1, hD1, hI65⟩ := hB
      rw [ht] at hP1
      have hP := hP1
      have hD := dW hFc hD1
      obtain ⟨im66, im67, im68, im69, im70, im71, im72, im73, im74, im75, im76, im77, im78, im79, im80, im81, im82, im83, im84, im85, im86, im87, im88, im89, im90, im91, im92, im93, im94, im95, im96, im97, im98⟩ := id hI65
      refine lv_iload_n hx hb dX9_give_39 rfl (lv_at hl 0 rfl) ?_
      rw [hQ]
      exact W.iret (v := (f_all (p0.toInt).toNat)) hx hb hr (fun t ht hW => ⟨⟨(f_all (p0.toInt).toNat), (f_all (p0.toInt).toNat), rfl, rfl, ⟨x23, x24, z64, z25, by rw [ht]; exact hP, hD, hI65⟩⟩, hS.F ht⟩) hS.2.2 dX9_give_40
    · skip
      have f99 : (f_all (p0.toInt + 5).toNat).toInt = 0 := qi_eq c_19 rfl zc_0
      refine lv_iconst (v := (-1)) hx hb dX9_give_19 (by decide) ?_
      rw [hQ]
      exact W.iret (v := (-1)) hx hb hr (fun t ht hW => ⟨⟨(-1), (-1), rfl, rfl, ⟨i_acts, i_undone, f_all, f_was, by rw [ht]; exact hP, hD, hI⟩⟩, hS.F ht⟩) hS.2.2 dX9_give_20
