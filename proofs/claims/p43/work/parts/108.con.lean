set_option maxHeartbeats 4000000 in
set_option maxRecDepth 100000 in
theorem kX9_sale (l : Launch) (dC : Nat → ClassId) (dI : Nat → Nat → Nat) (r : Nat → Nat) (ct : Nat → ClassId) (i_taped i_size i_faultKind i_at i_end i_token i_number i_bank i_rb i_codes i_within i_piled i_unitsInRule i_askHouse i_askTune i_acts i_undone i_laid i_knowns i_time : Int32) (f_text f_tunes f_houses f_hums f_told f_many f_ruleFrom f_ruleTo f_code f_eWhat f_eSign f_all f_kept f_was f_sTune f_boxAll : Nat → Int32) (J : Nat → Nat → Int32) (L : Nat → Nat → Int64) (p0 p1 : Int32) (sz : Nat) (hI : (IM i_taped i_size i_at i_end i_bank i_rb i_acts i_undone i_laid i_knowns i_time f_tunes f_houses f_hums f_told f_many f_ruleFrom f_ruleTo f_code f_all f_kept f_was f_sTune f_boxAll)) : Met l yX9_sale (.code yX9_sale cX9_sale 9 (some .int) :: GW) { frames := 22, cells := 0, slots := 0, locals := 729 } (va_Pc [.ref (r 0), .int p0, .int p1] (pW (dC, dI) (WM r ct i_taped i_size i_faultKind i_at i_end i_token i_number i_bank i_rb i_codes i_within i_piled i_unitsInRule i_askHouse i_askTune i_acts i_undone i_laid i_knowns i_time f_text f_tunes f_houses f_hums f_told f_many f_ruleFrom f_ruleTo f_code f_eWhat f_eSign f_all f_kept f_was f_sTune f_boxAll J L) (TM ct) sz)) (va_Qi (fun (r0 : Int32) (u : Int32) => r0 = u) (fun (u : Int32) (t : State) => ∃ (n_i_askHouse n_i_askTune : Int32) (n_J : Nat → Nat → Int32), va_P (dC, dI) vwCl (WM r ct i_taped i_size i_faultKind i_at i_end i_token i_number i_bank i_rb i_codes i_within i_piled i_unitsInRule n_i_askHouse n_i_askTune i_acts i_undone i_laid i_knowns i_time f_text f_tunes f_houses f_hums f_told f_many f_ruleFrom f_ruleTo f_code f_eWhat f_eSign f_all f_kept f_was f_sTune f_boxAll n_J L) t.heap ∧ va_D (va_A (WM r ct i_taped i_size i_faultKind i_at i_end i_token i_number i_bank i_rb i_codes i_within i_piled i_unitsInRule i_askHouse i_askTune i_acts i_undone i_laid i_knowns i_time f_text f_tunes f_houses f_hums f_told f_many f_ruleFrom f_ruleTo f_code f_eWhat f_eSign f_all f_kept f_was f_sTune f_boxAll J L) sz) (WM r ct i_taped i_size i_faultKind i_at i_end i_token i_number i_bank i_rb i_codes i_within i_piled i_unitsInRule n_i_askHouse n_i_askTune i_acts i_undone i_laid i_knowns i_time f_text f_tunes f_houses f_hums f_told f_many f_ruleFrom f_ruleTo f_code f_eWhat f_eSign f_all f_kept f_was f_sTune f_boxAll n_J L) ∧ (IM i_taped i_size i_at i_end i_bank i_rb i_acts i_undone i_laid i_knowns i_time f_tunes f_houses f_hums f_told f_many f_ruleFrom f_ruleTo f_code f_all f_kept f_was f_sTune f_boxAll)) (va_A (WM r ct i_taped i_size i_faultKind i_at i_end i_token i_number i_bank i_rb i_codes i_within i_piled i_unitsInRule i_askHouse i_askTune i_acts i_undone i_laid i_knowns i_time f_text f_tunes f_houses f_hums f_told f_many f_ruleFrom f_ruleTo f_code f_eWhat f_eSign f_all f_kept f_was f_sTune f_boxAll J L) sz)) 0 0 (va_A (WM r ct i_taped i_size i_faultKind i_at i_end i_token i_number i_bank i_rb i_codes i_within i_piled i_unitsInRule i_askHouse i_askTune i_acts i_undone i_laid i_knowns i_time f_text f_tunes f_houses f_hums f_told f_many f_ruleFrom f_ruleTo f_code f_eWhat f_eSign f_all f_kept f_was f_sTune f_boxAll J L) sz) := by
  refine Met.ofW (cc := cX9_sale) (maxL := 9) (ret := (some .int)) (by decide) rfl ?_
  intro p e s m args below meth c0 s₁ B hml hv
  obtain ⟨rfl, hsz, hP, hK, hD0⟩ := hv
  have hx := B.exec
  have hb := B.bytes
  have hr := B.returns
  have hts := atoms_spec (ws := .code yX9_sale cX9_sale 9 (some .int) :: GW) B.pre
  have hG : ∀ w ∈ GW, w.before _ s = true := fun w h => hts w (List.mem_cons_of_mem _ h)
  have hown : s.vm.findClass RX9 = some m.cls := findClass_of_methodNamed B.named
  subst hsz
  have hD := hD0.self (sz := s.heap.size)
  generalize hAe : va_A (WM r ct i_taped i_size i_faultKind i_at i_end i_token i_number i_bank i_rb i_codes i_within i_piled i_unitsInRule i_askHouse i_askTune i_acts i_undone i_laid i_knowns i_time f_text f_tunes f_houses f_hums f_told f_many f_ruleFrom f_ruleTo f_code f_eWhat f_eSign f_all f_kept f_was f_sTune f_boxAll J L) s.heap.size = A at hD ⊢
  have hA : ∀ q : Nat, s.heap.size ≤ q → A q := fun q h => by rw [← hAe]; exact Or.inr h
  have hS : va_S A s.heap s.heap [] := va_S.rf
  have hP : va_P (dC, dI) vwCl (WM r ct i_taped i_size i_faultKind i_at i_end i_token i_number i_bank i_rb i_codes i_within i_piled i_unitsInRule i_askHouse i_askTune i_acts i_undone i_laid i_knowns i_time f_text f_tunes f_houses f_hums f_told f_many f_ruleFrom f_ruleTo f_code f_eWhat f_eSign f_all f_kept f_was f_sTune f_boxAll J L) s.heap := hP
  have hl := lv_entry ([.ref (r 0), .int p0, .int p1]) (n := 9) (Nat.le_of_ble_eq_true rfl)
  rw [lg_entry_eq]
  generalize (lg_sl ([.ref (r 0), .int p0, .int p1]) ++ List.replicate (9 - (lg_sl ([.ref (r 0), .int p0, .int p1])).length) Slot.unset).toArray = ls at hl ⊢
  have hl : lv_has ls 9 [(0, .ref (r 0)), (1, .int p0), (2, .int p1)] := hl
  refine nameQ (fun Q hQ => ?_)
  obtain ⟨im0, im1, im2, im3, im4, im5, im6, im7, im8, im9, im10, im11, im12, im13, im14, im15, im16, im17, im18, im19, im20, im21, im22, im23, im24, im25, im26, im27, im28, im29, im30⟩ := id hI
  have f1 : 0 ≤ (f_tunes (i_bank.toInt).toNat).toInt ∧ (f_tunes (i_bank.toInt).toNat).toInt ≤ 5 := im20 (i_bank.toInt)
  have f2 : 0 ≤ (f_houses (i_bank.toInt).toNat).toInt ∧ (f_houses (i_bank.toInt).toNat).toInt ≤ 4 := im21 (i_bank.toInt)
  refine lv_aload_n hx hb dX9_sale_0 rfl (lv_at hl 0 rfl) ?_
  refine lv_iload_n hx hb dX9_sale_1 rfl (lv_at hl 1 rfl) ?_
  refine va_calli (va_runV (As := [.int p0]) (rest := []) ⟨hx, hb, hml, hown, hG⟩ (kX9_isHouse l dC dI r ct i_taped i_size i_faultKind i_at i_end i_token i_number i_bank i_rb i_codes i_within i_piled i_unitsInRule i_askHouse i_askTune i_acts i_undone i_laid i_knowns i_time f_text f_tunes f_houses f_hums f_told f_many f_ruleFrom f_ruleTo f_code f_eWhat f_eSign f_all f_kept f_was f_sTune f_boxAll J L p0 s.heap.size hI) (cwV 1 hG (goodV gw1542 gw1544 gw90 gw138 gw1545) rfl rfl rfl hd_X9_isHouse ⟨(Nat.le_of_ble_eq_true rfl), (Nat.le_of_ble_eq_true rfl)⟩) ⟨fbR, va_recv hK hP (ci := 8) (q0 := 0) rfl rfl, pR_in hP hK⟩ rfl rfl hl.1 rfl (lv_room (Nat.le_of_ble_eq_true rfl)) dX9_sale_2 ⟨(Nat.le_of_ble_eq_true rfl), (Nat.le_of_ble_eq_true rfl)⟩) hS (fun q hq h => absurd hq (Nat.not_lt.mpr h)) (fun q h => hA q (Nat.le_trans hS.1 h)) (fun r_4 u_ t_ H3 locs ht hvm hw hB hz1 hk1 hS => ?_)
  subst hw
  have hP := wk hP hk1
  obtain ⟨f5, f6, f7, f8, f9⟩ := hB
  refine lv_if_eq (tgt := 17) hx hb dX9_sale_5 (by decide) (fun c_10 => ?_) (fun c_10 => ?_)
  · skip
    have f11 : r_4.toInt = 0 := qi_eq c_10 rfl zc_0
    refine lv_iconst (v := (-1)) hx hb dX9_sale_17 (by decide) ?_
    rw [hQ]
    exact W.iret (v := (-1)) hx hb hr (fun t ht hW => ⟨⟨(-1), (-1), rfl, rfl, ⟨i_askHouse, i_askTune, J, by rw [ht]; exact hP, hD, hI⟩⟩, hS.F ht⟩) hS.2.2 dX9_sale_18
  · skip
    have f12 : r_4.toInt ≠ 0 := qi_ne c_10 rfl zc_0
    have f13 : 1 ≤ r_4.toInt := (ob_399 f5 f12)
    have f14 : 0 ≤ p0.toInt := (ob_400 f5 f12)
    have f15 : p0.toInt + 1 ≤ (f_houses (i_bank.toInt).toNat).toInt := (ob_401 f5 f12)
    have f16 : r_4.toInt = 1 := (ob_402 f7 f13)
    refine lv_iload_n hx hb dX9_sale_8 rfl (lv_at hl 2 rfl) ?_
    refine lv_iconst (v := 0) hx hb dX9_sale_9 (by decide) ?_
    refine lv_iconst (v := 1) hx hb dX9_sale_10 (by decide) ?_
    refine va_calli (va_runS (As := [.int p1, .int 0, .int 1]) (rest := []) ⟨hx, hb, hml, hown, hG⟩ (kX9_isIn l dC dI p1 0 1 H3.size) (va_cwS 3 hG (goodS gw1516 gw1517 gw138 gw1518) rfl rfl rfl hd_X9_isIn ⟨(Nat.le_of_ble_eq_true rfl), (Nat.le_of_ble_eq_true rfl)⟩) ⟨fbR, pR_in emptyP (emptyK hK)⟩ rfl rfl hl.1 rfl (lv_room (Nat.le_of_ble_eq_true rfl)) dX9_sale_11 ⟨(Nat.le_of_ble_eq_true rfl), (Nat.le_of_ble_eq_true rfl)⟩) hS (fun q hq h => absurd hq (Nat.not_lt.mpr h)) (fun q h => hA q (Nat.le_trans hS.1 h)) (fun r_18 u_ t_ H17 locs ht hvm hw hB hz1 hk1 hS => ?_)
    subst hw
    have hP := wk hP hk1
    obtain ⟨f19, f20, f21⟩ := hB
    refine lv_if_ne (tgt := 19) hx hb dX9_sale_14 (by decide) (fun c_22 => ?_) (fun c_22 => ?_)
    · skip
      have f23 : r_18.toInt ≠ 0 := qi_ne c_22 rfl zc_0
      have f24 : 1 ≤ r_18.toInt := (ob_439 f19 f23 zc_1 zc_0)
      have f25 : 0 ≤ p1.toInt := (ob_440 f19 f23 zc_1 zc_0)
      have f26 : p1.toInt ≤ 1 := (ob_441 f19 f23 zc_1 zc_0)
      have f27 : r_18.toInt = 1 := (ob_167 f20 f21 f24)
      refine lv_iconst (v := 0) hx hb dX9_sale_19 (by decide) ?_
      refine lv_istore_n (lv' := [(3, .int 0), (0, .ref (r 0)), (1, .int p0), (2, .int p1)]) hx hb dX9_sale_20 rfl hl (by decide) rfl (fun ls hl => ?_)
      refine lv_iconst (v := 0) hx hb dX9_sale_21 (by decide) ?_
      refine lv_istore (lv' := [(4, .int 0), (3, .int 0), (0, .ref (r 0)), (1, .int p0), (2, .int p1)]) hx hb dX9_sale_22 hl (by decide) rfl (fun ls hl => ?_)
      refine lv_iconst (v := 1) hx hb dX9_sale_24 (by decide) ?_
      refine lv_istore (lv' := [(5, .int 1), (4, .int 0), (3, .int 0), (0, .ref (r 0)), (1, .int p0), (2, .int p1)]) hx hb dX9_sale_25 hl (by decide) rfl (fun ls hl => ?_)
      have L27 : ∀ (N27 : Nat) (y27_3 y27_4 y27_5 : Int32) (m27_i_askHouse m27_i_askTune : Int32) (m27_J : Nat → Nat → Int32) (H27 : Heap) (locs : List Loc) (ls : Array Slot) (g27_0 : 0 ≤ y27_3.toInt) (g27_1 : 0 ≤ y27_4.toInt) (g27_2 : 1 ≤ y27_5.toInt) (g27_3 : y27_5.toInt ≤ 2147483647) (hP : va_P (dC, dI) vwCl (WM r ct i_taped i_size i_faultKind i_at i_end i_token i_number i_bank i_rb i_codes i_within i_piled i_unitsInRule m27_i_askHouse m27_i_askTune i_acts i_undone i_laid i_knowns i_time f_text f_tunes f_houses f_hums f_told f_many f_ruleFrom f_ruleTo f_code f_eWhat f_eSign f_all f_kept f_was f_sTune f_boxAll m27_J L) H27) (hD : va_D A (WM r ct i_taped i_size i_faultKind i_at i_end i_token i_number i_bank i_rb i_codes i_within i_piled i_unitsInRule m27_i_askHouse m27_i_askTune i_acts i_undone i_laid i_knowns i_time f_text f_tunes f_houses f_hums f_told f_many f_ruleFrom f_ruleTo f_code f_eWhat f_eSign f_all f_kept f_was f_sTune f_boxAll m27_J L)) (hS : va_S A s.heap H27 locs) (hl : lv_has ls 9 [(0, .ref (r 0)), (1, .int p0), (2, .int p1), (3, .int y27_3), (4, .int y27_4), (5, .int y27_5)]) (hM : -1 * y27_5.toInt + 2147483647 < (N27 : Int)), W p l e { frames := 22, cells := 0, slots := 0, locals := 729 } s m ([.ref (r 0), .int p0, .int p1] : List Value).toArray below meth c0 H27 locs 0 0 Q (F0 m 27 ls []) := by
        intro N27
        induction N27 with
        | zero =>
          intro y27_3 y27_4 y27_5 m27_i_askHouse m27_i_askTune m27_J H27 locs ls g27_0 g27_1 g27_2 g27_3 hP hD hS hl hM
          exact ((ob_684 hM g27_2 g27_3)).elim
        | succ N27 ih27 =>
          intro y27_3 y27_4 y27_5 m27_i_askHouse m27_i_askTune m27_J H27 locs ls g27_0 g27_1 g27_2 g27_3 hP hD hS hl hM
          have hM27 := msucc hM
          refine lv_iload hx hb dX9_sale_27 (lv_at hl 5 rfl) ?_
          refine lv_iconst (v := 1) hx hb dX9_sale_29 (by decide) ?_
          refine lv_aload_n hx hb dX9_sale_30 rfl (lv_at hl 0 rfl) ?_
          refine va_calli (va_runV (As := []) (rest := [.int 1, .int y27_5]) ⟨hx, hb, hml, hown, hG⟩ (kX9_songs l dC dI r ct i_taped i_size i_faultKind i_at i_end i_token i_number i_bank i_rb i_codes i_within i_piled i_unitsInRule m27_i_askHouse m27_i_askTune i_acts i_undone i_laid i_knowns i_time f_text f_tunes f_houses f_hums f_told f_many f_ruleFrom f_ruleTo f_code f_eWhat f_eSign f_all f_kept f_was f_sTune f_boxAll m27_J L H27.size hI) (cwV 0 hG (goodV gw1512 gw1514 gw86 gw138 gw1515) rfl rfl rfl hd_X9_songs ⟨(Nat.le_of_ble_eq_true rfl), (Nat.le_of_ble_eq_true rfl)⟩) ⟨fbR, va_recv hK hP (ci := 8) (q0 := 0) rfl rfl, pR_in hP hK⟩ rfl rfl hl.1 rfl (lv_room (Nat.le_of_ble_eq_true rfl)) dX9_sale_31 ⟨(Nat.le_of_ble_eq_true rfl), (Nat.le_of_ble_eq_true rfl)⟩) hS (fun q hq h => absurd hq (Nat.not_lt.mpr h)) (fun q h => hA q (Nat.le_trans hS.1 h)) (fun r_29 u_ t_ H28 locs ht hvm hw hB hz1 hk1 hS => ?_)
          subst hw
          have hP := wk hP hk1
          have f30 := hB
          have f31 : r_29.toInt = (f_tunes (i_bank.toInt).toNat).toInt := (ob_278 f30)
          refine lv_ishl hx hb dX9_sale_34 ?_
          refine lv_topi (fun x32 ex32 => ?_)
          refine lv_icmp_ge (tgt := 178) hx hb dX9_sale_35 (by decide) (fun c_33 => ?_) (fun c_33 => ?_)
          · skip
            have f34 : x32.toInt ≤ y27_5.toInt := qi_le c_33 rfl rfl
            refine lv_iload_n hx hb dX9_sale_178 rfl (lv_at hl 2 rfl) ?_
            refine lv_if_ne (tgt := 187) hx hb dX9_sale_179 (by decide) (fun c_35 => ?_) (fun c_35 => ?_)
            · skip
              have f36 : p1.toInt ≠ 0 := qi_ne c_35 rfl zc_0
              have f37 : 1 ≤ p1.toInt := (ob_444 f25 f36)
              refine lv_iload_n hx hb dX9_sale_187 rfl (lv_at hl 3 rfl) ?_
              rw [hQ]
              exact W.iret (v := y27_3) hx hb hr (fun t ht hW => ⟨⟨y27_3, y27_3, rfl, rfl, ⟨m27_i_askHouse, m27_i_askTune, m27_J, by rw [ht]; exact hP, hD, hI⟩⟩, hS.F ht⟩) hS.2.2 dX9_sale_188
            · skip
              have f38 : p1.toInt = 0 := qi_eq c_35 rfl zc_0
              refine lv_iload hx hb dX9_sale_182 (lv_at hl 4 rfl) ?_
              refine lv_goto (tgt := 188) hx hb dX9_sale_184 (by decide) ?_
              rw [hQ]
              exact W.iret (v := y27_4) hx hb hr (fun t ht hW => ⟨⟨y27_4, y27_4, rfl, rfl, ⟨m27_i_askHouse, m27_i_askTune, m27_J, by rw [ht]; exact hP, hD, hI⟩⟩, hS.F ht⟩) hS.2.2 dX9_sale_188
          · skip
            have f39 : y27_5.toInt < x32.toInt := qi_nle c_33 rfl rfl
            refine lv_iconst (v := 0) hx hb dX9_sale_38 (by decide) ?_
            refine lv_istore (lv' := [(6, .int 0), (0, .ref (r 0)), (1, .int p0), (2, .int p1), (3, .int y27_3), (4, .int y27_4), (5, .int y27_5)]) hx hb dX9_sale_39 hl (by decide) rfl (fun ls hl => ?_)
            refine lv_iconst (v := 1) hx hb dX9_sale_41 (by decide) ?_
            refine lv_istore (lv' := [(7, .int 1), (6, .int 0), (0, .ref (r 0)), (1, .int p0), (2, .int p1), (3, .int y27_3), (4, .int y27_4), (5, .int y27_5)]) hx hb dX9_sale_42 hl (by decide) rfl (fun ls hl => ?_)
            refine lv_iconst (v := 0) hx hb dX9_sale_44 (by decide) ?_
            refine lv_istore (lv' := [(8, .int 0), (7, .int 1), (6, .int 0), (0, .ref (r 0)), (1, .int p0), (2, .int p1), (3, .int y27_3), (4, .int y27_4), (5, .int y27_5)]) hx hb dX9_sale_45 hl (by decide) rfl (fun ls hl => ?_)
            have L47 : ∀ (N47 : Nat) (y47_6 y47_7 y47_8 : Int32) (m47_i_askHouse m47_i_askTune : Int32) (m47_J : Nat → Nat → Int32) (H47 : Heap) (locs : List Loc) (ls : Array Slot) (g47_0 : 0 ≤ y47_7.toInt + 1048576) (g47_1 : y47_7.toInt ≤ 1) (g47_2 : 0 ≤ y47_8.toInt) (g47_3 : y47_8.toInt ≤ 5) (hP : va_P (dC, dI) vwCl (WM r ct i_taped i_size i_faultKind i_at i_end i_token i_number i_bank i_rb i_codes i_within i_piled i_unitsInRule m47_i_askHouse m47_i_askTune i_acts i_undone i_laid i_knowns i_time f_text f_tunes f_houses f_hums f_told f_many f_ruleFrom f_ruleTo f_code f_eWhat f_eSign f_all f_kept f_was f_sTune f_boxAll m47_J L) H47) (hD : va_D A (WM r ct i_taped i_size i_faultKind i_at i_end i_token i_number i_bank i_rb i_codes i_within i_piled i_unitsInRule m47_i_askHouse m47_i_askTune i_acts i_undone i_laid i_knowns i_time f_text f_tunes f_houses f_hums f_told f_many f_ruleFrom f_ruleTo f_code f_eWhat f_eSign f_all f_kept f_was f_sTune f_boxAll m47_J L)) (hS : va_S A s.heap H47 locs) (hl : lv_has ls 9 [(0, .ref (r 0)), (1, .int p0), (2, .int p1), (3, .int y27_3), (4, .int y27_4), (5, .int y27_5), (6, .int y47_6), (7, .int y47_7), (8, .int y47_8)]) (hM : -1 * y47_8.toInt + 5 < (N47 : Int)), W p l e { frames := 22, cells := 0, slots := 0, locals := 729 } s m ([.ref (r 0), .int p0, .int p1] : List Value).toArray below meth c0 H47 locs 0 0 Q (F0 m 47 ls []) := by
              intro N47
              induction N47 with
              | zero =>
                intro y47_6 y47_7 y47_8 m47_i_askHouse m47_i_askTune m47_J H47 locs ls g47_0 g47_1 g47_2 g47_3 hP hD hS hl hM
                exact ((ob_292 hM g47_2 g47_3)).elim
              | succ N47 ih47 =>
                intro y47_6 y47_7 y47_8 m47_i_askHouse m47_i_askTune m47_J H47 locs ls g47_0 g47_1 g47_2 g47_3 hP hD hS hl hM
                have hM47 := msucc hM
                refine lv_iload hx hb dX9_sale_47 (lv_at hl 8 rfl) ?_
                refine lv_aload_n hx hb dX9_sale_49 rfl (lv_at hl 0 rfl) ?_
                refine va_calli (va_runV (As := []) (rest := [.int y47_8]) ⟨hx, hb, hml, hown, hG⟩ (kX9_songs l dC dI r ct i_taped i_size i_faultKind i_at i_end i_token i_number i_bank i_rb i_codes i_within i_piled i_unitsInRule m47_i_askHouse m47_i_askTune i_acts i_undone i_laid i_knowns i_time f_text f_tunes f_houses f_hums f_told f_many f_ruleFrom f_ruleTo f_code f_eWhat f_eSign f_all f_kept f_was f_sTune f_boxAll m47_J L H47.size hI) (cwV 0 hG (goodV gw1512 gw1514 gw86 gw138 gw1515) rfl rfl rfl hd_X9_songs ⟨(Nat.le_of_ble_eq_true rfl), (Nat.le_of_ble_eq_true rfl)⟩) ⟨fbR, va_recv hK hP (ci := 8) (q0 := 0) rfl rfl, pR_in hP hK⟩ rfl rfl hl.1 rfl (lv_room (Nat.le_of_ble_eq_true rfl)) dX9_sale_50 ⟨(Nat.le_of_ble_eq_true rfl), (Nat.le_of_ble_eq_true rfl)⟩) hS (fun q hq h => absurd hq (Nat.not_lt.mpr h)) (fun q h => hA q (Nat.le_trans hS.1 h)) (fun r_41 u_ t_ H40 locs ht hvm hw hB hz1 hk1 hS => ?_)
                subst hw
                have hP := wk hP hk1
                have f42 := hB
                have f43 : r_41.toInt = (f_tunes (i_bank.toInt).toNat).toInt := (ob_278 f42)
                refine lv_icmp_ge (tgt := 117) hx hb dX9_sale_53 (by decide) (fun c_44 => ?_) (fun c_44 => ?_)
                · skip
                  have f45 : r_41.toInt ≤ y47_8.toInt := qi_le c_44 rfl rfl
                  refine lv_iload hx hb dX9_sale_117 (lv_at hl 7 rfl) ?_
                  refine lv_if_eq (tgt := 172) hx hb dX9_sale_119 (by decide) (fun c_46 => ?_) (fun c_46 => ?_)
                  · skip
                    have f47 : y47_7.toInt = 0 := qi_eq c_46 rfl zc_0
                    obtain ⟨x48, ex48⟩ : ∃ y : Int32, y = y27_5 + Int32.ofInt 1 := ⟨_, rfl⟩
                    have f49 : (-2147483648) ≤ y27_5.toInt ∧ y27_5.toInt ≤ 2147483647 := i32_rg _
                    have f50 : (-2147483648) ≤ x32.toInt ∧ x32.toInt ≤ 2147483647 := i32_rg _
                    have f51 : x48.toInt = y27_5.toInt + 1 := (ob_139 (qi_add ex48 rfl (by decide) (ob_446 g27_2) (ob_685 f39 f50)))
                    refine lv_iinc (v := x48) (lv' := [(5, .int x48), (0, .ref (r 0)), (1, .int p0), (2, .int p1), (3, .int y27_3), (4, .int y27_4), (6, .int y47_6), (7, .int y47_7), (8, .int y47_8)]) hx hb dX9_sale_172 hl (k := 5) rfl ex48.symm (by decide) rfl (fun ls hl => ?_)
                    refine lv_goto (tgt := 27) hx hb dX9_sale_175 (by decide) ?_
                    exact ih27 y27_3 y27_4 x48 m47_i_askHouse m47_i_askTune m47_J H40 _ _ (ob_133 g27_0) (ob_133 g27_1) (ob_448 g27_2 f51) (ob_686 f39 f50 f51) hP hD hS (lv_sub hl [1, 2, 3, 4, 5, 0] rfl) (ob_687 hM27 f51)
                  · skip
                    have f52 : y47_7.toInt ≠ 0 := qi_ne c_46 rfl zc_0
                    refine lv_iload hx hb dX9_sale_122 (lv_at hl 6 rfl) ?_
                    refine lv_aload_n hx hb dX9_sale_124 rfl (lv_at hl 0 rfl) ?_
                    refine gM_X9_88_0 hx hb hG hown hK hP dX9_sale_125 ?_
                    refine lv_bipush (v := 20) hx hb dX9_sale_128 (by decide) ?_
                    refine lv_iload_n hx hb dX9_sale_130 rfl (lv_at hl 1 rfl) ?_
                    refine lv_iadd hx hb dX9_sale_131 ?_
                    refine lv_topi (fun x53 ex53 => ?_)
                    have f54 : x53.toInt = p0.toInt + 20 := (ob_176 (qi_add ex53 zc_20 rfl (ob_174 f14 f15) (ob_415 f2 f15)))
                    refine ldM_25 (mm := p0.toInt + 20) hx hb hK hP f54 (ob_177 f14 f15) (ob_416 f2 f15) dX9_sale_132 ?_
                    refine lv_icmp_gt (tgt := 172) hx hb dX9_sale_133 (by decide) (fun c_55 => ?_) (fun c_55 => ?_)
                    · skip
                      have f56 : (f_all (p0.toInt + 20).toNat).toInt < y47_6.toInt := qi_lt c_55 rfl rfl
                      obtain ⟨x57, ex57⟩ : ∃ y : Int32, y = y27_5 + Int32.ofInt 1 := ⟨_, rfl⟩
                      have f58 : (-2147483648) ≤ y27_5.toInt ∧ y27_5.toInt ≤ 2147483647 := i32_rg _
                      have f59 : (-2147483648) ≤ x32.toInt ∧ x32.toInt ≤ 2147483647 := i32_rg _
                      have f60 : x57.toInt = y27_5.toInt + 1 := (ob_139 (qi_add ex57 rfl (by decide) (ob_446 g27_2) (ob_685 f39 f59)))
                      refine lv_iinc (v := x57) (lv' := [(5, .int x57), (0, .ref (r 0)), (1, .int p0), (2, .int p1), (3, .int y27_3), (4, .int y27_4), (6, .int y47_6), (7, .int y47_7), (8, .int y47_8)]) hx hb dX9_sale_172 hl (k := 5) rfl ex57.symm (by decide) rfl (fun ls hl => ?_)
                      refine lv_goto (tgt := 27) hx hb dX9_sale_175 (by decide) ?_
                      exact ih27 y27_3 y27_4 x57 m47_i_askHouse m47_i_askTune m47_J H40 _ _ (ob_133 g27_0) (ob_133 g27_1) (ob_448 g27_2 f60) (ob_686 f39 f59 f60) hP hD hS (lv_sub hl [1, 2, 3, 4, 5, 0] rfl) (ob_687 hM27 f60)
                    · skip
                      have f61 : y47_6.toInt ≤ (f_all (p0.toInt + 20).toNat).toInt := qi_nlt c_55 rfl rfl
                      refine lv_iload hx hb dX9_sale_136 (lv_at hl 6 rfl) ?_
                      refine lv_iload hx hb dX9_sale_138 (lv_at hl 4 rfl) ?_
                      refine lv_icmp_lt (tgt := 172) hx hb dX9_sale_140 (by decide) (fun c_62 => ?_) (fun c_62 => ?_)
                      · skip
                        have f63 : y47_6.toInt < y27_4.toInt := qi_lt c_62 rfl rfl
                        obtain ⟨x64, ex64⟩ : ∃ y : Int32, y = y27_5 + Int32.ofInt 1 := ⟨_, rfl⟩
                        have f65 : (-2147483648) ≤ y27_5.toInt ∧ y27_5.toInt ≤ 2147483647 := i32_rg _
                        have f66 : (-2147483648) ≤ x32.toInt ∧ x32.toInt ≤ 2147483647 := i32_rg _
                        have f67 : x64.toInt = y27_5.toInt + 1 := (ob_139 (qi_add ex64 rfl (by decide) (ob_446 g27_2) (ob_685 f39 f66)))
                        refine lv_iinc (v := x64) (lv' := [(5, .int x64), (0, .ref (r 0)), (1, .int p0), (2, .int p1), (3, .int y27_3), (4, .int y27_4), (6, .int y47_6), (7, .int y47_7), (8, .int y47_8)]) hx hb dX9_sale_172 hl (k := 5) rfl ex64.symm (by decide) rfl (fun ls hl => ?_)
                        refine lv_goto (tgt := 27) hx hb dX9_sale_175 (by decide) ?_
                        exact ih27 y27_3 y27_4 x64 m47_i_askHouse m47_i_askTune m47_J H40 _ _ (ob_133 g27_0) (ob_688 g27_1 f63) (ob_448 g27_2 f67) (ob_686 f39 f66 f67) hP hD hS (lv_sub hl [1, 2, 3, 4, 5, 0] rfl) (ob_687 hM27 f67)
                      · skip
                        have f68 : y27_4.toInt ≤ y47_6.toInt := qi_nlt c_62 rfl rfl
                        refine lv_iload hx hb dX9_sale_143 (lv_at hl 6 rfl) ?_
                        refine lv_iload hx hb dX9_sale_145 (lv_at hl 4 rfl) ?_
                        refine lv_icmp_ne (tgt := 165) hx hb dX9_sale_147 (by decide) (fun c_69 => ?_) (fun c_69 => ?_)
                        · skip
                          have f70 : y47_6.toInt ≠ y27_4.toInt := qi_ne c_69 rfl rfl
                          have f71 : y27_4.toInt + 1 ≤ y47_6.toInt := (ob_689 f68 f70)
                          refine lv_iload hx hb dX9_sale_165 (lv_at hl 5 rfl) ?_
                          refine lv_istore_n (lv' := [(3, .int y27_5), (0, .ref (r 0)), (1, .int p0), (2, .int p1), (4, .int y27_4), (5, .int y27_5), (6, .int y47_6), (7, .int y47_7), (8, .int y47_8)]) hx hb dX9_sale_167 rfl hl (by decide) rfl (fun ls hl => ?_)
                          refine lv_iload hx hb dX9_sale_168 (lv_at hl 6 rfl) ?_
                          refine lv_istore (lv' := [(4, .int y47_6), (3, .int y27_5), (0, .ref (r 0)), (1, .int p0), (2, .int p1), (5, .int y27_5), (6, .int y47_6), (7, .int y47_7), (8, .int y47_8)]) hx hb dX9_sale_170 hl (by decide) rfl (fun ls hl => ?_)
                          obtain ⟨x72, ex72⟩ : ∃ y : Int32, y = y27_5 + Int32.ofInt 1 := ⟨_, rfl⟩
                          have f73 : (-2147483648) ≤ y27_5.toInt ∧ y27_5.toInt ≤ 2147483647 := i32_rg _
                          have f74 : (-2147483648) ≤ x32.toInt ∧ x32.toInt ≤ 2147483647 := i32_rg _
                          have f75 : x72.toInt = y27_5.toInt + 1 := (ob_139 (qi_add ex72 rfl (by decide) (ob_446 g27_2) (ob_685 f39 f74)))
                          refine lv_iinc (v := x72) (lv' := [(5, .int x72), (4, .int y47_6), (3, .int y27_5), (0, .ref (r 0)), (1, .int p0), (2, .int p1), (6, .int y47_6), (7, .int y47_7), (8, .int y47_8)]) hx hb dX9_sale_172 hl (k := 5) rfl ex72.symm (by decide) rfl (fun ls hl => ?_)
                          refine lv_goto (tgt := 27) hx hb dX9_sale_175 (by decide) ?_
                          exact ih27 y27_5 y47_6 x72 m47_i_askHouse m47_i_askTune m47_J H40 _ _ (ob_240 g27_2) (ob_690 g27_1 f68) (ob_448 g27_2 f75) (ob_686 f39 f74 f75) hP hD hS (lv_sub hl [3, 4, 5, 2, 1, 0] rfl) (ob_687 hM27 f75)
                        · skip
                          have f76 : y47_6.toInt = y27_4.toInt := qi_eq c_69 rfl rfl
                          refine lv_iload hx hb dX9_sale_150 (lv_at hl 5 rfl) ?_
                          refine va_calli (va_runS (As := [.int y27_5]) (rest := []) ⟨hx, hb, hml, hown, hG⟩ (kX9_bitsOf l dC dI y27_5 H40.size) (va_cwS 1 hG (goodS gw1618 gw1619 gw138 gw1620) rfl rfl rfl hd_X9_bitsOf ⟨(Nat.le_of_ble_eq_true rfl), (Nat.le_of_ble_eq_true rfl)⟩) ⟨fbR, pR_in emptyP (emptyK hK)⟩ rfl rfl hl.1 rfl (lv_room (Nat.le_of_ble_eq_true rfl)) dX9_sale_152 ⟨(Nat.le_of_ble_eq_true rfl), (Nat.le_of_ble_eq_true rfl)⟩) hS (fun q hq h => absurd hq (Nat.not_lt.mpr h)) (fun q h => hA q (Nat.le_trans hS.1 h)) (fun r_78 u_ t_ H77 locs ht hvm hw hB hz1 hk1 hS => ?_)
                          subst hw
                          have hP := wk hP hk1
                          refine lv_iload_n hx hb dX9_sale_155 rfl (lv_at hl 3 rfl) ?_
                          refine va_calli (va_runS (As := [.int y27_3]) (rest := [.int r_78]) ⟨hx, hb, hml, hown, hG⟩ (kX9_bitsOf l dC dI y27_3 H77.size) (va_cwS 1 hG (goodS gw1618 gw1619 gw138 gw1620) rfl rfl rfl hd_X9_bitsOf ⟨(Nat.le_of_ble_eq_true rfl), (Nat.le_of_ble_eq_true rfl)⟩) ⟨fbR, pR_in emptyP (emptyK hK)⟩ rfl rfl hl.1 rfl (lv_room (Nat.le_of_ble_eq_true rfl)) dX9_sale_156 ⟨(Nat.le_of_ble_eq_true rfl), (Nat.le_of_ble_eq_true rfl)⟩) hS (fun q hq h => absurd hq (Nat.not_lt.mpr h)) (fun q h => hA q (Nat.le_trans hS.1 h)) (fun r_80 u_ t_ H79 locs ht hvm hw hB hz1 hk1 hS => ?_)
                          subst hw
                          have hP := wk hP hk1
                          refine lv_icmp_lt (tgt := 165) hx hb dX9_sale_159 (by decide) (fun c_81 => ?_) (fun c_81 => ?_)
                          · skip
                            have f82 : r_78.toInt < r_80.toInt := qi_lt c_81 rfl rfl
                            refine lv_iload hx hb dX9_sale_165 (lv_at hl 5 rfl) ?_
                            refine lv_istore_n (lv' := [(3, .int y27_5), (0, .ref (r 0)), (1, .int p0), (2, .int p1), (4, .int y27_4), (5, .int y27_5), (6, .int y47_6), (7, .int y47_7), (8, .int y47_8)]) hx hb dX9_sale_167 rfl hl (by decide) rfl (fun ls hl => ?_)
                            refine lv_iload hx hb dX9_sale_168 (lv_at hl 6 rfl) ?_
                            refine lv_istore (lv' := [(4, .int y47_6), (3, .int y27_5), (0, .ref (r 0)), (1, .int p0), (2, .int p1), (5, .int y27_5), (6, .int y47_6), (7, .int y47_7), (8, .int y47_8)]) hx hb dX9_sale_170 hl (by decide) rfl (fun ls hl => ?_)
                            obtain ⟨x83, ex83⟩ : ∃ y : Int32, y = y27_5 + Int32.ofInt 1 := ⟨_, rfl⟩
                            have f84 : (-2147483648) ≤ y27_5.toInt ∧ y27_5.toInt ≤ 2147483647 := i32_rg _
                            have f85 : (-2147483648) ≤ x32.toInt ∧ x32.toInt ≤ 2147483647 := i32_rg _
                            have f86 : x83.toInt = y27_5.toInt + 1 := (ob_139 (qi_add ex83 rfl (by decide) (ob_446 g27_2) (ob_685 f39 f85)))
                            refine lv_iinc (v := x83) (lv' := [(5, .int x83), (4, .int y47_6), (3, .int y27_5), (0, .ref (r 0)), (1, .int p0), (2, .int p1), (6, .int y47_6), (7, .int y47_7), (8, .int y47_8)]) hx hb dX9_sale_172 hl (k := 5) rfl ex83.symm (by decide) rfl (fun ls hl => ?_)
                            refine lv_goto (tgt := 27) hx hb dX9_sale_175 (by decide) ?_
                            exact ih27 y27_5 y47_6 x83 m47_i_askHouse m47_i_askTune m47_J H79 _ _ (ob_240 g27_2) (ob_690 g27_1 f68) (ob_448 g27_2 f86) (ob_686 f39 f85 f86) hP hD hS (lv_sub hl [3, 4, 5, 2, 1, 0] rfl) (ob_687 hM27 f86)
                          · skip
                            have f87 : r_80.toInt ≤ r_78.toInt := qi_nlt c_81 rfl rfl
                            refine lv_goto (tgt := 172) hx hb dX9_sale_162 (by decide) ?_
                            obtain ⟨x88, ex88⟩ : ∃ y : Int32, y = y27_5 + Int32.ofInt 1 := ⟨_, rfl⟩
                            have f89 : (-2147483648) ≤ y27_5.toInt ∧ y27_5.toInt ≤ 2147483647 := i32_rg _
                            have f90 : (-2147483648) ≤ x32.toInt ∧ x32.toInt ≤ 2147483647 := i32_rg _
                            have f91 : x88.toInt = y27_5.toInt + 1 := (ob_139 (qi_add ex88 rfl (by decide) (ob_446 g27_2) (ob_685 f39 f90)))
                            refine lv_iinc (v := x88) (lv' := [(5, .int x88), (0, .ref (r 0)), (1, .int p0), (2, .int p1), (3, .int y27_3), (4, .int y27_4), (6, .int y47_6), (7, .int y47_7), (8, .int y47_8)]) hx hb dX9_sale_172 hl (k := 5) rfl ex88.symm (by decide) rfl (fun ls hl => ?_)
                            refine lv_goto (tgt := 27) hx hb dX9_sale_175 (by decide) ?_
                            exact ih27 y27_3 y27_4 x88 m47_i_askHouse m47_i_askTune m47_J H79 _ _ (ob_133 g27_0) (ob_691 g27_1 f68 f76) (ob_448 g27_2 f91) (ob_686 f39 f90 f91) hP hD hS (lv_sub hl [1, 2, 3, 4, 5, 0] rfl) (ob_687 hM27 f91)
                · skip
                  have f92 : y47_8.toInt < r_41.toInt := qi_nle c_44 rfl rfl
                  refine lv_iload hx hb dX9_sale_56 (lv_at hl 5 rfl) ?_
                  refine lv_iload hx hb dX9_sale_58 (lv_at hl 8 rfl) ?_
                  refine va_calli (va_runS (As := [.int y27_5, .int y47_8]) (rest := []) ⟨hx, hb, hml, hown, hG⟩ (kX9_bit l dC dI y27_5 y47_8 H40.size) (va_cwS 2 hG (goodS gw1417 gw1418 gw138 gw1419) rfl rfl rfl hd_X9_bit ⟨(Nat.le_of_ble_eq_true rfl), (Nat.le_of_ble_eq_true rfl)⟩) ⟨fbR, pR_in emptyP (emptyK hK)⟩ rfl rfl hl.1 rfl (lv_room (Nat.le_of_ble_eq_true rfl)) dX9_sale_60 ⟨(Nat.le_of_ble_eq_true rfl), (Nat.le_of_ble_eq_true rfl)⟩) hS (fun q hq h => absurd hq (Nat.not_lt.mpr h)) (fun q h => hA q (Nat.le_trans hS.1 h)) (fun r_94 u_ t_ H93 locs ht hvm hw hB hz1 hk1 hS => ?_)
                  subst hw
                  have hP := wk hP hk1
                  obtain ⟨f95, f96, f97⟩ := hB
                  refine lv_if_ne (tgt := 69) hx hb dX9_sale_63 (by decide) (fun c_98 => ?_) (fun c_98 => ?_)
                  · skip
                    have f99 : r_94.toInt ≠ 0 := qi_ne c_98 rfl zc_0
                    have f100 : 1 ≤ r_94.toInt := (ob_367 f95 f96 f99)
                    refine lv_iload hx hb dX9_sale_69 (lv_at hl 6 rfl) ?_
                    refine lv_aload_n hx hb dX9_sale_71 rfl (lv_at hl 0 rfl) ?_
                    refine lv_iload hx hb dX9_sale_72 (lv_at hl 8 rfl) ?_
                    refine va_calli (va_runV (As := [.int y47_8]) (rest := [.int y47_6]) ⟨hx, hb, hml, hown, hG⟩ (kX9_priceOf l dC dI r ct i_taped i_size i_faultKind i_at i_end i_token i_number i_bank i_rb i_codes i_within i_piled i_unitsInRule m47_i_askHouse m47_i_askTune i_acts i_undone i_laid i_knowns i_time f_text f_tunes f_houses f_hums f_told f_many f_ruleFrom f_ruleTo f_code f_eWhat f_eSign f_all f_kept f_was f_sTune f_boxAll m47_J L y47_8 H93.size hI (ob_133 g47_2) (ob_361 f92 f43)) (cwV 1 hG (goodV gw1519 gw1521 gw87 gw138 gw1522) rfl rfl rfl hd_X9_priceOf ⟨(Nat.le_of_ble_eq_true rfl), (Nat.le_of_ble_eq_true rfl)⟩) ⟨fbR, va_recv hK hP (ci := 8) (q0 := 0) rfl rfl, pR_in hP hK⟩ rfl rfl hl.1 rfl (lv_room (Nat.le_of_ble_eq_true rfl)) dX9_sale_74 ⟨(Nat.le_of_ble_eq_true rfl), (Nat.le_of_ble_eq_true rfl)⟩) hS (fun q hq h => absurd hq (Nat.not_lt.mpr h)) (fun q h => hA q (Nat.le_trans hS.1 h)) (fun r_102 u_ t_ H101 locs ht hvm hw hB hz1 hk1 hS => ?_)
                    subst hw
                    have hP := wk hP hk1
                    refine lv_iadd hx hb dX9_sale_77 ?_
                    refine lv_topi (fun x103 ex103 => ?_)
                    refine lv_istore (lv' := [(6, .int x103), (0, .ref (r 0)), (1, .int p0), (2, .int p1), (3, .int y27_3), (4, .int y27_4), (5, .int y27_5), (7, .int y47_7), (8, .int y47_8)]) hx hb dX9_sale_78 hl (by decide) rfl (fun ls hl => ?_)
                    refine lv_iload hx hb dX9_sale_80 (lv_at hl 7 rfl) ?_
                    refine lv_if_eq (tgt := 108) hx hb dX9_sale_82 (by decide) (fun c_104 => ?_) (fun c_104 => ?_)
                    · skip
                      have f105 : y47_7.toInt = 0 := qi_eq c_104 rfl zc_0
                      refine lv_iconst (v := 0) hx hb dX9_sale_108 (by decide) ?_
                      refine lv_istore (lv' := [(7, .int 0), (6, .int x103), (0, .ref (r 0)), (1, .int p0), (2, .int p1), (3, .int y27_3), (4, .int y27_4), (5, .int y27_5), (8, .int y47_8)]) hx hb dX9_sale_109 hl (by decide) rfl (fun ls hl => ?_)
                      obtain ⟨x106, ex106⟩ : ∃ y : Int32, y = y47_8 + Int32.ofInt 1 := ⟨_, rfl⟩
                      have f107 : x106.toInt = y47_8.toInt + 1 := (ob_139 (qi_add ex106 rfl (by decide) (ob_137 g47_2) (ob_314 g47_3)))
                      refine lv_iinc (v := x106) (lv' := [(8, .int x106), (7, .int 0), (6, .int x103), (0, .ref (r 0)), (1, .int p0), (2, .int p1), (3, .int y27_3), (4, .int y27_4), (5, .int y27_5)]) hx hb dX9_sale_111 hl (k := 8) rfl ex106.symm (by decide) rfl (fun ls hl => ?_)
                      refine lv_goto (tgt := 47) hx hb dX9_sale_114 (by decide) ?_
                      exact ih47 x103 0 x106 m47_i_askHouse m47_i_askTune m47_J H101 _ _ (ob_692 zc_0) (ob_6 zc_0) (ob_140 g47_2 f107) (ob_354 f1 f92 f43 f107) hP hD hS (lv_sub hl [3, 4, 5, 6, 7, 8, 2, 1, 0] rfl) (ob_316 hM47 f107)
                    · skip
                      have f108 : y47_7.toInt ≠ 0 := qi_ne c_104 rfl zc_0
                      refine lv_aload_n hx hb dX9_sale_85 rfl (lv_at hl 1 rfl) ?_
                      refine lv_iload hx hb dX9_sale_86 (lv_at hl 8 rfl) ?_
                      refine va_calli (va_runV (As := [.int y47_8]) (rest := []) ⟨hx, hb, hml, hown, hG⟩ (kX9_isOnCart l dC dI r ct i_taped i_size i_faultKind i_at i_end i_token i_number i_bank i_rb i_codes i_within i_piled i_unitsInRule m47_i_askHouse m47_i_askTune i_acts i_undone i_laid i_knowns i_time f_text f_tunes f_houses f_hums f_told f_many f_ruleFrom f_ruleTo f_code f_eWhat f_eSign f_all f_kept f_was f_sTune f_boxAll m47_J L y47_8 H101.size hI (ob_133 g47_2) (ob_361 f92 f43)) (cwV 1 hG (goodV gw1704 gw1706 gw111 gw138 gw1707) rfl rfl rfl hd_X9_isOnCart ⟨(Nat.le_of_ble_eq_true rfl), (Nat.le_of_ble_eq_true rfl)⟩) ⟨fbR, va_recv hK hP (ci := 8) (q0 := 0) rfl rfl, pR_in hP hK⟩ rfl rfl hl.1 rfl (lv_room (Nat.le_of_ble_eq_true rfl)) dX9_sale_88 ⟨(Nat.le_of_ble_eq_true rfl), (Nat.le_of_ble_eq_true rfl)⟩) hS (fun q hq h => absurd hq (Nat.not_lt.mpr h)) (fun q h => hA q (Nat.le_trans hS.1 h)) (fun r_110 u_ t_ H109 locs ht hvm hw hB hz1 hk1 hS => ?_)
                      subst hw
                      have hP := wk hP hk1
                      obtain ⟨f111, f112, f113⟩ := hB
                      refine lv_if_eq (tgt := 108) hx hb dX9_sale_91 (by decide) (fun c_114 => ?_) (fun c_114 => ?_)
                      · skip
                        have f115 : r_110.toInt = 0 := qi_eq c_114 rfl zc_0
                        have f116 : (f_all (y47_8.toInt).toNat).toInt + 1 ≠ 0 := (ob_518 f111 f115)
                        have f117 : r_110.toInt = 0 := (ob_162 f112 f113 f115)
                        refine lv_iconst (v := 0) hx hb dX9_sale_108 (by decide) ?_
                        refine lv_istore (lv' := [(7, .int 0), (6, .int x103), (0, .ref (r 0)), (1, .int p0), (2, .int p1), (3, .int y27_3), (4, .int y27_4), (5, .int y27_5), (8, .int y47_8)]) hx hb dX9_sale_109 hl (by decide) rfl (fun ls hl => ?_)
                        obtain ⟨x118, ex118⟩ : ∃ y : Int32, y = y47_8 + Int32.ofInt 1 := ⟨_, rfl⟩
                        have f119 : x118.toInt = y47_8.toInt + 1 := (ob_139 (qi_add ex118 rfl (by decide) (ob_137 g47_2) (ob_314 g47_3)))
                        refine lv_iinc (v := x118) (lv' := [(8, .int x118), (7, .int 0), (6, .int x103), (0, .ref (r 0)), (1, .int p0), (2, .int p1), (3, .int y27_3), (4, .int y27_4), (5, .int y27_5)]) hx hb dX9_sale_111 hl (k := 8) rfl ex118.symm (by decide) rfl (fun ls hl => ?_)
                        refine lv_goto (tgt := 47) hx hb dX9_sale_114 (by decide) ?_
                        exact ih47 x103 0 x118 m47_i_askHouse m47_i_askTune m47_J H109 _ _ (ob_692 zc_0) (ob_6 zc_0) (ob_140 g47_2 f119) (ob_354 f1 f92 f43 f119) hP hD hS (lv_sub hl [3, 4, 5, 6, 7, 8, 2, 1, 0] rfl) (ob_316 hM47 f119)
                      · skip
                        have f120 : r_110.toInt ≠ 0 := qi_ne c_114 rfl zc_0
                        have f121 : 1 ≤ r_110.toInt := (ob_519 f111 f120)
                        have f122 : (f_all (y47_8.toInt).toNat).toInt + 1 = 0 := (ob_520 f111 f120)
                        have f123 : r_110.toInt = 1 := (ob_167 f112 f113 f121)
                        refine lv_aload_n hx hb dX9_sale_94 rfl (lv_at hl 1 rfl) ?_
                        refine lv_iload_n hx hb dX9_sale_95 rfl (lv_at hl 2 rfl) ?_
                        refine lv_iload hx hb dX9_sale_96 (lv_at hl 8 rfl) ?_
                        have hFc := frA hD hS hA
                        refine va_calli (va_runV (As := [.int p0, .int y47_8]) (rest := []) ⟨hx, hb, hml, hown, hG⟩ (kX9_doesTake l dC dI r ct i_taped i_size i_faultKind i_at i_end i_token i_number i_bank i_rb i_codes i_within i_piled i_unitsInRule m47_i_askHouse m47_i_askTune i_acts i_undone i_laid i_knowns i_time f_text f_tunes f_houses f_hums f_told f_many f_ruleFrom f_ruleTo f_code f_eWhat f_eSign f_all f_kept f_was f_sTune f_boxAll m47_J L p0 y47_8 H109.size hI (ob_108 f14 f15) (ob_135 f2 f14 f15) (ob_133 g47_2) (ob_361 f92 f43)) (cwV 2 hG (goodV gw1610 gw1612 gw104 gw138 gw1613) rfl rfl rfl hd_X9_doesTake ⟨(Nat.le_of_ble_eq_true rfl), (Nat.le_of_ble_eq_true rfl)⟩) ⟨fbW, va_recv hK hP (ci := 8) (q0 := 0) rfl rfl, pW_in hP hK hD⟩ rfl rfl hl.1 rfl (lv_room (Nat.le_of_ble_eq_true rfl)) dX9_sale_98 ⟨(Nat.le_of_ble_eq_true rfl), (Nat.le_of_ble_eq_true rfl)⟩) hS (fun q _ h => hFc q h) hFc (fun r_125 u_ t_ H124 locs ht hvm hw hB hz1 hk1 hS => ?_)
                        subst hw
                        obtain ⟨x126, x127, J128, hP1, hD1, hI132, f129, f130, f131⟩ := hB
                        rw [ht] at hP1
                        have hP := hP1
                        have hD := dW hFc hD1
                        obtain ⟨im133, im134, im135, im136, im137, im138, im139, im140, im141, im142, im143, im144, im145, im146, im147, im148, im149, im150, im151, im152, im153, im154, im155, im156, im157, im158, im159, im160, im161, im162, im163⟩ := id hI132
                        refine lv_if_eq (tgt := 108) hx hb dX9_sale_101 (by decide) (fun c_164 => ?_) (fun c_164 => ?_)
                        · skip
                          have f165 : r_125.toInt = 0 := qi_eq c_164 rfl zc_0
                          have f166 : r_125.toInt = 0 := (ob_162 f130 f131 f165)
                          refine lv_iconst (v := 0) hx hb dX9_sale_108 (by decide) ?_
                          refine lv_istore (lv' := [(7, .int 0), (6, .int x103), (0, .ref (r 0)), (1, .int p0), (2, .int p1), (3, .int y27_3), (4, .int y27_4), (5, .int y27_5), (8, .int y47_8)]) hx hb dX9_sale_109 hl (by decide) rfl (fun ls hl => ?_)
                          obtain ⟨x167, ex167⟩ : ∃ y : Int32, y = y47_8 + Int32.ofInt 1 := ⟨_, rfl⟩
                          have f168 : x167.toInt = y47_8.toInt + 1 := (ob_139 (qi_add ex167 rfl (by decide) (ob_137 g47_2) (ob_314 g47_3)))
                          refine lv_iinc (v := x167) (lv' := [(8, .int x167), (7, .int 0), (6, .int x103), (0, .ref (r 0)), (1, .int p0), (2, .int p1), (3, .int y27_3), (4, .int y27_4), (5, .int y27_5)]) hx hb dX9_sale_111 hl (k := 8) rfl ex167.symm (by decide) rfl (fun ls hl => ?_)
                          refine lv_goto (tgt := 47) hx hb dX9_sale_114 (by decide) ?_
                          exact ih47 x103 0 x167 x126 x127 J128 H124 _ _ (ob_692 zc_0) (ob_6 zc_0) (ob_140 g47_2 f168) (ob_354 f1 f92 f43 f168) hP hD hS (lv_sub hl [3, 4, 5, 6, 7, 8, 2, 1, 0] rfl) (ob_316 hM47 f168)
                        · skip
                          have f169 : r_125.toInt ≠ 0 := qi_ne c_164 rfl zc_0
                          have f170 : 1 ≤ r_125.toInt := (ob_166 f129 f169)
                          have f171 : r_125.toInt = 1 := (ob_167 f130 f131 f170)
                          refine lv_iconst (v := 1) hx hb dX9_sale_104 (by decide) ?_
                          refine lv_goto (tgt := 109) hx hb dX9_sale_105 (by decide) ?_
                          refine lv_istore (lv' := [(7, .int 1), (6, .int x103), (0, .ref (r 0)), (1, .int p0), (2, .int p1), (3, .int y27_3), (4, .int y27_4), (5, .int y27_5), (8, .int y47_8)]) hx hb dX9_sale_109 hl (by decide) rfl (fun ls hl => ?_)
                          obtain ⟨x172, ex172⟩ : ∃ y : Int32, y = y47_8 + Int32.ofInt 1 := ⟨_, rfl⟩
                          have f173 : x172.toInt = y47_8.toInt + 1 := (ob_139 (qi_add ex172 rfl (by decide) (ob_137 g47_2) (ob_314 g47_3)))
                          refine lv_iinc (v := x172) (lv' := [(8, .int x172), (7, .int 1), (6, .int x103), (0, .ref (r 0)), (1, .int p0), (2, .int p1), (3, .int y27_3), (4, .int y27_4), (5, .int y27_5)]) hx hb dX9_sale_111 hl (k := 8) rfl ex172.symm (by decide) rfl (fun ls hl => ?_)
                          refine lv_goto (tgt := 47) hx hb dX9_sale_114 (by decide) ?_
                          exact ih47 x103 1 x172 x126 x127 J128 H124 _ _ (ob_693 zc_1) (ob_10 zc_1) (ob_140 g47_2 f173) (ob_354 f1 f92 f43 f173) hP hD hS (lv_sub hl [3, 4, 5, 6, 7, 8, 2, 1, 0] rfl) (ob_316 hM47 f173)
                  · skip
                    have f174 : r_94.toInt = 0 := qi_eq c_98 rfl zc_0
                    refine lv_goto (tgt := 111) hx hb dX9_sale_66 (by decide) ?_
                    obtain ⟨x175, ex175⟩ : ∃ y : Int32, y = y47_8 + Int32.ofInt 1 := ⟨_, rfl⟩
                    have f176 : x175.toInt = y47_8.toInt + 1 := (ob_139 (qi_add ex175 rfl (by decide) (ob_137 g47_2) (ob_314 g47_3)))
                    refine lv_iinc (v := x175) (lv' := [(8, .int x175), (0, .ref (r 0)), (1, .int p0), (2, .int p1), (3, .int y27_3), (4, .int y27_4), (5, .int y27_5), (6, .int y47_6), (7, .int y47_7)]) hx hb dX9_sale_111 hl (k := 8) rfl ex175.symm (by decide) rfl (fun ls hl => ?_)
                    refine lv_goto (tgt := 47) hx hb dX9_sale_114 (by decide) ?_
                    exact ih47 y47_6 y47_7 x175 m47_i_askHouse m47_i_askTune m47_J H93 _ _ (ob_694 g47_0 g47_1) (ob_695 g47_0 g47_1) (ob_140 g47_2 f176) (ob_354 f1 f92 f43 f176) hP hD hS (lv_sub hl [1, 2, 3, 4, 5, 6, 7, 8, 0] rfl) (ob_316 hM47 f176)
            exact L47 (-1 * (0 : Int32).toInt + 5 + 1).toNat 0 1 0 m27_i_askHouse m27_i_askTune m27_J H28 _ _ (ob_693 zc_1) (ob_10 zc_1) (ob_5 zc_0) (ob_317 zc_0) hP hD hS (lv_sub hl [3, 4, 5, 6, 7, 8, 2, 1, 0] rfl) (mlt (ob_318 zc_0))
      exact L27 (-1 * (1 : Int32).toInt + 2147483647 + 1).toNat 0 0 1 i_askHouse i_askTune J H17 _ _ (ob_5 zc_0) (ob_5 zc_0) (ob_229 zc_1) (ob_696 zc_1) hP hD hS (lv_sub hl [3, 4, 5, 2, 1, 0] rfl) (mlt (ob_697 zc_1))
    · skip
      have f177 : r_18.toInt = 0 := qi_eq c_22 rfl zc_0
      refine lv_iconst (v := (-1)) hx hb dX9_sale_17 (by decide) ?_
      rw [hQ]
      exact W.iret (v := (-1)) hx hb hr (fun t ht hW => ⟨⟨(-1), (-1), rfl, rfl, ⟨i_askHouse, i_askTune, J, by rw [ht]; exact hP, hD, hI⟩⟩, hS.F ht⟩) hS.2.2 dX9_sale_18
set_option maxHeartbeats 4000000 in
set_option maxRecDepth 100000 in
theorem kX9_gainOf (l : Launch) (dC : Nat → ClassId) (dI : Nat → Nat → Nat) (r : Nat → Nat) (ct : Nat → ClassId) (i_taped i_size i_faultKind i_at i_end i_token i_number i_bank i_rb i_codes i_within i_piled i_unitsInRule i_askHouse i_askTune i_acts i_undone i_laid i_knowns i_time : Int32) (f_text f_tunes f_houses f_hums f_told f_many f_ruleFrom f_ruleTo f_code f_eWhat f_eSign f_all f_kept f_was f_sTune f_boxAll : Nat → Int32) (J : Nat → Nat → Int32) (L : Nat → Nat → Int64) (p0 p1 p2 : Int32) (sz : Nat) (hI : (IM i_taped i_size i_at i_end i_bank i_rb i_acts i_undone i_laid i_knowns i_time f_tunes f_houses f_hums f_told f_many f_ruleFrom f_ruleTo f_code f_all f_kept f_was f_sTune f_boxAll)) (hp0 : 0 ≤ p0.toInt) (hp1 : p0.toInt + 1 ≤ (f_houses (i_bank.toInt).toNat).toInt) (hp2 : 0 ≤ p1.toInt) (hp3 : p1.toInt + 1 ≤ (f_tunes (i_bank.toInt).toNat).toInt) : Met l yX9_gainOf (.code yX9_gainOf cX9_gainOf 4 (some .int) :: GW) { frames := 20, cells := 0, slots := 0, locals := 667 } (va_Pc [.ref (r 0), .int p0, .int p1, .int p2] (pW (dC, dI) (WM r ct i_taped i_size i_faultKind i_at i_end i_token i_number i_bank i_rb i_codes i_within i_piled i_unitsInRule i_askHouse i_askTune i_acts i_undone i_laid i_knowns i_time f_text f_tunes f_houses f_hums f_told f_many f_ruleFrom f_ruleTo f_code f_eWhat f_eSign f_all f_kept f_was f_sTune f_boxAll J L) (TM ct) sz)) (va_Qi (fun (r0 : Int32) (u : Int32) => r0 = u) (fun (u : Int32) (t : State) => ∃ (n_i_askHouse n_i_askTune : Int32) (n_J : Nat → Nat → Int32), va_P (dC, dI) vwCl (WM r ct i_taped i_size i_faultKind i_at i_end i_token i_number i_bank i_rb i_codes i_within i_piled i_unitsInRule n_i_askHouse n_i_askTune i_acts i_undone i_laid i_knowns i_time f_text f_tunes f_houses f_hums f_told f_many f_ruleFrom f_ruleTo f_code f_eWhat f_eSign f_all f_kept f_was f_sTune f_boxAll n_J L) t.heap ∧ va_D (va_A (WM r ct i_taped i_size i_faultKind i_at i_end i_token i_number i_bank i_rb i_codes i_within i_piled i_unitsInRule i_askHouse i_askTune i_acts i_undone i_laid i_knowns i_time f_text f_tunes f_houses f_hums f_told f_many f_ruleFrom f_ruleTo f_code f_eWhat f_eSign f_all f_kept f_was f_sTune f_boxAll J L) sz) (WM r ct i_taped i_size i_faultKind i_at i_end i_token i_number i_bank i_rb i_codes i_within i_piled i_unitsInRule n_i_askHouse n_i_askTune i_acts i_undone i_laid i_knowns i_time f_text f_tunes f_houses f_hums f_told f_many f_ruleFrom f_ruleTo f_code f_eWhat f_eSign f_all f_kept f_was f_sTune f_boxAll n_J L) ∧ (IM i_taped i_size i_at i_end i_bank i_rb i_acts i_undone i_laid i_knowns i_time f_tunes f_houses f_hums f_told f_many f_ruleFrom f_ruleTo f_code f_all f_kept f_was f_sTune f_boxAll) ∧ (((p1.toInt ≠ p2.toInt)) ∨ ((p1.toInt = p2.toInt) ∧ (u.toInt = 0)))) (va_A (WM r ct i_taped i_size i_faultKind i_at i_end i_token i_number i_bank i_rb i_codes i_within i_piled i_unitsInRule i_askHouse i_askTune i_acts i_undone i_laid i_knowns i_time f_text f_tunes f_houses f_hums f_told f_many f_ruleFrom f_ruleTo f_code f_eWhat f_eSign f_all f_kept f_was f_sTune f_boxAll J L) sz)) 0 0 (va_A (WM r ct i_taped i_size i_faultKind i_at i_end i_token i_number i_bank i_rb i_codes i_within i_piled i_unitsInRule i_askHouse i_askTune i_acts i_undone i_laid i_knowns i_time f_text f_tunes f_houses f_hums f_told f_many f_ruleFrom f_ruleTo f_code f_eWhat f_eSign f_all f_kept f_was f_sTune f_boxAll J L) sz) := by
  refine Met.ofW (cc := cX9_gainOf) (maxL := 4) (ret := (some .int)) (by decide) rfl ?_
  intro p e s m args below meth c0 s₁ B hml hv
  obtain ⟨rfl, hsz, hP, hK, hD0⟩ := hv
  have hx := B.exec
  have hb := B.bytes
  have hr := B.returns
  have hts := atoms_spec (ws := .code yX9_gainOf cX9_gainOf 4 (some .int) :: GW) B.pre
  have hG : ∀ w ∈ GW, w.before _ s = true := fun w h => hts w (List.mem_cons_of_mem _ h)
  have hown : s.vm.findClass RX9 = some m.cls := findClass_of_methodNamed B.named
  subst hsz
  have hD := hD0.self (sz := s.heap.size)
  generalize hAe : va_A (WM r ct i_taped i_size i_faultKind i_at i_end i_token i_number i_bank i_rb i_codes i_within i_piled i_unitsInRule i_askHouse i_askTune i_acts i_undone i_laid i_knowns i_time f_text f_tunes f_houses f_hums f_told f_many f_ruleFrom f_ruleTo f_code f_eWhat f_eSign f_all f_kept f_was f_sTune f_boxAll J L) s.heap.size = A at hD ⊢
  have hA : ∀ q : Nat, s.heap.size ≤ q → A q := fun q h => by rw [← hAe]; exact Or.inr h
  have hS : va_S A s.heap s.heap [] := va_S.rf
  have hP : va_P (dC, dI) vwCl (WM r ct i_taped i_size i_faultKind i_at i_end i_token i_number i_bank i_rb i_codes i_within i_piled i_unitsInRule i_askHouse i_askTune i_acts i_undone i_laid i_knowns i_time f_text f_tunes f_houses f_hums f_told f_many f_ruleFrom f_ruleTo f_code f_eWhat f_eSign f_all f_kept f_was f_sTune f_boxAll J L) s.heap := hP
  have hl := lv_entry ([.ref (r 0), .int p0, .int p1, .int p2]) (n := 4) (Nat.le_of_ble_eq_true rfl)
  rw [lg_entry_eq]
  generalize (lg_sl ([.ref (r 0), .int p0, .int p1, .int p2]) ++ List.replicate (4 - (lg_sl ([.ref (r 0), .int p0, .int p1, .int p2])).length) Slot.unset).toArray = ls at hl ⊢
  have hl : lv_has ls 4 [(0, .ref (r 0)), (1, .int p0), (2, .int p1), (3, .int p2)] := hl
  refine nameQ (fun Q hQ => ?_)
  obtain ⟨im0, im1, im2, im3, im4, im5, im6, im7, im8, im9, im10, im11, im12, im13, im14, im15, im16, im17, im18, im19, im20, im21, im22, im23, im24, im25, im26, im27, im28, im29, im30⟩ := id hI
  have f1 : 0 ≤ (f_tunes (i_bank.toInt).toNat).toInt ∧ (f_tunes (i_bank.toInt).toNat).toInt ≤ 5 := im20 (i_bank.toInt)
  have f2 : 0 ≤ (f_houses (i_bank.toInt).toNat).toInt ∧ (f_houses (i_bank.toInt).toNat).toInt ≤ 4 := im21 (i_bank.toInt)
  refine lv_iload_n hx hb dX9_gainOf_0 rfl (lv_at hl 2 rfl) ?_
  refine lv_iload_n hx hb dX9_gainOf_1 rfl (lv_at hl 3 rfl) ?_
  refine lv_icmp_ne (tgt := 9) hx hb dX9_gainOf_2 (by decide) (fun c_3 => ?_) (fun c_3 => ?_)
  · skip
    have f4 : p1.toInt ≠ p2.toInt := qi_ne c_3 rfl rfl
    refine lv_aload_n hx hb dX9_gainOf_9 rfl (lv_at hl 0 rfl) ?_
    refine lv_iload_n hx hb dX9_gainOf_10 rfl (lv_at hl 1 rfl) ?_
    refine lv_iload_n hx hb dX9_gainOf_11 rfl (lv_at hl 2 rfl) ?_
    refine lv_iconst (v := 0) hx hb dX9_gainOf_12 (by decide) ?_
    have hFc := frA hD hS hA
    refine va_calli (va_runV (As := [.int p0, .int p1, .int 0]) (rest := []) ⟨hx, hb, hml, hown, hG⟩ (kX9_gladBy l dC dI r ct i_taped i_size i_faultKind i_at i_end i_token i_number i_bank i_rb i_codes i_within i_piled i_unitsInRule i_askHouse i_askTune i_acts i_undone i_laid i_knowns i_time f_text f_tunes f_houses f_hums f_told f_many f_ruleFrom f_ruleTo f_code f_eWhat f_eSign f_all f_kept f_was f_sTune f_boxAll J L p0 p1 0 s.heap.size hI (ob_108 hp0 hp1) (ob_135 f2 hp0 hp1) (ob_108 hp2 hp3) (ob_109 f1 hp2 hp3)) (cwV 3 hG (goodV gw1566 gw1568 gw95 gw138 gw1569) rfl rfl rfl hd_X9_gladBy ⟨(Nat.le_of_ble_eq_true rfl), (Nat.le_of_ble_eq_true rfl)⟩) ⟨fbW, va_recv hK hP (ci := 8) (q0 := 0) rfl rfl, pW_in hP hK hD⟩ rfl rfl hl.1 rfl (lv_room (Nat.le_of_ble_eq_true rfl)) dX9_gainOf_13 ⟨(Nat.le_of_ble_eq_true rfl), (Nat.le_of_ble_eq_true rfl)⟩) hS (fun q _ h => hFc q h) hFc (fun r_6 u_ t_ H5 locs ht hvm hw hB hz1 hk1 hS => ?_)
    subst hw
    obtain ⟨x7, x8, J9, hP1, hD1, hI11, f10⟩ := hB
    rw [ht] at hP1
    have hP := hP1
    have hD := dW hFc hD1
    obtain ⟨im12, im13, im14, im15, im16, im17, im18, im19, im20, im21, im22, im23, im24, im25, im26, im27, im28, im29, im30, im31, im32, im33, im34, im35, im36, im37, im38, im39, im40, im41, im42⟩ := id hI11
    rw [hQ]
    exact W.iret (v := r_6) hx hb hr (fun t ht hW => ⟨⟨r_6, r_6, rfl, rfl, ⟨x7, x8, J9, by rw [ht]; exact hP, hD, hI11, (ob_698 hp2 hp3 f4)⟩⟩, hS.F ht⟩) hS.2.2 dX9_gainOf_16
  · skip
    have f43 : p1.toInt = p2.toInt := qi_eq c_3 rfl rfl
    refine lv_iconst (v := 0) hx hb dX9_gainOf_5 (by decide) ?_
    refine lv_goto (tgt := 16) hx hb dX9_gainOf_6 (by decide) ?_
    rw [hQ]
    exact W.iret (v := 0) hx hb hr (fun t ht hW => ⟨⟨0, 0, rfl, rfl, ⟨i_askHouse, i_askTune, J, by rw [ht]; exact hP, hD, hI, (ob_699 hp2 hp3 f43 zc_0)⟩⟩, hS.F ht⟩) hS.2.2 dX9_gainOf_16
set_option maxHeartbeats 4000000 in
set_option maxRecDepth 100000 in
theorem kX9_isRest (l : Launch) (dC : Nat → ClassId) (dI : Nat → Nat → Nat) (r : Nat → Nat) (ct : Nat → ClassId) (i_taped i_size i_faultKind i_at i_end i_token i_number i_bank i_rb i_codes i_within i_piled i_unitsInRule i_askHouse i_askTune i_acts i_undone i_laid i_knowns i_time : Int32) (f_text f_tunes f_houses f_hums f_told f_many f_ruleFrom f_ruleTo f_code f_eWhat f_eSign f_all f_kept f_was f_sTune f_boxAll : Nat → Int32) (J : Nat → Nat → Int32) (L : Nat → Nat → Int64) (p0 p1 p2 p3 : Int32) (sz : Nat) (hI : (IM i_taped i_size i_at i_end i_bank i_rb i_acts i_undone i_laid i_knowns i_time f_tunes f_houses f_hums f_told f_many f_ruleFrom f_ruleTo f_code f_all f_kept f_was f_sTune f_boxAll)) (hp0 : 0 ≤ p0.toInt) (hp1 : p0.toInt + 1 ≤ (f_houses (i_bank.toInt).toNat).toInt) (hp2 : 0 ≤ p1.toInt) (hp3 : p1.toInt + 1 ≤ (f_houses (i_bank.toInt).toNat).toInt) (hp4 : 0 ≤ p2.toInt) (hp5 : p2.toInt + 1 ≤ (f_tunes (i_bank.toInt).toNat).toInt) (hp6 : 0 ≤ p3.toInt) (hp7 : p3.toInt + 1 ≤ (f_tunes (i_bank.toInt).toNat).toInt) : Met l yX9_isRest (.code yX9_isRest cX9_isRest 6 (some .boolean) :: GW) { frames := 22, cells := 0, slots := 0, locals := 730 } (va_Pc [.ref (r 0), .int p0, .int p1, .int p2, .int p3] (pW (dC, dI) (WM r ct i_taped i_size i_faultKind i_at i_end i_token i_number i_bank i_rb i_codes i_within i_piled i_unitsInRule i_askHouse i_askTune i_acts i_undone i_laid i_knowns i_time f_text f_tunes f_houses f_hums f_told f_many f_ruleFrom f_ruleTo f_code f_eWhat f_eSign f_all f_kept f_was f_sTune f_boxAll J L) (TM ct) sz)) (va_Qi (fun (r0 : Int32) (u : Int32) => r0 = u) (fun (u : Int32) (t : State) => ∃ (n_i_askHouse n_i_askTune : Int32) (n_J : Nat → Nat → Int32), va_P (dC, dI) vwCl (WM r ct i_taped i_size i_faultKind i_at i_end i_token i_number i_bank i_rb i_codes i_within i_piled i_unitsInRule n_i_askHouse n_i_askTune i_acts i_undone i_laid i_knowns i_time f_text f_tunes f_houses f_hums f_told f_many f_ruleFrom f_ruleTo f_code f_eWhat f_eSign f_all f_kept f_was f_sTune f_boxAll n_J L) t.heap ∧ va_D (va_A (WM r ct i_taped i_size i_faultKind i_at i_end i_token i_number i_bank i_rb i_codes i_within i_piled i_unitsInRule i_askHouse i_askTune i_acts i_undone i_laid i_knowns i_time f_text f_tunes f_houses f_hums f_told f_many f_ruleFrom f_ruleTo f_code f_eWhat f_eSign f_all f_kept f_was f_sTune f_boxAll J L) sz) (WM r ct i_taped i_size i_faultKind i_at i_end i_token i_number i_bank i_rb i_codes i_within i_piled i_unitsInRule n_i_askHouse n_i_askTune i_acts i_undone i_laid i_knowns i_time f_text f_tunes f_houses f_hums f_told f_many f_ruleFrom f_ruleTo f_code f_eWhat f_eSign f_all f_kept f_was f_sTune f_boxAll n_J L) ∧ (IM i_taped i_size i_at i_end i_bank i_rb i_acts i_undone i_laid i_knowns i_time f_tunes f_houses f_hums f_told f_many f_ruleFrom f_ruleTo f_code f_all f_kept f_was f_sTune f_boxAll) ∧ (((u.toInt = 1)) ∨ ((u.toInt = 0))) ∧ (0 ≤ u.toInt) ∧ (u.toInt ≤ 1)) (va_A (WM r ct i_taped i_size i_faultKind i_at i_end i_token i_number i_bank i_rb i_codes i_within i_piled i_unitsInRule i_askHouse i_askTune i_acts i_undone i_laid i_knowns i_time f_text f_tunes f_houses f_hums f_told f_many f_ruleFrom f_ruleTo f_code f_eWhat f_eSign f_all f_kept f_was f_sTune f_boxAll J L) sz)) 0 0 (va_A (WM r ct i_taped i_size i_faultKind i_at i_end i_token i_number i_bank i_rb i_codes i_within i_piled i_unitsInRule i_askHouse i_askTune i_acts i_undone i_laid i_knowns i_time f_text f_tunes f_houses f_hums f_told f_many f_ruleFrom f_ruleTo f_code f_eWhat f_eSign f_all f_kept f_was f_sTune f_boxAll J L) sz) := by
  refine Met.ofW (cc := cX9_isRest) (maxL := 6) (ret := (some .boolean)) (by decide) rfl ?_
  intro p e s m args below meth c0 s₁ B hml hv
  obtain ⟨rfl, hsz, hP, hK, hD0⟩ := hv
  have hx := B.exec
  have hb := B.bytes
  have hr := B.returns
  have hts := atoms_spec (ws := .code yX9_isRest cX9_isRest 6 (some .boolean) :: GW) B.pre
  have hG : ∀ w ∈ GW, w.before _ s = true := fun w h => hts w (List.mem_cons_of_mem _ h)
  have hown : s.vm.findClass RX9 = some m.cls := findClass_of_methodNamed B.named
  subst hsz
  have hD := hD0.self (sz := s.heap.size)
  generalize hAe : va_A (WM r ct i_taped i_size i_faultKind i_at i_end i_token i_number i_bank i_rb i_codes i_within i_piled i_unitsInRule i_askHouse i_askTune i_acts i_undone i_laid i_knowns i_time f_text f_tunes f_houses f_hums f_told f_many f_ruleFrom f_ruleTo f_code f_eWhat f_eSign f_all f_kept f_was f_sTune f_boxAll J L) s.heap.size = A at hD ⊢
  have hA : ∀ q : Nat, s.heap.size ≤ q → A q := fun q h => by rw [← hAe]; exact Or.inr h
  have hS : va_S A s.heap s.heap [] := va_S.rf
  have hP : va_P (dC, dI) vwCl (WM r ct i_taped i_size i_faultKind i_at i_end i_token i_number i_bank i_rb i_codes i_within i_piled i_unitsInRule i_askHouse i_askTune i_acts i_undone i_laid i_knowns i_time f_text f_tunes f_houses f_hums f_told f_many f_ruleFrom f_ruleTo f_code f_eWhat f_eSign f_all f_kept f_was f_sTune f_boxAll J L) s.heap := hP
  have hl := lv_entry ([.ref (r 0), .int p0, .int p1, .int p2, .int p3]) (n := 6) (Nat.le_of_ble_eq_true rfl)
  rw [lg_entry_eq]
  generalize (lg_sl ([.ref (r 0), .int p0, .int p1, .int p2, .int p3]) ++ List.replicate (6 - (lg_sl ([.ref (r 0), .int p0, .int p1, .int p2, .int p3])).length) Slot.unset).toArray = ls at hl ⊢
  have hl : lv_has ls 6 [(0, .ref (r 0)), (1, .int p0), (2, .int p1), (3, .int p2), (4, .int p3)] := hl
  refine nameQ (fun Q hQ => ?_)
  obtain ⟨im0, im1, im2, im3, im4, im5, im6, im7, im8, im9, im10, im11, im12, im13, im14, im15, im16, im17, im18, im19, im20, im21, im22, im23, im24, im25, im26, im27, im28, im29, im30⟩ := id hI
  have f1 : 0 ≤ (f_tunes (i_bank.toInt).toNat).toInt ∧ (f_tunes (i_bank.toInt).toNat).toInt ≤ 5 := im20 (i_bank.toInt)
  have f2 : 0 ≤ (f_houses (i_bank.toInt).toNat).toInt ∧ (f_houses (i_bank.toInt).toNat).toInt ≤ 4 := im21 (i_bank.toInt)
  refine lv_iconst (v := 0) hx hb dX9_isRest_0 (by decide) ?_
  refine lv_istore (lv' := [(5, .int 0), (0, .ref (r 0)), (1, .int p0), (2, .int p1), (3, .int p2), (4, .int p3)]) hx hb dX9_isRest_1 hl (by decide) rfl (fun ls hl => ?_)
  have L3 : ∀ (N3 : Nat) (y3_5 : Int32) (m3_i_askHouse m3_i_askTune : Int32) (m3_J : Nat → Nat → Int32) (H3 : Heap) (locs : List Loc) (ls : Array Slot) (g3_0 : 0 ≤ y3_5.toInt) (g3_1 : y3_5.toInt ≤ 5) (hP : va_P (dC, dI) vwCl (WM r ct i_taped i_size i_faultKind i_at i_end i_token i_number i_bank i_rb i_codes i_within i_piled i_unitsInRule m3_i_askHouse m3_i_askTune i_acts i_undone i_laid i_knowns i_time f_text f_tunes f_houses f_hums f_told f_many f_ruleFrom f_ruleTo f_code f_eWhat f_eSign f_all f_kept f_was f_sTune f_boxAll m3_J L) H3) (hD : va_D A (WM r ct i_taped i_size i_faultKind i_at i_end i_token i_number i_bank i_rb i_codes i_within i_piled i_unitsInRule m3_i_askHouse m3_i_askTune i_acts i_undone i_laid i_knowns i_time f_text f_tunes f_houses f_hums f_told f_many f_ruleFrom f_ruleTo f_code f_eWhat f_eSign f_all f_kept f_was f_sTune f_boxAll m3_J L)) (hS : va_S A s.heap H3 locs) (hl : lv_has ls 6 [(0, .ref (r 0)), (1, .int p0), (2, .int p1), (3, .int p2), (4, .int p3), (5, .int y3_5)]) (hM : -1 * y3_5.toInt + 5 < (N3 : Int)), W p l e { frames := 22, cells := 0, slots := 0, locals := 730 } s m ([.ref (r 0), .int p0, .int p1, .int p2, .int p3] : List Value).toArray below meth c0 H3 locs 0 0 Q (F0 m 3 ls []) := by
    intro N3
    induction N3 with
    | zero =>
      intro y3_5 m3_i_askHouse m3_i_askTune m3_J H3 locs ls g3_0 g3_1 hP hD hS hl hM
      exact ((ob_292 hM g3_0 g3_1)).elim
    | succ N3 ih3 =>
      intro y3_5 m3_i_askHouse m3_i_askTune m3_J H3 locs ls g3_0 g3_1 hP hD hS hl hM
      have hM3 := msucc hM
      refine lv_iload hx hb dX9_isRest_3 (lv_at hl 5 rfl) ?_
      refine lv_aload_n hx hb dX9_isRest_5 rfl (lv_at hl 0 rfl) ?_
      refine va_calli (va_runV (As := []) (rest := [.int y3_5]) ⟨hx, hb, hml, hown, hG⟩ (kX9_songs l dC dI r ct i_taped i_size i_faultKind i_at i_end i_token i_number i_bank i_rb i_codes i_within i_piled i_unitsInRule m3_i_askHouse m3_i_askTune i_acts i_undone i_laid i_knowns i_time f_text f_tunes f_houses f_hums f_told f_many f_ruleFrom f_ruleTo f_code f_eWhat f_eSign f_all f_kept f_was f_sTune f_boxAll m3_J L H3.size hI) (cwV 0 hG (goodV gw1512 gw1514 gw86 gw138 gw1515) rfl rfl rfl hd_X9_songs ⟨(Nat.le_of_ble_eq_true rfl), (Nat.le_of_ble_eq_true rfl)⟩) ⟨fbR, va_recv hK hP (ci := 8) (q0 := 0) rfl rfl, pR_in hP hK⟩ rfl rfl hl.1 rfl (lv_room (Nat.le_of_ble_eq_true rfl)) dX9_isRest_6 ⟨(Nat.le_of_ble_eq_true rfl), (Nat.le_of_ble_eq_true rfl)⟩) hS (fun q hq h => absurd hq (Nat.not_lt.mpr h)) (fun q h => hA q (Nat.le_trans hS.1 h)) (fun r_4 u_ t_ H3 locs ht hvm hw hB hz1 hk1 hS => ?_)
      subst hw
      have hP := wk hP hk1
      have f5 := hB
      have f6 : r_4.toInt = (f_tunes (i_bank.toInt).toNat).toInt := (ob_278 f5)
      refine lv_icmp_ge (tgt := 68) hx hb dX9_isRest_9 (by decide) (fun c_7 => ?_) (fun c_7 => ?_)
      · skip
        have f8 : r_4.toInt ≤ y3_5.toInt := qi_le c_7 rfl rfl
        refine lv_iconst (v := 1) hx hb dX9_isRest_68 (by decide) ?_
        rw [hQ]
        exact W.zret (v := 1) hx hb hr (by decide) (fun t ht hW => ⟨⟨1, 1, rfl, rfl, ⟨m3_i_askHouse, m3_i_askTune, m3_J, by rw [ht]; exact hP, hD, hI, (ob_591 zc_1), (ob_9 zc_1), (ob_10 zc_1)⟩⟩, hS.F ht⟩) hS.2.2 dX9_isRest_69
      · skip
        have f9 : y3_5.toInt < r_4.toInt := qi_nle c_7 rfl rfl
        refine lv_aload_n hx hb dX9_isRest_12 rfl (lv_at hl 0 rfl) ?_
        refine lv_iload hx hb dX9_isRest_13 (lv_at hl 5 rfl) ?_
        refine va_calli (va_runV (As := [.int y3_5]) (rest := []) ⟨hx, hb, hml, hown, hG⟩ (kX9_isOnCart l dC dI r ct i_taped i_size i_faultKind i_at i_end i_token i_number i_bank i_rb i_codes i_within i_piled i_unitsInRule m3_i_askHouse m3_i_askTune i_acts i_undone i_laid i_knowns i_time f_text f_tunes f_houses f_hums f_told f_many f_ruleFrom f_ruleTo f_code f_eWhat f_eSign f_all f_kept f_was f_sTune f_boxAll m3_J L y3_5 H3.size hI (ob_133 g3_0) (ob_361 f9 f6)) (cwV 1 hG (goodV gw1704 gw1706 gw111 gw138 gw1707) rfl rfl rfl hd_X9_isOnCart ⟨(Nat.le_of_ble_eq_true rfl), (Nat.le_of_ble_eq_true rfl)⟩) ⟨fbR, va_recv hK hP (ci := 8) (q0 := 0) rfl rfl, pR_in hP hK⟩ rfl rfl hl.1 rfl (lv_room (Nat.le_of_ble_eq_true rfl)) dX9_isRest_15 ⟨(Nat.le_of_ble_eq_true rfl), (Nat.le_of_ble_eq_true rfl)⟩) hS (fun q hq h => absurd hq (Nat.not_lt.mpr h)) (fun q h => hA q (Nat.le_trans hS.1 h)) (fun r_11 u_ t_ H10 locs ht hvm hw hB hz1 hk1 hS => ?_)
        subst hw
        have hP := wk hP hk1
        obtain ⟨f12, f13, f14⟩ := hB
        refine lv_if_eq (tgt := 62) hx hb dX9_isRest_18 (by decide) (fun c_15 => ?_) (fun c_15 => ?_)
        · skip
          have f16 : r_11.toInt = 0 := qi_eq c_15 rfl zc_0
          have f17 : (f_all (y3_5.toInt).toNat).toInt + 1 ≠ 0 := (ob_518 f12 f16)
          have f18 : r_11.toInt = 0 := (ob_162 f13 f14 f16)
          obtain ⟨x19, ex19⟩ : ∃ y : Int32, y = y3_5 + Int32.ofInt 1 := ⟨_, rfl⟩
          have f20 : x19.toInt = y3_5.toInt + 1 := (ob_139 (qi_add ex19 rfl (by decide) (ob_137 g3_0) (ob_314 g3_1)))
          refine lv_iinc (v := x19) (lv' := [(5, .int x19), (0, .ref (r 0)), (1, .int p0), (2, .int p1), (3, .int p2), (4, .int p3)]) hx hb dX9_isRest_62 hl (k := 5) rfl ex19.symm (by decide) rfl (fun ls hl => ?_)
          refine lv_goto (tgt := 3) hx hb dX9_isRest_65 (by decide) ?_
          exact ih3 x19 m3_i_askHouse m3_i_askTune m3_J H10 _ _ (ob_140 g3_0 f20) (ob_354 f1 f9 f6 f20) hP hD hS (lv_sub hl [1, 2, 3, 4, 5, 0] rfl) (ob_316 hM3 f20)
        · skip
          have f21 : r_11.toInt ≠ 0 := qi_ne c_15 rfl zc_0
          have f22 : 1 ≤ r_11.toInt := (ob_519 f12 f21)
          have f23 : (f_all (y3_5.toInt).toNat).toInt + 1 = 0 := (ob_520 f12 f21)
          have f24 : r_11.toInt = 1 := (ob_167 f13 f14 f22)
          refine lv_aload_n hx hb dX9_isRest_21 rfl (lv_at hl 0 rfl) ?_
          refine lv_iload_n hx hb dX9_isRest_22 rfl (lv_at hl 1 rfl) ?_
          refine lv_iload hx hb dX9_isRest_23 (lv_at hl 5 rfl) ?_
          refine lv_iload hx hb dX9_isRest_25 (lv_at hl 4 rfl) ?_
          have hFc := frA hD hS hA
          refine va_calli (va_runV (As := [.int p0, .int y3_5, .int p3]) (rest := []) ⟨hx, hb, hml, hown, hG⟩ (kX9_gainOf l dC dI r ct i_taped i_size i_faultKind i_at i_end i_token i_number i_bank i_rb i_codes i_within i_piled i_unitsInRule m3_i_askHouse m3_i_askTune i_acts i_undone i_laid i_knowns i_time f_text f_tunes f_houses f_hums f_told f_many f_ruleFrom f_ruleTo f_code f_eWhat f_eSign f_all f_kept f_was f_sTune f_boxAll m3_J L p0 y3_5 p3 H10.size hI (ob_108 hp0 hp1) (ob_368 hp1) (ob_133 g3_0) (ob_361 f9 f6)) (cwV 3 hG (goodV gw1806 gw1808 gw121 gw138 gw1809) rfl rfl rfl hd_X9_gainOf ⟨(Nat.le_of_ble_eq_true rfl), (Nat.le_of_ble_eq_true rfl)⟩) ⟨fbW, va_recv hK hP (ci := 8) (q0 := 0) rfl rfl, pW_in hP hK hD⟩ rfl rfl hl.1 rfl (lv_room (Nat.le_of_ble_eq_true rfl)) dX9_isRest_27 ⟨(Nat.le_of_ble_eq_true rfl), (Nat.le_of_ble_eq_true rfl)⟩) hS (fun q _ h => hFc q h) hFc (fun r_26 u_ t_ H25 locs ht hvm hw hB hz1 hk1 hS => ?_)
          subst hw
          obtain ⟨x27, x28, J29, hP1, hD1, hI31, f30⟩ := hB
          rw [ht] at hP1
          have hP := hP1
          have hD := dW hFc hD1
          obtain ⟨im32, im33, im34, im35, im36, im37, im38, im39, im40, im41, im42, im43, im44, im45, im46, im47, im48, im49, im50, im51, im52, im53, im54, im55, im56, im57, im58, im59, im60, im61, im62⟩ := id hI31
          refine lv_aload_n hx hb dX9_isRest_30 rfl (lv_at hl 0 rfl) ?_
          refine lv_iload_n hx hb dX9_isRest_31 rfl (lv_at hl 1 rfl) ?_
          refine lv_iload_n hx hb dX9_isRest_32 rfl (lv_at hl 3 rfl) ?_
          refine lv_iload hx hb dX9_isRest_33 (lv_at hl 4 rfl) ?_
          have hFc := frA hD hS hA
          refine va_calli (va_runV (As := [.int p0, .int p2, .int p3]) (rest := [.int r_26]) ⟨hx, hb, hml, hown, hG⟩ (kX9_gainOf l dC dI r ct i_taped i_size i_faultKind i_at i_end i_token i_number i_bank i_rb i_codes i_within i_piled i_unitsInRule x27 x28 i_acts i_undone i_laid i_knowns i_time f_text f_tunes f_houses f_hums f_told f_many f_ruleFrom f_ruleTo f_code f_eWhat f_eSign f_all f_kept f_was f_sTune f_boxAll J29 L p0 p2 p3 H25.size hI31 (ob_108 hp0 hp1) (ob_368 hp1) (ob_108 hp4 hp5) (ob_368 hp5)) (cwV 3 hG (goodV gw1806 gw1808 gw121 gw138 gw1809) rfl rfl rfl hd_X9_gainOf ⟨(Nat.le_of_ble_eq_true rfl), (Nat.le_of_ble_eq_true rfl)⟩) ⟨fbW, va_recv hK hP (ci := 8) (q0 := 0) rfl rfl, pW_in hP hK hD⟩ rfl rfl hl.1 rfl (lv_room (Nat.le_of_ble_eq_true rfl)) dX9_isRest_35 ⟨(Nat.le_of_ble_eq_true rfl), (Nat.le_of_ble_eq_true rfl)⟩) hS (fun q _ h => hFc q h) hFc (fun r_64 u_ t_ H63 locs ht hvm hw hB hz1 hk1 hS => ?_)
          subst hw
          obtain ⟨x65, x66, J67, hP1, hD1, hI69, f68⟩ := hB
          rw [ht] at hP1
          have hP := hP1
          have hD := dW hFc hD1
          obtain ⟨im70, im71, im72, im73, im74, im75, im76, im77, im78, im79, im80, im81, im82, im83, im84, im85, im86, im87, im88, im89, im90, im91, im92, im93, im94, im95, im96, im97, im98, im99, im100⟩ := id hI69
          refine lv_icmp_gt (tgt := 60) hx hb dX9_isRest_38 (by decide) (fun c_101 => ?_) (fun c_101 => ?_)
          · skip
            have f102 : r_64.toInt < r_26.toInt := qi_lt c_101 rfl rfl
            refine lv_iconst (v := 0) hx hb dX9_isRest_60 (by decide) ?_
            rw [hQ]
            exact W.zret (v := 0) hx hb hr (by decide) (fun t ht hW => ⟨⟨0, 0, rfl, rfl, ⟨x65, x66, J67, by rw [ht]; exact hP, hD, hI69, (ob_599 zc_0), (ob_5 zc_0), (ob_6 zc_0)⟩⟩, hS.F ht⟩) hS.2.2 dX9_isRest_61
          · skip
            have f103 : r_26.toInt ≤ r_64.toInt := qi_nlt c_101 rfl rfl
            refine lv_aload_n hx hb dX9_isRest_41 rfl (lv_at hl 0 rfl) ?_
            refine lv_iload_n hx hb dX9_isRest_42 rfl (lv_at hl 2 rfl) ?_
            refine lv_iload hx hb dX9_isRest_43 (lv_at hl 5 rfl) ?_
            refine lv_iload_n hx hb dX9_isRest_45 rfl (lv_at hl 3 rfl) ?_
            have hFc := frA hD hS hA
            refine va_calli (va_runV (As := [.int p1, .int y3_5, .int p2]) (rest := []) ⟨hx, hb, hml, hown, hG⟩ (kX9_gainOf l dC dI r ct i_taped i_size i_faultKind i_at i_end i_token i_number i_bank i_rb i_codes i_within i_piled i_unitsInRule x65 x66 i_acts i_undone i_laid i_knowns i_time f_text f_tunes f_houses f_hums f_told f_many f_ruleFrom f_ruleTo f_code f_eWhat f_eSign f_all f_kept f_was f_sTune f_boxAll J67 L p1 y3_5 p2 H63.size hI69 (ob_108 hp2 hp3) (ob_368 hp3) (ob_133 g3_0) (ob_361 f9 f6)) (cwV 3 hG (goodV gw1806 gw1808 gw121 gw138 gw1809) rfl rfl rfl hd_X9_gainOf ⟨(Nat.le_of_ble_eq_true rfl), (Nat.le_of_ble_eq_true rfl)⟩) ⟨fbW, va_recv hK hP (ci := 8) (q0 := 0) rfl rfl, pW_in hP hK hD⟩ rfl rfl hl.1 rfl (lv_room (Nat.le_of_ble_eq_true rfl)) dX9_isRest_46 ⟨(Nat.le_of_ble_eq_true rfl), (Nat.le_of_ble_eq_true rfl)⟩) hS (fun q _ h => hFc q h) hFc (fun r_105 u_ t_ H104 locs ht hvm hw hB hz1 hk1 hS => ?_)
            subst hw
            obtain ⟨x106, x107, J108, hP1, hD1, hI110, f109⟩ := hB
            rw [ht] at hP1
            have hP := hP1
            have hD := dW hFc hD1
            obtain ⟨im111, im112, im113, im114, im115, im116, im117, im118, im119, im120, im121, im122, im123, im124, im125, im126, im127, im128, im129, im130, im131, im132, im133, im134, im135, im136, im137, im138, im139, im140, im141⟩ := id hI110
            refine lv_aload_n hx hb dX9_isRest_49 rfl (lv_at hl 0 rfl) ?_
            refine lv_iload_n hx hb dX9_isRest_50 rfl (lv_at hl 2 rfl) ?_
            refine lv_iload hx hb dX9_isRest_51 (lv_at hl 4 rfl) ?_
            refine lv_iload_n hx hb dX9_isRest_53 rfl (lv_at hl 3 rfl) ?_
            have hFc := frA hD hS hA
            refine va_calli (va_runV (As := [.int p1, .int p3, .int p2]) (rest := [.int r_105]) ⟨hx, hb, hml, hown, hG⟩ (kX9_gainOf l dC dI r ct i_taped i_size i_faultKind i_at i_end i_token i_number i_bank i_rb i_codes i_within i_piled i_unitsInRule x106 x107 i_acts i_undone i_laid i_knowns i_time f_text f_tunes f_houses f_hums f_told f_many f_ruleFrom f_ruleTo f_code f_eWhat f_eSign f_all f_kept f_was f_sTune f_boxAll J108 L p1 p3 p2 H104.size hI110 (ob_108 hp2 hp3) (ob_368 hp3) (ob_108 hp6 hp7) (ob_368 hp7)) (cwV 3 hG (goodV gw1806 gw1808 gw121 gw138 gw1809) rfl rfl rfl hd_X9_gainOf ⟨(Nat.le_of_ble_eq_true rfl), (Nat.le_of_ble_eq_true rfl)⟩) ⟨fbW, va_recv hK hP (ci := 8) (q0 := 0) rfl rfl, pW_in hP hK hD⟩ rfl rfl hl.1 rfl (lv_room (Nat.le_of_ble_eq_true rfl)) dX9_isRest_54 ⟨(Nat.le_of_ble_eq_true rfl), (Nat.le_of_ble_eq_true rfl)⟩) hS (fun q _ h => hFc q h) hFc (fun r_143 u_ t_ H142 locs ht hvm hw hB hz1 hk1 hS => ?_)
            subst hw
            obtain ⟨x144, x145, J146, hP1, hD1, hI148, f147⟩ := hB
            rw [ht] at hP1
            have hP := hP1
            have hD := dW hFc hD1
            obtain ⟨im149, im150, im151, im152, im153, im154, im155, im156, im157, im158, im159, im160, im161, im162, im163, im164, im165, im166, im167, im168, im169, im170, im171, im172, im173, im174, im175, im176, im177, im178, im179⟩ := id hI148
            refine lv_icmp_le (tgt := 62) hx hb dX9_isRest_57 (by decide) (fun c_180 => ?_) (fun c_180 => ?_)
            · skip
              have f181 : r_105.toInt ≤ r_143.toInt := qi_le c_180 rfl rfl
              obtain ⟨x182, ex182⟩ : ∃ y : Int32, y = y3_5 + Int32.ofInt 1 := ⟨_, rfl⟩
              have f183 : x182.toInt = y3_5.toInt + 1 := (ob_139 (qi_add ex182 rfl (by decide) (ob_137 g3_0) (ob_314 g3_1)))
              refine lv_iinc (v := x182) (lv' := [(5, .int x182), (0, .ref (r 0)), (1, .int p0), (2, .int p1), (3, .int p2), (4, .int p3)]) hx hb dX9_isRest_62 hl (k := 5) rfl ex182.symm (by decide) rfl (fun ls hl => ?_)
              refine lv_goto (tgt := 3) hx hb dX9_isRest_65 (by decide) ?_
              exact ih3 x182 x144 x145 J146 H142 _ _ (ob_140 g3_0 f183) (ob_354 f1 f9 f6 f183) hP hD hS (lv_sub hl [1, 2, 3, 4, 5, 0] rfl) (ob_316 hM3 f183)
            · skip
              have f184 : r_143.toInt < r_105.toInt := qi_nle c_180 rfl rfl
              refine lv_iconst (v := 0) hx hb dX9_isRest_60 (by decide) ?_
              rw [hQ]
              exact W.zret (v := 0) hx hb hr (by decide) (fun t ht hW => ⟨⟨0, 0, rfl, rfl, ⟨x144, x145, J146, by rw [ht]; exact hP, hD, hI148, (ob_599 zc_0), (ob_5 zc_0), (ob_6 zc_0)⟩⟩, hS.F ht⟩) hS.2.2 dX9_isRest_61
  exact L3 (-1 * (0 : Int32).toInt + 5 + 1).toNat 0 i_askHouse i_askTune J s.heap _ _ (ob_5 zc_0) (ob_317 zc_0) hP hD hS (lv_sub hl [1, 2, 3, 4, 5, 0] rfl) (mlt (ob_318 zc_0))
set_option maxHeartbeats 4000000 in
set_option maxRecDepth 100000 in
theorem kX9_rivals (l : Launch) (dC : Nat → ClassId) (dI : Nat → Nat → Nat) (r : Nat → Nat) (ct : Nat → ClassId) (i_taped i_size i_faultKind i_at i_end i_token i_number i_bank i_rb i_codes i_within i_piled i_unitsInRule i_askHouse i_askTune i_acts i_undone i_laid i_knowns i_time : Int32) (f_text f_tunes f_houses f_hums f_told f_many f_ruleFrom f_ruleTo f_code f_eWhat f_eSign f_all f_kept f_was f_sTune f_boxAll : Nat → Int32) (J : Nat → Nat → Int32) (L : Nat → Nat → Int64) (p0 p1 : Int32) (sz : Nat) (hI : (IM i_taped i_size i_at i_end i_bank i_rb i_acts i_undone i_laid i_knowns i_time f_tunes f_houses f_hums f_told f_many f_ruleFrom f_ruleTo f_code f_all f_kept f_was f_sTune f_boxAll)) : Met l yX9_rivals (.code yX9_rivals cX9_rivals 8 (some .int) :: GW) { frames := 24, cells := 0, slots := 0, locals := 795 } (va_Pc [.ref (r 0), .int p0, .int p1] (pW (dC, dI) (WM r ct i_taped i_size i_faultKind i_at i_end i_token i_number i_bank i_rb i_codes i_within i_piled i_unitsInRule i_askHouse i_askTune i_acts i_undone i_laid i_knowns i_time f_text f_tunes f_houses f_hums f_told f_many f_ruleFrom f_ruleTo f_code f_eWhat f_eSign f_all f_kept f_was f_sTune f_boxAll J L) (TM ct) sz)) (va_Qi (fun (r0 : Int32) (u : Int32) => r0 = u) (fun (u : Int32) (t : State) => ∃ (n_i_askHouse n_i_askTune n_i_laid : Int32) (n_J : Nat → Nat → Int32), va_P (dC, dI) vwCl (WM r ct i_taped i_size i_faultKind i_at i_end i_token i_number i_bank i_rb i_codes i_within i_piled i_unitsInRule n_i_askHouse n_i_askTune i_acts i_undone n_i_laid i_knowns i_time f_text f_tunes f_houses f_hums f_told f_many f_ruleFrom f_ruleTo f_code f_eWhat f_eSign f_all f_kept f_was f_sTune f_boxAll n_J L) t.heap ∧ va_D (va_A (WM r ct i_taped i_size i_faultKind i_at i_end i_token i_number i_bank i_rb i_codes i_within i_piled i_unitsInRule i_askHouse i_askTune i_acts i_undone i_laid i_knowns i_time f_text f_tunes f_houses f_hums f_told f_many f_ruleFrom f_ruleTo f_code f_eWhat f_eSign f_all f_kept f_was f_sTune f_boxAll J L) sz) (WM r ct i_taped i_size i_faultKind i_at i_end i_token i_number i_bank i_rb i_codes i_within i_piled i_unitsInRule n_i_askHouse n_i_askTune i_acts i_undone n_i_laid i_knowns i_time f_text f_tunes f_houses f_hums f_told f_many f_ruleFrom f_ruleTo f_code f_eWhat f_eSign f_all f_kept f_was f_sTune f_boxAll n_J L) ∧ (IM i_taped i_size i_at i_end i_bank i_rb i_acts i_undone n_i_laid i_knowns i_time f_tunes f_houses f_hums f_told f_many f_ruleFrom f_ruleTo f_code f_all f_kept f_was f_sTune f_boxAll)) (va_A (WM r ct i_taped i_size i_faultKind i_at i_end i_token i_number i_bank i_rb i_codes i_within i_piled i_unitsInRule i_askHouse i_askTune i_acts i_undone i_laid i_knowns i_time f_text f_tunes f_houses f_hums f_told f_many f_ruleFrom f_ruleTo f_code f_eWhat f_eSign f_all f_kept f_was f_sTune f_boxAll J L) sz)) 0 0 (va_A (WM r ct i_taped i_size i_faultKind i_at i_end i_token i_number i_bank i_rb i_codes i_within i_piled i_unitsInRule i_askHouse i_askTune i_acts i_undone i_laid i_knowns i_time f_text f_tunes f_houses f_hums f_told f_many f_ruleFrom f_ruleTo f_code f_eWhat f_eSign f_all f_kept f_was f_sTune f_boxAll J L) sz) := by
  refine Met.ofW (cc := cX9_rivals) (maxL := 8) (ret := (some .int)) (by decide) rfl ?_
  intro p e s m args below meth c0 s₁ B hml hv
  obtain ⟨rfl, hsz, hP, hK, hD0⟩ := hv
  have hx := B.exec
  have hb := B.bytes
  have hr := B.returns
  have hts := atoms_spec (ws := .code yX9_rivals cX9_rivals 8 (some .int) :: GW) B.pre
  have hG : ∀ w ∈ GW, w.before _ s = true := fun w h => hts w (List.mem_cons_of_mem _ h)
  have hown : s.vm.findClass RX9 = some m.cls := findClass_of_methodNamed B.named
  subst hsz
  have hD := hD0.self (sz := s.heap.size)
  generalize hAe : va_A (WM r ct i_taped i_size i_faultKind i_at i_end i_token i_number i_bank i_rb i_codes i_within i_piled i_unitsInRule i_askHouse i_askTune i_acts i_undone i_laid i_knowns i_time f_text f_tunes f_houses f_hums f_told f_many f_ruleFrom f_ruleTo f_code f_eWhat f_eSign f_all f_kept f_was f_sTune f_boxAll J L) s.heap.size = A at hD ⊢
  have hA : ∀ q : Nat, s.heap.size ≤ q → A q := fun q h => by rw [← hAe]; exact Or.inr h
  have hS : va_S A s.heap s.heap [] := va_S.rf
  have hP : va_P (dC, dI) vwCl (WM r ct i_taped i_size i_faultKind i_at i_end i_token i_number i_bank i_rb i_codes i_within i_piled i_unitsInRule i_askHouse i_askTune i_acts i_undone i_laid i_knowns i_time f_text f_tunes f_houses f_hums f_told f_many f_ruleFrom f_ruleTo f_code f_eWhat f_eSign f_all f_kept f_was f_sTune f_boxAll J L) s.heap := hP
  have hl := lv_entry ([.ref (r 0), .int p0, .int p1]) (n := 8) (Nat.le_of_ble_eq_true rfl)
  rw [lg_entry_eq]
  generalize (lg_sl ([.ref (r 0), .int p0, .int p1]) ++ List.replicate (8 - (lg_sl ([.ref (r 0), .int p0, .int p1])).length) Slot.unset).toArray = ls at hl ⊢
  have hl : lv_has ls 8 [(0, .ref (r 0)), (1, .int p0), (2, .int p1)] := hl
  refine nameQ (fun Q hQ => ?_)
  obtain ⟨im0, im1, im2, im3, im4, im5, im6, im7, im8, im9, im10, im11, im12, im13, im14, im15, im16, im17, im18, im19, im20, im21, im22, im23, im24, im25, im26, im27, im28, im29, im30⟩ := id hI
  have f1 : 0 ≤ (f_tunes (i_bank.toInt).toNat).toInt ∧ (f_tunes (i_bank.toInt).toNat).toInt ≤ 5 := im20 (i_bank.toInt)
  have f2 : 0 ≤ (f_houses (i_bank.toInt).toNat).toInt ∧ (f_houses (i_bank.toInt).toNat).toInt ≤ 4 := im21 (i_bank.toInt)
  refine lv_aload_n hx hb dX9_rivals_0 rfl (lv_at hl 0 rfl) ?_
  refine lv_iconst (v := 0) hx hb dX9_rivals_1 (by decide) ?_
  refine pM_X9_373_0 hx hb hG hown hK hP hD hS dX9_rivals_2 (fun H3 locs hP hD hS => ?_)
  refine lv_iconst (v := 0) hx hb dX9_rivals_5 (by decide) ?_
  refine lv_istore_n (lv' := [(3, .int 0), (0, .ref (r 0)), (1, .int p0), (2, .int p1)]) hx hb dX9_rivals_6 rfl hl (by decide) rfl (fun ls hl => ?_)
  refine lv_iconst (v := 0) hx hb dX9_rivals_7 (by decide) ?_
  refine lv_istore (lv' := [(4, .int 0), (3, .int 0), (0, .ref (r 0)), (1, .int p0), (2, .int p1)]) hx hb dX9_rivals_8 hl (by decide) rfl (fun ls hl => ?_)
  have L10 : ∀ (N10 : Nat) (y10_3 y10_4 : Int32) (H10 : Heap) (locs : List Loc) (ls : Array Slot) (g10_0 : 0 ≤ y10_4.toInt) (g10_1 : y10_4.toInt ≤ 5) (hP : va_P (dC, dI) vwCl (WM r ct i_taped i_size i_faultKind i_at i_end i_token i_number i_bank i_rb i_codes i_within i_piled i_unitsInRule i_askHouse i_askTune i_acts i_undone 0 i_knowns i_time f_text f_tunes f_houses f_hums f_told f_many f_ruleFrom f_ruleTo f_code f_eWhat f_eSign f_all f_kept f_was f_sTune f_boxAll J L) H10) (hD : va_D A (WM r ct i_taped i_size i_faultKind i_at i_end i_token i_number i_bank i_rb i_codes i_within i_piled i_unitsInRule i_askHouse i_askTune i_acts i_undone 0 i_knowns i_time f_text f_tunes f_houses f_hums f_told f_many f_ruleFrom f_ruleTo f_code f_eWhat f_eSign f_all f_kept f_was f_sTune f_boxAll J L)) (hS : va_S A s.heap H10 locs) (hl : lv_has ls 8 [(0, .ref (r 0)), (1, .int p0), (2, .int p1), (3, .int y10_3), (4, .int y10_4)]) (hM : -1 * y10_4.toInt + 5 < (N10 : Int)), W p l e { frames := 24, cells := 0, slots := 0, locals := 795 } s m ([.ref (r 0), .int p0, .int p1] : List Value).toArray below meth c0 H10 locs 0 0 Q (F0 m 10 ls []) := by
    intro N10
    induction N10 with
    | zero =>
      intro y10_3 y10_4 H10 locs ls g10_0 g10_1 hP hD hS hl hM
      exact ((ob_292 hM g10_0 g10_1)).elim
    | succ N10 ih10 =>
      intro y10_3 y10_4 H10 locs ls g10_0 g10_1 hP hD hS hl hM
      have hM10 := msucc hM
      refine lv_iload hx hb dX9_rivals_10 (lv_at hl 4 rfl) ?_
      refine lv_aload_n hx hb dX9_rivals_12 rfl (lv_at hl 0 rfl) ?_
      refine va_calli (va_runV (As := []) (rest := [.int y10_4]) ⟨hx, hb, hml, hown, hG⟩ (kX9_songs l dC dI r ct i_taped i_size i_faultKind i_at i_end i_token i_number i_bank i_rb i_codes i_within i_piled i_unitsInRule i_askHouse i_askTune i_acts i_undone 0 i_knowns i_time f_text f_tunes f_houses f_hums f_told f_many f_ruleFrom f_ruleTo f_code f_eWhat f_eSign f_all f_kept f_was f_sTune f_boxAll J L H10.size ⟨im0, im1, im2, im3, im4, im5, im6, im7, (ob_5 zc_0), (ob_307 zc_0), im10, im11, im12, im13, im14, im15, im16, im17, im18, im19, im20, im21, im22, im23, im24, im25, im26, im27, im28, im29, im30⟩) (cwV 0 hG (goodV gw1512 gw1514 gw86 gw138 gw1515) rfl rfl rfl hd_X9_songs ⟨(Nat.le_of_ble_eq_true rfl), (Nat.le_of_ble_eq_true rfl)⟩) ⟨fbR, va_recv hK hP (ci := 8) (q0 := 0) rfl rfl, pR_in hP hK⟩ rfl rfl hl.1 rfl (lv_room (Nat.le_of_ble_eq_true rfl)) dX9_rivals_13 ⟨(Nat.le_of_ble_eq_true rfl), (Nat.le_of_ble_eq_true rfl)⟩) hS (fun q hq h => absurd hq (Nat.not_lt.mpr h)) (fun q h => hA q (Nat.le_trans hS.1 h)) (fun r_5 u_ t_ H4 locs ht hvm hw hB hz1 hk1 hS => ?_)
      subst hw
      have hP := wk hP hk1
      have f6 := hB
      have f7 : r_5.toInt = (f_tunes (i_bank.toInt).toNat).toInt := (ob_278 f6)
      refine lv_icmp_ge (tgt := 42) hx hb dX9_rivals_16 (by decide) (fun c_8 => ?_) (fun c_8 => ?_)
      · skip
        have f9 : r_5.toInt ≤ y10_4.toInt := qi_le c_8 rfl rfl
        refine lv_aload_n hx hb dX9_rivals_42 rfl (lv_at hl 0 rfl) ?_
        refine lv_iload_n hx hb dX9_rivals_43 rfl (lv_at hl 1 rfl) ?_
        refine va_calli (va_runV (As := [.int p0]) (rest := []) ⟨hx, hb, hml, hown, hG⟩ (kX9_isHouse l dC dI r ct i_taped i_size i_faultKind i_at i_end i_token i_number i_bank i_rb i_codes i_within i_piled i_unitsInRule i_askHouse i_askTune i_acts i_undone 0 i_knowns i_time f_text f_tunes f_houses f_hums f_told f_many f_ruleFrom f_ruleTo f_code f_eWhat f_eSign f_all f_kept f_was f_sTune f_boxAll J L p0 H4.size ⟨im0, im1, im2, im3, im4, im5, im6, im7, (ob_5 zc_0), (ob_307 zc_0), im10, im11, im12, im13, im14, im15, im16, im17, im18, im19, im20, im21, im22, im23, im24, im25, im26, im27, im28, im29, im30⟩) (cwV 1 hG (goodV gw1542 gw1544 gw90 gw138 gw1545) rfl rfl rfl hd_X9_isHouse ⟨(Nat.le_of_ble_eq_true rfl), (Nat.le_of_ble_eq_true rfl)⟩) ⟨fbR, va_recv hK hP (ci := 8) (q0 := 0) rfl rfl, pR_in hP hK⟩ rfl rfl hl.1 rfl (lv_room (Nat.le_of_ble_eq_true rfl)) dX9_rivals_44 ⟨(Nat.le_of_ble_eq_true rfl), (Nat.le_of_ble_eq_true rfl)⟩) hS (fun q hq h => absurd hq (Nat.not_lt.mpr h)) (fun q h => hA q (Nat.le_trans hS.1 h)) (fun r_11 u_ t_ H10 locs ht hvm hw hB hz1 hk1 hS => ?_)
        subst hw
        have hP := wk hP hk1
        obtain ⟨f12, f13, f14, f15, f16⟩ := hB
        refine lv_if_eq (tgt := 67) hx hb dX9_rivals_47 (by decide) (fun c_17 => ?_) (fun c_17 => ?_)
        · skip
          have f18 : r_11.toInt = 0 := qi_eq c_17 rfl zc_0
          refine lv_iconst (v := (-1)) hx hb dX9_rivals_67 (by decide) ?_
          rw [hQ]
          exact W.iret (v := (-1)) hx hb hr (fun t ht hW => ⟨⟨(-1), (-1), rfl, rfl, ⟨i_askHouse, i_askTune, 0, J, by rw [ht]; exact hP, hD, ⟨im0, im1, im2, im3, im4, im5, im6, im7, (ob_5 zc_0), (ob_307 zc_0), im10, im11, im12, im13, im14, im15, im16, im17, im18, im19, im20, im21, im22, im23, im24, im25, im26, im27, im28, im29, im30⟩⟩⟩, hS.F ht⟩) hS.2.2 dX9_rivals_68
        · skip
          have f19 : r_11.toInt ≠ 0 := qi_ne c_17 rfl zc_0
          have f20 : 1 ≤ r_11.toInt := (ob_399 f12 f19)
          have f21 : 0 ≤ p0.toInt := (ob_400 f12 f19)
          have f22 : p0.toInt + 1 ≤ (f_houses (i_bank.toInt).toNat).toInt := (ob_401 f12 f19)
          have f23 : r_11.toInt = 1 := (ob_402 f14 f20)
          refine lv_aload_n hx hb dX9_rivals_50 rfl (lv_at hl 0 rfl) ?_
          refine lv_iload_n hx hb dX9_rivals_51 rfl (lv_at hl 2 rfl) ?_
          refine va_calli (va_runV (As := [.int p1]) (rest := []) ⟨hx, hb, hml, hown, hG⟩ (kX9_isHouse l dC dI r ct i_taped i_size i_faultKind i_at i_end i_token i_number i_bank i_rb i_codes i_within i_piled i_unitsInRule i_askHouse i_askTune i_acts i_undone 0 i_knowns i_time f_text f_tunes f_houses f_hums f_told f_many f_ruleFrom f_ruleTo f_code f_eWhat f_eSign f_all f_kept f_was f_sTune f_boxAll J L p1 H10.size ⟨im0, im1, im2, im3, im4, im5, im6, im7, (ob_5 zc_0), (ob_307 zc_0), im10, im11, im12, im13, im14, im15, im16, im17, im18, im19, im20, im21, im22, im23, im24, im25, im26, im27, im28, im29, im30⟩) (cwV 1 hG (goodV gw1542 gw1544 gw90 gw138 gw1545) rfl rfl rfl hd_X9_isHouse ⟨(Nat.le_of_ble_eq_true rfl), (Nat.le_of_ble_eq_true rfl)⟩) ⟨fbR, va_recv hK hP (ci := 8) (q0 := 0) rfl rfl, pR_in hP hK⟩ rfl rfl hl.1 rfl (lv_room (Nat.le_of_ble_eq_true rfl)) dX9_rivals_52 ⟨(Nat.le_of_ble_eq_true rfl), (Nat.le_of_ble_eq_true rfl)⟩) hS (fun q hq h => absurd hq (Nat.not_lt.mpr h)) (fun q h => hA q (Nat.le_trans hS.1 h)) (fun r_25 u_ t_ H24 locs ht hvm hw hB hz1 hk1 hS => ?_)
          subst hw
          have hP := wk hP hk1
          obtain ⟨f26, f27, f28, f29, f30⟩ := hB
          refine lv_if_eq (tgt := 67) hx hb dX9_rivals_55 (by decide) (fun c_31 => ?_) (fun c_31 => ?_)
          · skip
            have f32 : r_25.toInt = 0 := qi_eq c_31 rfl zc_0
            refine lv_iconst (v := (-1)) hx hb dX9_rivals_67 (by decide) ?_
            rw [hQ]
            exact W.iret (v := (-1)) hx hb hr (fun t ht hW => ⟨⟨(-1), (-1), rfl, rfl, ⟨i_askHouse, i_askTune, 0, J, by rw [ht]; exact hP, hD, ⟨im0, im1, im2, im3, im4, im5, im6, im7, (ob_5 zc_0), (ob_307 zc_0), im10, im11, im12, im13, im14, im15, im16, im17, im18, im19, im20, im21, im22, im23, im24, im25, im26, im27, im28, im29, im30⟩⟩⟩, hS.F ht⟩) hS.2.2 dX9_rivals_68
          · skip
            have f33 : r_25.toInt ≠ 0 := qi_ne c_31 rfl zc_0
            have f34 : 1 ≤ r_25.toInt := (ob_399 f26 f33)
            have f35 : 0 ≤ p1.toInt := (ob_400 f26 f33)
            have f36 : p1.toInt + 1 ≤ (f_houses (i_bank.toInt).toNat).toInt := (ob_401 f26 f33)
            have f37 : r_25.toInt = 1 := (ob_402 f28 f34)
            refine lv_iload_n hx hb dX9_rivals_58 rfl (lv_at hl 1 rfl) ?_
            refine lv_iload_n hx hb dX9_rivals_59 rfl (lv_at hl 2 rfl) ?_
            refine lv_icmp_eq (tgt := 67) hx hb dX9_rivals_60 (by decide) (fun c_38 => ?_) (fun c_38 => ?_)
            · skip
              have f39 : p0.toInt = p1.toInt := qi_eq c_38 rfl rfl
              refine lv_iconst (v := (-1)) hx hb dX9_rivals_67 (by decide) ?_
              rw [hQ]
              exact W.iret (v := (-1)) hx hb hr (fun t ht hW => ⟨⟨(-1), (-1), rfl, rfl, ⟨i_askHouse, i_askTune, 0, J, by rw [ht]; exact hP, hD, ⟨im0, im1, im2, im3, im4, im5, im6, im7, (ob_5 zc_0), (ob_307 zc_0), im10, im11, im12, im13, im14, im15, im16, im17, im18, im19, im20, im21, im22, im23, im24, im25, im26, im27, im28, im29, im30⟩⟩⟩, hS.F ht⟩) hS.2.2 dX9_rivals_68
            · skip
              have f40 : p0.toInt ≠ p1.toInt := qi_ne c_38 rfl rfl
              refine lv_iload_n hx hb dX9_rivals_63 rfl (lv_at hl 3 rfl) ?_
              refine lv_if_ne (tgt := 69) hx hb dX9_rivals_64 (by decide) (fun c_41 => ?_) (fun c_41 => ?_)
              · skip
                have f42 : y10_3.toInt ≠ 0 := qi_ne c_41 rfl zc_0
                refine lv_iconst (v := 0) hx hb dX9_rivals_69 (by decide) ?_
                refine lv_istore (lv' := [(4, .int 0), (0, .ref (r 0)), (1, .int p0), (2, .int p1), (3, .int y10_3)]) hx hb dX9_rivals_70 hl (by decide) rfl (fun ls hl => ?_)
                refine lv_iconst (v := 0) hx hb dX9_rivals_72 (by decide) ?_
                refine lv_istore (lv' := [(5, .int 0), (4, .int 0), (0, .ref (r 0)), (1, .int p0), (2, .int p1), (3, .int y10_3)]) hx hb dX9_rivals_73 hl (by decide) rfl (fun ls hl => ?_)
                have L75 : ∀ (N75 : Nat) (y75_4 y75_5 : Int32) (m75_i_askHouse m75_i_askTune m75_i_laid : Int32) (m75_J : Nat → Nat → Int32) (H75 : Heap) (locs : List Loc) (ls : Array Slot) (g75_0 : 0 ≤ y75_5.toInt) (g75_1 : y75_5.toInt ≤ 25) (g75_2 : 0 ≤ m75_i_laid.toInt) (g75_3 : m75_i_laid.toInt ≤ 4) (gi75_laid_lo : 0 ≤ m75_i_laid.toInt) (gi75_laid_hi : m75_i_laid.toInt ≤ 4) (hP : va_P (dC, dI) vwCl (WM r ct i_taped i_size i_faultKind i_at i_end i_token i_number i_bank i_rb i_codes i_within i_piled i_unitsInRule m75_i_askHouse m75_i_askTune i_acts i_undone m75_i_laid i_knowns i_time f_text f_tunes f_houses f_hums f_told f_many f_ruleFrom f_ruleTo f_code f_eWhat f_eSign f_all f_kept f_was f_sTune f_boxAll m75_J L) H75) (hD : va_D A (WM r ct i_taped i_size i_faultKind i_at i_end i_token i_number i_bank i_rb i_codes i_within i_piled i_unitsInRule m75_i_askHouse m75_i_askTune i_acts i_undone m75_i_laid i_knowns i_time f_text f_tunes f_houses f_hums f_told f_many f_ruleFrom f_ruleTo f_code f_eWhat f_eSign f_all f_kept f_was f_sTune f_boxAll m75_J L)) (hS : va_S A s.heap H75 locs) (hl : lv_has ls 8 [(0, .ref (r 0)), (1, .int p0), (2, .int p1), (3, .int y10_3), (4, .int y75_4), (5, .int y75_5)]) (hM : -1 * y75_5.toInt + 25 < (N75 : Int)), W p l e { frames := 24, cells := 0, slots := 0, locals := 795 } s m ([.ref (r 0), .int p0, .int p1] : List Value).toArray below meth c0 H75 locs 0 0 Q (F0 m 75 ls []) := by
                  intro N75
                  induction N75 with
                  | zero =>
                    intro y75_4 y75_5 m75_i_askHouse m75_i_askTune m75_i_laid m75_J H75 locs ls g75_0 g75_1 g75_2 g75_3 gi75_laid_lo gi75_laid_hi hP hD hS hl hM
                    exact ((ob_700 hM g75_0 g75_1)).elim
                  | succ N75 ih75 =>
                    intro y75_4 y75_5 m75_i_askHouse m75_i_askTune m75_i_laid m75_J H75 locs ls g75_0 g75_1 g75_2 g75_3 gi75_laid_lo gi75_laid_hi hP hD hS hl hM
                    have hM75 := msucc hM
                    refine lv_iload hx hb dX9_rivals_75 (lv_at hl 5 rfl) ?_
                    refine lv_aload_n hx hb dX9_rivals_77 rfl (lv_at hl 0 rfl) ?_
                    refine va_calli (va_runV (As := []) (rest := [.int y75_5]) ⟨hx, hb, hml, hown, hG⟩ (kX9_songs l dC dI r ct i_taped i_size i_faultKind i_at i_end i_token i_number i_bank i_rb i_codes i_within i_piled i_unitsInRule m75_i_askHouse m75_i_askTune i_acts i_undone m75_i_laid i_knowns i_time f_text f_tunes f_houses f_hums f_told f_many f_ruleFrom f_ruleTo f_code f_eWhat f_eSign f_all f_kept f_was f_sTune f_boxAll m75_J L H75.size ⟨im0, im1, im2, im3, im4, im5, im6, im7, gi75_laid_lo, gi75_laid_hi, im10, im11, im12, im13, im14, im15, im16, im17, im18, im19, im20, im21, im22, im23, im24, im25, im26, im27, im28, im29, im30⟩) (cwV 0 hG (goodV gw1512 gw1514 gw86 gw138 gw1515) rfl rfl rfl hd_X9_songs ⟨(Nat.le_of_ble_eq_true rfl), (Nat.le_of_ble_eq_true rfl)⟩) ⟨fbR, va_recv hK hP (ci := 8) (q0 := 0) rfl rfl, pR_in hP hK⟩ rfl rfl hl.1 rfl (lv_room (Nat.le_of_ble_eq_true rfl)) dX9_rivals_78 ⟨(Nat.le_of_ble_eq_true rfl), (Nat.le_of_ble_eq_true rfl)⟩) hS (fun q hq h => absurd hq (Nat.not_lt.mpr h)) (fun q h => hA q (Nat.le_trans hS.1 h)) (fun r_44 u_ t_ H43 locs ht hvm hw hB hz1 hk1 hS => ?_)
                    subst hw
                    have hP := wk hP hk1
                    have f45 := hB
                    have f46 : r_44.toInt = (f_tunes (i_bank.toInt).toNat).toInt := (ob_278 f45)
                    refine lv_aload_n hx hb dX9_rivals_81 rfl (lv_at hl 0 rfl) ?_
                    refine va_calli (va_runV (As := []) (rest := [.int r_44, .int y75_5]) ⟨hx, hb, hml, hown, hG⟩ (kX9_songs l dC dI r ct i_taped i_size i_faultKind i_at i_end i_token i_number i_bank i_rb i_codes i_within i_piled i_unitsInRule m75_i_askHouse m75_i_askTune i_acts i_undone m75_i_laid i_knowns i_time f_text f_tunes f_houses f_hums f_told f_many f_ruleFrom f_ruleTo f_code f_eWhat f_eSign f_all f_kept f_was f_sTune f_boxAll m75_J L H43.size ⟨im0, im1, im2, im3, im4, im5, im6, im7, gi75_laid_lo, gi75_laid_hi, im10, im11, im12, im13, im14, im15, im16, im17, im18, im19, im20, im21, im22, im23, im24, im25, im26, im27, im28, im29, im30⟩) (cwV 0 hG (goodV gw1512 gw1514 gw86 gw138 gw1515) rfl rfl rfl hd_X9_songs ⟨(Nat.le_of_ble_eq_true rfl), (Nat.le_of_ble_eq_true rfl)⟩) ⟨fbR, va_recv hK hP (ci := 8) (q0 := 0) rfl rfl, pR_in hP hK⟩ rfl rfl hl.1 rfl (lv_room (Nat.le_of_ble_eq_true rfl)) dX9_rivals_82 ⟨(Nat.le_of_ble_eq_true rfl), (Nat.le_of_ble_eq_true rfl)⟩) hS (fun q hq h => absurd hq (Nat.not_lt.mpr h)) (fun q h => hA q (Nat.le_trans hS.1 h)) (fun r_48 u_ t_ H47 locs ht hvm hw hB hz1 hk1 hS => ?_)
                    subst hw
                    have hP := wk hP hk1
                    have f49 := hB
                    have f50 : r_48.toInt = (f_tunes (i_bank.toInt).toNat).toInt := (ob_278 f49)
                    refine lv_imul hx hb dX9_rivals_85 ?_
                    refine lv_topi (fun x51 ex51 => ?_)
                    have f52 : 0 * 0 ≤ x51.toInt ∧ x51.toInt ≤ 5 * 5 := qi_mulb ex51 (ob_701 f1 f9 f7 f46) (ob_702 f1 f9 f7 f46) (ob_701 f1 f9 f7 f50) (ob_702 f1 f9 f7 f50) (by decide) (by decide) (by decide)
                    have f53 : x51.toInt = ((f_tunes (i_bank.toInt).toNat).toInt * (f_tunes (i_bank.toInt).toNat).toInt) := qi_mulx ex51 f46 f50 (ob_701 f1 f9 f7 f46) (ob_702 f1 f9 f7 f46) (ob_701 f1 f9 f7 f50) (ob_702 f1 f9 f7 f50) (by decide) (by decide) (by decide)
                    refine lv_icmp_ge (tgt := 176) hx hb dX9_rivals_86 (by decide) (fun c_54 => ?_) (fun c_54 => ?_)
                    · skip
                      have f55 : x51.toInt ≤ y75_5.toInt := qi_le c_54 rfl rfl
                      refine lv_iload hx hb dX9_rivals_176 (lv_at hl 4 rfl) ?_
                      rw [hQ]
                      exact W.iret (v := y75_4) hx hb hr (fun t ht hW => ⟨⟨y75_4, y75_4, rfl, rfl, ⟨m75_i_askHouse, m75_i_askTune, m75_i_laid, m75_J, by rw [ht]; exact hP, hD, ⟨im0, im1, im2, im3, im4, im5, im6, im7, gi75_laid_lo, gi75_laid_hi, im10, im11, im12, im13, im14, im15, im16, im17, im18, im19, im20, im21, im22, im23, im24, im25, im26, im27, im28, im29, im30⟩⟩⟩, hS.F ht⟩) hS.2.2 dX9_rivals_178
                    · skip
                      have f56 : y75_5.toInt < x51.toInt := qi_nle c_54 rfl rfl
                      have f57 : 1 ≤ (f_tunes (i_bank.toInt).toNat).toInt := rv_pos ex51 (ob_278 f46) (ob_278 f50) (ob_703 f1 f9 f7) (ob_704 f1 f9 f7) (ob_133 g75_0) (ob_705 f56 f53)
                      refine lv_iload hx hb dX9_rivals_89 (lv_at hl 5 rfl) ?_
                      refine lv_aload_n hx hb dX9_rivals_91 rfl (lv_at hl 0 rfl) ?_
                      refine va_calli (va_runV (As := []) (rest := [.int y75_5]) ⟨hx, hb, hml, hown, hG⟩ (kX9_songs l dC dI r ct i_taped i_size i_faultKind i_at i_end i_token i_number i_bank i_rb i_codes i_within i_piled i_unitsInRule m75_i_askHouse m75_i_askTune i_acts i_undone m75_i_laid i_knowns i_time f_text f_tunes f_houses f_hums f_told f_many f_ruleFrom f_ruleTo f_code f_eWhat f_eSign f_all f_kept f_was f_sTune f_boxAll m75_J L H47.size ⟨im0, im1, im2, im3, im4, im5, im6, im7, gi75_laid_lo, gi75_laid_hi, im10, im11, im12, im13, im14, im15, im16, im17, im18, im19, im20, im21, im22, im23, im24, im25, im26, im27, im28, im29, im30⟩) (cwV 0 hG (goodV gw1512 gw1514 gw86 gw138 gw1515) rfl rfl rfl hd_X9_songs ⟨(Nat.le_of_ble_eq_true rfl), (Nat.le_of_ble_eq_true rfl)⟩) ⟨fbR, va_recv hK hP (ci := 8) (q0 := 0) rfl rfl, pR_in hP hK⟩ rfl rfl hl.1 rfl (lv_room (Nat.le_of_ble_eq_true rfl)) dX9_rivals_92 ⟨(Nat.le_of_ble_eq_true rfl), (Nat.le_of_ble_eq_true rfl)⟩) hS (fun q hq h => absurd hq (Nat.not_lt.mpr h)) (fun q h => hA q (Nat.le_trans hS.1 h)) (fun r_59 u_ t_ H58 locs ht hvm hw hB hz1 hk1 hS => ?_)
                      subst hw
                      have hP := wk hP hk1
                      have f60 := hB
                      have f61 : r_59.toInt = (f_tunes (i_bank.toInt).toNat).toInt := (ob_278 f60)
                      refine lv_idiv hx hb dX9_rivals_95 (qi_nz (ob_706 f1 f9 f57 f7 f61)) ?_
                      refine lv_topi (fun x62 ex62 => ?_)
                      have f63 : 0 ≤ x62.toInt ∧ x62.toInt ≤ y75_5.toInt := qi_div ex62 rfl rfl (ob_133 g75_0) (ob_706 f1 f9 f57 f7 f61)
                      have f64 : x62.toInt = (y75_5.toInt / (f_tunes (i_bank.toInt).toNat).toInt) := divnn ex62 rfl f61 (ob_133 g75_0) (ob_707 f1 f9 f57 f7)
                      have f65 : x62.toInt < (f_tunes (i_bank.toInt).toNat).toInt := rv_div ex51 (ob_278 f46) (ob_278 f50) (ob_708 f1 f9 f57 f7) (ob_709 f1 f9 f57 f7) (ob_133 g75_0) (ob_705 f56 f53) ex62 (ob_278 f61)
                      refine lv_istore (lv' := [(6, .int x62), (0, .ref (r 0)), (1, .int p0), (2, .int p1), (3, .int y10_3), (4, .int y75_4), (5, .int y75_5)]) hx hb dX9_rivals_96 hl (by decide) rfl (fun ls hl => ?_)
                      refine lv_iload hx hb dX9_rivals_98 (lv_at hl 6 rfl) ?_
                      refine lv_aload_n hx hb dX9_rivals_100 rfl (lv_at hl 1 rfl) ?_
                      refine va_calli (va_runV (As := []) (rest := [.int y75_5]) ⟨hx, hb, hml, hown, hG⟩ (kX9_songs l dC dI r ct i_taped i_size i_faultKind i_at i_end i_token i_number i_bank i_rb i_codes i_within i_piled i_unitsInRule m75_i_askHouse m75_i_askTune i_acts i_undone m75_i_laid i_knowns i_time f_text f_tunes f_houses f_hums f_told f_many f_ruleFrom f_ruleTo f_code f_eWhat f_eSign f_all f_kept f_was f_sTune f_boxAll m75_J L H58.size ⟨im0, im1, im2, im3, im4, im5, im6, im7, gi75_laid_lo, gi75_laid_hi, im10, im11, im12, im13, im14, im15, im16, im17, im18, im19, im20, im21, im22, im23, im24, im25, im26, im27, im28, im29, im30⟩) (cwV 0 hG (goodV gw1512 gw1514 gw86 gw138 gw1515) rfl rfl rfl hd_X9_songs ⟨(Nat.le_of_ble_eq_true rfl), (Nat.le_of_ble_eq_true rfl)⟩) ⟨fbR, va_recv hK hP (ci := 8) (q0 := 0) rfl rfl, pR_in hP hK⟩ rfl rfl hl.1 rfl (lv_room (Nat.le_of_ble_eq_true rfl)) dX9_rivals_101 ⟨(Nat.le_of_ble_eq_true rfl), (Nat.le_of_ble_eq_true rfl)⟩) hS (fun q hq h => absurd hq (Nat.not_lt.mpr h)) (fun q h => hA q (Nat.le_trans hS.1 h)) (fun r_67 u_ t_ H66 locs ht hvm hw hB hz1 hk1 hS => ?_)
                      subst hw
                      have hP := wk hP hk1
                      have f68 := hB
                      have f69 : r_67.toInt = (f_tunes (i_bank.toInt).toNat).toInt := (ob_278 f68)
                      refine lv_irem hx hb dX9_rivals_104 (qi_nz (ob_710 f57 f69)) ?_
                      refine lv_topi (fun x70 ex70 => ?_)
                      have f71 : 0 ≤ x70.toInt ∧ x70.toInt < r_67.toInt ∧ x70.toInt ≤ y75_5.toInt := qi_rem ex70 rfl rfl (ob_133 g75_0) (ob_710 f57 f69)
                      have f72 : x70.toInt = (y75_5.toInt % (f_tunes (i_bank.toInt).toNat).toInt) := remnn ex70 rfl f69 (ob_133 g75_0) (ob_238 f57)
                      refine lv_istore (lv' := [(7, .int x70), (6, .int x62), (0, .ref (r 0)), (1, .int p0), (2, .int p1), (3, .int y10_3), (4, .int y75_4), (5, .int y75_5)]) hx hb dX9_rivals_105 hl (by decide) rfl (fun ls hl => ?_)
                      refine lv_aload_n hx hb dX9_rivals_107 rfl (lv_at hl 2 rfl) ?_
                      refine lv_iload hx hb dX9_rivals_108 (lv_at hl 1 rfl) ?_
                      refine va_calli (va_runV (As := [.int x62]) (rest := []) ⟨hx, hb, hml, hown, hG⟩ (kX9_isOnCart l dC dI r ct i_taped i_size i_faultKind i_at i_end i_token i_number i_bank i_rb i_codes i_within i_piled i_unitsInRule m75_i_askHouse m75_i_askTune i_acts i_undone m75_i_laid i_knowns i_time f_text f_tunes f_houses f_hums f_told f_many f_ruleFrom f_ruleTo f_code f_eWhat f_eSign f_all f_kept f_was f_sTune f_boxAll m75_J L x62 H66.size ⟨im0, im1, im2, im3, im4, im5, im6, im7, gi75_laid_lo, gi75_laid_hi, im10, im11, im12, im13, im14, im15, im16, im17, im18, im19, im20, im21, im22, im23, im24, im25, im26, im27, im28, im29, im30⟩ (ob_711 f63 f65 f64) (ob_712 f65 f64)) (cwV 1 hG (goodV gw1704 gw1706 gw111 gw138 gw1707) rfl rfl rfl hd_X9_isOnCart ⟨(Nat.le_of_ble_eq_true rfl), (Nat.le_of_ble_eq_true rfl)⟩) ⟨fbR, va_recv hK hP (ci := 8) (q0 := 0) rfl rfl, pR_in hP hK⟩ rfl rfl hl.1 rfl (lv_room (Nat.le_of_ble_eq_true rfl)) dX9_rivals_110 ⟨(Nat.le_of_ble_eq_true rfl), (Nat.le_of_ble_eq_true rfl)⟩) hS (fun q hq h => absurd hq (Nat.not_lt.mpr h)) (fun q h => hA q (Nat.le_trans hS.1 h)) (fun r_74 u_ t_ H73 locs ht hvm hw hB hz1 hk1 hS => ?_)
                      subst hw
                      have hP := wk hP hk1
                      obtain ⟨f75, f76, f77⟩ := hB
                      refine lv_if_eq (tgt := 170) hx hb dX9_rivals_113 (by decide) (fun c_78 => ?_) (fun c_78 => ?_)
                      · skip
                        have f79 : r_74.toInt = 0 := qi_eq c_78 rfl zc_0
                        have f80 : (f_all (x62.toInt).toNat).toInt + 1 ≠ 0 := (ob_518 f75 f79)
                        have f81 : r_74.toInt = 0 := (ob_162 f76 f77 f79)
                        obtain ⟨x82, ex82⟩ : ∃ y : Int32, y = y75_5 + Int32.ofInt 1 := ⟨_, rfl⟩
                        have f83 : x82.toInt = y75_5.toInt + 1 := (ob_139 (qi_add ex82 rfl (by decide) (ob_137 g75_0) (ob_713 g75_1)))
                        refine lv_iinc (v := x82) (lv' := [(5, .int x82), (7, .int x70), (6, .int x62), (0, .ref (r 0)), (1, .int p0), (2, .int p1), (3, .int y10_3), (4, .int y75_4)]) hx hb dX9_rivals_170 hl (k := 7) rfl ex82.symm (by decide) rfl (fun ls hl => ?_)
                        refine lv_goto (tgt := 75) hx hb dX9_rivals_173 (by decide) ?_
                        exact ih75 y75_4 x82 m75_i_askHouse m75_i_askTune m75_i_laid m75_J H73 _ _ (ob_140 g75_0 f83) (ob_714 f52 f56 f53 f83) (ob_133 g75_2) (ob_436 g75_3) gi75_laid_lo gi75_laid_hi hP hD hS (lv_sub hl [3, 4, 5, 6, 7, 0] rfl) (ob_715 hM75 f83)
                      · skip
                        have f84 : r_74.toInt ≠ 0 := qi_ne c_78 rfl zc_0
                        have f85 : 1 ≤ r_74.toInt := (ob_519 f75 f84)
                        have f86 : (f_all (x62.toInt).toNat).toInt + 1 = 0 := (ob_520 f75 f84)
                        have f87 : r_74.toInt = 1 := (ob_167 f76 f77 f85)
                        refine lv_aload_n hx hb dX9_rivals_116 rfl (lv_at hl 2 rfl) ?_
                        refine lv_iload hx hb dX9_rivals_117 (lv_at hl 0 rfl) ?_
                        refine va_calli (va_runV (As := [.int x70]) (rest := []) ⟨hx, hb, hml, hown, hG⟩ (kX9_isOnCart l dC dI r ct i_taped i_size i_faultKind i_at i_end i_token i_number i_bank i_rb i_codes i_within i_piled i_unitsInRule m75_i_askHouse m75_i_askTune i_acts i_undone m75_i_laid i_knowns i_time f_text f_tunes f_houses f_hums f_told f_many f_ruleFrom f_ruleTo f_code f_eWhat f_eSign f_all f_kept f_was f_sTune f_boxAll m75_J L x70 H73.size ⟨im0, im1, im2, im3, im4, im5, im6, im7, gi75_laid_lo, gi75_laid_hi, im10, im11, im12, im13, im14, im15, im16, im17, im18, im19, im20, im21, im22, im23, im24, im25, im26, im27, im28, im29, im30⟩ (ob_716 f71 f69 f72) (ob_717 f71 f69 f72)) (cwV 1 hG (goodV gw1704 gw1706 gw111 gw138 gw1707) rfl rfl rfl hd_X9_isOnCart ⟨(Nat.le_of_ble_eq_true rfl), (Nat.le_of_ble_eq_true rfl)⟩) ⟨fbR, va_recv hK hP (ci := 8) (q0 := 0) rfl rfl, pR_in hP hK⟩ rfl rfl hl.1 rfl (lv_room (Nat.le_of_ble_eq_true rfl)) dX9_rivals_119 ⟨(Nat.le_of_ble_eq_true rfl), (Nat.le_of_ble_eq_true rfl)⟩) hS (fun q hq h => absurd hq (Nat.not_lt.mpr h)) (fun q h => hA q (Nat.le_trans hS.1 h)) (fun r_89 u_ t_ H88 locs ht hvm hw hB hz1 hk1 hS => ?_)
                        subst hw
                        have hP := wk hP hk1
                        obtain ⟨f90, f91, f92⟩ := hB
                        refine lv_if_eq (tgt := 170) hx hb dX9_rivals_122 (by decide) (fun c_93 => ?_) (fun c_93 => ?_)
                        · skip
                          have f94 : r_89.toInt = 0 := qi_eq c_93 rfl zc_0
                          have f95 : (f_all (x70.toInt).toNat).toInt + 1 ≠ 0 := (ob_518 f90 f94)
                          have f96 : r_89.toInt = 0 := (ob_162 f91 f92 f94)
                          obtain ⟨x97, ex97⟩ : ∃ y : Int32, y = y75_5 + Int32.ofInt 1 := ⟨_, rfl⟩
                          have f98 : x97.toInt = y75_5.toInt + 1 := (ob_139 (qi_add ex97 rfl (by decide) (ob_137 g75_0) (ob_713 g75_1)))
                          refine lv_iinc (v := x97) (lv' := [(5, .int x97), (7, .int x70), (6, .int x62), (0, .ref (r 0)), (1, .int p0), (2, .int p1), (3, .int y10_3), (4, .int y75_4)]) hx hb dX9_rivals_170 hl (k := 7) rfl ex97.symm (by decide) rfl (fun ls hl => ?_)
                          refine lv_goto (tgt := 75) hx hb dX9_rivals_173 (by decide) ?_
                          exact ih75 y75_4 x97 m75_i_askHouse m75_i_askTune m75_i_laid m75_J H88 _ _ (ob_140 g75_0 f98) (ob_714 f52 f56 f53 f98) (ob_133 g75_2) (ob_436 g75_3) gi75_laid_lo gi75_laid_hi hP hD hS (lv_sub hl [3, 4, 5, 6, 7, 0] rfl) (ob_715 hM75 f98)
                        · skip
                          have f99 : r_89.toInt ≠ 0 := qi_ne c_93 rfl zc_0
                          have f100 : 1 ≤ r_89.toInt := (ob_519 f90 f99)
                          have f101 : (f_all (x70.toInt).toNat).toInt + 1 = 0 := (ob_520 f90 f99)
                          have f102 : r_89.toInt = 1 := (ob_167 f91 f92 f100)
                          refine lv_aload_n hx hb dX9_rivals_125 rfl (lv_at hl 2 rfl) ?_
                          refine lv_iload_n hx hb dX9_rivals_126 rfl (lv_at hl 3 rfl) ?_
                          refine lv_iload_n hx hb dX9_rivals_127 rfl (lv_at hl 4 rfl) ?_
                          refine lv_iload hx hb dX9_rivals_128 (lv_at hl 1 rfl) ?_
                          refine lv_iload hx hb dX9_rivals_130 (lv_at hl 0 rfl) ?_
                          have hFc := frA hD hS hA
                          refine va_calli (va_runV (As := [.int p0, .int p1, .int x62, .int x70]) (rest := []) ⟨hx, hb, hml, hown, hG⟩ (kX9_isRest l dC dI r ct i_taped i_size i_faultKind i_at i_end i_token i_number i_bank i_rb i_codes i_within i_piled i_unitsInRule m75_i_askHouse m75_i_askTune i_acts i_undone m75_i_laid i_knowns i_time f_text f_tunes f_houses f_hums f_told f_many f_ruleFrom f_ruleTo f_code f_eWhat f_eSign f_all f_kept f_was f_sTune f_boxAll m75_J L p0 p1 x62 x70 H88.size ⟨im0, im1, im2, im3, im4, im5, im6, im7, gi75_laid_lo, gi75_laid_hi, im10, im11, im12, im13, im14, im15, im16, im17, im18, im19, im20, im21, im22, im23, im24, im25, im26, im27, im28, im29, im30⟩ (ob_108 f21 f22) (ob_368 f22) (ob_108 f35 f36) (ob_368 f36) (ob_711 f63 f65 f64) (ob_712 f65 f64) (ob_716 f71 f69 f72) (ob_717 f71 f69 f72)) (cwV 4 hG (goodV gw1802 gw1804 gw120 gw138 gw1805) rfl rfl rfl hd_X9_isRest ⟨(Nat.le_of_ble_eq_true rfl), (Nat.le_of_ble_eq_true rfl)⟩) ⟨fbW, va_recv hK hP (ci := 8) (q0 := 0) rfl rfl, pW_in hP hK hD⟩ rfl rfl hl.1 rfl (lv_room (Nat.le_of_ble_eq_true rfl)) dX9_rivals_132 ⟨(Nat.le_of_ble_eq_true rfl), (Nat.le_of_ble_eq_true rfl)⟩) hS (fun q _ h => hFc q h) hFc (fun r_104 u_ t_ H103 locs ht hvm hw hB hz1 hk1 hS => ?_)
                          subst hw
                          obtain ⟨x105, x106, J107, hP1, hD1, hI111, f108, f109, f110⟩ := hB
                          rw [ht] at hP1
                          have hP := hP1
                          have hD := dW hFc hD1
                          obtain ⟨im112, im113, im114, im115, im116, im117, im118, im119, im120, im121, im122, im123, im124, im125, im126, im127, im128, im129, im130, im131, im132, im133, im134, im135, im136, im137, im138, im139, im140, im141, im142⟩ := id hI111
                          refine lv_if_ne (tgt := 141) hx hb dX9_rivals_135 (by decide) (fun c_143 => ?_) (fun c_143 => ?_)
                          · skip
                            have f144 : r_104.toInt ≠ 0 := qi_ne c_143 rfl zc_0
                            have f145 : 1 ≤ r_104.toInt := (ob_612 f108 f144)
                            have f146 : r_104.toInt = 1 := (ob_167 f109 f110 f145)
                            refine lv_iload hx hb dX9_rivals_141 (lv_at hl 6 rfl) ?_
                            refine lv_if_ne (tgt := 167) hx hb dX9_rivals_143 (by decide) (fun c_147 => ?_) (fun c_147 => ?_)
                            · skip
                              have f148 : y75_4.toInt ≠ 0 := qi_ne c_147 rfl zc_0
                              obtain ⟨x149, ex149⟩ : ∃ y : Int32, y = y75_4 + Int32.ofInt 1 := ⟨_, rfl⟩
                              have f150 : (-2147483648) ≤ y75_4.toInt ∧ y75_4.toInt ≤ 2147483647 := i32_rg _
                              refine lv_iinc (v := x149) (lv' := [(4, .int x149), (7, .int x70), (6, .int x62), (0, .ref (r 0)), (1, .int p0), (2, .int p1), (3, .int y10_3), (5, .int y75_5)]) hx hb dX9_rivals_167 hl (k := 6) rfl ex149.symm (by decide) rfl (fun ls hl => ?_)
                              obtain ⟨x151, ex151⟩ : ∃ y : Int32, y = y75_5 + Int32.ofInt 1 := ⟨_, rfl⟩
                              have f152 : x151.toInt = y75_5.toInt + 1 := (ob_139 (qi_add ex151 rfl (by decide) (ob_137 g75_0) (ob_713 g75_1)))
                              refine lv_iinc (v := x151) (lv' := [(5, .int x151), (4, .int x149), (7, .int x70), (6, .int x62), (0, .ref (r 0)), (1, .int p0), (2, .int p1), (3, .int y10_3)]) hx hb dX9_rivals_170 hl (k := 7) rfl ex151.symm (by decide) rfl (fun ls hl => ?_)
                              refine lv_goto (tgt := 75) hx hb dX9_rivals_173 (by decide) ?_
                              exact ih75 x149 x151 x105 x106 m75_i_laid J107 H103 _ _ (ob_140 g75_0 f152) (ob_714 f52 f56 f53 f152) (ob_133 g75_2) (ob_436 g75_3) gi75_laid_lo gi75_laid_hi hP hD hS (lv_sub hl [4, 5, 6, 7, 1, 0] rfl) (ob_715 hM75 f152)
                            · skip
                              have f153 : y75_4.toInt = 0 := qi_eq c_147 rfl zc_0
                              refine lv_aload_n hx hb dX9_rivals_146 rfl (lv_at hl 2 rfl) ?_
                              refine gM_X9_97_0 hx hb hG hown hK hP dX9_rivals_147 ?_
                              refine lv_iconst (v := 0) hx hb dX9_rivals_150 (by decide) ?_
                              refine lv_iload hx hb dX9_rivals_151 (lv_at hl 1 rfl) ?_
                              refine stM_28 (mm := 0) hx hb hK hP hD hS zc_0 (ob_182) (ob_718) dX9_rivals_153 (fun J155 H154 locs hP hD hS => ?_)
                              refine lv_aload_n hx hb dX9_rivals_154 rfl (lv_at hl 2 rfl) ?_
                              refine gM_X9_97_0 hx hb hG hown hK hP dX9_rivals_155 ?_
                              refine lv_iconst (v := 1) hx hb dX9_rivals_158 (by decide) ?_
                              refine lv_iload hx hb dX9_rivals_159 (lv_at hl 0 rfl) ?_
                              refine stM_28 (mm := 1) hx hb hK hP hD hS zc_1 (ob_719) (ob_720) dX9_rivals_161 (fun J157 H156 locs hP hD hS => ?_)
                              refine lv_aload_n hx hb dX9_rivals_162 rfl (lv_at hl 2 rfl) ?_
                              refine lv_iconst (v := 2) hx hb dX9_rivals_163 (by decide) ?_
                              refine pM_X9_373_0 hx hb hG hown hK hP hD hS dX9_rivals_164 (fun H158 locs hP hD hS => ?_)
                              obtain ⟨x159, ex159⟩ : ∃ y : Int32, y = y75_4 + Int32.ofInt 1 := ⟨_, rfl⟩
                              have f160 : x159.toInt = y75_4.toInt + 1 := (ob_139 (qi_add ex159 rfl (by decide) (ob_721 f153) (ob_722 f153)))
                              refine lv_iinc (v := x159) (lv' := [(4, .int x159), (7, .int x70), (6, .int x62), (0, .ref (r 0)), (1, .int p0), (2, .int p1), (3, .int y10_3), (5, .int y75_5)]) hx hb dX9_rivals_167 hl (k := 6) rfl ex159.symm (by decide) rfl (fun ls hl => ?_)
                              obtain ⟨x161, ex161⟩ : ∃ y : Int32, y = y75_5 + Int32.ofInt 1 := ⟨_, rfl⟩
                              have f162 : x161.toInt = y75_5.toInt + 1 := (ob_139 (qi_add ex161 rfl (by decide) (ob_137 g75_0) (ob_713 g75_1)))
                              refine lv_iinc (v := x161) (lv' := [(5, .int x161), (4, .int x159), (7, .int x70), (6, .int x62), (0, .ref (r 0)), (1, .int p0), (2, .int p1), (3, .int y10_3)]) hx hb dX9_rivals_170 hl (k := 7) rfl ex161.symm (by decide) rfl (fun ls hl => ?_)
                              refine lv_goto (tgt := 75) hx hb dX9_rivals_173 (by decide) ?_
                              exact ih75 x159 x161 x105 x106 2 J157 H158 _ _ (ob_140 g75_0 f162) (ob_714 f52 f56 f53 f162) (ob_144 zc_2) (ob_723 zc_2) (ob_144 zc_2) (ob_723 zc_2) hP hD hS (lv_sub hl [4, 5, 6, 7, 1, 0] rfl) (ob_715 hM75 f162)
                          · skip
                            have f163 : r_104.toInt = 0 := qi_eq c_143 rfl zc_0
                            have f164 : r_104.toInt = 0 := (ob_162 f109 f110 f163)
                            refine lv_goto (tgt := 170) hx hb dX9_rivals_138 (by decide) ?_
                            obtain ⟨x165, ex165⟩ : ∃ y : Int32, y = y75_5 + Int32.ofInt 1 := ⟨_, rfl⟩
                            have f166 : x165.toInt = y75_5.toInt + 1 := (ob_139 (qi_add ex165 rfl (by decide) (ob_137 g75_0) (ob_713 g75_1)))
                            refine lv_iinc (v := x165) (lv' := [(5, .int x165), (7, .int x70), (6, .int x62), (0, .ref (r 0)), (1, .int p0), (2, .int p1), (3, .int y10_3), (4, .int y75_4)]) hx hb dX9_rivals_170 hl (k := 7) rfl ex165.symm (by decide) rfl (fun ls hl => ?_)
                            refine lv_goto (tgt := 75) hx hb dX9_rivals_173 (by decide) ?_
                            exact ih75 y75_4 x165 x105 x106 m75_i_laid J107 H103 _ _ (ob_140 g75_0 f166) (ob_714 f52 f56 f53 f166) (ob_133 g75_2) (ob_436 g75_3) gi75_laid_lo gi75_laid_hi hP hD hS (lv_sub hl [3, 4, 5, 6, 7, 0] rfl) (ob_715 hM75 f166)
                exact L75 (-1 * (0 : Int32).toInt + 25 + 1).toNat 0 0 i_askHouse i_askTune 0 J H24 _ _ (ob_5 zc_0) (ob_724 zc_0) (ob_5 zc_0) (ob_307 zc_0) (ob_5 zc_0) (ob_307 zc_0) hP hD hS (lv_sub hl [2, 3, 4, 5, 1, 0] rfl) (mlt (ob_725 zc_0))
              · skip
                have f167 : y10_3.toInt = 0 := qi_eq c_41 rfl zc_0
                refine lv_iconst (v := (-1)) hx hb dX9_rivals_67 (by decide) ?_
                rw [hQ]
                exact W.iret (v := (-1)) hx hb hr (fun t ht hW => ⟨⟨(-1), (-1), rfl, rfl, ⟨i_askHouse, i_askTune, 0, J, by rw [ht]; exact hP, hD, ⟨im0, im1, im2, im3, im4, im5, im6, im7, (ob_5 zc_0), (ob_307 zc_0), im10, im11, im12, im13, im14, im15, im16, im17, im18, im19, im20, im21, im22, im23, im24, im25, im26, im27, im28, im29, im30⟩⟩⟩, hS.F ht⟩) hS.2.2 dX9_rivals_68
      · skip
        have f168 : y10_4.toInt < r_5.toInt := qi_nle c_8 rfl rfl
        refine lv_iload_n hx hb dX9_rivals_19 rfl (lv_at hl 3 rfl) ?_
        refine lv_aload_n hx hb dX9_rivals_20 rfl (lv_at hl 0 rfl) ?_
        refine lv_iload hx hb dX9_rivals_21 (lv_at hl 4 rfl) ?_
        refine va_calli (va_runV (As := [.int y10_4]) (rest := [.int y10_3]) ⟨hx, hb, hml, hown, hG⟩ (kX9_isOnCart l dC dI r ct i_taped i_size i_faultKind i_at i_end i_token i_number i_bank i_rb i_codes i_within i_piled i_unitsInRule i_askHouse i_askTune i_acts i_undone 0 i_knowns i_time f_text f_tunes f_houses f_hums f_told f_many f_ruleFrom f_ruleTo f_code f_eWhat f_eSign f_all f_kept f_was f_sTune f_boxAll J L y10_4 H4.size ⟨im0, im1, im2, im3, im4, im5, im6, im7, (ob_5 zc_0), (ob_307 zc_0), im10, im11, im12, im13, im14, im15, im16, im17, im18, im19, im20, im21, im22, im23, im24, im25, im26, im27, im28, im29, im30⟩ (ob_133 g10_0) (ob_361 f168 f7)) (cwV 1 hG (goodV gw1704 gw1706 gw111 gw138 gw1707) rfl rfl rfl hd_X9_isOnCart ⟨(Nat.le_of_ble_eq_true rfl), (Nat.le_of_ble_eq_true rfl)⟩) ⟨fbR, va_recv hK hP (ci := 8) (q0 := 0) rfl rfl, pR_in hP hK⟩ rfl rfl hl.1 rfl (lv_room (Nat.le_of_ble_eq_true rfl)) dX9_rivals_23 ⟨(Nat.le_of_ble_eq_true rfl), (Nat.le_of_ble_eq_true rfl)⟩) hS (fun q hq h => absurd hq (Nat.not_lt.mpr h)) (fun q h => hA q (Nat.le_trans hS.1 h)) (fun r_170 u_ t_ H169 locs ht hvm hw hB hz1 hk1 hS => ?_)
        subst hw
        have hP := wk hP hk1
        obtain ⟨f171, f172, f173⟩ := hB
        refine lv_if_eq (tgt := 33) hx hb dX9_rivals_26 (by decide) (fun c_174 => ?_) (fun c_174 => ?_)
        · skip
          have f175 : r_170.toInt = 0 := qi_eq c_174 rfl zc_0
          have f176 : (f_all (y10_4.toInt).toNat).toInt + 1 ≠ 0 := (ob_518 f171 f175)
          have f177 : r_170.toInt = 0 := (ob_162 f172 f173 f175)
          refine lv_iconst (v := 0) hx hb dX9_rivals_33 (by decide) ?_
          refine lv_iadd hx hb dX9_rivals_34 ?_
          refine lv_topi (fun x178 ex178 => ?_)
          refine lv_istore_n (lv' := [(3, .int x178), (0, .ref (r 0)), (1, .int p0), (2, .int p1), (4, .int y10_4)]) hx hb dX9_rivals_35 rfl hl (by decide) rfl (fun ls hl => ?_)
          obtain ⟨x179, ex179⟩ : ∃ y : Int32, y = y10_4 + Int32.ofInt 1 := ⟨_, rfl⟩
          have f180 : x179.toInt = y10_4.toInt + 1 := (ob_139 (qi_add ex179 rfl (by decide) (ob_137 g10_0) (ob_314 g10_1)))
          refine lv_iinc (v := x179) (lv' := [(4, .int x179), (3, .int x178), (0, .ref (r 0)), (1, .int p0), (2, .int p1)]) hx hb dX9_rivals_36 hl (k := 4) rfl ex179.symm (by decide) rfl (fun ls hl => ?_)
          refine lv_goto (tgt := 10) hx hb dX9_rivals_39 (by decide) ?_
          exact ih10 x178 x179 H169 _ _ (ob_140 g10_0 f180) (ob_354 f1 f168 f7 f180) hP hD hS (lv_sub hl [2, 3, 4, 1, 0] rfl) (ob_316 hM10 f180)
        · skip
          have f181 : r_170.toInt ≠ 0 := qi_ne c_174 rfl zc_0
          have f182 : 1 ≤ r_170.toInt := (ob_519 f171 f181)
          have f183 : (f_all (y10_4.toInt).toNat).toInt + 1 = 0 := (ob_520 f171 f181)
          have f184 : r_170.toInt = 1 := (ob_167 f172 f173 f182)
          refine lv_iconst (v := 1) hx hb dX9_rivals_29 (by decide) ?_
          refine lv_goto (tgt := 34) hx hb dX9_rivals_30 (by decide) ?_
          refine lv_iadd hx hb dX9_rivals_34 ?_
          refine lv_topi (fun x185 ex185 => ?_)
          refine lv_istore_n (lv' := [(3, .int x185), (0, .ref (r 0)), (1, .int p0), (2, .int p1), (4, .int y10_4)]) hx hb dX9_rivals_35 rfl hl (by decide) rfl (fun ls hl => ?_)
          obtain ⟨x186, ex186⟩ : ∃ y : Int32, y = y10_4 + Int32.ofInt 1 := ⟨_, rfl⟩
          have f187 : x186.toInt = y10_4.toInt + 1 := (ob_139 (qi_add ex186 rfl (by decide) (ob_137 g10_0) (ob_314 g10_1)))
          refine lv_iinc (v := x186) (lv' := [(4, .int x186), (3, .int x185), (0, .ref (r 0)), (1, .int p0), (2, .int p1)]) hx hb dX9_rivals_36 hl (k := 4) rfl ex186.symm (by decide) rfl (fun ls hl => ?_)
          refine lv_goto (tgt := 10) hx hb dX9_rivals_39 (by decide) ?_
          exact ih10 x185 x186 H169 _ _ (ob_140 g10_0 f187) (ob_354 f1 f168 f7 f187) hP hD hS (lv_sub hl [2, 3, 4, 1, 0] rfl) (ob_316 hM10 f187)
  exact L10 (-1 * (0 : Int32).toInt + 5 + 1).toNat 0 0 H3 _ _ (ob_5 zc_0) (ob_317 zc_0) hP hD hS (lv_sub hl [2, 3, 4, 1, 0] rfl) (mlt (ob_318 zc_0))
set_option maxHeartbeats 4000000 in
set_option maxRecDepth 100000 in
theorem kX9_power_v3 (l : Launch) (dC : Nat → ClassId) (dI : Nat → Nat → Nat) (p0 p1 : Int32) (sz : Nat) (hp0 : 100 ≤ p0.toInt) (hp1 : p0.toInt ≤ 100) (hp2 : 0 ≤ p1.toInt) (hp3 : p1.toInt ≤ 4) : Met l yX9_power (.code yX9_power cX9_power 4 (some .int) :: GW) { frames := 2, cells := 0, slots := 0, locals := 100 } (va_Pc [.int p0, .int p1] (pR (dC, dI) [] [] sz)) (va_Qi (fun (r0 : Int32) (u : Int32) => r0 = u) (fun (u : Int32) (t : State) => (u.toInt = (pw p0.toInt (p1.toInt).toNat)) ∧ (1 ≤ (pw p0.toInt (p1.toInt).toNat)) ∧ ((pw p0.toInt (p1.toInt).toNat) ≤ 100000000)) (fun q => sz ≤ q)) 0 0 (fun q => sz ≤ q) := by
  refine Met.ofW (cc := cX9_power) (maxL := 4) (ret := (some .int)) (by decide) rfl ?_
  intro p e s m args below meth c0 s₁ B hml hv
  obtain ⟨rfl, hsz, hP, hK⟩ := hv
  have hx := B.exec
  have hb := B.bytes
  have hr := B.returns
  have hts := atoms_spec (ws := .code yX9_power cX9_power 4 (some .int) :: GW) B.pre
  have hG : ∀ w ∈ GW, w.before _ s = true := fun w h => hts w (List.mem_cons_of_mem _ h)
  have hown : s.vm.findClass RX9 = some m.cls := findClass_of_methodNamed B.named
  subst hsz
  have hS : va_S (fun q => s.heap.size ≤ q) s.heap s.heap [] := va_S.rf
  have hP : va_P (dC, dI) vwCl [] s.heap := hP
  have hl := lv_entry ([.int p0, .int p1]) (n := 4) (Nat.le_of_ble_eq_true rfl)
  rw [lg_entry_eq]
  generalize (lg_sl ([.int p0, .int p1]) ++ List.replicate (4 - (lg_sl ([.int p0, .int p1])).length) Slot.unset).toArray = ls at hl ⊢
  have hl : lv_has ls 4 [(0, .int p0), (1, .int p1)] := hl
  refine nameQ (fun Q hQ => ?_)
  refine lv_iconst (v := 1) hx hb dX9_power_0 (by decide) ?_
  refine lv_istore_n (lv' := [(2, .int 1), (0, .int p0), (1, .int p1)]) hx hb dX9_power_1 rfl hl (by decide) rfl (fun ls hl => ?_)
  refine lv_iconst (v := 0) hx hb dX9_power_2 (by decide) ?_
  refine lv_istore_n (lv' := [(3, .int 0), (2, .int 1), (0, .int p0), (1, .int p1)]) hx hb dX9_power_3 rfl hl (by decide) rfl (fun ls hl => ?_)
  refine lv_iload_n hx hb dX9_power_4 rfl (lv_at hl 0 rfl) ?_
  refine lv_iload_n hx hb dX9_power_5 rfl (lv_at hl 3 rfl) ?_
  refine lv_icmp_ge (tgt := 19) hx hb dX9_power_6 (by decide) (fun c_1 => ?_) (fun c_1 => ?_)
  · skip
    have f2 : p1.toInt ≤ 0 := qi_le c_1 rfl zc_0
    refine lv_iload_n hx hb dX9_power_19 rfl (lv_at hl 1 rfl) ?_
    have f3 : (pw p0.toInt (p1.toInt).toNat) = 1 := pw_0 (ob_247 hp2 hp3 f2)
    rw [hQ]
    exact W.iret (v := 1) hx hb hr (fun t ht hW => ⟨⟨1, 1, rfl, rfl, ⟨(ob_248 f3 zc_1), (ob_229 f3), (ob_249 f3)⟩⟩, hS.F ht⟩) hS.2.2 dX9_power_20
  · skip
    have f4 : 0 < p1.toInt := qi_nle c_1 rfl zc_0
    refine lv_iload_n hx hb dX9_power_9 rfl (lv_at hl 1 rfl) ?_
    refine lv_iload_n hx hb dX9_power_10 rfl (lv_at hl 2 rfl) ?_
    refine lv_imul hx hb dX9_power_11 ?_
    refine lv_topi (fun x5 ex5 => ?_)
    have f6 : x5.toInt = p0.toInt := (ob_252 (qi_mul ex5 zc_1 rfl (ob_726 hp0 hp1) (ob_727 hp0 hp1)))
    refine lv_istore_n (lv' := [(2, .int x5), (3, .int 0), (0, .int p0), (1, .int p1)]) hx hb dX9_power_12 rfl hl (by decide) rfl (fun ls hl => ?_)
    refine lv_iinc (v := 1) (lv' := [(3, .int 1), (2, .int x5), (0, .int p0), (1, .int p1)]) hx hb dX9_power_13 hl (k := 1) rfl (by decide) (by decide) rfl (fun ls hl => ?_)
    refine lv_goto (tgt := 4) hx hb dX9_power_16 (by decide) ?_
    refine lv_iload_n hx hb dX9_power_4 rfl (lv_at hl 0 rfl) ?_
    refine lv_iload_n hx hb dX9_power_5 rfl (lv_at hl 3 rfl) ?_
    refine lv_icmp_ge (tgt := 19) hx hb dX9_power_6 (by decide) (fun c_7 => ?_) (fun c_7 => ?_)
    · skip
      have f8 : p1.toInt ≤ 1 := qi_le c_7 rfl zc_1
      refine lv_iload_n hx hb dX9_power_19 rfl (lv_at hl 1 rfl) ?_
      have f9 : (pw p0.toInt (p1.toInt).toNat) = p0.toInt := pw_1 (ob_253 f4 f8)
      rw [hQ]
      exact W.iret (v := x5) hx hb hr (fun t ht hW => ⟨⟨x5, x5, rfl, rfl, ⟨(ob_728 hp0 hp1 f9 f6), (ob_729 hp0 hp1 f9), (ob_730 hp0 hp1 f9)⟩⟩, hS.F ht⟩) hS.2.2 dX9_power_20
    · skip
      have f10 : 1 < p1.toInt := qi_nle c_7 rfl zc_1
      refine lv_iload_n hx hb dX9_power_9 rfl (lv_at hl 1 rfl) ?_
      refine lv_iload_n hx hb dX9_power_10 rfl (lv_at hl 2 rfl) ?_
      refine lv_imul hx hb dX9_power_11 ?_
      refine lv_topi (fun x11 ex11 => ?_)
      have f12 : 100 * 100 ≤ x11.toInt ∧ x11.toInt ≤ 100 * 100 := qi_mulb ex11 (ob_731 hp0 hp1 f6) (ob_732 hp0 hp1 f6) (ob_733 hp0 hp1) (ob_734 hp0 hp1) (by decide) (by decide) (by decide)
      have f13 : x11.toInt = (p0.toInt * p0.toInt) := qi_mulx ex11 f6 rfl (ob_731 hp0 hp1 f6) (ob_732 hp0 hp1 f6) (ob_733 hp0 hp1) (ob_734 hp0 hp1) (by decide) (by decide) (by decide)
      refine lv_istore_n (lv' := [(2, .int x11), (3, .int 1), (0, .int p0), (1, .int p1)]) hx hb dX9_power_12 rfl hl (by decide) rfl (fun ls hl => ?_)
      refine lv_iinc (v := 2) (lv' := [(3, .int 2), (2, .int x11), (0, .int p0), (1, .int p1)]) hx hb dX9_power_13 hl (k := 1) rfl (by decide) (by decide) rfl (fun ls hl => ?_)
      refine lv_goto (tgt := 4) hx hb dX9_power_16 (by decide) ?_
      refine lv_iload_n hx hb dX9_power_4 rfl (lv_at hl 0 rfl) ?_
      refine lv_iload_n hx hb dX9_power_5 rfl (lv_at hl 3 rfl) ?_
      refine lv_icmp_ge (tgt := 19) hx hb dX9_power_6 (by decide) (fun c_14 => ?_) (fun c_14 => ?_)
      · skip
        have f15 : p1.toInt ≤ 2 := qi_le c_14 rfl zc_2
        refine lv_iload_n hx hb dX9_power_19 rfl (lv_at hl 1 rfl) ?_
        have f16 : (pw p0.toInt (p1.toInt).toNat) = (p0.toInt * p0.toInt) := pw_2 (ob_260 f10 f15)
        rw [hQ]
        exact W.iret (v := x11) hx hb hr (fun t ht hW => ⟨⟨x11, x11, rfl, rfl, ⟨(ob_735 f12 f16 f13), (ob_736 f12 f16 f13), (ob_737 f12 f16 f13)⟩⟩, hS.F ht⟩) hS.2.2 dX9_power_20
      · skip
        have f17 : 2 < p1.toInt := qi_nle c_14 rfl zc_2
        refine lv_iload_n hx hb dX9_power_9 rfl (lv_at hl 1 rfl) ?_
        refine lv_iload_n hx hb dX9_power_10 rfl (lv_at hl 2 rfl) ?_
        refine lv_imul hx hb dX9_power_11 ?_
        refine lv_topi (fun x18 ex18 => ?_)
        have f19 : 10000 * 100 ≤ x18.toInt ∧ x18.toInt ≤ 10000 * 100 := qi_mulb ex18 (ob_738 f12 f13) (ob_739 f12 f13) (ob_733 hp0 hp1) (ob_734 hp0 hp1) (by decide) (by decide) (by decide)
        have f20 : x18.toInt = ((p0.toInt * p0.toInt) * p0.toInt) := qi_mulx ex18 f13 rfl (ob_738 f12 f13) (ob_739 f12 f13) (ob_733 hp0 hp1) (ob_734 hp0 hp1) (by decide) (by decide) (by decide)
        refine lv_istore_n (lv' := [(2, .int x18), (3, .int 2), (0, .int p0), (1, .int p1)]) hx hb dX9_power_12 rfl hl (by decide) rfl (fun ls hl => ?_)
        refine lv_iinc (v := 3) (lv' := [(3, .int 3), (2, .int x18), (0, .int p0), (1, .int p1)]) hx hb dX9_power_13 hl (k := 1) rfl (by decide) (by decide) rfl (fun ls hl => ?_)
        refine lv_goto (tgt := 4) hx hb dX9_power_16 (by decide) ?_
        refine lv_iload_n hx hb dX9_power_4 rfl (lv_at hl 0 rfl) ?_
        refine lv_iload_n hx hb dX9_power_5 rfl (lv_at hl 3 rfl) ?_
        refine lv_icmp_ge (tgt := 19) hx hb dX9_power_6 (by decide) (fun c_21 => ?_) (fun c_21 => ?_)
        · skip
          have f22 : p1.toInt ≤ 3 := qi_le c_21 rfl zc_3
          refine lv_iload_n hx hb dX9_power_19 rfl (lv_at hl 1 rfl) ?_
          have f23 : (pw p0.toInt (p1.toInt).toNat) = ((p0.toInt * p0.toInt) * p0.toInt) := pw_3 (ob_266 f17 f22)
          rw [hQ]
          exact W.iret (v := x18) hx hb hr (fun t ht hW => ⟨⟨x18, x18, rfl, rfl, ⟨(ob_740 f19 f23 f20), (ob_741 f19 f23 f20), (ob_742 f19 f23 f20)⟩⟩, hS.F ht⟩) hS.2.2 dX9_power_20
        · skip
          have f24 : 3 < p1.toInt := qi_nle c_21 rfl zc_3
          refine lv_iload_n hx hb dX9_power_9 rfl (lv_at hl 1 rfl) ?_
          refine lv_iload_n hx hb dX9_power_10 rfl (lv_at hl 2 rfl) ?_
          refine lv_imul hx hb dX9_power_11 ?_
          refine lv_topi (fun x25 ex25 => ?_)
          have f26 : 1000000 * 100 ≤ x25.toInt ∧ x25.toInt ≤ 1000000 * 100 := qi_mulb ex25 (ob_743 f19 f20) (ob_744 f19 f20) (ob_733 hp0 hp1) (ob_734 hp0 hp1) (by decide) (by decide) (by decide)
          have f27 : x25.toInt = (((p0.toInt * p0.toInt) * p0.toInt) * p0.toInt) := qi_mulx ex25 f20 rfl (ob_743 f19 f20) (ob_744 f19 f20) (ob_733 hp0 hp1) (ob_734 hp0 hp1) (by decide) (by decide) (by decide)
          refine lv_istore_n (lv' := [(2, .int x25), (3, .int 3), (0, .int p0), (1, .int p1)]) hx hb dX9_power_12 rfl hl (by decide) rfl (fun ls hl => ?_)
          refine lv_iinc (v := 4) (lv' := [(3, .int 4), (2, .int x25), (0, .int p0), (1, .int p1)]) hx hb dX9_power_13 hl (k := 1) rfl (by decide) (by decide) rfl (fun ls hl => ?_)
          refine lv_goto (tgt := 4) hx hb dX9_power_16 (by decide) ?_
          refine lv_iload_n hx hb dX9_power_4 rfl (lv_at hl 0 rfl) ?_
          refine lv_iload_n hx hb dX9_power_5 rfl (lv_at hl 3 rfl) ?_
          refine lv_icmp_ge (tgt := 19) hx hb dX9_power_6 (by decide) (fun c_28 => ?_) (fun c_28 => ((ob_272 (qi_nle c_28 rfl zc_4) hp3)).elim)
          have f29 : p1.toInt ≤ 4 := qi_le c_28 rfl zc_4
          refine lv_iload_n hx hb dX9_power_19 rfl (lv_at hl 1 rfl) ?_
          have f30 : (pw p0.toInt (p1.toInt).toNat) = (((p0.toInt * p0.toInt) * p0.toInt) * p0.toInt) := pw_4 (ob_273 hp3 f24)
          rw [hQ]
          exact W.iret (v := x25) hx hb hr (fun t ht hW => ⟨⟨x25, x25, rfl, rfl, ⟨(ob_745 f26 f30 f27), (ob_746 f26 f30 f27), (ob_747 f26 f30 f27)⟩⟩, hS.F ht⟩) hS.2.2 dX9_power_20
set_option maxHeartbeats 4000000 in
set_option maxRecDepth 100000 in
theorem kX9_odds (l : Launch) (dC : Nat → ClassId) (dI : Nat → Nat → Nat) (r : Nat → Nat) (ct : Nat → ClassId) (i_taped i_size i_faultKind i_at i_end i_token i_number i_bank i_rb i_codes i_within i_piled i_unitsInRule i_askHouse i_askTune i_acts i_undone i_laid i_knowns i_time : Int32) (f_text f_tunes f_houses f_hums f_told f_many f_ruleFrom f_ruleTo f_code f_eWhat f_eSign f_all f_kept f_was f_sTune f_boxAll : Nat → Int32) (J : Nat → Nat → Int32) (L : Nat → Nat → Int64) (p0 p1 : Int32) (sz : Nat) (hI : (IM i_taped i_size i_at i_end i_bank i_rb i_acts i_undone i_laid i_knowns i_time f_tunes f_houses f_hums f_told f_many f_ruleFrom f_ruleTo f_code f_all f_kept f_was f_sTune f_boxAll)) : Met l yX9_odds (.code yX9_odds cX9_odds 5 (some .int) :: GW) { frames := 4, cells := 0, slots := 0, locals := 164 } (va_Pc [.ref (r 0), .int p0, .int p1] (pR (dC, dI) (WM r ct i_taped i_size i_faultKind i_at i_end i_token i_number i_bank i_rb i_codes i_within i_piled i_unitsInRule i_askHouse i_askTune i_acts i_undone i_laid i_knowns i_time f_text f_tunes f_houses f_hums f_told f_many f_ruleFrom f_ruleTo f_code f_eWhat f_eSign f_all f_kept f_was f_sTune f_boxAll J L) (TM ct) sz)) (va_Qi (fun (r0 : Int32) (u : Int32) => r0 = u) (fun (u : Int32) (t : State) => True) (fun q => sz ≤ q)) 0 0 (fun q => sz ≤ q) := by
  refine Met.ofW (cc := cX9_odds) (maxL := 5) (ret := (some .int)) (by decide) rfl ?_
  intro p e s m args below meth c0 s₁ B hml hv
  obtain ⟨rfl, hsz, hP, hK⟩ := hv
  have hx := B.exec
  have hb := B.bytes
  have hr := B.returns
  have hts := atoms_spec (ws := .code yX9_odds cX9_odds 5 (some .int) :: GW) B.pre
  have hG : ∀ w ∈ GW, w.before _ s = true := fun w h => hts w (List.mem_cons_of_mem _ h)
  have hown : s.vm.findClass RX9 = some m.cls := findClass_of_methodNamed B.named
  subst hsz
  have hS : va_S (fun q => s.heap.size ≤ q) s.heap s.heap [] := va_S.rf
  have hP : va_P (dC, dI) vwCl (WM r ct i_taped i_size i_faultKind i_at i_end i_token i_number i_bank i_rb i_codes i_within i_piled i_unitsInRule i_askHouse i_askTune i_acts i_undone i_laid i_knowns i_time f_text f_tunes f_houses f_hums f_told f_many f_ruleFrom f_ruleTo f_code f_eWhat f_eSign f_all f_kept f_was f_sTune f_boxAll J L) s.heap := hP
  have hl := lv_entry ([.ref (r 0), .int p0, .int p1]) (n := 5) (Nat.le_of_ble_eq_true rfl)
  rw [lg_entry_eq]
  generalize (lg_sl ([.ref (r 0), .int p0, .int p1]) ++ List.replicate (5 - (lg_sl ([.ref (r 0), .int p0, .int p1])).length) Slot.unset).toArray = ls at hl ⊢
  have hl : lv_has ls 5 [(0, .ref (r 0)), (1, .int p0), (2, .int p1)] := hl
  refine nameQ (fun Q hQ => ?_)
  obtain ⟨im0, im1, im2, im3, im4, im5, im6, im7, im8, im9, im10, im11, im12, im13, im14, im15, im16, im17, im18, im19, im20, im21, im22, im23, im24, im25, im26, im27, im28, im29, im30⟩ := id hI
  have f1 : 0 ≤ (f_tunes (i_bank.toInt).toNat).toInt ∧ (f_tunes (i_bank.toInt).toNat).toInt ≤ 5 := im20 (i_bank.toInt)
  have f2 : 0 ≤ (f_houses (i_bank.toInt).toNat).toInt ∧ (f_houses (i_bank.toInt).toNat).toInt ≤ 4 := im21 (i_bank.toInt)
  refine lv_iload_n hx hb dX9_odds_0 rfl (lv_at hl 1 rfl) ?_
  refine lv_iconst (v := 0) hx hb dX9_odds_1 (by decide) ?_
  refine lv_iconst (v := 4) hx hb dX9_odds_2 (by decide) ?_
  refine va_calli (va_runS (As := [.int p0, .int 0, .int 4]) (rest := []) ⟨hx, hb, hml, hown, hG⟩ (kX9_isIn l dC dI p0 0 4 s.heap.size) (va_cwS 3 hG (goodS gw1516 gw1517 gw138 gw1518) rfl rfl rfl hd_X9_isIn ⟨(Nat.le_of_ble_eq_true rfl), (Nat.le_of_ble_eq_true rfl)⟩) ⟨fbR, pR_in emptyP (emptyK hK)⟩ rfl rfl hl.1 rfl (lv_room (Nat.le_of_ble_eq_true rfl)) dX9_odds_3 ⟨(Nat.le_of_ble_eq_true rfl), (Nat.le_of_ble_eq_true rfl)⟩) hS (fun q hq h => absurd hq (Nat.not_lt.mpr h)) (fun q h => Nat.le_trans hS.1 h) (fun r_4 u_ t_ H3 locs ht hvm hw hB hz1 hk1 hS => ?_)
  subst hw
  have hP := wk hP hk1
  obtain ⟨f5, f6, f7⟩ := hB
  refine lv_if_eq (tgt := 18) hx hb dX9_odds_6 (by decide) (fun c_8 => ?_) (fun c_8 => ?_)
  · skip
    have f9 : r_4.toInt = 0 := qi_eq c_8 rfl zc_0
    refine lv_iconst (v := (-1)) hx hb dX9_odds_18 (by decide) ?_
    rw [hQ]
    exact W.iret (v := (-1)) hx hb hr (fun t ht hW => ⟨⟨(-1), (-1), rfl, rfl, trivial⟩, hS.F ht⟩) hS.2.2 dX9_odds_19
  · skip
    have f10 : r_4.toInt ≠ 0 := qi_ne c_8 rfl zc_0
    have f11 : 1 ≤ r_4.toInt := (ob_748 f5 f10 zc_4 zc_0)
    have f12 : 0 ≤ p0.toInt := (ob_749 f5 f10 zc_4 zc_0)
    have f13 : p0.toInt ≤ 4 := (ob_750 f5 f10 zc_4 zc_0)
    have f14 : r_4.toInt = 1 := (ob_167 f6 f7 f11)
    refine lv_iload_n hx hb dX9_odds_9 rfl (lv_at hl 2 rfl) ?_
    refine lv_iconst (v := 0) hx hb dX9_odds_10 (by decide) ?_
    refine lv_iconst (v := 1) hx hb dX9_odds_11 (by decide) ?_
    refine va_calli (va_runS (As := [.int p1, .int 0, .int 1]) (rest := []) ⟨hx, hb, hml, hown, hG⟩ (kX9_isIn l dC dI p1 0 1 H3.size) (va_cwS 3 hG (goodS gw1516 gw1517 gw138 gw1518) rfl rfl rfl hd_X9_isIn ⟨(Nat.le_of_ble_eq_true rfl), (Nat.le_of_ble_eq_true rfl)⟩) ⟨fbR, pR_in emptyP (emptyK hK)⟩ rfl rfl hl.1 rfl (lv_room (Nat.le_of_ble_eq_true rfl)) dX9_odds_12 ⟨(Nat.le_of_ble_eq_true rfl), (Nat.le_of_ble_eq_true rfl)⟩) hS (fun q hq h => absurd hq (Nat.not_lt.mpr h)) (fun q h => Nat.le_trans hS.1 h) (fun r_16 u_ t_ H15 locs ht hvm hw hB hz1 hk1 hS => ?_)
    subst hw
    have hP := wk hP hk1
    obtain ⟨f17, f18, f19⟩ := hB
    refine lv_if_ne (tgt := 20) hx hb dX9_odds_15 (by decide) (fun c_20 => ?_) (fun c_20 => ?_)
    · skip
      have f21 : r_16.toInt ≠ 0 := qi_ne c_20 rfl zc_0
      have f22 : 1 ≤ r_16.toInt := (ob_439 f17 f21 zc_1 zc_0)
      have f23 : 0 ≤ p1.toInt := (ob_440 f17 f21 zc_1 zc_0)
      have f24 : p1.toInt ≤ 1 := (ob_441 f17 f21 zc_1 zc_0)
      have f25 : r_16.toInt = 1 := (ob_167 f18 f19 f22)
      refine lv_bipush (v := 100) hx hb dX9_odds_20 (by decide) ?_
      refine lv_aload_n hx hb dX9_odds_22 rfl (lv_at hl 0 rfl) ?_
      refine gM_X9_33_0 hx hb hG hown hK hP dX9_odds_23 ?_
      refine lv_aload_n hx hb dX9_odds_26 rfl (lv_at hl 0 rfl) ?_
      refine gM_X9_249_0 hx hb hG hown hK hP dX9_odds_27 ?_
      refine ldM_7 (mm := i_bank.toInt) hx hb hK hP rfl (ob_179 im4 im5) (ob_180 im4 im5) dX9_odds_30 ?_
      have f26 : 0 ≤ (f_hums (i_bank.toInt).toNat).toInt ∧ (f_hums (i_bank.toInt).toNat).toInt ≤ 100 := im23 (i_bank.toInt)
      refine lv_isub hx hb dX9_odds_31 ?_
      refine lv_topi (fun x27 ex27 => ?_)
      have f28 : x27.toInt = -1 * (f_hums (i_bank.toInt).toNat).toInt + 100 := (ob_753 (qi_sub ex27 zc_100 rfl (ob_751 f26) (ob_752 f26)))
      refine lv_iload_n hx hb dX9_odds_32 rfl (lv_at hl 1 rfl) ?_
      refine va_calli (va_runS (As := [.int x27, .int p0]) (rest := []) ⟨hx, hb, hml, hown, hG⟩ (kX9_power l dC dI x27 p0 H15.size (ob_754 f26 f28) (ob_755 f26 f28) (ob_756 f12 f13) (ob_757 f12 f13)) (va_cwS 2 hG (goodS gw1756 gw1757 gw138 gw1758) rfl rfl rfl hd_X9_power ⟨(Nat.le_of_ble_eq_true rfl), (Nat.le_of_ble_eq_true rfl)⟩) ⟨fbR, pR_in emptyP (emptyK hK)⟩ rfl rfl hl.1 rfl (lv_room (Nat.le_of_ble_eq_true rfl)) dX9_odds_33 ⟨(Nat.le_of_ble_eq_true rfl), (Nat.le_of_ble_eq_true rfl)⟩) hS (fun q hq h => absurd hq (Nat.not_lt.mpr h)) (fun q h => Nat.le_trans hS.1 h) (fun r_30 u_ t_ H29 locs ht hvm hw hB hz1 hk1 hS => ?_)
      subst hw
      have hP := wk hP hk1
      obtain ⟨f31, f32, f33⟩ := hB
      have f34 : (pw x27.toInt (p0.toInt).toNat) = (pw (-1 * (f_hums (i_bank.toInt).toNat).toInt + 100) (p0.toInt).toNat) := by rw [f28]
      have f35 : r_30.toInt = (pw (-1 * (f_hums (i_bank.toInt).toNat).toInt + 100) (p0.toInt).toNat) := (ob_581 f31 f34)
      refine lv_istore_n (lv' := [(3, .int r_30), (0, .ref (r 0)), (1, .int p0), (2, .int p1)]) hx hb dX9_odds_36 rfl hl (by decide) rfl (fun ls hl => ?_)
      refine lv_bipush (v := 100) hx hb dX9_odds_37 (by decide) ?_
      refine lv_iload_n hx hb dX9_odds_39 rfl (lv_at hl 2 rfl) ?_
      refine va_calli (va_runS (As := [.int 100, .int p0]) (rest := []) ⟨hx, hb, hml, hown, hG⟩ (kX9_power_v3 l dC dI 100 p0 H29.size (ob_758 zc_100) (ob_759 zc_100) (ob_756 f12 f13) (ob_757 f12 f13)) (va_cwS 2 hG (goodS gw1756 gw1757 gw138 gw1758) rfl rfl rfl hd_X9_power ⟨(Nat.le_of_ble_eq_true rfl), (Nat.le_of_ble_eq_true rfl)⟩) ⟨fbR, pR_in emptyP (emptyK hK)⟩ rfl rfl hl.1 rfl (lv_room (Nat.le_of_ble_eq_true rfl)) dX9_odds_40 ⟨(Nat.le_of_ble_eq_true rfl), (Nat.le_of_ble_eq_true rfl)⟩) hS (fun q hq h => absurd hq (Nat.not_lt.mpr h)) (fun q h => Nat.le_trans hS.1 h) (fun r_37 u_ t_ H36 locs ht hvm hw hB hz1 hk1 hS => ?_)
      subst hw
      have hP := wk hP hk1
      obtain ⟨f38, f39, f40⟩ := hB
      have f41 : r_37.toInt = (pw (100 : Int32).toInt (p0.toInt).toNat) := (ob_278 f38)
      refine lv_istore (lv' := [(4, .int r_37), (3, .int r_30), (0, .ref (r 0)), (1, .int p0), (2, .int p1)]) hx hb dX9_odds_43 hl (by decide) rfl (fun ls hl => ?_)
      refine lv_iload_n hx hb dX9_odds_45 rfl (lv_at hl 4 rfl) ?_
      refine lv_if_ne (tgt := 53) hx hb dX9_odds_46 (by decide) (fun c_42 => ?_) (fun c_42 => ?_)
      · skip
        have f43 : p1.toInt ≠ 0 := qi_ne c_42 rfl zc_0
        have f44 : 1 ≤ p1.toInt := (ob_444 f23 f43)
        refine lv_iload hx hb dX9_odds_53 (lv_at hl 0 rfl) ?_
        refine lv_iload hx hb dX9_odds_55 (lv_at hl 0 rfl) ?_
        refine lv_iload_n hx hb dX9_odds_57 rfl (lv_at hl 1 rfl) ?_
        refine va_calli (va_runS (As := [.int r_37, .int r_30]) (rest := [.int r_37]) ⟨hx, hb, hml, hown, hG⟩ (kX9_divisor l dC dI r_37 r_30 H36.size (ob_760 f39 f40 f41) (ob_761 f39 f40 f41) (ob_762 f34 f32 f33 f35) (ob_763 f34 f32 f33 f35)) (va_cwS 2 hG (goodS gw1814 gw1815 gw138 gw1816) rfl rfl rfl hd_X9_divisor ⟨(Nat.le_of_ble_eq_true rfl), (Nat.le_of_ble_eq_true rfl)⟩) ⟨fbR, pR_in emptyP (emptyK hK)⟩ rfl rfl hl.1 rfl (lv_room (Nat.le_of_ble_eq_true rfl)) dX9_odds_58 ⟨(Nat.le_of_ble_eq_true rfl), (Nat.le_of_ble_eq_true rfl)⟩) hS (fun q hq h => absurd hq (Nat.not_lt.mpr h)) (fun q h => Nat.le_trans hS.1 h) (fun r_46 u_ t_ H45 locs ht hvm hw hB hz1 hk1 hS => ?_)
        subst hw
        have hP := wk hP hk1
        obtain ⟨f47, f48⟩ := hB
        refine lv_idiv hx hb dX9_odds_61 (qi_nz (ob_238 f47)) ?_
        refine lv_topi (fun x49 ex49 => ?_)
        have f50 : 0 ≤ x49.toInt ∧ x49.toInt ≤ r_37.toInt := qi_div ex49 rfl rfl (ob_764 f39 f40 f41) (ob_238 f47)
        have f51 : x49.toInt = ((pw (100 : Int32).toInt (p0.toInt).toNat) / r_46.toInt) := divnn ex49 f41 rfl (ob_765 f39 f40 f50 f41) (ob_238 f47)
        rw [hQ]
        exact W.iret (v := x49) hx hb hr (fun t ht hW => ⟨⟨x49, x49, rfl, rfl, trivial⟩, hS.F ht⟩) hS.2.2 dX9_odds_62
      · skip
        have f52 : p1.toInt = 0 := qi_eq c_42 rfl zc_0
        refine lv_iload_n hx hb dX9_odds_49 rfl (lv_at hl 1 rfl) ?_
        refine lv_goto (tgt := 55) hx hb dX9_odds_50 (by decide) ?_
        refine lv_iload hx hb dX9_odds_55 (lv_at hl 0 rfl) ?_
        refine lv_iload_n hx hb dX9_odds_57 rfl (lv_at hl 1 rfl) ?_
        refine va_calli (va_runS (As := [.int r_37, .int r_30]) (rest := [.int r_30]) ⟨hx, hb, hml, hown, hG⟩ (kX9_divisor l dC dI r_37 r_30 H36.size (ob_760 f39 f40 f41) (ob_761 f39 f40 f41) (ob_762 f34 f32 f33 f35) (ob_763 f34 f32 f33 f35)) (va_cwS 2 hG (goodS gw1814 gw1815 gw138 gw1816) rfl rfl rfl hd_X9_divisor ⟨(Nat.le_of_ble_eq_true rfl), (Nat.le_of_ble_eq_true rfl)⟩) ⟨fbR, pR_in emptyP (emptyK hK)⟩ rfl rfl hl.1 rfl (lv_room (Nat.le_of_ble_eq_true rfl)) dX9_odds_58 ⟨(Nat.le_of_ble_eq_true rfl), (Nat.le_of_ble_eq_true rfl)⟩) hS (fun q hq h => absurd hq (Nat.not_lt.mpr h)) (fun q h => Nat.le_trans hS.1 h) (fun r_54 u_ t_ H53 locs ht hvm hw hB hz1 hk1 hS => ?_)
        subst hw
        have hP := wk hP hk1
        obtain ⟨f55, f56⟩ := hB
        refine lv_idiv hx hb dX9_odds_61 (qi_nz (ob_238 f55)) ?_
        refine lv_topi (fun x57 ex57 => ?_)
        have f58 : 0 ≤ x57.toInt ∧ x57.toInt ≤ r_30.toInt := qi_div ex57 rfl rfl (ob_762 f34 f32 f33 f35) (ob_238 f55)
        have f59 : x57.toInt = ((pw (-1 * (f_hums (i_bank.toInt).toNat).toInt + 100) (p0.toInt).toNat) / r_54.toInt) := divnn ex57 f35 rfl (ob_766 f34 f58 f35) (ob_238 f55)
        rw [hQ]
        exact W.iret (v := x57) hx hb hr (fun t ht hW => ⟨⟨x57, x57, rfl, rfl, trivial⟩, hS.F ht⟩) hS.2.2 dX9_odds_62
    · skip
      have f60 : r_16.toInt = 0 := qi_eq c_20 rfl zc_0
      refine lv_iconst (v := (-1)) hx hb dX9_odds_18 (by decide) ?_
      rw [hQ]
      exact W.iret (v := (-1)) hx hb hr (fun t ht hW => ⟨⟨(-1), (-1), rfl, rfl, trivial⟩, hS.F ht⟩) hS.2.2 dX9_odds_19
