set_option maxHeartbeats 4000000 in
set_option maxRecDepth 100000 in
theorem kX9_known (l : Launch) (dC : Nat → ClassId) (dI : Nat → Nat → Nat) (r : Nat → Nat) (ct : Nat → ClassId) (i_taped i_size i_faultKind i_at i_end i_token i_number i_bank i_rb i_codes i_within i_piled i_unitsInRule i_askHouse i_askTune i_acts i_undone i_laid i_knowns i_time : Int32) (f_text f_tunes f_houses f_hums f_told f_many f_ruleFrom f_ruleTo f_code f_eWhat f_eSign f_all f_kept f_was f_sTune f_boxAll : Nat → Int32) (J : Nat → Nat → Int32) (L : Nat → Nat → Int64) (p0 p1 p2 : Int32) (sz : Nat) (hI : (IM i_taped i_size i_at i_end i_bank i_rb i_acts i_undone i_laid i_knowns i_time f_tunes f_houses f_hums f_told f_many f_ruleFrom f_ruleTo f_code f_all f_kept f_was f_sTune f_boxAll)) (hz_p2 : 0 ≤ p2.toInt ∧ p2.toInt ≤ 1) : Met l yX9_known (.code yX9_known cX9_known 4 (some .int) :: GW) { frames := 6, cells := 0, slots := 0, locals := 223 } (va_Pc [.ref (r 0), .int p0, .int p1, .int p2] (pW (dC, dI) (WM r ct i_taped i_size i_faultKind i_at i_end i_token i_number i_bank i_rb i_codes i_within i_piled i_unitsInRule i_askHouse i_askTune i_acts i_undone i_laid i_knowns i_time f_text f_tunes f_houses f_hums f_told f_many f_ruleFrom f_ruleTo f_code f_eWhat f_eSign f_all f_kept f_was f_sTune f_boxAll J L) (TM ct) sz)) (va_Qi (fun (r0 : Int32) (u : Int32) => r0 = u) (fun (u : Int32) (t : State) => ∃ (n_i_knowns : Int32) (n_f_sTune : Nat → Int32) (n_J : Nat → Nat → Int32), va_P (dC, dI) vwCl (WM r ct i_taped i_size i_faultKind i_at i_end i_token i_number i_bank i_rb i_codes i_within i_piled i_unitsInRule i_askHouse i_askTune i_acts i_undone i_laid n_i_knowns i_time f_text f_tunes f_houses f_hums f_told f_many f_ruleFrom f_ruleTo f_code f_eWhat f_eSign f_all f_kept f_was n_f_sTune f_boxAll n_J L) t.heap ∧ va_D (va_A (WM r ct i_taped i_size i_faultKind i_at i_end i_token i_number i_bank i_rb i_codes i_within i_piled i_unitsInRule i_askHouse i_askTune i_acts i_undone i_laid i_knowns i_time f_text f_tunes f_houses f_hums f_told f_many f_ruleFrom f_ruleTo f_code f_eWhat f_eSign f_all f_kept f_was f_sTune f_boxAll J L) sz) (WM r ct i_taped i_size i_faultKind i_at i_end i_token i_number i_bank i_rb i_codes i_within i_piled i_unitsInRule i_askHouse i_askTune i_acts i_undone i_laid n_i_knowns i_time f_text f_tunes f_houses f_hums f_told f_many f_ruleFrom f_ruleTo f_code f_eWhat f_eSign f_all f_kept f_was n_f_sTune f_boxAll n_J L) ∧ (IM i_taped i_size i_at i_end i_bank i_rb i_acts i_undone i_laid n_i_knowns i_time f_tunes f_houses f_hums f_told f_many f_ruleFrom f_ruleTo f_code f_all f_kept f_was n_f_sTune f_boxAll)) (va_A (WM r ct i_taped i_size i_faultKind i_at i_end i_token i_number i_bank i_rb i_codes i_within i_piled i_unitsInRule i_askHouse i_askTune i_acts i_undone i_laid i_knowns i_time f_text f_tunes f_houses f_hums f_told f_many f_ruleFrom f_ruleTo f_code f_eWhat f_eSign f_all f_kept f_was f_sTune f_boxAll J L) sz)) 0 0 (va_A (WM r ct i_taped i_size i_faultKind i_at i_end i_token i_number i_bank i_rb i_codes i_within i_piled i_unitsInRule i_askHouse i_askTune i_acts i_undone i_laid i_knowns i_time f_text f_tunes f_houses f_hums f_told f_many f_ruleFrom f_ruleTo f_code f_eWhat f_eSign f_all f_kept f_was f_sTune f_boxAll J L) sz) := by
  refine Met.ofW (cc := cX9_known) (maxL := 4) (ret := (some .int)) (by decide) rfl ?_
  intro p e s m args below meth c0 s₁ B hml hv
  obtain ⟨rfl, hsz, hP, hK, hD0⟩ := hv
  have hx := B.exec
  have hb := B.bytes
  have hr := B.returns
  have hts := atoms_spec (ws := .code yX9_known cX9_known 4 (some .int) :: GW) B.pre
  have hG : ∀ w ∈ GW, w.before _ s = true := fun w h => hts w (List.mem_cons_of_mem _ h)
  have hown : s.vm.findClass RX9 = some m.cls := findClass_of_methodNamed B.named
  subst hsz
  have hD := hD0.self (sz := s.heap.size)
  generalize hAe : va_A (WM r ct i_taped i_size i_faultKind i_at i_end i_token i_number i_bank i_rb i_codes i_within i_piled i_unitsInRule i_askHouse i_askTune i_acts i_undone i_laid i_knowns i_time f_text f_tunes f_houses f_hums f_told f_many f_ruleFrom f_ruleTo f_code f_eWhat f_eSign f_all f_kept f_was f_sTune f_boxAll J L) s.heap.size = A at hD ⊢
  have hA : ∀ q : Nat, s.heap.size ≤ q → A q := fun q h => by rw [← hAe]; exact Or.inr h
  have hS : va_S A s.heap s.heap [] := va_S.rf
  have hP : va_P (dC, dI) vwCl (WM r ct i_taped i_size i_faultKind i_at i_end i_token i_number i_bank i_rb i_codes i_within i_piled i_unitsInRule i_askHouse i_askTune i_acts i_undone i_laid i_knowns i_time f_text f_tunes f_houses f_hums f_told f_many f_ruleFrom f_ruleTo f_code f_eWhat f_eSign f_all f_kept f_was f_sTune f_boxAll J L) s.heap := hP
  have hl := lv_entry ([.ref (r 0), .int p0, .int p1, .int p2]) (n := 4) (Nat.le_of_ble_eq_true rfl)
  rw [lg_entry_eq]
  generalize (lg_sl ([.ref (r 0), .int p0, .int p1, .int p2]) ++ List.replicate (4 - (lg_sl ([.ref (r 0), .int p0, .int p1, .int p2])).length) Slot.unset).toArray = ls at hl ⊢
  have hl : lv_has ls 4 [(0, .ref (r 0)), (1, .int p0), (2, .int p1), (3, .int p2)] := hl
  refine nameQ (fun Q hQ => ?_)
  obtain ⟨im0, im1, im2, im3, im4, im5, im6, im7, im8, im9, im10, im11, im12, im13, im14, im15, im16, im17, im18, im19, im20, im21, im22, im23, im24, im25, im26, im27, im28, im29, im30⟩ := id hI
  have f1 : 0 ≤ (f_tunes (i_bank.toInt).toNat).toInt ∧ (f_tunes (i_bank.toInt).toNat).toInt ≤ 5 := im20 (i_bank.toInt)
  have f2 : 0 ≤ (f_houses (i_bank.toInt).toNat).toInt ∧ (f_houses (i_bank.toInt).toNat).toInt ≤ 4 := im21 (i_bank.toInt)
  refine lv_aload_n hx hb dX9_known_0 rfl (lv_at hl 0 rfl) ?_
  refine lv_iload_n hx hb dX9_known_1 rfl (lv_at hl 1 rfl) ?_
  refine va_calli (va_runV (As := [.int p0]) (rest := []) ⟨hx, hb, hml, hown, hG⟩ (kX9_isTune l dC dI r ct i_taped i_size i_faultKind i_at i_end i_token i_number i_bank i_rb i_codes i_within i_piled i_unitsInRule i_askHouse i_askTune i_acts i_undone i_laid i_knowns i_time f_text f_tunes f_houses f_hums f_told f_many f_ruleFrom f_ruleTo f_code f_eWhat f_eSign f_all f_kept f_was f_sTune f_boxAll J L p0 s.heap.size hI) (cwV 1 hG (goodV gw1508 gw1510 gw85 gw138 gw1511) rfl rfl rfl hd_X9_isTune ⟨(Nat.le_of_ble_eq_true rfl), (Nat.le_of_ble_eq_true rfl)⟩) ⟨fbR, va_recv hK hP (ci := 8) (q0 := 0) rfl rfl, pR_in hP hK⟩ rfl rfl hl.1 rfl (lv_room (Nat.le_of_ble_eq_true rfl)) dX9_known_2 ⟨(Nat.le_of_ble_eq_true rfl), (Nat.le_of_ble_eq_true rfl)⟩) hS (fun q hq h => absurd hq (Nat.not_lt.mpr h)) (fun q h => hA q (Nat.le_trans hS.1 h)) (fun r_4 u_ t_ H3 locs ht hvm hw hB hz1 hk1 hS => ?_)
  subst hw
  have hP := wk hP hk1
  obtain ⟨f5, f6, f7, f8, f9⟩ := hB
  refine lv_if_eq (tgt := 37) hx hb dX9_known_5 (by decide) (fun c_10 => ?_) (fun c_10 => ?_)
  · skip
    have f11 : r_4.toInt = 0 := qi_eq c_10 rfl zc_0
    refine lv_iconst (v := (-1)) hx hb dX9_known_37 (by decide) ?_
    rw [hQ]
    exact W.iret (v := (-1)) hx hb hr (fun t ht hW => ⟨⟨(-1), (-1), rfl, rfl, ⟨i_knowns, f_sTune, J, by rw [ht]; exact hP, hD, hI⟩⟩, hS.F ht⟩) hS.2.2 dX9_known_38
  · skip
    have f12 : r_4.toInt ≠ 0 := qi_ne c_10 rfl zc_0
    have f13 : 1 ≤ r_4.toInt := (ob_399 f5 f12)
    have f14 : 0 ≤ p0.toInt := (ob_400 f5 f12)
    have f15 : p0.toInt + 1 ≤ (f_tunes (i_bank.toInt).toNat).toInt := (ob_401 f5 f12)
    have f16 : r_4.toInt = 1 := (ob_402 f7 f13)
    refine lv_iload_n hx hb dX9_known_8 rfl (lv_at hl 2 rfl) ?_
    refine lv_sipush (v := (-999)) hx hb dX9_known_9 (by decide) ?_
    refine lv_sipush (v := 999) hx hb dX9_known_12 (by decide) ?_
    refine va_calli (va_runS (As := [.int p1, .int (-999), .int 999]) (rest := []) ⟨hx, hb, hml, hown, hG⟩ (kX9_isIn l dC dI p1 (-999) 999 H3.size) (va_cwS 3 hG (goodS gw1516 gw1517 gw138 gw1518) rfl rfl rfl hd_X9_isIn ⟨(Nat.le_of_ble_eq_true rfl), (Nat.le_of_ble_eq_true rfl)⟩) ⟨fbR, pR_in emptyP (emptyK hK)⟩ rfl rfl hl.1 rfl (lv_room (Nat.le_of_ble_eq_true rfl)) dX9_known_15 ⟨(Nat.le_of_ble_eq_true rfl), (Nat.le_of_ble_eq_true rfl)⟩) hS (fun q hq h => absurd hq (Nat.not_lt.mpr h)) (fun q h => hA q (Nat.le_trans hS.1 h)) (fun r_18 u_ t_ H17 locs ht hvm hw hB hz1 hk1 hS => ?_)
    subst hw
    have hP := wk hP hk1
    obtain ⟨f19, f20, f21⟩ := hB
    refine lv_if_eq (tgt := 37) hx hb dX9_known_18 (by decide) (fun c_22 => ?_) (fun c_22 => ?_)
    · skip
      have f23 : r_18.toInt = 0 := qi_eq c_22 rfl zc_0
      refine lv_iconst (v := (-1)) hx hb dX9_known_37 (by decide) ?_
      rw [hQ]
      exact W.iret (v := (-1)) hx hb hr (fun t ht hW => ⟨⟨(-1), (-1), rfl, rfl, ⟨i_knowns, f_sTune, J, by rw [ht]; exact hP, hD, hI⟩⟩, hS.F ht⟩) hS.2.2 dX9_known_38
    · skip
      have f24 : r_18.toInt ≠ 0 := qi_ne c_22 rfl zc_0
      have f25 : 1 ≤ r_18.toInt := (ob_767 f19 f24 zc_999 zc_m999)
      have f26 : 0 ≤ p1.toInt + 999 := (ob_768 f19 f24 zc_999 zc_m999)
      have f27 : p1.toInt ≤ 999 := (ob_769 f19 f24 zc_999 zc_m999)
      have f28 : r_18.toInt = 1 := (ob_167 f20 f21 f25)
      refine lv_aload_n hx hb dX9_known_21 rfl (lv_at hl 0 rfl) ?_
      refine gM_X9_370_0 hx hb hG hown hK hP dX9_known_22 ?_
      refine lv_bipush (v := 30) hx hb dX9_known_25 (by decide) ?_
      refine lv_icmp_eq (tgt := 37) hx hb dX9_known_27 (by decide) (fun c_29 => ?_) (fun c_29 => ?_)
      · skip
        have f30 : i_knowns.toInt = 30 := qi_eq c_29 rfl zc_30
        refine lv_iconst (v := (-1)) hx hb dX9_known_37 (by decide) ?_
        rw [hQ]
        exact W.iret (v := (-1)) hx hb hr (fun t ht hW => ⟨⟨(-1), (-1), rfl, rfl, ⟨i_knowns, f_sTune, J, by rw [ht]; exact hP, hD, hI⟩⟩, hS.F ht⟩) hS.2.2 dX9_known_38
      · skip
        have f31 : i_knowns.toInt ≠ 30 := qi_ne c_29 rfl zc_30
        have f32 : i_knowns.toInt ≤ 29 := (ob_770 im10 im11 f31)
        refine lv_aload_n hx hb dX9_known_30 rfl (lv_at hl 0 rfl) ?_
        refine va_calli (va_runV (As := []) (rest := []) ⟨hx, hb, hml, hown, hG⟩ (kX9_homes l dC dI r ct i_taped i_size i_faultKind i_at i_end i_token i_number i_bank i_rb i_codes i_within i_piled i_unitsInRule i_askHouse i_askTune i_acts i_undone i_laid i_knowns i_time f_text f_tunes f_houses f_hums f_told f_many f_ruleFrom f_ruleTo f_code f_eWhat f_eSign f_all f_kept f_was f_sTune f_boxAll J L H17.size hI) (cwV 0 hG (goodV gw1167 gw1169 gw58 gw138 gw1170) rfl rfl rfl hd_X9_homes ⟨(Nat.le_of_ble_eq_true rfl), (Nat.le_of_ble_eq_true rfl)⟩) ⟨fbR, va_recv hK hP (ci := 8) (q0 := 0) rfl rfl, pR_in hP hK⟩ rfl rfl hl.1 rfl (lv_room (Nat.le_of_ble_eq_true rfl)) dX9_known_31 ⟨(Nat.le_of_ble_eq_true rfl), (Nat.le_of_ble_eq_true rfl)⟩) hS (fun q hq h => absurd hq (Nat.not_lt.mpr h)) (fun q h => hA q (Nat.le_trans hS.1 h)) (fun r_34 u_ t_ H33 locs ht hvm hw hB hz1 hk1 hS => ?_)
        subst hw
        have hP := wk hP hk1
        have f35 := hB
        have f36 : r_34.toInt = (f_houses (i_bank.toInt).toNat).toInt := (ob_278 f35)
        refine lv_if_ne (tgt := 39) hx hb dX9_known_34 (by decide) (fun c_37 => ?_) (fun c_37 => ?_)
        · skip
          have f38 : r_34.toInt ≠ 0 := qi_ne c_37 rfl zc_0
          have f39 : 1 ≤ (f_houses (i_bank.toInt).toNat).toInt := (ob_442 f2 f38 f36)
          refine lv_aload_n hx hb dX9_known_39 rfl (lv_at hl 0 rfl) ?_
          refine gM_X9_103_0 hx hb hG hown hK hP dX9_known_40 ?_
          refine lv_aload_n hx hb dX9_known_43 rfl (lv_at hl 0 rfl) ?_
          refine gM_X9_370_0 hx hb hG hown hK hP dX9_known_44 ?_
          refine lv_iload_n hx hb dX9_known_47 rfl (lv_at hl 1 rfl) ?_
          refine stM_30 (mm := i_knowns.toInt) hx hb hK hP hD hS rfl (ob_771 im10 im11 f32) (ob_772 im10 im11 f32) dX9_known_48 (fun z41 H40 locs ez41 hP hD hS => ?_)
          have g42 : EB 0 4 z41 := ez41 ▸ EB.upd im24 (ob_108 f14 f15) (ob_773 f1 f15)
          refine lv_aload_n hx hb dX9_known_49 rfl (lv_at hl 0 rfl) ?_
          refine gM_X9_106_0 hx hb hG hown hK hP dX9_known_50 ?_
          refine lv_aload_n hx hb dX9_known_53 rfl (lv_at hl 0 rfl) ?_
          refine gM_X9_370_0 hx hb hG hown hK hP dX9_known_54 ?_
          refine lv_iload_n hx hb dX9_known_57 rfl (lv_at hl 2 rfl) ?_
          refine stM_31 (mm := i_knowns.toInt) hx hb hK hP hD hS rfl (ob_771 im10 im11 f32) (ob_772 im10 im11 f32) dX9_known_58 (fun J44 H43 locs hP hD hS => ?_)
          refine lv_aload_n hx hb dX9_known_59 rfl (lv_at hl 0 rfl) ?_
          refine gM_X9_109_0 hx hb hG hown hK hP dX9_known_60 ?_
          refine lv_aload_n hx hb dX9_known_63 rfl (lv_at hl 0 rfl) ?_
          refine gM_X9_370_0 hx hb hG hown hK hP dX9_known_64 ?_
          refine lv_iload_n hx hb dX9_known_67 rfl (lv_at hl 3 rfl) ?_
          refine lv_if_eq (tgt := 75) hx hb dX9_known_68 (by decide) (fun c_45 => ?_) (fun c_45 => ?_)
          · skip
            have f46 : p2.toInt = 0 := qi_eq c_45 rfl zc_0
            refine lv_iconst (v := 0) hx hb dX9_known_75 (by decide) ?_
            refine stM_32 (mm := i_knowns.toInt) hx hb hK hP hD hS rfl (ob_771 im10 im11 f32) (ob_772 im10 im11 f32) dX9_known_76 (fun J48 H47 locs hP hD hS => ?_)
            refine lv_aload_n hx hb dX9_known_77 rfl (lv_at hl 0 rfl) ?_
            refine gM_X9_112_0 hx hb hG hown hK hP dX9_known_78 ?_
            refine lv_aload_n hx hb dX9_known_81 rfl (lv_at hl 0 rfl) ?_
            refine gM_X9_370_0 hx hb hG hown hK hP dX9_known_82 ?_
            refine lv_aload_n hx hb dX9_known_85 rfl (lv_at hl 0 rfl) ?_
            refine gM_X9_492_0 hx hb hG hown hK hP dX9_known_86 ?_
            refine stM_33 (mm := i_knowns.toInt) hx hb hK hP hD hS rfl (ob_771 im10 im11 f32) (ob_772 im10 im11 f32) dX9_known_89 (fun J50 H49 locs hP hD hS => ?_)
            refine lv_aload_n hx hb dX9_known_90 rfl (lv_at hl 0 rfl) ?_
            refine gM_X9_115_0 hx hb hG hown hK hP dX9_known_91 ?_
            refine lv_aload_n hx hb dX9_known_94 rfl (lv_at hl 0 rfl) ?_
            refine gM_X9_370_0 hx hb hG hown hK hP dX9_known_95 ?_
            refine lv_iconst (v := (-1)) hx hb dX9_known_98 (by decide) ?_
            refine stM_34 (mm := i_knowns.toInt) hx hb hK hP hD hS rfl (ob_771 im10 im11 f32) (ob_772 im10 im11 f32) dX9_known_99 (fun J52 H51 locs hP hD hS => ?_)
            refine lv_aload_n hx hb dX9_known_100 rfl (lv_at hl 0 rfl) ?_
            refine lv_dup hx hb dX9_known_101 rfl ?_
            refine gM_X9_370_0 hx hb hG hown hK hP dX9_known_102 ?_
            refine lv_iconst (v := 1) hx hb dX9_known_105 (by decide) ?_
            refine lv_iadd hx hb dX9_known_106 ?_
            refine lv_topi (fun x53 ex53 => ?_)
            have f54 : x53.toInt = i_knowns.toInt + 1 := (ob_139 (qi_add ex53 rfl zc_1 (ob_774 im10 im11 f32) (ob_775 im10 im11 f32)))
            refine pM_X9_370_0 hx hb hG hown hK hP hD hS dX9_known_107 (fun H55 locs hP hD hS => ?_)
            refine lv_aload_n hx hb dX9_known_110 rfl (lv_at hl 0 rfl) ?_
            refine gM_X9_370_0 hx hb hG hown hK hP dX9_known_111 ?_
            refine lv_iconst (v := 1) hx hb dX9_known_114 (by decide) ?_
            refine lv_isub hx hb dX9_known_115 ?_
            refine lv_topi (fun x56 ex56 => ?_)
            have f57 : x56.toInt = i_knowns.toInt := (ob_778 (qi_sub ex56 rfl zc_1 (ob_776 im10 im11 f32 f54) (ob_777 im10 im11 f32 f54)) f54)
            rw [hQ]
            exact W.iret (v := x56) hx hb hr (fun t ht hW => ⟨⟨x56, x56, rfl, rfl, ⟨x53, z41, J52, by rw [ht]; exact hP, hD, ⟨im0, im1, im2, im3, im4, im5, im6, im7, im8, im9, (ob_779 im10 im11 f32 f54), (ob_780 im10 im11 f32 f54), im12, im13, im14, im15, im16, im17, im18, im19, im20, im21, im22, im23, g42, im25, im26, im27, im28, im29, im30⟩⟩⟩, hS.F ht⟩) hS.2.2 dX9_known_116
          · skip
            have f58 : p2.toInt ≠ 0 := qi_ne c_45 rfl zc_0
            have f59 : 1 ≤ p2.toInt := (ob_398 hz_p2 f58)
            refine lv_iconst (v := 1) hx hb dX9_known_71 (by decide) ?_
            refine lv_goto (tgt := 76) hx hb dX9_known_72 (by decide) ?_
            refine stM_32 (mm := i_knowns.toInt) hx hb hK hP hD hS rfl (ob_771 im10 im11 f32) (ob_772 im10 im11 f32) dX9_known_76 (fun J61 H60 locs hP hD hS => ?_)
            refine lv_aload_n hx hb dX9_known_77 rfl (lv_at hl 0 rfl) ?_
            refine gM_X9_112_0 hx hb hG hown hK hP dX9_known_78 ?_
            refine lv_aload_n hx hb dX9_known_81 rfl (lv_at hl 0 rfl) ?_
            refine gM_X9_370_0 hx hb hG hown hK hP dX9_known_82 ?_
            refine lv_aload_n hx hb dX9_known_85 rfl (lv_at hl 0 rfl) ?_
            refine gM_X9_492_0 hx hb hG hown hK hP dX9_known_86 ?_
            refine stM_33 (mm := i_knowns.toInt) hx hb hK hP hD hS rfl (ob_771 im10 im11 f32) (ob_772 im10 im11 f32) dX9_known_89 (fun J63 H62 locs hP hD hS => ?_)
            refine lv_aload_n hx hb dX9_known_90 rfl (lv_at hl 0 rfl) ?_
            refine gM_X9_115_0 hx hb hG hown hK hP dX9_known_91 ?_
            refine lv_aload_n hx hb dX9_known_94 rfl (lv_at hl 0 rfl) ?_
            refine gM_X9_370_0 hx hb hG hown hK hP dX9_known_95 ?_
            refine lv_iconst (v := (-1)) hx hb dX9_known_98 (by decide) ?_
            refine stM_34 (mm := i_knowns.toInt) hx hb hK hP hD hS rfl (ob_771 im10 im11 f32) (ob_772 im10 im11 f32) dX9_known_99 (fun J65 H64 locs hP hD hS => ?_)
            refine lv_aload_n hx hb dX9_known_100 rfl (lv_at hl 0 rfl) ?_
            refine lv_dup hx hb dX9_known_101 rfl ?_
            refine gM_X9_370_0 hx hb hG hown hK hP dX9_known_102 ?_
            refine lv_iconst (v := 1) hx hb dX9_known_105 (by decide) ?_
            refine lv_iadd hx hb dX9_known_106 ?_
            refine lv_topi (fun x66 ex66 => ?_)
            have f67 : x66.toInt = i_knowns.toInt + 1 := (ob_139 (qi_add ex66 rfl zc_1 (ob_774 im10 im11 f32) (ob_775 im10 im11 f32)))
            refine pM_X9_370_0 hx hb hG hown hK hP hD hS dX9_known_107 (fun H68 locs hP hD hS => ?_)
            refine lv_aload_n hx hb dX9_known_110 rfl (lv_at hl 0 rfl) ?_
            refine gM_X9_370_0 hx hb hG hown hK hP dX9_known_111 ?_
            refine lv_iconst (v := 1) hx hb dX9_known_114 (by decide) ?_
            refine lv_isub hx hb dX9_known_115 ?_
            refine lv_topi (fun x69 ex69 => ?_)
            have f70 : x69.toInt = i_knowns.toInt := (ob_778 (qi_sub ex69 rfl zc_1 (ob_776 im10 im11 f32 f67) (ob_777 im10 im11 f32 f67)) f67)
            rw [hQ]
            exact W.iret (v := x69) hx hb hr (fun t ht hW => ⟨⟨x69, x69, rfl, rfl, ⟨x66, z41, J65, by rw [ht]; exact hP, hD, ⟨im0, im1, im2, im3, im4, im5, im6, im7, im8, im9, (ob_779 im10 im11 f32 f67), (ob_780 im10 im11 f32 f67), im12, im13, im14, im15, im16, im17, im18, im19, im20, im21, im22, im23, g42, im25, im26, im27, im28, im29, im30⟩⟩⟩, hS.F ht⟩) hS.2.2 dX9_known_116
        · skip
          have f71 : r_34.toInt = 0 := qi_eq c_37 rfl zc_0
          refine lv_iconst (v := (-1)) hx hb dX9_known_37 (by decide) ?_
          rw [hQ]
          exact W.iret (v := (-1)) hx hb hr (fun t ht hW => ⟨⟨(-1), (-1), rfl, rfl, ⟨i_knowns, f_sTune, J, by rw [ht]; exact hP, hD, hI⟩⟩, hS.F ht⟩) hS.2.2 dX9_known_38
set_option maxHeartbeats 4000000 in
set_option maxRecDepth 100000 in
theorem kX9_untell (l : Launch) (dC : Nat → ClassId) (dI : Nat → Nat → Nat) (r : Nat → Nat) (ct : Nat → ClassId) (i_taped i_size i_faultKind i_at i_end i_token i_number i_bank i_rb i_codes i_within i_piled i_unitsInRule i_askHouse i_askTune i_acts i_undone i_laid i_knowns i_time : Int32) (f_text f_tunes f_houses f_hums f_told f_many f_ruleFrom f_ruleTo f_code f_eWhat f_eSign f_all f_kept f_was f_sTune f_boxAll : Nat → Int32) (J : Nat → Nat → Int32) (L : Nat → Nat → Int64) (p0 : Int32) (sz : Nat) (hI : (IM i_taped i_size i_at i_end i_bank i_rb i_acts i_undone i_laid i_knowns i_time f_tunes f_houses f_hums f_told f_many f_ruleFrom f_ruleTo f_code f_all f_kept f_was f_sTune f_boxAll)) : Met l yX9_untell (.code yX9_untell cX9_untell 2 (some .boolean) :: GW) { frames := 4, cells := 0, slots := 0, locals := 162 } (va_Pc [.ref (r 0), .int p0] (pW (dC, dI) (WM r ct i_taped i_size i_faultKind i_at i_end i_token i_number i_bank i_rb i_codes i_within i_piled i_unitsInRule i_askHouse i_askTune i_acts i_undone i_laid i_knowns i_time f_text f_tunes f_houses f_hums f_told f_many f_ruleFrom f_ruleTo f_code f_eWhat f_eSign f_all f_kept f_was f_sTune f_boxAll J L) (TM ct) sz)) (va_Qi (fun (r0 : Int32) (u : Int32) => r0 = u) (fun (u : Int32) (t : State) => ∃ (n_J : Nat → Nat → Int32), va_P (dC, dI) vwCl (WM r ct i_taped i_size i_faultKind i_at i_end i_token i_number i_bank i_rb i_codes i_within i_piled i_unitsInRule i_askHouse i_askTune i_acts i_undone i_laid i_knowns i_time f_text f_tunes f_houses f_hums f_told f_many f_ruleFrom f_ruleTo f_code f_eWhat f_eSign f_all f_kept f_was f_sTune f_boxAll n_J L) t.heap ∧ va_D (va_A (WM r ct i_taped i_size i_faultKind i_at i_end i_token i_number i_bank i_rb i_codes i_within i_piled i_unitsInRule i_askHouse i_askTune i_acts i_undone i_laid i_knowns i_time f_text f_tunes f_houses f_hums f_told f_many f_ruleFrom f_ruleTo f_code f_eWhat f_eSign f_all f_kept f_was f_sTune f_boxAll J L) sz) (WM r ct i_taped i_size i_faultKind i_at i_end i_token i_number i_bank i_rb i_codes i_within i_piled i_unitsInRule i_askHouse i_askTune i_acts i_undone i_laid i_knowns i_time f_text f_tunes f_houses f_hums f_told f_many f_ruleFrom f_ruleTo f_code f_eWhat f_eSign f_all f_kept f_was f_sTune f_boxAll n_J L) ∧ (IM i_taped i_size i_at i_end i_bank i_rb i_acts i_undone i_laid i_knowns i_time f_tunes f_houses f_hums f_told f_many f_ruleFrom f_ruleTo f_code f_all f_kept f_was f_sTune f_boxAll)) (va_A (WM r ct i_taped i_size i_faultKind i_at i_end i_token i_number i_bank i_rb i_codes i_within i_piled i_unitsInRule i_askHouse i_askTune i_acts i_undone i_laid i_knowns i_time f_text f_tunes f_houses f_hums f_told f_many f_ruleFrom f_ruleTo f_code f_eWhat f_eSign f_all f_kept f_was f_sTune f_boxAll J L) sz)) 0 0 (va_A (WM r ct i_taped i_size i_faultKind i_at i_end i_token i_number i_bank i_rb i_codes i_within i_piled i_unitsInRule i_askHouse i_askTune i_acts i_undone i_laid i_knowns i_time f_text f_tunes f_houses f_hums f_told f_many f_ruleFrom f_ruleTo f_code f_eWhat f_eSign f_all f_kept f_was f_sTune f_boxAll J L) sz) := by
  refine Met.ofW (cc := cX9_untell) (maxL := 2) (ret := (some .boolean)) (by decide) rfl ?_
  intro p e s m args below meth c0 s₁ B hml hv
  obtain ⟨rfl, hsz, hP, hK, hD0⟩ := hv
  have hx := B.exec
  have hb := B.bytes
  have hr := B.returns
  have hts := atoms_spec (ws := .code yX9_untell cX9_untell 2 (some .boolean) :: GW) B.pre
  have hG : ∀ w ∈ GW, w.before _ s = true := fun w h => hts w (List.mem_cons_of_mem _ h)
  have hown : s.vm.findClass RX9 = some m.cls := findClass_of_methodNamed B.named
  subst hsz
  have hD := hD0.self (sz := s.heap.size)
  generalize hAe : va_A (WM r ct i_taped i_size i_faultKind i_at i_end i_token i_number i_bank i_rb i_codes i_within i_piled i_unitsInRule i_askHouse i_askTune i_acts i_undone i_laid i_knowns i_time f_text f_tunes f_houses f_hums f_told f_many f_ruleFrom f_ruleTo f_code f_eWhat f_eSign f_all f_kept f_was f_sTune f_boxAll J L) s.heap.size = A at hD ⊢
  have hA : ∀ q : Nat, s.heap.size ≤ q → A q := fun q h => by rw [← hAe]; exact Or.inr h
  have hS : va_S A s.heap s.heap [] := va_S.rf
  have hP : va_P (dC, dI) vwCl (WM r ct i_taped i_size i_faultKind i_at i_end i_token i_number i_bank i_rb i_codes i_within i_piled i_unitsInRule i_askHouse i_askTune i_acts i_undone i_laid i_knowns i_time f_text f_tunes f_houses f_hums f_told f_many f_ruleFrom f_ruleTo f_code f_eWhat f_eSign f_all f_kept f_was f_sTune f_boxAll J L) s.heap := hP
  have hl := lv_entry ([.ref (r 0), .int p0]) (n := 2) (Nat.le_of_ble_eq_true rfl)
  rw [lg_entry_eq]
  generalize (lg_sl ([.ref (r 0), .int p0]) ++ List.replicate (2 - (lg_sl ([.ref (r 0), .int p0])).length) Slot.unset).toArray = ls at hl ⊢
  have hl : lv_has ls 2 [(0, .ref (r 0)), (1, .int p0)] := hl
  refine nameQ (fun Q hQ => ?_)
  obtain ⟨im0, im1, im2, im3, im4, im5, im6, im7, im8, im9, im10, im11, im12, im13, im14, im15, im16, im17, im18, im19, im20, im21, im22, im23, im24, im25, im26, im27, im28, im29, im30⟩ := id hI
  have f1 : 0 ≤ (f_tunes (i_bank.toInt).toNat).toInt ∧ (f_tunes (i_bank.toInt).toNat).toInt ≤ 5 := im20 (i_bank.toInt)
  have f2 : 0 ≤ (f_houses (i_bank.toInt).toNat).toInt ∧ (f_houses (i_bank.toInt).toNat).toInt ≤ 4 := im21 (i_bank.toInt)
  refine lv_iload_n hx hb dX9_untell_0 rfl (lv_at hl 1 rfl) ?_
  refine lv_iconst (v := 0) hx hb dX9_untell_1 (by decide) ?_
  refine lv_aload_n hx hb dX9_untell_2 rfl (lv_at hl 0 rfl) ?_
  refine gM_X9_370_0 hx hb hG hown hK hP dX9_untell_3 ?_
  refine lv_iconst (v := 1) hx hb dX9_untell_6 (by decide) ?_
  refine lv_isub hx hb dX9_untell_7 ?_
  refine lv_topi (fun x3 ex3 => ?_)
  have f4 : x3.toInt = i_knowns.toInt + (-1) := (ob_217 (qi_sub ex3 rfl zc_1 (ob_781 im10 im11) (ob_782 im10 im11)))
  refine va_calli (va_runS (As := [.int p0, .int 0, .int x3]) (rest := []) ⟨hx, hb, hml, hown, hG⟩ (kX9_isIn l dC dI p0 0 x3 s.heap.size) (va_cwS 3 hG (goodS gw1516 gw1517 gw138 gw1518) rfl rfl rfl hd_X9_isIn ⟨(Nat.le_of_ble_eq_true rfl), (Nat.le_of_ble_eq_true rfl)⟩) ⟨fbR, pR_in emptyP (emptyK hK)⟩ rfl rfl hl.1 rfl (lv_room (Nat.le_of_ble_eq_true rfl)) dX9_untell_8 ⟨(Nat.le_of_ble_eq_true rfl), (Nat.le_of_ble_eq_true rfl)⟩) hS (fun q hq h => absurd hq (Nat.not_lt.mpr h)) (fun q h => hA q (Nat.le_trans hS.1 h)) (fun r_6 u_ t_ H5 locs ht hvm hw hB hz1 hk1 hS => ?_)
  subst hw
  have hP := wk hP hk1
  obtain ⟨f7, f8, f9⟩ := hB
  refine lv_if_eq (tgt := 23) hx hb dX9_untell_11 (by decide) (fun c_10 => ?_) (fun c_10 => ?_)
  · skip
    have f11 : r_6.toInt = 0 := qi_eq c_10 rfl zc_0
    refine lv_iconst (v := 0) hx hb dX9_untell_23 (by decide) ?_
    rw [hQ]
    exact W.zret (v := 0) hx hb hr (by decide) (fun t ht hW => ⟨⟨0, 0, rfl, rfl, ⟨J, by rw [ht]; exact hP, hD, hI⟩⟩, hS.F ht⟩) hS.2.2 dX9_untell_24
  · skip
    have f12 : r_6.toInt ≠ 0 := qi_ne c_10 rfl zc_0
    have f13 : 1 ≤ r_6.toInt := (ob_411 f7 f12 f4 zc_0)
    have f14 : 0 ≤ p0.toInt := (ob_412 f7 f12 f4 zc_0)
    have f15 : p0.toInt + 1 ≤ i_knowns.toInt := (ob_413 f7 f12 f4 zc_0)
    have f16 : r_6.toInt = 1 := (ob_167 f8 f9 f13)
    refine lv_aload_n hx hb dX9_untell_14 rfl (lv_at hl 0 rfl) ?_
    refine gM_X9_115_0 hx hb hG hown hK hP dX9_untell_15 ?_
    refine lv_iload_n hx hb dX9_untell_18 rfl (lv_at hl 1 rfl) ?_
    refine ldM_34 (mm := p0.toInt) hx hb hK hP rfl (ob_108 f14 f15) (ob_783 im11 f15) dX9_untell_19 (fun x17 => ?_)
    refine lv_if_lt (tgt := 25) hx hb dX9_untell_20 (by decide) (fun c_18 => ?_) (fun c_18 => ?_)
    · skip
      have f19 : x17.toInt < 0 := qi_lt c_18 rfl zc_0
      refine lv_aload_n hx hb dX9_untell_25 rfl (lv_at hl 0 rfl) ?_
      refine gM_X9_115_0 hx hb hG hown hK hP dX9_untell_26 ?_
      refine lv_iload_n hx hb dX9_untell_29 rfl (lv_at hl 1 rfl) ?_
      refine lv_aload_n hx hb dX9_untell_30 rfl (lv_at hl 0 rfl) ?_
      refine gM_X9_492_0 hx hb hG hown hK hP dX9_untell_31 ?_
      refine stM_34 (mm := p0.toInt) hx hb hK hP hD hS rfl (ob_108 f14 f15) (ob_783 im11 f15) dX9_untell_34 (fun J21 H20 locs hP hD hS => ?_)
      refine lv_iconst (v := 1) hx hb dX9_untell_35 (by decide) ?_
      rw [hQ]
      exact W.zret (v := 1) hx hb hr (by decide) (fun t ht hW => ⟨⟨1, 1, rfl, rfl, ⟨J21, by rw [ht]; exact hP, hD, hI⟩⟩, hS.F ht⟩) hS.2.2 dX9_untell_36
    · skip
      have f22 : 0 ≤ x17.toInt := qi_nlt c_18 rfl zc_0
      refine lv_iconst (v := 0) hx hb dX9_untell_23 (by decide) ?_
      rw [hQ]
      exact W.zret (v := 0) hx hb hr (by decide) (fun t ht hW => ⟨⟨0, 0, rfl, rfl, ⟨J, by rw [ht]; exact hP, hD, hI⟩⟩, hS.F ht⟩) hS.2.2 dX9_untell_24
set_option maxHeartbeats 4000000 in
set_option maxRecDepth 100000 in
theorem kX9_later (l : Launch) (dC : Nat → ClassId) (dI : Nat → Nat → Nat) (r : Nat → Nat) (ct : Nat → ClassId) (i_taped i_size i_faultKind i_at i_end i_token i_number i_bank i_rb i_codes i_within i_piled i_unitsInRule i_askHouse i_askTune i_acts i_undone i_laid i_knowns i_time : Int32) (f_text f_tunes f_houses f_hums f_told f_many f_ruleFrom f_ruleTo f_code f_eWhat f_eSign f_all f_kept f_was f_sTune f_boxAll : Nat → Int32) (J : Nat → Nat → Int32) (L : Nat → Nat → Int64) (p0 : Int32) (sz : Nat) (hI : (IM i_taped i_size i_at i_end i_bank i_rb i_acts i_undone i_laid i_knowns i_time f_tunes f_houses f_hums f_told f_many f_ruleFrom f_ruleTo f_code f_all f_kept f_was f_sTune f_boxAll)) : Met l yX9_later (.code yX9_later cX9_later 2 (some .int) :: GW) { frames := 4, cells := 0, slots := 0, locals := 162 } (va_Pc [.ref (r 0), .int p0] (pW (dC, dI) (WM r ct i_taped i_size i_faultKind i_at i_end i_token i_number i_bank i_rb i_codes i_within i_piled i_unitsInRule i_askHouse i_askTune i_acts i_undone i_laid i_knowns i_time f_text f_tunes f_houses f_hums f_told f_many f_ruleFrom f_ruleTo f_code f_eWhat f_eSign f_all f_kept f_was f_sTune f_boxAll J L) (TM ct) sz)) (va_Qi (fun (r0 : Int32) (u : Int32) => r0 = u) (fun (u : Int32) (t : State) => ∃ (n_i_time : Int32), va_P (dC, dI) vwCl (WM r ct i_taped i_size i_faultKind i_at i_end i_token i_number i_bank i_rb i_codes i_within i_piled i_unitsInRule i_askHouse i_askTune i_acts i_undone i_laid i_knowns n_i_time f_text f_tunes f_houses f_hums f_told f_many f_ruleFrom f_ruleTo f_code f_eWhat f_eSign f_all f_kept f_was f_sTune f_boxAll J L) t.heap ∧ va_D (va_A (WM r ct i_taped i_size i_faultKind i_at i_end i_token i_number i_bank i_rb i_codes i_within i_piled i_unitsInRule i_askHouse i_askTune i_acts i_undone i_laid i_knowns i_time f_text f_tunes f_houses f_hums f_told f_many f_ruleFrom f_ruleTo f_code f_eWhat f_eSign f_all f_kept f_was f_sTune f_boxAll J L) sz) (WM r ct i_taped i_size i_faultKind i_at i_end i_token i_number i_bank i_rb i_codes i_within i_piled i_unitsInRule i_askHouse i_askTune i_acts i_undone i_laid i_knowns n_i_time f_text f_tunes f_houses f_hums f_told f_many f_ruleFrom f_ruleTo f_code f_eWhat f_eSign f_all f_kept f_was f_sTune f_boxAll J L) ∧ (IM i_taped i_size i_at i_end i_bank i_rb i_acts i_undone i_laid i_knowns n_i_time f_tunes f_houses f_hums f_told f_many f_ruleFrom f_ruleTo f_code f_all f_kept f_was f_sTune f_boxAll) ∧ (((u.toInt + 1 = 0)) ∨ ((i_time.toInt + p0.toInt ≤ 100000) ∧ (u.toInt = i_time.toInt + p0.toInt)) ∨ ((100001 ≤ i_time.toInt + p0.toInt) ∧ (u.toInt + 1 = 0))) ∧ (0 ≤ u.toInt + 1) ∧ (u.toInt ≤ 101000)) (va_A (WM r ct i_taped i_size i_faultKind i_at i_end i_token i_number i_bank i_rb i_codes i_within i_piled i_unitsInRule i_askHouse i_askTune i_acts i_undone i_laid i_knowns i_time f_text f_tunes f_houses f_hums f_told f_many f_ruleFrom f_ruleTo f_code f_eWhat f_eSign f_all f_kept f_was f_sTune f_boxAll J L) sz)) 0 0 (va_A (WM r ct i_taped i_size i_faultKind i_at i_end i_token i_number i_bank i_rb i_codes i_within i_piled i_unitsInRule i_askHouse i_askTune i_acts i_undone i_laid i_knowns i_time f_text f_tunes f_houses f_hums f_told f_many f_ruleFrom f_ruleTo f_code f_eWhat f_eSign f_all f_kept f_was f_sTune f_boxAll J L) sz) := by
  refine Met.ofW (cc := cX9_later) (maxL := 2) (ret := (some .int)) (by decide) rfl ?_
  intro p e s m args below meth c0 s₁ B hml hv
  obtain ⟨rfl, hsz, hP, hK, hD0⟩ := hv
  have hx := B.exec
  have hb := B.bytes
  have hr := B.returns
  have hts := atoms_spec (ws := .code yX9_later cX9_later 2 (some .int) :: GW) B.pre
  have hG : ∀ w ∈ GW, w.before _ s = true := fun w h => hts w (List.mem_cons_of_mem _ h)
  have hown : s.vm.findClass RX9 = some m.cls := findClass_of_methodNamed B.named
  subst hsz
  have hD := hD0.self (sz := s.heap.size)
  generalize hAe : va_A (WM r ct i_taped i_size i_faultKind i_at i_end i_token i_number i_bank i_rb i_codes i_within i_piled i_unitsInRule i_askHouse i_askTune i_acts i_undone i_laid i_knowns i_time f_text f_tunes f_houses f_hums f_told f_many f_ruleFrom f_ruleTo f_code f_eWhat f_eSign f_all f_kept f_was f_sTune f_boxAll J L) s.heap.size = A at hD ⊢
  have hA : ∀ q : Nat, s.heap.size ≤ q → A q := fun q h => by rw [← hAe]; exact Or.inr h
  have hS : va_S A s.heap s.heap [] := va_S.rf
  have hP : va_P (dC, dI) vwCl (WM r ct i_taped i_size i_faultKind i_at i_end i_token i_number i_bank i_rb i_codes i_within i_piled i_unitsInRule i_askHouse i_askTune i_acts i_undone i_laid i_knowns i_time f_text f_tunes f_houses f_hums f_told f_many f_ruleFrom f_ruleTo f_code f_eWhat f_eSign f_all f_kept f_was f_sTune f_boxAll J L) s.heap := hP
  have hl := lv_entry ([.ref (r 0), .int p0]) (n := 2) (Nat.le_of_ble_eq_true rfl)
  rw [lg_entry_eq]
  generalize (lg_sl ([.ref (r 0), .int p0]) ++ List.replicate (2 - (lg_sl ([.ref (r 0), .int p0])).length) Slot.unset).toArray = ls at hl ⊢
  have hl : lv_has ls 2 [(0, .ref (r 0)), (1, .int p0)] := hl
  refine nameQ (fun Q hQ => ?_)
  obtain ⟨im0, im1, im2, im3, im4, im5, im6, im7, im8, im9, im10, im11, im12, im13, im14, im15, im16, im17, im18, im19, im20, im21, im22, im23, im24, im25, im26, im27, im28, im29, im30⟩ := id hI
  have f1 : 0 ≤ (f_tunes (i_bank.toInt).toNat).toInt ∧ (f_tunes (i_bank.toInt).toNat).toInt ≤ 5 := im20 (i_bank.toInt)
  have f2 : 0 ≤ (f_houses (i_bank.toInt).toNat).toInt ∧ (f_houses (i_bank.toInt).toNat).toInt ≤ 4 := im21 (i_bank.toInt)
  refine lv_iload_n hx hb dX9_later_0 rfl (lv_at hl 1 rfl) ?_
  refine lv_iconst (v := 0) hx hb dX9_later_1 (by decide) ?_
  refine lv_sipush (v := 1000) hx hb dX9_later_2 (by decide) ?_
  refine va_calli (va_runS (As := [.int p0, .int 0, .int 1000]) (rest := []) ⟨hx, hb, hml, hown, hG⟩ (kX9_isIn l dC dI p0 0 1000 s.heap.size) (va_cwS 3 hG (goodS gw1516 gw1517 gw138 gw1518) rfl rfl rfl hd_X9_isIn ⟨(Nat.le_of_ble_eq_true rfl), (Nat.le_of_ble_eq_true rfl)⟩) ⟨fbR, pR_in emptyP (emptyK hK)⟩ rfl rfl hl.1 rfl (lv_room (Nat.le_of_ble_eq_true rfl)) dX9_later_5 ⟨(Nat.le_of_ble_eq_true rfl), (Nat.le_of_ble_eq_true rfl)⟩) hS (fun q hq h => absurd hq (Nat.not_lt.mpr h)) (fun q h => hA q (Nat.le_trans hS.1 h)) (fun r_4 u_ t_ H3 locs ht hvm hw hB hz1 hk1 hS => ?_)
  subst hw
  have hP := wk hP hk1
  obtain ⟨f5, f6, f7⟩ := hB
  refine lv_if_eq (tgt := 23) hx hb dX9_later_8 (by decide) (fun c_8 => ?_) (fun c_8 => ?_)
  · skip
    have f9 : r_4.toInt = 0 := qi_eq c_8 rfl zc_0
    refine lv_iconst (v := (-1)) hx hb dX9_later_23 (by decide) ?_
    rw [hQ]
    exact W.iret (v := (-1)) hx hb hr (fun t ht hW => ⟨⟨(-1), (-1), rfl, rfl, ⟨i_time, by rw [ht]; exact hP, hD, hI, (ob_784 im12 im13 zc_m1), (ob_349 zc_m1), (ob_785 zc_m1)⟩⟩, hS.F ht⟩) hS.2.2 dX9_later_24
  · skip
    have f10 : r_4.toInt ≠ 0 := qi_ne c_8 rfl zc_0
    have f11 : 1 ≤ r_4.toInt := (ob_786 f5 f10 zc_1000 zc_0)
    have f12 : 0 ≤ p0.toInt := (ob_787 f5 f10 zc_1000 zc_0)
    have f13 : p0.toInt ≤ 1000 := (ob_788 f5 f10 zc_1000 zc_0)
    have f14 : r_4.toInt = 1 := (ob_167 f6 f7 f11)
    refine lv_aload_n hx hb dX9_later_11 rfl (lv_at hl 0 rfl) ?_
    refine gM_X9_492_0 hx hb hG hown hK hP dX9_later_12 ?_
    refine lv_iload_n hx hb dX9_later_15 rfl (lv_at hl 1 rfl) ?_
    refine lv_iadd hx hb dX9_later_16 ?_
    refine lv_topi (fun x15 ex15 => ?_)
    have f16 : x15.toInt = i_time.toInt + p0.toInt := (ob_791 (qi_add ex15 rfl rfl (ob_789 im12 f12) (ob_790 im13 f13)))
    refine lv_ldcw (v := 100000) hx hb hown (hG _ gw1829) dX9_later_17 ?_
    refine lv_icmp_le (tgt := 25) hx hb dX9_later_20 (by decide) (fun c_17 => ?_) (fun c_17 => ?_)
    · skip
      have f18 : x15.toInt ≤ 100000 := qi_le c_17 rfl zc_100000
      refine lv_aload_n hx hb dX9_later_25 rfl (lv_at hl 0 rfl) ?_
      refine lv_dup hx hb dX9_later_26 rfl ?_
      refine gM_X9_492_0 hx hb hG hown hK hP dX9_later_27 ?_
      refine lv_iload_n hx hb dX9_later_30 rfl (lv_at hl 1 rfl) ?_
      refine lv_iadd hx hb dX9_later_31 ?_
      refine lv_topi (fun x19 ex19 => ?_)
      have f20 : x19.toInt = i_time.toInt + p0.toInt := (ob_791 (qi_add ex19 rfl rfl (ob_789 im12 f12) (ob_790 im13 f13)))
      refine pM_X9_492_0 hx hb hG hown hK hP hD hS dX9_later_32 (fun H21 locs hP hD hS => ?_)
      refine lv_aload_n hx hb dX9_later_35 rfl (lv_at hl 0 rfl) ?_
      refine gM_X9_492_0 hx hb hG hown hK hP dX9_later_36 ?_
      rw [hQ]
      exact W.iret (v := x19) hx hb hr (fun t ht hW => ⟨⟨x19, x19, rfl, rfl, ⟨x19, by rw [ht]; exact hP, hD, ⟨im0, im1, im2, im3, im4, im5, im6, im7, im8, im9, im10, im11, (ob_795 im12 f12 f20), (ob_796 f18 f16 f20), im14, im15, im16, im17, im18, im19, im20, im21, im22, im23, im24, im25, im26, im27, im28, im29, im30⟩, (ob_792 f18 f16 f20), (ob_793 im12 f12 f20), (ob_794 im13 f13 f20)⟩⟩, hS.F ht⟩) hS.2.2 dX9_later_39
    · skip
      have f22 : 100000 < x15.toInt := qi_nle c_17 rfl zc_100000
      refine lv_iconst (v := (-1)) hx hb dX9_later_23 (by decide) ?_
      rw [hQ]
      exact W.iret (v := (-1)) hx hb hr (fun t ht hW => ⟨⟨(-1), (-1), rfl, rfl, ⟨i_time, by rw [ht]; exact hP, hD, hI, (ob_797 zc_m1), (ob_349 zc_m1), (ob_785 zc_m1)⟩⟩, hS.F ht⟩) hS.2.2 dX9_later_24
set_option maxHeartbeats 4000000 in
set_option maxRecDepth 100000 in
theorem kX9_noteIn (l : Launch) (dC : Nat → ClassId) (dI : Nat → Nat → Nat) (p0 p1 : Int32) (sz : Nat) (hp0 : 0 ≤ p0.toInt) (hp1 : p0.toInt ≤ 342) : Met l yX9_noteIn (.code yX9_noteIn cX9_noteIn 2 (some .int) :: GW) { frames := 2, cells := 0, slots := 0, locals := 100 } (va_Pc [.int p0, .int p1] (pR (dC, dI) [] [] sz)) (va_Qi (fun (r0 : Int32) (u : Int32) => r0 = u) (fun (u : Int32) (t : State) => (((p1.toInt ≠ 0) ∧ (p1.toInt ≠ 1) ∧ (0 ≤ u.toInt) ∧ (u.toInt ≤ 6) ∧ (u.toInt ≤ p0.toInt) ∧ (p0.toInt = 7 * (p0.toInt / 7) + u.toInt)) ∨ ((p1.toInt ≠ 0) ∧ (p1.toInt = 1) ∧ (0 ≤ u.toInt) ∧ (u.toInt ≤ 6)) ∨ ((p1.toInt = 0) ∧ (0 ≤ u.toInt) ∧ (u.toInt ≤ p0.toInt) ∧ (49 * u.toInt ≤ p0.toInt) ∧ (p0.toInt ≤ 49 * u.toInt + 48))) ∧ (0 ≤ u.toInt) ∧ (u.toInt ≤ 6)) (fun q => sz ≤ q)) 0 0 (fun q => sz ≤ q) := by
  refine Met.ofW (cc := cX9_noteIn) (maxL := 2) (ret := (some .int)) (by decide) rfl ?_
  intro p e s m args below meth c0 s₁ B hml hv
  obtain ⟨rfl, hsz, hP, hK⟩ := hv
  have hx := B.exec
  have hb := B.bytes
  have hr := B.returns
  have hts := atoms_spec (ws := .code yX9_noteIn cX9_noteIn 2 (some .int) :: GW) B.pre
  have hG : ∀ w ∈ GW, w.before _ s = true := fun w h => hts w (List.mem_cons_of_mem _ h)
  have hown : s.vm.findClass RX9 = some m.cls := findClass_of_methodNamed B.named
  subst hsz
  have hS : va_S (fun q => s.heap.size ≤ q) s.heap s.heap [] := va_S.rf
  have hP : va_P (dC, dI) vwCl [] s.heap := hP
  have hl := lv_entry ([.int p0, .int p1]) (n := 2) (Nat.le_of_ble_eq_true rfl)
  rw [lg_entry_eq]
  generalize (lg_sl ([.int p0, .int p1]) ++ List.replicate (2 - (lg_sl ([.int p0, .int p1])).length) Slot.unset).toArray = ls at hl ⊢
  have hl : lv_has ls 2 [(0, .int p0), (1, .int p1)] := hl
  refine nameQ (fun Q hQ => ?_)
  refine lv_iload_n hx hb dX9_noteIn_0 rfl (lv_at hl 1 rfl) ?_
  refine lv_if_ne (tgt := 11) hx hb dX9_noteIn_1 (by decide) (fun c_1 => ?_) (fun c_1 => ?_)
  · skip
    have f2 : p1.toInt ≠ 0 := qi_ne c_1 rfl zc_0
    refine lv_iload_n hx hb dX9_noteIn_11 rfl (lv_at hl 1 rfl) ?_
    refine lv_iconst (v := 1) hx hb dX9_noteIn_12 (by decide) ?_
    refine lv_icmp_ne (tgt := 26) hx hb dX9_noteIn_13 (by decide) (fun c_3 => ?_) (fun c_3 => ?_)
    · skip
      have f4 : p1.toInt ≠ 1 := qi_ne c_3 rfl zc_1
      refine lv_iload_n hx hb dX9_noteIn_26 rfl (lv_at hl 0 rfl) ?_
      refine lv_bipush (v := 7) hx hb dX9_noteIn_27 (by decide) ?_
      refine lv_irem hx hb dX9_noteIn_29 (by decide) ?_
      refine lv_topi (fun x5 ex5 => ?_)
      have f6 : 0 ≤ x5.toInt ∧ x5.toInt < 7 ∧ x5.toInt ≤ p0.toInt := qi_rem ex5 rfl zc_7 (ob_798 hp0 hp1) (by decide)
      have f7 : p0.toInt = 7 * (p0.toInt / 7) + x5.toInt := qi_remq ex5 rfl zc_7 (ob_798 hp0 hp1) (by decide)
      rw [hQ]
      exact W.iret (v := x5) hx hb hr (fun t ht hW => ⟨⟨x5, x5, rfl, rfl, ⟨(ob_799 f2 f6 f7), (ob_800 f6 f7), (ob_801 f6 f7)⟩⟩, hS.F ht⟩) hS.2.2 dX9_noteIn_30
    · skip
      have f8 : p1.toInt = 1 := qi_eq c_3 rfl zc_1
      have f9 : 1 ≤ p1.toInt := (ob_229 f8)
      refine lv_iload_n hx hb dX9_noteIn_16 rfl (lv_at hl 0 rfl) ?_
      refine lv_bipush (v := 7) hx hb dX9_noteIn_17 (by decide) ?_
      refine lv_idiv hx hb dX9_noteIn_19 (by decide) ?_
      refine lv_topi (fun x10 ex10 => ?_)
      have f11 : 0 ≤ x10.toInt ∧ x10.toInt ≤ p0.toInt := qi_div ex10 rfl zc_7 (ob_798 hp0 hp1) (by decide)
      have f12 : 7 * x10.toInt ≤ p0.toInt ∧ p0.toInt < 7 * x10.toInt + 7 := qi_divc ex10 rfl zc_7 (ob_798 hp0 hp1) (by decide)
      refine lv_bipush (v := 7) hx hb dX9_noteIn_20 (by decide) ?_
      refine lv_irem hx hb dX9_noteIn_22 (by decide) ?_
      refine lv_topi (fun x13 ex13 => ?_)
      have f14 : 0 ≤ x13.toInt ∧ x13.toInt < 7 ∧ x13.toInt ≤ x10.toInt := qi_rem ex13 rfl zc_7 (ob_802 f11 f12) (by decide)
      have f15 : x10.toInt = 7 * (x10.toInt / 7) + x13.toInt := qi_remq ex13 rfl zc_7 (ob_802 f11 f12) (by decide)
      refine lv_goto (tgt := 30) hx hb dX9_noteIn_23 (by decide) ?_
      rw [hQ]
      exact W.iret (v := x13) hx hb hr (fun t ht hW => ⟨⟨x13, x13, rfl, rfl, ⟨(ob_803 f8 f14), (ob_800 f14 f15), (ob_801 f14 f15)⟩⟩, hS.F ht⟩) hS.2.2 dX9_noteIn_30
  · skip
    have f16 : p1.toInt = 0 := qi_eq c_1 rfl zc_0
    refine lv_iload_n hx hb dX9_noteIn_4 rfl (lv_at hl 0 rfl) ?_
    refine lv_bipush (v := 49) hx hb dX9_noteIn_5 (by decide) ?_
    refine lv_idiv hx hb dX9_noteIn_7 (by decide) ?_
    refine lv_topi (fun x17 ex17 => ?_)
    have f18 : 0 ≤ x17.toInt ∧ x17.toInt ≤ p0.toInt := qi_div ex17 rfl zc_49 (ob_798 hp0 hp1) (by decide)
    have f19 : 49 * x17.toInt ≤ p0.toInt ∧ p0.toInt < 49 * x17.toInt + 49 := qi_divc ex17 rfl zc_49 (ob_798 hp0 hp1) (by decide)
    refine lv_goto (tgt := 30) hx hb dX9_noteIn_8 (by decide) ?_
    rw [hQ]
    exact W.iret (v := x17) hx hb hr (fun t ht hW => ⟨⟨x17, x17, rfl, rfl, ⟨(ob_804 hp0 f16 f19), (ob_805 f18 f19), (ob_806 hp1 f19)⟩⟩, hS.F ht⟩) hS.2.2 dX9_noteIn_30
set_option maxHeartbeats 4000000 in
set_option maxRecDepth 100000 in
theorem kX9_layGlad (l : Launch) (dC : Nat → ClassId) (dI : Nat → Nat → Nat) (r : Nat → Nat) (ct : Nat → ClassId) (i_taped i_size i_faultKind i_at i_end i_token i_number i_bank i_rb i_codes i_within i_piled i_unitsInRule i_askHouse i_askTune i_acts i_undone i_laid i_knowns i_time : Int32) (f_text f_tunes f_houses f_hums f_told f_many f_ruleFrom f_ruleTo f_code f_eWhat f_eSign f_all f_kept f_was f_sTune f_boxAll : Nat → Int32) (J : Nat → Nat → Int32) (L : Nat → Nat → Int64) (sz : Nat) (hI : (IM i_taped i_size i_at i_end i_bank i_rb i_acts i_undone i_laid i_knowns i_time f_tunes f_houses f_hums f_told f_many f_ruleFrom f_ruleTo f_code f_all f_kept f_was f_sTune f_boxAll)) (hp0 : 1 ≤ (f_houses (i_bank.toInt).toNat).toInt) : Met l yX9_layGlad (.code yX9_layGlad cX9_layGlad 8 none :: GW) { frames := 20, cells := 0, slots := 0, locals := 667 } (va_Pc [.ref (r 0)] (pW (dC, dI) (WM r ct i_taped i_size i_faultKind i_at i_end i_token i_number i_bank i_rb i_codes i_within i_piled i_unitsInRule i_askHouse i_askTune i_acts i_undone i_laid i_knowns i_time f_text f_tunes f_houses f_hums f_told f_many f_ruleFrom f_ruleTo f_code f_eWhat f_eSign f_all f_kept f_was f_sTune f_boxAll J L) (TM ct) sz)) (va_Qv (fun _ : Unit => True) (fun (_ : Unit) (t : State) => ∃ (n_i_askHouse n_i_askTune : Int32) (n_f_all n_f_kept : Nat → Int32) (n_J : Nat → Nat → Int32), va_P (dC, dI) vwCl (WM r ct i_taped i_size i_faultKind i_at i_end i_token i_number i_bank i_rb i_codes i_within i_piled i_unitsInRule n_i_askHouse n_i_askTune i_acts i_undone i_laid i_knowns i_time f_text f_tunes f_houses f_hums f_told f_many f_ruleFrom f_ruleTo f_code f_eWhat f_eSign n_f_all n_f_kept f_was f_sTune f_boxAll n_J L) t.heap ∧ va_D (va_A (WM r ct i_taped i_size i_faultKind i_at i_end i_token i_number i_bank i_rb i_codes i_within i_piled i_unitsInRule i_askHouse i_askTune i_acts i_undone i_laid i_knowns i_time f_text f_tunes f_houses f_hums f_told f_many f_ruleFrom f_ruleTo f_code f_eWhat f_eSign f_all f_kept f_was f_sTune f_boxAll J L) sz) (WM r ct i_taped i_size i_faultKind i_at i_end i_token i_number i_bank i_rb i_codes i_within i_piled i_unitsInRule n_i_askHouse n_i_askTune i_acts i_undone i_laid i_knowns i_time f_text f_tunes f_houses f_hums f_told f_many f_ruleFrom f_ruleTo f_code f_eWhat f_eSign n_f_all n_f_kept f_was f_sTune f_boxAll n_J L) ∧ (IM i_taped i_size i_at i_end i_bank i_rb i_acts i_undone i_laid i_knowns i_time f_tunes f_houses f_hums f_told f_many f_ruleFrom f_ruleTo f_code n_f_all n_f_kept f_was f_sTune f_boxAll)) (va_A (WM r ct i_taped i_size i_faultKind i_at i_end i_token i_number i_bank i_rb i_codes i_within i_piled i_unitsInRule i_askHouse i_askTune i_acts i_undone i_laid i_knowns i_time f_text f_tunes f_houses f_hums f_told f_many f_ruleFrom f_ruleTo f_code f_eWhat f_eSign f_all f_kept f_was f_sTune f_boxAll J L) sz)) 0 0 (va_A (WM r ct i_taped i_size i_faultKind i_at i_end i_token i_number i_bank i_rb i_codes i_within i_piled i_unitsInRule i_askHouse i_askTune i_acts i_undone i_laid i_knowns i_time f_text f_tunes f_houses f_hums f_told f_many f_ruleFrom f_ruleTo f_code f_eWhat f_eSign f_all f_kept f_was f_sTune f_boxAll J L) sz) := by
  refine Met.ofW (cc := cX9_layGlad) (maxL := 8) (ret := none) (by decide) rfl ?_
  intro p e s m args below meth c0 s₁ B hml hv
  obtain ⟨rfl, hsz, hP, hK, hD0⟩ := hv
  have hx := B.exec
  have hb := B.bytes
  have hr := B.returns
  have hts := atoms_spec (ws := .code yX9_layGlad cX9_layGlad 8 none :: GW) B.pre
  have hG : ∀ w ∈ GW, w.before _ s = true := fun w h => hts w (List.mem_cons_of_mem _ h)
  have hown : s.vm.findClass RX9 = some m.cls := findClass_of_methodNamed B.named
  subst hsz
  have hD := hD0.self (sz := s.heap.size)
  generalize hAe : va_A (WM r ct i_taped i_size i_faultKind i_at i_end i_token i_number i_bank i_rb i_codes i_within i_piled i_unitsInRule i_askHouse i_askTune i_acts i_undone i_laid i_knowns i_time f_text f_tunes f_houses f_hums f_told f_many f_ruleFrom f_ruleTo f_code f_eWhat f_eSign f_all f_kept f_was f_sTune f_boxAll J L) s.heap.size = A at hD ⊢
  have hA : ∀ q : Nat, s.heap.size ≤ q → A q := fun q h => by rw [← hAe]; exact Or.inr h
  have hS : va_S A s.heap s.heap [] := va_S.rf
  have hP : va_P (dC, dI) vwCl (WM r ct i_taped i_size i_faultKind i_at i_end i_token i_number i_bank i_rb i_codes i_within i_piled i_unitsInRule i_askHouse i_askTune i_acts i_undone i_laid i_knowns i_time f_text f_tunes f_houses f_hums f_told f_many f_ruleFrom f_ruleTo f_code f_eWhat f_eSign f_all f_kept f_was f_sTune f_boxAll J L) s.heap := hP
  have hl := lv_entry ([.ref (r 0)]) (n := 8) (Nat.le_of_ble_eq_true rfl)
  rw [lg_entry_eq]
  generalize (lg_sl ([.ref (r 0)]) ++ List.replicate (8 - (lg_sl ([.ref (r 0)])).length) Slot.unset).toArray = ls at hl ⊢
  have hl : lv_has ls 8 [(0, .ref (r 0))] := hl
  refine nameQ (fun Q hQ => ?_)
  obtain ⟨im0, im1, im2, im3, im4, im5, im6, im7, im8, im9, im10, im11, im12, im13, im14, im15, im16, im17, im18, im19, im20, im21, im22, im23, im24, im25, im26, im27, im28, im29, im30⟩ := id hI
  have f1 : 0 ≤ (f_tunes (i_bank.toInt).toNat).toInt ∧ (f_tunes (i_bank.toInt).toNat).toInt ≤ 5 := im20 (i_bank.toInt)
  have f2 : 0 ≤ (f_houses (i_bank.toInt).toNat).toInt ∧ (f_houses (i_bank.toInt).toNat).toInt ≤ 4 := im21 (i_bank.toInt)
  refine lv_aload_n hx hb dX9_layGlad_0 rfl (lv_at hl 0 rfl) ?_
  refine va_calli (va_runV (As := []) (rest := []) ⟨hx, hb, hml, hown, hG⟩ (kX9_homes l dC dI r ct i_taped i_size i_faultKind i_at i_end i_token i_number i_bank i_rb i_codes i_within i_piled i_unitsInRule i_askHouse i_askTune i_acts i_undone i_laid i_knowns i_time f_text f_tunes f_houses f_hums f_told f_many f_ruleFrom f_ruleTo f_code f_eWhat f_eSign f_all f_kept f_was f_sTune f_boxAll J L s.heap.size hI) (cwV 0 hG (goodV gw1167 gw1169 gw58 gw138 gw1170) rfl rfl rfl hd_X9_homes ⟨(Nat.le_of_ble_eq_true rfl), (Nat.le_of_ble_eq_true rfl)⟩) ⟨fbR, va_recv hK hP (ci := 8) (q0 := 0) rfl rfl, pR_in hP hK⟩ rfl rfl hl.1 rfl (lv_room (Nat.le_of_ble_eq_true rfl)) dX9_layGlad_1 ⟨(Nat.le_of_ble_eq_true rfl), (Nat.le_of_ble_eq_true rfl)⟩) hS (fun q hq h => absurd hq (Nat.not_lt.mpr h)) (fun q h => hA q (Nat.le_trans hS.1 h)) (fun r_4 u_ t_ H3 locs ht hvm hw hB hz1 hk1 hS => ?_)
  subst hw
  have hP := wk hP hk1
  have f5 := hB
  have f6 : r_4.toInt = (f_houses (i_bank.toInt).toNat).toInt := (ob_278 f5)
  refine lv_iconst (v := 1) hx hb dX9_layGlad_4 (by decide) ?_
  refine lv_isub hx hb dX9_layGlad_5 ?_
  refine lv_topi (fun x7 ex7 => ?_)
  have f8 : x7.toInt = (f_houses (i_bank.toInt).toNat).toInt + (-1) := (ob_281 (qi_sub ex7 rfl zc_1 (ob_807 f2 hp0 f6) (ob_808 f2 hp0 f6)) f6)
  refine lv_istore_n (lv' := [(1, .int x7), (0, .ref (r 0))]) hx hb dX9_layGlad_6 rfl hl (by decide) rfl (fun ls hl => ?_)
  refine lv_iconst (v := 3) hx hb dX9_layGlad_7 (by decide) ?_
  refine lv_iconst (v := 4) hx hb dX9_layGlad_8 (by decide) ?_
  refine lv_aload_n hx hb dX9_layGlad_9 rfl (lv_at hl 1 rfl) ?_
  refine gM_X9_249_0 hx hb hG hown hK hP dX9_layGlad_10 ?_
  refine lv_imul hx hb dX9_layGlad_13 ?_
  refine lv_topi (fun x9 ex9 => ?_)
  have f10 : x9.toInt = 4 * i_bank.toInt := (ob_120 (qi_mul ex9 zc_4 rfl (ob_118 im4 im5) (ob_119 im4 im5)))
  refine lv_iload_n hx hb dX9_layGlad_14 rfl (lv_at hl 0 rfl) ?_
  refine lv_iadd hx hb dX9_layGlad_15 ?_
  refine lv_topi (fun x11 ex11 => ?_)
  have f12 : x11.toInt = (f_houses (i_bank.toInt).toNat).toInt + 4 * i_bank.toInt + (-1) := (ob_811 (qi_add ex11 rfl rfl (ob_809 im4 f2 f8 f10) (ob_810 im5 f2 f8 f10)) f8 f10)
  refine lv_imul hx hb dX9_layGlad_16 ?_
  refine lv_topi (fun x13 ex13 => ?_)
  have f14 : x13.toInt = 3 * (f_houses (i_bank.toInt).toNat).toInt + 12 * i_bank.toInt + (-3) := (ob_814 (qi_mul ex13 zc_3 rfl (ob_812 im4 f2 f12) (ob_813 im5 f2 f12)) f12)
  refine lv_istore_n (lv' := [(2, .int x13), (1, .int x7), (0, .ref (r 0))]) hx hb dX9_layGlad_17 rfl hl (by decide) rfl (fun ls hl => ?_)
  refine lv_aload_n hx hb dX9_layGlad_18 rfl (lv_at hl 2 rfl) ?_
  refine gM_X9_57_0 hx hb hG hown hK hP dX9_layGlad_19 ?_
  refine lv_iload_n hx hb dX9_layGlad_22 rfl (lv_at hl 0 rfl) ?_
  refine ldM_15 (mm := 3 * (f_houses (i_bank.toInt).toNat).toInt + 12 * i_bank.toInt + (-3)) hx hb hK hP f14 (ob_815 im4 hp0) (ob_816 im5 f2) dX9_layGlad_23 (fun x15 => ?_)
  refine lv_istore_n (lv' := [(3, .int x15), (2, .int x13), (1, .int x7), (0, .ref (r 0))]) hx hb dX9_layGlad_24 rfl hl (by decide) rfl (fun ls hl => ?_)
  refine lv_aload_n hx hb dX9_layGlad_25 rfl (lv_at hl 3 rfl) ?_
  refine gM_X9_57_0 hx hb hG hown hK hP dX9_layGlad_26 ?_
  refine lv_iload_n hx hb dX9_layGlad_29 rfl (lv_at hl 1 rfl) ?_
  refine lv_iconst (v := 1) hx hb dX9_layGlad_30 (by decide) ?_
  refine lv_iadd hx hb dX9_layGlad_31 ?_
  refine lv_topi (fun x16 ex16 => ?_)
  have f17 : x16.toInt = 3 * (f_houses (i_bank.toInt).toNat).toInt + 12 * i_bank.toInt + (-2) := (ob_819 (qi_add ex16 rfl zc_1 (ob_817 im4 f2 f14) (ob_818 im5 f2 f14)) f14)
  refine ldM_15 (mm := 3 * (f_houses (i_bank.toInt).toNat).toInt + 12 * i_bank.toInt + (-2)) hx hb hK hP f17 (ob_820 im4 hp0) (ob_821 im5 f2) dX9_layGlad_32 (fun x18 => ?_)
  refine lv_istore (lv' := [(4, .int x18), (3, .int x15), (2, .int x13), (1, .int x7), (0, .ref (r 0))]) hx hb dX9_layGlad_33 hl (by decide) rfl (fun ls hl => ?_)
  refine lv_aload_n hx hb dX9_layGlad_35 rfl (lv_at hl 4 rfl) ?_
  refine gM_X9_57_0 hx hb hG hown hK hP dX9_layGlad_36 ?_
  refine lv_iload_n hx hb dX9_layGlad_39 rfl (lv_at hl 2 rfl) ?_
  refine lv_iconst (v := 2) hx hb dX9_layGlad_40 (by decide) ?_
  refine lv_iadd hx hb dX9_layGlad_41 ?_
  refine lv_topi (fun x19 ex19 => ?_)
  have f20 : x19.toInt = 3 * (f_houses (i_bank.toInt).toNat).toInt + 12 * i_bank.toInt + (-1) := (ob_824 (qi_add ex19 rfl zc_2 (ob_822 im4 f2 f14) (ob_823 im5 f2 f14)) f14)
  refine ldM_15 (mm := 3 * (f_houses (i_bank.toInt).toNat).toInt + 12 * i_bank.toInt + (-1)) hx hb hK hP f20 (ob_825 im4 hp0) (ob_826 im5 f2) dX9_layGlad_42 (fun x21 => ?_)
  refine lv_istore (lv' := [(5, .int x21), (4, .int x18), (3, .int x15), (2, .int x13), (1, .int x7), (0, .ref (r 0))]) hx hb dX9_layGlad_43 hl (by decide) rfl (fun ls hl => ?_)
  refine lv_aload_n hx hb dX9_layGlad_45 rfl (lv_at hl 5 rfl) ?_
  have hFc := frA hD hS hA
  refine va_callv (va_runV (As := []) (rest := []) ⟨hx, hb, hml, hown, hG⟩ (kX9_keepNow l dC dI r ct i_taped i_size i_faultKind i_at i_end i_token i_number i_bank i_rb i_codes i_within i_piled i_unitsInRule i_askHouse i_askTune i_acts i_undone i_laid i_knowns i_time f_text f_tunes f_houses f_hums f_told f_many f_ruleFrom f_ruleTo f_code f_eWhat f_eSign f_all f_kept f_was f_sTune f_boxAll J L H3.size hI) (cwV 0 hG (goodV gw1736 gw1738 gw113 gw138 gw1739) rfl rfl rfl hd_X9_keepNow ⟨(Nat.le_of_ble_eq_true rfl), (Nat.le_of_ble_eq_true rfl)⟩) ⟨fbW, va_recv hK hP (ci := 8) (q0 := 0) rfl rfl, pW_in hP hK hD⟩ rfl rfl hl.1 rfl (lv_room (Nat.le_of_ble_eq_true rfl)) dX9_layGlad_46 ⟨(Nat.le_of_ble_eq_true rfl), (Nat.le_of_ble_eq_true rfl)⟩) hS (fun q _ h => hFc q h) hFc (fun _ t_ H22 locs ht hvm hw hB hz1 hk1 hS => ?_)
  obtain ⟨z24, hP1, hD1, hI25⟩ := hB
  rw [ht] at hP1
  have hP := hP1
  have hD := dW hFc hD1
  obtain ⟨im26, im27, im28, im29, im30, im31, im32, im33, im34, im35, im36, im37, im38, im39, im40, im41, im42, im43, im44, im45, im46, im47, im48, im49, im50, im51, im52, im53, im54, im55, im56⟩ := id hI25
  refine lv_aload_n hx hb dX9_layGlad_49 rfl (lv_at hl 5 rfl) ?_
  have hFc := frA hD hS hA
  refine va_callv (va_runV (As := []) (rest := []) ⟨hx, hb, hml, hown, hG⟩ (kX9_layTold l dC dI r ct i_taped i_size i_faultKind i_at i_end i_token i_number i_bank i_rb i_codes i_within i_piled i_unitsInRule i_askHouse i_askTune i_acts i_undone i_laid i_knowns i_time f_text f_tunes f_houses f_hums f_told f_many f_ruleFrom f_ruleTo f_code f_eWhat f_eSign f_all z24 f_was f_sTune f_boxAll J L H22.size hI25) (cwV 0 hG (goodV gw1163 gw1165 gw57 gw138 gw1166) rfl rfl rfl hd_X9_layTold ⟨(Nat.le_of_ble_eq_true rfl), (Nat.le_of_ble_eq_true rfl)⟩) ⟨fbW, va_recv hK hP (ci := 8) (q0 := 0) rfl rfl, pW_in hP hK hD⟩ rfl rfl hl.1 rfl (lv_room (Nat.le_of_ble_eq_true rfl)) dX9_layGlad_50 ⟨(Nat.le_of_ble_eq_true rfl), (Nat.le_of_ble_eq_true rfl)⟩) hS (fun q _ h => hFc q h) hFc (fun _ t_ H57 locs ht hvm hw hB hz1 hk1 hS => ?_)
  obtain ⟨z59, hP1, hD1, hI60⟩ := hB
  rw [ht] at hP1
  have hP := hP1
  have hD := dW hFc hD1
  obtain ⟨im61, im62, im63, im64, im65, im66, im67, im68, im69, im70, im71, im72, im73, im74, im75, im76, im77, im78, im79, im80, im81, im82, im83, im84, im85, im86, im87, im88, im89, im90, im91⟩ := id hI60
  refine lv_iconst (v := 0) hx hb dX9_layGlad_53 (by decide) ?_
  refine lv_istore (lv' := [(6, .int 0), (5, .int x21), (4, .int x18), (3, .int x15), (2, .int x13), (1, .int x7), (0, .ref (r 0))]) hx hb dX9_layGlad_54 hl (by decide) rfl (fun ls hl => ?_)
  have L56 : ∀ (N56 : Nat) (y56_6 : Int32) (m56_i_askHouse m56_i_askTune : Int32) (m56_J : Nat → Nat → Int32) (H56 : Heap) (locs : List Loc) (ls : Array Slot) (g56_0 : 0 ≤ y56_6.toInt) (g56_1 : y56_6.toInt ≤ 343) (hP : va_P (dC, dI) vwCl (WM r ct i_taped i_size i_faultKind i_at i_end i_token i_number i_bank i_rb i_codes i_within i_piled i_unitsInRule m56_i_askHouse m56_i_askTune i_acts i_undone i_laid i_knowns i_time f_text f_tunes f_houses f_hums f_told f_many f_ruleFrom f_ruleTo f_code f_eWhat f_eSign z59 z24 f_was f_sTune f_boxAll m56_J L) H56) (hD : va_D A (WM r ct i_taped i_size i_faultKind i_at i_end i_token i_number i_bank i_rb i_codes i_within i_piled i_unitsInRule m56_i_askHouse m56_i_askTune i_acts i_undone i_laid i_knowns i_time f_text f_tunes f_houses f_hums f_told f_many f_ruleFrom f_ruleTo f_code f_eWhat f_eSign z59 z24 f_was f_sTune f_boxAll m56_J L)) (hS : va_S A s.heap H56 locs) (hl : lv_has ls 8 [(0, .ref (r 0)), (1, .int x7), (2, .int x13), (3, .int x15), (4, .int x18), (5, .int x21), (6, .int y56_6)]) (hM : -1 * y56_6.toInt + 343 < (N56 : Int)), W p l e { frames := 20, cells := 0, slots := 0, locals := 667 } s m ([.ref (r 0)] : List Value).toArray below meth c0 H56 locs 0 0 Q (F0 m 56 ls []) := by
    intro N56
    induction N56 with
    | zero =>
      intro y56_6 m56_i_askHouse m56_i_askTune m56_J H56 locs ls g56_0 g56_1 hP hD hS hl hM
      exact ((ob_827 hM g56_0 g56_1)).elim
    | succ N56 ih56 =>
      intro y56_6 m56_i_askHouse m56_i_askTune m56_J H56 locs ls g56_0 g56_1 hP hD hS hl hM
      have hM56 := msucc hM
      refine lv_iload hx hb dX9_layGlad_56 (lv_at hl 6 rfl) ?_
      refine lv_sipush (v := 343) hx hb dX9_layGlad_58 (by decide) ?_
      refine lv_icmp_ge (tgt := 139) hx hb dX9_layGlad_61 (by decide) (fun c_92 => ?_) (fun c_92 => ?_)
      · skip
        have f93 : 343 ≤ y56_6.toInt := qi_le c_92 zc_343 rfl
        refine lv_aload_n hx hb dX9_layGlad_139 rfl (lv_at hl 0 rfl) ?_
        refine gM_X9_57_0 hx hb hG hown hK hP dX9_layGlad_140 ?_
        refine lv_iload_n hx hb dX9_layGlad_143 rfl (lv_at hl 2 rfl) ?_
        refine lv_iload_n hx hb dX9_layGlad_144 rfl (lv_at hl 3 rfl) ?_
        refine stM_15 (mm := 3 * (f_houses (i_bank.toInt).toNat).toInt + 12 * i_bank.toInt + (-3)) hx hb hK hP hD hS f14 (ob_815 im4 hp0) (ob_816 im5 f2) dX9_layGlad_145 (fun J95 H94 locs hP hD hS => ?_)
        refine lv_aload_n hx hb dX9_layGlad_146 rfl (lv_at hl 0 rfl) ?_
        refine gM_X9_57_0 hx hb hG hown hK hP dX9_layGlad_147 ?_
        refine lv_iload_n hx hb dX9_layGlad_150 rfl (lv_at hl 2 rfl) ?_
        refine lv_iconst (v := 1) hx hb dX9_layGlad_151 (by decide) ?_
        refine lv_iadd hx hb dX9_layGlad_152 ?_
        refine lv_topi (fun x96 ex96 => ?_)
        have f97 : x96.toInt = 3 * (f_houses (i_bank.toInt).toNat).toInt + 12 * i_bank.toInt + (-2) := (ob_819 (qi_add ex96 rfl zc_1 (ob_817 im4 f2 f14) (ob_818 im5 f2 f14)) f14)
        refine lv_iload hx hb dX9_layGlad_153 (lv_at hl 4 rfl) ?_
        refine stM_15 (mm := 3 * (f_houses (i_bank.toInt).toNat).toInt + 12 * i_bank.toInt + (-2)) hx hb hK hP hD hS f97 (ob_820 im4 hp0) (ob_821 im5 f2) dX9_layGlad_155 (fun J99 H98 locs hP hD hS => ?_)
        refine lv_aload_n hx hb dX9_layGlad_156 rfl (lv_at hl 0 rfl) ?_
        refine gM_X9_57_0 hx hb hG hown hK hP dX9_layGlad_157 ?_
        refine lv_iload_n hx hb dX9_layGlad_160 rfl (lv_at hl 2 rfl) ?_
        refine lv_iconst (v := 2) hx hb dX9_layGlad_161 (by decide) ?_
        refine lv_iadd hx hb dX9_layGlad_162 ?_
        refine lv_topi (fun x100 ex100 => ?_)
        have f101 : x100.toInt = 3 * (f_houses (i_bank.toInt).toNat).toInt + 12 * i_bank.toInt + (-1) := (ob_824 (qi_add ex100 rfl zc_2 (ob_822 im4 f2 f14) (ob_823 im5 f2 f14)) f14)
        refine lv_iload hx hb dX9_layGlad_163 (lv_at hl 5 rfl) ?_
        refine stM_15 (mm := 3 * (f_houses (i_bank.toInt).toNat).toInt + 12 * i_bank.toInt + (-1)) hx hb hK hP hD hS f101 (ob_825 im4 hp0) (ob_826 im5 f2) dX9_layGlad_165 (fun J103 H102 locs hP hD hS => ?_)
        refine lv_aload_n hx hb dX9_layGlad_166 rfl (lv_at hl 0 rfl) ?_
        have hFc := frA hD hS hA
        refine va_callv (va_runV (As := []) (rest := []) ⟨hx, hb, hml, hown, hG⟩ (kX9_bringBack l dC dI r ct i_taped i_size i_faultKind i_at i_end i_token i_number i_bank i_rb i_codes i_within i_piled i_unitsInRule m56_i_askHouse m56_i_askTune i_acts i_undone i_laid i_knowns i_time f_text f_tunes f_houses f_hums f_told f_many f_ruleFrom f_ruleTo f_code f_eWhat f_eSign z59 z24 f_was f_sTune f_boxAll J103 L H102.size hI60) (cwV 0 hG (goodV gw1740 gw1742 gw114 gw138 gw1743) rfl rfl rfl hd_X9_bringBack ⟨(Nat.le_of_ble_eq_true rfl), (Nat.le_of_ble_eq_true rfl)⟩) ⟨fbW, va_recv hK hP (ci := 8) (q0 := 0) rfl rfl, pW_in hP hK hD⟩ rfl rfl hl.1 rfl (lv_room (Nat.le_of_ble_eq_true rfl)) dX9_layGlad_167 ⟨(Nat.le_of_ble_eq_true rfl), (Nat.le_of_ble_eq_true rfl)⟩) hS (fun q _ h => hFc q h) hFc (fun _ t_ H104 locs ht hvm hw hB hz1 hk1 hS => ?_)
        obtain ⟨z106, hP1, hD1, hI107⟩ := hB
        rw [ht] at hP1
        have hP := hP1
        have hD := dW hFc hD1
        obtain ⟨im108, im109, im110, im111, im112, im113, im114, im115, im116, im117, im118, im119, im120, im121, im122, im123, im124, im125, im126, im127, im128, im129, im130, im131, im132, im133, im134, im135, im136, im137, im138⟩ := id hI107
        rw [hQ]
        exact W.vret hx hb hr (fun t ht hW => ⟨⟨(), rfl, trivial, ⟨m56_i_askHouse, m56_i_askTune, z106, z24, J103, by rw [ht]; exact hP, hD, hI107⟩⟩, hS.F ht⟩) hS.2.2 dX9_layGlad_170
      · skip
        have f139 : y56_6.toInt < 343 := qi_nle c_92 zc_343 rfl
        refine lv_iconst (v := 0) hx hb dX9_layGlad_64 (by decide) ?_
        refine lv_istore (lv' := [(7, .int 0), (0, .ref (r 0)), (1, .int x7), (2, .int x13), (3, .int x15), (4, .int x18), (5, .int x21), (6, .int y56_6)]) hx hb dX9_layGlad_65 hl (by decide) rfl (fun ls hl => ?_)
        have L67 : ∀ (N67 : Nat) (y67_7 : Int32) (m67_J : Nat → Nat → Int32) (H67 : Heap) (locs : List Loc) (ls : Array Slot) (g67_0 : 0 ≤ y67_7.toInt) (g67_1 : y67_7.toInt ≤ 3) (hP : va_P (dC, dI) vwCl (WM r ct i_taped i_size i_faultKind i_at i_end i_token i_number i_bank i_rb i_codes i_within i_piled i_unitsInRule m56_i_askHouse m56_i_askTune i_acts i_undone i_laid i_knowns i_time f_text f_tunes f_houses f_hums f_told f_many f_ruleFrom f_ruleTo f_code f_eWhat f_eSign z59 z24 f_was f_sTune f_boxAll m67_J L) H67) (hD : va_D A (WM r ct i_taped i_size i_faultKind i_at i_end i_token i_number i_bank i_rb i_codes i_within i_piled i_unitsInRule m56_i_askHouse m56_i_askTune i_acts i_undone i_laid i_knowns i_time f_text f_tunes f_houses f_hums f_told f_many f_ruleFrom f_ruleTo f_code f_eWhat f_eSign z59 z24 f_was f_sTune f_boxAll m67_J L)) (hS : va_S A s.heap H67 locs) (hl : lv_has ls 8 [(0, .ref (r 0)), (1, .int x7), (2, .int x13), (3, .int x15), (4, .int x18), (5, .int x21), (6, .int y56_6), (7, .int y67_7)]) (hM : -1 * y67_7.toInt + 3 < (N67 : Int)), W p l e { frames := 20, cells := 0, slots := 0, locals := 667 } s m ([.ref (r 0)] : List Value).toArray below meth c0 H67 locs 0 0 Q (F0 m 67 ls []) := by
          intro N67
          induction N67 with
          | zero =>
            intro y67_7 m67_J H67 locs ls g67_0 g67_1 hP hD hS hl hM
            exact ((ob_325 hM g67_0 g67_1)).elim
          | succ N67 ih67 =>
            intro y67_7 m67_J H67 locs ls g67_0 g67_1 hP hD hS hl hM
            have hM67 := msucc hM
            refine lv_iload hx hb dX9_layGlad_67 (lv_at hl 7 rfl) ?_
            refine lv_iconst (v := 3) hx hb dX9_layGlad_69 (by decide) ?_
            refine lv_icmp_ge (tgt := 95) hx hb dX9_layGlad_70 (by decide) (fun c_140 => ?_) (fun c_140 => ?_)
            · skip
              have f141 : 3 ≤ y67_7.toInt := qi_le c_140 zc_3 rfl
              refine lv_iconst (v := 0) hx hb dX9_layGlad_95 (by decide) ?_
              refine lv_istore (lv' := [(7, .int 0), (0, .ref (r 0)), (1, .int x7), (2, .int x13), (3, .int x15), (4, .int x18), (5, .int x21), (6, .int y56_6)]) hx hb dX9_layGlad_96 hl (by decide) rfl (fun ls hl => ?_)
              have L98 : ∀ (N98 : Nat) (y98_7 : Int32) (m98_i_askHouse m98_i_askTune : Int32) (m98_J : Nat → Nat → Int32) (H98 : Heap) (locs : List Loc) (ls : Array Slot) (g98_0 : 0 ≤ y98_7.toInt) (g98_1 : y98_7.toInt ≤ 5) (hP : va_P (dC, dI) vwCl (WM r ct i_taped i_size i_faultKind i_at i_end i_token i_number i_bank i_rb i_codes i_within i_piled i_unitsInRule m98_i_askHouse m98_i_askTune i_acts i_undone i_laid i_knowns i_time f_text f_tunes f_houses f_hums f_told f_many f_ruleFrom f_ruleTo f_code f_eWhat f_eSign z59 z24 f_was f_sTune f_boxAll m98_J L) H98) (hD : va_D A (WM r ct i_taped i_size i_faultKind i_at i_end i_token i_number i_bank i_rb i_codes i_within i_piled i_unitsInRule m98_i_askHouse m98_i_askTune i_acts i_undone i_laid i_knowns i_time f_text f_tunes f_houses f_hums f_told f_many f_ruleFrom f_ruleTo f_code f_eWhat f_eSign z59 z24 f_was f_sTune f_boxAll m98_J L)) (hS : va_S A s.heap H98 locs) (hl : lv_has ls 8 [(0, .ref (r 0)), (1, .int x7), (2, .int x13), (3, .int x15), (4, .int x18), (5, .int x21), (6, .int y56_6), (7, .int y98_7)]) (hM : -1 * y98_7.toInt + 5 < (N98 : Int)), W p l e { frames := 20, cells := 0, slots := 0, locals := 667 } s m ([.ref (r 0)] : List Value).toArray below meth c0 H98 locs 0 0 Q (F0 m 98 ls []) := by
                intro N98
                induction N98 with
                | zero =>
                  intro y98_7 m98_i_askHouse m98_i_askTune m98_J H98 locs ls g98_0 g98_1 hP hD hS hl hM
                  exact ((ob_292 hM g98_0 g98_1)).elim
                | succ N98 ih98 =>
                  intro y98_7 m98_i_askHouse m98_i_askTune m98_J H98 locs ls g98_0 g98_1 hP hD hS hl hM
                  have hM98 := msucc hM
                  refine lv_iload hx hb dX9_layGlad_98 (lv_at hl 7 rfl) ?_
                  refine lv_aload_n hx hb dX9_layGlad_100 rfl (lv_at hl 0 rfl) ?_
                  refine va_calli (va_runV (As := []) (rest := [.int y98_7]) ⟨hx, hb, hml, hown, hG⟩ (kX9_songs l dC dI r ct i_taped i_size i_faultKind i_at i_end i_token i_number i_bank i_rb i_codes i_within i_piled i_unitsInRule m98_i_askHouse m98_i_askTune i_acts i_undone i_laid i_knowns i_time f_text f_tunes f_houses f_hums f_told f_many f_ruleFrom f_ruleTo f_code f_eWhat f_eSign z59 z24 f_was f_sTune f_boxAll m98_J L H98.size hI60) (cwV 0 hG (goodV gw1512 gw1514 gw86 gw138 gw1515) rfl rfl rfl hd_X9_songs ⟨(Nat.le_of_ble_eq_true rfl), (Nat.le_of_ble_eq_true rfl)⟩) ⟨fbR, va_recv hK hP (ci := 8) (q0 := 0) rfl rfl, pR_in hP hK⟩ rfl rfl hl.1 rfl (lv_room (Nat.le_of_ble_eq_true rfl)) dX9_layGlad_101 ⟨(Nat.le_of_ble_eq_true rfl), (Nat.le_of_ble_eq_true rfl)⟩) hS (fun q hq h => absurd hq (Nat.not_lt.mpr h)) (fun q h => hA q (Nat.le_trans hS.1 h)) (fun r_143 u_ t_ H142 locs ht hvm hw hB hz1 hk1 hS => ?_)
                  subst hw
                  have hP := wk hP hk1
                  have f144 := hB
                  have f145 : r_143.toInt = (f_tunes (i_bank.toInt).toNat).toInt := (ob_278 f144)
                  refine lv_icmp_ge (tgt := 133) hx hb dX9_layGlad_104 (by decide) (fun c_146 => ?_) (fun c_146 => ?_)
                  · skip
                    have f147 : r_143.toInt ≤ y98_7.toInt := qi_le c_146 rfl rfl
                    obtain ⟨x148, ex148⟩ : ∃ y : Int32, y = y56_6 + Int32.ofInt 1 := ⟨_, rfl⟩
                    have f149 : x148.toInt = y56_6.toInt + 1 := (ob_139 (qi_add ex148 rfl (by decide) (ob_137 g56_0) (ob_828 g56_1)))
                    refine lv_iinc (v := x148) (lv' := [(6, .int x148), (0, .ref (r 0)), (1, .int x7), (2, .int x13), (3, .int x15), (4, .int x18), (5, .int x21), (7, .int y98_7)]) hx hb dX9_layGlad_133 hl (k := 6) rfl ex148.symm (by decide) rfl (fun ls hl => ?_)
                    refine lv_goto (tgt := 56) hx hb dX9_layGlad_136 (by decide) ?_
                    exact ih56 x148 m98_i_askHouse m98_i_askTune m98_J H142 _ _ (ob_140 g56_0 f149) (ob_829 f139 f149) hP hD hS (lv_sub hl [1, 2, 3, 4, 5, 6, 0] rfl) (ob_830 hM56 f149)
                  · skip
                    have f150 : y98_7.toInt < r_143.toInt := qi_nle c_146 rfl rfl
                    refine lv_aload_n hx hb dX9_layGlad_107 rfl (lv_at hl 0 rfl) ?_
                    refine gM_X9_100_0 hx hb hG hown hK hP dX9_layGlad_108 ?_
                    refine lv_iconst (v := 5) hx hb dX9_layGlad_111 (by decide) ?_
                    refine lv_iload hx hb dX9_layGlad_112 (lv_at hl 6 rfl) ?_
                    refine lv_imul hx hb dX9_layGlad_114 ?_
                    refine lv_topi (fun x151 ex151 => ?_)
                    have f152 : x151.toInt = 5 * y56_6.toInt := (ob_77 (qi_mul ex151 zc_5 rfl (ob_831 g56_0) (ob_832 g56_1)))
                    refine lv_iload hx hb dX9_layGlad_115 (lv_at hl 7 rfl) ?_
                    refine lv_iadd hx hb dX9_layGlad_117 ?_
                    refine lv_topi (fun x153 ex153 => ?_)
                    have f154 : x153.toInt = y98_7.toInt + 5 * y56_6.toInt := (ob_80 (qi_add ex153 rfl rfl (ob_78 g56_0 g98_0 f152) (ob_833 g56_1 g98_1 f152)) f152)
                    refine lv_aload_n hx hb dX9_layGlad_118 rfl (lv_at hl 0 rfl) ?_
                    refine lv_iload_n hx hb dX9_layGlad_119 rfl (lv_at hl 1 rfl) ?_
                    refine lv_iload hx hb dX9_layGlad_120 (lv_at hl 7 rfl) ?_
                    refine lv_iconst (v := 0) hx hb dX9_layGlad_122 (by decide) ?_
                    have hFc := frA hD hS hA
                    refine va_calli (va_runV (As := [.int x7, .int y98_7, .int 0]) (rest := [.int x153, .ref (r 29)]) ⟨hx, hb, hml, hown, hG⟩ (kX9_gladBy l dC dI r ct i_taped i_size i_faultKind i_at i_end i_token i_number i_bank i_rb i_codes i_within i_piled i_unitsInRule m98_i_askHouse m98_i_askTune i_acts i_undone i_laid i_knowns i_time f_text f_tunes f_houses f_hums f_told f_many f_ruleFrom f_ruleTo f_code f_eWhat f_eSign z59 z24 f_was f_sTune f_boxAll m98_J L x7 y98_7 0 H142.size hI60 (ob_834 f2 hp0 f8) (ob_835 f8) (ob_133 g98_0) (ob_361 f150 f145)) (cwV 3 hG (goodV gw1566 gw1568 gw95 gw138 gw1569) rfl rfl rfl hd_X9_gladBy ⟨(Nat.le_of_ble_eq_true rfl), (Nat.le_of_ble_eq_true rfl)⟩) ⟨fbW, va_recv hK hP (ci := 8) (q0 := 0) rfl rfl, pW_in hP hK hD⟩ rfl rfl hl.1 rfl (lv_room (Nat.le_of_ble_eq_true rfl)) dX9_layGlad_123 ⟨(Nat.le_of_ble_eq_true rfl), (Nat.le_of_ble_eq_true rfl)⟩) hS (fun q _ h => hFc q h) hFc (fun r_156 u_ t_ H155 locs ht hvm hw hB hz1 hk1 hS => ?_)
                    subst hw
                    obtain ⟨x157, x158, J159, hP1, hD1, hI161, f160⟩ := hB
                    rw [ht] at hP1
                    have hP := hP1
                    have hD := dW hFc hD1
                    obtain ⟨im162, im163, im164, im165, im166, im167, im168, im169, im170, im171, im172, im173, im174, im175, im176, im177, im178, im179, im180, im181, im182, im183, im184, im185, im186, im187, im188, im189, im190, im191, im192⟩ := id hI161
                    refine stM_29 (mm := y98_7.toInt + 5 * y56_6.toInt) hx hb hK hP hD hS f154 (ob_81 g56_0 g98_0) (ob_836 f1 f139 f150 f145) dX9_layGlad_126 (fun J194 H193 locs hP hD hS => ?_)
                    obtain ⟨x195, ex195⟩ : ∃ y : Int32, y = y98_7 + Int32.ofInt 1 := ⟨_, rfl⟩
                    have f196 : x195.toInt = y98_7.toInt + 1 := (ob_139 (qi_add ex195 rfl (by decide) (ob_137 g98_0) (ob_314 g98_1)))
                    refine lv_iinc (v := x195) (lv' := [(7, .int x195), (0, .ref (r 0)), (1, .int x7), (2, .int x13), (3, .int x15), (4, .int x18), (5, .int x21), (6, .int y56_6)]) hx hb dX9_layGlad_127 hl (k := 7) rfl ex195.symm (by decide) rfl (fun ls hl => ?_)
                    refine lv_goto (tgt := 98) hx hb dX9_layGlad_130 (by decide) ?_
                    exact ih98 x195 x157 x158 J194 H193 _ _ (ob_140 g98_0 f196) (ob_354 f1 f150 f145 f196) hP hD hS (lv_sub hl [1, 2, 3, 4, 5, 6, 7, 0] rfl) (ob_316 hM98 f196)
              exact L98 (-1 * (0 : Int32).toInt + 5 + 1).toNat 0 m56_i_askHouse m56_i_askTune m67_J H67 _ _ (ob_5 zc_0) (ob_317 zc_0) hP hD hS (lv_sub hl [1, 2, 3, 4, 5, 6, 7, 0] rfl) (mlt (ob_318 zc_0))
            · skip
              have f197 : y67_7.toInt < 3 := qi_nle c_140 zc_3 rfl
              refine lv_aload_n hx hb dX9_layGlad_73 rfl (lv_at hl 0 rfl) ?_
              refine gM_X9_57_0 hx hb hG hown hK hP dX9_layGlad_74 ?_
              refine lv_iload_n hx hb dX9_layGlad_77 rfl (lv_at hl 2 rfl) ?_
              refine lv_iload hx hb dX9_layGlad_78 (lv_at hl 7 rfl) ?_
              refine lv_iadd hx hb dX9_layGlad_80 ?_
              refine lv_topi (fun x198 ex198 => ?_)
              have f199 : x198.toInt = y67_7.toInt + 3 * (f_houses (i_bank.toInt).toNat).toInt + 12 * i_bank.toInt + (-3) := (ob_839 (qi_add ex198 rfl rfl (ob_837 im4 f2 g67_0 f14) (ob_838 im5 f2 g67_1 f14)) f14)
              refine lv_iload hx hb dX9_layGlad_81 (lv_at hl 6 rfl) ?_
              refine lv_iload hx hb dX9_layGlad_83 (lv_at hl 7 rfl) ?_
              refine va_calli (va_runS (As := [.int y56_6, .int y67_7]) (rest := [.int x198, .ref (r 15)]) ⟨hx, hb, hml, hown, hG⟩ (kX9_noteIn l dC dI y56_6 y67_7 H67.size (ob_133 g56_0) (ob_840 f139)) (va_cwS 2 hG (goodS gw1842 gw1843 gw138 gw1844) rfl rfl rfl hd_X9_noteIn ⟨(Nat.le_of_ble_eq_true rfl), (Nat.le_of_ble_eq_true rfl)⟩) ⟨fbR, pR_in emptyP (emptyK hK)⟩ rfl rfl hl.1 rfl (lv_room (Nat.le_of_ble_eq_true rfl)) dX9_layGlad_85 ⟨(Nat.le_of_ble_eq_true rfl), (Nat.le_of_ble_eq_true rfl)⟩) hS (fun q hq h => absurd hq (Nat.not_lt.mpr h)) (fun q h => hA q (Nat.le_trans hS.1 h)) (fun r_201 u_ t_ H200 locs ht hvm hw hB hz1 hk1 hS => ?_)
              subst hw
              have hP := wk hP hk1
              obtain ⟨f202, f203, f204⟩ := hB
              refine stM_15 (mm := y67_7.toInt + 3 * (f_houses (i_bank.toInt).toNat).toInt + 12 * i_bank.toInt + (-3)) hx hb hK hP hD hS f199 (ob_841 im4 hp0 g67_0) (ob_842 im5 f2 f197) dX9_layGlad_88 (fun J206 H205 locs hP hD hS => ?_)
              obtain ⟨x207, ex207⟩ : ∃ y : Int32, y = y67_7 + Int32.ofInt 1 := ⟨_, rfl⟩
              have f208 : x207.toInt = y67_7.toInt + 1 := (ob_139 (qi_add ex207 rfl (by decide) (ob_137 g67_0) (ob_329 g67_1)))
              refine lv_iinc (v := x207) (lv' := [(7, .int x207), (0, .ref (r 0)), (1, .int x7), (2, .int x13), (3, .int x15), (4, .int x18), (5, .int x21), (6, .int y56_6)]) hx hb dX9_layGlad_89 hl (k := 7) rfl ex207.symm (by decide) rfl (fun ls hl => ?_)
              refine lv_goto (tgt := 67) hx hb dX9_layGlad_92 (by decide) ?_
              exact ih67 x207 J206 H205 _ _ (ob_140 g67_0 f208) (ob_330 f197 f208) hP hD hS (lv_sub hl [1, 2, 3, 4, 5, 6, 7, 0] rfl) (ob_331 hM67 f208)
        exact L67 (-1 * (0 : Int32).toInt + 3 + 1).toNat 0 m56_J H56 _ _ (ob_5 zc_0) (ob_332 zc_0) hP hD hS (lv_sub hl [1, 2, 3, 4, 5, 6, 7, 0] rfl) (mlt (ob_333 zc_0))
  exact L56 (-1 * (0 : Int32).toInt + 343 + 1).toNat 0 i_askHouse i_askTune J H57 _ _ (ob_5 zc_0) (ob_843 zc_0) hP hD hS (lv_sub hl [6, 5, 4, 3, 2, 1, 0] rfl) (mlt (ob_844 zc_0))
set_option maxHeartbeats 4000000 in
set_option maxRecDepth 100000 in
theorem kX9_doesFit (l : Launch) (dC : Nat → ClassId) (dI : Nat → Nat → Nat) (r : Nat → Nat) (ct : Nat → ClassId) (i_taped i_size i_faultKind i_at i_end i_token i_number i_bank i_rb i_codes i_within i_piled i_unitsInRule i_askHouse i_askTune i_acts i_undone i_laid i_knowns i_time : Int32) (f_text f_tunes f_houses f_hums f_told f_many f_ruleFrom f_ruleTo f_code f_eWhat f_eSign f_all f_kept f_was f_sTune f_boxAll : Nat → Int32) (J : Nat → Nat → Int32) (L : Nat → Nat → Int64) (p0 p1 : Int32) (sz : Nat) (hI : (IM i_taped i_size i_at i_end i_bank i_rb i_acts i_undone i_laid i_knowns i_time f_tunes f_houses f_hums f_told f_many f_ruleFrom f_ruleTo f_code f_all f_kept f_was f_sTune f_boxAll)) (hp0 : 0 ≤ p0.toInt) (hp1 : p0.toInt ≤ 342) : Met l yX9_doesFit (.code yX9_doesFit cX9_doesFit 5 (some .boolean) :: GW) { frames := 2, cells := 0, slots := 0, locals := 100 } (va_Pc [.ref (r 0), .int p0, .int p1] (pR (dC, dI) (WM r ct i_taped i_size i_faultKind i_at i_end i_token i_number i_bank i_rb i_codes i_within i_piled i_unitsInRule i_askHouse i_askTune i_acts i_undone i_laid i_knowns i_time f_text f_tunes f_houses f_hums f_told f_many f_ruleFrom f_ruleTo f_code f_eWhat f_eSign f_all f_kept f_was f_sTune f_boxAll J L) (TM ct) sz)) (va_Qi (fun (r0 : Int32) (u : Int32) => r0 = u) (fun (u : Int32) (t : State) => (((u.toInt = 1)) ∨ ((u.toInt = 0))) ∧ (0 ≤ u.toInt) ∧ (u.toInt ≤ 1)) (fun q => sz ≤ q)) 0 0 (fun q => sz ≤ q) := by
  refine Met.ofW (cc := cX9_doesFit) (maxL := 5) (ret := (some .boolean)) (by decide) rfl ?_
  intro p e s m args below meth c0 s₁ B hml hv
  obtain ⟨rfl, hsz, hP, hK⟩ := hv
  have hx := B.exec
  have hb := B.bytes
  have hr := B.returns
  have hts := atoms_spec (ws := .code yX9_doesFit cX9_doesFit 5 (some .boolean) :: GW) B.pre
  have hG : ∀ w ∈ GW, w.before _ s = true := fun w h => hts w (List.mem_cons_of_mem _ h)
  have hown : s.vm.findClass RX9 = some m.cls := findClass_of_methodNamed B.named
  subst hsz
  have hS : va_S (fun q => s.heap.size ≤ q) s.heap s.heap [] := va_S.rf
  have hP : va_P (dC, dI) vwCl (WM r ct i_taped i_size i_faultKind i_at i_end i_token i_number i_bank i_rb i_codes i_within i_piled i_unitsInRule i_askHouse i_askTune i_acts i_undone i_laid i_knowns i_time f_text f_tunes f_houses f_hums f_told f_many f_ruleFrom f_ruleTo f_code f_eWhat f_eSign f_all f_kept f_was f_sTune f_boxAll J L) s.heap := hP
  have hl := lv_entry ([.ref (r 0), .int p0, .int p1]) (n := 5) (Nat.le_of_ble_eq_true rfl)
  rw [lg_entry_eq]
  generalize (lg_sl ([.ref (r 0), .int p0, .int p1]) ++ List.replicate (5 - (lg_sl ([.ref (r 0), .int p0, .int p1])).length) Slot.unset).toArray = ls at hl ⊢
  have hl : lv_has ls 5 [(0, .ref (r 0)), (1, .int p0), (2, .int p1)] := hl
  refine nameQ (fun Q hQ => ?_)
  obtain ⟨im0, im1, im2, im3, im4, im5, im6, im7, im8, im9, im10, im11, im12, im13, im14, im15, im16, im17, im18, im19, im20, im21, im22, im23, im24, im25, im26, im27, im28, im29, im30⟩ := id hI
  have f1 : 0 ≤ (f_tunes (i_bank.toInt).toNat).toInt ∧ (f_tunes (i_bank.toInt).toNat).toInt ≤ 5 := im20 (i_bank.toInt)
  have f2 : 0 ≤ (f_houses (i_bank.toInt).toNat).toInt ∧ (f_houses (i_bank.toInt).toNat).toInt ≤ 4 := im21 (i_bank.toInt)
  refine lv_iconst (v := 0) hx hb dX9_doesFit_0 (by decide) ?_
  refine lv_istore_n (lv' := [(3, .int 0), (0, .ref (r 0)), (1, .int p0), (2, .int p1)]) hx hb dX9_doesFit_1 rfl hl (by decide) rfl (fun ls hl => ?_)
  have L2 : ∀ (N2 : Nat) (y2_3 : Int32) (H2 : Heap) (locs : List Loc) (ls : Array Slot) (g2_0 : 0 ≤ y2_3.toInt) (g2_1 : y2_3.toInt ≤ 30) (hP : va_P (dC, dI) vwCl (WM r ct i_taped i_size i_faultKind i_at i_end i_token i_number i_bank i_rb i_codes i_within i_piled i_unitsInRule i_askHouse i_askTune i_acts i_undone i_laid i_knowns i_time f_text f_tunes f_houses f_hums f_told f_many f_ruleFrom f_ruleTo f_code f_eWhat f_eSign f_all f_kept f_was f_sTune f_boxAll J L) H2) (hS : va_S (fun q => s.heap.size ≤ q) s.heap H2 locs) (hl : lv_has ls 5 [(0, .ref (r 0)), (1, .int p0), (2, .int p1), (3, .int y2_3)]) (hM : -1 * y2_3.toInt + 30 < (N2 : Int)), W p l e { frames := 2, cells := 0, slots := 0, locals := 100 } s m ([.ref (r 0), .int p0, .int p1] : List Value).toArray below meth c0 H2 locs 0 0 Q (F0 m 2 ls []) := by
    intro N2
    induction N2 with
    | zero =>
      intro y2_3 H2 locs ls g2_0 g2_1 hP hS hl hM
      exact ((ob_845 hM g2_0 g2_1)).elim
    | succ N2 ih2 =>
      intro y2_3 H2 locs ls g2_0 g2_1 hP hS hl hM
      have hM2 := msucc hM
      refine lv_iload_n hx hb dX9_doesFit_2 rfl (lv_at hl 3 rfl) ?_
      refine lv_aload_n hx hb dX9_doesFit_3 rfl (lv_at hl 0 rfl) ?_
      refine gM_X9_370_0 hx hb hG hown hK hP dX9_doesFit_4 ?_
      refine lv_icmp_ge (tgt := 92) hx hb dX9_doesFit_7 (by decide) (fun c_3 => ?_) (fun c_3 => ?_)
      · skip
        have f4 : i_knowns.toInt ≤ y2_3.toInt := qi_le c_3 rfl rfl
        refine lv_iconst (v := 1) hx hb dX9_doesFit_92 (by decide) ?_
        rw [hQ]
        exact W.zret (v := 1) hx hb hr (by decide) (fun t ht hW => ⟨⟨1, 1, rfl, rfl, ⟨(ob_591 zc_1), (ob_9 zc_1), (ob_10 zc_1)⟩⟩, hS.F ht⟩) hS.2.2 dX9_doesFit_93
      · skip
        have f5 : y2_3.toInt < i_knowns.toInt := qi_nle c_3 rfl rfl
        refine lv_aload_n hx hb dX9_doesFit_10 rfl (lv_at hl 0 rfl) ?_
        refine gM_X9_112_0 hx hb hG hown hK hP dX9_doesFit_11 ?_
        refine lv_iload_n hx hb dX9_doesFit_14 rfl (lv_at hl 3 rfl) ?_
        refine ldM_33 (mm := y2_3.toInt) hx hb hK hP rfl (ob_133 g2_0) (ob_846 im11 f5) dX9_doesFit_15 (fun x6 => ?_)
        refine lv_iload_n hx hb dX9_doesFit_16 rfl (lv_at hl 2 rfl) ?_
        refine lv_icmp_gt (tgt := 86) hx hb dX9_doesFit_17 (by decide) (fun c_7 => ?_) (fun c_7 => ?_)
        · skip
          have f8 : p1.toInt < x6.toInt := qi_lt c_7 rfl rfl
          obtain ⟨x9, ex9⟩ : ∃ y : Int32, y = y2_3 + Int32.ofInt 1 := ⟨_, rfl⟩
          have f10 : x9.toInt = y2_3.toInt + 1 := (ob_139 (qi_add ex9 rfl (by decide) (ob_137 g2_0) (ob_847 g2_1)))
          refine lv_iinc (v := x9) (lv' := [(3, .int x9), (0, .ref (r 0)), (1, .int p0), (2, .int p1)]) hx hb dX9_doesFit_86 hl (k := 3) rfl ex9.symm (by decide) rfl (fun ls hl => ?_)
          refine lv_goto (tgt := 2) hx hb dX9_doesFit_89 (by decide) ?_
          exact ih2 x9 H2 _ _ (ob_140 g2_0 f10) (ob_848 im11 f5 f10) hP hS (lv_sub hl [1, 2, 3, 0] rfl) (ob_849 hM2 f10)
        · skip
          have f11 : x6.toInt ≤ p1.toInt := qi_nlt c_7 rfl rfl
          refine lv_aload_n hx hb dX9_doesFit_20 rfl (lv_at hl 0 rfl) ?_
          refine gM_X9_115_0 hx hb hG hown hK hP dX9_doesFit_21 ?_
          refine lv_iload_n hx hb dX9_doesFit_24 rfl (lv_at hl 3 rfl) ?_
          refine ldM_34 (mm := y2_3.toInt) hx hb hK hP rfl (ob_133 g2_0) (ob_846 im11 f5) dX9_doesFit_25 (fun x12 => ?_)
          refine lv_if_lt (tgt := 42) hx hb dX9_doesFit_26 (by decide) (fun c_13 => ?_) (fun c_13 => ?_)
          · skip
            have f14 : x12.toInt < 0 := qi_lt c_13 rfl zc_0
            refine lv_aload_n hx hb dX9_doesFit_42 rfl (lv_at hl 0 rfl) ?_
            refine gM_X9_100_0 hx hb hG hown hK hP dX9_doesFit_43 ?_
            refine lv_iconst (v := 5) hx hb dX9_doesFit_46 (by decide) ?_
            refine lv_iload_n hx hb dX9_doesFit_47 rfl (lv_at hl 1 rfl) ?_
            refine lv_imul hx hb dX9_doesFit_48 ?_
            refine lv_topi (fun x15 ex15 => ?_)
            have f16 : x15.toInt = 5 * p0.toInt := (ob_77 (qi_mul ex15 zc_5 rfl (ob_850 hp0 hp1) (ob_851 hp0 hp1)))
            refine lv_aload_n hx hb dX9_doesFit_49 rfl (lv_at hl 0 rfl) ?_
            refine gM_X9_103_0 hx hb hG hown hK hP dX9_doesFit_50 ?_
            refine lv_iload_n hx hb dX9_doesFit_53 rfl (lv_at hl 3 rfl) ?_
            refine ldM_30 (mm := y2_3.toInt) hx hb hK hP rfl (ob_133 g2_0) (ob_846 im11 f5) dX9_doesFit_54 ?_
            have f17 : 0 ≤ (f_sTune (y2_3.toInt).toNat).toInt ∧ (f_sTune (y2_3.toInt).toNat).toInt ≤ 4 := im24 (y2_3.toInt)
            refine lv_iadd hx hb dX9_doesFit_55 ?_
            refine lv_topi (fun x18 ex18 => ?_)
            have f19 : x18.toInt = (f_sTune (y2_3.toInt).toNat).toInt + 5 * p0.toInt := (ob_80 (qi_add ex18 rfl rfl (ob_852 hp0 hp1 f17 f16) (ob_853 hp0 hp1 f17 f16)) f16)
            refine ldM_29 (mm := (f_sTune (y2_3.toInt).toNat).toInt + 5 * p0.toInt) hx hb hK hP f19 (ob_854 hp0 hp1 f17) (ob_855 hp0 hp1 f17) dX9_doesFit_56 (fun x20 => ?_)
            refine lv_aload_n hx hb dX9_doesFit_57 rfl (lv_at hl 0 rfl) ?_
            refine gM_X9_106_0 hx hb hG hown hK hP dX9_doesFit_58 ?_
            refine lv_iload_n hx hb dX9_doesFit_61 rfl (lv_at hl 3 rfl) ?_
            refine ldM_31 (mm := y2_3.toInt) hx hb hK hP rfl (ob_133 g2_0) (ob_846 im11 f5) dX9_doesFit_62 (fun x21 => ?_)
            refine lv_icmp_lt (tgt := 70) hx hb dX9_doesFit_63 (by decide) (fun c_22 => ?_) (fun c_22 => ?_)
            · skip
              have f23 : x20.toInt < x21.toInt := qi_lt c_22 rfl rfl
              refine lv_iconst (v := 0) hx hb dX9_doesFit_70 (by decide) ?_
              refine lv_istore (lv' := [(4, .int 0), (0, .ref (r 0)), (1, .int p0), (2, .int p1), (3, .int y2_3)]) hx hb dX9_doesFit_71 hl (by decide) rfl (fun ls hl => ?_)
              refine lv_iload hx hb dX9_doesFit_73 (lv_at hl 0 rfl) ?_
              refine lv_aload_n hx hb dX9_doesFit_75 rfl (lv_at hl 1 rfl) ?_
              refine gM_X9_109_0 hx hb hG hown hK hP dX9_doesFit_76 ?_
              refine lv_iload_n hx hb dX9_doesFit_79 rfl (lv_at hl 4 rfl) ?_
              refine ldM_32 (mm := y2_3.toInt) hx hb hK hP rfl (ob_133 g2_0) (ob_846 im11 f5) dX9_doesFit_80 (fun x24 => ?_)
              refine lv_icmp_eq (tgt := 86) hx hb dX9_doesFit_81 (by decide) (fun c_25 => ?_) (fun c_25 => ?_)
              · skip
                have f26 : 0 = x24.toInt := qi_eq c_25 zc_0 rfl
                obtain ⟨x27, ex27⟩ : ∃ y : Int32, y = y2_3 + Int32.ofInt 1 := ⟨_, rfl⟩
                have f28 : x27.toInt = y2_3.toInt + 1 := (ob_139 (qi_add ex27 rfl (by decide) (ob_137 g2_0) (ob_847 g2_1)))
                refine lv_iinc (v := x27) (lv' := [(3, .int x27), (4, .int 0), (0, .ref (r 0)), (1, .int p0), (2, .int p1)]) hx hb dX9_doesFit_86 hl (k := 4) rfl ex27.symm (by decide) rfl (fun ls hl => ?_)
                refine lv_goto (tgt := 2) hx hb dX9_doesFit_89 (by decide) ?_
                exact ih2 x27 H2 _ _ (ob_140 g2_0 f28) (ob_848 im11 f5 f28) hP hS (lv_sub hl [2, 3, 4, 0] rfl) (ob_849 hM2 f28)
              · skip
                have f29 : 0 ≠ x24.toInt := qi_ne c_25 zc_0 rfl
                refine lv_iconst (v := 0) hx hb dX9_doesFit_84 (by decide) ?_
                rw [hQ]
                exact W.zret (v := 0) hx hb hr (by decide) (fun t ht hW => ⟨⟨0, 0, rfl, rfl, ⟨(ob_599 zc_0), (ob_5 zc_0), (ob_6 zc_0)⟩⟩, hS.F ht⟩) hS.2.2 dX9_doesFit_85
            · skip
              have f30 : x21.toInt ≤ x20.toInt := qi_nlt c_22 rfl rfl
              refine lv_iconst (v := 1) hx hb dX9_doesFit_66 (by decide) ?_
              refine lv_goto (tgt := 71) hx hb dX9_doesFit_67 (by decide) ?_
              refine lv_istore (lv' := [(4, .int 1), (0, .ref (r 0)), (1, .int p0), (2, .int p1), (3, .int y2_3)]) hx hb dX9_doesFit_71 hl (by decide) rfl (fun ls hl => ?_)
              refine lv_iload hx hb dX9_doesFit_73 (lv_at hl 0 rfl) ?_
              refine lv_aload_n hx hb dX9_doesFit_75 rfl (lv_at hl 1 rfl) ?_
              refine gM_X9_109_0 hx hb hG hown hK hP dX9_doesFit_76 ?_
              refine lv_iload_n hx hb dX9_doesFit_79 rfl (lv_at hl 4 rfl) ?_
              refine ldM_32 (mm := y2_3.toInt) hx hb hK hP rfl (ob_133 g2_0) (ob_846 im11 f5) dX9_doesFit_80 (fun x31 => ?_)
              refine lv_icmp_eq (tgt := 86) hx hb dX9_doesFit_81 (by decide) (fun c_32 => ?_) (fun c_32 => ?_)
              · skip
                have f33 : 1 = x31.toInt := qi_eq c_32 zc_1 rfl
                obtain ⟨x34, ex34⟩ : ∃ y : Int32, y = y2_3 + Int32.ofInt 1 := ⟨_, rfl⟩
                have f35 : x34.toInt = y2_3.toInt + 1 := (ob_139 (qi_add ex34 rfl (by decide) (ob_137 g2_0) (ob_847 g2_1)))
                refine lv_iinc (v := x34) (lv' := [(3, .int x34), (4, .int 1), (0, .ref (r 0)), (1, .int p0), (2, .int p1)]) hx hb dX9_doesFit_86 hl (k := 4) rfl ex34.symm (by decide) rfl (fun ls hl => ?_)
                refine lv_goto (tgt := 2) hx hb dX9_doesFit_89 (by decide) ?_
                exact ih2 x34 H2 _ _ (ob_140 g2_0 f35) (ob_848 im11 f5 f35) hP hS (lv_sub hl [2, 3, 4, 0] rfl) (ob_849 hM2 f35)
              · skip
                have f36 : 1 ≠ x31.toInt := qi_ne c_32 zc_1 rfl
                refine lv_iconst (v := 0) hx hb dX9_doesFit_84 (by decide) ?_
                rw [hQ]
                exact W.zret (v := 0) hx hb hr (by decide) (fun t ht hW => ⟨⟨0, 0, rfl, rfl, ⟨(ob_599 zc_0), (ob_5 zc_0), (ob_6 zc_0)⟩⟩, hS.F ht⟩) hS.2.2 dX9_doesFit_85
          · skip
            have f37 : 0 ≤ x12.toInt := qi_nlt c_13 rfl zc_0
            refine lv_aload_n hx hb dX9_doesFit_29 rfl (lv_at hl 0 rfl) ?_
            refine gM_X9_115_0 hx hb hG hown hK hP dX9_doesFit_30 ?_
            refine lv_iload_n hx hb dX9_doesFit_33 rfl (lv_at hl 3 rfl) ?_
            refine ldM_34 (mm := y2_3.toInt) hx hb hK hP rfl (ob_133 g2_0) (ob_846 im11 f5) dX9_doesFit_34 (fun x38 => ?_)
            refine lv_iload_n hx hb dX9_doesFit_35 rfl (lv_at hl 2 rfl) ?_
            refine lv_icmp_gt (tgt := 42) hx hb dX9_doesFit_36 (by decide) (fun c_39 => ?_) (fun c_39 => ?_)
            · skip
              have f40 : p1.toInt < x38.toInt := qi_lt c_39 rfl rfl
              refine lv_aload_n hx hb dX9_doesFit_42 rfl (lv_at hl 0 rfl) ?_
              refine gM_X9_100_0 hx hb hG hown hK hP dX9_doesFit_43 ?_
              refine lv_iconst (v := 5) hx hb dX9_doesFit_46 (by decide) ?_
              refine lv_iload_n hx hb dX9_doesFit_47 rfl (lv_at hl 1 rfl) ?_
              refine lv_imul hx hb dX9_doesFit_48 ?_
              refine lv_topi (fun x41 ex41 => ?_)
              have f42 : x41.toInt = 5 * p0.toInt := (ob_77 (qi_mul ex41 zc_5 rfl (ob_850 hp0 hp1) (ob_851 hp0 hp1)))
              refine lv_aload_n hx hb dX9_doesFit_49 rfl (lv_at hl 0 rfl) ?_
              refine gM_X9_103_0 hx hb hG hown hK hP dX9_doesFit_50 ?_
              refine lv_iload_n hx hb dX9_doesFit_53 rfl (lv_at hl 3 rfl) ?_
              refine ldM_30 (mm := y2_3.toInt) hx hb hK hP rfl (ob_133 g2_0) (ob_846 im11 f5) dX9_doesFit_54 ?_
              have f43 : 0 ≤ (f_sTune (y2_3.toInt).toNat).toInt ∧ (f_sTune (y2_3.toInt).toNat).toInt ≤ 4 := im24 (y2_3.toInt)
              refine lv_iadd hx hb dX9_doesFit_55 ?_
              refine lv_topi (fun x44 ex44 => ?_)
              have f45 : x44.toInt = (f_sTune (y2_3.toInt).toNat).toInt + 5 * p0.toInt := (ob_80 (qi_add ex44 rfl rfl (ob_852 hp0 hp1 f43 f42) (ob_853 hp0 hp1 f43 f42)) f42)
              refine ldM_29 (mm := (f_sTune (y2_3.toInt).toNat).toInt + 5 * p0.toInt) hx hb hK hP f45 (ob_854 hp0 hp1 f43) (ob_855 hp0 hp1 f43) dX9_doesFit_56 (fun x46 => ?_)
              refine lv_aload_n hx hb dX9_doesFit_57 rfl (lv_at hl 0 rfl) ?_
              refine gM_X9_106_0 hx hb hG hown hK hP dX9_doesFit_58 ?_
              refine lv_iload_n hx hb dX9_doesFit_61 rfl (lv_at hl 3 rfl) ?_
              refine ldM_31 (mm := y2_3.toInt) hx hb hK hP rfl (ob_133 g2_0) (ob_846 im11 f5) dX9_doesFit_62 (fun x47 => ?_)
              refine lv_icmp_lt (tgt := 70) hx hb dX9_doesFit_63 (by decide) (fun c_48 => ?_) (fun c_48 => ?_)
              · skip
                have f49 : x46.toInt < x47.toInt := qi_lt c_48 rfl rfl
                refine lv_iconst (v := 0) hx hb dX9_doesFit_70 (by decide) ?_
                refine lv_istore (lv' := [(4, .int 0), (0, .ref (r 0)), (1, .int p0), (2, .int p1), (3, .int y2_3)]) hx hb dX9_doesFit_71 hl (by decide) rfl (fun ls hl => ?_)
                refine lv_iload hx hb dX9_doesFit_73 (lv_at hl 0 rfl) ?_
                refine lv_aload_n hx hb dX9_doesFit_75 rfl (lv_at hl 1 rfl) ?_
                refine gM_X9_109_0 hx hb hG hown hK hP dX9_doesFit_76 ?_
                refine lv_iload_n hx hb dX9_doesFit_79 rfl (lv_at hl 4 rfl) ?_
                refine ldM_32 (mm := y2_3.toInt) hx hb hK hP rfl (ob_133 g2_0) (ob_846 im11 f5) dX9_doesFit_80 (fun x50 => ?_)
                refine lv_icmp_eq (tgt := 86) hx hb dX9_doesFit_81 (by decide) (fun c_51 => ?_) (fun c_51 => ?_)
                · skip
                  have f52 : 0 = x50.toInt := qi_eq c_51 zc_0 rfl
                  obtain ⟨x53, ex53⟩ : ∃ y : Int32, y = y2_3 + Int32.ofInt 1 := ⟨_, rfl⟩
                  have f54 : x53.toInt = y2_3.toInt + 1 := (ob_139 (qi_add ex53 rfl (by decide) (ob_137 g2_0) (ob_847 g2_1)))
                  refine lv_iinc (v := x53) (lv' := [(3, .int x53), (4, .int 0), (0, .ref (r 0)), (1, .int p0), (2, .int p1)]) hx hb dX9_doesFit_86 hl (k := 4) rfl ex53.symm (by decide) rfl (fun ls hl => ?_)
                  refine lv_goto (tgt := 2) hx hb dX9_doesFit_89 (by decide) ?_
                  exact ih2 x53 H2 _ _ (ob_140 g2_0 f54) (ob_848 im11 f5 f54) hP hS (lv_sub hl [2, 3, 4, 0] rfl) (ob_849 hM2 f54)
                · skip
                  have f55 : 0 ≠ x50.toInt := qi_ne c_51 zc_0 rfl
                  refine lv_iconst (v := 0) hx hb dX9_doesFit_84 (by decide) ?_
                  rw [hQ]
                  exact W.zret (v := 0) hx hb hr (by decide) (fun t ht hW => ⟨⟨0, 0, rfl, rfl, ⟨(ob_599 zc_0), (ob_5 zc_0), (ob_6 zc_0)⟩⟩, hS.F ht⟩) hS.2.2 dX9_doesFit_85
              · skip
                have f56 : x47.toInt ≤ x46.toInt := qi_nlt c_48 rfl rfl
                refine lv_iconst (v := 1) hx hb dX9_doesFit_66 (by decide) ?_
                refine lv_goto (tgt := 71) hx hb dX9_doesFit_67 (by decide) ?_
                refine lv_istore (lv' := [(4, .int 1), (0, .ref (r 0)), (1, .int p0), (2, .int p1), (3, .int y2_3)]) hx hb dX9_doesFit_71 hl (by decide) rfl (fun ls hl => ?_)
                refine lv_iload hx hb dX9_doesFit_73 (lv_at hl 0 rfl) ?_
                refine lv_aload_n hx hb dX9_doesFit_75 rfl (lv_at hl 1 rfl) ?_
                refine gM_X9_109_0 hx hb hG hown hK hP dX9_doesFit_76 ?_
                refine lv_iload_n hx hb dX9_doesFit_79 rfl (lv_at hl 4 rfl) ?_
                refine ldM_32 (mm := y2_3.toInt) hx hb hK hP rfl (ob_133 g2_0) (ob_846 im11 f5) dX9_doesFit_80 (fun x57 => ?_)
                refine lv_icmp_eq (tgt := 86) hx hb dX9_doesFit_81 (by decide) (fun c_58 => ?_) (fun c_58 => ?_)
                · skip
                  have f59 : 1 = x57.toInt := qi_eq c_58 zc_1 rfl
                  obtain ⟨x60, ex60⟩ : ∃ y : Int32, y = y2_3 + Int32.ofInt 1 := ⟨_, rfl⟩
                  have f61 : x60.toInt = y2_3.toInt + 1 := (ob_139 (qi_add ex60 rfl (by decide) (ob_137 g2_0) (ob_847 g2_1)))
                  refine lv_iinc (v := x60) (lv' := [(3, .int x60), (4, .int 1), (0, .ref (r 0)), (1, .int p0), (2, .int p1)]) hx hb dX9_doesFit_86 hl (k := 4) rfl ex60.symm (by decide) rfl (fun ls hl => ?_)
                  refine lv_goto (tgt := 2) hx hb dX9_doesFit_89 (by decide) ?_
                  exact ih2 x60 H2 _ _ (ob_140 g2_0 f61) (ob_848 im11 f5 f61) hP hS (lv_sub hl [2, 3, 4, 0] rfl) (ob_849 hM2 f61)
                · skip
                  have f62 : 1 ≠ x57.toInt := qi_ne c_58 zc_1 rfl
                  refine lv_iconst (v := 0) hx hb dX9_doesFit_84 (by decide) ?_
                  rw [hQ]
                  exact W.zret (v := 0) hx hb hr (by decide) (fun t ht hW => ⟨⟨0, 0, rfl, rfl, ⟨(ob_599 zc_0), (ob_5 zc_0), (ob_6 zc_0)⟩⟩, hS.F ht⟩) hS.2.2 dX9_doesFit_85
            · skip
              have f63 : x38.toInt ≤ p1.toInt := qi_nlt c_39 rfl rfl
              refine lv_goto (tgt := 86) hx hb dX9_doesFit_39 (by decide) ?_
              obtain ⟨x64, ex64⟩ : ∃ y : Int32, y = y2_3 + Int32.ofInt 1 := ⟨_, rfl⟩
              have f65 : x64.toInt = y2_3.toInt + 1 := (ob_139 (qi_add ex64 rfl (by decide) (ob_137 g2_0) (ob_847 g2_1)))
              refine lv_iinc (v := x64) (lv' := [(3, .int x64), (0, .ref (r 0)), (1, .int p0), (2, .int p1)]) hx hb dX9_doesFit_86 hl (k := 3) rfl ex64.symm (by decide) rfl (fun ls hl => ?_)
              refine lv_goto (tgt := 2) hx hb dX9_doesFit_89 (by decide) ?_
              exact ih2 x64 H2 _ _ (ob_140 g2_0 f65) (ob_848 im11 f5 f65) hP hS (lv_sub hl [1, 2, 3, 0] rfl) (ob_849 hM2 f65)
  exact L2 (-1 * (0 : Int32).toInt + 30 + 1).toNat 0 s.heap _ _ (ob_5 zc_0) (ob_326 zc_0) hP hS (lv_sub hl [1, 2, 3, 0] rfl) (mlt (ob_856 zc_0))
set_option maxHeartbeats 4000000 in
set_option maxRecDepth 100000 in
theorem kX9_layRows (l : Launch) (dC : Nat → ClassId) (dI : Nat → Nat → Nat) (r : Nat → Nat) (ct : Nat → ClassId) (i_taped i_size i_faultKind i_at i_end i_token i_number i_bank i_rb i_codes i_within i_piled i_unitsInRule i_askHouse i_askTune i_acts i_undone i_laid i_knowns i_time : Int32) (f_text f_tunes f_houses f_hums f_told f_many f_ruleFrom f_ruleTo f_code f_eWhat f_eSign f_all f_kept f_was f_sTune f_boxAll : Nat → Int32) (J : Nat → Nat → Int32) (L : Nat → Nat → Int64) (p0 : Int32) (sz : Nat) (hI : (IM i_taped i_size i_at i_end i_bank i_rb i_acts i_undone i_laid i_knowns i_time f_tunes f_houses f_hums f_told f_many f_ruleFrom f_ruleTo f_code f_all f_kept f_was f_sTune f_boxAll)) : Met l yX9_layRows (.code yX9_layRows cX9_layRows 4 none :: GW) { frames := 22, cells := 0, slots := 0, locals := 734 } (va_Pc [.ref (r 0), .int p0] (pW (dC, dI) (WM r ct i_taped i_size i_faultKind i_at i_end i_token i_number i_bank i_rb i_codes i_within i_piled i_unitsInRule i_askHouse i_askTune i_acts i_undone i_laid i_knowns i_time f_text f_tunes f_houses f_hums f_told f_many f_ruleFrom f_ruleTo f_code f_eWhat f_eSign f_all f_kept f_was f_sTune f_boxAll J L) (TM ct) sz)) (va_Qv (fun _ : Unit => True) (fun (_ : Unit) (t : State) => ∃ (n_i_askHouse n_i_askTune : Int32) (n_f_all n_f_kept : Nat → Int32) (n_J : Nat → Nat → Int32), va_P (dC, dI) vwCl (WM r ct i_taped i_size i_faultKind i_at i_end i_token i_number i_bank i_rb i_codes i_within i_piled i_unitsInRule n_i_askHouse n_i_askTune i_acts i_undone i_laid i_knowns i_time f_text f_tunes f_houses f_hums f_told f_many f_ruleFrom f_ruleTo f_code f_eWhat f_eSign n_f_all n_f_kept f_was f_sTune f_boxAll n_J L) t.heap ∧ va_D (va_A (WM r ct i_taped i_size i_faultKind i_at i_end i_token i_number i_bank i_rb i_codes i_within i_piled i_unitsInRule i_askHouse i_askTune i_acts i_undone i_laid i_knowns i_time f_text f_tunes f_houses f_hums f_told f_many f_ruleFrom f_ruleTo f_code f_eWhat f_eSign f_all f_kept f_was f_sTune f_boxAll J L) sz) (WM r ct i_taped i_size i_faultKind i_at i_end i_token i_number i_bank i_rb i_codes i_within i_piled i_unitsInRule n_i_askHouse n_i_askTune i_acts i_undone i_laid i_knowns i_time f_text f_tunes f_houses f_hums f_told f_many f_ruleFrom f_ruleTo f_code f_eWhat f_eSign n_f_all n_f_kept f_was f_sTune f_boxAll n_J L) ∧ (IM i_taped i_size i_at i_end i_bank i_rb i_acts i_undone i_laid i_knowns i_time f_tunes f_houses f_hums f_told f_many f_ruleFrom f_ruleTo f_code n_f_all n_f_kept f_was f_sTune f_boxAll)) (va_A (WM r ct i_taped i_size i_faultKind i_at i_end i_token i_number i_bank i_rb i_codes i_within i_piled i_unitsInRule i_askHouse i_askTune i_acts i_undone i_laid i_knowns i_time f_text f_tunes f_houses f_hums f_told f_many f_ruleFrom f_ruleTo f_code f_eWhat f_eSign f_all f_kept f_was f_sTune f_boxAll J L) sz)) 0 0 (va_A (WM r ct i_taped i_size i_faultKind i_at i_end i_token i_number i_bank i_rb i_codes i_within i_piled i_unitsInRule i_askHouse i_askTune i_acts i_undone i_laid i_knowns i_time f_text f_tunes f_houses f_hums f_told f_many f_ruleFrom f_ruleTo f_code f_eWhat f_eSign f_all f_kept f_was f_sTune f_boxAll J L) sz) := by
  refine Met.ofW (cc := cX9_layRows) (maxL := 4) (ret := none) (by decide) rfl ?_
  intro p e s m args below meth c0 s₁ B hml hv
  obtain ⟨rfl, hsz, hP, hK, hD0⟩ := hv
  have hx := B.exec
  have hb := B.bytes
  have hr := B.returns
  have hts := atoms_spec (ws := .code yX9_layRows cX9_layRows 4 none :: GW) B.pre
  have hG : ∀ w ∈ GW, w.before _ s = true := fun w h => hts w (List.mem_cons_of_mem _ h)
  have hown : s.vm.findClass RX9 = some m.cls := findClass_of_methodNamed B.named
  subst hsz
  have hD := hD0.self (sz := s.heap.size)
  generalize hAe : va_A (WM r ct i_taped i_size i_faultKind i_at i_end i_token i_number i_bank i_rb i_codes i_within i_piled i_unitsInRule i_askHouse i_askTune i_acts i_undone i_laid i_knowns i_time f_text f_tunes f_houses f_hums f_told f_many f_ruleFrom f_ruleTo f_code f_eWhat f_eSign f_all f_kept f_was f_sTune f_boxAll J L) s.heap.size = A at hD ⊢
  have hA : ∀ q : Nat, s.heap.size ≤ q → A q := fun q h => by rw [← hAe]; exact Or.inr h
  have hS : va_S A s.heap s.heap [] := va_S.rf
  have hP : va_P (dC, dI) vwCl (WM r ct i_taped i_size i_faultKind i_at i_end i_token i_number i_bank i_rb i_codes i_within i_piled i_unitsInRule i_askHouse i_askTune i_acts i_undone i_laid i_knowns i_time f_text f_tunes f_houses f_hums f_told f_many f_ruleFrom f_ruleTo f_code f_eWhat f_eSign f_all f_kept f_was f_sTune f_boxAll J L) s.heap := hP
  have hl := lv_entry ([.ref (r 0), .int p0]) (n := 4) (Nat.le_of_ble_eq_true rfl)
  rw [lg_entry_eq]
  generalize (lg_sl ([.ref (r 0), .int p0]) ++ List.replicate (4 - (lg_sl ([.ref (r 0), .int p0])).length) Slot.unset).toArray = ls at hl ⊢
  have hl : lv_has ls 4 [(0, .ref (r 0)), (1, .int p0)] := hl
  refine nameQ (fun Q hQ => ?_)
  obtain ⟨im0, im1, im2, im3, im4, im5, im6, im7, im8, im9, im10, im11, im12, im13, im14, im15, im16, im17, im18, im19, im20, im21, im22, im23, im24, im25, im26, im27, im28, im29, im30⟩ := id hI
  have f1 : 0 ≤ (f_tunes (i_bank.toInt).toNat).toInt ∧ (f_tunes (i_bank.toInt).toNat).toInt ≤ 5 := im20 (i_bank.toInt)
  have f2 : 0 ≤ (f_houses (i_bank.toInt).toNat).toInt ∧ (f_houses (i_bank.toInt).toNat).toInt ≤ 4 := im21 (i_bank.toInt)
  refine lv_aload_n hx hb dX9_layRows_0 rfl (lv_at hl 0 rfl) ?_
  refine lv_iconst (v := 0) hx hb dX9_layRows_1 (by decide) ?_
  refine pM_X9_499_0 hx hb hG hown hK hP hD hS dX9_layRows_2 (fun J4 H3 locs hP hD hS => ?_)
  refine lv_iconst (v := 0) hx hb dX9_layRows_5 (by decide) ?_
  refine lv_istore_n (lv' := [(2, .int 0), (0, .ref (r 0)), (1, .int p0)]) hx hb dX9_layRows_6 rfl hl (by decide) rfl (fun ls hl => ?_)
  have L7 : ∀ (N7 : Nat) (y7_2 : Int32) (m7_J : Nat → Nat → Int32) (H7 : Heap) (locs : List Loc) (ls : Array Slot) (g7_0 : 0 ≤ y7_2.toInt) (g7_1 : y7_2.toInt ≤ 21) (hP : va_P (dC, dI) vwCl (WM r ct i_taped i_size i_faultKind i_at i_end i_token i_number i_bank i_rb i_codes i_within i_piled i_unitsInRule i_askHouse i_askTune i_acts i_undone i_laid i_knowns i_time f_text f_tunes f_houses f_hums f_told f_many f_ruleFrom f_ruleTo f_code f_eWhat f_eSign f_all f_kept f_was f_sTune f_boxAll m7_J L) H7) (hD : va_D A (WM r ct i_taped i_size i_faultKind i_at i_end i_token i_number i_bank i_rb i_codes i_within i_piled i_unitsInRule i_askHouse i_askTune i_acts i_undone i_laid i_knowns i_time f_text f_tunes f_houses f_hums f_told f_many f_ruleFrom f_ruleTo f_code f_eWhat f_eSign f_all f_kept f_was f_sTune f_boxAll m7_J L)) (hS : va_S A s.heap H7 locs) (hl : lv_has ls 4 [(0, .ref (r 0)), (1, .int p0), (2, .int y7_2)]) (hM : -1 * y7_2.toInt + 21 < (N7 : Int)), W p l e { frames := 22, cells := 0, slots := 0, locals := 734 } s m ([.ref (r 0), .int p0] : List Value).toArray below meth c0 H7 locs 0 0 Q (F0 m 7 ls []) := by
    intro N7
    induction N7 with
    | zero =>
      intro y7_2 m7_J H7 locs ls g7_0 g7_1 hP hD hS hl hM
      exact ((ob_857 hM g7_0 g7_1)).elim
    | succ N7 ih7 =>
      intro y7_2 m7_J H7 locs ls g7_0 g7_1 hP hD hS hl hM
      have hM7 := msucc hM
      refine lv_iload_n hx hb dX9_layRows_7 rfl (lv_at hl 2 rfl) ?_
      refine lv_bipush (v := 21) hx hb dX9_layRows_8 (by decide) ?_
      refine lv_icmp_ge (tgt := 26) hx hb dX9_layRows_10 (by decide) (fun c_5 => ?_) (fun c_5 => ?_)
      · skip
        have f6 : 21 ≤ y7_2.toInt := qi_le c_5 zc_21 rfl
        refine lv_aload_n hx hb dX9_layRows_26 rfl (lv_at hl 0 rfl) ?_
        refine va_calli (va_runV (As := []) (rest := []) ⟨hx, hb, hml, hown, hG⟩ (kX9_homes l dC dI r ct i_taped i_size i_faultKind i_at i_end i_token i_number i_bank i_rb i_codes i_within i_piled i_unitsInRule i_askHouse i_askTune i_acts i_undone i_laid i_knowns i_time f_text f_tunes f_houses f_hums f_told f_many f_ruleFrom f_ruleTo f_code f_eWhat f_eSign f_all f_kept f_was f_sTune f_boxAll m7_J L H7.size hI) (cwV 0 hG (goodV gw1167 gw1169 gw58 gw138 gw1170) rfl rfl rfl hd_X9_homes ⟨(Nat.le_of_ble_eq_true rfl), (Nat.le_of_ble_eq_true rfl)⟩) ⟨fbR, va_recv hK hP (ci := 8) (q0 := 0) rfl rfl, pR_in hP hK⟩ rfl rfl hl.1 rfl (lv_room (Nat.le_of_ble_eq_true rfl)) dX9_layRows_27 ⟨(Nat.le_of_ble_eq_true rfl), (Nat.le_of_ble_eq_true rfl)⟩) hS (fun q hq h => absurd hq (Nat.not_lt.mpr h)) (fun q h => hA q (Nat.le_trans hS.1 h)) (fun r_8 u_ t_ H7 locs ht hvm hw hB hz1 hk1 hS => ?_)
        subst hw
        have hP := wk hP hk1
        have f9 := hB
        have f10 : r_8.toInt = (f_houses (i_bank.toInt).toNat).toInt := (ob_278 f9)
        refine lv_if_ne (tgt := 34) hx hb dX9_layRows_30 (by decide) (fun c_11 => ?_) (fun c_11 => ?_)
        · skip
          have f12 : r_8.toInt ≠ 0 := qi_ne c_11 rfl zc_0
          have f13 : 1 ≤ (f_houses (i_bank.toInt).toNat).toInt := (ob_442 f2 f12 f10)
          refine lv_aload_n hx hb dX9_layRows_34 rfl (lv_at hl 0 rfl) ?_
          have hFc := frA hD hS hA
          refine va_callv (va_runV (As := []) (rest := []) ⟨hx, hb, hml, hown, hG⟩ (kX9_layGlad l dC dI r ct i_taped i_size i_faultKind i_at i_end i_token i_number i_bank i_rb i_codes i_within i_piled i_unitsInRule i_askHouse i_askTune i_acts i_undone i_laid i_knowns i_time f_text f_tunes f_houses f_hums f_told f_many f_ruleFrom f_ruleTo f_code f_eWhat f_eSign f_all f_kept f_was f_sTune f_boxAll m7_J L H7.size hI (ob_858 f2 f13)) (cwV 0 hG (goodV gw1838 gw1840 gw123 gw138 gw1841) rfl rfl rfl hd_X9_layGlad ⟨(Nat.le_of_ble_eq_true rfl), (Nat.le_of_ble_eq_true rfl)⟩) ⟨fbW, va_recv hK hP (ci := 8) (q0 := 0) rfl rfl, pW_in hP hK hD⟩ rfl rfl hl.1 rfl (lv_room (Nat.le_of_ble_eq_true rfl)) dX9_layRows_35 ⟨(Nat.le_of_ble_eq_true rfl), (Nat.le_of_ble_eq_true rfl)⟩) hS (fun q _ h => hFc q h) hFc (fun _ t_ H14 locs ht hvm hw hB hz1 hk1 hS => ?_)
          obtain ⟨x16, x17, z18, z19, J20, hP1, hD1, hI21⟩ := hB
          rw [ht] at hP1
          have hP := hP1
          have hD := dW hFc hD1
          obtain ⟨im22, im23, im24, im25, im26, im27, im28, im29, im30, im31, im32, im33, im34, im35, im36, im37, im38, im39, im40, im41, im42, im43, im44, im45, im46, im47, im48, im49, im50, im51, im52⟩ := id hI21
          refine lv_iconst (v := 0) hx hb dX9_layRows_38 (by decide) ?_
          refine lv_istore_n (lv' := [(2, .int 0), (0, .ref (r 0)), (1, .int p0)]) hx hb dX9_layRows_39 rfl hl (by decide) rfl (fun ls hl => ?_)
          have L40 : ∀ (N40 : Nat) (y40_2 : Int32) (m40_J : Nat → Nat → Int32) (H40 : Heap) (locs : List Loc) (ls : Array Slot) (g40_0 : 0 ≤ y40_2.toInt) (g40_1 : y40_2.toInt ≤ 343) (hP : va_P (dC, dI) vwCl (WM r ct i_taped i_size i_faultKind i_at i_end i_token i_number i_bank i_rb i_codes i_within i_piled i_unitsInRule x16 x17 i_acts i_undone i_laid i_knowns i_time f_text f_tunes f_houses f_hums f_told f_many f_ruleFrom f_ruleTo f_code f_eWhat f_eSign z18 z19 f_was f_sTune f_boxAll m40_J L) H40) (hD : va_D A (WM r ct i_taped i_size i_faultKind i_at i_end i_token i_number i_bank i_rb i_codes i_within i_piled i_unitsInRule x16 x17 i_acts i_undone i_laid i_knowns i_time f_text f_tunes f_houses f_hums f_told f_many f_ruleFrom f_ruleTo f_code f_eWhat f_eSign z18 z19 f_was f_sTune f_boxAll m40_J L)) (hS : va_S A s.heap H40 locs) (hl : lv_has ls 4 [(0, .ref (r 0)), (1, .int p0), (2, .int y40_2)]) (hM : -1 * y40_2.toInt + 343 < (N40 : Int)), W p l e { frames := 22, cells := 0, slots := 0, locals := 734 } s m ([.ref (r 0), .int p0] : List Value).toArray below meth c0 H40 locs 0 0 Q (F0 m 40 ls []) := by
            intro N40
            induction N40 with
            | zero =>
              intro y40_2 m40_J H40 locs ls g40_0 g40_1 hP hD hS hl hM
              exact ((ob_827 hM g40_0 g40_1)).elim
            | succ N40 ih40 =>
              intro y40_2 m40_J H40 locs ls g40_0 g40_1 hP hD hS hl hM
              have hM40 := msucc hM
              refine lv_iload_n hx hb dX9_layRows_40 rfl (lv_at hl 2 rfl) ?_
              refine lv_sipush (v := 343) hx hb dX9_layRows_41 (by decide) ?_
              refine lv_icmp_ge (tgt := 119) hx hb dX9_layRows_44 (by decide) (fun c_53 => ?_) (fun c_53 => ?_)
              · skip
                have f54 : 343 ≤ y40_2.toInt := qi_le c_53 zc_343 rfl
                rw [hQ]
                exact W.vret hx hb hr (fun t ht hW => ⟨⟨(), rfl, trivial, ⟨x16, x17, z18, z19, m40_J, by rw [ht]; exact hP, hD, hI21⟩⟩, hS.F ht⟩) hS.2.2 dX9_layRows_119
              · skip
                have f55 : y40_2.toInt < 343 := qi_nle c_53 zc_343 rfl
                refine lv_aload_n hx hb dX9_layRows_47 rfl (lv_at hl 0 rfl) ?_
                refine gM_X9_121_0 hx hb hG hown hK hP dX9_layRows_48 ?_
                refine lv_iload_n hx hb dX9_layRows_51 rfl (lv_at hl 2 rfl) ?_
                refine lv_aload_n hx hb dX9_layRows_52 rfl (lv_at hl 0 rfl) ?_
                refine lv_iload_n hx hb dX9_layRows_53 rfl (lv_at hl 2 rfl) ?_
                refine lv_iload_n hx hb dX9_layRows_54 rfl (lv_at hl 1 rfl) ?_
                refine va_calli (va_runV (As := [.int y40_2, .int p0]) (rest := [.int y40_2, .ref (r 36)]) ⟨hx, hb, hml, hown, hG⟩ (kX9_doesFit l dC dI r ct i_taped i_size i_faultKind i_at i_end i_token i_number i_bank i_rb i_codes i_within i_piled i_unitsInRule x16 x17 i_acts i_undone i_laid i_knowns i_time f_text f_tunes f_houses f_hums f_told f_many f_ruleFrom f_ruleTo f_code f_eWhat f_eSign z18 z19 f_was f_sTune f_boxAll m40_J L y40_2 p0 H40.size hI21 (ob_133 g40_0) (ob_840 f55)) (cwV 2 hG (goodV gw1845 gw1847 gw124 gw138 gw1848) rfl rfl rfl hd_X9_doesFit ⟨(Nat.le_of_ble_eq_true rfl), (Nat.le_of_ble_eq_true rfl)⟩) ⟨fbR, va_recv hK hP (ci := 8) (q0 := 0) rfl rfl, pR_in hP hK⟩ rfl rfl hl.1 rfl (lv_room (Nat.le_of_ble_eq_true rfl)) dX9_layRows_55 ⟨(Nat.le_of_ble_eq_true rfl), (Nat.le_of_ble_eq_true rfl)⟩) hS (fun q hq h => absurd hq (Nat.not_lt.mpr h)) (fun q h => hA q (Nat.le_trans hS.1 h)) (fun r_57 u_ t_ H56 locs ht hvm hw hB hz1 hk1 hS => ?_)
                subst hw
                have hP := wk hP hk1
                obtain ⟨f58, f59, f60⟩ := hB
                refine stM_36 (mm := y40_2.toInt) hx hb hK hP hD hS rfl (ob_133 g40_0) (ob_859 f55) dX9_layRows_58 (fun J62 H61 locs hP hD hS => ?_)
                refine lv_aload_n hx hb dX9_layRows_59 rfl (lv_at hl 0 rfl) ?_
                refine gM_X9_121_0 hx hb hG hown hK hP dX9_layRows_60 ?_
                refine lv_iload_n hx hb dX9_layRows_63 rfl (lv_at hl 2 rfl) ?_
                refine ldM_36 (mm := y40_2.toInt) hx hb hK hP rfl (ob_133 g40_0) (ob_859 f55) dX9_layRows_64 (fun x63 => ?_)
                refine lv_if_ne (tgt := 71) hx hb dX9_layRows_65 (by decide) (fun c_64 => ?_) (fun c_64 => ?_)
                · skip
                  have f65 : x63.toInt ≠ 0 := qi_ne c_64 rfl zc_0
                  refine lv_aload_n hx hb dX9_layRows_71 rfl (lv_at hl 0 rfl) ?_
                  refine lv_dup hx hb dX9_layRows_72 rfl ?_
                  refine gM_X9_499_0 hx hb hG hown hK hP dX9_layRows_73 (fun x66 => ?_)
                  refine lv_iconst (v := 1) hx hb dX9_layRows_76 (by decide) ?_
                  refine lv_iadd hx hb dX9_layRows_77 ?_
                  refine lv_topi (fun x67 ex67 => ?_)
                  refine pM_X9_499_0 hx hb hG hown hK hP hD hS dX9_layRows_78 (fun J69 H68 locs hP hD hS => ?_)
                  refine lv_iconst (v := 0) hx hb dX9_layRows_81 (by decide) ?_
                  refine lv_istore_n (lv' := [(3, .int 0), (0, .ref (r 0)), (1, .int p0), (2, .int y40_2)]) hx hb dX9_layRows_82 rfl hl (by decide) rfl (fun ls hl => ?_)
                  have L83 : ∀ (N83 : Nat) (y83_3 : Int32) (m83_J : Nat → Nat → Int32) (H83 : Heap) (locs : List Loc) (ls : Array Slot) (g83_0 : 0 ≤ y83_3.toInt) (g83_1 : y83_3.toInt ≤ 3) (hP : va_P (dC, dI) vwCl (WM r ct i_taped i_size i_faultKind i_at i_end i_token i_number i_bank i_rb i_codes i_within i_piled i_unitsInRule x16 x17 i_acts i_undone i_laid i_knowns i_time f_text f_tunes f_houses f_hums f_told f_many f_ruleFrom f_ruleTo f_code f_eWhat f_eSign z18 z19 f_was f_sTune f_boxAll m83_J L) H83) (hD : va_D A (WM r ct i_taped i_size i_faultKind i_at i_end i_token i_number i_bank i_rb i_codes i_within i_piled i_unitsInRule x16 x17 i_acts i_undone i_laid i_knowns i_time f_text f_tunes f_houses f_hums f_told f_many f_ruleFrom f_ruleTo f_code f_eWhat f_eSign z18 z19 f_was f_sTune f_boxAll m83_J L)) (hS : va_S A s.heap H83 locs) (hl : lv_has ls 4 [(0, .ref (r 0)), (1, .int p0), (2, .int y40_2), (3, .int y83_3)]) (hM : -1 * y83_3.toInt + 3 < (N83 : Int)), W p l e { frames := 22, cells := 0, slots := 0, locals := 734 } s m ([.ref (r 0), .int p0] : List Value).toArray below meth c0 H83 locs 0 0 Q (F0 m 83 ls []) := by
                    intro N83
                    induction N83 with
                    | zero =>
                      intro y83_3 m83_J H83 locs ls g83_0 g83_1 hP hD hS hl hM
                      exact ((ob_325 hM g83_0 g83_1)).elim
                    | succ N83 ih83 =>
                      intro y83_3 m83_J H83 locs ls g83_0 g83_1 hP hD hS hl hM
                      have hM83 := msucc hM
                      refine lv_iload_n hx hb dX9_layRows_83 rfl (lv_at hl 3 rfl) ?_
                      refine lv_iconst (v := 3) hx hb dX9_layRows_84 (by decide) ?_
                      refine lv_icmp_ge (tgt := 113) hx hb dX9_layRows_85 (by decide) (fun c_70 => ?_) (fun c_70 => ?_)
                      · skip
                        have f71 : 3 ≤ y83_3.toInt := qi_le c_70 zc_3 rfl
                        obtain ⟨x72, ex72⟩ : ∃ y : Int32, y = y40_2 + Int32.ofInt 1 := ⟨_, rfl⟩
                        have f73 : x72.toInt = y40_2.toInt + 1 := (ob_139 (qi_add ex72 rfl (by decide) (ob_137 g40_0) (ob_828 g40_1)))
                        refine lv_iinc (v := x72) (lv' := [(2, .int x72), (0, .ref (r 0)), (1, .int p0), (3, .int y83_3)]) hx hb dX9_layRows_113 hl (k := 2) rfl ex72.symm (by decide) rfl (fun ls hl => ?_)
                        refine lv_goto (tgt := 40) hx hb dX9_layRows_116 (by decide) ?_
                        exact ih40 x72 m83_J H83 _ _ (ob_140 g40_0 f73) (ob_829 f55 f73) hP hD hS (lv_sub hl [1, 2, 0] rfl) (ob_830 hM40 f73)
                      · skip
                        have f74 : y83_3.toInt < 3 := qi_nle c_70 zc_3 rfl
                        refine lv_aload_n hx hb dX9_layRows_88 rfl (lv_at hl 0 rfl) ?_
                        refine gM_X9_118_0 hx hb hG hown hK hP dX9_layRows_89 ?_
                        refine lv_bipush (v := 7) hx hb dX9_layRows_92 (by decide) ?_
                        refine lv_iload_n hx hb dX9_layRows_94 rfl (lv_at hl 3 rfl) ?_
                        refine lv_imul hx hb dX9_layRows_95 ?_
                        refine lv_topi (fun x75 ex75 => ?_)
                        have f76 : x75.toInt = 7 * y83_3.toInt := (ob_862 (qi_mul ex75 zc_7 rfl (ob_860 g83_0) (ob_861 g83_1)))
                        refine lv_iload_n hx hb dX9_layRows_96 rfl (lv_at hl 2 rfl) ?_
                        refine lv_iload_n hx hb dX9_layRows_97 rfl (lv_at hl 3 rfl) ?_
                        refine va_calli (va_runS (As := [.int y40_2, .int y83_3]) (rest := [.int x75, .ref (r 35)]) ⟨hx, hb, hml, hown, hG⟩ (kX9_noteIn l dC dI y40_2 y83_3 H83.size (ob_133 g40_0) (ob_840 f55)) (va_cwS 2 hG (goodS gw1842 gw1843 gw138 gw1844) rfl rfl rfl hd_X9_noteIn ⟨(Nat.le_of_ble_eq_true rfl), (Nat.le_of_ble_eq_true rfl)⟩) ⟨fbR, pR_in emptyP (emptyK hK)⟩ rfl rfl hl.1 rfl (lv_room (Nat.le_of_ble_eq_true rfl)) dX9_layRows_98 ⟨(Nat.le_of_ble_eq_true rfl), (Nat.le_of_ble_eq_true rfl)⟩) hS (fun q hq h => absurd hq (Nat.not_lt.mpr h)) (fun q h => hA q (Nat.le_trans hS.1 h)) (fun r_78 u_ t_ H77 locs ht hvm hw hB hz1 hk1 hS => ?_)
                        subst hw
                        have hP := wk hP hk1
                        obtain ⟨f79, f80, f81⟩ := hB
                        refine lv_iadd hx hb dX9_layRows_101 ?_
                        refine lv_topi (fun x82 ex82 => ?_)
                        have f83 : x82.toInt = r_78.toInt + 7 * y83_3.toInt := (ob_865 (qi_add ex82 rfl rfl (ob_863 g83_0 f80 f76) (ob_864 g83_1 f81 f76)) f76)
                        refine lv_dup2_11 hx hb dX9_layRows_102 rfl rfl ?_
                        refine ldM_35 (mm := r_78.toInt + 7 * y83_3.toInt) hx hb hK hP f83 (ob_866 g83_0 f80) (ob_867 f74 f81) dX9_layRows_103 (fun x84 => ?_)
                        refine lv_iconst (v := 1) hx hb dX9_layRows_104 (by decide) ?_
                        refine lv_iadd hx hb dX9_layRows_105 ?_
                        refine lv_topi (fun x85 ex85 => ?_)
                        refine stM_35 (mm := r_78.toInt + 7 * y83_3.toInt) hx hb hK hP hD hS f83 (ob_866 g83_0 f80) (ob_867 f74 f81) dX9_layRows_106 (fun J87 H86 locs hP hD hS => ?_)
                        obtain ⟨x88, ex88⟩ : ∃ y : Int32, y = y83_3 + Int32.ofInt 1 := ⟨_, rfl⟩
                        have f89 : x88.toInt = y83_3.toInt + 1 := (ob_139 (qi_add ex88 rfl (by decide) (ob_137 g83_0) (ob_329 g83_1)))
                        refine lv_iinc (v := x88) (lv' := [(3, .int x88), (0, .ref (r 0)), (1, .int p0), (2, .int y40_2)]) hx hb dX9_layRows_107 hl (k := 3) rfl ex88.symm (by decide) rfl (fun ls hl => ?_)
                        refine lv_goto (tgt := 83) hx hb dX9_layRows_110 (by decide) ?_
                        exact ih83 x88 J87 H86 _ _ (ob_140 g83_0 f89) (ob_330 f74 f89) hP hD hS (lv_sub hl [1, 2, 3, 0] rfl) (ob_331 hM83 f89)
                  exact L83 (-1 * (0 : Int32).toInt + 3 + 1).toNat 0 J69 H68 _ _ (ob_5 zc_0) (ob_332 zc_0) hP hD hS (lv_sub hl [1, 2, 3, 0] rfl) (mlt (ob_333 zc_0))
                · skip
                  have f90 : x63.toInt = 0 := qi_eq c_64 rfl zc_0
                  refine lv_goto (tgt := 113) hx hb dX9_layRows_68 (by decide) ?_
                  obtain ⟨x91, ex91⟩ : ∃ y : Int32, y = y40_2 + Int32.ofInt 1 := ⟨_, rfl⟩
                  have f92 : x91.toInt = y40_2.toInt + 1 := (ob_139 (qi_add ex91 rfl (by decide) (ob_137 g40_0) (ob_828 g40_1)))
                  refine lv_iinc (v := x91) (lv' := [(2, .int x91), (0, .ref (r 0)), (1, .int p0)]) hx hb dX9_layRows_113 hl (k := 2) rfl ex91.symm (by decide) rfl (fun ls hl => ?_)
                  refine lv_goto (tgt := 40) hx hb dX9_layRows_116 (by decide) ?_
                  exact ih40 x91 J62 H61 _ _ (ob_140 g40_0 f92) (ob_829 f55 f92) hP hD hS (lv_sub hl [1, 2, 0] rfl) (ob_830 hM40 f92)
          exact L40 (-1 * (0 : Int32).toInt + 343 + 1).toNat 0 J20 H14 _ _ (ob_5 zc_0) (ob_843 zc_0) hP hD hS (lv_sub hl [1, 2, 0] rfl) (mlt (ob_844 zc_0))
        · skip
          have f93 : r_8.toInt = 0 := qi_eq c_11 rfl zc_0
          rw [hQ]
          exact W.vret hx hb hr (fun t ht hW => ⟨⟨(), rfl, trivial, ⟨i_askHouse, i_askTune, f_all, f_kept, m7_J, by rw [ht]; exact hP, hD, hI⟩⟩, hS.F ht⟩) hS.2.2 dX9_layRows_33
      · skip
        have f94 : y7_2.toInt < 21 := qi_nle c_5 zc_21 rfl
        refine lv_aload_n hx hb dX9_layRows_13 rfl (lv_at hl 0 rfl) ?_
        refine gM_X9_118_0 hx hb hG hown hK hP dX9_layRows_14 ?_
        refine lv_iload_n hx hb dX9_layRows_17 rfl (lv_at hl 2 rfl) ?_
        refine lv_iconst (v := 0) hx hb dX9_layRows_18 (by decide) ?_
        refine stM_35 (mm := y7_2.toInt) hx hb hK hP hD hS rfl (ob_133 g7_0) (ob_868 f94) dX9_layRows_19 (fun J96 H95 locs hP hD hS => ?_)
        obtain ⟨x97, ex97⟩ : ∃ y : Int32, y = y7_2 + Int32.ofInt 1 := ⟨_, rfl⟩
        have f98 : x97.toInt = y7_2.toInt + 1 := (ob_139 (qi_add ex97 rfl (by decide) (ob_137 g7_0) (ob_869 g7_1)))
        refine lv_iinc (v := x97) (lv' := [(2, .int x97), (0, .ref (r 0)), (1, .int p0)]) hx hb dX9_layRows_20 hl (k := 2) rfl ex97.symm (by decide) rfl (fun ls hl => ?_)
        refine lv_goto (tgt := 7) hx hb dX9_layRows_23 (by decide) ?_
        exact ih7 x97 J96 H95 _ _ (ob_140 g7_0 f98) (ob_870 f94 f98) hP hD hS (lv_sub hl [1, 2, 0] rfl) (ob_871 hM7 f98)
  exact L7 (-1 * (0 : Int32).toInt + 21 + 1).toNat 0 J4 H3 _ _ (ob_5 zc_0) (ob_872 zc_0) hP hD hS (lv_sub hl [1, 2, 0] rfl) (mlt (ob_873 zc_0))
set_option maxHeartbeats 4000000 in
set_option maxRecDepth 100000 in
theorem kX9_rows (l : Launch) (dC : Nat → ClassId) (dI : Nat → Nat → Nat) (r : Nat → Nat) (ct : Nat → ClassId) (i_taped i_size i_faultKind i_at i_end i_token i_number i_bank i_rb i_codes i_within i_piled i_unitsInRule i_askHouse i_askTune i_acts i_undone i_laid i_knowns i_time : Int32) (f_text f_tunes f_houses f_hums f_told f_many f_ruleFrom f_ruleTo f_code f_eWhat f_eSign f_all f_kept f_was f_sTune f_boxAll : Nat → Int32) (J : Nat → Nat → Int32) (L : Nat → Nat → Int64) (p0 : Int32) (sz : Nat) (hI : (IM i_taped i_size i_at i_end i_bank i_rb i_acts i_undone i_laid i_knowns i_time f_tunes f_houses f_hums f_told f_many f_ruleFrom f_ruleTo f_code f_all f_kept f_was f_sTune f_boxAll)) : Met l yX9_rows (.code yX9_rows cX9_rows 2 (some .int) :: GW) { frames := 24, cells := 0, slots := 0, locals := 797 } (va_Pc [.ref (r 0), .int p0] (pW (dC, dI) (WM r ct i_taped i_size i_faultKind i_at i_end i_token i_number i_bank i_rb i_codes i_within i_piled i_unitsInRule i_askHouse i_askTune i_acts i_undone i_laid i_knowns i_time f_text f_tunes f_houses f_hums f_told f_many f_ruleFrom f_ruleTo f_code f_eWhat f_eSign f_all f_kept f_was f_sTune f_boxAll J L) (TM ct) sz)) (va_Qi (fun (r0 : Int32) (u : Int32) => r0 = u) (fun (u : Int32) (t : State) => ∃ (n_i_askHouse n_i_askTune : Int32) (n_f_all n_f_kept : Nat → Int32) (n_J : Nat → Nat → Int32), va_P (dC, dI) vwCl (WM r ct i_taped i_size i_faultKind i_at i_end i_token i_number i_bank i_rb i_codes i_within i_piled i_unitsInRule n_i_askHouse n_i_askTune i_acts i_undone i_laid i_knowns i_time f_text f_tunes f_houses f_hums f_told f_many f_ruleFrom f_ruleTo f_code f_eWhat f_eSign n_f_all n_f_kept f_was f_sTune f_boxAll n_J L) t.heap ∧ va_D (va_A (WM r ct i_taped i_size i_faultKind i_at i_end i_token i_number i_bank i_rb i_codes i_within i_piled i_unitsInRule i_askHouse i_askTune i_acts i_undone i_laid i_knowns i_time f_text f_tunes f_houses f_hums f_told f_many f_ruleFrom f_ruleTo f_code f_eWhat f_eSign f_all f_kept f_was f_sTune f_boxAll J L) sz) (WM r ct i_taped i_size i_faultKind i_at i_end i_token i_number i_bank i_rb i_codes i_within i_piled i_unitsInRule n_i_askHouse n_i_askTune i_acts i_undone i_laid i_knowns i_time f_text f_tunes f_houses f_hums f_told f_many f_ruleFrom f_ruleTo f_code f_eWhat f_eSign n_f_all n_f_kept f_was f_sTune f_boxAll n_J L) ∧ (IM i_taped i_size i_at i_end i_bank i_rb i_acts i_undone i_laid i_knowns i_time f_tunes f_houses f_hums f_told f_many f_ruleFrom f_ruleTo f_code n_f_all n_f_kept f_was f_sTune f_boxAll)) (va_A (WM r ct i_taped i_size i_faultKind i_at i_end i_token i_number i_bank i_rb i_codes i_within i_piled i_unitsInRule i_askHouse i_askTune i_acts i_undone i_laid i_knowns i_time f_text f_tunes f_houses f_hums f_told f_many f_ruleFrom f_ruleTo f_code f_eWhat f_eSign f_all f_kept f_was f_sTune f_boxAll J L) sz)) 0 0 (va_A (WM r ct i_taped i_size i_faultKind i_at i_end i_token i_number i_bank i_rb i_codes i_within i_piled i_unitsInRule i_askHouse i_askTune i_acts i_undone i_laid i_knowns i_time f_text f_tunes f_houses f_hums f_told f_many f_ruleFrom f_ruleTo f_code f_eWhat f_eSign f_all f_kept f_was f_sTune f_boxAll J L) sz) := by
  refine Met.ofW (cc := cX9_rows) (maxL := 2) (ret := (some .int)) (by decide) rfl ?_
  intro p e s m args below meth c0 s₁ B hml hv
  obtain ⟨rfl, hsz, hP, hK, hD0⟩ := hv
  have hx := B.exec
  have hb := B.bytes
  have hr := B.returns
  have hts := atoms_spec (ws := .code yX9_rows cX9_rows 2 (some .int) :: GW) B.pre
  have hG : ∀ w ∈ GW, w.before _ s = true := fun w h => hts w (List.mem_cons_of_mem _ h)
  have hown : s.vm.findClass RX9 = some m.cls := findClass_of_methodNamed B.named
  subst hsz
  have hD := hD0.self (sz := s.heap.size)
  generalize hAe : va_A (WM r ct i_taped i_size i_faultKind i_at i_end i_token i_number i_bank i_rb i_codes i_within i_piled i_unitsInRule i_askHouse i_askTune i_acts i_undone i_laid i_knowns i_time f_text f_tunes f_houses f_hums f_told f_many f_ruleFrom f_ruleTo f_code f_eWhat f_eSign f_all f_kept f_was f_sTune f_boxAll J L) s.heap.size = A at hD ⊢
  have hA : ∀ q : Nat, s.heap.size ≤ q → A q := fun q h => by rw [← hAe]; exact Or.inr h
  have hS : va_S A s.heap s.heap [] := va_S.rf
  have hP : va_P (dC, dI) vwCl (WM r ct i_taped i_size i_faultKind i_at i_end i_token i_number i_bank i_rb i_codes i_within i_piled i_unitsInRule i_askHouse i_askTune i_acts i_undone i_laid i_knowns i_time f_text f_tunes f_houses f_hums f_told f_many f_ruleFrom f_ruleTo f_code f_eWhat f_eSign f_all f_kept f_was f_sTune f_boxAll J L) s.heap := hP
  have hl := lv_entry ([.ref (r 0), .int p0]) (n := 2) (Nat.le_of_ble_eq_true rfl)
  rw [lg_entry_eq]
  generalize (lg_sl ([.ref (r 0), .int p0]) ++ List.replicate (2 - (lg_sl ([.ref (r 0), .int p0])).length) Slot.unset).toArray = ls at hl ⊢
  have hl : lv_has ls 2 [(0, .ref (r 0)), (1, .int p0)] := hl
  refine nameQ (fun Q hQ => ?_)
  obtain ⟨im0, im1, im2, im3, im4, im5, im6, im7, im8, im9, im10, im11, im12, im13, im14, im15, im16, im17, im18, im19, im20, im21, im22, im23, im24, im25, im26, im27, im28, im29, im30⟩ := id hI
  have f1 : 0 ≤ (f_tunes (i_bank.toInt).toNat).toInt ∧ (f_tunes (i_bank.toInt).toNat).toInt ≤ 5 := im20 (i_bank.toInt)
  have f2 : 0 ≤ (f_houses (i_bank.toInt).toNat).toInt ∧ (f_houses (i_bank.toInt).toNat).toInt ≤ 4 := im21 (i_bank.toInt)
  refine lv_aload_n hx hb dX9_rows_0 rfl (lv_at hl 0 rfl) ?_
  refine lv_iload_n hx hb dX9_rows_1 rfl (lv_at hl 1 rfl) ?_
  have hFc := frA hD hS hA
  refine va_callv (va_runV (As := [.int p0]) (rest := []) ⟨hx, hb, hml, hown, hG⟩ (kX9_layRows l dC dI r ct i_taped i_size i_faultKind i_at i_end i_token i_number i_bank i_rb i_codes i_within i_piled i_unitsInRule i_askHouse i_askTune i_acts i_undone i_laid i_knowns i_time f_text f_tunes f_houses f_hums f_told f_many f_ruleFrom f_ruleTo f_code f_eWhat f_eSign f_all f_kept f_was f_sTune f_boxAll J L p0 s.heap.size hI) (cwV 1 hG (goodV gw1834 gw1836 gw122 gw138 gw1837) rfl rfl rfl hd_X9_layRows ⟨(Nat.le_of_ble_eq_true rfl), (Nat.le_of_ble_eq_true rfl)⟩) ⟨fbW, va_recv hK hP (ci := 8) (q0 := 0) rfl rfl, pW_in hP hK hD⟩ rfl rfl hl.1 rfl (lv_room (Nat.le_of_ble_eq_true rfl)) dX9_rows_2 ⟨(Nat.le_of_ble_eq_true rfl), (Nat.le_of_ble_eq_true rfl)⟩) hS (fun q _ h => hFc q h) hFc (fun _ t_ H3 locs ht hvm hw hB hz1 hk1 hS => ?_)
  obtain ⟨x5, x6, z7, z8, J9, hP1, hD1, hI10⟩ := hB
  rw [ht] at hP1
  have hP := hP1
  have hD := dW hFc hD1
  obtain ⟨im11, im12, im13, im14, im15, im16, im17, im18, im19, im20, im21, im22, im23, im24, im25, im26, im27, im28, im29, im30, im31, im32, im33, im34, im35, im36, im37, im38, im39, im40, im41⟩ := id hI10
  refine lv_aload_n hx hb dX9_rows_5 rfl (lv_at hl 0 rfl) ?_
  refine gM_X9_499_0 hx hb hG hown hK hP dX9_rows_6 (fun x42 => ?_)
  rw [hQ]
  exact W.iret (v := x42) hx hb hr (fun t ht hW => ⟨⟨x42, x42, rfl, rfl, ⟨x5, x6, z7, z8, J9, by rw [ht]; exact hP, hD, hI10⟩⟩, hS.F ht⟩) hS.2.2 dX9_rows_9
set_option maxHeartbeats 4000000 in
set_option maxRecDepth 100000 in
theorem kX9_sure (l : Launch) (dC : Nat → ClassId) (dI : Nat → Nat → Nat) (r : Nat → Nat) (ct : Nat → ClassId) (i_taped i_size i_faultKind i_at i_end i_token i_number i_bank i_rb i_codes i_within i_piled i_unitsInRule i_askHouse i_askTune i_acts i_undone i_laid i_knowns i_time : Int32) (f_text f_tunes f_houses f_hums f_told f_many f_ruleFrom f_ruleTo f_code f_eWhat f_eSign f_all f_kept f_was f_sTune f_boxAll : Nat → Int32) (J : Nat → Nat → Int32) (L : Nat → Nat → Int64) (p0 p1 : Int32) (sz : Nat) (hI : (IM i_taped i_size i_at i_end i_bank i_rb i_acts i_undone i_laid i_knowns i_time f_tunes f_houses f_hums f_told f_many f_ruleFrom f_ruleTo f_code f_all f_kept f_was f_sTune f_boxAll)) : Met l yX9_sure (.code yX9_sure cX9_sure 4 (some .int) :: GW) { frames := 24, cells := 0, slots := 0, locals := 797 } (va_Pc [.ref (r 0), .int p0, .int p1] (pW (dC, dI) (WM r ct i_taped i_size i_faultKind i_at i_end i_token i_number i_bank i_rb i_codes i_within i_piled i_unitsInRule i_askHouse i_askTune i_acts i_undone i_laid i_knowns i_time f_text f_tunes f_houses f_hums f_told f_many f_ruleFrom f_ruleTo f_code f_eWhat f_eSign f_all f_kept f_was f_sTune f_boxAll J L) (TM ct) sz)) (va_Qi (fun (r0 : Int32) (u : Int32) => r0 = u) (fun (u : Int32) (t : State) => ∃ (n_i_askHouse n_i_askTune : Int32) (n_f_all n_f_kept : Nat → Int32) (n_J : Nat → Nat → Int32), va_P (dC, dI) vwCl (WM r ct i_taped i_size i_faultKind i_at i_end i_token i_number i_bank i_rb i_codes i_within i_piled i_unitsInRule n_i_askHouse n_i_askTune i_acts i_undone i_laid i_knowns i_time f_text f_tunes f_houses f_hums f_told f_many f_ruleFrom f_ruleTo f_code f_eWhat f_eSign n_f_all n_f_kept f_was f_sTune f_boxAll n_J L) t.heap ∧ va_D (va_A (WM r ct i_taped i_size i_faultKind i_at i_end i_token i_number i_bank i_rb i_codes i_within i_piled i_unitsInRule i_askHouse i_askTune i_acts i_undone i_laid i_knowns i_time f_text f_tunes f_houses f_hums f_told f_many f_ruleFrom f_ruleTo f_code f_eWhat f_eSign f_all f_kept f_was f_sTune f_boxAll J L) sz) (WM r ct i_taped i_size i_faultKind i_at i_end i_token i_number i_bank i_rb i_codes i_within i_piled i_unitsInRule n_i_askHouse n_i_askTune i_acts i_undone i_laid i_knowns i_time f_text f_tunes f_houses f_hums f_told f_many f_ruleFrom f_ruleTo f_code f_eWhat f_eSign n_f_all n_f_kept f_was f_sTune f_boxAll n_J L) ∧ (IM i_taped i_size i_at i_end i_bank i_rb i_acts i_undone i_laid i_knowns i_time f_tunes f_houses f_hums f_told f_many f_ruleFrom f_ruleTo f_code n_f_all n_f_kept f_was f_sTune f_boxAll)) (va_A (WM r ct i_taped i_size i_faultKind i_at i_end i_token i_number i_bank i_rb i_codes i_within i_piled i_unitsInRule i_askHouse i_askTune i_acts i_undone i_laid i_knowns i_time f_text f_tunes f_houses f_hums f_told f_many f_ruleFrom f_ruleTo f_code f_eWhat f_eSign f_all f_kept f_was f_sTune f_boxAll J L) sz)) 0 0 (va_A (WM r ct i_taped i_size i_faultKind i_at i_end i_token i_number i_bank i_rb i_codes i_within i_piled i_unitsInRule i_askHouse i_askTune i_acts i_undone i_laid i_knowns i_time f_text f_tunes f_houses f_hums f_told f_many f_ruleFrom f_ruleTo f_code f_eWhat f_eSign f_all f_kept f_was f_sTune f_boxAll J L) sz) := by
  refine Met.ofW (cc := cX9_sure) (maxL := 4) (ret := (some .int)) (by decide) rfl ?_
  intro p e s m args below meth c0 s₁ B hml hv
  obtain ⟨rfl, hsz, hP, hK, hD0⟩ := hv
  have hx := B.exec
  have hb := B.bytes
  have hr := B.returns
  have hts := atoms_spec (ws := .code yX9_sure cX9_sure 4 (some .int) :: GW) B.pre
  have hG : ∀ w ∈ GW, w.before _ s = true := fun w h => hts w (List.mem_cons_of_mem _ h)
  have hown : s.vm.findClass RX9 = some m.cls := findClass_of_methodNamed B.named
  subst hsz
  have hD := hD0.self (sz := s.heap.size)
  generalize hAe : va_A (WM r ct i_taped i_size i_faultKind i_at i_end i_token i_number i_bank i_rb i_codes i_within i_piled i_unitsInRule i_askHouse i_askTune i_acts i_undone i_laid i_knowns i_time f_text f_tunes f_houses f_hums f_told f_many f_ruleFrom f_ruleTo f_code f_eWhat f_eSign f_all f_kept f_was f_sTune f_boxAll J L) s.heap.size = A at hD ⊢
  have hA : ∀ q : Nat, s.heap.size ≤ q → A q := fun q h => by rw [← hAe]; exact Or.inr h
  have hS : va_S A s.heap s.heap [] := va_S.rf
  have hP : va_P (dC, dI) vwCl (WM r ct i_taped i_size i_faultKind i_at i_end i_token i_number i_bank i_rb i_codes i_within i_piled i_unitsInRule i_askHouse i_askTune i_acts i_undone i_laid i_knowns i_time f_text f_tunes f_houses f_hums f_told f_many f_ruleFrom f_ruleTo f_code f_eWhat f_eSign f_all f_kept f_was f_sTune f_boxAll J L) s.heap := hP
  have hl := lv_entry ([.ref (r 0), .int p0, .int p1]) (n := 4) (Nat.le_of_ble_eq_true rfl)
  rw [lg_entry_eq]
  generalize (lg_sl ([.ref (r 0), .int p0, .int p1]) ++ List.replicate (4 - (lg_sl ([.ref (r 0), .int p0, .int p1])).length) Slot.unset).toArray = ls at hl ⊢
  have hl : lv_has ls 4 [(0, .ref (r 0)), (1, .int p0), (2, .int p1)] := hl
  refine nameQ (fun Q hQ => ?_)
  obtain ⟨im0, im1, im2, im3, im4, im5, im6, im7, im8, im9, im10, im11, im12, im13, im14, im15, im16, im17, im18, im19, im20, im21, im22, im23, im24, im25, im26, im27, im28, im29, im30⟩ := id hI
  have f1 : 0 ≤ (f_tunes (i_bank.toInt).toNat).toInt ∧ (f_tunes (i_bank.toInt).toNat).toInt ≤ 5 := im20 (i_bank.toInt)
  have f2 : 0 ≤ (f_houses (i_bank.toInt).toNat).toInt ∧ (f_houses (i_bank.toInt).toNat).toInt ≤ 4 := im21 (i_bank.toInt)
  refine lv_aload_n hx hb dX9_sure_0 rfl (lv_at hl 0 rfl) ?_
  refine lv_iload_n hx hb dX9_sure_1 rfl (lv_at hl 2 rfl) ?_
  have hFc := frA hD hS hA
  refine va_callv (va_runV (As := [.int p1]) (rest := []) ⟨hx, hb, hml, hown, hG⟩ (kX9_layRows l dC dI r ct i_taped i_size i_faultKind i_at i_end i_token i_number i_bank i_rb i_codes i_within i_piled i_unitsInRule i_askHouse i_askTune i_acts i_undone i_laid i_knowns i_time f_text f_tunes f_houses f_hums f_told f_many f_ruleFrom f_ruleTo f_code f_eWhat f_eSign f_all f_kept f_was f_sTune f_boxAll J L p1 s.heap.size hI) (cwV 1 hG (goodV gw1834 gw1836 gw122 gw138 gw1837) rfl rfl rfl hd_X9_layRows ⟨(Nat.le_of_ble_eq_true rfl), (Nat.le_of_ble_eq_true rfl)⟩) ⟨fbW, va_recv hK hP (ci := 8) (q0 := 0) rfl rfl, pW_in hP hK hD⟩ rfl rfl hl.1 rfl (lv_room (Nat.le_of_ble_eq_true rfl)) dX9_sure_2 ⟨(Nat.le_of_ble_eq_true rfl), (Nat.le_of_ble_eq_true rfl)⟩) hS (fun q _ h => hFc q h) hFc (fun _ t_ H3 locs ht hvm hw hB hz1 hk1 hS => ?_)
  obtain ⟨x5, x6, z7, z8, J9, hP1, hD1, hI10⟩ := hB
  rw [ht] at hP1
  have hP := hP1
  have hD := dW hFc hD1
  obtain ⟨im11, im12, im13, im14, im15, im16, im17, im18, im19, im20, im21, im22, im23, im24, im25, im26, im27, im28, im29, im30, im31, im32, im33, im34, im35, im36, im37, im38, im39, im40, im41⟩ := id hI10
  refine lv_iload_n hx hb dX9_sure_5 rfl (lv_at hl 1 rfl) ?_
  refine lv_iconst (v := 0) hx hb dX9_sure_6 (by decide) ?_
  refine lv_iconst (v := 2) hx hb dX9_sure_7 (by decide) ?_
  refine va_calli (va_runS (As := [.int p0, .int 0, .int 2]) (rest := []) ⟨hx, hb, hml, hown, hG⟩ (kX9_isIn l dC dI p0 0 2 H3.size) (va_cwS 3 hG (goodS gw1516 gw1517 gw138 gw1518) rfl rfl rfl hd_X9_isIn ⟨(Nat.le_of_ble_eq_true rfl), (Nat.le_of_ble_eq_true rfl)⟩) ⟨fbR, pR_in emptyP (emptyK hK)⟩ rfl rfl hl.1 rfl (lv_room (Nat.le_of_ble_eq_true rfl)) dX9_sure_8 ⟨(Nat.le_of_ble_eq_true rfl), (Nat.le_of_ble_eq_true rfl)⟩) hS (fun q hq h => absurd hq (Nat.not_lt.mpr h)) (fun q h => hA q (Nat.le_trans hS.1 h)) (fun r_43 u_ t_ H42 locs ht hvm hw hB hz1 hk1 hS => ?_)
  subst hw
  have hP := wk hP hk1
  obtain ⟨f44, f45, f46⟩ := hB
  refine lv_if_eq (tgt := 21) hx hb dX9_sure_11 (by decide) (fun c_47 => ?_) (fun c_47 => ?_)
  · skip
    have f48 : r_43.toInt = 0 := qi_eq c_47 rfl zc_0
    refine lv_iconst (v := (-1)) hx hb dX9_sure_21 (by decide) ?_
    rw [hQ]
    exact W.iret (v := (-1)) hx hb hr (fun t ht hW => ⟨⟨(-1), (-1), rfl, rfl, ⟨x5, x6, z7, z8, J9, by rw [ht]; exact hP, hD, hI10⟩⟩, hS.F ht⟩) hS.2.2 dX9_sure_22
  · skip
    have f49 : r_43.toInt ≠ 0 := qi_ne c_47 rfl zc_0
    have f50 : 1 ≤ r_43.toInt := (ob_874 f44 f49 zc_2 zc_0)
    have f51 : 0 ≤ p0.toInt := (ob_875 f44 f49 zc_2 zc_0)
    have f52 : p0.toInt ≤ 2 := (ob_876 f44 f49 zc_2 zc_0)
    have f53 : r_43.toInt = 1 := (ob_167 f45 f46 f50)
    refine lv_aload_n hx hb dX9_sure_14 rfl (lv_at hl 0 rfl) ?_
    refine gM_X9_499_0 hx hb hG hown hK hP dX9_sure_15 (fun x54 => ?_)
    refine lv_if_ne (tgt := 23) hx hb dX9_sure_18 (by decide) (fun c_55 => ?_) (fun c_55 => ?_)
    · skip
      have f56 : x54.toInt ≠ 0 := qi_ne c_55 rfl zc_0
      refine lv_iconst (v := 0) hx hb dX9_sure_23 (by decide) ?_
      refine lv_istore_n (lv' := [(3, .int 0), (0, .ref (r 0)), (1, .int p0), (2, .int p1)]) hx hb dX9_sure_24 rfl hl (by decide) rfl (fun ls hl => ?_)
      have L25 : ∀ (N25 : Nat) (y25_3 : Int32) (H25 : Heap) (locs : List Loc) (ls : Array Slot) (g25_0 : 0 ≤ y25_3.toInt) (g25_1 : y25_3.toInt ≤ 7) (hP : va_P (dC, dI) vwCl (WM r ct i_taped i_size i_faultKind i_at i_end i_token i_number i_bank i_rb i_codes i_within i_piled i_unitsInRule x5 x6 i_acts i_undone i_laid i_knowns i_time f_text f_tunes f_houses f_hums f_told f_many f_ruleFrom f_ruleTo f_code f_eWhat f_eSign z7 z8 f_was f_sTune f_boxAll J9 L) H25) (hD : va_D A (WM r ct i_taped i_size i_faultKind i_at i_end i_token i_number i_bank i_rb i_codes i_within i_piled i_unitsInRule x5 x6 i_acts i_undone i_laid i_knowns i_time f_text f_tunes f_houses f_hums f_told f_many f_ruleFrom f_ruleTo f_code f_eWhat f_eSign z7 z8 f_was f_sTune f_boxAll J9 L)) (hS : va_S A s.heap H25 locs) (hl : lv_has ls 4 [(0, .ref (r 0)), (1, .int p0), (2, .int p1), (3, .int y25_3)]) (hM : -1 * y25_3.toInt + 7 < (N25 : Int)), W p l e { frames := 24, cells := 0, slots := 0, locals := 797 } s m ([.ref (r 0), .int p0, .int p1] : List Value).toArray below meth c0 H25 locs 0 0 Q (F0 m 25 ls []) := by
        intro N25
        induction N25 with
        | zero =>
          intro y25_3 H25 locs ls g25_0 g25_1 hP hD hS hl hM
          exact ((ob_453 hM g25_0 g25_1)).elim
        | succ N25 ih25 =>
          intro y25_3 H25 locs ls g25_0 g25_1 hP hD hS hl hM
          have hM25 := msucc hM
          refine lv_iload_n hx hb dX9_sure_25 rfl (lv_at hl 3 rfl) ?_
          refine lv_bipush (v := 7) hx hb dX9_sure_26 (by decide) ?_
          refine lv_icmp_ge (tgt := 57) hx hb dX9_sure_28 (by decide) (fun c_57 => ?_) (fun c_57 => ?_)
          · skip
            have f58 : 7 ≤ y25_3.toInt := qi_le c_57 zc_7 rfl
            refine lv_bipush (v := (-2)) hx hb dX9_sure_57 (by decide) ?_
            rw [hQ]
            exact W.iret (v := (-2)) hx hb hr (fun t ht hW => ⟨⟨(-2), (-2), rfl, rfl, ⟨x5, x6, z7, z8, J9, by rw [ht]; exact hP, hD, hI10⟩⟩, hS.F ht⟩) hS.2.2 dX9_sure_59
          · skip
            have f59 : y25_3.toInt < 7 := qi_nle c_57 zc_7 rfl
            refine lv_aload_n hx hb dX9_sure_31 rfl (lv_at hl 0 rfl) ?_
            refine gM_X9_118_0 hx hb hG hown hK hP dX9_sure_32 ?_
            refine lv_bipush (v := 7) hx hb dX9_sure_35 (by decide) ?_
            refine lv_iload_n hx hb dX9_sure_37 rfl (lv_at hl 1 rfl) ?_
            refine lv_imul hx hb dX9_sure_38 ?_
            refine lv_topi (fun x60 ex60 => ?_)
            have f61 : x60.toInt = 7 * p0.toInt := (ob_862 (qi_mul ex60 zc_7 rfl (ob_877 f51 f52) (ob_878 f51 f52)))
            refine lv_iload_n hx hb dX9_sure_39 rfl (lv_at hl 3 rfl) ?_
            refine lv_iadd hx hb dX9_sure_40 ?_
            refine lv_topi (fun x62 ex62 => ?_)
            have f63 : x62.toInt = y25_3.toInt + 7 * p0.toInt := (ob_865 (qi_add ex62 rfl rfl (ob_863 f51 g25_0 f61) (ob_879 f52 g25_1 f61)) f61)
            refine ldM_35 (mm := y25_3.toInt + 7 * p0.toInt) hx hb hK hP f63 (ob_866 f51 g25_0) (ob_880 f52 f59) dX9_sure_41 (fun x64 => ?_)
            refine lv_aload_n hx hb dX9_sure_42 rfl (lv_at hl 0 rfl) ?_
            refine gM_X9_499_0 hx hb hG hown hK hP dX9_sure_43 (fun x65 => ?_)
            refine lv_icmp_ne (tgt := 51) hx hb dX9_sure_46 (by decide) (fun c_66 => ?_) (fun c_66 => ?_)
            · skip
              have f67 : x64.toInt ≠ x65.toInt := qi_ne c_66 rfl rfl
              obtain ⟨x68, ex68⟩ : ∃ y : Int32, y = y25_3 + Int32.ofInt 1 := ⟨_, rfl⟩
              have f69 : x68.toInt = y25_3.toInt + 1 := (ob_139 (qi_add ex68 rfl (by decide) (ob_137 g25_0) (ob_454 g25_1)))
              refine lv_iinc (v := x68) (lv' := [(3, .int x68), (0, .ref (r 0)), (1, .int p0), (2, .int p1)]) hx hb dX9_sure_51 hl (k := 3) rfl ex68.symm (by decide) rfl (fun ls hl => ?_)
              refine lv_goto (tgt := 25) hx hb dX9_sure_54 (by decide) ?_
              exact ih25 x68 H25 _ _ (ob_140 g25_0 f69) (ob_457 f59 f69) hP hD hS (lv_sub hl [1, 2, 3, 0] rfl) (ob_458 hM25 f69)
            · skip
              have f70 : x64.toInt = x65.toInt := qi_eq c_66 rfl rfl
              refine lv_iload_n hx hb dX9_sure_49 rfl (lv_at hl 3 rfl) ?_
              rw [hQ]
              exact W.iret (v := y25_3) hx hb hr (fun t ht hW => ⟨⟨y25_3, y25_3, rfl, rfl, ⟨x5, x6, z7, z8, J9, by rw [ht]; exact hP, hD, hI10⟩⟩, hS.F ht⟩) hS.2.2 dX9_sure_50
      exact L25 (-1 * (0 : Int32).toInt + 7 + 1).toNat 0 H42 _ _ (ob_5 zc_0) (ob_463 zc_0) hP hD hS (lv_sub hl [1, 2, 3, 0] rfl) (mlt (ob_464 zc_0))
    · skip
      have f71 : x54.toInt = 0 := qi_eq c_55 rfl zc_0
      refine lv_iconst (v := (-1)) hx hb dX9_sure_21 (by decide) ?_
      rw [hQ]
      exact W.iret (v := (-1)) hx hb hr (fun t ht hW => ⟨⟨(-1), (-1), rfl, rfl, ⟨x5, x6, z7, z8, J9, by rw [ht]; exact hP, hD, hI10⟩⟩, hS.F ht⟩) hS.2.2 dX9_sure_22
