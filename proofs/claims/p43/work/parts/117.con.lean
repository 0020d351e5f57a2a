set_option maxHeartbeats 4000000 in
set_option maxRecDepth 100000 in
theorem kX9_restore (l : Launch) (dC : Nat → ClassId) (dI : Nat → Nat → Nat) (r : Nat → Nat) (ct : Nat → ClassId) (i_taped i_size i_faultKind i_at i_end i_token i_number i_bank i_rb i_codes i_within i_piled i_unitsInRule i_askHouse i_askTune i_acts i_undone i_laid i_knowns i_time : Int32) (f_text f_tunes f_houses f_hums f_told f_many f_ruleFrom f_ruleTo f_code f_eWhat f_eSign f_all f_kept f_was f_sTune f_boxAll : Nat → Int32) (J : Nat → Nat → Int32) (L : Nat → Nat → Int64) (p0 : Int32) (sz : Nat) (hI : (IM i_taped i_size i_faultKind i_at i_end i_bank i_rb i_acts i_undone i_laid i_knowns i_time f_tunes f_houses f_hums f_told f_many f_ruleFrom f_ruleTo f_code f_all f_kept f_was f_sTune f_boxAll)) : Met l yX9_restore (.code yX9_restore cX9_restore 3 (some .int) :: GW) { frames := 4, cells := 0, slots := 0, locals := 162 } (va_Pc [.ref (r 0), .int p0] (pW (dC, dI) (WM r ct i_taped i_size i_faultKind i_at i_end i_token i_number i_bank i_rb i_codes i_within i_piled i_unitsInRule i_askHouse i_askTune i_acts i_undone i_laid i_knowns i_time f_text f_tunes f_houses f_hums f_told f_many f_ruleFrom f_ruleTo f_code f_eWhat f_eSign f_all f_kept f_was f_sTune f_boxAll J L) (TM ct) sz)) (va_Qi (fun (r0 : Int32) (u : Int32) => r0 = u) (fun (u : Int32) (t : State) => ∃ (n_i_acts n_i_undone : Int32) (n_f_all : Nat → Int32), va_P (dC, dI) vwCl (WM r ct i_taped i_size i_faultKind i_at i_end i_token i_number i_bank i_rb i_codes i_within i_piled i_unitsInRule i_askHouse i_askTune n_i_acts n_i_undone i_laid i_knowns i_time f_text f_tunes f_houses f_hums f_told f_many f_ruleFrom f_ruleTo f_code f_eWhat f_eSign n_f_all f_kept f_was f_sTune f_boxAll J L) t.heap ∧ va_D (va_A (WM r ct i_taped i_size i_faultKind i_at i_end i_token i_number i_bank i_rb i_codes i_within i_piled i_unitsInRule i_askHouse i_askTune i_acts i_undone i_laid i_knowns i_time f_text f_tunes f_houses f_hums f_told f_many f_ruleFrom f_ruleTo f_code f_eWhat f_eSign f_all f_kept f_was f_sTune f_boxAll J L) sz) (WM r ct i_taped i_size i_faultKind i_at i_end i_token i_number i_bank i_rb i_codes i_within i_piled i_unitsInRule i_askHouse i_askTune n_i_acts n_i_undone i_laid i_knowns i_time f_text f_tunes f_houses f_hums f_told f_many f_ruleFrom f_ruleTo f_code f_eWhat f_eSign n_f_all f_kept f_was f_sTune f_boxAll J L) ∧ (IM i_taped i_size i_faultKind i_at i_end i_bank i_rb n_i_acts n_i_undone i_laid i_knowns i_time f_tunes f_houses f_hums f_told f_many f_ruleFrom f_ruleTo f_code n_f_all f_kept f_was f_sTune f_boxAll)) (va_A (WM r ct i_taped i_size i_faultKind i_at i_end i_token i_number i_bank i_rb i_codes i_within i_piled i_unitsInRule i_askHouse i_askTune i_acts i_undone i_laid i_knowns i_time f_text f_tunes f_houses f_hums f_told f_many f_ruleFrom f_ruleTo f_code f_eWhat f_eSign f_all f_kept f_was f_sTune f_boxAll J L) sz)) 0 0 (va_A (WM r ct i_taped i_size i_faultKind i_at i_end i_token i_number i_bank i_rb i_codes i_within i_piled i_unitsInRule i_askHouse i_askTune i_acts i_undone i_laid i_knowns i_time f_text f_tunes f_houses f_hums f_told f_many f_ruleFrom f_ruleTo f_code f_eWhat f_eSign f_all f_kept f_was f_sTune f_boxAll J L) sz) := by
  refine Met.ofW (cc := cX9_restore) (maxL := 3) (ret := (some .int)) (by decide) rfl ?_
  intro p e s m args below meth c0 s₁ B hml hv
  obtain ⟨rfl, hsz, hP, hK, hD0⟩ := hv
  have hx := B.exec
  have hb := B.bytes
  have hr := B.returns
  have hts := atoms_spec (ws := .code yX9_restore cX9_restore 3 (some .int) :: GW) B.pre
  have hG : ∀ w ∈ GW, w.before _ s = true := fun w h => hts w (List.mem_cons_of_mem _ h)
  have hown : s.vm.findClass RX9 = some m.cls := findClass_of_methodNamed B.named
  subst hsz
  have hD := hD0.self (sz := s.heap.size)
  generalize hAe : va_A (WM r ct i_taped i_size i_faultKind i_at i_end i_token i_number i_bank i_rb i_codes i_within i_piled i_unitsInRule i_askHouse i_askTune i_acts i_undone i_laid i_knowns i_time f_text f_tunes f_houses f_hums f_told f_many f_ruleFrom f_ruleTo f_code f_eWhat f_eSign f_all f_kept f_was f_sTune f_boxAll J L) s.heap.size = A at hD ⊢
  have hA : ∀ q : Nat, s.heap.size ≤ q → A q := fun q h => by rw [← hAe]; exact Or.inr h
  have hS : va_S A s.heap s.heap [] := va_S.rf
  have hP : va_P (dC, dI) vwCl (WM r ct i_taped i_size i_faultKind i_at i_end i_token i_number i_bank i_rb i_codes i_within i_piled i_unitsInRule i_askHouse i_askTune i_acts i_undone i_laid i_knowns i_time f_text f_tunes f_houses f_hums f_told f_many f_ruleFrom f_ruleTo f_code f_eWhat f_eSign f_all f_kept f_was f_sTune f_boxAll J L) s.heap := hP
  have hl := lv_entry ([.ref (r 0), .int p0]) (n := 3) (Nat.le_of_ble_eq_true rfl)
  rw [lg_entry_eq]
  generalize (lg_sl ([.ref (r 0), .int p0]) ++ List.replicate (3 - (lg_sl ([.ref (r 0), .int p0])).length) Slot.unset).toArray = ls at hl ⊢
  have hl : lv_has ls 3 [(0, .ref (r 0)), (1, .int p0)] := hl
  refine nameQ (fun Q hQ => ?_)
  obtain ⟨ie0, ie1, ie2, ie3, ie4, ie5, ie6, ie7, ie8, ie9, ie10, ie11, ie12, ie13, ie14, ie15, ie16, ie17, ie18, ie19, ie20, ie21, ie22, ie23, ie24, ie25, ie26, ie27, ie28, ie29, ie30, ie31, ie32⟩ := id hI
  have f1 : 0 ≤ (f_tunes (i_bank.toInt).toNat).toInt ∧ (f_tunes (i_bank.toInt).toNat).toInt ≤ 5 := ie21 (i_bank.toInt)
  have f2 : 0 ≤ (f_houses (i_bank.toInt).toNat).toInt ∧ (f_houses (i_bank.toInt).toNat).toInt ≤ 4 := ie22 (i_bank.toInt)
  refine lv_iload_n hx hb dX9_restore_0 rfl (lv_at hl 1 rfl) ?_
  refine lv_iconst (v := 0) hx hb dX9_restore_1 (by decide) ?_
  refine lv_iconst (v := 2) hx hb dX9_restore_2 (by decide) ?_
  refine va_calli (va_runS (As := [.int p0, .int 0, .int 2]) (rest := []) ⟨hx, hb, hml, hown, hG⟩ (kX9_isIn l dC dI p0 0 2 s.heap.size) (va_cwS 3 hG (goodS gw1516 gw1517 gw138 gw1518) rfl rfl rfl hd_X9_isIn ⟨(Nat.le_of_ble_eq_true rfl), (Nat.le_of_ble_eq_true rfl)⟩) ⟨fbR, pR_in emptyP (emptyK hK)⟩ rfl rfl hl.1 rfl (lv_room (Nat.le_of_ble_eq_true rfl)) dX9_restore_3 ⟨(Nat.le_of_ble_eq_true rfl), (Nat.le_of_ble_eq_true rfl)⟩) hS (fun q hq h => absurd hq (Nat.not_lt.mpr h)) (fun q h => hA q (Nat.le_trans hS.1 h)) (fun r_4 u_ t_ H3 locs ht hvm hw hB hz1 hk1 hS => ?_)
  subst hw
  have hP := wk hP hk1
  obtain ⟨f5, f6, f7⟩ := hB
  refine lv_if_eq (tgt := 18) hx hb dX9_restore_6 (by decide) (fun c_8 => ?_) (fun c_8 => ?_)
  · skip
    have f9 : r_4.toInt = 0 := qi_eq c_8 rfl zc_0
    refine lv_iconst (v := (-1)) hx hb dX9_restore_18 (by decide) ?_
    rw [hQ]
    exact W.iret (v := (-1)) hx hb hr (fun t ht hW => ⟨⟨(-1), (-1), rfl, rfl, ⟨i_acts, i_undone, f_all, by rw [ht]; exact hP, hD, hI⟩⟩, hS.F ht⟩) hS.2.2 dX9_restore_19
  · skip
    have f10 : r_4.toInt ≠ 0 := qi_ne c_8 rfl zc_0
    have f11 : (0 : Int) ≤ p0.toInt := (ob_1560 f5 f10 zc_2 zc_0)
    have f12 : p0.toInt ≤ (2 : Int) := (ob_1561 f5 f10 zc_2 zc_0)
    have f13 : r_4.toInt = (1 : Int) := (ob_1562 f5 f10 zc_2 zc_0)
    have f14 : (1 : Int) ≤ r_4.toInt := (ob_162 f6 f7 f13)
    refine lv_aload_n hx hb dX9_restore_9 rfl (lv_at hl 0 rfl) ?_
    refine gM_X9_128_0 hx hb hG hown hK hP dX9_restore_10 ?_
    refine lv_iload_n hx hb dX9_restore_13 rfl (lv_at hl 1 rfl) ?_
    refine ldM_38 (mm := p0.toInt) hx hb hK hP rfl (ob_1581 f11 f12) (ob_1582 f11 f12) dX9_restore_14 (fun x15 => ?_)
    refine lv_if_ne (tgt := 20) hx hb dX9_restore_15 (by decide) (fun c_16 => ?_) (fun c_16 => ?_)
    · skip
      have f17 : x15.toInt ≠ 0 := qi_ne c_16 rfl zc_0
      refine lv_iconst (v := 0) hx hb dX9_restore_20 (by decide) ?_
      refine lv_istore_n (lv' := [(2, .int 0), (0, .ref (r 0)), (1, .int p0)]) hx hb dX9_restore_21 rfl hl (by decide) rfl (fun ls hl => ?_)
      have L22 : ∀ (N22 : Nat) (y22_2 : Int32) (m22_f_all : Nat → Int32) (H22 : Heap) (locs : List Loc) (ls : Array Slot) (g22_0 : (0 : Int) ≤ y22_2.toInt) (g22_1 : y22_2.toInt ≤ (26 : Int)) (gi22_all_p : EW m22_f_all) (hP : va_P (dC, dI) vwCl (WM r ct i_taped i_size i_faultKind i_at i_end i_token i_number i_bank i_rb i_codes i_within i_piled i_unitsInRule i_askHouse i_askTune i_acts i_undone i_laid i_knowns i_time f_text f_tunes f_houses f_hums f_told f_many f_ruleFrom f_ruleTo f_code f_eWhat f_eSign m22_f_all f_kept f_was f_sTune f_boxAll J L) H22) (hD : va_D A (WM r ct i_taped i_size i_faultKind i_at i_end i_token i_number i_bank i_rb i_codes i_within i_piled i_unitsInRule i_askHouse i_askTune i_acts i_undone i_laid i_knowns i_time f_text f_tunes f_houses f_hums f_told f_many f_ruleFrom f_ruleTo f_code f_eWhat f_eSign m22_f_all f_kept f_was f_sTune f_boxAll J L)) (hS : va_S A s.heap H22 locs) (hl : lv_has ls 3 [(0, .ref (r 0)), (1, .int p0), (2, .int y22_2)]) (hM : -1 * y22_2.toInt + 26 < (N22 : Int)), W p l e { frames := 4, cells := 0, slots := 0, locals := 162 } s m ([.ref (r 0), .int p0] : List Value).toArray below meth c0 H22 locs 0 0 Q (F0 m 22 ls []) := by
        intro N22
        induction N22 with
        | zero =>
          intro y22_2 m22_f_all H22 locs ls g22_0 g22_1 gi22_all_p hP hD hS hl hM
          exact ((ob_776 hM g22_0 g22_1)).elim
        | succ N22 ih22 =>
          intro y22_2 m22_f_all H22 locs ls g22_0 g22_1 gi22_all_p hP hD hS hl hM
          have hM22 := msucc hM
          refine lv_iload_n hx hb dX9_restore_22 rfl (lv_at hl 2 rfl) ?_
          refine lv_bipush (v := 26) hx hb dX9_restore_23 (by decide) ?_
          refine lv_icmp_ge (tgt := 51) hx hb dX9_restore_25 (by decide) (fun c_18 => ?_) (fun c_18 => ?_)
          · skip
            have f19 : 26 ≤ y22_2.toInt := qi_le c_18 zc_26 rfl
            refine lv_aload_n hx hb dX9_restore_51 rfl (lv_at hl 0 rfl) ?_
            refine lv_iconst (v := 0) hx hb dX9_restore_52 (by decide) ?_
            refine pM_X9_364_0 hx hb hG hown hK hP hD hS dX9_restore_53 (fun H20 locs hP hD hS => ?_)
            refine lv_aload_n hx hb dX9_restore_56 rfl (lv_at hl 0 rfl) ?_
            refine lv_iconst (v := 0) hx hb dX9_restore_57 (by decide) ?_
            refine pM_X9_367_0 hx hb hG hown hK hP hD hS dX9_restore_58 (fun H21 locs hP hD hS => ?_)
            refine lv_aload_n hx hb dX9_restore_61 rfl (lv_at hl 0 rfl) ?_
            refine gM_X9_88_0 hx hb hG hown hK hP dX9_restore_62 ?_
            refine lv_bipush (v := 24) hx hb dX9_restore_65 (by decide) ?_
            refine ldM_25 (mm := (24 : Int)) hx hb hK hP zc_24 (ob_1079) (ob_1080) dX9_restore_67 ?_
            rw [hQ]
            exact W.iret (v := (m22_f_all ((24 : Int)).toNat)) hx hb hr (fun t ht hW => ⟨⟨(m22_f_all ((24 : Int)).toNat), (m22_f_all ((24 : Int)).toNat), rfl, rfl, ⟨0, 0, m22_f_all, by rw [ht]; exact hP, hD, ⟨ie0, ie1, ie2, ie3, ie4, ie5, ie6, ie7, ie8, ie9, ie10, ie11, ie12, ie13, ie14, ie15, ie16, ie17, (ob_1 zc_0), (ob_1 zc_0), (ob_816 zc_0), ie21, ie22, ie23, ie24, ie25, ie26, gi22_all_p, ie28, ie29, ie30, ie31, ie32⟩⟩⟩, hS.F ht⟩) hS.2.2 dX9_restore_68
          · skip
            have f22 : y22_2.toInt < 26 := qi_nle c_18 zc_26 rfl
            refine lv_aload_n hx hb dX9_restore_28 rfl (lv_at hl 0 rfl) ?_
            refine gM_X9_88_0 hx hb hG hown hK hP dX9_restore_29 ?_
            refine lv_iload_n hx hb dX9_restore_32 rfl (lv_at hl 2 rfl) ?_
            refine lv_aload_n hx hb dX9_restore_33 rfl (lv_at hl 0 rfl) ?_
            refine gM_X9_125_0 hx hb hG hown hK hP dX9_restore_34 ?_
            refine lv_bipush (v := 26) hx hb dX9_restore_37 (by decide) ?_
            refine lv_iload_n hx hb dX9_restore_39 rfl (lv_at hl 1 rfl) ?_
            refine lv_imul hx hb dX9_restore_40 ?_
            refine lv_topi (fun x23 ex23 => ?_)
            have f24 : x23.toInt = 26 * p0.toInt := (ob_1166 (qi_mul ex23 zc_26 rfl (ob_1583 f11 f12) (ob_1584 f11 f12)))
            refine lv_iload_n hx hb dX9_restore_41 rfl (lv_at hl 2 rfl) ?_
            refine lv_iadd hx hb dX9_restore_42 ?_
            refine lv_topi (fun x25 ex25 => ?_)
            have f26 : x25.toInt = y22_2.toInt + 26 * p0.toInt := (ob_1169 (qi_add ex25 rfl rfl (ob_1167 f11 g22_0 f24) (ob_1585 f12 g22_1 f24)) f24)
            refine ldM_37 (mm := y22_2.toInt + 26 * p0.toInt) hx hb hK hP f26 (ob_1170 f11 g22_0) (ob_1586 f12 f22) dX9_restore_43 ?_
            refine stM_25 (mm := y22_2.toInt) hx hb hK hP hD hS rfl (ob_350 g22_0) (ob_809 f22) dX9_restore_44 (fun z28 H27 locs ez28 hP hD hS => ?_)
            have g29 : EW z28 := ez28 ▸ EW.updc gi22_all_p ie30 (ob_350 g22_0) (ob_1170 f11 g22_0) (ob_1202)
            obtain ⟨x30, ex30⟩ : ∃ y : Int32, y = y22_2 + Int32.ofInt 1 := ⟨_, rfl⟩
            have f31 : x30.toInt = y22_2.toInt + 1 := (ob_142 (qi_add ex30 rfl (by decide) (ob_140 g22_0) (ob_810 g22_1)))
            refine lv_iinc (v := x30) (lv' := [(2, .int x30), (0, .ref (r 0)), (1, .int p0)]) hx hb dX9_restore_45 hl (k := 2) rfl ex30.symm (by decide) rfl (fun ls hl => ?_)
            refine lv_goto (tgt := 22) hx hb dX9_restore_48 (by decide) ?_
            exact ih22 x30 z28 H27 _ _ (ob_149 g22_0 f31) (ob_811 f22 f31) g29 hP hD hS (lv_sub hl [1, 2, 0] rfl) (ob_812 hM22 f31)
      exact L22 (-1 * (0 : Int32).toInt + 26 + 1).toNat 0 f_all H3 _ _ (ob_1 zc_0) (ob_813 zc_0) ie27 hP hD hS (lv_sub hl [1, 2, 0] rfl) (mlt (ob_814 zc_0))
    · skip
      have f32 : x15.toInt = 0 := qi_eq c_16 rfl zc_0
      refine lv_iconst (v := (-1)) hx hb dX9_restore_18 (by decide) ?_
      rw [hQ]
      exact W.iret (v := (-1)) hx hb hr (fun t ht hW => ⟨⟨(-1), (-1), rfl, rfl, ⟨i_acts, i_undone, f_all, by rw [ht]; exact hP, hD, hI⟩⟩, hS.F ht⟩) hS.2.2 dX9_restore_19
set_option maxHeartbeats 4000000 in
set_option maxRecDepth 100000 in
theorem kX9_cartNow (l : Launch) (dC : Nat → ClassId) (dI : Nat → Nat → Nat) (r : Nat → Nat) (ct : Nat → ClassId) (i_taped i_size i_faultKind i_at i_end i_token i_number i_bank i_rb i_codes i_within i_piled i_unitsInRule i_askHouse i_askTune i_acts i_undone i_laid i_knowns i_time : Int32) (f_text f_tunes f_houses f_hums f_told f_many f_ruleFrom f_ruleTo f_code f_eWhat f_eSign f_all f_kept f_was f_sTune f_boxAll : Nat → Int32) (J : Nat → Nat → Int32) (L : Nat → Nat → Int64) (sz : Nat) (hI : (IM i_taped i_size i_faultKind i_at i_end i_bank i_rb i_acts i_undone i_laid i_knowns i_time f_tunes f_houses f_hums f_told f_many f_ruleFrom f_ruleTo f_code f_all f_kept f_was f_sTune f_boxAll)) : Met l yX9_cartNow (.code yX9_cartNow cX9_cartNow 3 (some .int) :: GW) { frames := 4, cells := 0, slots := 0, locals := 161 } (va_Pc [.ref (r 0)] (pR (dC, dI) (WM r ct i_taped i_size i_faultKind i_at i_end i_token i_number i_bank i_rb i_codes i_within i_piled i_unitsInRule i_askHouse i_askTune i_acts i_undone i_laid i_knowns i_time f_text f_tunes f_houses f_hums f_told f_many f_ruleFrom f_ruleTo f_code f_eWhat f_eSign f_all f_kept f_was f_sTune f_boxAll J L) (TM ct) sz)) (va_Qi (fun (r0 : Int32) (u : Int32) => r0 = u) (fun (u : Int32) (t : State) => True) (fun q => sz ≤ q)) 0 0 (fun q => sz ≤ q) := by
  refine Met.ofW (cc := cX9_cartNow) (maxL := 3) (ret := (some .int)) (by decide) rfl ?_
  intro p e s m args below meth c0 s₁ B hml hv
  obtain ⟨rfl, hsz, hP, hK⟩ := hv
  have hx := B.exec
  have hb := B.bytes
  have hr := B.returns
  have hts := atoms_spec (ws := .code yX9_cartNow cX9_cartNow 3 (some .int) :: GW) B.pre
  have hG : ∀ w ∈ GW, w.before _ s = true := fun w h => hts w (List.mem_cons_of_mem _ h)
  have hown : s.vm.findClass RX9 = some m.cls := findClass_of_methodNamed B.named
  subst hsz
  have hS : va_S (fun q => s.heap.size ≤ q) s.heap s.heap [] := va_S.rf
  have hP : va_P (dC, dI) vwCl (WM r ct i_taped i_size i_faultKind i_at i_end i_token i_number i_bank i_rb i_codes i_within i_piled i_unitsInRule i_askHouse i_askTune i_acts i_undone i_laid i_knowns i_time f_text f_tunes f_houses f_hums f_told f_many f_ruleFrom f_ruleTo f_code f_eWhat f_eSign f_all f_kept f_was f_sTune f_boxAll J L) s.heap := hP
  have hl := lv_entry ([.ref (r 0)]) (n := 3) (Nat.le_of_ble_eq_true rfl)
  rw [lg_entry_eq]
  generalize (lg_sl ([.ref (r 0)]) ++ List.replicate (3 - (lg_sl ([.ref (r 0)])).length) Slot.unset).toArray = ls at hl ⊢
  have hl : lv_has ls 3 [(0, .ref (r 0))] := hl
  refine nameQ (fun Q hQ => ?_)
  obtain ⟨ie0, ie1, ie2, ie3, ie4, ie5, ie6, ie7, ie8, ie9, ie10, ie11, ie12, ie13, ie14, ie15, ie16, ie17, ie18, ie19, ie20, ie21, ie22, ie23, ie24, ie25, ie26, ie27, ie28, ie29, ie30, ie31, ie32⟩ := id hI
  have f1 : 0 ≤ (f_tunes (i_bank.toInt).toNat).toInt ∧ (f_tunes (i_bank.toInt).toNat).toInt ≤ 5 := ie21 (i_bank.toInt)
  have f2 : 0 ≤ (f_houses (i_bank.toInt).toNat).toInt ∧ (f_houses (i_bank.toInt).toNat).toInt ≤ 4 := ie22 (i_bank.toInt)
  refine lv_iconst (v := 0) hx hb dX9_cartNow_0 (by decide) ?_
  refine lv_istore_n (lv' := [(1, .int 0), (0, .ref (r 0))]) hx hb dX9_cartNow_1 rfl hl (by decide) rfl (fun ls hl => ?_)
  refine lv_iconst (v := 0) hx hb dX9_cartNow_2 (by decide) ?_
  refine lv_istore_n (lv' := [(2, .int 0), (1, .int 0), (0, .ref (r 0))]) hx hb dX9_cartNow_3 rfl hl (by decide) rfl (fun ls hl => ?_)
  have L4 : ∀ (N4 : Nat) (y4_1 y4_2 : Int32) (H4 : Heap) (locs : List Loc) (ls : Array Slot) (g4_0 : (0 : Int) ≤ y4_2.toInt) (g4_1 : y4_2.toInt ≤ (5 : Int)) (hP : va_P (dC, dI) vwCl (WM r ct i_taped i_size i_faultKind i_at i_end i_token i_number i_bank i_rb i_codes i_within i_piled i_unitsInRule i_askHouse i_askTune i_acts i_undone i_laid i_knowns i_time f_text f_tunes f_houses f_hums f_told f_many f_ruleFrom f_ruleTo f_code f_eWhat f_eSign f_all f_kept f_was f_sTune f_boxAll J L) H4) (hS : va_S (fun q => s.heap.size ≤ q) s.heap H4 locs) (hl : lv_has ls 3 [(0, .ref (r 0)), (1, .int y4_1), (2, .int y4_2)]) (hM : -1 * y4_2.toInt + 5 < (N4 : Int)), W p l e { frames := 4, cells := 0, slots := 0, locals := 161 } s m ([.ref (r 0)] : List Value).toArray below meth c0 H4 locs 0 0 Q (F0 m 4 ls []) := by
    intro N4
    induction N4 with
    | zero =>
      intro y4_1 y4_2 H4 locs ls g4_0 g4_1 hP hS hl hM
      exact ((ob_777 hM g4_0 g4_1)).elim
    | succ N4 ih4 =>
      intro y4_1 y4_2 H4 locs ls g4_0 g4_1 hP hS hl hM
      have hM4 := msucc hM
      refine lv_iload_n hx hb dX9_cartNow_4 rfl (lv_at hl 2 rfl) ?_
      refine lv_aload_n hx hb dX9_cartNow_5 rfl (lv_at hl 0 rfl) ?_
      refine va_calli (va_runV (As := []) (rest := [.int y4_2]) ⟨hx, hb, hml, hown, hG⟩ (kX9_songs l dC dI r ct i_taped i_size i_faultKind i_at i_end i_token i_number i_bank i_rb i_codes i_within i_piled i_unitsInRule i_askHouse i_askTune i_acts i_undone i_laid i_knowns i_time f_text f_tunes f_houses f_hums f_told f_many f_ruleFrom f_ruleTo f_code f_eWhat f_eSign f_all f_kept f_was f_sTune f_boxAll J L H4.size hI) (cwV 0 hG (goodV gw1512 gw1514 gw86 gw138 gw1515) rfl rfl rfl hd_X9_songs ⟨(Nat.le_of_ble_eq_true rfl), (Nat.le_of_ble_eq_true rfl)⟩) ⟨fbR, va_recv hK hP (ci := 8) (q0 := 0) rfl rfl, pR_in hP hK⟩ rfl rfl hl.1 rfl (lv_room (Nat.le_of_ble_eq_true rfl)) dX9_cartNow_6 ⟨(Nat.le_of_ble_eq_true rfl), (Nat.le_of_ble_eq_true rfl)⟩) hS (fun q hq h => absurd hq (Nat.not_lt.mpr h)) (fun q h => Nat.le_trans hS.1 h) (fun r_4 u_ t_ H3 locs ht hvm hw hB hz1 hk1 hS => ?_)
      subst hw
      have hP := wk hP hk1
      have f5 := hB
      have f6 : r_4.toInt = (f_tunes (i_bank.toInt).toNat).toInt := (ob_6 f5)
      refine lv_icmp_ge (tgt := 32) hx hb dX9_cartNow_9 (by decide) (fun c_7 => ?_) (fun c_7 => ?_)
      · skip
        have f8 : r_4.toInt ≤ y4_2.toInt := qi_le c_7 rfl rfl
        refine lv_iload_n hx hb dX9_cartNow_32 rfl (lv_at hl 1 rfl) ?_
        rw [hQ]
        exact W.iret (v := y4_1) hx hb hr (fun t ht hW => ⟨⟨y4_1, y4_1, rfl, rfl, trivial⟩, hS.F ht⟩) hS.2.2 dX9_cartNow_33
      · skip
        have f9 : y4_2.toInt < r_4.toInt := qi_nle c_7 rfl rfl
        refine lv_aload_n hx hb dX9_cartNow_12 rfl (lv_at hl 0 rfl) ?_
        refine lv_iload_n hx hb dX9_cartNow_13 rfl (lv_at hl 2 rfl) ?_
        refine va_calli (va_runV (As := [.int y4_2]) (rest := []) ⟨hx, hb, hml, hown, hG⟩ (kX9_isOnCart l dC dI r ct i_taped i_size i_faultKind i_at i_end i_token i_number i_bank i_rb i_codes i_within i_piled i_unitsInRule i_askHouse i_askTune i_acts i_undone i_laid i_knowns i_time f_text f_tunes f_houses f_hums f_told f_many f_ruleFrom f_ruleTo f_code f_eWhat f_eSign f_all f_kept f_was f_sTune f_boxAll J L y4_2 H3.size hI (ob_139 g4_0) (ob_1054 f9 f6)) (cwV 1 hG (goodV gw1704 gw1706 gw111 gw138 gw1707) rfl rfl rfl hd_X9_isOnCart ⟨(Nat.le_of_ble_eq_true rfl), (Nat.le_of_ble_eq_true rfl)⟩) ⟨fbR, va_recv hK hP (ci := 8) (q0 := 0) rfl rfl, pR_in hP hK⟩ rfl rfl hl.1 rfl (lv_room (Nat.le_of_ble_eq_true rfl)) dX9_cartNow_14 ⟨(Nat.le_of_ble_eq_true rfl), (Nat.le_of_ble_eq_true rfl)⟩) hS (fun q hq h => absurd hq (Nat.not_lt.mpr h)) (fun q h => Nat.le_trans hS.1 h) (fun r_11 u_ t_ H10 locs ht hvm hw hB hz1 hk1 hS => ?_)
        subst hw
        have hP := wk hP hk1
        obtain ⟨f12, f13, f14⟩ := hB
        refine lv_if_eq (tgt := 26) hx hb dX9_cartNow_17 (by decide) (fun c_15 => ?_) (fun c_15 => ?_)
        · skip
          have f16 : r_11.toInt = 0 := qi_eq c_15 rfl zc_0
          have f17 : (f_all (y4_2.toInt).toNat).toInt + 1 ≠ (0 : Int) := (ob_1204 f12 f16)
          have f18 : r_11.toInt = (0 : Int) := (ob_226 f13 f14 f16)
          obtain ⟨x19, ex19⟩ : ∃ y : Int32, y = y4_2 + Int32.ofInt 1 := ⟨_, rfl⟩
          have f20 : x19.toInt = y4_2.toInt + 1 := (ob_142 (qi_add ex19 rfl (by decide) (ob_140 g4_0) (ob_804 g4_1)))
          refine lv_iinc (v := x19) (lv' := [(2, .int x19), (0, .ref (r 0)), (1, .int y4_1)]) hx hb dX9_cartNow_26 hl (k := 2) rfl ex19.symm (by decide) rfl (fun ls hl => ?_)
          refine lv_goto (tgt := 4) hx hb dX9_cartNow_29 (by decide) ?_
          exact ih4 y4_1 x19 H10 _ _ (ob_149 g4_0 f20) (ob_1047 f1 f9 f6 f20) hP hS (lv_sub hl [1, 2, 0] rfl) (ob_806 hM4 f20)
        · skip
          have f21 : r_11.toInt ≠ 0 := qi_ne c_15 rfl zc_0
          have f22 : (f_all (y4_2.toInt).toNat).toInt + 1 = (0 : Int) := (ob_1205 f12 f21)
          have f23 : r_11.toInt = (1 : Int) := (ob_1206 f12 f21)
          have f24 : (1 : Int) ≤ r_11.toInt := (ob_162 f13 f14 f23)
          refine lv_iload_n hx hb dX9_cartNow_20 rfl (lv_at hl 1 rfl) ?_
          refine lv_iconst (v := 1) hx hb dX9_cartNow_21 (by decide) ?_
          refine lv_iload_n hx hb dX9_cartNow_22 rfl (lv_at hl 2 rfl) ?_
          refine lv_ishl hx hb dX9_cartNow_23 ?_
          refine lv_topi (fun x25 ex25 => ?_)
          refine lv_ior hx hb dX9_cartNow_24 ?_
          refine lv_topi (fun x26 ex26 => ?_)
          refine lv_istore_n (lv' := [(1, .int x26), (0, .ref (r 0)), (2, .int y4_2)]) hx hb dX9_cartNow_25 rfl hl (by decide) rfl (fun ls hl => ?_)
          obtain ⟨x27, ex27⟩ : ∃ y : Int32, y = y4_2 + Int32.ofInt 1 := ⟨_, rfl⟩
          have f28 : x27.toInt = y4_2.toInt + 1 := (ob_142 (qi_add ex27 rfl (by decide) (ob_140 g4_0) (ob_804 g4_1)))
          refine lv_iinc (v := x27) (lv' := [(2, .int x27), (1, .int x26), (0, .ref (r 0))]) hx hb dX9_cartNow_26 hl (k := 2) rfl ex27.symm (by decide) rfl (fun ls hl => ?_)
          refine lv_goto (tgt := 4) hx hb dX9_cartNow_29 (by decide) ?_
          exact ih4 x26 x27 H10 _ _ (ob_149 g4_0 f28) (ob_1047 f1 f9 f6 f28) hP hS (lv_sub hl [2, 1, 0] rfl) (ob_806 hM4 f28)
  exact L4 (-1 * (0 : Int32).toInt + 5 + 1).toNat 0 0 s.heap _ _ (ob_1 zc_0) (ob_807 zc_0) hP hS (lv_sub hl [2, 1, 0] rfl) (mlt (ob_808 zc_0))
set_option maxHeartbeats 4000000 in
set_option maxRecDepth 100000 in
theorem kX9_paidNow (l : Launch) (dC : Nat → ClassId) (dI : Nat → Nat → Nat) (r : Nat → Nat) (ct : Nat → ClassId) (i_taped i_size i_faultKind i_at i_end i_token i_number i_bank i_rb i_codes i_within i_piled i_unitsInRule i_askHouse i_askTune i_acts i_undone i_laid i_knowns i_time : Int32) (f_text f_tunes f_houses f_hums f_told f_many f_ruleFrom f_ruleTo f_code f_eWhat f_eSign f_all f_kept f_was f_sTune f_boxAll : Nat → Int32) (J : Nat → Nat → Int32) (L : Nat → Nat → Int64) (sz : Nat) (hI : (IM i_taped i_size i_faultKind i_at i_end i_bank i_rb i_acts i_undone i_laid i_knowns i_time f_tunes f_houses f_hums f_told f_many f_ruleFrom f_ruleTo f_code f_all f_kept f_was f_sTune f_boxAll)) : Met l yX9_paidNow (.code yX9_paidNow cX9_paidNow 3 (some .int) :: GW) { frames := 4, cells := 0, slots := 0, locals := 160 } (va_Pc [.ref (r 0)] (pR (dC, dI) (WM r ct i_taped i_size i_faultKind i_at i_end i_token i_number i_bank i_rb i_codes i_within i_piled i_unitsInRule i_askHouse i_askTune i_acts i_undone i_laid i_knowns i_time f_text f_tunes f_houses f_hums f_told f_many f_ruleFrom f_ruleTo f_code f_eWhat f_eSign f_all f_kept f_was f_sTune f_boxAll J L) (TM ct) sz)) (va_Qi (fun (r0 : Int32) (u : Int32) => r0 = u) (fun (u : Int32) (t : State) => True) (fun q => sz ≤ q)) 0 0 (fun q => sz ≤ q) := by
  refine Met.ofW (cc := cX9_paidNow) (maxL := 3) (ret := (some .int)) (by decide) rfl ?_
  intro p e s m args below meth c0 s₁ B hml hv
  obtain ⟨rfl, hsz, hP, hK⟩ := hv
  have hx := B.exec
  have hb := B.bytes
  have hr := B.returns
  have hts := atoms_spec (ws := .code yX9_paidNow cX9_paidNow 3 (some .int) :: GW) B.pre
  have hG : ∀ w ∈ GW, w.before _ s = true := fun w h => hts w (List.mem_cons_of_mem _ h)
  have hown : s.vm.findClass RX9 = some m.cls := findClass_of_methodNamed B.named
  subst hsz
  have hS : va_S (fun q => s.heap.size ≤ q) s.heap s.heap [] := va_S.rf
  have hP : va_P (dC, dI) vwCl (WM r ct i_taped i_size i_faultKind i_at i_end i_token i_number i_bank i_rb i_codes i_within i_piled i_unitsInRule i_askHouse i_askTune i_acts i_undone i_laid i_knowns i_time f_text f_tunes f_houses f_hums f_told f_many f_ruleFrom f_ruleTo f_code f_eWhat f_eSign f_all f_kept f_was f_sTune f_boxAll J L) s.heap := hP
  have hl := lv_entry ([.ref (r 0)]) (n := 3) (Nat.le_of_ble_eq_true rfl)
  rw [lg_entry_eq]
  generalize (lg_sl ([.ref (r 0)]) ++ List.replicate (3 - (lg_sl ([.ref (r 0)])).length) Slot.unset).toArray = ls at hl ⊢
  have hl : lv_has ls 3 [(0, .ref (r 0))] := hl
  refine nameQ (fun Q hQ => ?_)
  obtain ⟨ie0, ie1, ie2, ie3, ie4, ie5, ie6, ie7, ie8, ie9, ie10, ie11, ie12, ie13, ie14, ie15, ie16, ie17, ie18, ie19, ie20, ie21, ie22, ie23, ie24, ie25, ie26, ie27, ie28, ie29, ie30, ie31, ie32⟩ := id hI
  have f1 : 0 ≤ (f_tunes (i_bank.toInt).toNat).toInt ∧ (f_tunes (i_bank.toInt).toNat).toInt ≤ 5 := ie21 (i_bank.toInt)
  have f2 : 0 ≤ (f_houses (i_bank.toInt).toNat).toInt ∧ (f_houses (i_bank.toInt).toNat).toInt ≤ 4 := ie22 (i_bank.toInt)
  refine lv_iconst (v := 0) hx hb dX9_paidNow_0 (by decide) ?_
  refine lv_istore_n (lv' := [(1, .int 0), (0, .ref (r 0))]) hx hb dX9_paidNow_1 rfl hl (by decide) rfl (fun ls hl => ?_)
  refine lv_iconst (v := 0) hx hb dX9_paidNow_2 (by decide) ?_
  refine lv_istore_n (lv' := [(2, .int 0), (1, .int 0), (0, .ref (r 0))]) hx hb dX9_paidNow_3 rfl hl (by decide) rfl (fun ls hl => ?_)
  have L4 : ∀ (N4 : Nat) (y4_1 y4_2 : Int32) (H4 : Heap) (locs : List Loc) (ls : Array Slot) (g4_0 : (0 : Int) ≤ y4_2.toInt) (g4_1 : y4_2.toInt ≤ (5 : Int)) (hP : va_P (dC, dI) vwCl (WM r ct i_taped i_size i_faultKind i_at i_end i_token i_number i_bank i_rb i_codes i_within i_piled i_unitsInRule i_askHouse i_askTune i_acts i_undone i_laid i_knowns i_time f_text f_tunes f_houses f_hums f_told f_many f_ruleFrom f_ruleTo f_code f_eWhat f_eSign f_all f_kept f_was f_sTune f_boxAll J L) H4) (hS : va_S (fun q => s.heap.size ≤ q) s.heap H4 locs) (hl : lv_has ls 3 [(0, .ref (r 0)), (1, .int y4_1), (2, .int y4_2)]) (hM : -1 * y4_2.toInt + 5 < (N4 : Int)), W p l e { frames := 4, cells := 0, slots := 0, locals := 160 } s m ([.ref (r 0)] : List Value).toArray below meth c0 H4 locs 0 0 Q (F0 m 4 ls []) := by
    intro N4
    induction N4 with
    | zero =>
      intro y4_1 y4_2 H4 locs ls g4_0 g4_1 hP hS hl hM
      exact ((ob_777 hM g4_0 g4_1)).elim
    | succ N4 ih4 =>
      intro y4_1 y4_2 H4 locs ls g4_0 g4_1 hP hS hl hM
      have hM4 := msucc hM
      refine lv_iload_n hx hb dX9_paidNow_4 rfl (lv_at hl 2 rfl) ?_
      refine lv_aload_n hx hb dX9_paidNow_5 rfl (lv_at hl 0 rfl) ?_
      refine va_calli (va_runV (As := []) (rest := [.int y4_2]) ⟨hx, hb, hml, hown, hG⟩ (kX9_songs l dC dI r ct i_taped i_size i_faultKind i_at i_end i_token i_number i_bank i_rb i_codes i_within i_piled i_unitsInRule i_askHouse i_askTune i_acts i_undone i_laid i_knowns i_time f_text f_tunes f_houses f_hums f_told f_many f_ruleFrom f_ruleTo f_code f_eWhat f_eSign f_all f_kept f_was f_sTune f_boxAll J L H4.size hI) (cwV 0 hG (goodV gw1512 gw1514 gw86 gw138 gw1515) rfl rfl rfl hd_X9_songs ⟨(Nat.le_of_ble_eq_true rfl), (Nat.le_of_ble_eq_true rfl)⟩) ⟨fbR, va_recv hK hP (ci := 8) (q0 := 0) rfl rfl, pR_in hP hK⟩ rfl rfl hl.1 rfl (lv_room (Nat.le_of_ble_eq_true rfl)) dX9_paidNow_6 ⟨(Nat.le_of_ble_eq_true rfl), (Nat.le_of_ble_eq_true rfl)⟩) hS (fun q hq h => absurd hq (Nat.not_lt.mpr h)) (fun q h => Nat.le_trans hS.1 h) (fun r_4 u_ t_ H3 locs ht hvm hw hB hz1 hk1 hS => ?_)
      subst hw
      have hP := wk hP hk1
      have f5 := hB
      have f6 : r_4.toInt = (f_tunes (i_bank.toInt).toNat).toInt := (ob_6 f5)
      refine lv_icmp_ge (tgt := 31) hx hb dX9_paidNow_9 (by decide) (fun c_7 => ?_) (fun c_7 => ?_)
      · skip
        have f8 : r_4.toInt ≤ y4_2.toInt := qi_le c_7 rfl rfl
        refine lv_iload_n hx hb dX9_paidNow_31 rfl (lv_at hl 1 rfl) ?_
        rw [hQ]
        exact W.iret (v := y4_1) hx hb hr (fun t ht hW => ⟨⟨y4_1, y4_1, rfl, rfl, trivial⟩, hS.F ht⟩) hS.2.2 dX9_paidNow_32
      · skip
        have f9 : y4_2.toInt < r_4.toInt := qi_nle c_7 rfl rfl
        refine lv_iload_n hx hb dX9_paidNow_12 rfl (lv_at hl 1 rfl) ?_
        refine lv_aload_n hx hb dX9_paidNow_13 rfl (lv_at hl 0 rfl) ?_
        refine gM_X9_88_0 hx hb hG hown hK hP dX9_paidNow_14 ?_
        refine lv_iconst (v := 5) hx hb dX9_paidNow_17 (by decide) ?_
        refine lv_iload_n hx hb dX9_paidNow_18 rfl (lv_at hl 2 rfl) ?_
        refine lv_iadd hx hb dX9_paidNow_19 ?_
        refine lv_topi (fun x10 ex10 => ?_)
        have f11 : x10.toInt = y4_2.toInt + 5 := (ob_1036 (qi_add ex10 zc_5 rfl (ob_1049 g4_0) (ob_1050 g4_1)))
        refine ldM_25 (mm := y4_2.toInt + 5) hx hb hK hP f11 (ob_1051 g4_0) (ob_1052 g4_1) dX9_paidNow_20 ?_
        refine lv_iload_n hx hb dX9_paidNow_21 rfl (lv_at hl 2 rfl) ?_
        refine lv_ishl hx hb dX9_paidNow_22 ?_
        refine lv_topi (fun x12 ex12 => ?_)
        refine lv_ior hx hb dX9_paidNow_23 ?_
        refine lv_topi (fun x13 ex13 => ?_)
        refine lv_istore_n (lv' := [(1, .int x13), (0, .ref (r 0)), (2, .int y4_2)]) hx hb dX9_paidNow_24 rfl hl (by decide) rfl (fun ls hl => ?_)
        obtain ⟨x14, ex14⟩ : ∃ y : Int32, y = y4_2 + Int32.ofInt 1 := ⟨_, rfl⟩
        have f15 : x14.toInt = y4_2.toInt + 1 := (ob_142 (qi_add ex14 rfl (by decide) (ob_140 g4_0) (ob_804 g4_1)))
        refine lv_iinc (v := x14) (lv' := [(2, .int x14), (1, .int x13), (0, .ref (r 0))]) hx hb dX9_paidNow_25 hl (k := 2) rfl ex14.symm (by decide) rfl (fun ls hl => ?_)
        refine lv_goto (tgt := 4) hx hb dX9_paidNow_28 (by decide) ?_
        exact ih4 x13 x14 H3 _ _ (ob_149 g4_0 f15) (ob_1047 f1 f9 f6 f15) hP hS (lv_sub hl [2, 1, 0] rfl) (ob_806 hM4 f15)
  exact L4 (-1 * (0 : Int32).toInt + 5 + 1).toNat 0 0 s.heap _ _ (ob_1 zc_0) (ob_807 zc_0) hP hS (lv_sub hl [2, 1, 0] rfl) (mlt (ob_808 zc_0))
set_option maxHeartbeats 4000000 in
set_option maxRecDepth 100000 in
theorem kX9_about (l : Launch) (dC : Nat → ClassId) (dI : Nat → Nat → Nat) (r : Nat → Nat) (ct : Nat → ClassId) (i_taped i_size i_faultKind i_at i_end i_token i_number i_bank i_rb i_codes i_within i_piled i_unitsInRule i_askHouse i_askTune i_acts i_undone i_laid i_knowns i_time : Int32) (f_text f_tunes f_houses f_hums f_told f_many f_ruleFrom f_ruleTo f_code f_eWhat f_eSign f_all f_kept f_was f_sTune f_boxAll : Nat → Int32) (J : Nat → Nat → Int32) (L : Nat → Nat → Int64) (p0 : Int32) (sz : Nat) (hI : (IM i_taped i_size i_faultKind i_at i_end i_bank i_rb i_acts i_undone i_laid i_knowns i_time f_tunes f_houses f_hums f_told f_many f_ruleFrom f_ruleTo f_code f_all f_kept f_was f_sTune f_boxAll)) : Met l yX9_about (.code yX9_about cX9_about 2 (some .int) :: GW) { frames := 6, cells := 0, slots := 0, locals := 223 } (va_Pc [.ref (r 0), .int p0] (pR (dC, dI) (WM r ct i_taped i_size i_faultKind i_at i_end i_token i_number i_bank i_rb i_codes i_within i_piled i_unitsInRule i_askHouse i_askTune i_acts i_undone i_laid i_knowns i_time f_text f_tunes f_houses f_hums f_told f_many f_ruleFrom f_ruleTo f_code f_eWhat f_eSign f_all f_kept f_was f_sTune f_boxAll J L) (TM ct) sz)) (va_Qi (fun (r0 : Int32) (u : Int32) => r0 = u) (fun (u : Int32) (t : State) => True) (fun q => sz ≤ q)) 0 0 (fun q => sz ≤ q) := by
  refine Met.ofW (cc := cX9_about) (maxL := 2) (ret := (some .int)) (by decide) rfl ?_
  intro p e s m args below meth c0 s₁ B hml hv
  obtain ⟨rfl, hsz, hP, hK⟩ := hv
  have hx := B.exec
  have hb := B.bytes
  have hr := B.returns
  have hts := atoms_spec (ws := .code yX9_about cX9_about 2 (some .int) :: GW) B.pre
  have hG : ∀ w ∈ GW, w.before _ s = true := fun w h => hts w (List.mem_cons_of_mem _ h)
  have hown : s.vm.findClass RX9 = some m.cls := findClass_of_methodNamed B.named
  subst hsz
  have hS : va_S (fun q => s.heap.size ≤ q) s.heap s.heap [] := va_S.rf
  have hP : va_P (dC, dI) vwCl (WM r ct i_taped i_size i_faultKind i_at i_end i_token i_number i_bank i_rb i_codes i_within i_piled i_unitsInRule i_askHouse i_askTune i_acts i_undone i_laid i_knowns i_time f_text f_tunes f_houses f_hums f_told f_many f_ruleFrom f_ruleTo f_code f_eWhat f_eSign f_all f_kept f_was f_sTune f_boxAll J L) s.heap := hP
  have hl := lv_entry ([.ref (r 0), .int p0]) (n := 2) (Nat.le_of_ble_eq_true rfl)
  rw [lg_entry_eq]
  generalize (lg_sl ([.ref (r 0), .int p0]) ++ List.replicate (2 - (lg_sl ([.ref (r 0), .int p0])).length) Slot.unset).toArray = ls at hl ⊢
  have hl : lv_has ls 2 [(0, .ref (r 0)), (1, .int p0)] := hl
  refine nameQ (fun Q hQ => ?_)
  obtain ⟨ie0, ie1, ie2, ie3, ie4, ie5, ie6, ie7, ie8, ie9, ie10, ie11, ie12, ie13, ie14, ie15, ie16, ie17, ie18, ie19, ie20, ie21, ie22, ie23, ie24, ie25, ie26, ie27, ie28, ie29, ie30, ie31, ie32⟩ := id hI
  have f1 : 0 ≤ (f_tunes (i_bank.toInt).toNat).toInt ∧ (f_tunes (i_bank.toInt).toNat).toInt ≤ 5 := ie21 (i_bank.toInt)
  have f2 : 0 ≤ (f_houses (i_bank.toInt).toNat).toInt ∧ (f_houses (i_bank.toInt).toNat).toInt ≤ 4 := ie22 (i_bank.toInt)
  refine lv_iload_n hx hb dX9_about_0 rfl (lv_at hl 1 rfl) ?_
  rcases ts_0_14 p0 with hs3 | hs3 | hs3 | hs3 | hs3 | hs3 | hs3 | hs3 | hs3 | hs3 | hs3 | hs3 | hs3 | hs3 | hs3 | hs3
  · skip
    refine lv_tableOut (tgt := 172) hx hb dX9_about_1 hs3 (by decide) ?_
    refine lv_iconst (v := (-1)) hx hb dX9_about_172 (by decide) ?_
    rw [hQ]
    exact W.iret (v := (-1)) hx hb hr (fun t ht hW => ⟨⟨(-1), (-1), rfl, rfl, trivial⟩, hS.F ht⟩) hS.2.2 dX9_about_173
  · skip
    refine lv_tableIn (off := 75) (tgt := 76) hx hb dX9_about_1 (by rw [hs3]; decide) (by rw [hs3]; decide) (by rw [hs3]; decide) (by decide) ?_
    have f4 : p0.toInt = 0 := qi_eq hs3 rfl zc_0
    refine lv_aload_n hx hb dX9_about_76 rfl (lv_at hl 0 rfl) ?_
    refine va_calli (va_runV (As := []) (rest := []) ⟨hx, hb, hml, hown, hG⟩ (kX9_homes l dC dI r ct i_taped i_size i_faultKind i_at i_end i_token i_number i_bank i_rb i_codes i_within i_piled i_unitsInRule i_askHouse i_askTune i_acts i_undone i_laid i_knowns i_time f_text f_tunes f_houses f_hums f_told f_many f_ruleFrom f_ruleTo f_code f_eWhat f_eSign f_all f_kept f_was f_sTune f_boxAll J L s.heap.size hI) (cwV 0 hG (goodV gw1167 gw1169 gw58 gw138 gw1170) rfl rfl rfl hd_X9_homes ⟨(Nat.le_of_ble_eq_true rfl), (Nat.le_of_ble_eq_true rfl)⟩) ⟨fbR, va_recv hK hP (ci := 8) (q0 := 0) rfl rfl, pR_in hP hK⟩ rfl rfl hl.1 rfl (lv_room (Nat.le_of_ble_eq_true rfl)) dX9_about_77 ⟨(Nat.le_of_ble_eq_true rfl), (Nat.le_of_ble_eq_true rfl)⟩) hS (fun q hq h => absurd hq (Nat.not_lt.mpr h)) (fun q h => Nat.le_trans hS.1 h) (fun r_6 u_ t_ H5 locs ht hvm hw hB hz1 hk1 hS => ?_)
    subst hw
    have hP := wk hP hk1
    have f7 := hB
    have f8 : r_6.toInt = (f_houses (i_bank.toInt).toNat).toInt := (ob_6 f7)
    rw [hQ]
    exact W.iret (v := r_6) hx hb hr (fun t ht hW => ⟨⟨r_6, r_6, rfl, rfl, trivial⟩, hS.F ht⟩) hS.2.2 dX9_about_80
  · skip
    refine lv_tableIn (off := 80) (tgt := 81) hx hb dX9_about_1 (by rw [hs3]; decide) (by rw [hs3]; decide) (by rw [hs3]; decide) (by decide) ?_
    have f9 : p0.toInt = 1 := qi_eq hs3 rfl zc_1
    refine lv_aload_n hx hb dX9_about_81 rfl (lv_at hl 0 rfl) ?_
    refine va_calli (va_runV (As := []) (rest := []) ⟨hx, hb, hml, hown, hG⟩ (kX9_songs l dC dI r ct i_taped i_size i_faultKind i_at i_end i_token i_number i_bank i_rb i_codes i_within i_piled i_unitsInRule i_askHouse i_askTune i_acts i_undone i_laid i_knowns i_time f_text f_tunes f_houses f_hums f_told f_many f_ruleFrom f_ruleTo f_code f_eWhat f_eSign f_all f_kept f_was f_sTune f_boxAll J L s.heap.size hI) (cwV 0 hG (goodV gw1512 gw1514 gw86 gw138 gw1515) rfl rfl rfl hd_X9_songs ⟨(Nat.le_of_ble_eq_true rfl), (Nat.le_of_ble_eq_true rfl)⟩) ⟨fbR, va_recv hK hP (ci := 8) (q0 := 0) rfl rfl, pR_in hP hK⟩ rfl rfl hl.1 rfl (lv_room (Nat.le_of_ble_eq_true rfl)) dX9_about_82 ⟨(Nat.le_of_ble_eq_true rfl), (Nat.le_of_ble_eq_true rfl)⟩) hS (fun q hq h => absurd hq (Nat.not_lt.mpr h)) (fun q h => Nat.le_trans hS.1 h) (fun r_11 u_ t_ H10 locs ht hvm hw hB hz1 hk1 hS => ?_)
    subst hw
    have hP := wk hP hk1
    have f12 := hB
    have f13 : r_11.toInt = (f_tunes (i_bank.toInt).toNat).toInt := (ob_6 f12)
    rw [hQ]
    exact W.iret (v := r_11) hx hb hr (fun t ht hW => ⟨⟨r_11, r_11, rfl, rfl, trivial⟩, hS.F ht⟩) hS.2.2 dX9_about_85
  · skip
    refine lv_tableIn (off := 85) (tgt := 86) hx hb dX9_about_1 (by rw [hs3]; decide) (by rw [hs3]; decide) (by rw [hs3]; decide) (by decide) ?_
    have f14 : p0.toInt = 2 := qi_eq hs3 rfl zc_2
    refine lv_aload_n hx hb dX9_about_86 rfl (lv_at hl 0 rfl) ?_
    refine gM_X9_20_0 hx hb hG hown hK hP dX9_about_87 ?_
    refine lv_aload_n hx hb dX9_about_90 rfl (lv_at hl 0 rfl) ?_
    refine gM_X9_249_0 hx hb hG hown hK hP dX9_about_91 ?_
    refine ldM_3 (mm := i_bank.toInt) hx hb hK hP rfl (ob_263 ie4 ie5) (ob_264 ie4 ie5) dX9_about_94 (fun x15 => ?_)
    rw [hQ]
    exact W.iret (v := x15) hx hb hr (fun t ht hW => ⟨⟨x15, x15, rfl, rfl, trivial⟩, hS.F ht⟩) hS.2.2 dX9_about_95
  · skip
    refine lv_tableIn (off := 95) (tgt := 96) hx hb dX9_about_1 (by rw [hs3]; decide) (by rw [hs3]; decide) (by rw [hs3]; decide) (by decide) ?_
    have f16 : p0.toInt = 3 := qi_eq hs3 rfl zc_3
    refine lv_aload_n hx hb dX9_about_96 rfl (lv_at hl 0 rfl) ?_
    refine va_calli (va_runV (As := []) (rest := []) ⟨hx, hb, hml, hown, hG⟩ (kX9_cartNow l dC dI r ct i_taped i_size i_faultKind i_at i_end i_token i_number i_bank i_rb i_codes i_within i_piled i_unitsInRule i_askHouse i_askTune i_acts i_undone i_laid i_knowns i_time f_text f_tunes f_houses f_hums f_told f_many f_ruleFrom f_ruleTo f_code f_eWhat f_eSign f_all f_kept f_was f_sTune f_boxAll J L s.heap.size hI) (cwV 0 hG (goodV gw1873 gw1875 gw126 gw138 gw1876) rfl rfl rfl hd_X9_cartNow ⟨(Nat.le_of_ble_eq_true rfl), (Nat.le_of_ble_eq_true rfl)⟩) ⟨fbR, va_recv hK hP (ci := 8) (q0 := 0) rfl rfl, pR_in hP hK⟩ rfl rfl hl.1 rfl (lv_room (Nat.le_of_ble_eq_true rfl)) dX9_about_97 ⟨(Nat.le_of_ble_eq_true rfl), (Nat.le_of_ble_eq_true rfl)⟩) hS (fun q hq h => absurd hq (Nat.not_lt.mpr h)) (fun q h => Nat.le_trans hS.1 h) (fun r_18 u_ t_ H17 locs ht hvm hw hB hz1 hk1 hS => ?_)
    subst hw
    have hP := wk hP hk1
    rw [hQ]
    exact W.iret (v := r_18) hx hb hr (fun t ht hW => ⟨⟨r_18, r_18, rfl, rfl, trivial⟩, hS.F ht⟩) hS.2.2 dX9_about_100
  · skip
    refine lv_tableIn (off := 100) (tgt := 101) hx hb dX9_about_1 (by rw [hs3]; decide) (by rw [hs3]; decide) (by rw [hs3]; decide) (by decide) ?_
    have f19 : p0.toInt = 4 := qi_eq hs3 rfl zc_4
    refine lv_aload_n hx hb dX9_about_101 rfl (lv_at hl 0 rfl) ?_
    refine va_calli (va_runV (As := []) (rest := []) ⟨hx, hb, hml, hown, hG⟩ (kX9_paidNow l dC dI r ct i_taped i_size i_faultKind i_at i_end i_token i_number i_bank i_rb i_codes i_within i_piled i_unitsInRule i_askHouse i_askTune i_acts i_undone i_laid i_knowns i_time f_text f_tunes f_houses f_hums f_told f_many f_ruleFrom f_ruleTo f_code f_eWhat f_eSign f_all f_kept f_was f_sTune f_boxAll J L s.heap.size hI) (cwV 0 hG (goodV gw1877 gw1879 gw127 gw138 gw1880) rfl rfl rfl hd_X9_paidNow ⟨(Nat.le_of_ble_eq_true rfl), (Nat.le_of_ble_eq_true rfl)⟩) ⟨fbR, va_recv hK hP (ci := 8) (q0 := 0) rfl rfl, pR_in hP hK⟩ rfl rfl hl.1 rfl (lv_room (Nat.le_of_ble_eq_true rfl)) dX9_about_102 ⟨(Nat.le_of_ble_eq_true rfl), (Nat.le_of_ble_eq_true rfl)⟩) hS (fun q hq h => absurd hq (Nat.not_lt.mpr h)) (fun q h => Nat.le_trans hS.1 h) (fun r_21 u_ t_ H20 locs ht hvm hw hB hz1 hk1 hS => ?_)
    subst hw
    have hP := wk hP hk1
    rw [hQ]
    exact W.iret (v := r_21) hx hb hr (fun t ht hW => ⟨⟨r_21, r_21, rfl, rfl, trivial⟩, hS.F ht⟩) hS.2.2 dX9_about_105
  · skip
    refine lv_tableIn (off := 105) (tgt := 106) hx hb dX9_about_1 (by rw [hs3]; decide) (by rw [hs3]; decide) (by rw [hs3]; decide) (by decide) ?_
    have f22 : p0.toInt = 5 := qi_eq hs3 rfl zc_5
    refine lv_aload_n hx hb dX9_about_106 rfl (lv_at hl 0 rfl) ?_
    refine gM_X9_88_0 hx hb hG hown hK hP dX9_about_107 ?_
    refine lv_bipush (v := 24) hx hb dX9_about_110 (by decide) ?_
    refine ldM_25 (mm := (24 : Int)) hx hb hK hP zc_24 (ob_1079) (ob_1080) dX9_about_112 ?_
    rw [hQ]
    exact W.iret (v := (f_all ((24 : Int)).toNat)) hx hb hr (fun t ht hW => ⟨⟨(f_all ((24 : Int)).toNat), (f_all ((24 : Int)).toNat), rfl, rfl, trivial⟩, hS.F ht⟩) hS.2.2 dX9_about_113
  · skip
    refine lv_tableIn (off := 113) (tgt := 114) hx hb dX9_about_1 (by rw [hs3]; decide) (by rw [hs3]; decide) (by rw [hs3]; decide) (by decide) ?_
    have f23 : p0.toInt = 6 := qi_eq hs3 rfl zc_6
    refine lv_aload_n hx hb dX9_about_114 rfl (lv_at hl 0 rfl) ?_
    refine gM_X9_88_0 hx hb hG hown hK hP dX9_about_115 ?_
    refine lv_bipush (v := 25) hx hb dX9_about_118 (by decide) ?_
    refine ldM_25 (mm := (25 : Int)) hx hb hK hP zc_25 (ob_779) (ob_780) dX9_about_120 ?_
    rw [hQ]
    exact W.iret (v := (f_all ((25 : Int)).toNat)) hx hb hr (fun t ht hW => ⟨⟨(f_all ((25 : Int)).toNat), (f_all ((25 : Int)).toNat), rfl, rfl, trivial⟩, hS.F ht⟩) hS.2.2 dX9_about_121
  · skip
    refine lv_tableIn (off := 121) (tgt := 122) hx hb dX9_about_1 (by rw [hs3]; decide) (by rw [hs3]; decide) (by rw [hs3]; decide) (by decide) ?_
    have f24 : p0.toInt = 7 := qi_eq hs3 rfl zc_7
    refine lv_aload_n hx hb dX9_about_122 rfl (lv_at hl 0 rfl) ?_
    refine gM_X9_364_0 hx hb hG hown hK hP dX9_about_123 ?_
    rw [hQ]
    exact W.iret (v := i_acts) hx hb hr (fun t ht hW => ⟨⟨i_acts, i_acts, rfl, rfl, trivial⟩, hS.F ht⟩) hS.2.2 dX9_about_126
  · skip
    refine lv_tableIn (off := 126) (tgt := 127) hx hb dX9_about_1 (by rw [hs3]; decide) (by rw [hs3]; decide) (by rw [hs3]; decide) (by decide) ?_
    have f25 : p0.toInt = 8 := qi_eq hs3 rfl zc_8
    refine lv_aload_n hx hb dX9_about_127 rfl (lv_at hl 0 rfl) ?_
    refine gM_X9_367_0 hx hb hG hown hK hP dX9_about_128 ?_
    rw [hQ]
    exact W.iret (v := i_undone) hx hb hr (fun t ht hW => ⟨⟨i_undone, i_undone, rfl, rfl, trivial⟩, hS.F ht⟩) hS.2.2 dX9_about_131
  · skip
    refine lv_tableIn (off := 131) (tgt := 132) hx hb dX9_about_1 (by rw [hs3]; decide) (by rw [hs3]; decide) (by rw [hs3]; decide) (by decide) ?_
    have f26 : p0.toInt = 9 := qi_eq hs3 rfl zc_9
    refine lv_aload_n hx hb dX9_about_132 rfl (lv_at hl 0 rfl) ?_
    refine gM_X9_370_0 hx hb hG hown hK hP dX9_about_133 ?_
    rw [hQ]
    exact W.iret (v := i_knowns) hx hb hr (fun t ht hW => ⟨⟨i_knowns, i_knowns, rfl, rfl, trivial⟩, hS.F ht⟩) hS.2.2 dX9_about_136
  · skip
    refine lv_tableIn (off := 136) (tgt := 137) hx hb dX9_about_1 (by rw [hs3]; decide) (by rw [hs3]; decide) (by rw [hs3]; decide) (by decide) ?_
    have f27 : p0.toInt = 10 := qi_eq hs3 rfl zc_10
    refine lv_aload_n hx hb dX9_about_137 rfl (lv_at hl 0 rfl) ?_
    refine gM_X9_492_0 hx hb hG hown hK hP dX9_about_138 ?_
    rw [hQ]
    exact W.iret (v := i_time) hx hb hr (fun t ht hW => ⟨⟨i_time, i_time, rfl, rfl, trivial⟩, hS.F ht⟩) hS.2.2 dX9_about_141
  · skip
    refine lv_tableIn (off := 141) (tgt := 142) hx hb dX9_about_1 (by rw [hs3]; decide) (by rw [hs3]; decide) (by rw [hs3]; decide) (by decide) ?_
    have f28 : p0.toInt = 11 := qi_eq hs3 rfl zc_11
    refine lv_aload_n hx hb dX9_about_142 rfl (lv_at hl 0 rfl) ?_
    refine gM_X9_246_0 hx hb hG hown hK hP dX9_about_143 ?_
    rw [hQ]
    exact W.iret (v := i_taped) hx hb hr (fun t ht hW => ⟨⟨i_taped, i_taped, rfl, rfl, trivial⟩, hS.F ht⟩) hS.2.2 dX9_about_146
  · skip
    refine lv_tableIn (off := 146) (tgt := 147) hx hb dX9_about_1 (by rw [hs3]; decide) (by rw [hs3]; decide) (by rw [hs3]; decide) (by decide) ?_
    have f29 : p0.toInt = 12 := qi_eq hs3 rfl zc_12
    refine lv_aload_n hx hb dX9_about_147 rfl (lv_at hl 0 rfl) ?_
    refine gM_X9_30_0 hx hb hG hown hK hP dX9_about_148 ?_
    refine lv_aload_n hx hb dX9_about_151 rfl (lv_at hl 0 rfl) ?_
    refine gM_X9_249_0 hx hb hG hown hK hP dX9_about_152 ?_
    refine ldM_6 (mm := i_bank.toInt) hx hb hK hP rfl (ob_263 ie4 ie5) (ob_264 ie4 ie5) dX9_about_155 (fun x30 => ?_)
    rw [hQ]
    exact W.iret (v := x30) hx hb hr (fun t ht hW => ⟨⟨x30, x30, rfl, rfl, trivial⟩, hS.F ht⟩) hS.2.2 dX9_about_156
  · skip
    refine lv_tableIn (off := 156) (tgt := 157) hx hb dX9_about_1 (by rw [hs3]; decide) (by rw [hs3]; decide) (by rw [hs3]; decide) (by decide) ?_
    have f31 : p0.toInt = 13 := qi_eq hs3 rfl zc_13
    refine lv_aload_n hx hb dX9_about_157 rfl (lv_at hl 0 rfl) ?_
    refine gM_X9_373_0 hx hb hG hown hK hP dX9_about_158 ?_
    rw [hQ]
    exact W.iret (v := i_laid) hx hb hr (fun t ht hW => ⟨⟨i_laid, i_laid, rfl, rfl, trivial⟩, hS.F ht⟩) hS.2.2 dX9_about_161
  · skip
    refine lv_tableIn (off := 161) (tgt := 162) hx hb dX9_about_1 (by rw [hs3]; decide) (by rw [hs3]; decide) (by rw [hs3]; decide) (by decide) ?_
    have f32 : p0.toInt = 14 := qi_eq hs3 rfl zc_14
    refine lv_aload_n hx hb dX9_about_162 rfl (lv_at hl 0 rfl) ?_
    refine gM_X9_33_0 hx hb hG hown hK hP dX9_about_163 ?_
    refine lv_aload_n hx hb dX9_about_166 rfl (lv_at hl 0 rfl) ?_
    refine gM_X9_249_0 hx hb hG hown hK hP dX9_about_167 ?_
    refine ldM_7 (mm := i_bank.toInt) hx hb hK hP rfl (ob_263 ie4 ie5) (ob_264 ie4 ie5) dX9_about_170 ?_
    have f33 : 0 ≤ (f_hums (i_bank.toInt).toNat).toInt ∧ (f_hums (i_bank.toInt).toNat).toInt ≤ 100 := ie24 (i_bank.toInt)
    rw [hQ]
    exact W.iret (v := (f_hums (i_bank.toInt).toNat)) hx hb hr (fun t ht hW => ⟨⟨(f_hums (i_bank.toInt).toNat), (f_hums (i_bank.toInt).toNat), rfl, rfl, trivial⟩, hS.F ht⟩) hS.2.2 dX9_about_171
set_option maxHeartbeats 4000000 in
set_option maxRecDepth 100000 in
theorem kX9_feed (l : Launch) (dC : Nat → ClassId) (dI : Nat → Nat → Nat) (r : Nat → Nat) (ct : Nat → ClassId) (i_taped i_size i_faultKind i_at i_end i_token i_number i_bank i_rb i_codes i_within i_piled i_unitsInRule i_askHouse i_askTune i_acts i_undone i_laid i_knowns i_time : Int32) (f_text f_tunes f_houses f_hums f_told f_many f_ruleFrom f_ruleTo f_code f_eWhat f_eSign f_all f_kept f_was f_sTune f_boxAll : Nat → Int32) (J : Nat → Nat → Int32) (L : Nat → Nat → Int64) (p0 p1 p2 p3 p4 : Int32) (sz : Nat) (hI : (IM i_taped i_size i_faultKind i_at i_end i_bank i_rb i_acts i_undone i_laid i_knowns i_time f_tunes f_houses f_hums f_told f_many f_ruleFrom f_ruleTo f_code f_all f_kept f_was f_sTune f_boxAll)) : Met l yX9_feed (.code yX9_feed cX9_feed 8 (some .int) :: GW) { frames := 2, cells := 0, slots := 0, locals := 100 } (va_Pc [.ref (r 0), .int p0, .int p1, .int p2, .int p3, .int p4] (pW (dC, dI) (WM r ct i_taped i_size i_faultKind i_at i_end i_token i_number i_bank i_rb i_codes i_within i_piled i_unitsInRule i_askHouse i_askTune i_acts i_undone i_laid i_knowns i_time f_text f_tunes f_houses f_hums f_told f_many f_ruleFrom f_ruleTo f_code f_eWhat f_eSign f_all f_kept f_was f_sTune f_boxAll J L) (TM ct) sz)) (va_Qi (fun (r0 : Int32) (u : Int32) => r0 = u) (fun (u : Int32) (t : State) => ∃ (n_i_taped : Int32) (n_J : Nat → Nat → Int32), va_P (dC, dI) vwCl (WM r ct n_i_taped i_size i_faultKind i_at i_end i_token i_number i_bank i_rb i_codes i_within i_piled i_unitsInRule i_askHouse i_askTune i_acts i_undone i_laid i_knowns i_time f_text f_tunes f_houses f_hums f_told f_many f_ruleFrom f_ruleTo f_code f_eWhat f_eSign f_all f_kept f_was f_sTune f_boxAll n_J L) t.heap ∧ va_D (va_A (WM r ct i_taped i_size i_faultKind i_at i_end i_token i_number i_bank i_rb i_codes i_within i_piled i_unitsInRule i_askHouse i_askTune i_acts i_undone i_laid i_knowns i_time f_text f_tunes f_houses f_hums f_told f_many f_ruleFrom f_ruleTo f_code f_eWhat f_eSign f_all f_kept f_was f_sTune f_boxAll J L) sz) (WM r ct n_i_taped i_size i_faultKind i_at i_end i_token i_number i_bank i_rb i_codes i_within i_piled i_unitsInRule i_askHouse i_askTune i_acts i_undone i_laid i_knowns i_time f_text f_tunes f_houses f_hums f_told f_many f_ruleFrom f_ruleTo f_code f_eWhat f_eSign f_all f_kept f_was f_sTune f_boxAll n_J L) ∧ (IM n_i_taped i_size i_faultKind i_at i_end i_bank i_rb i_acts i_undone i_laid i_knowns i_time f_tunes f_houses f_hums f_told f_many f_ruleFrom f_ruleTo f_code f_all f_kept f_was f_sTune f_boxAll)) (va_A (WM r ct i_taped i_size i_faultKind i_at i_end i_token i_number i_bank i_rb i_codes i_within i_piled i_unitsInRule i_askHouse i_askTune i_acts i_undone i_laid i_knowns i_time f_text f_tunes f_houses f_hums f_told f_many f_ruleFrom f_ruleTo f_code f_eWhat f_eSign f_all f_kept f_was f_sTune f_boxAll J L) sz)) 0 0 (va_A (WM r ct i_taped i_size i_faultKind i_at i_end i_token i_number i_bank i_rb i_codes i_within i_piled i_unitsInRule i_askHouse i_askTune i_acts i_undone i_laid i_knowns i_time f_text f_tunes f_houses f_hums f_told f_many f_ruleFrom f_ruleTo f_code f_eWhat f_eSign f_all f_kept f_was f_sTune f_boxAll J L) sz) := by
  refine Met.ofW (cc := cX9_feed) (maxL := 8) (ret := (some .int)) (by decide) rfl ?_
  intro p e s m args below meth c0 s₁ B hml hv
  obtain ⟨rfl, hsz, hP, hK, hD0⟩ := hv
  have hx := B.exec
  have hb := B.bytes
  have hr := B.returns
  have hts := atoms_spec (ws := .code yX9_feed cX9_feed 8 (some .int) :: GW) B.pre
  have hG : ∀ w ∈ GW, w.before _ s = true := fun w h => hts w (List.mem_cons_of_mem _ h)
  have hown : s.vm.findClass RX9 = some m.cls := findClass_of_methodNamed B.named
  subst hsz
  have hD := hD0.self (sz := s.heap.size)
  generalize hAe : va_A (WM r ct i_taped i_size i_faultKind i_at i_end i_token i_number i_bank i_rb i_codes i_within i_piled i_unitsInRule i_askHouse i_askTune i_acts i_undone i_laid i_knowns i_time f_text f_tunes f_houses f_hums f_told f_many f_ruleFrom f_ruleTo f_code f_eWhat f_eSign f_all f_kept f_was f_sTune f_boxAll J L) s.heap.size = A at hD ⊢
  have hA : ∀ q : Nat, s.heap.size ≤ q → A q := fun q h => by rw [← hAe]; exact Or.inr h
  have hS : va_S A s.heap s.heap [] := va_S.rf
  have hP : va_P (dC, dI) vwCl (WM r ct i_taped i_size i_faultKind i_at i_end i_token i_number i_bank i_rb i_codes i_within i_piled i_unitsInRule i_askHouse i_askTune i_acts i_undone i_laid i_knowns i_time f_text f_tunes f_houses f_hums f_told f_many f_ruleFrom f_ruleTo f_code f_eWhat f_eSign f_all f_kept f_was f_sTune f_boxAll J L) s.heap := hP
  have hl := lv_entry ([.ref (r 0), .int p0, .int p1, .int p2, .int p3, .int p4]) (n := 8) (Nat.le_of_ble_eq_true rfl)
  rw [lg_entry_eq]
  generalize (lg_sl ([.ref (r 0), .int p0, .int p1, .int p2, .int p3, .int p4]) ++ List.replicate (8 - (lg_sl ([.ref (r 0), .int p0, .int p1, .int p2, .int p3, .int p4])).length) Slot.unset).toArray = ls at hl ⊢
  have hl : lv_has ls 8 [(0, .ref (r 0)), (1, .int p0), (2, .int p1), (3, .int p2), (4, .int p3), (5, .int p4)] := hl
  refine nameQ (fun Q hQ => ?_)
  obtain ⟨ie0, ie1, ie2, ie3, ie4, ie5, ie6, ie7, ie8, ie9, ie10, ie11, ie12, ie13, ie14, ie15, ie16, ie17, ie18, ie19, ie20, ie21, ie22, ie23, ie24, ie25, ie26, ie27, ie28, ie29, ie30, ie31, ie32⟩ := id hI
  have f1 : 0 ≤ (f_tunes (i_bank.toInt).toNat).toInt ∧ (f_tunes (i_bank.toInt).toNat).toInt ≤ 5 := ie21 (i_bank.toInt)
  have f2 : 0 ≤ (f_houses (i_bank.toInt).toNat).toInt ∧ (f_houses (i_bank.toInt).toNat).toInt ≤ 4 := ie22 (i_bank.toInt)
  refine lv_aload_n hx hb dX9_feed_0 rfl (lv_at hl 0 rfl) ?_
  refine gM_X9_246_0 hx hb hG hown hK hP dX9_feed_1 ?_
  refine lv_bipush (v := 20) hx hb dX9_feed_4 (by decide) ?_
  refine lv_iadd hx hb dX9_feed_6 ?_
  refine lv_topi (fun x3 ex3 => ?_)
  have f4 : x3.toInt = i_taped.toInt + 20 := (ob_1589 (qi_add ex3 rfl zc_20 (ob_1587 ie0 ie1) (ob_1588 ie0 ie1)))
  refine lv_sipush (v := 1600) hx hb dX9_feed_7 (by decide) ?_
  refine lv_icmp_le (tgt := 15) hx hb dX9_feed_10 (by decide) (fun c_5 => ?_) (fun c_5 => ?_)
  · skip
    have f6 : x3.toInt ≤ 1600 := qi_le c_5 rfl zc_1600
    refine lv_iconst (v := 0) hx hb dX9_feed_15 (by decide) ?_
    refine lv_istore (lv' := [(6, .int 0), (0, .ref (r 0)), (1, .int p0), (2, .int p1), (3, .int p2), (4, .int p3), (5, .int p4)]) hx hb dX9_feed_16 hl (by decide) rfl (fun ls hl => ?_)
    have L18 : ∀ (N18 : Nat) (y18_6 : Int32) (m18_J : Nat → Nat → Int32) (H18 : Heap) (locs : List Loc) (ls : Array Slot) (g18_0 : (0 : Int) ≤ y18_6.toInt) (g18_1 : y18_6.toInt ≤ (20 : Int)) (hP : va_P (dC, dI) vwCl (WM r ct i_taped i_size i_faultKind i_at i_end i_token i_number i_bank i_rb i_codes i_within i_piled i_unitsInRule i_askHouse i_askTune i_acts i_undone i_laid i_knowns i_time f_text f_tunes f_houses f_hums f_told f_many f_ruleFrom f_ruleTo f_code f_eWhat f_eSign f_all f_kept f_was f_sTune f_boxAll m18_J L) H18) (hD : va_D A (WM r ct i_taped i_size i_faultKind i_at i_end i_token i_number i_bank i_rb i_codes i_within i_piled i_unitsInRule i_askHouse i_askTune i_acts i_undone i_laid i_knowns i_time f_text f_tunes f_houses f_hums f_told f_many f_ruleFrom f_ruleTo f_code f_eWhat f_eSign f_all f_kept f_was f_sTune f_boxAll m18_J L)) (hS : va_S A s.heap H18 locs) (hl : lv_has ls 8 [(0, .ref (r 0)), (1, .int p0), (2, .int p1), (3, .int p2), (4, .int p3), (5, .int p4), (6, .int y18_6)]) (hM : -1 * y18_6.toInt + 20 < (N18 : Int)), W p l e { frames := 2, cells := 0, slots := 0, locals := 100 } s m ([.ref (r 0), .int p0, .int p1, .int p2, .int p3, .int p4] : List Value).toArray below meth c0 H18 locs 0 0 Q (F0 m 18 ls []) := by
      intro N18
      induction N18 with
      | zero =>
        intro y18_6 m18_J H18 locs ls g18_0 g18_1 hP hD hS hl hM
        exact ((ob_1590 hM g18_0 g18_1)).elim
      | succ N18 ih18 =>
        intro y18_6 m18_J H18 locs ls g18_0 g18_1 hP hD hS hl hM
        have hM18 := msucc hM
        refine lv_iload hx hb dX9_feed_18 (lv_at hl 6 rfl) ?_
        refine lv_bipush (v := 20) hx hb dX9_feed_20 (by decide) ?_
        refine lv_icmp_ge (tgt := 105) hx hb dX9_feed_22 (by decide) (fun c_7 => ?_) (fun c_7 => ?_)
        · skip
          have f8 : 20 ≤ y18_6.toInt := qi_le c_7 zc_20 rfl
          refine lv_aload_n hx hb dX9_feed_105 rfl (lv_at hl 0 rfl) ?_
          refine lv_dup hx hb dX9_feed_106 rfl ?_
          refine gM_X9_246_0 hx hb hG hown hK hP dX9_feed_107 ?_
          refine lv_bipush (v := 20) hx hb dX9_feed_110 (by decide) ?_
          refine lv_iadd hx hb dX9_feed_112 ?_
          refine lv_topi (fun x9 ex9 => ?_)
          have f10 : x9.toInt = i_taped.toInt + 20 := (ob_1589 (qi_add ex9 rfl zc_20 (ob_1591 ie0 ie1 f6 f4) (ob_1592 ie0 ie1 f6 f4)))
          refine pM_X9_246_0 hx hb hG hown hK hP hD hS dX9_feed_113 (fun H11 locs hP hD hS => ?_)
          refine lv_aload_n hx hb dX9_feed_116 rfl (lv_at hl 0 rfl) ?_
          refine gM_X9_246_0 hx hb hG hown hK hP dX9_feed_117 ?_
          rw [hQ]
          exact W.iret (v := x9) hx hb hr (fun t ht hW => ⟨⟨x9, x9, rfl, rfl, ⟨x9, m18_J, by rw [ht]; exact hP, hD, ⟨(ob_1593 ie0 ie1 f6 f4 f10), (ob_1594 ie0 ie1 f6 f4 f10), ie2, ie3, ie4, ie5, ie6, ie7, ie8, ie9, ie10, ie11, ie12, ie13, ie14, ie15, ie16, ie17, ie18, ie19, ie20, ie21, ie22, ie23, ie24, ie25, ie26, ie27, ie28, ie29, ie30, ie31, ie32⟩⟩⟩, hS.F ht⟩) hS.2.2 dX9_feed_120
        · skip
          have f12 : y18_6.toInt < 20 := qi_nle c_7 zc_20 rfl
          refine lv_iload hx hb dX9_feed_25 (lv_at hl 6 rfl) ?_
          refine lv_iconst (v := 4) hx hb dX9_feed_27 (by decide) ?_
          refine lv_icmp_ge (tgt := 35) hx hb dX9_feed_28 (by decide) (fun c_13 => ?_) (fun c_13 => ?_)
          · skip
            have f14 : 4 ≤ y18_6.toInt := qi_le c_13 zc_4 rfl
            refine lv_iload hx hb dX9_feed_35 (lv_at hl 6 rfl) ?_
            refine lv_bipush (v := 8) hx hb dX9_feed_37 (by decide) ?_
            refine lv_icmp_ge (tgt := 46) hx hb dX9_feed_39 (by decide) (fun c_15 => ?_) (fun c_15 => ?_)
            · skip
              have f16 : 8 ≤ y18_6.toInt := qi_le c_15 zc_8 rfl
              refine lv_iload hx hb dX9_feed_46 (lv_at hl 6 rfl) ?_
              refine lv_bipush (v := 12) hx hb dX9_feed_48 (by decide) ?_
              refine lv_icmp_ge (tgt := 57) hx hb dX9_feed_50 (by decide) (fun c_17 => ?_) (fun c_17 => ?_)
              · skip
                have f18 : 12 ≤ y18_6.toInt := qi_le c_17 zc_12 rfl
                refine lv_iload hx hb dX9_feed_57 (lv_at hl 6 rfl) ?_
                refine lv_bipush (v := 16) hx hb dX9_feed_59 (by decide) ?_
                refine lv_icmp_ge (tgt := 69) hx hb dX9_feed_61 (by decide) (fun c_19 => ?_) (fun c_19 => ?_)
                · skip
                  have f20 : 16 ≤ y18_6.toInt := qi_le c_19 zc_16 rfl
                  refine lv_iload hx hb dX9_feed_69 (lv_at hl 5 rfl) ?_
                  refine lv_istore (lv' := [(7, .int p4), (0, .ref (r 0)), (1, .int p0), (2, .int p1), (3, .int p2), (4, .int p3), (5, .int p4), (6, .int y18_6)]) hx hb dX9_feed_71 hl (by decide) rfl (fun ls hl => ?_)
                  refine lv_aload_n hx hb dX9_feed_73 rfl (lv_at hl 1 rfl) ?_
                  refine gM_X9_7_0 hx hb hG hown hK hP dX9_feed_74 ?_
                  refine lv_aload_n hx hb dX9_feed_77 rfl (lv_at hl 1 rfl) ?_
                  refine gM_X9_246_0 hx hb hG hown hK hP dX9_feed_78 ?_
                  refine lv_iload hx hb dX9_feed_81 (lv_at hl 7 rfl) ?_
                  refine lv_iadd hx hb dX9_feed_83 ?_
                  refine lv_topi (fun x21 ex21 => ?_)
                  have f22 : x21.toInt = i_taped.toInt + y18_6.toInt := (ob_647 (qi_add ex21 rfl rfl (ob_645 ie0 g18_0) (ob_1595 ie1 g18_1)))
                  refine lv_iload hx hb dX9_feed_84 (lv_at hl 0 rfl) ?_
                  refine lv_bipush (v := 24) hx hb dX9_feed_86 (by decide) ?_
                  refine lv_bipush (v := 8) hx hb dX9_feed_88 (by decide) ?_
                  refine lv_iload hx hb dX9_feed_90 (lv_at hl 7 rfl) ?_
                  refine lv_iconst (v := 3) hx hb dX9_feed_92 (by decide) ?_
                  refine lv_iand hx hb dX9_feed_93 ?_
                  refine lv_topi (fun x23 ex23 => ?_)
                  refine lv_imul hx hb dX9_feed_94 ?_
                  refine lv_topi (fun x24 ex24 => ?_)
                  refine lv_isub hx hb dX9_feed_95 ?_
                  refine lv_topi (fun x25 ex25 => ?_)
                  refine lv_ishr hx hb dX9_feed_96 ?_
                  refine lv_topi (fun x26 ex26 => ?_)
                  refine lv_i2b (v := _) hx hb dX9_feed_97 rfl ?_
                  refine lv_topi (fun x27 ex27 => ?_)
                  refine stM_1 (mm := i_taped.toInt + y18_6.toInt) hx hb hK hP hD hS f22 (ob_648 ie0 g18_0) (ob_1596 f6 g18_1 f4) dX9_feed_98 (fun J29 H28 locs hP hD hS => ?_)
                  obtain ⟨x30, ex30⟩ : ∃ y : Int32, y = y18_6 + Int32.ofInt 1 := ⟨_, rfl⟩
                  have f31 : x30.toInt = y18_6.toInt + 1 := (ob_142 (qi_add ex30 rfl (by decide) (ob_140 g18_0) (ob_1597 g18_1)))
                  refine lv_iinc (v := x30) (lv' := [(6, .int x30), (7, .int p4), (0, .ref (r 0)), (1, .int p0), (2, .int p1), (3, .int p2), (4, .int p3), (5, .int p4)]) hx hb dX9_feed_99 hl (k := 7) rfl ex30.symm (by decide) rfl (fun ls hl => ?_)
                  refine lv_goto (tgt := 18) hx hb dX9_feed_102 (by decide) ?_
                  exact ih18 x30 J29 H28 _ _ (ob_149 g18_0 f31) (ob_1598 f12 f31) hP hD hS (lv_sub hl [2, 3, 4, 5, 6, 7, 0] rfl) (ob_1599 hM18 f31)
                · skip
                  have f32 : y18_6.toInt < 16 := qi_nle c_19 zc_16 rfl
                  refine lv_iload hx hb dX9_feed_64 (lv_at hl 4 rfl) ?_
                  refine lv_goto (tgt := 71) hx hb dX9_feed_66 (by decide) ?_
                  refine lv_istore (lv' := [(7, .int p3), (0, .ref (r 0)), (1, .int p0), (2, .int p1), (3, .int p2), (4, .int p3), (5, .int p4), (6, .int y18_6)]) hx hb dX9_feed_71 hl (by decide) rfl (fun ls hl => ?_)
                  refine lv_aload_n hx hb dX9_feed_73 rfl (lv_at hl 1 rfl) ?_
                  refine gM_X9_7_0 hx hb hG hown hK hP dX9_feed_74 ?_
                  refine lv_aload_n hx hb dX9_feed_77 rfl (lv_at hl 1 rfl) ?_
                  refine gM_X9_246_0 hx hb hG hown hK hP dX9_feed_78 ?_
                  refine lv_iload hx hb dX9_feed_81 (lv_at hl 7 rfl) ?_
                  refine lv_iadd hx hb dX9_feed_83 ?_
                  refine lv_topi (fun x33 ex33 => ?_)
                  have f34 : x33.toInt = i_taped.toInt + y18_6.toInt := (ob_647 (qi_add ex33 rfl rfl (ob_645 ie0 g18_0) (ob_1595 ie1 g18_1)))
                  refine lv_iload hx hb dX9_feed_84 (lv_at hl 0 rfl) ?_
                  refine lv_bipush (v := 24) hx hb dX9_feed_86 (by decide) ?_
                  refine lv_bipush (v := 8) hx hb dX9_feed_88 (by decide) ?_
                  refine lv_iload hx hb dX9_feed_90 (lv_at hl 7 rfl) ?_
                  refine lv_iconst (v := 3) hx hb dX9_feed_92 (by decide) ?_
                  refine lv_iand hx hb dX9_feed_93 ?_
                  refine lv_topi (fun x35 ex35 => ?_)
                  refine lv_imul hx hb dX9_feed_94 ?_
                  refine lv_topi (fun x36 ex36 => ?_)
                  refine lv_isub hx hb dX9_feed_95 ?_
                  refine lv_topi (fun x37 ex37 => ?_)
                  refine lv_ishr hx hb dX9_feed_96 ?_
                  refine lv_topi (fun x38 ex38 => ?_)
                  refine lv_i2b (v := _) hx hb dX9_feed_97 rfl ?_
                  refine lv_topi (fun x39 ex39 => ?_)
                  refine stM_1 (mm := i_taped.toInt + y18_6.toInt) hx hb hK hP hD hS f34 (ob_648 ie0 g18_0) (ob_1596 f6 g18_1 f4) dX9_feed_98 (fun J41 H40 locs hP hD hS => ?_)
                  obtain ⟨x42, ex42⟩ : ∃ y : Int32, y = y18_6 + Int32.ofInt 1 := ⟨_, rfl⟩
                  have f43 : x42.toInt = y18_6.toInt + 1 := (ob_142 (qi_add ex42 rfl (by decide) (ob_140 g18_0) (ob_1597 g18_1)))
                  refine lv_iinc (v := x42) (lv' := [(6, .int x42), (7, .int p3), (0, .ref (r 0)), (1, .int p0), (2, .int p1), (3, .int p2), (4, .int p3), (5, .int p4)]) hx hb dX9_feed_99 hl (k := 7) rfl ex42.symm (by decide) rfl (fun ls hl => ?_)
                  refine lv_goto (tgt := 18) hx hb dX9_feed_102 (by decide) ?_
                  exact ih18 x42 J41 H40 _ _ (ob_149 g18_0 f43) (ob_1598 f12 f43) hP hD hS (lv_sub hl [2, 3, 4, 5, 6, 7, 0] rfl) (ob_1599 hM18 f43)
              · skip
                have f44 : y18_6.toInt < 12 := qi_nle c_17 zc_12 rfl
                refine lv_iload_n hx hb dX9_feed_53 rfl (lv_at hl 3 rfl) ?_
                refine lv_goto (tgt := 71) hx hb dX9_feed_54 (by decide) ?_
                refine lv_istore (lv' := [(7, .int p2), (0, .ref (r 0)), (1, .int p0), (2, .int p1), (3, .int p2), (4, .int p3), (5, .int p4), (6, .int y18_6)]) hx hb dX9_feed_71 hl (by decide) rfl (fun ls hl => ?_)
                refine lv_aload_n hx hb dX9_feed_73 rfl (lv_at hl 1 rfl) ?_
                refine gM_X9_7_0 hx hb hG hown hK hP dX9_feed_74 ?_
                refine lv_aload_n hx hb dX9_feed_77 rfl (lv_at hl 1 rfl) ?_
                refine gM_X9_246_0 hx hb hG hown hK hP dX9_feed_78 ?_
                refine lv_iload hx hb dX9_feed_81 (lv_at hl 7 rfl) ?_
                refine lv_iadd hx hb dX9_feed_83 ?_
                refine lv_topi (fun x45 ex45 => ?_)
                have f46 : x45.toInt = i_taped.toInt + y18_6.toInt := (ob_647 (qi_add ex45 rfl rfl (ob_645 ie0 g18_0) (ob_1595 ie1 g18_1)))
                refine lv_iload hx hb dX9_feed_84 (lv_at hl 0 rfl) ?_
                refine lv_bipush (v := 24) hx hb dX9_feed_86 (by decide) ?_
                refine lv_bipush (v := 8) hx hb dX9_feed_88 (by decide) ?_
                refine lv_iload hx hb dX9_feed_90 (lv_at hl 7 rfl) ?_
                refine lv_iconst (v := 3) hx hb dX9_feed_92 (by decide) ?_
                refine lv_iand hx hb dX9_feed_93 ?_
                refine lv_topi (fun x47 ex47 => ?_)
                refine lv_imul hx hb dX9_feed_94 ?_
                refine lv_topi (fun x48 ex48 => ?_)
                refine lv_isub hx hb dX9_feed_95 ?_
                refine lv_topi (fun x49 ex49 => ?_)
                refine lv_ishr hx hb dX9_feed_96 ?_
                refine lv_topi (fun x50 ex50 => ?_)
                refine lv_i2b (v := _) hx hb dX9_feed_97 rfl ?_
                refine lv_topi (fun x51 ex51 => ?_)
                refine stM_1 (mm := i_taped.toInt + y18_6.toInt) hx hb hK hP hD hS f46 (ob_648 ie0 g18_0) (ob_1596 f6 g18_1 f4) dX9_feed_98 (fun J53 H52 locs hP hD hS => ?_)
                obtain ⟨x54, ex54⟩ : ∃ y : Int32, y = y18_6 + Int32.ofInt 1 := ⟨_, rfl⟩
                have f55 : x54.toInt = y18_6.toInt + 1 := (ob_142 (qi_add ex54 rfl (by decide) (ob_140 g18_0) (ob_1597 g18_1)))
                refine lv_iinc (v := x54) (lv' := [(6, .int x54), (7, .int p2), (0, .ref (r 0)), (1, .int p0), (2, .int p1), (3, .int p2), (4, .int p3), (5, .int p4)]) hx hb dX9_feed_99 hl (k := 7) rfl ex54.symm (by decide) rfl (fun ls hl => ?_)
                refine lv_goto (tgt := 18) hx hb dX9_feed_102 (by decide) ?_
                exact ih18 x54 J53 H52 _ _ (ob_149 g18_0 f55) (ob_1598 f12 f55) hP hD hS (lv_sub hl [2, 3, 4, 5, 6, 7, 0] rfl) (ob_1599 hM18 f55)
            · skip
              have f56 : y18_6.toInt < 8 := qi_nle c_15 zc_8 rfl
              refine lv_iload_n hx hb dX9_feed_42 rfl (lv_at hl 2 rfl) ?_
              refine lv_goto (tgt := 71) hx hb dX9_feed_43 (by decide) ?_
              refine lv_istore (lv' := [(7, .int p1), (0, .ref (r 0)), (1, .int p0), (2, .int p1), (3, .int p2), (4, .int p3), (5, .int p4), (6, .int y18_6)]) hx hb dX9_feed_71 hl (by decide) rfl (fun ls hl => ?_)
              refine lv_aload_n hx hb dX9_feed_73 rfl (lv_at hl 1 rfl) ?_
              refine gM_X9_7_0 hx hb hG hown hK hP dX9_feed_74 ?_
              refine lv_aload_n hx hb dX9_feed_77 rfl (lv_at hl 1 rfl) ?_
              refine gM_X9_246_0 hx hb hG hown hK hP dX9_feed_78 ?_
              refine lv_iload hx hb dX9_feed_81 (lv_at hl 7 rfl) ?_
              refine lv_iadd hx hb dX9_feed_83 ?_
              refine lv_topi (fun x57 ex57 => ?_)
              have f58 : x57.toInt = i_taped.toInt + y18_6.toInt := (ob_647 (qi_add ex57 rfl rfl (ob_645 ie0 g18_0) (ob_1595 ie1 g18_1)))
              refine lv_iload hx hb dX9_feed_84 (lv_at hl 0 rfl) ?_
              refine lv_bipush (v := 24) hx hb dX9_feed_86 (by decide) ?_
              refine lv_bipush (v := 8) hx hb dX9_feed_88 (by decide) ?_
              refine lv_iload hx hb dX9_feed_90 (lv_at hl 7 rfl) ?_
              refine lv_iconst (v := 3) hx hb dX9_feed_92 (by decide) ?_
              refine lv_iand hx hb dX9_feed_93 ?_
              refine lv_topi (fun x59 ex59 => ?_)
              refine lv_imul hx hb dX9_feed_94 ?_
              refine lv_topi (fun x60 ex60 => ?_)
              refine lv_isub hx hb dX9_feed_95 ?_
              refine lv_topi (fun x61 ex61 => ?_)
              refine lv_ishr hx hb dX9_feed_96 ?_
              refine lv_topi (fun x62 ex62 => ?_)
              refine lv_i2b (v := _) hx hb dX9_feed_97 rfl ?_
              refine lv_topi (fun x63 ex63 => ?_)
              refine stM_1 (mm := i_taped.toInt + y18_6.toInt) hx hb hK hP hD hS f58 (ob_648 ie0 g18_0) (ob_1596 f6 g18_1 f4) dX9_feed_98 (fun J65 H64 locs hP hD hS => ?_)
              obtain ⟨x66, ex66⟩ : ∃ y : Int32, y = y18_6 + Int32.ofInt 1 := ⟨_, rfl⟩
              have f67 : x66.toInt = y18_6.toInt + 1 := (ob_142 (qi_add ex66 rfl (by decide) (ob_140 g18_0) (ob_1597 g18_1)))
              refine lv_iinc (v := x66) (lv' := [(6, .int x66), (7, .int p1), (0, .ref (r 0)), (1, .int p0), (2, .int p1), (3, .int p2), (4, .int p3), (5, .int p4)]) hx hb dX9_feed_99 hl (k := 7) rfl ex66.symm (by decide) rfl (fun ls hl => ?_)
              refine lv_goto (tgt := 18) hx hb dX9_feed_102 (by decide) ?_
              exact ih18 x66 J65 H64 _ _ (ob_149 g18_0 f67) (ob_1598 f12 f67) hP hD hS (lv_sub hl [2, 3, 4, 5, 6, 7, 0] rfl) (ob_1599 hM18 f67)
          · skip
            have f68 : y18_6.toInt < 4 := qi_nle c_13 zc_4 rfl
            refine lv_iload_n hx hb dX9_feed_31 rfl (lv_at hl 1 rfl) ?_
            refine lv_goto (tgt := 71) hx hb dX9_feed_32 (by decide) ?_
            refine lv_istore (lv' := [(7, .int p0), (0, .ref (r 0)), (1, .int p0), (2, .int p1), (3, .int p2), (4, .int p3), (5, .int p4), (6, .int y18_6)]) hx hb dX9_feed_71 hl (by decide) rfl (fun ls hl => ?_)
            refine lv_aload_n hx hb dX9_feed_73 rfl (lv_at hl 1 rfl) ?_
            refine gM_X9_7_0 hx hb hG hown hK hP dX9_feed_74 ?_
            refine lv_aload_n hx hb dX9_feed_77 rfl (lv_at hl 1 rfl) ?_
            refine gM_X9_246_0 hx hb hG hown hK hP dX9_feed_78 ?_
            refine lv_iload hx hb dX9_feed_81 (lv_at hl 7 rfl) ?_
            refine lv_iadd hx hb dX9_feed_83 ?_
            refine lv_topi (fun x69 ex69 => ?_)
            have f70 : x69.toInt = i_taped.toInt + y18_6.toInt := (ob_647 (qi_add ex69 rfl rfl (ob_645 ie0 g18_0) (ob_1595 ie1 g18_1)))
            refine lv_iload hx hb dX9_feed_84 (lv_at hl 0 rfl) ?_
            refine lv_bipush (v := 24) hx hb dX9_feed_86 (by decide) ?_
            refine lv_bipush (v := 8) hx hb dX9_feed_88 (by decide) ?_
            refine lv_iload hx hb dX9_feed_90 (lv_at hl 7 rfl) ?_
            refine lv_iconst (v := 3) hx hb dX9_feed_92 (by decide) ?_
            refine lv_iand hx hb dX9_feed_93 ?_
            refine lv_topi (fun x71 ex71 => ?_)
            refine lv_imul hx hb dX9_feed_94 ?_
            refine lv_topi (fun x72 ex72 => ?_)
            refine lv_isub hx hb dX9_feed_95 ?_
            refine lv_topi (fun x73 ex73 => ?_)
            refine lv_ishr hx hb dX9_feed_96 ?_
            refine lv_topi (fun x74 ex74 => ?_)
            refine lv_i2b (v := _) hx hb dX9_feed_97 rfl ?_
            refine lv_topi (fun x75 ex75 => ?_)
            refine stM_1 (mm := i_taped.toInt + y18_6.toInt) hx hb hK hP hD hS f70 (ob_648 ie0 g18_0) (ob_1596 f6 g18_1 f4) dX9_feed_98 (fun J77 H76 locs hP hD hS => ?_)
            obtain ⟨x78, ex78⟩ : ∃ y : Int32, y = y18_6 + Int32.ofInt 1 := ⟨_, rfl⟩
            have f79 : x78.toInt = y18_6.toInt + 1 := (ob_142 (qi_add ex78 rfl (by decide) (ob_140 g18_0) (ob_1597 g18_1)))
            refine lv_iinc (v := x78) (lv' := [(6, .int x78), (7, .int p0), (0, .ref (r 0)), (1, .int p0), (2, .int p1), (3, .int p2), (4, .int p3), (5, .int p4)]) hx hb dX9_feed_99 hl (k := 7) rfl ex78.symm (by decide) rfl (fun ls hl => ?_)
            refine lv_goto (tgt := 18) hx hb dX9_feed_102 (by decide) ?_
            exact ih18 x78 J77 H76 _ _ (ob_149 g18_0 f79) (ob_1598 f12 f79) hP hD hS (lv_sub hl [2, 3, 4, 5, 6, 7, 0] rfl) (ob_1599 hM18 f79)
    exact L18 (-1 * (0 : Int32).toInt + 20 + 1).toNat 0 J s.heap _ _ (ob_1 zc_0) (ob_1600 zc_0) hP hD hS (lv_sub hl [1, 2, 3, 4, 5, 6, 0] rfl) (mlt (ob_1601 zc_0))
  · skip
    have f80 : 1600 < x3.toInt := qi_nle c_5 rfl zc_1600
    refine lv_iconst (v := (-1)) hx hb dX9_feed_13 (by decide) ?_
    rw [hQ]
    exact W.iret (v := (-1)) hx hb hr (fun t ht hW => ⟨⟨(-1), (-1), rfl, rfl, ⟨i_taped, J, by rw [ht]; exact hP, hD, hI⟩⟩, hS.F ht⟩) hS.2.2 dX9_feed_14
set_option maxHeartbeats 4000000 in
set_option maxRecDepth 100000 in
theorem kX9_end (l : Launch) (dC : Nat → ClassId) (dI : Nat → Nat → Nat) (r : Nat → Nat) (ct : Nat → ClassId) (i_taped i_size i_faultKind i_at i_end i_token i_number i_bank i_rb i_codes i_within i_piled i_unitsInRule i_askHouse i_askTune i_acts i_undone i_laid i_knowns i_time : Int32) (f_text f_tunes f_houses f_hums f_told f_many f_ruleFrom f_ruleTo f_code f_eWhat f_eSign f_all f_kept f_was f_sTune f_boxAll : Nat → Int32) (J : Nat → Nat → Int32) (L : Nat → Nat → Int64) (p0 : Int32) (sz : Nat) (hI : (IM i_taped i_size i_faultKind i_at i_end i_bank i_rb i_acts i_undone i_laid i_knowns i_time f_tunes f_houses f_hums f_told f_many f_ruleFrom f_ruleTo f_code f_all f_kept f_was f_sTune f_boxAll)) : Met l yX9_end (.code yX9_end cX9_end 2 (some .int) :: GW) { frames := 2, cells := 0, slots := 0, locals := 100 } (va_Pc [.ref (r 0), .int p0] (pW (dC, dI) (WM r ct i_taped i_size i_faultKind i_at i_end i_token i_number i_bank i_rb i_codes i_within i_piled i_unitsInRule i_askHouse i_askTune i_acts i_undone i_laid i_knowns i_time f_text f_tunes f_houses f_hums f_told f_many f_ruleFrom f_ruleTo f_code f_eWhat f_eSign f_all f_kept f_was f_sTune f_boxAll J L) (TM ct) sz)) (va_Qi (fun (r0 : Int32) (u : Int32) => r0 = u) (fun (u : Int32) (t : State) => ∃ (n_i_taped : Int32), va_P (dC, dI) vwCl (WM r ct n_i_taped i_size i_faultKind i_at i_end i_token i_number i_bank i_rb i_codes i_within i_piled i_unitsInRule i_askHouse i_askTune i_acts i_undone i_laid i_knowns i_time f_text f_tunes f_houses f_hums f_told f_many f_ruleFrom f_ruleTo f_code f_eWhat f_eSign f_all f_kept f_was f_sTune f_boxAll J L) t.heap ∧ va_D (va_A (WM r ct i_taped i_size i_faultKind i_at i_end i_token i_number i_bank i_rb i_codes i_within i_piled i_unitsInRule i_askHouse i_askTune i_acts i_undone i_laid i_knowns i_time f_text f_tunes f_houses f_hums f_told f_many f_ruleFrom f_ruleTo f_code f_eWhat f_eSign f_all f_kept f_was f_sTune f_boxAll J L) sz) (WM r ct n_i_taped i_size i_faultKind i_at i_end i_token i_number i_bank i_rb i_codes i_within i_piled i_unitsInRule i_askHouse i_askTune i_acts i_undone i_laid i_knowns i_time f_text f_tunes f_houses f_hums f_told f_many f_ruleFrom f_ruleTo f_code f_eWhat f_eSign f_all f_kept f_was f_sTune f_boxAll J L) ∧ (IM n_i_taped i_size i_faultKind i_at i_end i_bank i_rb i_acts i_undone i_laid i_knowns i_time f_tunes f_houses f_hums f_told f_many f_ruleFrom f_ruleTo f_code f_all f_kept f_was f_sTune f_boxAll)) (va_A (WM r ct i_taped i_size i_faultKind i_at i_end i_token i_number i_bank i_rb i_codes i_within i_piled i_unitsInRule i_askHouse i_askTune i_acts i_undone i_laid i_knowns i_time f_text f_tunes f_houses f_hums f_told f_many f_ruleFrom f_ruleTo f_code f_eWhat f_eSign f_all f_kept f_was f_sTune f_boxAll J L) sz)) 0 0 (va_A (WM r ct i_taped i_size i_faultKind i_at i_end i_token i_number i_bank i_rb i_codes i_within i_piled i_unitsInRule i_askHouse i_askTune i_acts i_undone i_laid i_knowns i_time f_text f_tunes f_houses f_hums f_told f_many f_ruleFrom f_ruleTo f_code f_eWhat f_eSign f_all f_kept f_was f_sTune f_boxAll J L) sz) := by
  refine Met.ofW (cc := cX9_end) (maxL := 2) (ret := (some .int)) (by decide) rfl ?_
  intro p e s m args below meth c0 s₁ B hml hv
  obtain ⟨rfl, hsz, hP, hK, hD0⟩ := hv
  have hx := B.exec
  have hb := B.bytes
  have hr := B.returns
  have hts := atoms_spec (ws := .code yX9_end cX9_end 2 (some .int) :: GW) B.pre
  have hG : ∀ w ∈ GW, w.before _ s = true := fun w h => hts w (List.mem_cons_of_mem _ h)
  have hown : s.vm.findClass RX9 = some m.cls := findClass_of_methodNamed B.named
  subst hsz
  have hD := hD0.self (sz := s.heap.size)
  generalize hAe : va_A (WM r ct i_taped i_size i_faultKind i_at i_end i_token i_number i_bank i_rb i_codes i_within i_piled i_unitsInRule i_askHouse i_askTune i_acts i_undone i_laid i_knowns i_time f_text f_tunes f_houses f_hums f_told f_many f_ruleFrom f_ruleTo f_code f_eWhat f_eSign f_all f_kept f_was f_sTune f_boxAll J L) s.heap.size = A at hD ⊢
  have hA : ∀ q : Nat, s.heap.size ≤ q → A q := fun q h => by rw [← hAe]; exact Or.inr h
  have hS : va_S A s.heap s.heap [] := va_S.rf
  have hP : va_P (dC, dI) vwCl (WM r ct i_taped i_size i_faultKind i_at i_end i_token i_number i_bank i_rb i_codes i_within i_piled i_unitsInRule i_askHouse i_askTune i_acts i_undone i_laid i_knowns i_time f_text f_tunes f_houses f_hums f_told f_many f_ruleFrom f_ruleTo f_code f_eWhat f_eSign f_all f_kept f_was f_sTune f_boxAll J L) s.heap := hP
  have hl := lv_entry ([.ref (r 0), .int p0]) (n := 2) (Nat.le_of_ble_eq_true rfl)
  rw [lg_entry_eq]
  generalize (lg_sl ([.ref (r 0), .int p0]) ++ List.replicate (2 - (lg_sl ([.ref (r 0), .int p0])).length) Slot.unset).toArray = ls at hl ⊢
  have hl : lv_has ls 2 [(0, .ref (r 0)), (1, .int p0)] := hl
  refine nameQ (fun Q hQ => ?_)
  obtain ⟨ie0, ie1, ie2, ie3, ie4, ie5, ie6, ie7, ie8, ie9, ie10, ie11, ie12, ie13, ie14, ie15, ie16, ie17, ie18, ie19, ie20, ie21, ie22, ie23, ie24, ie25, ie26, ie27, ie28, ie29, ie30, ie31, ie32⟩ := id hI
  have f1 : 0 ≤ (f_tunes (i_bank.toInt).toNat).toInt ∧ (f_tunes (i_bank.toInt).toNat).toInt ≤ 5 := ie21 (i_bank.toInt)
  have f2 : 0 ≤ (f_houses (i_bank.toInt).toNat).toInt ∧ (f_houses (i_bank.toInt).toNat).toInt ≤ 4 := ie22 (i_bank.toInt)
  refine lv_iload_n hx hb dX9_end_0 rfl (lv_at hl 1 rfl) ?_
  refine lv_if_lt (tgt := 12) hx hb dX9_end_1 (by decide) (fun c_3 => ?_) (fun c_3 => ?_)
  · skip
    have f4 : p0.toInt < 0 := qi_lt c_3 rfl zc_0
    refine lv_iconst (v := (-1)) hx hb dX9_end_12 (by decide) ?_
    rw [hQ]
    exact W.iret (v := (-1)) hx hb hr (fun t ht hW => ⟨⟨(-1), (-1), rfl, rfl, ⟨i_taped, by rw [ht]; exact hP, hD, hI⟩⟩, hS.F ht⟩) hS.2.2 dX9_end_13
  · skip
    have f5 : 0 ≤ p0.toInt := qi_nlt c_3 rfl zc_0
    refine lv_iload_n hx hb dX9_end_4 rfl (lv_at hl 1 rfl) ?_
    refine lv_aload_n hx hb dX9_end_5 rfl (lv_at hl 0 rfl) ?_
    refine gM_X9_246_0 hx hb hG hown hK hP dX9_end_6 ?_
    refine lv_icmp_le (tgt := 14) hx hb dX9_end_9 (by decide) (fun c_6 => ?_) (fun c_6 => ?_)
    · skip
      have f7 : p0.toInt ≤ i_taped.toInt := qi_le c_6 rfl rfl
      refine lv_aload_n hx hb dX9_end_14 rfl (lv_at hl 0 rfl) ?_
      refine lv_iload_n hx hb dX9_end_15 rfl (lv_at hl 1 rfl) ?_
      refine pM_X9_246_0 hx hb hG hown hK hP hD hS dX9_end_16 (fun H8 locs hP hD hS => ?_)
      refine lv_iload_n hx hb dX9_end_19 rfl (lv_at hl 1 rfl) ?_
      rw [hQ]
      exact W.iret (v := p0) hx hb hr (fun t ht hW => ⟨⟨p0, p0, rfl, rfl, ⟨p0, by rw [ht]; exact hP, hD, ⟨(ob_1602 f5 f7), (ob_206 ie1 f7), ie2, ie3, ie4, ie5, ie6, ie7, ie8, ie9, ie10, ie11, ie12, ie13, ie14, ie15, ie16, ie17, ie18, ie19, ie20, ie21, ie22, ie23, ie24, ie25, ie26, ie27, ie28, ie29, ie30, ie31, ie32⟩⟩⟩, hS.F ht⟩) hS.2.2 dX9_end_20
    · skip
      have f9 : i_taped.toInt < p0.toInt := qi_nle c_6 rfl rfl
      refine lv_iconst (v := (-1)) hx hb dX9_end_12 (by decide) ?_
      rw [hQ]
      exact W.iret (v := (-1)) hx hb hr (fun t ht hW => ⟨⟨(-1), (-1), rfl, rfl, ⟨i_taped, by rw [ht]; exact hP, hD, hI⟩⟩, hS.F ht⟩) hS.2.2 dX9_end_13
