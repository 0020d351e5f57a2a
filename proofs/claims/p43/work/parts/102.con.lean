set_option maxHeartbeats 4000000 in
set_option maxRecDepth 100000 in
theorem kX9_held (l : Launch) (dC : Nat → ClassId) (dI : Nat → Nat → Nat) (p0 p1 p2 : Int32) (sz : Nat) : Met l yX9_held (.code yX9_held cX9_held 3 (some .int) :: GW) { frames := 2, cells := 0, slots := 0, locals := 100 } (va_Pc [.int p0, .int p1, .int p2] (pR (dC, dI) [] [] sz)) (va_Qi (fun (r0 : Int32) (u : Int32) => r0 = u) (fun (u : Int32) (t : State) => (((p1.toInt ≤ p0.toInt) ∧ (p0.toInt ≤ p2.toInt) ∧ (u.toInt = p0.toInt)) ∨ ((p1.toInt ≤ p0.toInt) ∧ (p2.toInt + 1 ≤ p0.toInt) ∧ (u.toInt = p2.toInt)) ∨ ((p0.toInt + 1 ≤ p1.toInt) ∧ (u.toInt = p1.toInt)))) (fun q => sz ≤ q)) 0 0 (fun q => sz ≤ q) := by
  refine Met.ofW (cc := cX9_held) (maxL := 3) (ret := (some .int)) (by decide) rfl ?_
  intro p e s m args below meth c0 s₁ B hml hv
  obtain ⟨rfl, hsz, hP, hK⟩ := hv
  have hx := B.exec
  have hb := B.bytes
  have hr := B.returns
  have hts := atoms_spec (ws := .code yX9_held cX9_held 3 (some .int) :: GW) B.pre
  have hG : ∀ w ∈ GW, w.before _ s = true := fun w h => hts w (List.mem_cons_of_mem _ h)
  have hown : s.vm.findClass RX9 = some m.cls := findClass_of_methodNamed B.named
  subst hsz
  have hS : va_S (fun q => s.heap.size ≤ q) s.heap s.heap [] := va_S.rf
  have hP : va_P (dC, dI) vwCl [] s.heap := hP
  have hl := lv_entry ([.int p0, .int p1, .int p2]) (n := 3) (Nat.le_of_ble_eq_true rfl)
  rw [lg_entry_eq]
  generalize (lg_sl ([.int p0, .int p1, .int p2]) ++ List.replicate (3 - (lg_sl ([.int p0, .int p1, .int p2])).length) Slot.unset).toArray = ls at hl ⊢
  have hl : lv_has ls 3 [(0, .int p0), (1, .int p1), (2, .int p2)] := hl
  refine nameQ (fun Q hQ => ?_)
  refine lv_iload_n hx hb dX9_held_0 rfl (lv_at hl 0 rfl) ?_
  refine lv_iload_n hx hb dX9_held_1 rfl (lv_at hl 1 rfl) ?_
  refine lv_icmp_ge (tgt := 9) hx hb dX9_held_2 (by decide) (fun c_1 => ?_) (fun c_1 => ?_)
  · skip
    have f2 : p1.toInt ≤ p0.toInt := qi_le c_1 rfl rfl
    refine lv_iload_n hx hb dX9_held_9 rfl (lv_at hl 0 rfl) ?_
    refine lv_iload_n hx hb dX9_held_10 rfl (lv_at hl 2 rfl) ?_
    refine lv_icmp_le (tgt := 18) hx hb dX9_held_11 (by decide) (fun c_3 => ?_) (fun c_3 => ?_)
    · skip
      have f4 : p0.toInt ≤ p2.toInt := qi_le c_3 rfl rfl
      refine lv_iload_n hx hb dX9_held_18 rfl (lv_at hl 0 rfl) ?_
      rw [hQ]
      exact W.iret (v := p0) hx hb hr (fun t ht hW => ⟨⟨p0, p0, rfl, rfl, (ob_252 f2 f4)⟩, hS.F ht⟩) hS.2.2 dX9_held_19
    · skip
      have f5 : p2.toInt < p0.toInt := qi_nle c_3 rfl rfl
      refine lv_iload_n hx hb dX9_held_14 rfl (lv_at hl 2 rfl) ?_
      refine lv_goto (tgt := 19) hx hb dX9_held_15 (by decide) ?_
      rw [hQ]
      exact W.iret (v := p2) hx hb hr (fun t ht hW => ⟨⟨p2, p2, rfl, rfl, (ob_253 f2 f5)⟩, hS.F ht⟩) hS.2.2 dX9_held_19
  · skip
    have f6 : p0.toInt < p1.toInt := qi_nle c_1 rfl rfl
    refine lv_iload_n hx hb dX9_held_5 rfl (lv_at hl 1 rfl) ?_
    refine lv_goto (tgt := 19) hx hb dX9_held_6 (by decide) ?_
    rw [hQ]
    exact W.iret (v := p1) hx hb hr (fun t ht hW => ⟨⟨p1, p1, rfl, rfl, (ob_254 f6)⟩, hS.F ht⟩) hS.2.2 dX9_held_19
set_option maxHeartbeats 4000000 in
set_option maxRecDepth 100000 in
theorem kX9_leftOf (l : Launch) (dC : Nat → ClassId) (dI : Nat → Nat → Nat) (r : Nat → Nat) (ct : Nat → ClassId) (i_taped i_size i_faultKind i_at i_end i_token i_number i_bank i_rb i_codes i_within i_piled i_unitsInRule i_askHouse i_askTune i_acts i_undone i_laid i_knowns i_time : Int32) (f_text f_tunes f_houses f_hums f_told f_many f_ruleFrom f_ruleTo f_code f_eWhat f_eSign f_all f_kept f_was f_sTune f_boxAll : Nat → Int32) (J : Nat → Nat → Int32) (L : Nat → Nat → Int64) (p0 : Int32) (sz : Nat) (hI : (IM i_taped i_size i_faultKind i_at i_end i_bank i_rb i_acts i_undone i_laid i_knowns i_time f_tunes f_houses f_hums f_told f_many f_ruleFrom f_ruleTo f_code f_all f_kept f_was f_sTune f_boxAll)) (hp0 : 0 ≤ p0.toInt) (hp1 : p0.toInt + 1 ≤ (f_tunes (i_bank.toInt).toNat).toInt) : Met l yX9_leftOf (.code yX9_leftOf cX9_leftOf 2 (some .int) :: GW) { frames := 4, cells := 0, slots := 0, locals := 162 } (va_Pc [.ref (r 0), .int p0] (pR (dC, dI) (WM r ct i_taped i_size i_faultKind i_at i_end i_token i_number i_bank i_rb i_codes i_within i_piled i_unitsInRule i_askHouse i_askTune i_acts i_undone i_laid i_knowns i_time f_text f_tunes f_houses f_hums f_told f_many f_ruleFrom f_ruleTo f_code f_eWhat f_eSign f_all f_kept f_was f_sTune f_boxAll J L) (TM ct) sz)) (va_Qi (fun (r0 : Int32) (u : Int32) => r0 = u) (fun (u : Int32) (t : State) => (3 ≤ (f_many (p0.toInt + 5 * i_bank.toInt).toNat).toInt) ∧ ((f_many (p0.toInt + 5 * i_bank.toInt).toNat).toInt ≤ 8) ∧ (0 ≤ (f_all (p0.toInt + 10).toNat).toInt) ∧ ((f_all (p0.toInt + 10).toNat).toInt ≤ 99) ∧ (3 ≤ u.toInt) ∧ (u.toInt ≤ 8) ∧ (((u.toInt = 3) ∧ ((f_many (p0.toInt + 5 * i_bank.toInt).toNat).toInt ≤ (f_all (p0.toInt + 10).toNat).toInt + 3)) ∨ (u.toInt + (f_all (p0.toInt + 10).toNat).toInt = (f_many (p0.toInt + 5 * i_bank.toInt).toNat).toInt))) (fun q => sz ≤ q)) 0 0 (fun q => sz ≤ q) := by
  refine Met.ofW (cc := cX9_leftOf) (maxL := 2) (ret := (some .int)) (by decide) rfl ?_
  intro p e s m args below meth c0 s₁ B hml hv
  obtain ⟨rfl, hsz, hP, hK⟩ := hv
  have hx := B.exec
  have hb := B.bytes
  have hr := B.returns
  have hts := atoms_spec (ws := .code yX9_leftOf cX9_leftOf 2 (some .int) :: GW) B.pre
  have hG : ∀ w ∈ GW, w.before _ s = true := fun w h => hts w (List.mem_cons_of_mem _ h)
  have hown : s.vm.findClass RX9 = some m.cls := findClass_of_methodNamed B.named
  subst hsz
  have hS : va_S (fun q => s.heap.size ≤ q) s.heap s.heap [] := va_S.rf
  have hP : va_P (dC, dI) vwCl (WM r ct i_taped i_size i_faultKind i_at i_end i_token i_number i_bank i_rb i_codes i_within i_piled i_unitsInRule i_askHouse i_askTune i_acts i_undone i_laid i_knowns i_time f_text f_tunes f_houses f_hums f_told f_many f_ruleFrom f_ruleTo f_code f_eWhat f_eSign f_all f_kept f_was f_sTune f_boxAll J L) s.heap := hP
  have hl := lv_entry ([.ref (r 0), .int p0]) (n := 2) (Nat.le_of_ble_eq_true rfl)
  rw [lg_entry_eq]
  generalize (lg_sl ([.ref (r 0), .int p0]) ++ List.replicate (2 - (lg_sl ([.ref (r 0), .int p0])).length) Slot.unset).toArray = ls at hl ⊢
  have hl : lv_has ls 2 [(0, .ref (r 0)), (1, .int p0)] := hl
  refine nameQ (fun Q hQ => ?_)
  obtain ⟨im0, im1, im2, im3, im4, im5, im6, im7, im8, im9, im10, im11, im12, im13, im14, im15, im16, im17, im18, im19, im20, im21, im22, im23, im24, im25, im26, im27, im28, im29, im30, im31⟩ := id hI
  have f1 : 0 ≤ (f_tunes (i_bank.toInt).toNat).toInt ∧ (f_tunes (i_bank.toInt).toNat).toInt ≤ 5 := im21 (i_bank.toInt)
  have f2 : 0 ≤ (f_houses (i_bank.toInt).toNat).toInt ∧ (f_houses (i_bank.toInt).toNat).toInt ≤ 4 := im22 (i_bank.toInt)
  refine lv_aload_n hx hb dX9_leftOf_0 rfl (lv_at hl 0 rfl) ?_
  refine gM_X9_45_0 hx hb hG hown hK hP dX9_leftOf_1 ?_
  refine lv_iconst (v := 5) hx hb dX9_leftOf_4 (by decide) ?_
  refine lv_aload_n hx hb dX9_leftOf_5 rfl (lv_at hl 0 rfl) ?_
  refine gM_X9_249_0 hx hb hG hown hK hP dX9_leftOf_6 ?_
  refine lv_imul hx hb dX9_leftOf_9 ?_
  refine lv_topi (fun x3 ex3 => ?_)
  have f4 : x3.toInt = 5 * i_bank.toInt := (ob_257 (qi_mul ex3 zc_5 rfl (ob_255 im4 im5) (ob_256 im4 im5)))
  refine lv_iload_n hx hb dX9_leftOf_10 rfl (lv_at hl 1 rfl) ?_
  refine lv_iadd hx hb dX9_leftOf_11 ?_
  refine lv_topi (fun x5 ex5 => ?_)
  have f6 : x5.toInt = p0.toInt + 5 * i_bank.toInt := (ob_260 (qi_add ex5 rfl rfl (ob_258 im4 hp0 f4) (ob_259 im5 f1 hp1 f4)) f4)
  refine ldM_11 (mm := p0.toInt + 5 * i_bank.toInt) hx hb hK hP f6 (ob_261 im4 hp0) (ob_262 im5 f1 hp1) dX9_leftOf_12 ?_
  have f7 : 0 ≤ (f_many (p0.toInt + 5 * i_bank.toInt).toNat).toInt ∧ (f_many (p0.toInt + 5 * i_bank.toInt).toNat).toInt ≤ 8 := im23 (p0.toInt + 5 * i_bank.toInt)
  have f8 : 5 * i_bank.toInt ≤ p0.toInt + 5 * i_bank.toInt → p0.toInt + 5 * i_bank.toInt < 5 * i_bank.toInt + (f_tunes (i_bank.toInt).toNat).toInt → 3 ≤ (f_many (p0.toInt + 5 * i_bank.toInt).toNat).toInt := im30 (p0.toInt + 5 * i_bank.toInt)
  have f9 : (p0.toInt + 1 ≤ (f_tunes (i_bank.toInt).toNat).toInt) → (3 ≤ (f_many (p0.toInt + 5 * i_bank.toInt).toNat).toInt) := (ob_263 hp0 f8)
  have f10 : 3 ≤ (f_many (p0.toInt + 5 * i_bank.toInt).toNat).toInt := (ob_264 hp0 hp1 f8)
  refine lv_aload_n hx hb dX9_leftOf_13 rfl (lv_at hl 0 rfl) ?_
  refine gM_X9_88_0 hx hb hG hown hK hP dX9_leftOf_14 ?_
  refine lv_bipush (v := 10) hx hb dX9_leftOf_17 (by decide) ?_
  refine lv_iload_n hx hb dX9_leftOf_19 rfl (lv_at hl 1 rfl) ?_
  refine lv_iadd hx hb dX9_leftOf_20 ?_
  refine lv_topi (fun x11 ex11 => ?_)
  have f12 : x11.toInt = p0.toInt + 10 := (ob_267 (qi_add ex11 zc_10 rfl (ob_265 hp0 hp1) (ob_266 f1 hp1)))
  refine ldM_25 (mm := p0.toInt + 10) hx hb hK hP f12 (ob_268 hp0 hp1) (ob_269 f1 hp1) dX9_leftOf_21 ?_
  have f13 : 0 ≤ (f_all (p0.toInt + 10).toNat).toInt ∧ (f_all (p0.toInt + 10).toNat).toInt ≤ 99 := im26 (p0.toInt + 10) (ob_268 hp0 hp1) (ob_270 f1 hp0 hp1 f7 f10) (ob_271 f1 hp0 hp1 f7 f10)
  refine lv_isub hx hb dX9_leftOf_22 ?_
  refine lv_topi (fun x14 ex14 => ?_)
  have f15 : x14.toInt = -1 * (f_all (p0.toInt + 10).toNat).toInt + (f_many (p0.toInt + 5 * i_bank.toInt).toNat).toInt := (ob_274 (qi_sub ex14 rfl rfl (ob_272 f7 f10 f13) (ob_273 f7 f10 f13)))
  refine lv_iconst (v := 3) hx hb dX9_leftOf_23 (by decide) ?_
  refine lv_bipush (v := 8) hx hb dX9_leftOf_24 (by decide) ?_
  refine va_calli (va_runS (As := [.int x14, .int 3, .int 8]) (rest := []) ⟨hx, hb, hml, hown, hG⟩ (kX9_held l dC dI x14 3 8 s.heap.size) (va_cwS 3 hG (goodS gw1527 gw1528 gw138 gw1529) rfl rfl rfl hd_X9_held ⟨(Nat.le_of_ble_eq_true rfl), (Nat.le_of_ble_eq_true rfl)⟩) ⟨fbR, pR_in emptyP (emptyK hK)⟩ rfl rfl hl.1 rfl (lv_room (Nat.le_of_ble_eq_true rfl)) dX9_leftOf_26 ⟨(Nat.le_of_ble_eq_true rfl), (Nat.le_of_ble_eq_true rfl)⟩) hS (fun q hq h => absurd hq (Nat.not_lt.mpr h)) (fun q h => Nat.le_trans hS.1 h) (fun r_17 u_ t_ H16 locs ht hvm hw hB hz1 hk1 hS => ?_)
  subst hw
  have hP := wk hP hk1
  have f18 := hB
  rw [hQ]
  exact W.iret (v := r_17) hx hb hr (fun t ht hW => ⟨⟨r_17, r_17, rfl, rfl, ⟨(ob_275 f7 f10), (ob_276 f7 f10), (ob_277 f13), (ob_278 f13), (ob_279 f18 zc_8 f15 zc_3), (ob_280 f18 zc_8 f15 zc_3), (ob_281 f7 f13 f18 zc_8 f15 zc_3)⟩⟩, hS.F ht⟩) hS.2.2 dX9_leftOf_29
set_option maxHeartbeats 4000000 in
set_option maxRecDepth 100000 in
theorem kX9_priceOf (l : Launch) (dC : Nat → ClassId) (dI : Nat → Nat → Nat) (r : Nat → Nat) (ct : Nat → ClassId) (i_taped i_size i_faultKind i_at i_end i_token i_number i_bank i_rb i_codes i_within i_piled i_unitsInRule i_askHouse i_askTune i_acts i_undone i_laid i_knowns i_time : Int32) (f_text f_tunes f_houses f_hums f_told f_many f_ruleFrom f_ruleTo f_code f_eWhat f_eSign f_all f_kept f_was f_sTune f_boxAll : Nat → Int32) (J : Nat → Nat → Int32) (L : Nat → Nat → Int64) (p0 : Int32) (sz : Nat) (hI : (IM i_taped i_size i_faultKind i_at i_end i_bank i_rb i_acts i_undone i_laid i_knowns i_time f_tunes f_houses f_hums f_told f_many f_ruleFrom f_ruleTo f_code f_all f_kept f_was f_sTune f_boxAll)) (hp0 : 0 ≤ p0.toInt) (hp1 : p0.toInt + 1 ≤ (f_tunes (i_bank.toInt).toNat).toInt) : Met l yX9_priceOf (.code yX9_priceOf cX9_priceOf 2 (some .int) :: GW) { frames := 2, cells := 0, slots := 0, locals := 100 } (va_Pc [.ref (r 0), .int p0] (pR (dC, dI) (WM r ct i_taped i_size i_faultKind i_at i_end i_token i_number i_bank i_rb i_codes i_within i_piled i_unitsInRule i_askHouse i_askTune i_acts i_undone i_laid i_knowns i_time f_text f_tunes f_houses f_hums f_told f_many f_ruleFrom f_ruleTo f_code f_eWhat f_eSign f_all f_kept f_was f_sTune f_boxAll J L) (TM ct) sz)) (va_Qi (fun (r0 : Int32) (u : Int32) => r0 = u) (fun (u : Int32) (t : State) => True) (fun q => sz ≤ q)) 0 0 (fun q => sz ≤ q) := by
  refine Met.ofW (cc := cX9_priceOf) (maxL := 2) (ret := (some .int)) (by decide) rfl ?_
  intro p e s m args below meth c0 s₁ B hml hv
  obtain ⟨rfl, hsz, hP, hK⟩ := hv
  have hx := B.exec
  have hb := B.bytes
  have hr := B.returns
  have hts := atoms_spec (ws := .code yX9_priceOf cX9_priceOf 2 (some .int) :: GW) B.pre
  have hG : ∀ w ∈ GW, w.before _ s = true := fun w h => hts w (List.mem_cons_of_mem _ h)
  have hown : s.vm.findClass RX9 = some m.cls := findClass_of_methodNamed B.named
  subst hsz
  have hS : va_S (fun q => s.heap.size ≤ q) s.heap s.heap [] := va_S.rf
  have hP : va_P (dC, dI) vwCl (WM r ct i_taped i_size i_faultKind i_at i_end i_token i_number i_bank i_rb i_codes i_within i_piled i_unitsInRule i_askHouse i_askTune i_acts i_undone i_laid i_knowns i_time f_text f_tunes f_houses f_hums f_told f_many f_ruleFrom f_ruleTo f_code f_eWhat f_eSign f_all f_kept f_was f_sTune f_boxAll J L) s.heap := hP
  have hl := lv_entry ([.ref (r 0), .int p0]) (n := 2) (Nat.le_of_ble_eq_true rfl)
  rw [lg_entry_eq]
  generalize (lg_sl ([.ref (r 0), .int p0]) ++ List.replicate (2 - (lg_sl ([.ref (r 0), .int p0])).length) Slot.unset).toArray = ls at hl ⊢
  have hl : lv_has ls 2 [(0, .ref (r 0)), (1, .int p0)] := hl
  refine nameQ (fun Q hQ => ?_)
  obtain ⟨im0, im1, im2, im3, im4, im5, im6, im7, im8, im9, im10, im11, im12, im13, im14, im15, im16, im17, im18, im19, im20, im21, im22, im23, im24, im25, im26, im27, im28, im29, im30, im31⟩ := id hI
  have f1 : 0 ≤ (f_tunes (i_bank.toInt).toNat).toInt ∧ (f_tunes (i_bank.toInt).toNat).toInt ≤ 5 := im21 (i_bank.toInt)
  have f2 : 0 ≤ (f_houses (i_bank.toInt).toNat).toInt ∧ (f_houses (i_bank.toInt).toNat).toInt ≤ 4 := im22 (i_bank.toInt)
  refine lv_aload_n hx hb dX9_priceOf_0 rfl (lv_at hl 0 rfl) ?_
  refine gM_X9_42_0 hx hb hG hown hK hP dX9_priceOf_1 ?_
  refine lv_iconst (v := 5) hx hb dX9_priceOf_4 (by decide) ?_
  refine lv_aload_n hx hb dX9_priceOf_5 rfl (lv_at hl 0 rfl) ?_
  refine gM_X9_249_0 hx hb hG hown hK hP dX9_priceOf_6 ?_
  refine lv_imul hx hb dX9_priceOf_9 ?_
  refine lv_topi (fun x3 ex3 => ?_)
  have f4 : x3.toInt = 5 * i_bank.toInt := (ob_257 (qi_mul ex3 zc_5 rfl (ob_255 im4 im5) (ob_256 im4 im5)))
  refine lv_iload_n hx hb dX9_priceOf_10 rfl (lv_at hl 1 rfl) ?_
  refine lv_iadd hx hb dX9_priceOf_11 ?_
  refine lv_topi (fun x5 ex5 => ?_)
  have f6 : x5.toInt = p0.toInt + 5 * i_bank.toInt := (ob_260 (qi_add ex5 rfl rfl (ob_258 im4 hp0 f4) (ob_259 im5 f1 hp1 f4)) f4)
  refine ldM_10 (mm := p0.toInt + 5 * i_bank.toInt) hx hb hK hP f6 (ob_261 im4 hp0) (ob_262 im5 f1 hp1) dX9_priceOf_12 (fun x7 => ?_)
  rw [hQ]
  exact W.iret (v := x7) hx hb hr (fun t ht hW => ⟨⟨x7, x7, rfl, rfl, trivial⟩, hS.F ht⟩) hS.2.2 dX9_priceOf_13
set_option maxHeartbeats 4000000 in
set_option maxRecDepth 100000 in
theorem kX9_noteOf (l : Launch) (dC : Nat → ClassId) (dI : Nat → Nat → Nat) (r : Nat → Nat) (ct : Nat → ClassId) (i_taped i_size i_faultKind i_at i_end i_token i_number i_bank i_rb i_codes i_within i_piled i_unitsInRule i_askHouse i_askTune i_acts i_undone i_laid i_knowns i_time : Int32) (f_text f_tunes f_houses f_hums f_told f_many f_ruleFrom f_ruleTo f_code f_eWhat f_eSign f_all f_kept f_was f_sTune f_boxAll : Nat → Int32) (J : Nat → Nat → Int32) (L : Nat → Nat → Int64) (p0 p1 : Int32) (sz : Nat) (hI : (IM i_taped i_size i_faultKind i_at i_end i_bank i_rb i_acts i_undone i_laid i_knowns i_time f_tunes f_houses f_hums f_told f_many f_ruleFrom f_ruleTo f_code f_all f_kept f_was f_sTune f_boxAll)) (hp0 : 0 ≤ p0.toInt) (hp1 : p0.toInt + 1 ≤ (f_tunes (i_bank.toInt).toNat).toInt) (hp2 : 0 ≤ p1.toInt) (hp3 : (p1.toInt ≤ 2) ∨ (p1.toInt + (f_all (p0.toInt + 10).toNat).toInt + 1 ≤ (f_many (p0.toInt + 5 * i_bank.toInt).toNat).toInt)) : Met l yX9_noteOf (.code yX9_noteOf cX9_noteOf 4 (some .int) :: GW) { frames := 6, cells := 0, slots := 0, locals := 223 } (va_Pc [.ref (r 0), .int p0, .int p1] (pR (dC, dI) (WM r ct i_taped i_size i_faultKind i_at i_end i_token i_number i_bank i_rb i_codes i_within i_piled i_unitsInRule i_askHouse i_askTune i_acts i_undone i_laid i_knowns i_time f_text f_tunes f_houses f_hums f_told f_many f_ruleFrom f_ruleTo f_code f_eWhat f_eSign f_all f_kept f_was f_sTune f_boxAll J L) (TM ct) sz)) (va_Qi (fun (r0 : Int32) (u : Int32) => r0 = u) (fun (u : Int32) (t : State) => True) (fun q => sz ≤ q)) 0 0 (fun q => sz ≤ q) := by
  refine Met.ofW (cc := cX9_noteOf) (maxL := 4) (ret := (some .int)) (by decide) rfl ?_
  intro p e s m args below meth c0 s₁ B hml hv
  obtain ⟨rfl, hsz, hP, hK⟩ := hv
  have hx := B.exec
  have hb := B.bytes
  have hr := B.returns
  have hts := atoms_spec (ws := .code yX9_noteOf cX9_noteOf 4 (some .int) :: GW) B.pre
  have hG : ∀ w ∈ GW, w.before _ s = true := fun w h => hts w (List.mem_cons_of_mem _ h)
  have hown : s.vm.findClass RX9 = some m.cls := findClass_of_methodNamed B.named
  subst hsz
  have hS : va_S (fun q => s.heap.size ≤ q) s.heap s.heap [] := va_S.rf
  have hP : va_P (dC, dI) vwCl (WM r ct i_taped i_size i_faultKind i_at i_end i_token i_number i_bank i_rb i_codes i_within i_piled i_unitsInRule i_askHouse i_askTune i_acts i_undone i_laid i_knowns i_time f_text f_tunes f_houses f_hums f_told f_many f_ruleFrom f_ruleTo f_code f_eWhat f_eSign f_all f_kept f_was f_sTune f_boxAll J L) s.heap := hP
  have hl := lv_entry ([.ref (r 0), .int p0, .int p1]) (n := 4) (Nat.le_of_ble_eq_true rfl)
  rw [lg_entry_eq]
  generalize (lg_sl ([.ref (r 0), .int p0, .int p1]) ++ List.replicate (4 - (lg_sl ([.ref (r 0), .int p0, .int p1])).length) Slot.unset).toArray = ls at hl ⊢
  have hl : lv_has ls 4 [(0, .ref (r 0)), (1, .int p0), (2, .int p1)] := hl
  refine nameQ (fun Q hQ => ?_)
  obtain ⟨im0, im1, im2, im3, im4, im5, im6, im7, im8, im9, im10, im11, im12, im13, im14, im15, im16, im17, im18, im19, im20, im21, im22, im23, im24, im25, im26, im27, im28, im29, im30, im31⟩ := id hI
  have f1 : 0 ≤ (f_tunes (i_bank.toInt).toNat).toInt ∧ (f_tunes (i_bank.toInt).toNat).toInt ≤ 5 := im21 (i_bank.toInt)
  have f2 : 0 ≤ (f_houses (i_bank.toInt).toNat).toInt ∧ (f_houses (i_bank.toInt).toNat).toInt ≤ 4 := im22 (i_bank.toInt)
  have f3 : 0 ≤ (f_many (p0.toInt + 5 * i_bank.toInt).toNat).toInt ∧ (f_many (p0.toInt + 5 * i_bank.toInt).toNat).toInt ≤ 8 := im23 (p0.toInt + 5 * i_bank.toInt)
  have f4 : 5 * i_bank.toInt ≤ p0.toInt + 5 * i_bank.toInt → p0.toInt + 5 * i_bank.toInt < 5 * i_bank.toInt + (f_tunes (i_bank.toInt).toNat).toInt → 3 ≤ (f_many (p0.toInt + 5 * i_bank.toInt).toNat).toInt := im30 (p0.toInt + 5 * i_bank.toInt)
  have f5 : (p0.toInt + 1 ≤ (f_tunes (i_bank.toInt).toNat).toInt) → (3 ≤ (f_many (p0.toInt + 5 * i_bank.toInt).toNat).toInt) := (ob_263 hp0 f4)
  have f6 : 3 ≤ (f_many (p0.toInt + 5 * i_bank.toInt).toNat).toInt := (ob_264 hp0 hp1 f4)
  have f7 : 0 ≤ (f_all (p0.toInt + 10).toNat).toInt ∧ (f_all (p0.toInt + 10).toNat).toInt ≤ 99 := im26 (p0.toInt + 10) (ob_268 hp0 hp1) (ob_270 f1 hp0 hp1 f3 f6) (ob_271 f1 hp0 hp1 f3 f6)
  refine lv_iconst (v := 5) hx hb dX9_noteOf_0 (by decide) ?_
  refine lv_aload_n hx hb dX9_noteOf_1 rfl (lv_at hl 0 rfl) ?_
  refine gM_X9_249_0 hx hb hG hown hK hP dX9_noteOf_2 ?_
  refine lv_imul hx hb dX9_noteOf_5 ?_
  refine lv_topi (fun x8 ex8 => ?_)
  have f9 : x8.toInt = 5 * i_bank.toInt := (ob_257 (qi_mul ex8 zc_5 rfl (ob_255 im4 im5) (ob_256 im4 im5)))
  refine lv_iload_n hx hb dX9_noteOf_6 rfl (lv_at hl 1 rfl) ?_
  refine lv_iadd hx hb dX9_noteOf_7 ?_
  refine lv_topi (fun x10 ex10 => ?_)
  have f11 : x10.toInt = p0.toInt + 5 * i_bank.toInt := (ob_260 (qi_add ex10 rfl rfl (ob_258 im4 hp0 f9) (ob_259 im5 f1 hp1 f9)) f9)
  refine lv_istore_n (lv' := [(3, .int x10), (0, .ref (r 0)), (1, .int p0), (2, .int p1)]) hx hb dX9_noteOf_8 rfl hl (by decide) rfl (fun ls hl => ?_)
  refine lv_aload_n hx hb dX9_noteOf_9 rfl (lv_at hl 1 rfl) ?_
  refine gM_X9_48_0 hx hb hG hown hK hP dX9_noteOf_10 ?_
  refine lv_bipush (v := 8) hx hb dX9_noteOf_13 (by decide) ?_
  refine lv_iload_n hx hb dX9_noteOf_15 rfl (lv_at hl 0 rfl) ?_
  refine lv_imul hx hb dX9_noteOf_16 ?_
  refine lv_topi (fun x12 ex12 => ?_)
  have f13 : x12.toInt = 8 * p0.toInt + 40 * i_bank.toInt := (ob_284 (qi_mul ex12 zc_8 rfl (ob_282 im4 hp0 f11) (ob_283 im5 f1 hp1 f11)) f11)
  refine lv_aload_n hx hb dX9_noteOf_17 rfl (lv_at hl 1 rfl) ?_
  refine gM_X9_45_0 hx hb hG hown hK hP dX9_noteOf_18 ?_
  refine lv_iload_n hx hb dX9_noteOf_21 rfl (lv_at hl 0 rfl) ?_
  refine ldM_11 (mm := p0.toInt + 5 * i_bank.toInt) hx hb hK hP f11 (ob_261 im4 hp0) (ob_262 im5 f1 hp1) dX9_noteOf_22 ?_
  refine lv_iadd hx hb dX9_noteOf_23 ?_
  refine lv_topi (fun x14 ex14 => ?_)
  have f15 : x14.toInt = (f_many (p0.toInt + 5 * i_bank.toInt).toNat).toInt + 8 * p0.toInt + 40 * i_bank.toInt := (ob_287 (qi_add ex14 rfl rfl (ob_285 im4 hp0 f3 f13) (ob_286 im5 f1 hp1 f3 f13)) f13)
  refine lv_aload_n hx hb dX9_noteOf_24 rfl (lv_at hl 1 rfl) ?_
  refine lv_iload_n hx hb dX9_noteOf_25 rfl (lv_at hl 2 rfl) ?_
  refine va_calli (va_runV (As := [.int p0]) (rest := [.int x14, .ref (r 12)]) ⟨hx, hb, hml, hown, hG⟩ (kX9_leftOf l dC dI r ct i_taped i_size i_faultKind i_at i_end i_token i_number i_bank i_rb i_codes i_within i_piled i_unitsInRule i_askHouse i_askTune i_acts i_undone i_laid i_knowns i_time f_text f_tunes f_houses f_hums f_told f_many f_ruleFrom f_ruleTo f_code f_eWhat f_eSign f_all f_kept f_was f_sTune f_boxAll J L p0 s.heap.size hI (ob_288 hp0 hp1) (ob_289 f1 hp0 hp1)) (cwV 1 hG (goodV gw1523 gw1525 gw88 gw138 gw1526) rfl rfl rfl hd_X9_leftOf ⟨(Nat.le_of_ble_eq_true rfl), (Nat.le_of_ble_eq_true rfl)⟩) ⟨fbR, va_recv hK hP (ci := 8) (q0 := 0) rfl rfl, pR_in hP hK⟩ rfl rfl hl.1 rfl (lv_room (Nat.le_of_ble_eq_true rfl)) dX9_noteOf_26 ⟨(Nat.le_of_ble_eq_true rfl), (Nat.le_of_ble_eq_true rfl)⟩) hS (fun q hq h => absurd hq (Nat.not_lt.mpr h)) (fun q h => Nat.le_trans hS.1 h) (fun r_17 u_ t_ H16 locs ht hvm hw hB hz1 hk1 hS => ?_)
  subst hw
  have hP := wk hP hk1
  obtain ⟨f18, f19, f20, f21, f22, f23, f24⟩ := hB
  refine lv_isub hx hb dX9_noteOf_29 ?_
  refine lv_topi (fun x25 ex25 => ?_)
  have f26 : x25.toInt = (f_many (p0.toInt + 5 * i_bank.toInt).toNat).toInt + -1 * r_17.toInt + 8 * p0.toInt + 40 * i_bank.toInt := (ob_292 (qi_sub ex25 rfl rfl (ob_290 im4 hp0 f3 f23 f15) (ob_291 im5 f1 hp1 f3 f22 f15)) f15)
  refine lv_iload_n hx hb dX9_noteOf_30 rfl (lv_at hl 3 rfl) ?_
  refine lv_iadd hx hb dX9_noteOf_31 ?_
  refine lv_topi (fun x27 ex27 => ?_)
  have f28 : x27.toInt = (f_many (p0.toInt + 5 * i_bank.toInt).toNat).toInt + p1.toInt + -1 * r_17.toInt + 8 * p0.toInt + 40 * i_bank.toInt := (ob_295 (qi_add ex27 rfl rfl (ob_293 im4 hp0 hp2 f3 f23 f26) (ob_294 im5 f1 hp1 hp3 f3 f7 f22 f26)) f26)
  refine ldM_12 (mm := (f_many (p0.toInt + 5 * i_bank.toInt).toNat).toInt + p1.toInt + -1 * r_17.toInt + 8 * p0.toInt + 40 * i_bank.toInt) hx hb hK hP f28 (ob_296 im4 hp0 hp1 hp2 f4 f7 f24) (ob_297 im5 f1 hp1 hp3 f3 f22 f24) dX9_noteOf_32 (fun x29 => ?_)
  rw [hQ]
  exact W.iret (v := x29) hx hb hr (fun t ht hW => ⟨⟨x29, x29, rfl, rfl, trivial⟩, hS.F ht⟩) hS.2.2 dX9_noteOf_33
set_option maxHeartbeats 4000000 in
set_option maxRecDepth 100000 in
theorem kX9_likesOf (l : Launch) (dC : Nat → ClassId) (dI : Nat → Nat → Nat) (r : Nat → Nat) (ct : Nat → ClassId) (i_taped i_size i_faultKind i_at i_end i_token i_number i_bank i_rb i_codes i_within i_piled i_unitsInRule i_askHouse i_askTune i_acts i_undone i_laid i_knowns i_time : Int32) (f_text f_tunes f_houses f_hums f_told f_many f_ruleFrom f_ruleTo f_code f_eWhat f_eSign f_all f_kept f_was f_sTune f_boxAll : Nat → Int32) (J : Nat → Nat → Int32) (L : Nat → Nat → Int64) (p0 p1 : Int32) (sz : Nat) (hI : (IM i_taped i_size i_faultKind i_at i_end i_bank i_rb i_acts i_undone i_laid i_knowns i_time f_tunes f_houses f_hums f_told f_many f_ruleFrom f_ruleTo f_code f_all f_kept f_was f_sTune f_boxAll)) (hp0 : 0 ≤ p0.toInt) (hp1 : p0.toInt + 1 ≤ (f_houses (i_bank.toInt).toNat).toInt) (hp2 : 0 ≤ p1.toInt) (hp3 : p1.toInt ≤ 2) : Met l yX9_likesOf (.code yX9_likesOf cX9_likesOf 3 (some .int) :: GW) { frames := 2, cells := 0, slots := 0, locals := 100 } (va_Pc [.ref (r 0), .int p0, .int p1] (pR (dC, dI) (WM r ct i_taped i_size i_faultKind i_at i_end i_token i_number i_bank i_rb i_codes i_within i_piled i_unitsInRule i_askHouse i_askTune i_acts i_undone i_laid i_knowns i_time f_text f_tunes f_houses f_hums f_told f_many f_ruleFrom f_ruleTo f_code f_eWhat f_eSign f_all f_kept f_was f_sTune f_boxAll J L) (TM ct) sz)) (va_Qi (fun (r0 : Int32) (u : Int32) => r0 = u) (fun (u : Int32) (t : State) => True) (fun q => sz ≤ q)) 0 0 (fun q => sz ≤ q) := by
  refine Met.ofW (cc := cX9_likesOf) (maxL := 3) (ret := (some .int)) (by decide) rfl ?_
  intro p e s m args below meth c0 s₁ B hml hv
  obtain ⟨rfl, hsz, hP, hK⟩ := hv
  have hx := B.exec
  have hb := B.bytes
  have hr := B.returns
  have hts := atoms_spec (ws := .code yX9_likesOf cX9_likesOf 3 (some .int) :: GW) B.pre
  have hG : ∀ w ∈ GW, w.before _ s = true := fun w h => hts w (List.mem_cons_of_mem _ h)
  have hown : s.vm.findClass RX9 = some m.cls := findClass_of_methodNamed B.named
  subst hsz
  have hS : va_S (fun q => s.heap.size ≤ q) s.heap s.heap [] := va_S.rf
  have hP : va_P (dC, dI) vwCl (WM r ct i_taped i_size i_faultKind i_at i_end i_token i_number i_bank i_rb i_codes i_within i_piled i_unitsInRule i_askHouse i_askTune i_acts i_undone i_laid i_knowns i_time f_text f_tunes f_houses f_hums f_told f_many f_ruleFrom f_ruleTo f_code f_eWhat f_eSign f_all f_kept f_was f_sTune f_boxAll J L) s.heap := hP
  have hl := lv_entry ([.ref (r 0), .int p0, .int p1]) (n := 3) (Nat.le_of_ble_eq_true rfl)
  rw [lg_entry_eq]
  generalize (lg_sl ([.ref (r 0), .int p0, .int p1]) ++ List.replicate (3 - (lg_sl ([.ref (r 0), .int p0, .int p1])).length) Slot.unset).toArray = ls at hl ⊢
  have hl : lv_has ls 3 [(0, .ref (r 0)), (1, .int p0), (2, .int p1)] := hl
  refine nameQ (fun Q hQ => ?_)
  obtain ⟨im0, im1, im2, im3, im4, im5, im6, im7, im8, im9, im10, im11, im12, im13, im14, im15, im16, im17, im18, im19, im20, im21, im22, im23, im24, im25, im26, im27, im28, im29, im30, im31⟩ := id hI
  have f1 : 0 ≤ (f_tunes (i_bank.toInt).toNat).toInt ∧ (f_tunes (i_bank.toInt).toNat).toInt ≤ 5 := im21 (i_bank.toInt)
  have f2 : 0 ≤ (f_houses (i_bank.toInt).toNat).toInt ∧ (f_houses (i_bank.toInt).toNat).toInt ≤ 4 := im22 (i_bank.toInt)
  refine lv_aload_n hx hb dX9_likesOf_0 rfl (lv_at hl 0 rfl) ?_
  refine gM_X9_57_0 hx hb hG hown hK hP dX9_likesOf_1 ?_
  refine lv_iconst (v := 3) hx hb dX9_likesOf_4 (by decide) ?_
  refine lv_iconst (v := 4) hx hb dX9_likesOf_5 (by decide) ?_
  refine lv_aload_n hx hb dX9_likesOf_6 rfl (lv_at hl 0 rfl) ?_
  refine gM_X9_249_0 hx hb hG hown hK hP dX9_likesOf_7 ?_
  refine lv_imul hx hb dX9_likesOf_10 ?_
  refine lv_topi (fun x3 ex3 => ?_)
  have f4 : x3.toInt = 4 * i_bank.toInt := (ob_300 (qi_mul ex3 zc_4 rfl (ob_298 im4 im5) (ob_299 im4 im5)))
  refine lv_iload_n hx hb dX9_likesOf_11 rfl (lv_at hl 1 rfl) ?_
  refine lv_iadd hx hb dX9_likesOf_12 ?_
  refine lv_topi (fun x5 ex5 => ?_)
  have f6 : x5.toInt = p0.toInt + 4 * i_bank.toInt := (ob_303 (qi_add ex5 rfl rfl (ob_301 im4 hp0 f4) (ob_302 im5 f2 hp1 f4)) f4)
  refine lv_imul hx hb dX9_likesOf_13 ?_
  refine lv_topi (fun x7 ex7 => ?_)
  have f8 : x7.toInt = 3 * p0.toInt + 12 * i_bank.toInt := (ob_306 (qi_mul ex7 zc_3 rfl (ob_304 im4 hp0 f6) (ob_305 im5 f2 hp1 f6)) f6)
  refine lv_iload_n hx hb dX9_likesOf_14 rfl (lv_at hl 2 rfl) ?_
  refine lv_iadd hx hb dX9_likesOf_15 ?_
  refine lv_topi (fun x9 ex9 => ?_)
  have f10 : x9.toInt = p1.toInt + 3 * p0.toInt + 12 * i_bank.toInt := (ob_309 (qi_add ex9 rfl rfl (ob_307 im4 hp0 hp2 f8) (ob_308 im5 f2 hp1 hp3 f8)) f8)
  refine ldM_15 (mm := p1.toInt + 3 * p0.toInt + 12 * i_bank.toInt) hx hb hK hP f10 (ob_310 im4 hp0 hp2) (ob_311 im5 f2 hp1 hp3) dX9_likesOf_16 (fun x11 => ?_)
  rw [hQ]
  exact W.iret (v := x11) hx hb hr (fun t ht hW => ⟨⟨x11, x11, rfl, rfl, trivial⟩, hS.F ht⟩) hS.2.2 dX9_likesOf_17
set_option maxHeartbeats 4000000 in
set_option maxRecDepth 100000 in
theorem kX9_sameOf (l : Launch) (dC : Nat → ClassId) (dI : Nat → Nat → Nat) (r : Nat → Nat) (ct : Nat → ClassId) (i_taped i_size i_faultKind i_at i_end i_token i_number i_bank i_rb i_codes i_within i_piled i_unitsInRule i_askHouse i_askTune i_acts i_undone i_laid i_knowns i_time : Int32) (f_text f_tunes f_houses f_hums f_told f_many f_ruleFrom f_ruleTo f_code f_eWhat f_eSign f_all f_kept f_was f_sTune f_boxAll : Nat → Int32) (J : Nat → Nat → Int32) (L : Nat → Nat → Int64) (p0 p1 : Int32) (sz : Nat) (hI : (IM i_taped i_size i_faultKind i_at i_end i_bank i_rb i_acts i_undone i_laid i_knowns i_time f_tunes f_houses f_hums f_told f_many f_ruleFrom f_ruleTo f_code f_all f_kept f_was f_sTune f_boxAll)) (hp0 : 0 ≤ p0.toInt) (hp1 : p0.toInt + 1 ≤ (f_houses (i_bank.toInt).toNat).toInt) (hp2 : 0 ≤ p1.toInt) (hp3 : p1.toInt + 1 ≤ (f_tunes (i_bank.toInt).toNat).toInt) : Met l yX9_sameOf (.code yX9_sameOf cX9_sameOf 6 (some .int) :: GW) { frames := 8, cells := 0, slots := 0, locals := 286 } (va_Pc [.ref (r 0), .int p0, .int p1] (pR (dC, dI) (WM r ct i_taped i_size i_faultKind i_at i_end i_token i_number i_bank i_rb i_codes i_within i_piled i_unitsInRule i_askHouse i_askTune i_acts i_undone i_laid i_knowns i_time f_text f_tunes f_houses f_hums f_told f_many f_ruleFrom f_ruleTo f_code f_eWhat f_eSign f_all f_kept f_was f_sTune f_boxAll J L) (TM ct) sz)) (va_Qi (fun (r0 : Int32) (u : Int32) => r0 = u) (fun (u : Int32) (t : State) => True) (fun q => sz ≤ q)) 0 0 (fun q => sz ≤ q) := by
  refine Met.ofW (cc := cX9_sameOf) (maxL := 6) (ret := (some .int)) (by decide) rfl ?_
  intro p e s m args below meth c0 s₁ B hml hv
  obtain ⟨rfl, hsz, hP, hK⟩ := hv
  have hx := B.exec
  have hb := B.bytes
  have hr := B.returns
  have hts := atoms_spec (ws := .code yX9_sameOf cX9_sameOf 6 (some .int) :: GW) B.pre
  have hG : ∀ w ∈ GW, w.before _ s = true := fun w h => hts w (List.mem_cons_of_mem _ h)
  have hown : s.vm.findClass RX9 = some m.cls := findClass_of_methodNamed B.named
  subst hsz
  have hS : va_S (fun q => s.heap.size ≤ q) s.heap s.heap [] := va_S.rf
  have hP : va_P (dC, dI) vwCl (WM r ct i_taped i_size i_faultKind i_at i_end i_token i_number i_bank i_rb i_codes i_within i_piled i_unitsInRule i_askHouse i_askTune i_acts i_undone i_laid i_knowns i_time f_text f_tunes f_houses f_hums f_told f_many f_ruleFrom f_ruleTo f_code f_eWhat f_eSign f_all f_kept f_was f_sTune f_boxAll J L) s.heap := hP
  have hl := lv_entry ([.ref (r 0), .int p0, .int p1]) (n := 6) (Nat.le_of_ble_eq_true rfl)
  rw [lg_entry_eq]
  generalize (lg_sl ([.ref (r 0), .int p0, .int p1]) ++ List.replicate (6 - (lg_sl ([.ref (r 0), .int p0, .int p1])).length) Slot.unset).toArray = ls at hl ⊢
  have hl : lv_has ls 6 [(0, .ref (r 0)), (1, .int p0), (2, .int p1)] := hl
  refine nameQ (fun Q hQ => ?_)
  obtain ⟨im0, im1, im2, im3, im4, im5, im6, im7, im8, im9, im10, im11, im12, im13, im14, im15, im16, im17, im18, im19, im20, im21, im22, im23, im24, im25, im26, im27, im28, im29, im30, im31⟩ := id hI
  have f1 : 0 ≤ (f_tunes (i_bank.toInt).toNat).toInt ∧ (f_tunes (i_bank.toInt).toNat).toInt ≤ 5 := im21 (i_bank.toInt)
  have f2 : 0 ≤ (f_houses (i_bank.toInt).toNat).toInt ∧ (f_houses (i_bank.toInt).toNat).toInt ≤ 4 := im22 (i_bank.toInt)
  refine lv_iconst (v := 0) hx hb dX9_sameOf_0 (by decide) ?_
  refine lv_istore_n (lv' := [(3, .int 0), (0, .ref (r 0)), (1, .int p0), (2, .int p1)]) hx hb dX9_sameOf_1 rfl hl (by decide) rfl (fun ls hl => ?_)
  refine lv_iconst (v := 0) hx hb dX9_sameOf_2 (by decide) ?_
  refine lv_istore (lv' := [(4, .int 0), (3, .int 0), (0, .ref (r 0)), (1, .int p0), (2, .int p1)]) hx hb dX9_sameOf_3 hl (by decide) rfl (fun ls hl => ?_)
  have L5 : ∀ (N5 : Nat) (y5_3 y5_4 : Int32) (H5 : Heap) (locs : List Loc) (ls : Array Slot) (g5_0 : 0 ≤ y5_4.toInt) (g5_1 : y5_4.toInt ≤ 8) (hP : va_P (dC, dI) vwCl (WM r ct i_taped i_size i_faultKind i_at i_end i_token i_number i_bank i_rb i_codes i_within i_piled i_unitsInRule i_askHouse i_askTune i_acts i_undone i_laid i_knowns i_time f_text f_tunes f_houses f_hums f_told f_many f_ruleFrom f_ruleTo f_code f_eWhat f_eSign f_all f_kept f_was f_sTune f_boxAll J L) H5) (hS : va_S (fun q => s.heap.size ≤ q) s.heap H5 locs) (hl : lv_has ls 6 [(0, .ref (r 0)), (1, .int p0), (2, .int p1), (3, .int y5_3), (4, .int y5_4)]) (hM : -1 * y5_4.toInt + 8 < (N5 : Int)), W p l e { frames := 8, cells := 0, slots := 0, locals := 286 } s m ([.ref (r 0), .int p0, .int p1] : List Value).toArray below meth c0 H5 locs 0 0 Q (F0 m 5 ls []) := by
    intro N5
    induction N5 with
    | zero =>
      intro y5_3 y5_4 H5 locs ls g5_0 g5_1 hP hS hl hM
      exact ((ob_312 hM g5_0 g5_1)).elim
    | succ N5 ih5 =>
      intro y5_3 y5_4 H5 locs ls g5_0 g5_1 hP hS hl hM
      have hM5 := msucc hM
      refine lv_iload hx hb dX9_sameOf_5 (lv_at hl 4 rfl) ?_
      refine lv_aload_n hx hb dX9_sameOf_7 rfl (lv_at hl 0 rfl) ?_
      refine lv_iload_n hx hb dX9_sameOf_8 rfl (lv_at hl 2 rfl) ?_
      refine va_calli (va_runV (As := [.int p1]) (rest := [.int y5_4]) ⟨hx, hb, hml, hown, hG⟩ (kX9_leftOf l dC dI r ct i_taped i_size i_faultKind i_at i_end i_token i_number i_bank i_rb i_codes i_within i_piled i_unitsInRule i_askHouse i_askTune i_acts i_undone i_laid i_knowns i_time f_text f_tunes f_houses f_hums f_told f_many f_ruleFrom f_ruleTo f_code f_eWhat f_eSign f_all f_kept f_was f_sTune f_boxAll J L p1 H5.size hI (ob_288 hp2 hp3) (ob_289 f1 hp2 hp3)) (cwV 1 hG (goodV gw1523 gw1525 gw88 gw138 gw1526) rfl rfl rfl hd_X9_leftOf ⟨(Nat.le_of_ble_eq_true rfl), (Nat.le_of_ble_eq_true rfl)⟩) ⟨fbR, va_recv hK hP (ci := 8) (q0 := 0) rfl rfl, pR_in hP hK⟩ rfl rfl hl.1 rfl (lv_room (Nat.le_of_ble_eq_true rfl)) dX9_sameOf_9 ⟨(Nat.le_of_ble_eq_true rfl), (Nat.le_of_ble_eq_true rfl)⟩) hS (fun q hq h => absurd hq (Nat.not_lt.mpr h)) (fun q h => Nat.le_trans hS.1 h) (fun r_4 u_ t_ H3 locs ht hvm hw hB hz1 hk1 hS => ?_)
      subst hw
      have hP := wk hP hk1
      obtain ⟨f5, f6, f7, f8, f9, f10, f11⟩ := hB
      refine lv_icmp_ge (tgt := 71) hx hb dX9_sameOf_12 (by decide) (fun c_12 => ?_) (fun c_12 => ?_)
      · skip
        have f13 : r_4.toInt ≤ y5_4.toInt := qi_le c_12 rfl rfl
        refine lv_iload_n hx hb dX9_sameOf_71 rfl (lv_at hl 3 rfl) ?_
        rw [hQ]
        exact W.iret (v := y5_3) hx hb hr (fun t ht hW => ⟨⟨y5_3, y5_3, rfl, rfl, trivial⟩, hS.F ht⟩) hS.2.2 dX9_sameOf_72
      · skip
        have f14 : y5_4.toInt < r_4.toInt := qi_nle c_12 rfl rfl
        refine lv_aload_n hx hb dX9_sameOf_15 rfl (lv_at hl 0 rfl) ?_
        refine lv_iload_n hx hb dX9_sameOf_16 rfl (lv_at hl 2 rfl) ?_
        refine lv_iload hx hb dX9_sameOf_17 (lv_at hl 4 rfl) ?_
        refine va_calli (va_runV (As := [.int p1, .int y5_4]) (rest := []) ⟨hx, hb, hml, hown, hG⟩ (kX9_noteOf l dC dI r ct i_taped i_size i_faultKind i_at i_end i_token i_number i_bank i_rb i_codes i_within i_piled i_unitsInRule i_askHouse i_askTune i_acts i_undone i_laid i_knowns i_time f_text f_tunes f_houses f_hums f_told f_many f_ruleFrom f_ruleTo f_code f_eWhat f_eSign f_all f_kept f_was f_sTune f_boxAll J L p1 y5_4 H3.size hI (ob_288 hp2 hp3) (ob_289 f1 hp2 hp3) (ob_81 g5_0) (ob_313 f11 f14)) (cwV 2 hG (goodV gw1534 gw1536 gw89 gw138 gw1537) rfl rfl rfl hd_X9_noteOf ⟨(Nat.le_of_ble_eq_true rfl), (Nat.le_of_ble_eq_true rfl)⟩) ⟨fbR, va_recv hK hP (ci := 8) (q0 := 0) rfl rfl, pR_in hP hK⟩ rfl rfl hl.1 rfl (lv_room (Nat.le_of_ble_eq_true rfl)) dX9_sameOf_19 ⟨(Nat.le_of_ble_eq_true rfl), (Nat.le_of_ble_eq_true rfl)⟩) hS (fun q hq h => absurd hq (Nat.not_lt.mpr h)) (fun q h => Nat.le_trans hS.1 h) (fun r_16 u_ t_ H15 locs ht hvm hw hB hz1 hk1 hS => ?_)
        subst hw
        have hP := wk hP hk1
        refine lv_istore (lv' := [(5, .int r_16), (0, .ref (r 0)), (1, .int p0), (2, .int p1), (3, .int y5_3), (4, .int y5_4)]) hx hb dX9_sameOf_22 hl (by decide) rfl (fun ls hl => ?_)
        refine lv_iload_n hx hb dX9_sameOf_24 rfl (lv_at hl 4 rfl) ?_
        refine lv_iload hx hb dX9_sameOf_25 (lv_at hl 0 rfl) ?_
        refine lv_aload_n hx hb dX9_sameOf_27 rfl (lv_at hl 1 rfl) ?_
        refine lv_iload_n hx hb dX9_sameOf_28 rfl (lv_at hl 2 rfl) ?_
        refine lv_iconst (v := 0) hx hb dX9_sameOf_29 (by decide) ?_
        refine va_calli (va_runV (As := [.int p0, .int 0]) (rest := [.int r_16, .int y5_3]) ⟨hx, hb, hml, hown, hG⟩ (kX9_likesOf l dC dI r ct i_taped i_size i_faultKind i_at i_end i_token i_number i_bank i_rb i_codes i_within i_piled i_unitsInRule i_askHouse i_askTune i_acts i_undone i_laid i_knowns i_time f_text f_tunes f_houses f_hums f_told f_many f_ruleFrom f_ruleTo f_code f_eWhat f_eSign f_all f_kept f_was f_sTune f_boxAll J L p0 0 H15.size hI (ob_288 hp0 hp1) (ob_314 f2 hp0 hp1) (ob_1 zc_0) (ob_315 zc_0)) (cwV 2 hG (goodV gw1582 gw1584 gw99 gw138 gw1585) rfl rfl rfl hd_X9_likesOf ⟨(Nat.le_of_ble_eq_true rfl), (Nat.le_of_ble_eq_true rfl)⟩) ⟨fbR, va_recv hK hP (ci := 8) (q0 := 0) rfl rfl, pR_in hP hK⟩ rfl rfl hl.1 rfl (lv_room (Nat.le_of_ble_eq_true rfl)) dX9_sameOf_30 ⟨(Nat.le_of_ble_eq_true rfl), (Nat.le_of_ble_eq_true rfl)⟩) hS (fun q hq h => absurd hq (Nat.not_lt.mpr h)) (fun q h => Nat.le_trans hS.1 h) (fun r_18 u_ t_ H17 locs ht hvm hw hB hz1 hk1 hS => ?_)
        subst hw
        have hP := wk hP hk1
        refine lv_icmp_eq (tgt := 58) hx hb dX9_sameOf_33 (by decide) (fun c_19 => ?_) (fun c_19 => ?_)
        · skip
          have f20 : r_16.toInt = r_18.toInt := qi_eq c_19 rfl rfl
          refine lv_iconst (v := 1) hx hb dX9_sameOf_58 (by decide) ?_
          refine lv_goto (tgt := 63) hx hb dX9_sameOf_59 (by decide) ?_
          refine lv_iadd hx hb dX9_sameOf_63 ?_
          refine lv_topi (fun x21 ex21 => ?_)
          refine lv_istore_n (lv' := [(3, .int x21), (5, .int r_16), (0, .ref (r 0)), (1, .int p0), (2, .int p1), (4, .int y5_4)]) hx hb dX9_sameOf_64 rfl hl (by decide) rfl (fun ls hl => ?_)
          obtain ⟨x22, ex22⟩ : ∃ y : Int32, y = y5_4 + Int32.ofInt 1 := ⟨_, rfl⟩
          have f23 : x22.toInt = y5_4.toInt + 1 := (ob_84 (qi_add ex22 rfl (by decide) (ob_82 g5_0) (ob_316 g5_1)))
          refine lv_iinc (v := x22) (lv' := [(4, .int x22), (3, .int x21), (5, .int r_16), (0, .ref (r 0)), (1, .int p0), (2, .int p1)]) hx hb dX9_sameOf_65 hl (k := 5) rfl ex22.symm (by decide) rfl (fun ls hl => ?_)
          refine lv_goto (tgt := 5) hx hb dX9_sameOf_68 (by decide) ?_
          exact ih5 x21 x22 H17 _ _ (ob_92 g5_0 f23) (ob_317 f10 f14 f23) hP hS (lv_sub hl [3, 4, 5, 1, 0] rfl) (ob_318 hM5 f23)
        · skip
          have f24 : r_16.toInt ≠ r_18.toInt := qi_ne c_19 rfl rfl
          refine lv_iload hx hb dX9_sameOf_36 (lv_at hl 0 rfl) ?_
          refine lv_aload_n hx hb dX9_sameOf_38 rfl (lv_at hl 1 rfl) ?_
          refine lv_iload_n hx hb dX9_sameOf_39 rfl (lv_at hl 2 rfl) ?_
          refine lv_iconst (v := 1) hx hb dX9_sameOf_40 (by decide) ?_
          refine va_calli (va_runV (As := [.int p0, .int 1]) (rest := [.int r_16, .int y5_3]) ⟨hx, hb, hml, hown, hG⟩ (kX9_likesOf l dC dI r ct i_taped i_size i_faultKind i_at i_end i_token i_number i_bank i_rb i_codes i_within i_piled i_unitsInRule i_askHouse i_askTune i_acts i_undone i_laid i_knowns i_time f_text f_tunes f_houses f_hums f_told f_many f_ruleFrom f_ruleTo f_code f_eWhat f_eSign f_all f_kept f_was f_sTune f_boxAll J L p0 1 H17.size hI (ob_288 hp0 hp1) (ob_314 f2 hp0 hp1) (ob_14 zc_1) (ob_319 zc_1)) (cwV 2 hG (goodV gw1582 gw1584 gw99 gw138 gw1585) rfl rfl rfl hd_X9_likesOf ⟨(Nat.le_of_ble_eq_true rfl), (Nat.le_of_ble_eq_true rfl)⟩) ⟨fbR, va_recv hK hP (ci := 8) (q0 := 0) rfl rfl, pR_in hP hK⟩ rfl rfl hl.1 rfl (lv_room (Nat.le_of_ble_eq_true rfl)) dX9_sameOf_41 ⟨(Nat.le_of_ble_eq_true rfl), (Nat.le_of_ble_eq_true rfl)⟩) hS (fun q hq h => absurd hq (Nat.not_lt.mpr h)) (fun q h => Nat.le_trans hS.1 h) (fun r_26 u_ t_ H25 locs ht hvm hw hB hz1 hk1 hS => ?_)
          subst hw
          have hP := wk hP hk1
          refine lv_icmp_eq (tgt := 58) hx hb dX9_sameOf_44 (by decide) (fun c_27 => ?_) (fun c_27 => ?_)
          · skip
            have f28 : r_16.toInt = r_26.toInt := qi_eq c_27 rfl rfl
            refine lv_iconst (v := 1) hx hb dX9_sameOf_58 (by decide) ?_
            refine lv_goto (tgt := 63) hx hb dX9_sameOf_59 (by decide) ?_
            refine lv_iadd hx hb dX9_sameOf_63 ?_
            refine lv_topi (fun x29 ex29 => ?_)
            refine lv_istore_n (lv' := [(3, .int x29), (5, .int r_16), (0, .ref (r 0)), (1, .int p0), (2, .int p1), (4, .int y5_4)]) hx hb dX9_sameOf_64 rfl hl (by decide) rfl (fun ls hl => ?_)
            obtain ⟨x30, ex30⟩ : ∃ y : Int32, y = y5_4 + Int32.ofInt 1 := ⟨_, rfl⟩
            have f31 : x30.toInt = y5_4.toInt + 1 := (ob_84 (qi_add ex30 rfl (by decide) (ob_82 g5_0) (ob_316 g5_1)))
            refine lv_iinc (v := x30) (lv' := [(4, .int x30), (3, .int x29), (5, .int r_16), (0, .ref (r 0)), (1, .int p0), (2, .int p1)]) hx hb dX9_sameOf_65 hl (k := 5) rfl ex30.symm (by decide) rfl (fun ls hl => ?_)
            refine lv_goto (tgt := 5) hx hb dX9_sameOf_68 (by decide) ?_
            exact ih5 x29 x30 H25 _ _ (ob_92 g5_0 f31) (ob_317 f10 f14 f31) hP hS (lv_sub hl [3, 4, 5, 1, 0] rfl) (ob_318 hM5 f31)
          · skip
            have f32 : r_16.toInt ≠ r_26.toInt := qi_ne c_27 rfl rfl
            refine lv_iload hx hb dX9_sameOf_47 (lv_at hl 0 rfl) ?_
            refine lv_aload_n hx hb dX9_sameOf_49 rfl (lv_at hl 1 rfl) ?_
            refine lv_iload_n hx hb dX9_sameOf_50 rfl (lv_at hl 2 rfl) ?_
            refine lv_iconst (v := 2) hx hb dX9_sameOf_51 (by decide) ?_
            refine va_calli (va_runV (As := [.int p0, .int 2]) (rest := [.int r_16, .int y5_3]) ⟨hx, hb, hml, hown, hG⟩ (kX9_likesOf l dC dI r ct i_taped i_size i_faultKind i_at i_end i_token i_number i_bank i_rb i_codes i_within i_piled i_unitsInRule i_askHouse i_askTune i_acts i_undone i_laid i_knowns i_time f_text f_tunes f_houses f_hums f_told f_many f_ruleFrom f_ruleTo f_code f_eWhat f_eSign f_all f_kept f_was f_sTune f_boxAll J L p0 2 H25.size hI (ob_288 hp0 hp1) (ob_314 f2 hp0 hp1) (ob_246 zc_2) (ob_320 zc_2)) (cwV 2 hG (goodV gw1582 gw1584 gw99 gw138 gw1585) rfl rfl rfl hd_X9_likesOf ⟨(Nat.le_of_ble_eq_true rfl), (Nat.le_of_ble_eq_true rfl)⟩) ⟨fbR, va_recv hK hP (ci := 8) (q0 := 0) rfl rfl, pR_in hP hK⟩ rfl rfl hl.1 rfl (lv_room (Nat.le_of_ble_eq_true rfl)) dX9_sameOf_52 ⟨(Nat.le_of_ble_eq_true rfl), (Nat.le_of_ble_eq_true rfl)⟩) hS (fun q hq h => absurd hq (Nat.not_lt.mpr h)) (fun q h => Nat.le_trans hS.1 h) (fun r_34 u_ t_ H33 locs ht hvm hw hB hz1 hk1 hS => ?_)
            subst hw
            have hP := wk hP hk1
            refine lv_icmp_ne (tgt := 62) hx hb dX9_sameOf_55 (by decide) (fun c_35 => ?_) (fun c_35 => ?_)
            · skip
              have f36 : r_16.toInt ≠ r_34.toInt := qi_ne c_35 rfl rfl
              refine lv_iconst (v := 0) hx hb dX9_sameOf_62 (by decide) ?_
              refine lv_iadd hx hb dX9_sameOf_63 ?_
              refine lv_topi (fun x37 ex37 => ?_)
              refine lv_istore_n (lv' := [(3, .int x37), (5, .int r_16), (0, .ref (r 0)), (1, .int p0), (2, .int p1), (4, .int y5_4)]) hx hb dX9_sameOf_64 rfl hl (by decide) rfl (fun ls hl => ?_)
              obtain ⟨x38, ex38⟩ : ∃ y : Int32, y = y5_4 + Int32.ofInt 1 := ⟨_, rfl⟩
              have f39 : x38.toInt = y5_4.toInt + 1 := (ob_84 (qi_add ex38 rfl (by decide) (ob_82 g5_0) (ob_316 g5_1)))
              refine lv_iinc (v := x38) (lv' := [(4, .int x38), (3, .int x37), (5, .int r_16), (0, .ref (r 0)), (1, .int p0), (2, .int p1)]) hx hb dX9_sameOf_65 hl (k := 5) rfl ex38.symm (by decide) rfl (fun ls hl => ?_)
              refine lv_goto (tgt := 5) hx hb dX9_sameOf_68 (by decide) ?_
              exact ih5 x37 x38 H33 _ _ (ob_92 g5_0 f39) (ob_317 f10 f14 f39) hP hS (lv_sub hl [3, 4, 5, 1, 0] rfl) (ob_318 hM5 f39)
            · skip
              have f40 : r_16.toInt = r_34.toInt := qi_eq c_35 rfl rfl
              refine lv_iconst (v := 1) hx hb dX9_sameOf_58 (by decide) ?_
              refine lv_goto (tgt := 63) hx hb dX9_sameOf_59 (by decide) ?_
              refine lv_iadd hx hb dX9_sameOf_63 ?_
              refine lv_topi (fun x41 ex41 => ?_)
              refine lv_istore_n (lv' := [(3, .int x41), (5, .int r_16), (0, .ref (r 0)), (1, .int p0), (2, .int p1), (4, .int y5_4)]) hx hb dX9_sameOf_64 rfl hl (by decide) rfl (fun ls hl => ?_)
              obtain ⟨x42, ex42⟩ : ∃ y : Int32, y = y5_4 + Int32.ofInt 1 := ⟨_, rfl⟩
              have f43 : x42.toInt = y5_4.toInt + 1 := (ob_84 (qi_add ex42 rfl (by decide) (ob_82 g5_0) (ob_316 g5_1)))
              refine lv_iinc (v := x42) (lv' := [(4, .int x42), (3, .int x41), (5, .int r_16), (0, .ref (r 0)), (1, .int p0), (2, .int p1)]) hx hb dX9_sameOf_65 hl (k := 5) rfl ex42.symm (by decide) rfl (fun ls hl => ?_)
              refine lv_goto (tgt := 5) hx hb dX9_sameOf_68 (by decide) ?_
              exact ih5 x41 x42 H33 _ _ (ob_92 g5_0 f43) (ob_317 f10 f14 f43) hP hS (lv_sub hl [3, 4, 5, 1, 0] rfl) (ob_318 hM5 f43)
  exact L5 (-1 * (0 : Int32).toInt + 8 + 1).toNat 0 0 s.heap _ _ (ob_1 zc_0) (ob_321 zc_0) hP hS (lv_sub hl [2, 3, 4, 1, 0] rfl) (mlt (ob_322 zc_0))
set_option maxHeartbeats 4000000 in
set_option maxRecDepth 100000 in
theorem kX9_isFrom (l : Launch) (dC : Nat → ClassId) (dI : Nat → Nat → Nat) (r : Nat → Nat) (ct : Nat → ClassId) (i_taped i_size i_faultKind i_at i_end i_token i_number i_bank i_rb i_codes i_within i_piled i_unitsInRule i_askHouse i_askTune i_acts i_undone i_laid i_knowns i_time : Int32) (f_text f_tunes f_houses f_hums f_told f_many f_ruleFrom f_ruleTo f_code f_eWhat f_eSign f_all f_kept f_was f_sTune f_boxAll : Nat → Int32) (J : Nat → Nat → Int32) (L : Nat → Nat → Int64) (p0 p1 p2 p3 p4 : Int32) (sz : Nat) (hI : (IM i_taped i_size i_faultKind i_at i_end i_bank i_rb i_acts i_undone i_laid i_knowns i_time f_tunes f_houses f_hums f_told f_many f_ruleFrom f_ruleTo f_code f_all f_kept f_was f_sTune f_boxAll)) (hp0 : 0 ≤ p0.toInt) (hp1 : p0.toInt + 1 ≤ (f_tunes (i_bank.toInt).toNat).toInt) (hp2 : 0 ≤ p1.toInt) (hp3 : (p1.toInt ≤ 0) ∨ (p1.toInt + (f_all (p0.toInt + 10).toNat).toInt + 3 ≤ (f_many (p0.toInt + 5 * i_bank.toInt).toNat).toInt)) : Met l yX9_isFrom (.code yX9_isFrom cX9_isFrom 6 (some .boolean) :: GW) { frames := 8, cells := 0, slots := 0, locals := 286 } (va_Pc [.ref (r 0), .int p0, .int p1, .int p2, .int p3, .int p4] (pR (dC, dI) (WM r ct i_taped i_size i_faultKind i_at i_end i_token i_number i_bank i_rb i_codes i_within i_piled i_unitsInRule i_askHouse i_askTune i_acts i_undone i_laid i_knowns i_time f_text f_tunes f_houses f_hums f_told f_many f_ruleFrom f_ruleTo f_code f_eWhat f_eSign f_all f_kept f_was f_sTune f_boxAll J L) (TM ct) sz)) (va_Qi (fun (r0 : Int32) (u : Int32) => r0 = u) (fun (u : Int32) (t : State) => (((u.toInt = 0)) ∨ ((u.toInt = 1))) ∧ (0 ≤ u.toInt) ∧ (u.toInt ≤ 1)) (fun q => sz ≤ q)) 0 0 (fun q => sz ≤ q) := by
  refine Met.ofW (cc := cX9_isFrom) (maxL := 6) (ret := (some .boolean)) (by decide) rfl ?_
  intro p e s m args below meth c0 s₁ B hml hv
  obtain ⟨rfl, hsz, hP, hK⟩ := hv
  have hx := B.exec
  have hb := B.bytes
  have hr := B.returns
  have hts := atoms_spec (ws := .code yX9_isFrom cX9_isFrom 6 (some .boolean) :: GW) B.pre
  have hG : ∀ w ∈ GW, w.before _ s = true := fun w h => hts w (List.mem_cons_of_mem _ h)
  have hown : s.vm.findClass RX9 = some m.cls := findClass_of_methodNamed B.named
  subst hsz
  have hS : va_S (fun q => s.heap.size ≤ q) s.heap s.heap [] := va_S.rf
  have hP : va_P (dC, dI) vwCl (WM r ct i_taped i_size i_faultKind i_at i_end i_token i_number i_bank i_rb i_codes i_within i_piled i_unitsInRule i_askHouse i_askTune i_acts i_undone i_laid i_knowns i_time f_text f_tunes f_houses f_hums f_told f_many f_ruleFrom f_ruleTo f_code f_eWhat f_eSign f_all f_kept f_was f_sTune f_boxAll J L) s.heap := hP
  have hl := lv_entry ([.ref (r 0), .int p0, .int p1, .int p2, .int p3, .int p4]) (n := 6) (Nat.le_of_ble_eq_true rfl)
  rw [lg_entry_eq]
  generalize (lg_sl ([.ref (r 0), .int p0, .int p1, .int p2, .int p3, .int p4]) ++ List.replicate (6 - (lg_sl ([.ref (r 0), .int p0, .int p1, .int p2, .int p3, .int p4])).length) Slot.unset).toArray = ls at hl ⊢
  have hl : lv_has ls 6 [(0, .ref (r 0)), (1, .int p0), (2, .int p1), (3, .int p2), (4, .int p3), (5, .int p4)] := hl
  refine nameQ (fun Q hQ => ?_)
  obtain ⟨im0, im1, im2, im3, im4, im5, im6, im7, im8, im9, im10, im11, im12, im13, im14, im15, im16, im17, im18, im19, im20, im21, im22, im23, im24, im25, im26, im27, im28, im29, im30, im31⟩ := id hI
  have f1 : 0 ≤ (f_tunes (i_bank.toInt).toNat).toInt ∧ (f_tunes (i_bank.toInt).toNat).toInt ≤ 5 := im21 (i_bank.toInt)
  have f2 : 0 ≤ (f_houses (i_bank.toInt).toNat).toInt ∧ (f_houses (i_bank.toInt).toNat).toInt ≤ 4 := im22 (i_bank.toInt)
  have f3 : 0 ≤ (f_many (p0.toInt + 5 * i_bank.toInt).toNat).toInt ∧ (f_many (p0.toInt + 5 * i_bank.toInt).toNat).toInt ≤ 8 := im23 (p0.toInt + 5 * i_bank.toInt)
  have f4 : 5 * i_bank.toInt ≤ p0.toInt + 5 * i_bank.toInt → p0.toInt + 5 * i_bank.toInt < 5 * i_bank.toInt + (f_tunes (i_bank.toInt).toNat).toInt → 3 ≤ (f_many (p0.toInt + 5 * i_bank.toInt).toNat).toInt := im30 (p0.toInt + 5 * i_bank.toInt)
  have f5 : (p0.toInt + 1 ≤ (f_tunes (i_bank.toInt).toNat).toInt) → (3 ≤ (f_many (p0.toInt + 5 * i_bank.toInt).toNat).toInt) := (ob_263 hp0 f4)
  have f6 : 3 ≤ (f_many (p0.toInt + 5 * i_bank.toInt).toNat).toInt := (ob_264 hp0 hp1 f4)
  have f7 : 0 ≤ (f_all (p0.toInt + 10).toNat).toInt ∧ (f_all (p0.toInt + 10).toNat).toInt ≤ 99 := im26 (p0.toInt + 10) (ob_268 hp0 hp1) (ob_270 f1 hp0 hp1 f3 f6) (ob_271 f1 hp0 hp1 f3 f6)
  refine lv_aload_n hx hb dX9_isFrom_0 rfl (lv_at hl 0 rfl) ?_
  refine lv_iload_n hx hb dX9_isFrom_1 rfl (lv_at hl 1 rfl) ?_
  refine lv_iload_n hx hb dX9_isFrom_2 rfl (lv_at hl 2 rfl) ?_
  refine va_calli (va_runV (As := [.int p0, .int p1]) (rest := []) ⟨hx, hb, hml, hown, hG⟩ (kX9_noteOf l dC dI r ct i_taped i_size i_faultKind i_at i_end i_token i_number i_bank i_rb i_codes i_within i_piled i_unitsInRule i_askHouse i_askTune i_acts i_undone i_laid i_knowns i_time f_text f_tunes f_houses f_hums f_told f_many f_ruleFrom f_ruleTo f_code f_eWhat f_eSign f_all f_kept f_was f_sTune f_boxAll J L p0 p1 s.heap.size hI (ob_288 hp0 hp1) (ob_289 f1 hp0 hp1) (ob_81 hp2) (ob_323 hp3)) (cwV 2 hG (goodV gw1534 gw1536 gw89 gw138 gw1537) rfl rfl rfl hd_X9_noteOf ⟨(Nat.le_of_ble_eq_true rfl), (Nat.le_of_ble_eq_true rfl)⟩) ⟨fbR, va_recv hK hP (ci := 8) (q0 := 0) rfl rfl, pR_in hP hK⟩ rfl rfl hl.1 rfl (lv_room (Nat.le_of_ble_eq_true rfl)) dX9_isFrom_3 ⟨(Nat.le_of_ble_eq_true rfl), (Nat.le_of_ble_eq_true rfl)⟩) hS (fun q hq h => absurd hq (Nat.not_lt.mpr h)) (fun q h => Nat.le_trans hS.1 h) (fun r_9 u_ t_ H8 locs ht hvm hw hB hz1 hk1 hS => ?_)
  subst hw
  have hP := wk hP hk1
  refine lv_iload_n hx hb dX9_isFrom_6 rfl (lv_at hl 3 rfl) ?_
  refine lv_icmp_ne (tgt := 40) hx hb dX9_isFrom_7 (by decide) (fun c_10 => ?_) (fun c_10 => ?_)
  · skip
    have f11 : r_9.toInt ≠ p2.toInt := qi_ne c_10 rfl rfl
    refine lv_iconst (v := 0) hx hb dX9_isFrom_40 (by decide) ?_
    rw [hQ]
    exact W.zret (v := 0) hx hb hr (by decide) (fun t ht hW => ⟨⟨0, 0, rfl, rfl, ⟨(ob_324 zc_0), (ob_1 zc_0), (ob_11 zc_0)⟩⟩, hS.F ht⟩) hS.2.2 dX9_isFrom_41
  · skip
    have f12 : r_9.toInt = p2.toInt := qi_eq c_10 rfl rfl
    refine lv_aload_n hx hb dX9_isFrom_10 rfl (lv_at hl 0 rfl) ?_
    refine lv_iload_n hx hb dX9_isFrom_11 rfl (lv_at hl 1 rfl) ?_
    refine lv_iload_n hx hb dX9_isFrom_12 rfl (lv_at hl 2 rfl) ?_
    refine lv_iconst (v := 1) hx hb dX9_isFrom_13 (by decide) ?_
    refine lv_iadd hx hb dX9_isFrom_14 ?_
    refine lv_topi (fun x13 ex13 => ?_)
    have f14 : x13.toInt = p1.toInt + 1 := (ob_84 (qi_add ex13 rfl zc_1 (ob_82 hp2) (ob_325 hp3 f3 f7)))
    refine va_calli (va_runV (As := [.int p0, .int x13]) (rest := []) ⟨hx, hb, hml, hown, hG⟩ (kX9_noteOf l dC dI r ct i_taped i_size i_faultKind i_at i_end i_token i_number i_bank i_rb i_codes i_within i_piled i_unitsInRule i_askHouse i_askTune i_acts i_undone i_laid i_knowns i_time f_text f_tunes f_houses f_hums f_told f_many f_ruleFrom f_ruleTo f_code f_eWhat f_eSign f_all f_kept f_was f_sTune f_boxAll J L p0 x13 H8.size hI (ob_288 hp0 hp1) (ob_289 f1 hp0 hp1) (ob_92 hp2 f14) (ob_326 hp3 f14)) (cwV 2 hG (goodV gw1534 gw1536 gw89 gw138 gw1537) rfl rfl rfl hd_X9_noteOf ⟨(Nat.le_of_ble_eq_true rfl), (Nat.le_of_ble_eq_true rfl)⟩) ⟨fbR, va_recv hK hP (ci := 8) (q0 := 0) rfl rfl, pR_in hP hK⟩ rfl rfl hl.1 rfl (lv_room (Nat.le_of_ble_eq_true rfl)) dX9_isFrom_15 ⟨(Nat.le_of_ble_eq_true rfl), (Nat.le_of_ble_eq_true rfl)⟩) hS (fun q hq h => absurd hq (Nat.not_lt.mpr h)) (fun q h => Nat.le_trans hS.1 h) (fun r_16 u_ t_ H15 locs ht hvm hw hB hz1 hk1 hS => ?_)
    subst hw
    have hP := wk hP hk1
    refine lv_iload hx hb dX9_isFrom_18 (lv_at hl 4 rfl) ?_
    refine lv_icmp_ne (tgt := 40) hx hb dX9_isFrom_20 (by decide) (fun c_17 => ?_) (fun c_17 => ?_)
    · skip
      have f18 : r_16.toInt ≠ p3.toInt := qi_ne c_17 rfl rfl
      refine lv_iconst (v := 0) hx hb dX9_isFrom_40 (by decide) ?_
      rw [hQ]
      exact W.zret (v := 0) hx hb hr (by decide) (fun t ht hW => ⟨⟨0, 0, rfl, rfl, ⟨(ob_324 zc_0), (ob_1 zc_0), (ob_11 zc_0)⟩⟩, hS.F ht⟩) hS.2.2 dX9_isFrom_41
    · skip
      have f19 : r_16.toInt = p3.toInt := qi_eq c_17 rfl rfl
      refine lv_aload_n hx hb dX9_isFrom_23 rfl (lv_at hl 0 rfl) ?_
      refine lv_iload_n hx hb dX9_isFrom_24 rfl (lv_at hl 1 rfl) ?_
      refine lv_iload_n hx hb dX9_isFrom_25 rfl (lv_at hl 2 rfl) ?_
      refine lv_iconst (v := 2) hx hb dX9_isFrom_26 (by decide) ?_
      refine lv_iadd hx hb dX9_isFrom_27 ?_
      refine lv_topi (fun x20 ex20 => ?_)
      have f21 : x20.toInt = p1.toInt + 2 := (ob_329 (qi_add ex20 rfl zc_2 (ob_327 hp2) (ob_328 hp3 f3 f7)))
      refine va_calli (va_runV (As := [.int p0, .int x20]) (rest := []) ⟨hx, hb, hml, hown, hG⟩ (kX9_noteOf l dC dI r ct i_taped i_size i_faultKind i_at i_end i_token i_number i_bank i_rb i_codes i_within i_piled i_unitsInRule i_askHouse i_askTune i_acts i_undone i_laid i_knowns i_time f_text f_tunes f_houses f_hums f_told f_many f_ruleFrom f_ruleTo f_code f_eWhat f_eSign f_all f_kept f_was f_sTune f_boxAll J L p0 x20 H15.size hI (ob_288 hp0 hp1) (ob_289 f1 hp0 hp1) (ob_330 hp2 f21) (ob_331 hp3 f21)) (cwV 2 hG (goodV gw1534 gw1536 gw89 gw138 gw1537) rfl rfl rfl hd_X9_noteOf ⟨(Nat.le_of_ble_eq_true rfl), (Nat.le_of_ble_eq_true rfl)⟩) ⟨fbR, va_recv hK hP (ci := 8) (q0 := 0) rfl rfl, pR_in hP hK⟩ rfl rfl hl.1 rfl (lv_room (Nat.le_of_ble_eq_true rfl)) dX9_isFrom_28 ⟨(Nat.le_of_ble_eq_true rfl), (Nat.le_of_ble_eq_true rfl)⟩) hS (fun q hq h => absurd hq (Nat.not_lt.mpr h)) (fun q h => Nat.le_trans hS.1 h) (fun r_23 u_ t_ H22 locs ht hvm hw hB hz1 hk1 hS => ?_)
      subst hw
      have hP := wk hP hk1
      refine lv_iload hx hb dX9_isFrom_31 (lv_at hl 5 rfl) ?_
      refine lv_icmp_ne (tgt := 40) hx hb dX9_isFrom_33 (by decide) (fun c_24 => ?_) (fun c_24 => ?_)
      · skip
        have f25 : r_23.toInt ≠ p4.toInt := qi_ne c_24 rfl rfl
        refine lv_iconst (v := 0) hx hb dX9_isFrom_40 (by decide) ?_
        rw [hQ]
        exact W.zret (v := 0) hx hb hr (by decide) (fun t ht hW => ⟨⟨0, 0, rfl, rfl, ⟨(ob_324 zc_0), (ob_1 zc_0), (ob_11 zc_0)⟩⟩, hS.F ht⟩) hS.2.2 dX9_isFrom_41
      · skip
        have f26 : r_23.toInt = p4.toInt := qi_eq c_24 rfl rfl
        refine lv_iconst (v := 1) hx hb dX9_isFrom_36 (by decide) ?_
        refine lv_goto (tgt := 41) hx hb dX9_isFrom_37 (by decide) ?_
        rw [hQ]
        exact W.zret (v := 1) hx hb hr (by decide) (fun t ht hW => ⟨⟨1, 1, rfl, rfl, ⟨(ob_332 zc_1), (ob_14 zc_1), (ob_15 zc_1)⟩⟩, hS.F ht⟩) hS.2.2 dX9_isFrom_41
set_option maxHeartbeats 4000000 in
set_option maxRecDepth 100000 in
theorem kX9_isInIt (l : Launch) (dC : Nat → ClassId) (dI : Nat → Nat → Nat) (r : Nat → Nat) (ct : Nat → ClassId) (i_taped i_size i_faultKind i_at i_end i_token i_number i_bank i_rb i_codes i_within i_piled i_unitsInRule i_askHouse i_askTune i_acts i_undone i_laid i_knowns i_time : Int32) (f_text f_tunes f_houses f_hums f_told f_many f_ruleFrom f_ruleTo f_code f_eWhat f_eSign f_all f_kept f_was f_sTune f_boxAll : Nat → Int32) (J : Nat → Nat → Int32) (L : Nat → Nat → Int64) (p0 p1 p2 p3 : Int32) (sz : Nat) (hI : (IM i_taped i_size i_faultKind i_at i_end i_bank i_rb i_acts i_undone i_laid i_knowns i_time f_tunes f_houses f_hums f_told f_many f_ruleFrom f_ruleTo f_code f_all f_kept f_was f_sTune f_boxAll)) (hp0 : 0 ≤ p0.toInt) (hp1 : p0.toInt + 1 ≤ (f_tunes (i_bank.toInt).toNat).toInt) : Met l yX9_isInIt (.code yX9_isInIt cX9_isInIt 6 (some .boolean) :: GW) { frames := 10, cells := 0, slots := 0, locals := 351 } (va_Pc [.ref (r 0), .int p0, .int p1, .int p2, .int p3] (pR (dC, dI) (WM r ct i_taped i_size i_faultKind i_at i_end i_token i_number i_bank i_rb i_codes i_within i_piled i_unitsInRule i_askHouse i_askTune i_acts i_undone i_laid i_knowns i_time f_text f_tunes f_houses f_hums f_told f_many f_ruleFrom f_ruleTo f_code f_eWhat f_eSign f_all f_kept f_was f_sTune f_boxAll J L) (TM ct) sz)) (va_Qi (fun (r0 : Int32) (u : Int32) => r0 = u) (fun (u : Int32) (t : State) => (((u.toInt = 0)) ∨ ((u.toInt = 1))) ∧ (0 ≤ u.toInt) ∧ (u.toInt ≤ 1)) (fun q => sz ≤ q)) 0 0 (fun q => sz ≤ q) := by
  refine Met.ofW (cc := cX9_isInIt) (maxL := 6) (ret := (some .boolean)) (by decide) rfl ?_
  intro p e s m args below meth c0 s₁ B hml hv
  obtain ⟨rfl, hsz, hP, hK⟩ := hv
  have hx := B.exec
  have hb := B.bytes
  have hr := B.returns
  have hts := atoms_spec (ws := .code yX9_isInIt cX9_isInIt 6 (some .boolean) :: GW) B.pre
  have hG : ∀ w ∈ GW, w.before _ s = true := fun w h => hts w (List.mem_cons_of_mem _ h)
  have hown : s.vm.findClass RX9 = some m.cls := findClass_of_methodNamed B.named
  subst hsz
  have hS : va_S (fun q => s.heap.size ≤ q) s.heap s.heap [] := va_S.rf
  have hP : va_P (dC, dI) vwCl (WM r ct i_taped i_size i_faultKind i_at i_end i_token i_number i_bank i_rb i_codes i_within i_piled i_unitsInRule i_askHouse i_askTune i_acts i_undone i_laid i_knowns i_time f_text f_tunes f_houses f_hums f_told f_many f_ruleFrom f_ruleTo f_code f_eWhat f_eSign f_all f_kept f_was f_sTune f_boxAll J L) s.heap := hP
  have hl := lv_entry ([.ref (r 0), .int p0, .int p1, .int p2, .int p3]) (n := 6) (Nat.le_of_ble_eq_true rfl)
  rw [lg_entry_eq]
  generalize (lg_sl ([.ref (r 0), .int p0, .int p1, .int p2, .int p3]) ++ List.replicate (6 - (lg_sl ([.ref (r 0), .int p0, .int p1, .int p2, .int p3])).length) Slot.unset).toArray = ls at hl ⊢
  have hl : lv_has ls 6 [(0, .ref (r 0)), (1, .int p0), (2, .int p1), (3, .int p2), (4, .int p3)] := hl
  refine nameQ (fun Q hQ => ?_)
  obtain ⟨im0, im1, im2, im3, im4, im5, im6, im7, im8, im9, im10, im11, im12, im13, im14, im15, im16, im17, im18, im19, im20, im21, im22, im23, im24, im25, im26, im27, im28, im29, im30, im31⟩ := id hI
  have f1 : 0 ≤ (f_tunes (i_bank.toInt).toNat).toInt ∧ (f_tunes (i_bank.toInt).toNat).toInt ≤ 5 := im21 (i_bank.toInt)
  have f2 : 0 ≤ (f_houses (i_bank.toInt).toNat).toInt ∧ (f_houses (i_bank.toInt).toNat).toInt ≤ 4 := im22 (i_bank.toInt)
  refine lv_iconst (v := 0) hx hb dX9_isInIt_0 (by decide) ?_
  refine lv_istore (lv' := [(5, .int 0), (0, .ref (r 0)), (1, .int p0), (2, .int p1), (3, .int p2), (4, .int p3)]) hx hb dX9_isInIt_1 hl (by decide) rfl (fun ls hl => ?_)
  have L3 : ∀ (N3 : Nat) (y3_5 : Int32) (H3 : Heap) (locs : List Loc) (ls : Array Slot) (g3_0 : 0 ≤ y3_5.toInt) (g3_1 : y3_5.toInt ≤ 6) (hP : va_P (dC, dI) vwCl (WM r ct i_taped i_size i_faultKind i_at i_end i_token i_number i_bank i_rb i_codes i_within i_piled i_unitsInRule i_askHouse i_askTune i_acts i_undone i_laid i_knowns i_time f_text f_tunes f_houses f_hums f_told f_many f_ruleFrom f_ruleTo f_code f_eWhat f_eSign f_all f_kept f_was f_sTune f_boxAll J L) H3) (hS : va_S (fun q => s.heap.size ≤ q) s.heap H3 locs) (hl : lv_has ls 6 [(0, .ref (r 0)), (1, .int p0), (2, .int p1), (3, .int p2), (4, .int p3), (5, .int y3_5)]) (hM : -1 * y3_5.toInt + 6 < (N3 : Int)), W p l e { frames := 10, cells := 0, slots := 0, locals := 351 } s m ([.ref (r 0), .int p0, .int p1, .int p2, .int p3] : List Value).toArray below meth c0 H3 locs 0 0 Q (F0 m 3 ls []) := by
    intro N3
    induction N3 with
    | zero =>
      intro y3_5 H3 locs ls g3_0 g3_1 hP hS hl hM
      exact ((ob_333 hM g3_0 g3_1)).elim
    | succ N3 ih3 =>
      intro y3_5 H3 locs ls g3_0 g3_1 hP hS hl hM
      have hM3 := msucc hM
      refine lv_iload hx hb dX9_isInIt_3 (lv_at hl 5 rfl) ?_
      refine lv_iconst (v := 2) hx hb dX9_isInIt_5 (by decide) ?_
      refine lv_iadd hx hb dX9_isInIt_6 ?_
      refine lv_topi (fun x3 ex3 => ?_)
      have f4 : x3.toInt = y3_5.toInt + 2 := (ob_329 (qi_add ex3 rfl zc_2 (ob_334 g3_0 g3_1 hM3) (ob_335 g3_0 g3_1 hM3)))
      refine lv_aload_n hx hb dX9_isInIt_7 rfl (lv_at hl 0 rfl) ?_
      refine lv_iload_n hx hb dX9_isInIt_8 rfl (lv_at hl 1 rfl) ?_
      refine va_calli (va_runV (As := [.int p0]) (rest := [.int x3]) ⟨hx, hb, hml, hown, hG⟩ (kX9_leftOf l dC dI r ct i_taped i_size i_faultKind i_at i_end i_token i_number i_bank i_rb i_codes i_within i_piled i_unitsInRule i_askHouse i_askTune i_acts i_undone i_laid i_knowns i_time f_text f_tunes f_houses f_hums f_told f_many f_ruleFrom f_ruleTo f_code f_eWhat f_eSign f_all f_kept f_was f_sTune f_boxAll J L p0 H3.size hI (ob_288 hp0 hp1) (ob_289 f1 hp0 hp1)) (cwV 1 hG (goodV gw1523 gw1525 gw88 gw138 gw1526) rfl rfl rfl hd_X9_leftOf ⟨(Nat.le_of_ble_eq_true rfl), (Nat.le_of_ble_eq_true rfl)⟩) ⟨fbR, va_recv hK hP (ci := 8) (q0 := 0) rfl rfl, pR_in hP hK⟩ rfl rfl hl.1 rfl (lv_room (Nat.le_of_ble_eq_true rfl)) dX9_isInIt_9 ⟨(Nat.le_of_ble_eq_true rfl), (Nat.le_of_ble_eq_true rfl)⟩) hS (fun q hq h => absurd hq (Nat.not_lt.mpr h)) (fun q h => Nat.le_trans hS.1 h) (fun r_6 u_ t_ H5 locs ht hvm hw hB hz1 hk1 hS => ?_)
      subst hw
      have hP := wk hP hk1
      obtain ⟨f7, f8, f9, f10, f11, f12, f13⟩ := hB
      refine lv_icmp_ge (tgt := 37) hx hb dX9_isInIt_12 (by decide) (fun c_14 => ?_) (fun c_14 => ?_)
      · skip
        have f15 : r_6.toInt ≤ x3.toInt := qi_le c_14 rfl rfl
        refine lv_iconst (v := 0) hx hb dX9_isInIt_37 (by decide) ?_
        rw [hQ]
        exact W.zret (v := 0) hx hb hr (by decide) (fun t ht hW => ⟨⟨0, 0, rfl, rfl, ⟨(ob_324 zc_0), (ob_1 zc_0), (ob_11 zc_0)⟩⟩, hS.F ht⟩) hS.2.2 dX9_isInIt_38
      · skip
        have f16 : x3.toInt < r_6.toInt := qi_nle c_14 rfl rfl
        refine lv_aload_n hx hb dX9_isInIt_15 rfl (lv_at hl 0 rfl) ?_
        refine lv_iload_n hx hb dX9_isInIt_16 rfl (lv_at hl 1 rfl) ?_
        refine lv_iload hx hb dX9_isInIt_17 (lv_at hl 5 rfl) ?_
        refine lv_iload_n hx hb dX9_isInIt_19 rfl (lv_at hl 2 rfl) ?_
        refine lv_iload_n hx hb dX9_isInIt_20 rfl (lv_at hl 3 rfl) ?_
        refine lv_iload hx hb dX9_isInIt_21 (lv_at hl 4 rfl) ?_
        refine va_calli (va_runV (As := [.int p0, .int y3_5, .int p1, .int p2, .int p3]) (rest := []) ⟨hx, hb, hml, hown, hG⟩ (kX9_isFrom l dC dI r ct i_taped i_size i_faultKind i_at i_end i_token i_number i_bank i_rb i_codes i_within i_piled i_unitsInRule i_askHouse i_askTune i_acts i_undone i_laid i_knowns i_time f_text f_tunes f_houses f_hums f_told f_many f_ruleFrom f_ruleTo f_code f_eWhat f_eSign f_all f_kept f_was f_sTune f_boxAll J L p0 y3_5 p1 p2 p3 H5.size hI (ob_288 hp0 hp1) (ob_289 f1 hp0 hp1) (ob_81 g3_0) (ob_336 f13 f16 f4)) (cwV 5 hG (goodV gw1594 gw1596 gw102 gw138 gw1597) rfl rfl rfl hd_X9_isFrom ⟨(Nat.le_of_ble_eq_true rfl), (Nat.le_of_ble_eq_true rfl)⟩) ⟨fbR, va_recv hK hP (ci := 8) (q0 := 0) rfl rfl, pR_in hP hK⟩ rfl rfl hl.1 rfl (lv_room (Nat.le_of_ble_eq_true rfl)) dX9_isInIt_23 ⟨(Nat.le_of_ble_eq_true rfl), (Nat.le_of_ble_eq_true rfl)⟩) hS (fun q hq h => absurd hq (Nat.not_lt.mpr h)) (fun q h => Nat.le_trans hS.1 h) (fun r_18 u_ t_ H17 locs ht hvm hw hB hz1 hk1 hS => ?_)
        subst hw
        have hP := wk hP hk1
        obtain ⟨f19, f20, f21⟩ := hB
        refine lv_if_eq (tgt := 31) hx hb dX9_isInIt_26 (by decide) (fun c_22 => ?_) (fun c_22 => ?_)
        · skip
          have f23 : r_18.toInt = 0 := qi_eq c_22 rfl zc_0
          have f24 : r_18.toInt = 0 := (ob_166 f20 f21 f23)
          obtain ⟨x25, ex25⟩ : ∃ y : Int32, y = y3_5 + Int32.ofInt 1 := ⟨_, rfl⟩
          have f26 : x25.toInt = y3_5.toInt + 1 := (ob_84 (qi_add ex25 rfl (by decide) (ob_82 g3_0) (ob_337 g3_1)))
          refine lv_iinc (v := x25) (lv' := [(5, .int x25), (0, .ref (r 0)), (1, .int p0), (2, .int p1), (3, .int p2), (4, .int p3)]) hx hb dX9_isInIt_31 hl (k := 5) rfl ex25.symm (by decide) rfl (fun ls hl => ?_)
          refine lv_goto (tgt := 3) hx hb dX9_isInIt_34 (by decide) ?_
          exact ih3 x25 H17 _ _ (ob_92 g3_0 f26) (ob_338 f12 f16 f4 f26) hP hS (lv_sub hl [1, 2, 3, 4, 5, 0] rfl) (ob_339 hM3 f26)
        · skip
          have f27 : r_18.toInt ≠ 0 := qi_ne c_22 rfl zc_0
          have f28 : 1 ≤ r_18.toInt := (ob_340 f19 f27)
          have f29 : r_18.toInt = 1 := (ob_105 f20 f21 f28)
          refine lv_iconst (v := 1) hx hb dX9_isInIt_29 (by decide) ?_
          rw [hQ]
          exact W.zret (v := 1) hx hb hr (by decide) (fun t ht hW => ⟨⟨1, 1, rfl, rfl, ⟨(ob_332 zc_1), (ob_14 zc_1), (ob_15 zc_1)⟩⟩, hS.F ht⟩) hS.2.2 dX9_isInIt_30
  exact L3 (-1 * (0 : Int32).toInt + 6 + 1).toNat 0 s.heap _ _ (ob_1 zc_0) (ob_226 zc_0) hP hS (lv_sub hl [1, 2, 3, 4, 5, 0] rfl) (mlt (ob_341 zc_0))
set_option maxHeartbeats 4000000 in
set_option maxRecDepth 100000 in
theorem kX9_turnOf (l : Launch) (dC : Nat → ClassId) (dI : Nat → Nat → Nat) (r : Nat → Nat) (ct : Nat → ClassId) (i_taped i_size i_faultKind i_at i_end i_token i_number i_bank i_rb i_codes i_within i_piled i_unitsInRule i_askHouse i_askTune i_acts i_undone i_laid i_knowns i_time : Int32) (f_text f_tunes f_houses f_hums f_told f_many f_ruleFrom f_ruleTo f_code f_eWhat f_eSign f_all f_kept f_was f_sTune f_boxAll : Nat → Int32) (J : Nat → Nat → Int32) (L : Nat → Nat → Int64) (p0 p1 : Int32) (sz : Nat) (hI : (IM i_taped i_size i_faultKind i_at i_end i_bank i_rb i_acts i_undone i_laid i_knowns i_time f_tunes f_houses f_hums f_told f_many f_ruleFrom f_ruleTo f_code f_all f_kept f_was f_sTune f_boxAll)) (hp0 : 0 ≤ p0.toInt) (hp1 : p0.toInt + 1 ≤ (f_houses (i_bank.toInt).toNat).toInt) (hp2 : 0 ≤ p1.toInt) (hp3 : p1.toInt + 1 ≤ (f_tunes (i_bank.toInt).toNat).toInt) : Met l yX9_turnOf (.code yX9_turnOf cX9_turnOf 3 (some .int) :: GW) { frames := 12, cells := 0, slots := 0, locals := 416 } (va_Pc [.ref (r 0), .int p0, .int p1] (pR (dC, dI) (WM r ct i_taped i_size i_faultKind i_at i_end i_token i_number i_bank i_rb i_codes i_within i_piled i_unitsInRule i_askHouse i_askTune i_acts i_undone i_laid i_knowns i_time f_text f_tunes f_houses f_hums f_told f_many f_ruleFrom f_ruleTo f_code f_eWhat f_eSign f_all f_kept f_was f_sTune f_boxAll J L) (TM ct) sz)) (va_Qi (fun (r0 : Int32) (u : Int32) => r0 = u) (fun (u : Int32) (t : State) => (((u.toInt = 0)) ∨ ((u.toInt = 1))) ∧ (0 ≤ u.toInt) ∧ (u.toInt ≤ 1)) (fun q => sz ≤ q)) 0 0 (fun q => sz ≤ q) := by
  refine Met.ofW (cc := cX9_turnOf) (maxL := 3) (ret := (some .int)) (by decide) rfl ?_
  intro p e s m args below meth c0 s₁ B hml hv
  obtain ⟨rfl, hsz, hP, hK⟩ := hv
  have hx := B.exec
  have hb := B.bytes
  have hr := B.returns
  have hts := atoms_spec (ws := .code yX9_turnOf cX9_turnOf 3 (some .int) :: GW) B.pre
  have hG : ∀ w ∈ GW, w.before _ s = true := fun w h => hts w (List.mem_cons_of_mem _ h)
  have hown : s.vm.findClass RX9 = some m.cls := findClass_of_methodNamed B.named
  subst hsz
  have hS : va_S (fun q => s.heap.size ≤ q) s.heap s.heap [] := va_S.rf
  have hP : va_P (dC, dI) vwCl (WM r ct i_taped i_size i_faultKind i_at i_end i_token i_number i_bank i_rb i_codes i_within i_piled i_unitsInRule i_askHouse i_askTune i_acts i_undone i_laid i_knowns i_time f_text f_tunes f_houses f_hums f_told f_many f_ruleFrom f_ruleTo f_code f_eWhat f_eSign f_all f_kept f_was f_sTune f_boxAll J L) s.heap := hP
  have hl := lv_entry ([.ref (r 0), .int p0, .int p1]) (n := 3) (Nat.le_of_ble_eq_true rfl)
  rw [lg_entry_eq]
  generalize (lg_sl ([.ref (r 0), .int p0, .int p1]) ++ List.replicate (3 - (lg_sl ([.ref (r 0), .int p0, .int p1])).length) Slot.unset).toArray = ls at hl ⊢
  have hl : lv_has ls 3 [(0, .ref (r 0)), (1, .int p0), (2, .int p1)] := hl
  refine nameQ (fun Q hQ => ?_)
  obtain ⟨im0, im1, im2, im3, im4, im5, im6, im7, im8, im9, im10, im11, im12, im13, im14, im15, im16, im17, im18, im19, im20, im21, im22, im23, im24, im25, im26, im27, im28, im29, im30, im31⟩ := id hI
  have f1 : 0 ≤ (f_tunes (i_bank.toInt).toNat).toInt ∧ (f_tunes (i_bank.toInt).toNat).toInt ≤ 5 := im21 (i_bank.toInt)
  have f2 : 0 ≤ (f_houses (i_bank.toInt).toNat).toInt ∧ (f_houses (i_bank.toInt).toNat).toInt ≤ 4 := im22 (i_bank.toInt)
  refine lv_aload_n hx hb dX9_turnOf_0 rfl (lv_at hl 0 rfl) ?_
  refine lv_iload_n hx hb dX9_turnOf_1 rfl (lv_at hl 2 rfl) ?_
  refine lv_aload_n hx hb dX9_turnOf_2 rfl (lv_at hl 0 rfl) ?_
  refine lv_iload_n hx hb dX9_turnOf_3 rfl (lv_at hl 1 rfl) ?_
  refine lv_iconst (v := 0) hx hb dX9_turnOf_4 (by decide) ?_
  refine va_calli (va_runV (As := [.int p0, .int 0]) (rest := [.int p1, .ref (r 0)]) ⟨hx, hb, hml, hown, hG⟩ (kX9_likesOf l dC dI r ct i_taped i_size i_faultKind i_at i_end i_token i_number i_bank i_rb i_codes i_within i_piled i_unitsInRule i_askHouse i_askTune i_acts i_undone i_laid i_knowns i_time f_text f_tunes f_houses f_hums f_told f_many f_ruleFrom f_ruleTo f_code f_eWhat f_eSign f_all f_kept f_was f_sTune f_boxAll J L p0 0 s.heap.size hI (ob_288 hp0 hp1) (ob_314 f2 hp0 hp1) (ob_1 zc_0) (ob_315 zc_0)) (cwV 2 hG (goodV gw1582 gw1584 gw99 gw138 gw1585) rfl rfl rfl hd_X9_likesOf ⟨(Nat.le_of_ble_eq_true rfl), (Nat.le_of_ble_eq_true rfl)⟩) ⟨fbR, va_recv hK hP (ci := 8) (q0 := 0) rfl rfl, pR_in hP hK⟩ rfl rfl hl.1 rfl (lv_room (Nat.le_of_ble_eq_true rfl)) dX9_turnOf_5 ⟨(Nat.le_of_ble_eq_true rfl), (Nat.le_of_ble_eq_true rfl)⟩) hS (fun q hq h => absurd hq (Nat.not_lt.mpr h)) (fun q h => Nat.le_trans hS.1 h) (fun r_4 u_ t_ H3 locs ht hvm hw hB hz1 hk1 hS => ?_)
  subst hw
  have hP := wk hP hk1
  refine lv_aload_n hx hb dX9_turnOf_8 rfl (lv_at hl 0 rfl) ?_
  refine lv_iload_n hx hb dX9_turnOf_9 rfl (lv_at hl 1 rfl) ?_
  refine lv_iconst (v := 1) hx hb dX9_turnOf_10 (by decide) ?_
  refine va_calli (va_runV (As := [.int p0, .int 1]) (rest := [.int r_4, .int p1, .ref (r 0)]) ⟨hx, hb, hml, hown, hG⟩ (kX9_likesOf l dC dI r ct i_taped i_size i_faultKind i_at i_end i_token i_number i_bank i_rb i_codes i_within i_piled i_unitsInRule i_askHouse i_askTune i_acts i_undone i_laid i_knowns i_time f_text f_tunes f_houses f_hums f_told f_many f_ruleFrom f_ruleTo f_code f_eWhat f_eSign f_all f_kept f_was f_sTune f_boxAll J L p0 1 H3.size hI (ob_288 hp0 hp1) (ob_314 f2 hp0 hp1) (ob_14 zc_1) (ob_319 zc_1)) (cwV 2 hG (goodV gw1582 gw1584 gw99 gw138 gw1585) rfl rfl rfl hd_X9_likesOf ⟨(Nat.le_of_ble_eq_true rfl), (Nat.le_of_ble_eq_true rfl)⟩) ⟨fbR, va_recv hK hP (ci := 8) (q0 := 0) rfl rfl, pR_in hP hK⟩ rfl rfl hl.1 rfl (lv_room (Nat.le_of_ble_eq_true rfl)) dX9_turnOf_11 ⟨(Nat.le_of_ble_eq_true rfl), (Nat.le_of_ble_eq_true rfl)⟩) hS (fun q hq h => absurd hq (Nat.not_lt.mpr h)) (fun q h => Nat.le_trans hS.1 h) (fun r_6 u_ t_ H5 locs ht hvm hw hB hz1 hk1 hS => ?_)
  subst hw
  have hP := wk hP hk1
  refine lv_aload_n hx hb dX9_turnOf_14 rfl (lv_at hl 0 rfl) ?_
  refine lv_iload_n hx hb dX9_turnOf_15 rfl (lv_at hl 1 rfl) ?_
  refine lv_iconst (v := 2) hx hb dX9_turnOf_16 (by decide) ?_
  refine va_calli (va_runV (As := [.int p0, .int 2]) (rest := [.int r_6, .int r_4, .int p1, .ref (r 0)]) ⟨hx, hb, hml, hown, hG⟩ (kX9_likesOf l dC dI r ct i_taped i_size i_faultKind i_at i_end i_token i_number i_bank i_rb i_codes i_within i_piled i_unitsInRule i_askHouse i_askTune i_acts i_undone i_laid i_knowns i_time f_text f_tunes f_houses f_hums f_told f_many f_ruleFrom f_ruleTo f_code f_eWhat f_eSign f_all f_kept f_was f_sTune f_boxAll J L p0 2 H5.size hI (ob_288 hp0 hp1) (ob_314 f2 hp0 hp1) (ob_246 zc_2) (ob_320 zc_2)) (cwV 2 hG (goodV gw1582 gw1584 gw99 gw138 gw1585) rfl rfl rfl hd_X9_likesOf ⟨(Nat.le_of_ble_eq_true rfl), (Nat.le_of_ble_eq_true rfl)⟩) ⟨fbR, va_recv hK hP (ci := 8) (q0 := 0) rfl rfl, pR_in hP hK⟩ rfl rfl hl.1 rfl (lv_room (Nat.le_of_ble_eq_true rfl)) dX9_turnOf_17 ⟨(Nat.le_of_ble_eq_true rfl), (Nat.le_of_ble_eq_true rfl)⟩) hS (fun q hq h => absurd hq (Nat.not_lt.mpr h)) (fun q h => Nat.le_trans hS.1 h) (fun r_8 u_ t_ H7 locs ht hvm hw hB hz1 hk1 hS => ?_)
  subst hw
  have hP := wk hP hk1
  refine va_calli (va_runV (As := [.int p1, .int r_4, .int r_6, .int r_8]) (rest := []) ⟨hx, hb, hml, hown, hG⟩ (kX9_isInIt l dC dI r ct i_taped i_size i_faultKind i_at i_end i_token i_number i_bank i_rb i_codes i_within i_piled i_unitsInRule i_askHouse i_askTune i_acts i_undone i_laid i_knowns i_time f_text f_tunes f_houses f_hums f_told f_many f_ruleFrom f_ruleTo f_code f_eWhat f_eSign f_all f_kept f_was f_sTune f_boxAll J L p1 r_4 r_6 r_8 H7.size hI (ob_288 hp2 hp3) (ob_289 f1 hp2 hp3)) (cwV 4 hG (goodV gw1590 gw1592 gw101 gw138 gw1593) rfl rfl rfl hd_X9_isInIt ⟨(Nat.le_of_ble_eq_true rfl), (Nat.le_of_ble_eq_true rfl)⟩) ⟨fbR, va_recv hK hP (ci := 8) (q0 := 0) rfl rfl, pR_in hP hK⟩ rfl rfl hl.1 rfl (lv_room (Nat.le_of_ble_eq_true rfl)) dX9_turnOf_20 ⟨(Nat.le_of_ble_eq_true rfl), (Nat.le_of_ble_eq_true rfl)⟩) hS (fun q hq h => absurd hq (Nat.not_lt.mpr h)) (fun q h => Nat.le_trans hS.1 h) (fun r_10 u_ t_ H9 locs ht hvm hw hB hz1 hk1 hS => ?_)
  subst hw
  have hP := wk hP hk1
  obtain ⟨f11, f12, f13⟩ := hB
  refine lv_if_eq (tgt := 30) hx hb dX9_turnOf_23 (by decide) (fun c_14 => ?_) (fun c_14 => ?_)
  · skip
    have f15 : r_10.toInt = 0 := qi_eq c_14 rfl zc_0
    have f16 : r_10.toInt = 0 := (ob_166 f12 f13 f15)
    refine lv_iconst (v := 0) hx hb dX9_turnOf_30 (by decide) ?_
    rw [hQ]
    exact W.iret (v := 0) hx hb hr (fun t ht hW => ⟨⟨0, 0, rfl, rfl, ⟨(ob_324 zc_0), (ob_1 zc_0), (ob_11 zc_0)⟩⟩, hS.F ht⟩) hS.2.2 dX9_turnOf_31
  · skip
    have f17 : r_10.toInt ≠ 0 := qi_ne c_14 rfl zc_0
    have f18 : 1 ≤ r_10.toInt := (ob_340 f11 f17)
    have f19 : r_10.toInt = 1 := (ob_105 f12 f13 f18)
    refine lv_iconst (v := 1) hx hb dX9_turnOf_26 (by decide) ?_
    refine lv_goto (tgt := 31) hx hb dX9_turnOf_27 (by decide) ?_
    rw [hQ]
    exact W.iret (v := 1) hx hb hr (fun t ht hW => ⟨⟨1, 1, rfl, rfl, ⟨(ob_332 zc_1), (ob_14 zc_1), (ob_15 zc_1)⟩⟩, hS.F ht⟩) hS.2.2 dX9_turnOf_31
set_option maxHeartbeats 4000000 in
set_option maxRecDepth 100000 in
theorem kX9_asked (l : Launch) (dC : Nat → ClassId) (dI : Nat → Nat → Nat) (r : Nat → Nat) (ct : Nat → ClassId) (i_taped i_size i_faultKind i_at i_end i_token i_number i_bank i_rb i_codes i_within i_piled i_unitsInRule i_askHouse i_askTune i_acts i_undone i_laid i_knowns i_time : Int32) (f_text f_tunes f_houses f_hums f_told f_many f_ruleFrom f_ruleTo f_code f_eWhat f_eSign f_all f_kept f_was f_sTune f_boxAll : Nat → Int32) (J : Nat → Nat → Int32) (L : Nat → Nat → Int64) (p0 p1 : Int32) (sz : Nat) (hI : (IM i_taped i_size i_faultKind i_at i_end i_bank i_rb i_acts i_undone i_laid i_knowns i_time f_tunes f_houses f_hums f_told f_many f_ruleFrom f_ruleTo f_code f_all f_kept f_was f_sTune f_boxAll)) (hp0 : 0 ≤ i_askHouse.toInt) (hp1 : i_askHouse.toInt + 1 ≤ (f_houses (i_bank.toInt).toNat).toInt) (hp2 : 0 ≤ i_askTune.toInt) (hp3 : i_askTune.toInt + 1 ≤ (f_tunes (i_bank.toInt).toNat).toInt) : Met l yX9_asked (.code yX9_asked cX9_asked 3 (some .int) :: GW) { frames := 14, cells := 0, slots := 0, locals := 478 } (va_Pc [.ref (r 0), .int p0, .int p1] (pR (dC, dI) (WM r ct i_taped i_size i_faultKind i_at i_end i_token i_number i_bank i_rb i_codes i_within i_piled i_unitsInRule i_askHouse i_askTune i_acts i_undone i_laid i_knowns i_time f_text f_tunes f_houses f_hums f_told f_many f_ruleFrom f_ruleTo f_code f_eWhat f_eSign f_all f_kept f_was f_sTune f_boxAll J L) (TM ct) sz)) (va_Qi (fun (r0 : Int32) (u : Int32) => r0 = u) (fun (u : Int32) (t : State) => True) (fun q => sz ≤ q)) 0 0 (fun q => sz ≤ q) := by
  refine Met.ofW (cc := cX9_asked) (maxL := 3) (ret := (some .int)) (by decide) rfl ?_
  intro p e s m args below meth c0 s₁ B hml hv
  obtain ⟨rfl, hsz, hP, hK⟩ := hv
  have hx := B.exec
  have hb := B.bytes
  have hr := B.returns
  have hts := atoms_spec (ws := .code yX9_asked cX9_asked 3 (some .int) :: GW) B.pre
  have hG : ∀ w ∈ GW, w.before _ s = true := fun w h => hts w (List.mem_cons_of_mem _ h)
  have hown : s.vm.findClass RX9 = some m.cls := findClass_of_methodNamed B.named
  subst hsz
  have hS : va_S (fun q => s.heap.size ≤ q) s.heap s.heap [] := va_S.rf
  have hP : va_P (dC, dI) vwCl (WM r ct i_taped i_size i_faultKind i_at i_end i_token i_number i_bank i_rb i_codes i_within i_piled i_unitsInRule i_askHouse i_askTune i_acts i_undone i_laid i_knowns i_time f_text f_tunes f_houses f_hums f_told f_many f_ruleFrom f_ruleTo f_code f_eWhat f_eSign f_all f_kept f_was f_sTune f_boxAll J L) s.heap := hP
  have hl := lv_entry ([.ref (r 0), .int p0, .int p1]) (n := 3) (Nat.le_of_ble_eq_true rfl)
  rw [lg_entry_eq]
  generalize (lg_sl ([.ref (r 0), .int p0, .int p1]) ++ List.replicate (3 - (lg_sl ([.ref (r 0), .int p0, .int p1])).length) Slot.unset).toArray = ls at hl ⊢
  have hl : lv_has ls 3 [(0, .ref (r 0)), (1, .int p0), (2, .int p1)] := hl
  refine nameQ (fun Q hQ => ?_)
  obtain ⟨im0, im1, im2, im3, im4, im5, im6, im7, im8, im9, im10, im11, im12, im13, im14, im15, im16, im17, im18, im19, im20, im21, im22, im23, im24, im25, im26, im27, im28, im29, im30, im31⟩ := id hI
  have f1 : 0 ≤ (f_tunes (i_bank.toInt).toNat).toInt ∧ (f_tunes (i_bank.toInt).toNat).toInt ≤ 5 := im21 (i_bank.toInt)
  have f2 : 0 ≤ (f_houses (i_bank.toInt).toNat).toInt ∧ (f_houses (i_bank.toInt).toNat).toInt ≤ 4 := im22 (i_bank.toInt)
  refine lv_iload_n hx hb dX9_asked_0 rfl (lv_at hl 1 rfl) ?_
  rcases ts_108_119 p0 with hs3 | hs3 | hs3 | hs3 | hs3 | hs3 | hs3 | hs3 | hs3 | hs3 | hs3 | hs3 | hs3
  · skip
    refine lv_tableOut (tgt := 139) hx hb dX9_asked_1 hs3 (by decide) ?_
    refine lv_iload_n hx hb dX9_asked_139 rfl (lv_at hl 2 rfl) ?_
    rw [hQ]
    exact W.iret (v := p1) hx hb hr (fun t ht hW => ⟨⟨p1, p1, rfl, rfl, trivial⟩, hS.F ht⟩) hS.2.2 dX9_asked_140
  · skip
    refine lv_tableIn (off := 89) (tgt := 90) hx hb dX9_asked_1 (by rw [hs3]; decide) (by rw [hs3]; decide) (by rw [hs3]; decide) (by decide) ?_
    have f4 : p0.toInt = 108 := qi_eq hs3 rfl zc_108
    refine lv_aload_n hx hb dX9_asked_90 rfl (lv_at hl 0 rfl) ?_
    refine lv_aload_n hx hb dX9_asked_91 rfl (lv_at hl 0 rfl) ?_
    refine gM_X9_327_0 hx hb hG hown hK hP dX9_asked_92 ?_
    refine va_calli (va_runV (As := [.int i_askTune]) (rest := []) ⟨hx, hb, hml, hown, hG⟩ (kX9_leftOf l dC dI r ct i_taped i_size i_faultKind i_at i_end i_token i_number i_bank i_rb i_codes i_within i_piled i_unitsInRule i_askHouse i_askTune i_acts i_undone i_laid i_knowns i_time f_text f_tunes f_houses f_hums f_told f_many f_ruleFrom f_ruleTo f_code f_eWhat f_eSign f_all f_kept f_was f_sTune f_boxAll J L i_askTune s.heap.size hI (ob_288 hp2 hp3) (ob_289 f1 hp2 hp3)) (cwV 1 hG (goodV gw1523 gw1525 gw88 gw138 gw1526) rfl rfl rfl hd_X9_leftOf ⟨(Nat.le_of_ble_eq_true rfl), (Nat.le_of_ble_eq_true rfl)⟩) ⟨fbR, va_recv hK hP (ci := 8) (q0 := 0) rfl rfl, pR_in hP hK⟩ rfl rfl hl.1 rfl (lv_room (Nat.le_of_ble_eq_true rfl)) dX9_asked_95 ⟨(Nat.le_of_ble_eq_true rfl), (Nat.le_of_ble_eq_true rfl)⟩) hS (fun q hq h => absurd hq (Nat.not_lt.mpr h)) (fun q h => Nat.le_trans hS.1 h) (fun r_6 u_ t_ H5 locs ht hvm hw hB hz1 hk1 hS => ?_)
    subst hw
    have hP := wk hP hk1
    obtain ⟨f7, f8, f9, f10, f11, f12, f13⟩ := hB
    rw [hQ]
    exact W.iret (v := r_6) hx hb hr (fun t ht hW => ⟨⟨r_6, r_6, rfl, rfl, trivial⟩, hS.F ht⟩) hS.2.2 dX9_asked_98
  · skip
    refine lv_tableIn (off := 138) (tgt := 139) hx hb dX9_asked_1 (by rw [hs3]; decide) (by rw [hs3]; decide) (by rw [hs3]; decide) (by decide) ?_
    have f14 : p0.toInt = 109 := qi_eq hs3 rfl zc_109
    refine lv_iload_n hx hb dX9_asked_139 rfl (lv_at hl 2 rfl) ?_
    rw [hQ]
    exact W.iret (v := p1) hx hb hr (fun t ht hW => ⟨⟨p1, p1, rfl, rfl, trivial⟩, hS.F ht⟩) hS.2.2 dX9_asked_140
  · skip
    refine lv_tableIn (off := 138) (tgt := 139) hx hb dX9_asked_1 (by rw [hs3]; decide) (by rw [hs3]; decide) (by rw [hs3]; decide) (by decide) ?_
    have f15 : p0.toInt = 110 := qi_eq hs3 rfl zc_110
    refine lv_iload_n hx hb dX9_asked_139 rfl (lv_at hl 2 rfl) ?_
    rw [hQ]
    exact W.iret (v := p1) hx hb hr (fun t ht hW => ⟨⟨p1, p1, rfl, rfl, trivial⟩, hS.F ht⟩) hS.2.2 dX9_asked_140
  · skip
    refine lv_tableIn (off := 98) (tgt := 99) hx hb dX9_asked_1 (by rw [hs3]; decide) (by rw [hs3]; decide) (by rw [hs3]; decide) (by decide) ?_
    have f16 : p0.toInt = 111 := qi_eq hs3 rfl zc_111
    refine lv_aload_n hx hb dX9_asked_99 rfl (lv_at hl 0 rfl) ?_
    refine gM_X9_88_0 hx hb hG hown hK hP dX9_asked_100 ?_
    refine lv_bipush (v := 10) hx hb dX9_asked_103 (by decide) ?_
    refine lv_aload_n hx hb dX9_asked_105 rfl (lv_at hl 0 rfl) ?_
    refine gM_X9_327_0 hx hb hG hown hK hP dX9_asked_106 ?_
    refine lv_iadd hx hb dX9_asked_109 ?_
    refine lv_topi (fun x17 ex17 => ?_)
    have f18 : x17.toInt = i_askTune.toInt + 10 := (ob_267 (qi_add ex17 zc_10 rfl (ob_265 hp2 hp3) (ob_342 f1 hp2 hp3)))
    refine ldM_25 (mm := i_askTune.toInt + 10) hx hb hK hP f18 (ob_268 hp2 hp3) (ob_343 f1 hp2 hp3) dX9_asked_110 ?_
    have f19 : 0 ≤ (f_all (i_askTune.toInt + 10).toNat).toInt ∧ (f_all (i_askTune.toInt + 10).toNat).toInt ≤ 99 := im26 (i_askTune.toInt + 10) (ob_268 hp2 hp3) (ob_344 f1 hp2 hp3) (ob_345 f1 hp2 hp3)
    rw [hQ]
    exact W.iret (v := (f_all (i_askTune.toInt + 10).toNat)) hx hb hr (fun t ht hW => ⟨⟨(f_all (i_askTune.toInt + 10).toNat), (f_all (i_askTune.toInt + 10).toNat), rfl, rfl, trivial⟩, hS.F ht⟩) hS.2.2 dX9_asked_111
  · skip
    refine lv_tableIn (off := 116) (tgt := 117) hx hb dX9_asked_1 (by rw [hs3]; decide) (by rw [hs3]; decide) (by rw [hs3]; decide) (by decide) ?_
    have f20 : p0.toInt = 112 := qi_eq hs3 rfl zc_112
    refine lv_aload_n hx hb dX9_asked_117 rfl (lv_at hl 0 rfl) ?_
    refine lv_aload_n hx hb dX9_asked_118 rfl (lv_at hl 0 rfl) ?_
    refine gM_X9_327_0 hx hb hG hown hK hP dX9_asked_119 ?_
    refine va_calli (va_runV (As := [.int i_askTune]) (rest := []) ⟨hx, hb, hml, hown, hG⟩ (kX9_priceOf l dC dI r ct i_taped i_size i_faultKind i_at i_end i_token i_number i_bank i_rb i_codes i_within i_piled i_unitsInRule i_askHouse i_askTune i_acts i_undone i_laid i_knowns i_time f_text f_tunes f_houses f_hums f_told f_many f_ruleFrom f_ruleTo f_code f_eWhat f_eSign f_all f_kept f_was f_sTune f_boxAll J L i_askTune s.heap.size hI (ob_288 hp2 hp3) (ob_289 f1 hp2 hp3)) (cwV 1 hG (goodV gw1519 gw1521 gw87 gw138 gw1522) rfl rfl rfl hd_X9_priceOf ⟨(Nat.le_of_ble_eq_true rfl), (Nat.le_of_ble_eq_true rfl)⟩) ⟨fbR, va_recv hK hP (ci := 8) (q0 := 0) rfl rfl, pR_in hP hK⟩ rfl rfl hl.1 rfl (lv_room (Nat.le_of_ble_eq_true rfl)) dX9_asked_122 ⟨(Nat.le_of_ble_eq_true rfl), (Nat.le_of_ble_eq_true rfl)⟩) hS (fun q hq h => absurd hq (Nat.not_lt.mpr h)) (fun q h => Nat.le_trans hS.1 h) (fun r_22 u_ t_ H21 locs ht hvm hw hB hz1 hk1 hS => ?_)
    subst hw
    have hP := wk hP hk1
    rw [hQ]
    exact W.iret (v := r_22) hx hb hr (fun t ht hW => ⟨⟨r_22, r_22, rfl, rfl, trivial⟩, hS.F ht⟩) hS.2.2 dX9_asked_125
  · skip
    refine lv_tableIn (off := 138) (tgt := 139) hx hb dX9_asked_1 (by rw [hs3]; decide) (by rw [hs3]; decide) (by rw [hs3]; decide) (by decide) ?_
    have f23 : p0.toInt = 113 := qi_eq hs3 rfl zc_113
    refine lv_iload_n hx hb dX9_asked_139 rfl (lv_at hl 2 rfl) ?_
    rw [hQ]
    exact W.iret (v := p1) hx hb hr (fun t ht hW => ⟨⟨p1, p1, rfl, rfl, trivial⟩, hS.F ht⟩) hS.2.2 dX9_asked_140
  · skip
    refine lv_tableIn (off := 138) (tgt := 139) hx hb dX9_asked_1 (by rw [hs3]; decide) (by rw [hs3]; decide) (by rw [hs3]; decide) (by decide) ?_
    have f24 : p0.toInt = 114 := qi_eq hs3 rfl zc_114
    refine lv_iload_n hx hb dX9_asked_139 rfl (lv_at hl 2 rfl) ?_
    rw [hQ]
    exact W.iret (v := p1) hx hb hr (fun t ht hW => ⟨⟨p1, p1, rfl, rfl, trivial⟩, hS.F ht⟩) hS.2.2 dX9_asked_140
  · skip
    refine lv_tableIn (off := 63) (tgt := 64) hx hb dX9_asked_1 (by rw [hs3]; decide) (by rw [hs3]; decide) (by rw [hs3]; decide) (by decide) ?_
    have f25 : p0.toInt = 115 := qi_eq hs3 rfl zc_115
    refine lv_aload_n hx hb dX9_asked_64 rfl (lv_at hl 0 rfl) ?_
    refine lv_aload_n hx hb dX9_asked_65 rfl (lv_at hl 0 rfl) ?_
    refine gM_X9_324_0 hx hb hG hown hK hP dX9_asked_66 ?_
    refine lv_aload_n hx hb dX9_asked_69 rfl (lv_at hl 0 rfl) ?_
    refine gM_X9_327_0 hx hb hG hown hK hP dX9_asked_70 ?_
    refine va_calli (va_runV (As := [.int i_askHouse, .int i_askTune]) (rest := []) ⟨hx, hb, hml, hown, hG⟩ (kX9_sameOf l dC dI r ct i_taped i_size i_faultKind i_at i_end i_token i_number i_bank i_rb i_codes i_within i_piled i_unitsInRule i_askHouse i_askTune i_acts i_undone i_laid i_knowns i_time f_text f_tunes f_houses f_hums f_told f_many f_ruleFrom f_ruleTo f_code f_eWhat f_eSign f_all f_kept f_was f_sTune f_boxAll J L i_askHouse i_askTune s.heap.size hI (ob_288 hp0 hp1) (ob_314 f2 hp0 hp1) (ob_288 hp2 hp3) (ob_289 f1 hp2 hp3)) (cwV 2 hG (goodV gw1578 gw1580 gw98 gw138 gw1581) rfl rfl rfl hd_X9_sameOf ⟨(Nat.le_of_ble_eq_true rfl), (Nat.le_of_ble_eq_true rfl)⟩) ⟨fbR, va_recv hK hP (ci := 8) (q0 := 0) rfl rfl, pR_in hP hK⟩ rfl rfl hl.1 rfl (lv_room (Nat.le_of_ble_eq_true rfl)) dX9_asked_73 ⟨(Nat.le_of_ble_eq_true rfl), (Nat.le_of_ble_eq_true rfl)⟩) hS (fun q hq h => absurd hq (Nat.not_lt.mpr h)) (fun q h => Nat.le_trans hS.1 h) (fun r_27 u_ t_ H26 locs ht hvm hw hB hz1 hk1 hS => ?_)
    subst hw
    have hP := wk hP hk1
    rw [hQ]
    exact W.iret (v := r_27) hx hb hr (fun t ht hW => ⟨⟨r_27, r_27, rfl, rfl, trivial⟩, hS.F ht⟩) hS.2.2 dX9_asked_76
  · skip
    refine lv_tableIn (off := 76) (tgt := 77) hx hb dX9_asked_1 (by rw [hs3]; decide) (by rw [hs3]; decide) (by rw [hs3]; decide) (by decide) ?_
    have f28 : p0.toInt = 116 := qi_eq hs3 rfl zc_116
    refine lv_aload_n hx hb dX9_asked_77 rfl (lv_at hl 0 rfl) ?_
    refine lv_aload_n hx hb dX9_asked_78 rfl (lv_at hl 0 rfl) ?_
    refine gM_X9_324_0 hx hb hG hown hK hP dX9_asked_79 ?_
    refine lv_aload_n hx hb dX9_asked_82 rfl (lv_at hl 0 rfl) ?_
    refine gM_X9_327_0 hx hb hG hown hK hP dX9_asked_83 ?_
    refine va_calli (va_runV (As := [.int i_askHouse, .int i_askTune]) (rest := []) ⟨hx, hb, hml, hown, hG⟩ (kX9_turnOf l dC dI r ct i_taped i_size i_faultKind i_at i_end i_token i_number i_bank i_rb i_codes i_within i_piled i_unitsInRule i_askHouse i_askTune i_acts i_undone i_laid i_knowns i_time f_text f_tunes f_houses f_hums f_told f_many f_ruleFrom f_ruleTo f_code f_eWhat f_eSign f_all f_kept f_was f_sTune f_boxAll J L i_askHouse i_askTune s.heap.size hI (ob_288 hp0 hp1) (ob_314 f2 hp0 hp1) (ob_288 hp2 hp3) (ob_289 f1 hp2 hp3)) (cwV 2 hG (goodV gw1586 gw1588 gw100 gw138 gw1589) rfl rfl rfl hd_X9_turnOf ⟨(Nat.le_of_ble_eq_true rfl), (Nat.le_of_ble_eq_true rfl)⟩) ⟨fbR, va_recv hK hP (ci := 8) (q0 := 0) rfl rfl, pR_in hP hK⟩ rfl rfl hl.1 rfl (lv_room (Nat.le_of_ble_eq_true rfl)) dX9_asked_86 ⟨(Nat.le_of_ble_eq_true rfl), (Nat.le_of_ble_eq_true rfl)⟩) hS (fun q hq h => absurd hq (Nat.not_lt.mpr h)) (fun q h => Nat.le_trans hS.1 h) (fun r_30 u_ t_ H29 locs ht hvm hw hB hz1 hk1 hS => ?_)
    subst hw
    have hP := wk hP hk1
    obtain ⟨f31, f32, f33⟩ := hB
    rw [hQ]
    exact W.iret (v := r_30) hx hb hr (fun t ht hW => ⟨⟨r_30, r_30, rfl, rfl, trivial⟩, hS.F ht⟩) hS.2.2 dX9_asked_89
  · skip
    refine lv_tableIn (off := 125) (tgt := 126) hx hb dX9_asked_1 (by rw [hs3]; decide) (by rw [hs3]; decide) (by rw [hs3]; decide) (by decide) ?_
    have f34 : p0.toInt = 117 := qi_eq hs3 rfl zc_117
    refine lv_aload_n hx hb dX9_asked_126 rfl (lv_at hl 0 rfl) ?_
    refine gM_X9_88_0 hx hb hG hown hK hP dX9_asked_127 ?_
    refine lv_bipush (v := 20) hx hb dX9_asked_130 (by decide) ?_
    refine lv_aload_n hx hb dX9_asked_132 rfl (lv_at hl 0 rfl) ?_
    refine gM_X9_324_0 hx hb hG hown hK hP dX9_asked_133 ?_
    refine lv_iadd hx hb dX9_asked_136 ?_
    refine lv_topi (fun x35 ex35 => ?_)
    have f36 : x35.toInt = i_askHouse.toInt + 20 := (ob_348 (qi_add ex35 zc_20 rfl (ob_346 hp0 hp1) (ob_347 f2 hp0 hp1)))
    refine ldM_25 (mm := i_askHouse.toInt + 20) hx hb hK hP f36 (ob_349 hp0 hp1) (ob_350 f2 hp0 hp1) dX9_asked_137 ?_
    rw [hQ]
    exact W.iret (v := (f_all (i_askHouse.toInt + 20).toNat)) hx hb hr (fun t ht hW => ⟨⟨(f_all (i_askHouse.toInt + 20).toNat), (f_all (i_askHouse.toInt + 20).toNat), rfl, rfl, trivial⟩, hS.F ht⟩) hS.2.2 dX9_asked_138
  · skip
    refine lv_tableIn (off := 138) (tgt := 139) hx hb dX9_asked_1 (by rw [hs3]; decide) (by rw [hs3]; decide) (by rw [hs3]; decide) (by decide) ?_
    have f37 : p0.toInt = 118 := qi_eq hs3 rfl zc_118
    refine lv_iload_n hx hb dX9_asked_139 rfl (lv_at hl 2 rfl) ?_
    rw [hQ]
    exact W.iret (v := p1) hx hb hr (fun t ht hW => ⟨⟨p1, p1, rfl, rfl, trivial⟩, hS.F ht⟩) hS.2.2 dX9_asked_140
  · skip
    refine lv_tableIn (off := 111) (tgt := 112) hx hb dX9_asked_1 (by rw [hs3]; decide) (by rw [hs3]; decide) (by rw [hs3]; decide) (by decide) ?_
    have f38 : p0.toInt = 119 := qi_eq hs3 rfl zc_119
    refine lv_aload_n hx hb dX9_asked_112 rfl (lv_at hl 0 rfl) ?_
    refine gM_X9_339_0 hx hb hG hown hK hP dX9_asked_113 (fun x39 => ?_)
    rw [hQ]
    exact W.iret (v := x39) hx hb hr (fun t ht hW => ⟨⟨x39, x39, rfl, rfl, trivial⟩, hS.F ht⟩) hS.2.2 dX9_asked_116
set_option maxHeartbeats 4000000 in
set_option maxRecDepth 100000 in
theorem kX9_comes (l : Launch) (dC : Nat → ClassId) (dI : Nat → Nat → Nat) (r : Nat → Nat) (ct : Nat → ClassId) (i_taped i_size i_faultKind i_at i_end i_token i_number i_bank i_rb i_codes i_within i_piled i_unitsInRule i_askHouse i_askTune i_acts i_undone i_laid i_knowns i_time : Int32) (f_text f_tunes f_houses f_hums f_told f_many f_ruleFrom f_ruleTo f_code f_eWhat f_eSign f_all f_kept f_was f_sTune f_boxAll : Nat → Int32) (J : Nat → Nat → Int32) (L : Nat → Nat → Int64) (sz : Nat) (hI : (IM i_taped i_size i_faultKind i_at i_end i_bank i_rb i_acts i_undone i_laid i_knowns i_time f_tunes f_houses f_hums f_told f_many f_ruleFrom f_ruleTo f_code f_all f_kept f_was f_sTune f_boxAll)) (hp0 : 0 ≤ i_askHouse.toInt) (hp1 : i_askHouse.toInt + 1 ≤ (f_houses (i_bank.toInt).toNat).toInt) (hp2 : 0 ≤ i_askTune.toInt) (hp3 : i_askTune.toInt + 1 ≤ (f_tunes (i_bank.toInt).toNat).toInt) (hp4 : RUW (f_ruleFrom (i_bank.toInt).toNat).toInt (f_ruleTo (i_bank.toInt).toNat).toInt f_code) : Met l yX9_comes (.code yX9_comes cX9_comes 4 (some .int) :: GW) { frames := 16, cells := 0, slots := 0, locals := 540 } (va_Pc [.ref (r 0)] (pW (dC, dI) (WM r ct i_taped i_size i_faultKind i_at i_end i_token i_number i_bank i_rb i_codes i_within i_piled i_unitsInRule i_askHouse i_askTune i_acts i_undone i_laid i_knowns i_time f_text f_tunes f_houses f_hums f_told f_many f_ruleFrom f_ruleTo f_code f_eWhat f_eSign f_all f_kept f_was f_sTune f_boxAll J L) (TM ct) sz)) (va_Qi (fun (r0 : Int32) (u : Int32) => r0 = u) (fun (u : Int32) (t : State) => ∃ (n_J : Nat → Nat → Int32), va_P (dC, dI) vwCl (WM r ct i_taped i_size i_faultKind i_at i_end i_token i_number i_bank i_rb i_codes i_within i_piled i_unitsInRule i_askHouse i_askTune i_acts i_undone i_laid i_knowns i_time f_text f_tunes f_houses f_hums f_told f_many f_ruleFrom f_ruleTo f_code f_eWhat f_eSign f_all f_kept f_was f_sTune f_boxAll n_J L) t.heap ∧ va_D (va_A (WM r ct i_taped i_size i_faultKind i_at i_end i_token i_number i_bank i_rb i_codes i_within i_piled i_unitsInRule i_askHouse i_askTune i_acts i_undone i_laid i_knowns i_time f_text f_tunes f_houses f_hums f_told f_many f_ruleFrom f_ruleTo f_code f_eWhat f_eSign f_all f_kept f_was f_sTune f_boxAll J L) sz) (WM r ct i_taped i_size i_faultKind i_at i_end i_token i_number i_bank i_rb i_codes i_within i_piled i_unitsInRule i_askHouse i_askTune i_acts i_undone i_laid i_knowns i_time f_text f_tunes f_houses f_hums f_told f_many f_ruleFrom f_ruleTo f_code f_eWhat f_eSign f_all f_kept f_was f_sTune f_boxAll n_J L) ∧ (IM i_taped i_size i_faultKind i_at i_end i_bank i_rb i_acts i_undone i_laid i_knowns i_time f_tunes f_houses f_hums f_told f_many f_ruleFrom f_ruleTo f_code f_all f_kept f_was f_sTune f_boxAll)) (va_A (WM r ct i_taped i_size i_faultKind i_at i_end i_token i_number i_bank i_rb i_codes i_within i_piled i_unitsInRule i_askHouse i_askTune i_acts i_undone i_laid i_knowns i_time f_text f_tunes f_houses f_hums f_told f_many f_ruleFrom f_ruleTo f_code f_eWhat f_eSign f_all f_kept f_was f_sTune f_boxAll J L) sz)) 0 0 (va_A (WM r ct i_taped i_size i_faultKind i_at i_end i_token i_number i_bank i_rb i_codes i_within i_piled i_unitsInRule i_askHouse i_askTune i_acts i_undone i_laid i_knowns i_time f_text f_tunes f_houses f_hums f_told f_many f_ruleFrom f_ruleTo f_code f_eWhat f_eSign f_all f_kept f_was f_sTune f_boxAll J L) sz) := by
  refine Met.ofW (cc := cX9_comes) (maxL := 4) (ret := (some .int)) (by decide) rfl ?_
  intro p e s m args below meth c0 s₁ B hml hv
  obtain ⟨rfl, hsz, hP, hK, hD0⟩ := hv
  have hx := B.exec
  have hb := B.bytes
  have hr := B.returns
  have hts := atoms_spec (ws := .code yX9_comes cX9_comes 4 (some .int) :: GW) B.pre
  have hG : ∀ w ∈ GW, w.before _ s = true := fun w h => hts w (List.mem_cons_of_mem _ h)
  have hown : s.vm.findClass RX9 = some m.cls := findClass_of_methodNamed B.named
  subst hsz
  have hD := hD0.self (sz := s.heap.size)
  generalize hAe : va_A (WM r ct i_taped i_size i_faultKind i_at i_end i_token i_number i_bank i_rb i_codes i_within i_piled i_unitsInRule i_askHouse i_askTune i_acts i_undone i_laid i_knowns i_time f_text f_tunes f_houses f_hums f_told f_many f_ruleFrom f_ruleTo f_code f_eWhat f_eSign f_all f_kept f_was f_sTune f_boxAll J L) s.heap.size = A at hD ⊢
  have hA : ∀ q : Nat, s.heap.size ≤ q → A q := fun q h => by rw [← hAe]; exact Or.inr h
  have hS : va_S A s.heap s.heap [] := va_S.rf
  have hP : va_P (dC, dI) vwCl (WM r ct i_taped i_size i_faultKind i_at i_end i_token i_number i_bank i_rb i_codes i_within i_piled i_unitsInRule i_askHouse i_askTune i_acts i_undone i_laid i_knowns i_time f_text f_tunes f_houses f_hums f_told f_many f_ruleFrom f_ruleTo f_code f_eWhat f_eSign f_all f_kept f_was f_sTune f_boxAll J L) s.heap := hP
  have hl := lv_entry ([.ref (r 0)]) (n := 4) (Nat.le_of_ble_eq_true rfl)
  rw [lg_entry_eq]
  generalize (lg_sl ([.ref (r 0)]) ++ List.replicate (4 - (lg_sl ([.ref (r 0)])).length) Slot.unset).toArray = ls at hl ⊢
  have hl : lv_has ls 4 [(0, .ref (r 0))] := hl
  refine nameQ (fun Q hQ => ?_)
  obtain ⟨im0, im1, im2, im3, im4, im5, im6, im7, im8, im9, im10, im11, im12, im13, im14, im15, im16, im17, im18, im19, im20, im21, im22, im23, im24, im25, im26, im27, im28, im29, im30, im31⟩ := id hI
  have f1 : 0 ≤ (f_tunes (i_bank.toInt).toNat).toInt ∧ (f_tunes (i_bank.toInt).toNat).toInt ≤ 5 := im21 (i_bank.toInt)
  have f2 : 0 ≤ (f_houses (i_bank.toInt).toNat).toInt ∧ (f_houses (i_bank.toInt).toNat).toInt ≤ 4 := im22 (i_bank.toInt)
  refine lv_iconst (v := 0) hx hb dX9_comes_0 (by decide) ?_
  refine lv_istore_n (lv' := [(1, .int 0), (0, .ref (r 0))]) hx hb dX9_comes_1 rfl hl (by decide) rfl (fun ls hl => ?_)
  refine lv_aload_n hx hb dX9_comes_2 rfl (lv_at hl 1 rfl) ?_
  refine gM_X9_60_0 hx hb hG hown hK hP dX9_comes_3 ?_
  refine lv_aload_n hx hb dX9_comes_6 rfl (lv_at hl 1 rfl) ?_
  refine gM_X9_249_0 hx hb hG hown hK hP dX9_comes_7 ?_
  refine ldM_16 (mm := i_bank.toInt) hx hb hK hP rfl (ob_351 im4 im5) (ob_352 im4 im5) dX9_comes_10 ?_
  have f3 : (dp f_code (f_ruleFrom (i_bank.toInt).toNat).toInt ((f_ruleFrom (i_bank.toInt).toNat).toInt - (f_ruleFrom (i_bank.toInt).toNat).toInt).toNat) = 0 := dp_zero
  refine lv_istore_n (lv' := [(2, .int (f_ruleFrom (i_bank.toInt).toNat)), (1, .int 0), (0, .ref (r 0))]) hx hb dX9_comes_11 rfl hl (by decide) rfl (fun ls hl => ?_)
  have L12 : ∀ (N12 : Nat) (y12_1 y12_2 : Int32) (m12_J : Nat → Nat → Int32) (H12 : Heap) (locs : List Loc) (ls : Array Slot) (g12_0 : 0 ≤ y12_1.toInt + 1) (g12_1 : y12_1.toInt ≤ 61) (g12_2 : 0 ≤ y12_2.toInt) (g12_3 : y12_2.toInt ≤ 1120) (g12_4 : y12_1.toInt = (dp f_code (f_ruleFrom (i_bank.toInt).toNat).toInt (y12_2.toInt - (f_ruleFrom (i_bank.toInt).toNat).toInt).toNat)) (g12_5 : (f_ruleFrom (i_bank.toInt).toNat).toInt ≤ y12_2.toInt) (g12_6 : y12_2.toInt ≤ 1120) (hP : va_P (dC, dI) vwCl (WM r ct i_taped i_size i_faultKind i_at i_end i_token i_number i_bank i_rb i_codes i_within i_piled i_unitsInRule i_askHouse i_askTune i_acts i_undone i_laid i_knowns i_time f_text f_tunes f_houses f_hums f_told f_many f_ruleFrom f_ruleTo f_code f_eWhat f_eSign f_all f_kept f_was f_sTune f_boxAll m12_J L) H12) (hD : va_D A (WM r ct i_taped i_size i_faultKind i_at i_end i_token i_number i_bank i_rb i_codes i_within i_piled i_unitsInRule i_askHouse i_askTune i_acts i_undone i_laid i_knowns i_time f_text f_tunes f_houses f_hums f_told f_many f_ruleFrom f_ruleTo f_code f_eWhat f_eSign f_all f_kept f_was f_sTune f_boxAll m12_J L)) (hS : va_S A s.heap H12 locs) (hl : lv_has ls 4 [(0, .ref (r 0)), (1, .int y12_1), (2, .int y12_2)]) (hM : -1 * y12_2.toInt + 1120 < (N12 : Int)), W p l e { frames := 16, cells := 0, slots := 0, locals := 540 } s m ([.ref (r 0)] : List Value).toArray below meth c0 H12 locs 0 0 Q (F0 m 12 ls []) := by
    intro N12
    induction N12 with
    | zero =>
      intro y12_1 y12_2 m12_J H12 locs ls g12_0 g12_1 g12_2 g12_3 g12_4 g12_5 g12_6 hP hD hS hl hM
      exact ((ob_353 hM g12_3)).elim
    | succ N12 ih12 =>
      intro y12_1 y12_2 m12_J H12 locs ls g12_0 g12_1 g12_2 g12_3 g12_4 g12_5 g12_6 hP hD hS hl hM
      have hM12 := msucc hM
      refine lv_iload_n hx hb dX9_comes_12 rfl (lv_at hl 2 rfl) ?_
      refine lv_aload_n hx hb dX9_comes_13 rfl (lv_at hl 0 rfl) ?_
      refine gM_X9_63_0 hx hb hG hown hK hP dX9_comes_14 ?_
      refine lv_aload_n hx hb dX9_comes_17 rfl (lv_at hl 0 rfl) ?_
      refine gM_X9_249_0 hx hb hG hown hK hP dX9_comes_18 ?_
      refine ldM_17 (mm := i_bank.toInt) hx hb hK hP rfl (ob_351 im4 im5) (ob_352 im4 im5) dX9_comes_21 ?_
      refine lv_icmp_ge (tgt := 130) hx hb dX9_comes_22 (by decide) (fun c_4 => ?_) (fun c_4 => ?_)
      · skip
        have f5 : (f_ruleTo (i_bank.toInt).toNat).toInt ≤ y12_2.toInt := qi_le c_4 rfl rfl
        refine lv_aload_n hx hb dX9_comes_130 rfl (lv_at hl 0 rfl) ?_
        refine gM_X9_85_0 hx hb hG hown hK hP dX9_comes_131 ?_
        refine lv_iconst (v := 0) hx hb dX9_comes_134 (by decide) ?_
        refine ldM_24 (mm := 0) hx hb hK hP zc_0 (ob_90) (ob_354) dX9_comes_135 (fun x6 => ?_)
        rw [hQ]
        exact W.iret (v := x6) hx hb hr (fun t ht hW => ⟨⟨x6, x6, rfl, rfl, ⟨m12_J, by rw [ht]; exact hP, hD, hI⟩⟩, hS.F ht⟩) hS.2.2 dX9_comes_136
      · skip
        have f7 : y12_2.toInt < (f_ruleTo (i_bank.toInt).toNat).toInt := qi_nle c_4 rfl rfl
        refine lv_aload_n hx hb dX9_comes_25 rfl (lv_at hl 0 rfl) ?_
        refine gM_X9_73_0 hx hb hG hown hK hP dX9_comes_26 ?_
        refine lv_iload_n hx hb dX9_comes_29 rfl (lv_at hl 2 rfl) ?_
        refine ldM_20 (mm := y12_2.toInt) hx hb hK hP rfl (ob_81 g12_2) (ob_355 hp4.2.2.1 f7) dX9_comes_30 ?_
        have f8 : ((f_code (y12_2.toInt).toNat).toInt = 126 ∧ (dp f_code (f_ruleFrom (i_bank.toInt).toNat).toInt (y12_2.toInt + 1 - (f_ruleFrom (i_bank.toInt).toNat).toInt).toNat) = (dp f_code (f_ruleFrom (i_bank.toInt).toNat).toInt (y12_2.toInt - (f_ruleFrom (i_bank.toInt).toNat).toInt).toNat)) ∨ (97 ≤ (f_code (y12_2.toInt).toNat).toInt ∧ (f_code (y12_2.toInt).toNat).toInt ≤ 122 ∧ (dp f_code (f_ruleFrom (i_bank.toInt).toNat).toInt (y12_2.toInt + 1 - (f_ruleFrom (i_bank.toInt).toNat).toInt).toNat) = (dp f_code (f_ruleFrom (i_bank.toInt).toNat).toInt (y12_2.toInt - (f_ruleFrom (i_bank.toInt).toNat).toInt).toNat) + 1) ∨ ((f_code (y12_2.toInt).toNat).toInt ≠ 126 ∧ ((f_code (y12_2.toInt).toNat).toInt < 97 ∨ 122 < (f_code (y12_2.toInt).toNat).toInt) ∧ (dp f_code (f_ruleFrom (i_bank.toInt).toNat).toInt (y12_2.toInt + 1 - (f_ruleFrom (i_bank.toInt).toNat).toInt).toNat) = (dp f_code (f_ruleFrom (i_bank.toInt).toNat).toInt (y12_2.toInt - (f_ruleFrom (i_bank.toInt).toNat).toInt).toNat) + -1) := dp_or (ob_87 g12_5)
        have f9 := ruw_at hp4 (ob_87 g12_5) (ob_356 f7)
        refine lv_istore_n (lv' := [(3, .int (f_code (y12_2.toInt).toNat)), (0, .ref (r 0)), (1, .int y12_1), (2, .int y12_2)]) hx hb dX9_comes_31 rfl hl (by decide) rfl (fun ls hl => ?_)
        refine lv_iload_n hx hb dX9_comes_32 rfl (lv_at hl 0 rfl) ?_
        refine lv_bipush (v := 126) hx hb dX9_comes_33 (by decide) ?_
        refine lv_icmp_ne (tgt := 65) hx hb dX9_comes_35 (by decide) (fun c_10 => ?_) (fun c_10 => ?_)
        · skip
          have f11 : (f_code (y12_2.toInt).toNat).toInt ≠ 126 := qi_ne c_10 rfl zc_126
          refine lv_iload_n hx hb dX9_comes_65 rfl (lv_at hl 0 rfl) ?_
          refine va_calli (va_runS (As := [.int (f_code (y12_2.toInt).toNat)]) (rest := []) ⟨hx, hb, hml, hown, hG⟩ (kX9_isLetter l dC dI (f_code (y12_2.toInt).toNat) H12.size) (va_cwS 1 hG (goodS gw1370 gw1371 gw138 gw1372) rfl rfl rfl hd_X9_isLetter ⟨(Nat.le_of_ble_eq_true rfl), (Nat.le_of_ble_eq_true rfl)⟩) ⟨fbR, pR_in emptyP (emptyK hK)⟩ rfl rfl hl.1 rfl (lv_room (Nat.le_of_ble_eq_true rfl)) dX9_comes_66 ⟨(Nat.le_of_ble_eq_true rfl), (Nat.le_of_ble_eq_true rfl)⟩) hS (fun q hq h => absurd hq (Nat.not_lt.mpr h)) (fun q h => hA q (Nat.le_trans hS.1 h)) (fun r_13 u_ t_ H12 locs ht hvm hw hB hz1 hk1 hS => ?_)
          subst hw
          have hP := wk hP hk1
          obtain ⟨f14, f15, f16⟩ := hB
          refine lv_if_eq (tgt := 95) hx hb dX9_comes_69 (by decide) (fun c_17 => ?_) (fun c_17 => ?_)
          · skip
            have f18 : r_13.toInt = 0 := qi_eq c_17 rfl zc_0
            obtain ⟨x19, ex19⟩ : ∃ y : Int32, y = y12_1 + Int32.ofInt (-1) := ⟨_, rfl⟩
            have f20 : x19.toInt = y12_1.toInt + (-1) := (ob_359 (qi_add ex19 rfl (by decide) (ob_357 g12_0 g12_1 g12_4) (ob_358 g12_0 g12_1 g12_4)))
            refine lv_iinc (v := x19) (lv' := [(1, .int x19), (3, .int (f_code (y12_2.toInt).toNat)), (0, .ref (r 0)), (2, .int y12_2)]) hx hb dX9_comes_95 hl (k := 2) rfl ex19.symm (by decide) rfl (fun ls hl => ?_)
            refine lv_aload_n hx hb dX9_comes_98 rfl (lv_at hl 2 rfl) ?_
            refine gM_X9_85_0 hx hb hG hown hK hP dX9_comes_99 ?_
            refine lv_iload_n hx hb dX9_comes_102 rfl (lv_at hl 0 rfl) ?_
            refine lv_iconst (v := 1) hx hb dX9_comes_103 (by decide) ?_
            refine lv_isub hx hb dX9_comes_104 ?_
            refine lv_topi (fun x21 ex21 => ?_)
            have f22 : x21.toInt = y12_1.toInt + (-2) := (ob_362 (qi_sub ex21 rfl zc_1 (ob_360 g12_0 g12_1 g12_4 f20) (ob_361 g12_0 g12_1 g12_4 f20)) f20)
            refine lv_iload_n hx hb dX9_comes_105 rfl (lv_at hl 1 rfl) ?_
            refine lv_aload_n hx hb dX9_comes_106 rfl (lv_at hl 2 rfl) ?_
            refine gM_X9_85_0 hx hb hG hown hK hP dX9_comes_107 ?_
            refine lv_iload_n hx hb dX9_comes_110 rfl (lv_at hl 0 rfl) ?_
            refine lv_iconst (v := 1) hx hb dX9_comes_111 (by decide) ?_
            refine lv_isub hx hb dX9_comes_112 ?_
            refine lv_topi (fun x23 ex23 => ?_)
            have f24 : x23.toInt = y12_1.toInt + (-2) := (ob_362 (qi_sub ex23 rfl zc_1 (ob_360 g12_0 g12_1 g12_4 f20) (ob_361 g12_0 g12_1 g12_4 f20)) f20)
            refine ldM_24 (mm := y12_1.toInt + (-2)) hx hb hK hP f24 (ob_363 g12_4 f9.2.2.2.2 f11 f14 f18) (ob_364 g12_0 g12_1 g12_4) dX9_comes_113 (fun x25 => ?_)
            refine lv_aload_n hx hb dX9_comes_114 rfl (lv_at hl 2 rfl) ?_
            refine gM_X9_85_0 hx hb hG hown hK hP dX9_comes_115 ?_
            refine lv_iload_n hx hb dX9_comes_118 rfl (lv_at hl 0 rfl) ?_
            refine ldM_24 (mm := y12_1.toInt + (-1)) hx hb hK hP f20 (ob_365 g12_4 f9.1 f9.2.2.2.2 f14 f18) (ob_366 g12_4 f9.2.2.2.1) dX9_comes_119 (fun x26 => ?_)
            refine va_calli (va_runS (As := [.int (f_code (y12_2.toInt).toNat), .int x25, .int x26]) (rest := [.int x21, .ref (r 24)]) ⟨hx, hb, hml, hown, hG⟩ (kX9_two l dC dI (f_code (y12_2.toInt).toNat) x25 x26 H12.size) (va_cwS 3 hG (goodS gw1598 gw1599 gw138 gw1600) rfl rfl rfl hd_X9_two ⟨(Nat.le_of_ble_eq_true rfl), (Nat.le_of_ble_eq_true rfl)⟩) ⟨fbR, pR_in emptyP (emptyK hK)⟩ rfl rfl hl.1 rfl (lv_room (Nat.le_of_ble_eq_true rfl)) dX9_comes_120 ⟨(Nat.le_of_ble_eq_true rfl), (Nat.le_of_ble_eq_true rfl)⟩) hS (fun q hq h => absurd hq (Nat.not_lt.mpr h)) (fun q h => hA q (Nat.le_trans hS.1 h)) (fun r_28 u_ t_ H27 locs ht hvm hw hB hz1 hk1 hS => ?_)
            subst hw
            have hP := wk hP hk1
            refine stM_24 (mm := y12_1.toInt + (-2)) hx hb hK hP hD hS f22 (ob_363 g12_4 f9.2.2.2.2 f11 f14 f18) (ob_364 g12_0 g12_1 g12_4) dX9_comes_123 (fun J30 H29 locs hP hD hS => ?_)
            obtain ⟨x31, ex31⟩ : ∃ y : Int32, y = y12_2 + Int32.ofInt 1 := ⟨_, rfl⟩
            have f32 : x31.toInt = y12_2.toInt + 1 := (ob_84 (qi_add ex31 rfl (by decide) (ob_82 g12_2) (ob_367 g12_3)))
            refine lv_iinc (v := x31) (lv' := [(2, .int x31), (1, .int x19), (3, .int (f_code (y12_2.toInt).toNat)), (0, .ref (r 0))]) hx hb dX9_comes_124 hl (k := 3) rfl ex31.symm (by decide) rfl (fun ls hl => ?_)
            have f33 : (dp f_code (f_ruleFrom (i_bank.toInt).toNat).toInt (x31.toInt - (f_ruleFrom (i_bank.toInt).toNat).toInt).toNat) = (dp f_code (f_ruleFrom (i_bank.toInt).toNat).toInt (y12_2.toInt + 1 - (f_ruleFrom (i_bank.toInt).toNat).toInt).toNat) := by rw [f32]
            refine lv_goto (tgt := 12) hx hb dX9_comes_127 (by decide) ?_
            exact ih12 x19 x31 J30 H29 _ _ (ob_368 g12_4 f9.2.2.1 f20) (ob_369 g12_0 g12_1 g12_4 f20) (ob_92 g12_2 f32) (ob_370 hp4.2.2.1 f7 f32) (ob_371 g12_4 f8 f11 f14 f18 f33 f20) (ob_94 g12_5 f32) (ob_370 hp4.2.2.1 f7 f32) hP hD hS (lv_sub hl [3, 1, 0] rfl) (ob_372 hM12 f32)
          · skip
            have f34 : r_13.toInt ≠ 0 := qi_ne c_17 rfl zc_0
            have f35 : 1 ≤ r_13.toInt := (ob_373 f14 f34)
            have f36 : 97 ≤ (f_code (y12_2.toInt).toNat).toInt := (ob_374 f14 f34)
            have f37 : (f_code (y12_2.toInt).toNat).toInt ≤ 122 := (ob_375 f14 f34)
            have f38 : r_13.toInt = 1 := (ob_105 f15 f16 f35)
            refine lv_aload_n hx hb dX9_comes_72 rfl (lv_at hl 1 rfl) ?_
            refine gM_X9_85_0 hx hb hG hown hK hP dX9_comes_73 ?_
            refine lv_iload_n hx hb dX9_comes_76 rfl (lv_at hl 2 rfl) ?_
            refine lv_aload_n hx hb dX9_comes_77 rfl (lv_at hl 1 rfl) ?_
            refine lv_iload_n hx hb dX9_comes_78 rfl (lv_at hl 0 rfl) ?_
            refine lv_aload_n hx hb dX9_comes_79 rfl (lv_at hl 1 rfl) ?_
            refine gM_X9_76_0 hx hb hG hown hK hP dX9_comes_80 ?_
            refine lv_iload_n hx hb dX9_comes_83 rfl (lv_at hl 3 rfl) ?_
            refine ldM_21 (mm := y12_2.toInt) hx hb hK hP rfl (ob_81 g12_2) (ob_355 hp4.2.2.1 f7) dX9_comes_84 (fun x39 => ?_)
            refine va_calli (va_runV (As := [.int (f_code (y12_2.toInt).toNat), .int x39]) (rest := [.int y12_1, .ref (r 24)]) ⟨hx, hb, hml, hown, hG⟩ (kX9_asked l dC dI r ct i_taped i_size i_faultKind i_at i_end i_token i_number i_bank i_rb i_codes i_within i_piled i_unitsInRule i_askHouse i_askTune i_acts i_undone i_laid i_knowns i_time f_text f_tunes f_houses f_hums f_told f_many f_ruleFrom f_ruleTo f_code f_eWhat f_eSign f_all f_kept f_was f_sTune f_boxAll m12_J L (f_code (y12_2.toInt).toNat) x39 H12.size hI (ob_288 hp0 hp1) (ob_314 f2 hp0 hp1) (ob_288 hp2 hp3) (ob_289 f1 hp2 hp3)) (cwV 2 hG (goodV gw1574 gw1576 gw97 gw138 gw1577) rfl rfl rfl hd_X9_asked ⟨(Nat.le_of_ble_eq_true rfl), (Nat.le_of_ble_eq_true rfl)⟩) ⟨fbR, va_recv hK hP (ci := 8) (q0 := 0) rfl rfl, pR_in hP hK⟩ rfl rfl hl.1 rfl (lv_room (Nat.le_of_ble_eq_true rfl)) dX9_comes_85 ⟨(Nat.le_of_ble_eq_true rfl), (Nat.le_of_ble_eq_true rfl)⟩) hS (fun q hq h => absurd hq (Nat.not_lt.mpr h)) (fun q h => hA q (Nat.le_trans hS.1 h)) (fun r_41 u_ t_ H40 locs ht hvm hw hB hz1 hk1 hS => ?_)
            subst hw
            have hP := wk hP hk1
            refine stM_24 (mm := y12_1.toInt) hx hb hK hP hD hS rfl (ob_376 g12_4 f9.2.2.1) (ob_377 g12_4 f9.2.1 f36 f37) dX9_comes_88 (fun J43 H42 locs hP hD hS => ?_)
            obtain ⟨x44, ex44⟩ : ∃ y : Int32, y = y12_1 + Int32.ofInt 1 := ⟨_, rfl⟩
            have f45 : x44.toInt = y12_1.toInt + 1 := (ob_84 (qi_add ex44 rfl (by decide) (ob_378 g12_0 g12_1 g12_4) (ob_379 g12_0 g12_1 g12_4)))
            refine lv_iinc (v := x44) (lv' := [(1, .int x44), (3, .int (f_code (y12_2.toInt).toNat)), (0, .ref (r 0)), (2, .int y12_2)]) hx hb dX9_comes_89 hl (k := 2) rfl ex44.symm (by decide) rfl (fun ls hl => ?_)
            refine lv_goto (tgt := 124) hx hb dX9_comes_92 (by decide) ?_
            obtain ⟨x46, ex46⟩ : ∃ y : Int32, y = y12_2 + Int32.ofInt 1 := ⟨_, rfl⟩
            have f47 : x46.toInt = y12_2.toInt + 1 := (ob_84 (qi_add ex46 rfl (by decide) (ob_82 g12_2) (ob_367 g12_3)))
            refine lv_iinc (v := x46) (lv' := [(2, .int x46), (1, .int x44), (3, .int (f_code (y12_2.toInt).toNat)), (0, .ref (r 0))]) hx hb dX9_comes_124 hl (k := 3) rfl ex46.symm (by decide) rfl (fun ls hl => ?_)
            have f48 : (dp f_code (f_ruleFrom (i_bank.toInt).toNat).toInt (x46.toInt - (f_ruleFrom (i_bank.toInt).toNat).toInt).toNat) = (dp f_code (f_ruleFrom (i_bank.toInt).toNat).toInt (y12_2.toInt + 1 - (f_ruleFrom (i_bank.toInt).toNat).toInt).toNat) := by rw [f47]
            refine lv_goto (tgt := 12) hx hb dX9_comes_127 (by decide) ?_
            exact ih12 x44 x46 J43 H42 _ _ (ob_380 g12_0 g12_1 g12_4 f45) (ob_381 g12_4 f9.2.2.2.1 f45) (ob_92 g12_2 f47) (ob_370 hp4.2.2.1 f7 f47) (ob_382 g12_4 f8 f36 f37 f48 f45) (ob_94 g12_5 f47) (ob_370 hp4.2.2.1 f7 f47) hP hD hS (lv_sub hl [3, 1, 0] rfl) (ob_372 hM12 f47)
        · skip
          have f49 : (f_code (y12_2.toInt).toNat).toInt = 126 := qi_eq c_10 rfl zc_126
          have f50 : ((f_code (y12_2.toInt).toNat).toInt ≤ 122) → ((dp f_code (f_ruleFrom (i_bank.toInt).toNat).toInt (y12_2.toInt - (f_ruleFrom (i_bank.toInt).toNat).toInt).toNat) ≤ 59) := (ob_383 f49)
          refine lv_aload_n hx hb dX9_comes_38 rfl (lv_at hl 1 rfl) ?_
          refine gM_X9_85_0 hx hb hG hown hK hP dX9_comes_39 ?_
          refine lv_iload_n hx hb dX9_comes_42 rfl (lv_at hl 2 rfl) ?_
          refine lv_iconst (v := 1) hx hb dX9_comes_43 (by decide) ?_
          refine lv_isub hx hb dX9_comes_44 ?_
          refine lv_topi (fun x51 ex51 => ?_)
          have f52 : x51.toInt = y12_1.toInt + (-1) := (ob_386 (qi_sub ex51 rfl zc_1 (ob_384 g12_0 g12_1 g12_4) (ob_385 g12_0 g12_1 g12_4)))
          refine lv_aload_n hx hb dX9_comes_45 rfl (lv_at hl 1 rfl) ?_
          refine gM_X9_85_0 hx hb hG hown hK hP dX9_comes_46 ?_
          refine lv_iload_n hx hb dX9_comes_49 rfl (lv_at hl 2 rfl) ?_
          refine lv_iconst (v := 1) hx hb dX9_comes_50 (by decide) ?_
          refine lv_isub hx hb dX9_comes_51 ?_
          refine lv_topi (fun x53 ex53 => ?_)
          have f54 : x53.toInt = y12_1.toInt + (-1) := (ob_386 (qi_sub ex53 rfl zc_1 (ob_384 g12_0 g12_1 g12_4) (ob_385 g12_0 g12_1 g12_4)))
          refine ldM_24 (mm := y12_1.toInt + (-1)) hx hb hK hP f54 (ob_387 g12_4 f9.1 f49) (ob_366 g12_4 f9.2.2.2.1) dX9_comes_52 (fun x55 => ?_)
          refine lv_if_ne (tgt := 60) hx hb dX9_comes_53 (by decide) (fun c_56 => ?_) (fun c_56 => ?_)
          · skip
            have f57 : x55.toInt ≠ 0 := qi_ne c_56 rfl zc_0
            refine lv_iconst (v := 0) hx hb dX9_comes_60 (by decide) ?_
            refine stM_24 (mm := y12_1.toInt + (-1)) hx hb hK hP hD hS f52 (ob_387 g12_4 f9.1 f49) (ob_366 g12_4 f9.2.2.2.1) dX9_comes_61 (fun J59 H58 locs hP hD hS => ?_)
            refine lv_goto (tgt := 124) hx hb dX9_comes_62 (by decide) ?_
            obtain ⟨x60, ex60⟩ : ∃ y : Int32, y = y12_2 + Int32.ofInt 1 := ⟨_, rfl⟩
            have f61 : x60.toInt = y12_2.toInt + 1 := (ob_84 (qi_add ex60 rfl (by decide) (ob_82 g12_2) (ob_367 g12_3)))
            refine lv_iinc (v := x60) (lv' := [(2, .int x60), (3, .int (f_code (y12_2.toInt).toNat)), (0, .ref (r 0)), (1, .int y12_1)]) hx hb dX9_comes_124 hl (k := 3) rfl ex60.symm (by decide) rfl (fun ls hl => ?_)
            have f62 : (dp f_code (f_ruleFrom (i_bank.toInt).toNat).toInt (x60.toInt - (f_ruleFrom (i_bank.toInt).toNat).toInt).toNat) = (dp f_code (f_ruleFrom (i_bank.toInt).toNat).toInt (y12_2.toInt + 1 - (f_ruleFrom (i_bank.toInt).toNat).toInt).toNat) := by rw [f61]
            refine lv_goto (tgt := 12) hx hb dX9_comes_127 (by decide) ?_
            exact ih12 y12_1 x60 J59 H58 _ _ (ob_388 g12_0 g12_1 g12_4) (ob_389 g12_0 g12_1 g12_4) (ob_92 g12_2 f61) (ob_370 hp4.2.2.1 f7 f61) (ob_390 g12_4 f8 f49 f62) (ob_94 g12_5 f61) (ob_370 hp4.2.2.1 f7 f61) hP hD hS (lv_sub hl [2, 3, 0] rfl) (ob_372 hM12 f61)
          · skip
            have f63 : x55.toInt = 0 := qi_eq c_56 rfl zc_0
            refine lv_iconst (v := 1) hx hb dX9_comes_56 (by decide) ?_
            refine lv_goto (tgt := 61) hx hb dX9_comes_57 (by decide) ?_
            refine stM_24 (mm := y12_1.toInt + (-1)) hx hb hK hP hD hS f52 (ob_387 g12_4 f9.1 f49) (ob_366 g12_4 f9.2.2.2.1) dX9_comes_61 (fun J65 H64 locs hP hD hS => ?_)
            refine lv_goto (tgt := 124) hx hb dX9_comes_62 (by decide) ?_
            obtain ⟨x66, ex66⟩ : ∃ y : Int32, y = y12_2 + Int32.ofInt 1 := ⟨_, rfl⟩
            have f67 : x66.toInt = y12_2.toInt + 1 := (ob_84 (qi_add ex66 rfl (by decide) (ob_82 g12_2) (ob_367 g12_3)))
            refine lv_iinc (v := x66) (lv' := [(2, .int x66), (3, .int (f_code (y12_2.toInt).toNat)), (0, .ref (r 0)), (1, .int y12_1)]) hx hb dX9_comes_124 hl (k := 3) rfl ex66.symm (by decide) rfl (fun ls hl => ?_)
            have f68 : (dp f_code (f_ruleFrom (i_bank.toInt).toNat).toInt (x66.toInt - (f_ruleFrom (i_bank.toInt).toNat).toInt).toNat) = (dp f_code (f_ruleFrom (i_bank.toInt).toNat).toInt (y12_2.toInt + 1 - (f_ruleFrom (i_bank.toInt).toNat).toInt).toNat) := by rw [f67]
            refine lv_goto (tgt := 12) hx hb dX9_comes_127 (by decide) ?_
            exact ih12 y12_1 x66 J65 H64 _ _ (ob_388 g12_0 g12_1 g12_4) (ob_389 g12_0 g12_1 g12_4) (ob_92 g12_2 f67) (ob_370 hp4.2.2.1 f7 f67) (ob_390 g12_4 f8 f49 f68) (ob_94 g12_5 f67) (ob_370 hp4.2.2.1 f7 f67) hP hD hS (lv_sub hl [2, 3, 0] rfl) (ob_372 hM12 f67)
  exact L12 (-1 * (f_ruleFrom (i_bank.toInt).toNat).toInt + 1120 + 1).toNat 0 (f_ruleFrom (i_bank.toInt).toNat) J s.heap _ _ (ob_391 zc_0) (ob_392 zc_0) (ob_393 hp4.1 hp4.2.1) (ob_394 hp4.1 hp4.2.1) (ob_0 f3 zc_0) (ob_88) (ob_394 hp4.1 hp4.2.1) hP hD hS (lv_sub hl [2, 1, 0] rfl) (mlt (ob_395 hp4.1 hp4.2.1))
set_option maxHeartbeats 4000000 in
set_option maxRecDepth 100000 in
theorem kX9_fault (l : Launch) (dC : Nat → ClassId) (dI : Nat → Nat → Nat) (r : Nat → Nat) (ct : Nat → ClassId) (i_taped i_size i_faultKind i_at i_end i_token i_number i_bank i_rb i_codes i_within i_piled i_unitsInRule i_askHouse i_askTune i_acts i_undone i_laid i_knowns i_time : Int32) (f_text f_tunes f_houses f_hums f_told f_many f_ruleFrom f_ruleTo f_code f_eWhat f_eSign f_all f_kept f_was f_sTune f_boxAll : Nat → Int32) (J : Nat → Nat → Int32) (L : Nat → Nat → Int64) (p0 : Int32) (sz : Nat) (hI : (IM i_taped i_size i_faultKind i_at i_end i_bank i_rb i_acts i_undone i_laid i_knowns i_time f_tunes f_houses f_hums f_told f_many f_ruleFrom f_ruleTo f_code f_all f_kept f_was f_sTune f_boxAll)) : Met l yX9_fault (.code yX9_fault cX9_fault 2 (some .int) :: GW) { frames := 2, cells := 0, slots := 0, locals := 100 } (va_Pc [.ref (r 0), .int p0] (pR (dC, dI) (WM r ct i_taped i_size i_faultKind i_at i_end i_token i_number i_bank i_rb i_codes i_within i_piled i_unitsInRule i_askHouse i_askTune i_acts i_undone i_laid i_knowns i_time f_text f_tunes f_houses f_hums f_told f_many f_ruleFrom f_ruleTo f_code f_eWhat f_eSign f_all f_kept f_was f_sTune f_boxAll J L) (TM ct) sz)) (va_Qi (fun (r0 : Int32) (u : Int32) => r0 = u) (fun (u : Int32) (t : State) => True) (fun q => sz ≤ q)) 0 0 (fun q => sz ≤ q) := by
  refine Met.ofW (cc := cX9_fault) (maxL := 2) (ret := (some .int)) (by decide) rfl ?_
  intro p e s m args below meth c0 s₁ B hml hv
  obtain ⟨rfl, hsz, hP, hK⟩ := hv
  have hx := B.exec
  have hb := B.bytes
  have hr := B.returns
  have hts := atoms_spec (ws := .code yX9_fault cX9_fault 2 (some .int) :: GW) B.pre
  have hG : ∀ w ∈ GW, w.before _ s = true := fun w h => hts w (List.mem_cons_of_mem _ h)
  have hown : s.vm.findClass RX9 = some m.cls := findClass_of_methodNamed B.named
  subst hsz
  have hS : va_S (fun q => s.heap.size ≤ q) s.heap s.heap [] := va_S.rf
  have hP : va_P (dC, dI) vwCl (WM r ct i_taped i_size i_faultKind i_at i_end i_token i_number i_bank i_rb i_codes i_within i_piled i_unitsInRule i_askHouse i_askTune i_acts i_undone i_laid i_knowns i_time f_text f_tunes f_houses f_hums f_told f_many f_ruleFrom f_ruleTo f_code f_eWhat f_eSign f_all f_kept f_was f_sTune f_boxAll J L) s.heap := hP
  have hl := lv_entry ([.ref (r 0), .int p0]) (n := 2) (Nat.le_of_ble_eq_true rfl)
  rw [lg_entry_eq]
  generalize (lg_sl ([.ref (r 0), .int p0]) ++ List.replicate (2 - (lg_sl ([.ref (r 0), .int p0])).length) Slot.unset).toArray = ls at hl ⊢
  have hl : lv_has ls 2 [(0, .ref (r 0)), (1, .int p0)] := hl
  refine nameQ (fun Q hQ => ?_)
  obtain ⟨im0, im1, im2, im3, im4, im5, im6, im7, im8, im9, im10, im11, im12, im13, im14, im15, im16, im17, im18, im19, im20, im21, im22, im23, im24, im25, im26, im27, im28, im29, im30, im31⟩ := id hI
  have f1 : 0 ≤ (f_tunes (i_bank.toInt).toNat).toInt ∧ (f_tunes (i_bank.toInt).toNat).toInt ≤ 5 := im21 (i_bank.toInt)
  have f2 : 0 ≤ (f_houses (i_bank.toInt).toNat).toInt ∧ (f_houses (i_bank.toInt).toNat).toInt ≤ 4 := im22 (i_bank.toInt)
  refine lv_iload_n hx hb dX9_fault_0 rfl (lv_at hl 1 rfl) ?_
  refine lv_if_ne (tgt := 11) hx hb dX9_fault_1 (by decide) (fun c_3 => ?_) (fun c_3 => ?_)
  · skip
    have f4 : p0.toInt ≠ 0 := qi_ne c_3 rfl zc_0
    refine lv_iload_n hx hb dX9_fault_11 rfl (lv_at hl 1 rfl) ?_
    refine lv_iconst (v := 1) hx hb dX9_fault_12 (by decide) ?_
    refine lv_icmp_ne (tgt := 23) hx hb dX9_fault_13 (by decide) (fun c_5 => ?_) (fun c_5 => ?_)
    · skip
      have f6 : p0.toInt ≠ 1 := qi_ne c_5 rfl zc_1
      refine lv_iconst (v := (-1)) hx hb dX9_fault_23 (by decide) ?_
      rw [hQ]
      exact W.iret (v := (-1)) hx hb hr (fun t ht hW => ⟨⟨(-1), (-1), rfl, rfl, trivial⟩, hS.F ht⟩) hS.2.2 dX9_fault_24
    · skip
      have f7 : p0.toInt = 1 := qi_eq c_5 rfl zc_1
      have f8 : 1 ≤ p0.toInt := (ob_158 f7)
      refine lv_aload_n hx hb dX9_fault_16 rfl (lv_at hl 0 rfl) ?_
      refine gM_X9_16_0 hx hb hG hown hK hP dX9_fault_17 (fun x9 => ?_)
      refine lv_goto (tgt := 24) hx hb dX9_fault_20 (by decide) ?_
      rw [hQ]
      exact W.iret (v := x9) hx hb hr (fun t ht hW => ⟨⟨x9, x9, rfl, rfl, trivial⟩, hS.F ht⟩) hS.2.2 dX9_fault_24
  · skip
    have f10 : p0.toInt = 0 := qi_eq c_3 rfl zc_0
    refine lv_aload_n hx hb dX9_fault_4 rfl (lv_at hl 0 rfl) ?_
    refine gM_X9_140_0 hx hb hG hown hK hP dX9_fault_5 ?_
    refine lv_goto (tgt := 24) hx hb dX9_fault_8 (by decide) ?_
    rw [hQ]
    exact W.iret (v := i_faultKind) hx hb hr (fun t ht hW => ⟨⟨i_faultKind, i_faultKind, rfl, rfl, trivial⟩, hS.F ht⟩) hS.2.2 dX9_fault_24
set_option maxHeartbeats 4000000 in
set_option maxRecDepth 100000 in
theorem kX9_isIn (l : Launch) (dC : Nat → ClassId) (dI : Nat → Nat → Nat) (p0 p1 p2 : Int32) (sz : Nat) : Met l yX9_isIn (.code yX9_isIn cX9_isIn 3 (some .boolean) :: GW) { frames := 2, cells := 0, slots := 0, locals := 100 } (va_Pc [.int p0, .int p1, .int p2] (pR (dC, dI) [] [] sz)) (va_Qi (fun (r0 : Int32) (u : Int32) => r0 = u) (fun (u : Int32) (t : State) => (((p0.toInt + 1 ≤ p1.toInt) ∧ (u.toInt = 0)) ∨ ((p1.toInt ≤ p0.toInt) ∧ (p2.toInt + 1 ≤ p0.toInt) ∧ (u.toInt = 0)) ∨ ((p1.toInt ≤ p0.toInt) ∧ (p0.toInt ≤ p2.toInt) ∧ (u.toInt = 1))) ∧ (0 ≤ u.toInt) ∧ (u.toInt ≤ 1)) (fun q => sz ≤ q)) 0 0 (fun q => sz ≤ q) := by
  refine Met.ofW (cc := cX9_isIn) (maxL := 3) (ret := (some .boolean)) (by decide) rfl ?_
  intro p e s m args below meth c0 s₁ B hml hv
  obtain ⟨rfl, hsz, hP, hK⟩ := hv
  have hx := B.exec
  have hb := B.bytes
  have hr := B.returns
  have hts := atoms_spec (ws := .code yX9_isIn cX9_isIn 3 (some .boolean) :: GW) B.pre
  have hG : ∀ w ∈ GW, w.before _ s = true := fun w h => hts w (List.mem_cons_of_mem _ h)
  have hown : s.vm.findClass RX9 = some m.cls := findClass_of_methodNamed B.named
  subst hsz
  have hS : va_S (fun q => s.heap.size ≤ q) s.heap s.heap [] := va_S.rf
  have hP : va_P (dC, dI) vwCl [] s.heap := hP
  have hl := lv_entry ([.int p0, .int p1, .int p2]) (n := 3) (Nat.le_of_ble_eq_true rfl)
  rw [lg_entry_eq]
  generalize (lg_sl ([.int p0, .int p1, .int p2]) ++ List.replicate (3 - (lg_sl ([.int p0, .int p1, .int p2])).length) Slot.unset).toArray = ls at hl ⊢
  have hl : lv_has ls 3 [(0, .int p0), (1, .int p1), (2, .int p2)] := hl
  refine nameQ (fun Q hQ => ?_)
  refine lv_iload_n hx hb dX9_isIn_0 rfl (lv_at hl 0 rfl) ?_
  refine lv_iload_n hx hb dX9_isIn_1 rfl (lv_at hl 1 rfl) ?_
  refine lv_icmp_lt (tgt := 14) hx hb dX9_isIn_2 (by decide) (fun c_1 => ?_) (fun c_1 => ?_)
  · skip
    have f2 : p0.toInt < p1.toInt := qi_lt c_1 rfl rfl
    refine lv_iconst (v := 0) hx hb dX9_isIn_14 (by decide) ?_
    rw [hQ]
    exact W.zret (v := 0) hx hb hr (by decide) (fun t ht hW => ⟨⟨0, 0, rfl, rfl, ⟨(ob_396 f2 zc_0), (ob_1 zc_0), (ob_11 zc_0)⟩⟩, hS.F ht⟩) hS.2.2 dX9_isIn_15
  · skip
    have f3 : p1.toInt ≤ p0.toInt := qi_nlt c_1 rfl rfl
    refine lv_iload_n hx hb dX9_isIn_5 rfl (lv_at hl 0 rfl) ?_
    refine lv_iload_n hx hb dX9_isIn_6 rfl (lv_at hl 2 rfl) ?_
    refine lv_icmp_gt (tgt := 14) hx hb dX9_isIn_7 (by decide) (fun c_4 => ?_) (fun c_4 => ?_)
    · skip
      have f5 : p2.toInt < p0.toInt := qi_lt c_4 rfl rfl
      refine lv_iconst (v := 0) hx hb dX9_isIn_14 (by decide) ?_
      rw [hQ]
      exact W.zret (v := 0) hx hb hr (by decide) (fun t ht hW => ⟨⟨0, 0, rfl, rfl, ⟨(ob_397 f3 f5 zc_0), (ob_1 zc_0), (ob_11 zc_0)⟩⟩, hS.F ht⟩) hS.2.2 dX9_isIn_15
    · skip
      have f6 : p0.toInt ≤ p2.toInt := qi_nlt c_4 rfl rfl
      refine lv_iconst (v := 1) hx hb dX9_isIn_10 (by decide) ?_
      refine lv_goto (tgt := 15) hx hb dX9_isIn_11 (by decide) ?_
      rw [hQ]
      exact W.zret (v := 1) hx hb hr (by decide) (fun t ht hW => ⟨⟨1, 1, rfl, rfl, ⟨(ob_398 f3 f6 zc_1), (ob_14 zc_1), (ob_15 zc_1)⟩⟩, hS.F ht⟩) hS.2.2 dX9_isIn_15
set_option maxHeartbeats 4000000 in
set_option maxRecDepth 100000 in
theorem kX9_absolute (l : Launch) (dC : Nat → ClassId) (dI : Nat → Nat → Nat) (p0 : Int32) (sz : Nat) : Met l yX9_absolute (.code yX9_absolute cX9_absolute 1 (some .int) :: GW) { frames := 2, cells := 0, slots := 0, locals := 100 } (va_Pc [.int p0] (pR (dC, dI) [] [] sz)) (va_Qi (fun (r0 : Int32) (u : Int32) => r0 = u) (fun (u : Int32) (t : State) => (((0 ≤ p0.toInt) ∧ (u.toInt = p0.toInt)) ∨ ((p0.toInt + 1 ≤ 0)))) (fun q => sz ≤ q)) 0 0 (fun q => sz ≤ q) := by
  refine Met.ofW (cc := cX9_absolute) (maxL := 1) (ret := (some .int)) (by decide) rfl ?_
  intro p e s m args below meth c0 s₁ B hml hv
  obtain ⟨rfl, hsz, hP, hK⟩ := hv
  have hx := B.exec
  have hb := B.bytes
  have hr := B.returns
  have hts := atoms_spec (ws := .code yX9_absolute cX9_absolute 1 (some .int) :: GW) B.pre
  have hG : ∀ w ∈ GW, w.before _ s = true := fun w h => hts w (List.mem_cons_of_mem _ h)
  have hown : s.vm.findClass RX9 = some m.cls := findClass_of_methodNamed B.named
  subst hsz
  have hS : va_S (fun q => s.heap.size ≤ q) s.heap s.heap [] := va_S.rf
  have hP : va_P (dC, dI) vwCl [] s.heap := hP
  have hl := lv_entry ([.int p0]) (n := 1) (Nat.le_of_ble_eq_true rfl)
  rw [lg_entry_eq]
  generalize (lg_sl ([.int p0]) ++ List.replicate (1 - (lg_sl ([.int p0])).length) Slot.unset).toArray = ls at hl ⊢
  have hl : lv_has ls 1 [(0, .int p0)] := hl
  refine nameQ (fun Q hQ => ?_)
  refine lv_iload_n hx hb dX9_absolute_0 rfl (lv_at hl 0 rfl) ?_
  refine lv_if_ge (tgt := 9) hx hb dX9_absolute_1 (by decide) (fun c_1 => ?_) (fun c_1 => ?_)
  · skip
    have f2 : 0 ≤ p0.toInt := qi_le c_1 zc_0 rfl
    refine lv_iload_n hx hb dX9_absolute_9 rfl (lv_at hl 0 rfl) ?_
    rw [hQ]
    exact W.iret (v := p0) hx hb hr (fun t ht hW => ⟨⟨p0, p0, rfl, rfl, (ob_399 f2)⟩, hS.F ht⟩) hS.2.2 dX9_absolute_10
  · skip
    have f3 : p0.toInt < 0 := qi_nle c_1 zc_0 rfl
    refine lv_iload_n hx hb dX9_absolute_4 rfl (lv_at hl 0 rfl) ?_
    refine lv_ineg hx hb dX9_absolute_5 ?_
    refine lv_topi (fun x4 ex4 => ?_)
    refine lv_goto (tgt := 10) hx hb dX9_absolute_6 (by decide) ?_
    rw [hQ]
    exact W.iret (v := x4) hx hb hr (fun t ht hW => ⟨⟨x4, x4, rfl, rfl, (ob_400 f3)⟩, hS.F ht⟩) hS.2.2 dX9_absolute_10
set_option maxHeartbeats 4000000 in
set_option maxRecDepth 100000 in
theorem kX9_bit (l : Launch) (dC : Nat → ClassId) (dI : Nat → Nat → Nat) (p0 p1 : Int32) (sz : Nat) : Met l yX9_bit (.code yX9_bit cX9_bit 2 (some .boolean) :: GW) { frames := 2, cells := 0, slots := 0, locals := 100 } (va_Pc [.int p0, .int p1] (pR (dC, dI) [] [] sz)) (va_Qi (fun (r0 : Int32) (u : Int32) => r0 = u) (fun (u : Int32) (t : State) => (0 ≤ u.toInt) ∧ (u.toInt ≤ 1) ∧ (u.toInt = 1 → BT p0 p1)) (fun q => sz ≤ q)) 0 0 (fun q => sz ≤ q) := by
  refine Met.ofW (cc := cX9_bit) (maxL := 2) (ret := (some .boolean)) (by decide) rfl ?_
  intro p e s m args below meth c0 s₁ B hml hv
  obtain ⟨rfl, hsz, hP, hK⟩ := hv
  have hx := B.exec
  have hb := B.bytes
  have hr := B.returns
  have hts := atoms_spec (ws := .code yX9_bit cX9_bit 2 (some .boolean) :: GW) B.pre
  have hG : ∀ w ∈ GW, w.before _ s = true := fun w h => hts w (List.mem_cons_of_mem _ h)
  have hown : s.vm.findClass RX9 = some m.cls := findClass_of_methodNamed B.named
  subst hsz
  have hS : va_S (fun q => s.heap.size ≤ q) s.heap s.heap [] := va_S.rf
  have hP : va_P (dC, dI) vwCl [] s.heap := hP
  have hl := lv_entry ([.int p0, .int p1]) (n := 2) (Nat.le_of_ble_eq_true rfl)
  rw [lg_entry_eq]
  generalize (lg_sl ([.int p0, .int p1]) ++ List.replicate (2 - (lg_sl ([.int p0, .int p1])).length) Slot.unset).toArray = ls at hl ⊢
  have hl : lv_has ls 2 [(0, .int p0), (1, .int p1)] := hl
  refine nameQ (fun Q hQ => ?_)
  refine lv_iload_n hx hb dX9_bit_0 rfl (lv_at hl 0 rfl) ?_
  refine lv_iload_n hx hb dX9_bit_1 rfl (lv_at hl 1 rfl) ?_
  refine lv_ishr hx hb dX9_bit_2 ?_
  refine lv_topi (fun x1 ex1 => ?_)
  refine lv_iconst (v := 1) hx hb dX9_bit_3 (by decide) ?_
  refine lv_iand hx hb dX9_bit_4 ?_
  refine lv_topi (fun x2 ex2 => ?_)
  refine lv_iconst (v := 1) hx hb dX9_bit_5 (by decide) ?_
  refine lv_icmp_ne (tgt := 13) hx hb dX9_bit_6 (by decide) (fun c_3 => ?_) (fun c_3 => ?_)
  · skip
    have f4 : x2.toInt ≠ 1 := qi_ne c_3 rfl zc_1
    refine lv_iconst (v := 0) hx hb dX9_bit_13 (by decide) ?_
    rw [hQ]
    exact W.zret (v := 0) hx hb hr (by decide) (fun t ht hW => ⟨⟨0, 0, rfl, rfl, ⟨(ob_1 zc_0), (ob_11 zc_0), (fun h => absurd h (by decide))⟩⟩, hS.F ht⟩) hS.2.2 dX9_bit_14
  · skip
    have f5 : x2.toInt = 1 := qi_eq c_3 rfl zc_1
    refine lv_iconst (v := 1) hx hb dX9_bit_9 (by decide) ?_
    refine lv_goto (tgt := 14) hx hb dX9_bit_10 (by decide) ?_
    rw [hQ]
    exact W.zret (v := 1) hx hb hr (by decide) (fun t ht hW => ⟨⟨1, 1, rfl, rfl, ⟨(ob_14 zc_1), (ob_15 zc_1), (fun _ => (by unfold BT; rw [← ex1, ← ex2]; exact toI1 f5))⟩⟩, hS.F ht⟩) hS.2.2 dX9_bit_14
set_option maxHeartbeats 4000000 in
set_option maxRecDepth 100000 in
theorem kX9_bitsOf (l : Launch) (dC : Nat → ClassId) (dI : Nat → Nat → Nat) (p0 : Int32) (sz : Nat) : Met l yX9_bitsOf (.code yX9_bitsOf cX9_bitsOf 3 (some .int) :: GW) { frames := 2, cells := 0, slots := 0, locals := 100 } (va_Pc [.int p0] (pR (dC, dI) [] [] sz)) (va_Qi (fun (r0 : Int32) (u : Int32) => r0 = u) (fun (u : Int32) (t : State) => True) (fun q => sz ≤ q)) 0 0 (fun q => sz ≤ q) := by
  refine Met.ofW (cc := cX9_bitsOf) (maxL := 3) (ret := (some .int)) (by decide) rfl ?_
  intro p e s m args below meth c0 s₁ B hml hv
  obtain ⟨rfl, hsz, hP, hK⟩ := hv
  have hx := B.exec
  have hb := B.bytes
  have hr := B.returns
  have hts := atoms_spec (ws := .code yX9_bitsOf cX9_bitsOf 3 (some .int) :: GW) B.pre
  have hG : ∀ w ∈ GW, w.before _ s = true := fun w h => hts w (List.mem_cons_of_mem _ h)
  have hown : s.vm.findClass RX9 = some m.cls := findClass_of_methodNamed B.named
  subst hsz
  have hS : va_S (fun q => s.heap.size ≤ q) s.heap s.heap [] := va_S.rf
  have hP : va_P (dC, dI) vwCl [] s.heap := hP
  have hl := lv_entry ([.int p0]) (n := 3) (Nat.le_of_ble_eq_true rfl)
  rw [lg_entry_eq]
  generalize (lg_sl ([.int p0]) ++ List.replicate (3 - (lg_sl ([.int p0])).length) Slot.unset).toArray = ls at hl ⊢
  have hl : lv_has ls 3 [(0, .int p0)] := hl
  refine nameQ (fun Q hQ => ?_)
  refine lv_iconst (v := 0) hx hb dX9_bitsOf_0 (by decide) ?_
  refine lv_istore_n (lv' := [(1, .int 0), (0, .int p0)]) hx hb dX9_bitsOf_1 rfl hl (by decide) rfl (fun ls hl => ?_)
  refine lv_iload_n hx hb dX9_bitsOf_2 rfl (lv_at hl 1 rfl) ?_
  have f1 : 0 ≤ (p0.toUInt32.toNat : Int) := nn_nat _
  refine lv_istore_n (lv' := [(2, .int p0), (1, .int 0), (0, .int p0)]) hx hb dX9_bitsOf_3 rfl hl (by decide) rfl (fun ls hl => ?_)
  have L4 : ∀ (N4 : Nat) (y4_1 y4_2 : Int32) (H4 : Heap) (locs : List Loc) (ls : Array Slot) (g4_0 : 0 ≤ (y4_2.toUInt32.toNat : Int)) (hP : va_P (dC, dI) vwCl [] H4) (hS : va_S (fun q => s.heap.size ≤ q) s.heap H4 locs) (hl : lv_has ls 3 [(0, .int p0), (1, .int y4_1), (2, .int y4_2)]) (hM : (y4_2.toUInt32.toNat : Int) < (N4 : Int)), W p l e { frames := 2, cells := 0, slots := 0, locals := 100 } s m ([.int p0] : List Value).toArray below meth c0 H4 locs 0 0 Q (F0 m 4 ls []) := by
    intro N4
    induction N4 with
    | zero =>
      intro y4_1 y4_2 H4 locs ls g4_0 hP hS hl hM
      exact ((ob_401 hM g4_0)).elim
    | succ N4 ih4 =>
      intro y4_1 y4_2 H4 locs ls g4_0 hP hS hl hM
      have hM4 := msucc hM
      refine lv_iload_n hx hb dX9_bitsOf_4 rfl (lv_at hl 2 rfl) ?_
      refine lv_if_eq (tgt := 20) hx hb dX9_bitsOf_5 (by decide) (fun c_2 => ?_) (fun c_2 => ?_)
      · skip
        have f3 : y4_2.toInt = 0 := qi_eq c_2 rfl zc_0
        refine lv_iload_n hx hb dX9_bitsOf_20 rfl (lv_at hl 1 rfl) ?_
        rw [hQ]
        exact W.iret (v := y4_1) hx hb hr (fun t ht hW => ⟨⟨y4_1, y4_1, rfl, rfl, trivial⟩, hS.F ht⟩) hS.2.2 dX9_bitsOf_21
      · skip
        have f4 : y4_2.toInt ≠ 0 := qi_ne c_2 rfl zc_0
        obtain ⟨x5, ex5⟩ : ∃ y : Int32, y = y4_1 + Int32.ofInt 1 := ⟨_, rfl⟩
        have f6 : (-2147483648) ≤ y4_1.toInt ∧ y4_1.toInt ≤ 2147483647 := i32_rg _
        refine lv_iinc (v := x5) (lv' := [(1, .int x5), (0, .int p0), (2, .int y4_2)]) hx hb dX9_bitsOf_8 hl (k := 1) rfl ex5.symm (by decide) rfl (fun ls hl => ?_)
        refine lv_iload_n hx hb dX9_bitsOf_11 rfl (lv_at hl 2 rfl) ?_
        refine lv_iload_n hx hb dX9_bitsOf_12 rfl (lv_at hl 2 rfl) ?_
        refine lv_iconst (v := 1) hx hb dX9_bitsOf_13 (by decide) ?_
        refine lv_isub hx hb dX9_bitsOf_14 ?_
        refine lv_topi (fun x7 ex7 => ?_)
        refine lv_iand hx hb dX9_bitsOf_15 ?_
        refine lv_topi (fun x8 ex8 => ?_)
        have f9 : 0 ≤ (x8.toUInt32.toNat : Int) := nn_nat _
        have f10 : (x8.toUInt32.toNat : Int) < (y4_2.toUInt32.toNat : Int) := and_dec ex8 ex7 f4
        refine lv_istore_n (lv' := [(2, .int x8), (1, .int x5), (0, .int p0)]) hx hb dX9_bitsOf_16 rfl hl (by decide) rfl (fun ls hl => ?_)
        refine lv_goto (tgt := 4) hx hb dX9_bitsOf_17 (by decide) ?_
        exact ih4 x5 x8 H4 _ _ (ob_4 f9 f10) hP hS (lv_sub hl [2, 1, 0] rfl) (ob_402 hM4 f9 f10)
  exact L4 ((p0.toUInt32.toNat : Int) + 1).toNat 0 p0 s.heap _ _ (ob_81 f1) hP hS (lv_sub hl [2, 1, 0] rfl) (mlt (ob_81 f1))
set_option maxHeartbeats 4000000 in
set_option maxRecDepth 100000 in
theorem kX9_divisor (l : Launch) (dC : Nat → ClassId) (dI : Nat → Nat → Nat) (p0 p1 : Int32) (sz : Nat) (hp0 : 1 ≤ p0.toInt) (hp1 : 0 ≤ p1.toInt) : Met l yX9_divisor (.code yX9_divisor cX9_divisor 5 (some .int) :: GW) { frames := 2, cells := 0, slots := 0, locals := 100 } (va_Pc [.int p0, .int p1] (pR (dC, dI) [] [] sz)) (va_Qi (fun (r0 : Int32) (u : Int32) => r0 = u) (fun (u : Int32) (t : State) => (1 ≤ u.toInt) ∧ (1 ≤ u.toInt)) (fun q => sz ≤ q)) 0 0 (fun q => sz ≤ q) := by
  refine Met.ofW (cc := cX9_divisor) (maxL := 5) (ret := (some .int)) (by decide) rfl ?_
  intro p e s m args below meth c0 s₁ B hml hv
  obtain ⟨rfl, hsz, hP, hK⟩ := hv
  have hx := B.exec
  have hb := B.bytes
  have hr := B.returns
  have hts := atoms_spec (ws := .code yX9_divisor cX9_divisor 5 (some .int) :: GW) B.pre
  have hG : ∀ w ∈ GW, w.before _ s = true := fun w h => hts w (List.mem_cons_of_mem _ h)
  have hown : s.vm.findClass RX9 = some m.cls := findClass_of_methodNamed B.named
  subst hsz
  have hS : va_S (fun q => s.heap.size ≤ q) s.heap s.heap [] := va_S.rf
  have hP : va_P (dC, dI) vwCl [] s.heap := hP
  have hl := lv_entry ([.int p0, .int p1]) (n := 5) (Nat.le_of_ble_eq_true rfl)
  rw [lg_entry_eq]
  generalize (lg_sl ([.int p0, .int p1]) ++ List.replicate (5 - (lg_sl ([.int p0, .int p1])).length) Slot.unset).toArray = ls at hl ⊢
  have hl : lv_has ls 5 [(0, .int p0), (1, .int p1)] := hl
  refine nameQ (fun Q hQ => ?_)
  refine lv_iload_n hx hb dX9_divisor_0 rfl (lv_at hl 0 rfl) ?_
  refine lv_istore_n (lv' := [(2, .int p0), (0, .int p0), (1, .int p1)]) hx hb dX9_divisor_1 rfl hl (by decide) rfl (fun ls hl => ?_)
  refine lv_iload_n hx hb dX9_divisor_2 rfl (lv_at hl 2 rfl) ?_
  refine lv_istore_n (lv' := [(3, .int p1), (2, .int p0), (0, .int p0), (1, .int p1)]) hx hb dX9_divisor_3 rfl hl (by decide) rfl (fun ls hl => ?_)
  have L4 : ∀ (N4 : Nat) (y4_2 y4_3 : Int32) (H4 : Heap) (locs : List Loc) (ls : Array Slot) (g4_0 : 1 ≤ y4_2.toInt) (g4_1 : 0 ≤ y4_3.toInt) (hP : va_P (dC, dI) vwCl [] H4) (hS : va_S (fun q => s.heap.size ≤ q) s.heap H4 locs) (hl : lv_has ls 5 [(0, .int p0), (1, .int p1), (2, .int y4_2), (3, .int y4_3)]) (hM : y4_3.toInt < (N4 : Int)), W p l e { frames := 2, cells := 0, slots := 0, locals := 100 } s m ([.int p0, .int p1] : List Value).toArray below meth c0 H4 locs 0 0 Q (F0 m 4 ls []) := by
    intro N4
    induction N4 with
    | zero =>
      intro y4_2 y4_3 H4 locs ls g4_0 g4_1 hP hS hl hM
      exact ((ob_401 hM g4_1)).elim
    | succ N4 ih4 =>
      intro y4_2 y4_3 H4 locs ls g4_0 g4_1 hP hS hl hM
      have hM4 := msucc hM
      refine lv_iload_n hx hb dX9_divisor_4 rfl (lv_at hl 3 rfl) ?_
      refine lv_if_le (tgt := 21) hx hb dX9_divisor_5 (by decide) (fun c_1 => ?_) (fun c_1 => ?_)
      · skip
        have f2 : y4_3.toInt ≤ 0 := qi_le c_1 rfl zc_0
        refine lv_iload_n hx hb dX9_divisor_21 rfl (lv_at hl 2 rfl) ?_
        rw [hQ]
        exact W.iret (v := y4_2) hx hb hr (fun t ht hW => ⟨⟨y4_2, y4_2, rfl, rfl, ⟨(ob_19 g4_0), (ob_19 g4_0)⟩⟩, hS.F ht⟩) hS.2.2 dX9_divisor_22
      · skip
        have f3 : 0 < y4_3.toInt := qi_nle c_1 rfl zc_0
        refine lv_iload_n hx hb dX9_divisor_8 rfl (lv_at hl 2 rfl) ?_
        refine lv_iload_n hx hb dX9_divisor_9 rfl (lv_at hl 3 rfl) ?_
        refine lv_irem hx hb dX9_divisor_10 (qi_nz (ob_403 g4_1 hM4 f3)) ?_
        refine lv_topi (fun x4 ex4 => ?_)
        have f5 : 0 ≤ x4.toInt ∧ x4.toInt < y4_3.toInt ∧ x4.toInt ≤ y4_2.toInt := qi_rem ex4 rfl rfl (ob_20 g4_0) (ob_403 g4_1 hM4 f3)
        have f6 : x4.toInt = (y4_2.toInt % y4_3.toInt) := remnn ex4 rfl rfl (ob_404 g4_0 f5) (ob_405 f3)
        refine lv_istore (lv' := [(4, .int x4), (0, .int p0), (1, .int p1), (2, .int y4_2), (3, .int y4_3)]) hx hb dX9_divisor_11 hl (by decide) rfl (fun ls hl => ?_)
        refine lv_iload_n hx hb dX9_divisor_13 rfl (lv_at hl 4 rfl) ?_
        refine lv_istore_n (lv' := [(2, .int y4_3), (4, .int x4), (0, .int p0), (1, .int p1), (3, .int y4_3)]) hx hb dX9_divisor_14 rfl hl (by decide) rfl (fun ls hl => ?_)
        refine lv_iload hx hb dX9_divisor_15 (lv_at hl 1 rfl) ?_
        refine lv_istore_n (lv' := [(3, .int x4), (2, .int y4_3), (4, .int x4), (0, .int p0), (1, .int p1)]) hx hb dX9_divisor_17 rfl hl (by decide) rfl (fun ls hl => ?_)
        refine lv_goto (tgt := 4) hx hb dX9_divisor_18 (by decide) ?_
        exact ih4 y4_3 x4 H4 _ _ (ob_405 f3) (ob_406 f5 f6) hP hS (lv_sub hl [3, 4, 1, 0] rfl) (ob_407 hM4 f5 f6)
  exact L4 (p1.toInt + 1).toNat p0 p1 s.heap _ _ (ob_19 hp0) (ob_81 hp1) hP hS (lv_sub hl [2, 3, 1, 0] rfl) (mlt (ob_81 hp1))
set_option maxHeartbeats 4000000 in
set_option maxRecDepth 100000 in
theorem kX9_power (l : Launch) (dC : Nat → ClassId) (dI : Nat → Nat → Nat) (p0 p1 : Int32) (sz : Nat) (hp0 : 0 ≤ p0.toInt) (hp1 : p0.toInt ≤ 100) (hp2 : 0 ≤ p1.toInt) (hp3 : p1.toInt ≤ 4) : Met l yX9_power (.code yX9_power cX9_power 4 (some .int) :: GW) { frames := 2, cells := 0, slots := 0, locals := 100 } (va_Pc [.int p0, .int p1] (pR (dC, dI) [] [] sz)) (va_Qi (fun (r0 : Int32) (u : Int32) => r0 = u) (fun (u : Int32) (t : State) => (u.toInt = (pw p0.toInt (p1.toInt).toNat)) ∧ (0 ≤ (pw p0.toInt (p1.toInt).toNat)) ∧ ((pw p0.toInt (p1.toInt).toNat) ≤ 100000000)) (fun q => sz ≤ q)) 0 0 (fun q => sz ≤ q) := by
  refine Met.ofW (cc := cX9_power) (maxL := 4) (ret := (some .int)) (by decide) rfl ?_
  intro p e s m args below meth c0 s₁ B hml hv
  obtain ⟨rfl, hsz, hP, hK⟩ := hv
  have hx := B.exec
  have hb := B.bytes
  have hr := B.returns
  have hts := atoms_spec (ws := .code yX9_power cX9_power 4 (some .int) :: GW) B.pre
  have hG : ∀ w ∈ GW, w.before _ s = true := fun w h => hts w (List.mem_cons_of_mem _ h)
  have hown : s.vm.findClass RX9 = some m.cls := findClass_of_methodNamed B.named
  subst hsz
  have hS : va_S (fun q => s.heap.size ≤ q) s.heap s.heap [] := va_S.rf
  have hP : va_P (dC, dI) vwCl [] s.heap := hP
  have hl := lv_entry ([.int p0, .int p1]) (n := 4) (Nat.le_of_ble_eq_true rfl)
  rw [lg_entry_eq]
  generalize (lg_sl ([.int p0, .int p1]) ++ List.replicate (4 - (lg_sl ([.int p0, .int p1])).length) Slot.unset).toArray = ls at hl ⊢
  have hl : lv_has ls 4 [(0, .int p0), (1, .int p1)] := hl
  refine nameQ (fun Q hQ => ?_)
  refine lv_iconst (v := 1) hx hb dX9_power_0 (by decide) ?_
  refine lv_istore_n (lv' := [(2, .int 1), (0, .int p0), (1, .int p1)]) hx hb dX9_power_1 rfl hl (by decide) rfl (fun ls hl => ?_)
  refine lv_iconst (v := 0) hx hb dX9_power_2 (by decide) ?_
  refine lv_istore_n (lv' := [(3, .int 0), (2, .int 1), (0, .int p0), (1, .int p1)]) hx hb dX9_power_3 rfl hl (by decide) rfl (fun ls hl => ?_)
  refine lv_iload_n hx hb dX9_power_4 rfl (lv_at hl 0 rfl) ?_
  refine lv_iload_n hx hb dX9_power_5 rfl (lv_at hl 3 rfl) ?_
  refine lv_icmp_ge (tgt := 19) hx hb dX9_power_6 (by decide) (fun c_1 => ?_) (fun c_1 => ?_)
  · skip
    have f2 : p1.toInt ≤ 0 := qi_le c_1 rfl zc_0
    refine lv_iload_n hx hb dX9_power_19 rfl (lv_at hl 1 rfl) ?_
    have f3 : (pw p0.toInt (p1.toInt).toNat) = 1 := pw_0 (ob_408 hp2 hp3 f2)
    rw [hQ]
    exact W.iret (v := 1) hx hb hr (fun t ht hW => ⟨⟨1, 1, rfl, rfl, ⟨(ob_409 f3 zc_1), (ob_14 f3), (ob_410 f3)⟩⟩, hS.F ht⟩) hS.2.2 dX9_power_20
  · skip
    have f4 : 0 < p1.toInt := qi_nle c_1 rfl zc_0
    refine lv_iload_n hx hb dX9_power_9 rfl (lv_at hl 1 rfl) ?_
    refine lv_iload_n hx hb dX9_power_10 rfl (lv_at hl 2 rfl) ?_
    refine lv_imul hx hb dX9_power_11 ?_
    refine lv_topi (fun x5 ex5 => ?_)
    have f6 : x5.toInt = p0.toInt := (ob_413 (qi_mul ex5 zc_1 rfl (ob_411 hp0 hp1) (ob_412 hp0 hp1)))
    refine lv_istore_n (lv' := [(2, .int x5), (3, .int 0), (0, .int p0), (1, .int p1)]) hx hb dX9_power_12 rfl hl (by decide) rfl (fun ls hl => ?_)
    refine lv_iinc (v := 1) (lv' := [(3, .int 1), (2, .int x5), (0, .int p0), (1, .int p1)]) hx hb dX9_power_13 hl (k := 1) rfl (by decide) (by decide) rfl (fun ls hl => ?_)
    refine lv_goto (tgt := 4) hx hb dX9_power_16 (by decide) ?_
    refine lv_iload_n hx hb dX9_power_4 rfl (lv_at hl 0 rfl) ?_
    refine lv_iload_n hx hb dX9_power_5 rfl (lv_at hl 3 rfl) ?_
    refine lv_icmp_ge (tgt := 19) hx hb dX9_power_6 (by decide) (fun c_7 => ?_) (fun c_7 => ?_)
    · skip
      have f8 : p1.toInt ≤ 1 := qi_le c_7 rfl zc_1
      refine lv_iload_n hx hb dX9_power_19 rfl (lv_at hl 1 rfl) ?_
      have f9 : (pw p0.toInt (p1.toInt).toNat) = p0.toInt := pw_1 (ob_414 f4 f8)
      rw [hQ]
      exact W.iret (v := x5) hx hb hr (fun t ht hW => ⟨⟨x5, x5, rfl, rfl, ⟨(ob_415 hp0 hp1 f9 f6), (ob_416 hp0 hp1 f9), (ob_417 hp0 hp1 f9)⟩⟩, hS.F ht⟩) hS.2.2 dX9_power_20
    · skip
      have f10 : 1 < p1.toInt := qi_nle c_7 rfl zc_1
      refine lv_iload_n hx hb dX9_power_9 rfl (lv_at hl 1 rfl) ?_
      refine lv_iload_n hx hb dX9_power_10 rfl (lv_at hl 2 rfl) ?_
      refine lv_imul hx hb dX9_power_11 ?_
      refine lv_topi (fun x11 ex11 => ?_)
      have f12 : 0 * 0 ≤ x11.toInt ∧ x11.toInt ≤ 100 * 100 := qi_mulb ex11 (ob_416 hp0 hp1 f6) (ob_418 hp0 hp1 f6) (ob_419 hp0 hp1) (ob_420 hp0 hp1) (by decide) (by decide) (by decide)
      have f13 : x11.toInt = (p0.toInt * p0.toInt) := qi_mulx ex11 f6 rfl (ob_416 hp0 hp1 f6) (ob_418 hp0 hp1 f6) (ob_419 hp0 hp1) (ob_420 hp0 hp1) (by decide) (by decide) (by decide)
      refine lv_istore_n (lv' := [(2, .int x11), (3, .int 1), (0, .int p0), (1, .int p1)]) hx hb dX9_power_12 rfl hl (by decide) rfl (fun ls hl => ?_)
      refine lv_iinc (v := 2) (lv' := [(3, .int 2), (2, .int x11), (0, .int p0), (1, .int p1)]) hx hb dX9_power_13 hl (k := 1) rfl (by decide) (by decide) rfl (fun ls hl => ?_)
      refine lv_goto (tgt := 4) hx hb dX9_power_16 (by decide) ?_
      refine lv_iload_n hx hb dX9_power_4 rfl (lv_at hl 0 rfl) ?_
      refine lv_iload_n hx hb dX9_power_5 rfl (lv_at hl 3 rfl) ?_
      refine lv_icmp_ge (tgt := 19) hx hb dX9_power_6 (by decide) (fun c_14 => ?_) (fun c_14 => ?_)
      · skip
        have f15 : p1.toInt ≤ 2 := qi_le c_14 rfl zc_2
        refine lv_iload_n hx hb dX9_power_19 rfl (lv_at hl 1 rfl) ?_
        have f16 : (pw p0.toInt (p1.toInt).toNat) = (p0.toInt * p0.toInt) := pw_2 (ob_421 f10 f15)
        rw [hQ]
        exact W.iret (v := x11) hx hb hr (fun t ht hW => ⟨⟨x11, x11, rfl, rfl, ⟨(ob_422 f12 f16 f13), (ob_423 f12 f16 f13), (ob_424 f12 f16 f13)⟩⟩, hS.F ht⟩) hS.2.2 dX9_power_20
      · skip
        have f17 : 2 < p1.toInt := qi_nle c_14 rfl zc_2
        refine lv_iload_n hx hb dX9_power_9 rfl (lv_at hl 1 rfl) ?_
        refine lv_iload_n hx hb dX9_power_10 rfl (lv_at hl 2 rfl) ?_
        refine lv_imul hx hb dX9_power_11 ?_
        refine lv_topi (fun x18 ex18 => ?_)
        have f19 : 0 * 0 ≤ x18.toInt ∧ x18.toInt ≤ 10000 * 100 := qi_mulb ex18 (ob_425 f12 f13) (ob_426 f12 f13) (ob_419 hp0 hp1) (ob_420 hp0 hp1) (by decide) (by decide) (by decide)
        have f20 : x18.toInt = ((p0.toInt * p0.toInt) * p0.toInt) := qi_mulx ex18 f13 rfl (ob_425 f12 f13) (ob_426 f12 f13) (ob_419 hp0 hp1) (ob_420 hp0 hp1) (by decide) (by decide) (by decide)
        refine lv_istore_n (lv' := [(2, .int x18), (3, .int 2), (0, .int p0), (1, .int p1)]) hx hb dX9_power_12 rfl hl (by decide) rfl (fun ls hl => ?_)
        refine lv_iinc (v := 3) (lv' := [(3, .int 3), (2, .int x18), (0, .int p0), (1, .int p1)]) hx hb dX9_power_13 hl (k := 1) rfl (by decide) (by decide) rfl (fun ls hl => ?_)
        refine lv_goto (tgt := 4) hx hb dX9_power_16 (by decide) ?_
        refine lv_iload_n hx hb dX9_power_4 rfl (lv_at hl 0 rfl) ?_
        refine lv_iload_n hx hb dX9_power_5 rfl (lv_at hl 3 rfl) ?_
        refine lv_icmp_ge (tgt := 19) hx hb dX9_power_6 (by decide) (fun c_21 => ?_) (fun c_21 => ?_)
        · skip
          have f22 : p1.toInt ≤ 3 := qi_le c_21 rfl zc_3
          refine lv_iload_n hx hb dX9_power_19 rfl (lv_at hl 1 rfl) ?_
          have f23 : (pw p0.toInt (p1.toInt).toNat) = ((p0.toInt * p0.toInt) * p0.toInt) := pw_3 (ob_427 f17 f22)
          rw [hQ]
          exact W.iret (v := x18) hx hb hr (fun t ht hW => ⟨⟨x18, x18, rfl, rfl, ⟨(ob_428 f19 f23 f20), (ob_429 f19 f23 f20), (ob_430 f19 f23 f20)⟩⟩, hS.F ht⟩) hS.2.2 dX9_power_20
        · skip
          have f24 : 3 < p1.toInt := qi_nle c_21 rfl zc_3
          refine lv_iload_n hx hb dX9_power_9 rfl (lv_at hl 1 rfl) ?_
          refine lv_iload_n hx hb dX9_power_10 rfl (lv_at hl 2 rfl) ?_
          refine lv_imul hx hb dX9_power_11 ?_
          refine lv_topi (fun x25 ex25 => ?_)
          have f26 : 0 * 0 ≤ x25.toInt ∧ x25.toInt ≤ 1000000 * 100 := qi_mulb ex25 (ob_431 f19 f20) (ob_432 f19 f20) (ob_419 hp0 hp1) (ob_420 hp0 hp1) (by decide) (by decide) (by decide)
          have f27 : x25.toInt = (((p0.toInt * p0.toInt) * p0.toInt) * p0.toInt) := qi_mulx ex25 f20 rfl (ob_431 f19 f20) (ob_432 f19 f20) (ob_419 hp0 hp1) (ob_420 hp0 hp1) (by decide) (by decide) (by decide)
          refine lv_istore_n (lv' := [(2, .int x25), (3, .int 3), (0, .int p0), (1, .int p1)]) hx hb dX9_power_12 rfl hl (by decide) rfl (fun ls hl => ?_)
          refine lv_iinc (v := 4) (lv' := [(3, .int 4), (2, .int x25), (0, .int p0), (1, .int p1)]) hx hb dX9_power_13 hl (k := 1) rfl (by decide) (by decide) rfl (fun ls hl => ?_)
          refine lv_goto (tgt := 4) hx hb dX9_power_16 (by decide) ?_
          refine lv_iload_n hx hb dX9_power_4 rfl (lv_at hl 0 rfl) ?_
          refine lv_iload_n hx hb dX9_power_5 rfl (lv_at hl 3 rfl) ?_
          refine lv_icmp_ge (tgt := 19) hx hb dX9_power_6 (by decide) (fun c_28 => ?_) (fun c_28 => ((ob_433 (qi_nle c_28 rfl zc_4) hp3)).elim)
          have f29 : p1.toInt ≤ 4 := qi_le c_28 rfl zc_4
          refine lv_iload_n hx hb dX9_power_19 rfl (lv_at hl 1 rfl) ?_
          have f30 : (pw p0.toInt (p1.toInt).toNat) = (((p0.toInt * p0.toInt) * p0.toInt) * p0.toInt) := pw_4 (ob_434 hp3 f24)
          rw [hQ]
          exact W.iret (v := x25) hx hb hr (fun t ht hW => ⟨⟨x25, x25, rfl, rfl, ⟨(ob_435 f26 f30 f27), (ob_436 f26 f30 f27), (ob_437 f26 f30 f27)⟩⟩, hS.F ht⟩) hS.2.2 dX9_power_20
set_option maxHeartbeats 4000000 in
set_option maxRecDepth 100000 in
theorem kX9_songs (l : Launch) (dC : Nat → ClassId) (dI : Nat → Nat → Nat) (r : Nat → Nat) (ct : Nat → ClassId) (i_taped i_size i_faultKind i_at i_end i_token i_number i_bank i_rb i_codes i_within i_piled i_unitsInRule i_askHouse i_askTune i_acts i_undone i_laid i_knowns i_time : Int32) (f_text f_tunes f_houses f_hums f_told f_many f_ruleFrom f_ruleTo f_code f_eWhat f_eSign f_all f_kept f_was f_sTune f_boxAll : Nat → Int32) (J : Nat → Nat → Int32) (L : Nat → Nat → Int64) (sz : Nat) (hI : (IM i_taped i_size i_faultKind i_at i_end i_bank i_rb i_acts i_undone i_laid i_knowns i_time f_tunes f_houses f_hums f_told f_many f_ruleFrom f_ruleTo f_code f_all f_kept f_was f_sTune f_boxAll)) : Met l yX9_songs (.code yX9_songs cX9_songs 1 (some .int) :: GW) { frames := 2, cells := 0, slots := 0, locals := 100 } (va_Pc [.ref (r 0)] (pR (dC, dI) (WM r ct i_taped i_size i_faultKind i_at i_end i_token i_number i_bank i_rb i_codes i_within i_piled i_unitsInRule i_askHouse i_askTune i_acts i_undone i_laid i_knowns i_time f_text f_tunes f_houses f_hums f_told f_many f_ruleFrom f_ruleTo f_code f_eWhat f_eSign f_all f_kept f_was f_sTune f_boxAll J L) (TM ct) sz)) (va_Qi (fun (r0 : Int32) (u : Int32) => r0 = u) (fun (u : Int32) (t : State) => (u.toInt = (f_tunes (i_bank.toInt).toNat).toInt)) (fun q => sz ≤ q)) 0 0 (fun q => sz ≤ q) := by
  refine Met.ofW (cc := cX9_songs) (maxL := 1) (ret := (some .int)) (by decide) rfl ?_
  intro p e s m args below meth c0 s₁ B hml hv
  obtain ⟨rfl, hsz, hP, hK⟩ := hv
  have hx := B.exec
  have hb := B.bytes
  have hr := B.returns
  have hts := atoms_spec (ws := .code yX9_songs cX9_songs 1 (some .int) :: GW) B.pre
  have hG : ∀ w ∈ GW, w.before _ s = true := fun w h => hts w (List.mem_cons_of_mem _ h)
  have hown : s.vm.findClass RX9 = some m.cls := findClass_of_methodNamed B.named
  subst hsz
  have hS : va_S (fun q => s.heap.size ≤ q) s.heap s.heap [] := va_S.rf
  have hP : va_P (dC, dI) vwCl (WM r ct i_taped i_size i_faultKind i_at i_end i_token i_number i_bank i_rb i_codes i_within i_piled i_unitsInRule i_askHouse i_askTune i_acts i_undone i_laid i_knowns i_time f_text f_tunes f_houses f_hums f_told f_many f_ruleFrom f_ruleTo f_code f_eWhat f_eSign f_all f_kept f_was f_sTune f_boxAll J L) s.heap := hP
  have hl := lv_entry ([.ref (r 0)]) (n := 1) (Nat.le_of_ble_eq_true rfl)
  rw [lg_entry_eq]
  generalize (lg_sl ([.ref (r 0)]) ++ List.replicate (1 - (lg_sl ([.ref (r 0)])).length) Slot.unset).toArray = ls at hl ⊢
  have hl : lv_has ls 1 [(0, .ref (r 0))] := hl
  refine nameQ (fun Q hQ => ?_)
  obtain ⟨im0, im1, im2, im3, im4, im5, im6, im7, im8, im9, im10, im11, im12, im13, im14, im15, im16, im17, im18, im19, im20, im21, im22, im23, im24, im25, im26, im27, im28, im29, im30, im31⟩ := id hI
  have f1 : 0 ≤ (f_tunes (i_bank.toInt).toNat).toInt ∧ (f_tunes (i_bank.toInt).toNat).toInt ≤ 5 := im21 (i_bank.toInt)
  have f2 : 0 ≤ (f_houses (i_bank.toInt).toNat).toInt ∧ (f_houses (i_bank.toInt).toNat).toInt ≤ 4 := im22 (i_bank.toInt)
  refine lv_aload_n hx hb dX9_songs_0 rfl (lv_at hl 0 rfl) ?_
  refine gM_X9_24_0 hx hb hG hown hK hP dX9_songs_1 ?_
  refine lv_aload_n hx hb dX9_songs_4 rfl (lv_at hl 0 rfl) ?_
  refine gM_X9_249_0 hx hb hG hown hK hP dX9_songs_5 ?_
  refine ldM_4 (mm := i_bank.toInt) hx hb hK hP rfl (ob_351 im4 im5) (ob_352 im4 im5) dX9_songs_8 ?_
  rw [hQ]
  exact W.iret (v := (f_tunes (i_bank.toInt).toNat)) hx hb hr (fun t ht hW => ⟨⟨(f_tunes (i_bank.toInt).toNat), (f_tunes (i_bank.toInt).toNat), rfl, rfl, (ob_438)⟩, hS.F ht⟩) hS.2.2 dX9_songs_9
