set_option maxHeartbeats 4000000 in
set_option maxRecDepth 100000 in
theorem kX9_clearBank0 (l : Launch) (dC : Nat → ClassId) (dI : Nat → Nat → Nat) (r : Nat → Nat) (ct : Nat → ClassId) (i_taped i_size i_faultKind i_at i_end i_token i_number i_bank i_rb i_codes i_within i_piled i_unitsInRule i_askHouse i_askTune i_acts i_undone i_laid i_knowns i_time : Int32) (f_text f_tunes f_houses f_hums f_told f_many f_ruleFrom f_ruleTo f_code f_eWhat f_eSign f_all f_kept f_was f_sTune f_boxAll : Nat → Int32) (J : Nat → Nat → Int32) (L : Nat → Nat → Int64) (sz : Nat) (hI : (IM i_taped i_size i_faultKind i_at i_end i_bank i_rb i_acts i_undone i_laid i_knowns i_time f_tunes f_houses f_hums f_told f_many f_ruleFrom f_ruleTo f_code f_all f_kept f_was f_sTune f_boxAll)) (hp0 : i_rb.toInt = (0 : Int)) (hp1 : i_bank.toInt = (0 : Int)) : Met l yX9_clearBank (.code yX9_clearBank cX9_clearBank 1 none :: GW) { frames := 2, cells := 0, slots := 0, locals := 100 } (va_Pc [.ref (r 0)] (pW (dC, dI) (WM r ct i_taped i_size i_faultKind i_at i_end i_token i_number i_bank i_rb i_codes i_within i_piled i_unitsInRule i_askHouse i_askTune i_acts i_undone i_laid i_knowns i_time f_text f_tunes f_houses f_hums f_told f_many f_ruleFrom f_ruleTo f_code f_eWhat f_eSign f_all f_kept f_was f_sTune f_boxAll J L) (TM ct) sz)) (va_Qv (fun _ : Unit => True) (fun (_ : Unit) (t : State) => ∃ (n_i_codes : Int32) (n_f_tunes n_f_houses n_f_hums n_f_told : Nat → Int32) (n_J : Nat → Nat → Int32), va_P (dC, dI) vwCl (WM r ct i_taped i_size i_faultKind i_at i_end i_token i_number i_bank i_rb n_i_codes i_within i_piled i_unitsInRule i_askHouse i_askTune i_acts i_undone i_laid i_knowns i_time f_text n_f_tunes n_f_houses n_f_hums n_f_told f_many f_ruleFrom f_ruleTo f_code f_eWhat f_eSign f_all f_kept f_was f_sTune f_boxAll n_J L) t.heap ∧ va_D (va_A (WM r ct i_taped i_size i_faultKind i_at i_end i_token i_number i_bank i_rb i_codes i_within i_piled i_unitsInRule i_askHouse i_askTune i_acts i_undone i_laid i_knowns i_time f_text f_tunes f_houses f_hums f_told f_many f_ruleFrom f_ruleTo f_code f_eWhat f_eSign f_all f_kept f_was f_sTune f_boxAll J L) sz) (WM r ct i_taped i_size i_faultKind i_at i_end i_token i_number i_bank i_rb n_i_codes i_within i_piled i_unitsInRule i_askHouse i_askTune i_acts i_undone i_laid i_knowns i_time f_text n_f_tunes n_f_houses n_f_hums n_f_told f_many f_ruleFrom f_ruleTo f_code f_eWhat f_eSign f_all f_kept f_was f_sTune f_boxAll n_J L) ∧ (IM i_taped i_size i_faultKind i_at i_end i_bank i_rb i_acts i_undone i_laid i_knowns i_time n_f_tunes n_f_houses n_f_hums n_f_told f_many f_ruleFrom f_ruleTo f_code f_all f_kept f_was f_sTune f_boxAll) ∧ (n_i_codes.toInt = 560 * i_rb.toInt) ∧ (M7 i_rb n_f_tunes f_many) ∧ (RU i_rb n_f_told f_ruleFrom f_ruleTo f_code) ∧ ((¬ BT (n_f_told (i_rb.toInt).toNat) 1 → n_i_codes.toInt = 560 * i_rb.toInt))) (va_A (WM r ct i_taped i_size i_faultKind i_at i_end i_token i_number i_bank i_rb i_codes i_within i_piled i_unitsInRule i_askHouse i_askTune i_acts i_undone i_laid i_knowns i_time f_text f_tunes f_houses f_hums f_told f_many f_ruleFrom f_ruleTo f_code f_eWhat f_eSign f_all f_kept f_was f_sTune f_boxAll J L) sz)) 0 0 (va_A (WM r ct i_taped i_size i_faultKind i_at i_end i_token i_number i_bank i_rb i_codes i_within i_piled i_unitsInRule i_askHouse i_askTune i_acts i_undone i_laid i_knowns i_time f_text f_tunes f_houses f_hums f_told f_many f_ruleFrom f_ruleTo f_code f_eWhat f_eSign f_all f_kept f_was f_sTune f_boxAll J L) sz) := by
  refine Met.ofW (cc := cX9_clearBank) (maxL := 1) (ret := none) (by decide) rfl ?_
  intro p e s m args below meth c0 s₁ B hml hv
  obtain ⟨rfl, hsz, hP, hK, hD0⟩ := hv
  have hx := B.exec
  have hb := B.bytes
  have hr := B.returns
  have hts := atoms_spec (ws := .code yX9_clearBank cX9_clearBank 1 none :: GW) B.pre
  have hG : ∀ w ∈ GW, w.before _ s = true := fun w h => hts w (List.mem_cons_of_mem _ h)
  have hown : s.vm.findClass RX9 = some m.cls := findClass_of_methodNamed B.named
  subst hsz
  have hD := hD0.self (sz := s.heap.size)
  generalize hAe : va_A (WM r ct i_taped i_size i_faultKind i_at i_end i_token i_number i_bank i_rb i_codes i_within i_piled i_unitsInRule i_askHouse i_askTune i_acts i_undone i_laid i_knowns i_time f_text f_tunes f_houses f_hums f_told f_many f_ruleFrom f_ruleTo f_code f_eWhat f_eSign f_all f_kept f_was f_sTune f_boxAll J L) s.heap.size = A at hD ⊢
  have hA : ∀ q : Nat, s.heap.size ≤ q → A q := fun q h => by rw [← hAe]; exact Or.inr h
  have hS : va_S A s.heap s.heap [] := va_S.rf
  have hP : va_P (dC, dI) vwCl (WM r ct i_taped i_size i_faultKind i_at i_end i_token i_number i_bank i_rb i_codes i_within i_piled i_unitsInRule i_askHouse i_askTune i_acts i_undone i_laid i_knowns i_time f_text f_tunes f_houses f_hums f_told f_many f_ruleFrom f_ruleTo f_code f_eWhat f_eSign f_all f_kept f_was f_sTune f_boxAll J L) s.heap := hP
  have hl := lv_entry ([.ref (r 0)]) (n := 1) (Nat.le_of_ble_eq_true rfl)
  rw [lg_entry_eq]
  generalize (lg_sl ([.ref (r 0)]) ++ List.replicate (1 - (lg_sl ([.ref (r 0)])).length) Slot.unset).toArray = ls at hl ⊢
  have hl : lv_has ls 1 [(0, .ref (r 0))] := hl
  refine nameQ (fun Q hQ => ?_)
  obtain ⟨ie0, ie1, ie2, ie3, ie4, ie5, ie6, ie7, ie8, ie9, ie10, ie11, ie12, ie13, ie14, ie15, ie16, ie17, ie18, ie19, ie20, ie21, ie22, ie23, ie24, ie25, ie26, ie27, ie28, ie29, ie30, ie31, ie32⟩ := id hI
  have f1 : 0 ≤ (f_tunes (i_bank.toInt).toNat).toInt ∧ (f_tunes (i_bank.toInt).toNat).toInt ≤ 5 := ie21 (i_bank.toInt)
  have f2 : 0 ≤ (f_houses (i_bank.toInt).toNat).toInt ∧ (f_houses (i_bank.toInt).toNat).toInt ≤ 4 := ie22 (i_bank.toInt)
  refine lv_aload_n hx hb dX9_clearBank_0 rfl (lv_at hl 0 rfl) ?_
  refine gM_X9_20_0 hx hb hG hown hK hP dX9_clearBank_1 ?_
  refine lv_aload_n hx hb dX9_clearBank_4 rfl (lv_at hl 0 rfl) ?_
  refine gM_X9_240_0 hx hb hG hown hK hP dX9_clearBank_5 ?_
  refine lv_iconst (v := 1) hx hb dX9_clearBank_8 (by decide) ?_
  refine stM_3 (mm := i_rb.toInt) hx hb hK hP hD hS rfl (ox_998 ie6 ie7 hp0) (ox_999 ie6 ie7 hp0) dX9_clearBank_9 (fun J4 H3 locs hP hD hS => ?_)
  refine lv_aload_n hx hb dX9_clearBank_10 rfl (lv_at hl 0 rfl) ?_
  refine gM_X9_24_0 hx hb hG hown hK hP dX9_clearBank_11 ?_
  refine lv_aload_n hx hb dX9_clearBank_14 rfl (lv_at hl 0 rfl) ?_
  refine gM_X9_240_0 hx hb hG hown hK hP dX9_clearBank_15 ?_
  refine lv_iconst (v := 0) hx hb dX9_clearBank_18 (by decide) ?_
  refine stM_4 (mm := i_rb.toInt) hx hb hK hP hD hS rfl (ox_998 ie6 ie7 hp0) (ox_999 ie6 ie7 hp0) dX9_clearBank_19 (fun z6 H5 locs ez6 hP hD hS => ?_)
  have g7 : EB 0 5 z6 := ez6 ▸ EB_upd ie21 (by decide) (by decide)
  refine lv_aload_n hx hb dX9_clearBank_20 rfl (lv_at hl 0 rfl) ?_
  refine gM_X9_27_0 hx hb hG hown hK hP dX9_clearBank_21 ?_
  refine lv_aload_n hx hb dX9_clearBank_24 rfl (lv_at hl 0 rfl) ?_
  refine gM_X9_240_0 hx hb hG hown hK hP dX9_clearBank_25 ?_
  refine lv_iconst (v := 0) hx hb dX9_clearBank_28 (by decide) ?_
  refine stM_5 (mm := i_rb.toInt) hx hb hK hP hD hS rfl (ox_998 ie6 ie7 hp0) (ox_999 ie6 ie7 hp0) dX9_clearBank_29 (fun z9 H8 locs ez9 hP hD hS => ?_)
  have g10 : EB 0 4 z9 := ez9 ▸ EB_upd ie22 (by decide) (by decide)
  refine lv_aload_n hx hb dX9_clearBank_30 rfl (lv_at hl 0 rfl) ?_
  refine gM_X9_30_0 hx hb hG hown hK hP dX9_clearBank_31 ?_
  refine lv_aload_n hx hb dX9_clearBank_34 rfl (lv_at hl 0 rfl) ?_
  refine gM_X9_240_0 hx hb hG hown hK hP dX9_clearBank_35 ?_
  refine lv_iconst (v := 0) hx hb dX9_clearBank_38 (by decide) ?_
  refine stM_6 (mm := i_rb.toInt) hx hb hK hP hD hS rfl (ox_998 ie6 ie7 hp0) (ox_999 ie6 ie7 hp0) dX9_clearBank_39 (fun J12 H11 locs hP hD hS => ?_)
  refine lv_aload_n hx hb dX9_clearBank_40 rfl (lv_at hl 0 rfl) ?_
  refine gM_X9_33_0 hx hb hG hown hK hP dX9_clearBank_41 ?_
  refine lv_aload_n hx hb dX9_clearBank_44 rfl (lv_at hl 0 rfl) ?_
  refine gM_X9_240_0 hx hb hG hown hK hP dX9_clearBank_45 ?_
  refine lv_iconst (v := 0) hx hb dX9_clearBank_48 (by decide) ?_
  refine stM_7 (mm := i_rb.toInt) hx hb hK hP hD hS rfl (ox_998 ie6 ie7 hp0) (ox_999 ie6 ie7 hp0) dX9_clearBank_49 (fun z14 H13 locs ez14 hP hD hS => ?_)
  have g15 : EB 0 100 z14 := ez14 ▸ EB_upd ie24 (by decide) (by decide)
  refine lv_aload_n hx hb dX9_clearBank_50 rfl (lv_at hl 0 rfl) ?_
  refine gM_X9_36_0 hx hb hG hown hK hP dX9_clearBank_51 ?_
  refine lv_aload_n hx hb dX9_clearBank_54 rfl (lv_at hl 0 rfl) ?_
  refine gM_X9_240_0 hx hb hG hown hK hP dX9_clearBank_55 ?_
  refine lv_iconst (v := 0) hx hb dX9_clearBank_58 (by decide) ?_
  refine stM_8 (mm := i_rb.toInt) hx hb hK hP hD hS rfl (ox_998 ie6 ie7 hp0) (ox_999 ie6 ie7 hp0) dX9_clearBank_59 (fun J17 H16 locs hP hD hS => ?_)
  refine lv_aload_n hx hb dX9_clearBank_60 rfl (lv_at hl 0 rfl) ?_
  refine gM_X9_39_0 hx hb hG hown hK hP dX9_clearBank_61 ?_
  refine lv_aload_n hx hb dX9_clearBank_64 rfl (lv_at hl 0 rfl) ?_
  refine gM_X9_240_0 hx hb hG hown hK hP dX9_clearBank_65 ?_
  refine lv_iconst (v := 0) hx hb dX9_clearBank_68 (by decide) ?_
  refine stM_9 (mm := i_rb.toInt) hx hb hK hP hD hS rfl (ox_998 ie6 ie7 hp0) (ox_999 ie6 ie7 hp0) dX9_clearBank_69 (fun z19 H18 locs ez19 hP hD hS => ?_)
  have g20 : EB 0 15 z19 := ez19 ▸ EB_upd ie25 (by decide) (by decide)
  refine lv_aload_n hx hb dX9_clearBank_70 rfl (lv_at hl 0 rfl) ?_
  refine lv_sipush (v := 560) hx hb dX9_clearBank_71 (by decide) ?_
  refine lv_aload_n hx hb dX9_clearBank_74 rfl (lv_at hl 0 rfl) ?_
  refine gM_X9_240_0 hx hb hG hown hK hP dX9_clearBank_75 ?_
  refine lv_imul hx hb dX9_clearBank_78 ?_
  refine lv_topi (fun x21 ex21 => ?_)
  have f22 : x21.toInt = 560 * i_rb.toInt := (ox_1002 (qi_mul ex21 zc_560 rfl (ox_1000 ie6 ie7 hp0) (ox_1001 ie6 ie7 hp0)))
  refine pM_X9_243_0 hx hb hG hown hK hP hD hS dX9_clearBank_79 (fun H23 locs hP hD hS => ?_)
  rw [hQ]
  exact W.vret hx hb hr (fun t ht hW => ⟨⟨(), rfl, trivial, ⟨x21, z6, z9, z14, z19, J17, by rw [ht]; exact hP, hD, ⟨ie0, ie1, ie2, ie3, ie4, ie5, ie6, ie7, ie8, ie9, ie10, ie11, ie12, ie13, ie14, ie15, ie16, ie17, ie18, ie19, ie20, g7, g10, ie23, g15, g20, ie26, ie27, ie28, ie29, ie30, (M7_at (ox_1003 hp0 hp1) (M7_zero ez6 zc_0)), (RU_at (ox_1003 hp0 hp1) (RU_zero ez19))⟩, (ox_1002 f22), (M7_zero ez6 zc_0), (RU_zero ez19), (fun _ => (ox_1002 f22))⟩⟩, hS.F ht⟩) hS.2.2 dX9_clearBank_82
