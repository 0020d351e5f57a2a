set_option maxHeartbeats 4000000 in
set_option maxRecDepth 100000 in
theorem kX9_sign (l : Launch) (dC : Nat → ClassId) (dI : Nat → Nat → Nat) (r : Nat → Nat) (ct : Nat → ClassId) (i_taped i_size i_faultKind i_at i_end i_token i_number i_bank i_rb i_codes i_within i_piled i_unitsInRule i_askHouse i_askTune i_acts i_undone i_laid i_knowns i_time : Int32) (f_text f_tunes f_houses f_hums f_told f_many f_ruleFrom f_ruleTo f_code f_eWhat f_eSign f_all f_kept f_was f_sTune f_boxAll : Nat → Int32) (J : Nat → Nat → Int32) (L : Nat → Nat → Int64) (p0 : Int32) (sz : Nat) (hI : (IM i_taped i_size i_faultKind i_at i_end i_bank i_rb i_acts i_undone i_laid i_knowns i_time f_tunes f_houses f_hums f_told f_many f_ruleFrom f_ruleTo f_code f_all f_kept f_was f_sTune f_boxAll)) (hp0 : (0 : Int) ≤ p0.toInt) : Met l yX9_sign (.code yX9_sign cX9_sign 2 (some .int) :: GW) { frames := 2, cells := 0, slots := 0, locals := 100 } (va_Pc [.ref (r 0), .int p0] (pR (dC, dI) (WM r ct i_taped i_size i_faultKind i_at i_end i_token i_number i_bank i_rb i_codes i_within i_piled i_unitsInRule i_askHouse i_askTune i_acts i_undone i_laid i_knowns i_time f_text f_tunes f_houses f_hums f_told f_many f_ruleFrom f_ruleTo f_code f_eWhat f_eSign f_all f_kept f_was f_sTune f_boxAll J L) (TM ct) sz)) (va_Qi (fun (r0 : Int32) (u : Int32) => r0 = u) (fun (u : Int32) (t : State) => (u.toInt = (sgz f_text i_size.toInt p0.toInt)) ∧ ((0 : Int) ≤ (sgz f_text i_size.toInt p0.toInt)) ∧ ((sgz f_text i_size.toInt p0.toInt) ≤ (255 : Int)) ∧ ((p0.toInt + 1 ≤ i_size.toInt) ∨ ((sgz f_text i_size.toInt p0.toInt) = (0 : Int)))) (fun q => sz ≤ q)) 0 0 (fun q => sz ≤ q) := by
  refine Met.ofW (cc := cX9_sign) (maxL := 2) (ret := (some .int)) (by decide) rfl ?_
  intro p e s m args below meth c0 s₁ B hml hv
  obtain ⟨rfl, hsz, hP, hK⟩ := hv
  have hx := B.exec
  have hb := B.bytes
  have hr := B.returns
  have hts := atoms_spec (ws := .code yX9_sign cX9_sign 2 (some .int) :: GW) B.pre
  have hG : ∀ w ∈ GW, w.before _ s = true := fun w h => hts w (List.mem_cons_of_mem _ h)
  have hown : s.vm.findClass RX9 = some m.cls := findClass_of_methodNamed B.named
  subst hsz
  have hS : va_S (fun q => s.heap.size ≤ q) s.heap s.heap [] := va_S.rf
  have hP : va_P (dC, dI) vwCl (WM r ct i_taped i_size i_faultKind i_at i_end i_token i_number i_bank i_rb i_codes i_within i_piled i_unitsInRule i_askHouse i_askTune i_acts i_undone i_laid i_knowns i_time f_text f_tunes f_houses f_hums f_told f_many f_ruleFrom f_ruleTo f_code f_eWhat f_eSign f_all f_kept f_was f_sTune f_boxAll J L) s.heap := hP
  have hl := lv_entry ([.ref (r 0), .int p0]) (n := 2) (Nat.le_of_ble_eq_true rfl)
  rw [lg_entry_eq]
  generalize (lg_sl ([.ref (r 0), .int p0]) ++ List.replicate (2 - (lg_sl ([.ref (r 0), .int p0])).length) Slot.unset).toArray = ls at hl ⊢
  have hl : lv_has ls 2 [(0, .ref (r 0)), (1, .int p0)] := hl
  refine nameQ (fun Q hQ => ?_)
  obtain ⟨ie0, ie1, ie2, ie3, ie4, ie5, ie6, ie7, ie8, ie9, ie10, ie11, ie12, ie13, ie14, ie15, ie16, ie17, ie18, ie19, ie20, ie21, ie22, ie23, ie24, ie25, ie26, ie27, ie28, ie29, ie30, ie31, ie32⟩ := id hI
  have f1 : 0 ≤ (f_tunes (i_bank.toInt).toNat).toInt ∧ (f_tunes (i_bank.toInt).toNat).toInt ≤ 5 := ie21 (i_bank.toInt)
  have f2 : 0 ≤ (f_houses (i_bank.toInt).toNat).toInt ∧ (f_houses (i_bank.toInt).toNat).toInt ≤ 4 := ie22 (i_bank.toInt)
  refine lv_iload_n hx hb dX9_sign_0 rfl (lv_at hl 1 rfl) ?_
  refine lv_aload_n hx hb dX9_sign_1 rfl (lv_at hl 0 rfl) ?_
  refine gM_X9_137_0 hx hb hG hown hK hP dX9_sign_2 ?_
  refine lv_icmp_ge (tgt := 21) hx hb dX9_sign_5 (by decide) (fun c_3 => ?_) (fun c_3 => ?_)
  · skip
    have f4 : i_size.toInt ≤ p0.toInt := qi_le c_3 rfl rfl
    have f5 : (sgz f_text i_size.toInt p0.toInt) = 0 := sgz_ge f4
    refine lv_iconst (v := 0) hx hb dX9_sign_21 (by decide) ?_
    rw [hQ]
    exact W.iret (v := 0) hx hb hr (fun t ht hW => ⟨⟨0, 0, rfl, rfl, ⟨(ob_0 f5 zc_0), (ob_1 f5), (ob_2 f5), (ob_3 f5)⟩⟩, hS.F ht⟩) hS.2.2 dX9_sign_22
  · skip
    have f6 : p0.toInt < i_size.toInt := qi_nle c_3 rfl rfl
    refine lv_aload_n hx hb dX9_sign_8 rfl (lv_at hl 0 rfl) ?_
    refine gM_X9_13_0 hx hb hG hown hK hP dX9_sign_9 ?_
    refine lv_iload_n hx hb dX9_sign_12 rfl (lv_at hl 1 rfl) ?_
    refine ldM_2 (mm := p0.toInt) hx hb hK hP rfl (ob_4 hp0 f6) (ob_5 ie3 f6) dX9_sign_13 ?_
    refine lv_sipush (v := 255) hx hb dX9_sign_14 (by decide) ?_
    refine lv_iand hx hb dX9_sign_17 ?_
    refine lv_topi (fun x7 ex7 => ?_)
    have f8 : x7.toInt = (sgz f_text i_size.toInt p0.toInt) := by rw [ex7]; exact sgz_lt f6
    have f9 : 0 ≤ (sgz f_text i_size.toInt p0.toInt) ∧ (sgz f_text i_size.toInt p0.toInt) ≤ 255 := sgz_rg _ _ _
    refine lv_goto (tgt := 22) hx hb dX9_sign_18 (by decide) ?_
    rw [hQ]
    exact W.iret (v := x7) hx hb hr (fun t ht hW => ⟨⟨x7, x7, rfl, rfl, ⟨(ob_6 f8), (ob_7 f9), (ob_8 f9), (ob_9 f6)⟩⟩, hS.F ht⟩) hS.2.2 dX9_sign_22
set_option maxHeartbeats 4000000 in
set_option maxRecDepth 100000 in
theorem kX9_isLetter (l : Launch) (dC : Nat → ClassId) (dI : Nat → Nat → Nat) (p0 : Int32) (sz : Nat) : Met l yX9_isLetter (.code yX9_isLetter cX9_isLetter 1 (some .boolean) :: GW) { frames := 2, cells := 0, slots := 0, locals := 100 } (va_Pc [.int p0] (pR (dC, dI) [] [] sz)) (va_Qi (fun (r0 : Int32) (u : Int32) => r0 = u) (fun (u : Int32) (t : State) => (((p0.toInt ≤ (96 : Int)) ∧ (u.toInt = (0 : Int))) ∨ (((97 : Int) ≤ p0.toInt) ∧ ((123 : Int) ≤ p0.toInt) ∧ (u.toInt = (0 : Int))) ∨ (((97 : Int) ≤ p0.toInt) ∧ (p0.toInt ≤ (122 : Int)) ∧ (u.toInt = (1 : Int)))) ∧ ((0 : Int) ≤ u.toInt) ∧ (u.toInt ≤ (1 : Int))) (fun q => sz ≤ q)) 0 0 (fun q => sz ≤ q) := by
  refine Met.ofW (cc := cX9_isLetter) (maxL := 1) (ret := (some .boolean)) (by decide) rfl ?_
  intro p e s m args below meth c0 s₁ B hml hv
  obtain ⟨rfl, hsz, hP, hK⟩ := hv
  have hx := B.exec
  have hb := B.bytes
  have hr := B.returns
  have hts := atoms_spec (ws := .code yX9_isLetter cX9_isLetter 1 (some .boolean) :: GW) B.pre
  have hG : ∀ w ∈ GW, w.before _ s = true := fun w h => hts w (List.mem_cons_of_mem _ h)
  have hown : s.vm.findClass RX9 = some m.cls := findClass_of_methodNamed B.named
  subst hsz
  have hS : va_S (fun q => s.heap.size ≤ q) s.heap s.heap [] := va_S.rf
  have hP : va_P (dC, dI) vwCl [] s.heap := hP
  have hl := lv_entry ([.int p0]) (n := 1) (Nat.le_of_ble_eq_true rfl)
  rw [lg_entry_eq]
  generalize (lg_sl ([.int p0]) ++ List.replicate (1 - (lg_sl ([.int p0])).length) Slot.unset).toArray = ls at hl ⊢
  have hl : lv_has ls 1 [(0, .int p0)] := hl
  refine nameQ (fun Q hQ => ?_)
  refine lv_iload_n hx hb dX9_isLetter_0 rfl (lv_at hl 0 rfl) ?_
  refine lv_bipush (v := 97) hx hb dX9_isLetter_1 (by decide) ?_
  refine lv_icmp_lt (tgt := 16) hx hb dX9_isLetter_3 (by decide) (fun c_1 => ?_) (fun c_1 => ?_)
  · skip
    have f2 : p0.toInt < 97 := qi_lt c_1 rfl zc_97
    refine lv_iconst (v := 0) hx hb dX9_isLetter_16 (by decide) ?_
    rw [hQ]
    exact W.zret (v := 0) hx hb hr (by decide) (fun t ht hW => ⟨⟨0, 0, rfl, rfl, ⟨(ob_10 f2 zc_0), (ob_1 zc_0), (ob_11 zc_0)⟩⟩, hS.F ht⟩) hS.2.2 dX9_isLetter_17
  · skip
    have f3 : 97 ≤ p0.toInt := qi_nlt c_1 rfl zc_97
    refine lv_iload_n hx hb dX9_isLetter_6 rfl (lv_at hl 0 rfl) ?_
    refine lv_bipush (v := 122) hx hb dX9_isLetter_7 (by decide) ?_
    refine lv_icmp_gt (tgt := 16) hx hb dX9_isLetter_9 (by decide) (fun c_4 => ?_) (fun c_4 => ?_)
    · skip
      have f5 : 122 < p0.toInt := qi_lt c_4 zc_122 rfl
      refine lv_iconst (v := 0) hx hb dX9_isLetter_16 (by decide) ?_
      rw [hQ]
      exact W.zret (v := 0) hx hb hr (by decide) (fun t ht hW => ⟨⟨0, 0, rfl, rfl, ⟨(ob_12 f3 f5 zc_0), (ob_1 zc_0), (ob_11 zc_0)⟩⟩, hS.F ht⟩) hS.2.2 dX9_isLetter_17
    · skip
      have f6 : p0.toInt ≤ 122 := qi_nlt c_4 zc_122 rfl
      refine lv_iconst (v := 1) hx hb dX9_isLetter_12 (by decide) ?_
      refine lv_goto (tgt := 17) hx hb dX9_isLetter_13 (by decide) ?_
      rw [hQ]
      exact W.zret (v := 1) hx hb hr (by decide) (fun t ht hW => ⟨⟨1, 1, rfl, rfl, ⟨(ob_13 f3 f6 zc_1), (ob_14 zc_1), (ob_15 zc_1)⟩⟩, hS.F ht⟩) hS.2.2 dX9_isLetter_17
set_option maxHeartbeats 4000000 in
set_option maxRecDepth 100000 in
theorem kX9_isDigit (l : Launch) (dC : Nat → ClassId) (dI : Nat → Nat → Nat) (p0 : Int32) (sz : Nat) : Met l yX9_isDigit (.code yX9_isDigit cX9_isDigit 1 (some .boolean) :: GW) { frames := 2, cells := 0, slots := 0, locals := 100 } (va_Pc [.int p0] (pR (dC, dI) [] [] sz)) (va_Qi (fun (r0 : Int32) (u : Int32) => r0 = u) (fun (u : Int32) (t : State) => (((p0.toInt ≤ (47 : Int)) ∧ (u.toInt = (0 : Int))) ∨ (((48 : Int) ≤ p0.toInt) ∧ ((58 : Int) ≤ p0.toInt) ∧ (u.toInt = (0 : Int))) ∨ (((48 : Int) ≤ p0.toInt) ∧ (p0.toInt ≤ (57 : Int)) ∧ (u.toInt = (1 : Int)))) ∧ ((0 : Int) ≤ u.toInt) ∧ (u.toInt ≤ (1 : Int))) (fun q => sz ≤ q)) 0 0 (fun q => sz ≤ q) := by
  refine Met.ofW (cc := cX9_isDigit) (maxL := 1) (ret := (some .boolean)) (by decide) rfl ?_
  intro p e s m args below meth c0 s₁ B hml hv
  obtain ⟨rfl, hsz, hP, hK⟩ := hv
  have hx := B.exec
  have hb := B.bytes
  have hr := B.returns
  have hts := atoms_spec (ws := .code yX9_isDigit cX9_isDigit 1 (some .boolean) :: GW) B.pre
  have hG : ∀ w ∈ GW, w.before _ s = true := fun w h => hts w (List.mem_cons_of_mem _ h)
  have hown : s.vm.findClass RX9 = some m.cls := findClass_of_methodNamed B.named
  subst hsz
  have hS : va_S (fun q => s.heap.size ≤ q) s.heap s.heap [] := va_S.rf
  have hP : va_P (dC, dI) vwCl [] s.heap := hP
  have hl := lv_entry ([.int p0]) (n := 1) (Nat.le_of_ble_eq_true rfl)
  rw [lg_entry_eq]
  generalize (lg_sl ([.int p0]) ++ List.replicate (1 - (lg_sl ([.int p0])).length) Slot.unset).toArray = ls at hl ⊢
  have hl : lv_has ls 1 [(0, .int p0)] := hl
  refine nameQ (fun Q hQ => ?_)
  refine lv_iload_n hx hb dX9_isDigit_0 rfl (lv_at hl 0 rfl) ?_
  refine lv_bipush (v := 48) hx hb dX9_isDigit_1 (by decide) ?_
  refine lv_icmp_lt (tgt := 16) hx hb dX9_isDigit_3 (by decide) (fun c_1 => ?_) (fun c_1 => ?_)
  · skip
    have f2 : p0.toInt < 48 := qi_lt c_1 rfl zc_48
    refine lv_iconst (v := 0) hx hb dX9_isDigit_16 (by decide) ?_
    rw [hQ]
    exact W.zret (v := 0) hx hb hr (by decide) (fun t ht hW => ⟨⟨0, 0, rfl, rfl, ⟨(ob_16 f2 zc_0), (ob_1 zc_0), (ob_11 zc_0)⟩⟩, hS.F ht⟩) hS.2.2 dX9_isDigit_17
  · skip
    have f3 : 48 ≤ p0.toInt := qi_nlt c_1 rfl zc_48
    refine lv_iload_n hx hb dX9_isDigit_6 rfl (lv_at hl 0 rfl) ?_
    refine lv_bipush (v := 57) hx hb dX9_isDigit_7 (by decide) ?_
    refine lv_icmp_gt (tgt := 16) hx hb dX9_isDigit_9 (by decide) (fun c_4 => ?_) (fun c_4 => ?_)
    · skip
      have f5 : 57 < p0.toInt := qi_lt c_4 zc_57 rfl
      refine lv_iconst (v := 0) hx hb dX9_isDigit_16 (by decide) ?_
      rw [hQ]
      exact W.zret (v := 0) hx hb hr (by decide) (fun t ht hW => ⟨⟨0, 0, rfl, rfl, ⟨(ob_17 f3 f5 zc_0), (ob_1 zc_0), (ob_11 zc_0)⟩⟩, hS.F ht⟩) hS.2.2 dX9_isDigit_17
    · skip
      have f6 : p0.toInt ≤ 57 := qi_nlt c_4 zc_57 rfl
      refine lv_iconst (v := 1) hx hb dX9_isDigit_12 (by decide) ?_
      refine lv_goto (tgt := 17) hx hb dX9_isDigit_13 (by decide) ?_
      rw [hQ]
      exact W.zret (v := 1) hx hb hr (by decide) (fun t ht hW => ⟨⟨1, 1, rfl, rfl, ⟨(ob_18 f3 f6 zc_1), (ob_14 zc_1), (ob_15 zc_1)⟩⟩, hS.F ht⟩) hS.2.2 dX9_isDigit_17
set_option maxHeartbeats 4000000 in
set_option maxRecDepth 100000 in
theorem kX9_fails (l : Launch) (dC : Nat → ClassId) (dI : Nat → Nat → Nat) (r : Nat → Nat) (ct : Nat → ClassId) (i_taped i_size i_faultKind i_at i_end i_token i_number i_bank i_rb i_codes i_within i_piled i_unitsInRule i_askHouse i_askTune i_acts i_undone i_laid i_knowns i_time : Int32) (f_text f_tunes f_houses f_hums f_told f_many f_ruleFrom f_ruleTo f_code f_eWhat f_eSign f_all f_kept f_was f_sTune f_boxAll : Nat → Int32) (J : Nat → Nat → Int32) (L : Nat → Nat → Int64) (p0 p1 : Int32) (sz : Nat) (hI : (IM i_taped i_size i_faultKind i_at i_end i_bank i_rb i_acts i_undone i_laid i_knowns i_time f_tunes f_houses f_hums f_told f_many f_ruleFrom f_ruleTo f_code f_all f_kept f_was f_sTune f_boxAll)) (hp0 : (1 : Int) ≤ p0.toInt) : Met l yX9_fails (.code yX9_fails cX9_fails 3 none :: GW) { frames := 2, cells := 0, slots := 0, locals := 100 } (va_Pc [.ref (r 0), .int p0, .int p1] (pW (dC, dI) (WM r ct i_taped i_size i_faultKind i_at i_end i_token i_number i_bank i_rb i_codes i_within i_piled i_unitsInRule i_askHouse i_askTune i_acts i_undone i_laid i_knowns i_time f_text f_tunes f_houses f_hums f_told f_many f_ruleFrom f_ruleTo f_code f_eWhat f_eSign f_all f_kept f_was f_sTune f_boxAll J L) (TM ct) sz)) (va_Qv (fun _ : Unit => True) (fun (_ : Unit) (t : State) => ∃ (n_i_faultKind : Int32) (n_J : Nat → Nat → Int32), va_P (dC, dI) vwCl (WM r ct i_taped i_size n_i_faultKind i_at i_end i_token i_number i_bank i_rb i_codes i_within i_piled i_unitsInRule i_askHouse i_askTune i_acts i_undone i_laid i_knowns i_time f_text f_tunes f_houses f_hums f_told f_many f_ruleFrom f_ruleTo f_code f_eWhat f_eSign f_all f_kept f_was f_sTune f_boxAll n_J L) t.heap ∧ va_D (va_A (WM r ct i_taped i_size i_faultKind i_at i_end i_token i_number i_bank i_rb i_codes i_within i_piled i_unitsInRule i_askHouse i_askTune i_acts i_undone i_laid i_knowns i_time f_text f_tunes f_houses f_hums f_told f_many f_ruleFrom f_ruleTo f_code f_eWhat f_eSign f_all f_kept f_was f_sTune f_boxAll J L) sz) (WM r ct i_taped i_size n_i_faultKind i_at i_end i_token i_number i_bank i_rb i_codes i_within i_piled i_unitsInRule i_askHouse i_askTune i_acts i_undone i_laid i_knowns i_time f_text f_tunes f_houses f_hums f_told f_many f_ruleFrom f_ruleTo f_code f_eWhat f_eSign f_all f_kept f_was f_sTune f_boxAll n_J L) ∧ (IM i_taped i_size n_i_faultKind i_at i_end i_bank i_rb i_acts i_undone i_laid i_knowns i_time f_tunes f_houses f_hums f_told f_many f_ruleFrom f_ruleTo f_code f_all f_kept f_was f_sTune f_boxAll) ∧ ((1 : Int) ≤ n_i_faultKind.toInt)) (va_A (WM r ct i_taped i_size i_faultKind i_at i_end i_token i_number i_bank i_rb i_codes i_within i_piled i_unitsInRule i_askHouse i_askTune i_acts i_undone i_laid i_knowns i_time f_text f_tunes f_houses f_hums f_told f_many f_ruleFrom f_ruleTo f_code f_eWhat f_eSign f_all f_kept f_was f_sTune f_boxAll J L) sz)) 0 0 (va_A (WM r ct i_taped i_size i_faultKind i_at i_end i_token i_number i_bank i_rb i_codes i_within i_piled i_unitsInRule i_askHouse i_askTune i_acts i_undone i_laid i_knowns i_time f_text f_tunes f_houses f_hums f_told f_many f_ruleFrom f_ruleTo f_code f_eWhat f_eSign f_all f_kept f_was f_sTune f_boxAll J L) sz) := by
  refine Met.ofW (cc := cX9_fails) (maxL := 3) (ret := none) (by decide) rfl ?_
  intro p e s m args below meth c0 s₁ B hml hv
  obtain ⟨rfl, hsz, hP, hK, hD0⟩ := hv
  have hx := B.exec
  have hb := B.bytes
  have hr := B.returns
  have hts := atoms_spec (ws := .code yX9_fails cX9_fails 3 none :: GW) B.pre
  have hG : ∀ w ∈ GW, w.before _ s = true := fun w h => hts w (List.mem_cons_of_mem _ h)
  have hown : s.vm.findClass RX9 = some m.cls := findClass_of_methodNamed B.named
  subst hsz
  have hD := hD0.self (sz := s.heap.size)
  generalize hAe : va_A (WM r ct i_taped i_size i_faultKind i_at i_end i_token i_number i_bank i_rb i_codes i_within i_piled i_unitsInRule i_askHouse i_askTune i_acts i_undone i_laid i_knowns i_time f_text f_tunes f_houses f_hums f_told f_many f_ruleFrom f_ruleTo f_code f_eWhat f_eSign f_all f_kept f_was f_sTune f_boxAll J L) s.heap.size = A at hD ⊢
  have hA : ∀ q : Nat, s.heap.size ≤ q → A q := fun q h => by rw [← hAe]; exact Or.inr h
  have hS : va_S A s.heap s.heap [] := va_S.rf
  have hP : va_P (dC, dI) vwCl (WM r ct i_taped i_size i_faultKind i_at i_end i_token i_number i_bank i_rb i_codes i_within i_piled i_unitsInRule i_askHouse i_askTune i_acts i_undone i_laid i_knowns i_time f_text f_tunes f_houses f_hums f_told f_many f_ruleFrom f_ruleTo f_code f_eWhat f_eSign f_all f_kept f_was f_sTune f_boxAll J L) s.heap := hP
  have hl := lv_entry ([.ref (r 0), .int p0, .int p1]) (n := 3) (Nat.le_of_ble_eq_true rfl)
  rw [lg_entry_eq]
  generalize (lg_sl ([.ref (r 0), .int p0, .int p1]) ++ List.replicate (3 - (lg_sl ([.ref (r 0), .int p0, .int p1])).length) Slot.unset).toArray = ls at hl ⊢
  have hl : lv_has ls 3 [(0, .ref (r 0)), (1, .int p0), (2, .int p1)] := hl
  refine nameQ (fun Q hQ => ?_)
  obtain ⟨ie0, ie1, ie2, ie3, ie4, ie5, ie6, ie7, ie8, ie9, ie10, ie11, ie12, ie13, ie14, ie15, ie16, ie17, ie18, ie19, ie20, ie21, ie22, ie23, ie24, ie25, ie26, ie27, ie28, ie29, ie30, ie31, ie32⟩ := id hI
  have f1 : 0 ≤ (f_tunes (i_bank.toInt).toNat).toInt ∧ (f_tunes (i_bank.toInt).toNat).toInt ≤ 5 := ie21 (i_bank.toInt)
  have f2 : 0 ≤ (f_houses (i_bank.toInt).toNat).toInt ∧ (f_houses (i_bank.toInt).toNat).toInt ≤ 4 := ie22 (i_bank.toInt)
  refine lv_aload_n hx hb dX9_fails_0 rfl (lv_at hl 0 rfl) ?_
  refine gM_X9_140_0 hx hb hG hown hK hP dX9_fails_1 ?_
  refine lv_if_le (tgt := 8) hx hb dX9_fails_4 (by decide) (fun c_3 => ?_) (fun c_3 => ?_)
  · skip
    have f4 : i_faultKind.toInt ≤ 0 := qi_le c_3 rfl zc_0
    refine lv_aload_n hx hb dX9_fails_8 rfl (lv_at hl 0 rfl) ?_
    refine lv_iload_n hx hb dX9_fails_9 rfl (lv_at hl 1 rfl) ?_
    refine pM_X9_140_0 hx hb hG hown hK hP hD hS dX9_fails_10 (fun H5 locs hP hD hS => ?_)
    refine lv_aload_n hx hb dX9_fails_13 rfl (lv_at hl 0 rfl) ?_
    refine lv_iload_n hx hb dX9_fails_14 rfl (lv_at hl 2 rfl) ?_
    refine pM_X9_16_0 hx hb hG hown hK hP hD hS dX9_fails_15 (fun J7 H6 locs hP hD hS => ?_)
    rw [hQ]
    exact W.vret hx hb hr (fun t ht hW => ⟨⟨(), rfl, trivial, ⟨p0, J7, by rw [ht]; exact hP, hD, ⟨ie0, ie1, ie2, ie3, ie4, ie5, ie6, ie7, ie8, ie9, ie10, ie11, ie12, ie13, ie14, ie15, ie16, (ob_20 hp0), ie18, ie19, ie20, ie21, ie22, ie23, ie24, ie25, ie26, ie27, ie28, ie29, ie30, ie31, ie32⟩, (ob_19 hp0)⟩⟩, hS.F ht⟩) hS.2.2 dX9_fails_18
  · skip
    have f8 : 0 < i_faultKind.toInt := qi_nle c_3 rfl zc_0
    rw [hQ]
    exact W.vret hx hb hr (fun t ht hW => ⟨⟨(), rfl, trivial, ⟨i_faultKind, J, by rw [ht]; exact hP, hD, hI, (ob_21 ie17 f8)⟩⟩, hS.F ht⟩) hS.2.2 dX9_fails_7
set_option maxHeartbeats 4000000 in
set_option maxRecDepth 100000 in
theorem kX9_isGood (l : Launch) (dC : Nat → ClassId) (dI : Nat → Nat → Nat) (r : Nat → Nat) (ct : Nat → ClassId) (i_taped i_size i_faultKind i_at i_end i_token i_number i_bank i_rb i_codes i_within i_piled i_unitsInRule i_askHouse i_askTune i_acts i_undone i_laid i_knowns i_time : Int32) (f_text f_tunes f_houses f_hums f_told f_many f_ruleFrom f_ruleTo f_code f_eWhat f_eSign f_all f_kept f_was f_sTune f_boxAll : Nat → Int32) (J : Nat → Nat → Int32) (L : Nat → Nat → Int64) (sz : Nat) (hI : (IM i_taped i_size i_faultKind i_at i_end i_bank i_rb i_acts i_undone i_laid i_knowns i_time f_tunes f_houses f_hums f_told f_many f_ruleFrom f_ruleTo f_code f_all f_kept f_was f_sTune f_boxAll)) : Met l yX9_isGood (.code yX9_isGood cX9_isGood 1 (some .boolean) :: GW) { frames := 2, cells := 0, slots := 0, locals := 100 } (va_Pc [.ref (r 0)] (pR (dC, dI) (WM r ct i_taped i_size i_faultKind i_at i_end i_token i_number i_bank i_rb i_codes i_within i_piled i_unitsInRule i_askHouse i_askTune i_acts i_undone i_laid i_knowns i_time f_text f_tunes f_houses f_hums f_told f_many f_ruleFrom f_ruleTo f_code f_eWhat f_eSign f_all f_kept f_was f_sTune f_boxAll J L) (TM ct) sz)) (va_Qi (fun (r0 : Int32) (u : Int32) => r0 = u) (fun (u : Int32) (t : State) => (((i_faultKind.toInt ≠ (0 : Int)) ∧ ((1 : Int) ≤ i_faultKind.toInt) ∧ (u.toInt = (0 : Int))) ∨ ((i_faultKind.toInt = (0 : Int)) ∧ (u.toInt = (1 : Int)))) ∧ ((0 : Int) ≤ u.toInt) ∧ (u.toInt ≤ (1 : Int))) (fun q => sz ≤ q)) 0 0 (fun q => sz ≤ q) := by
  refine Met.ofW (cc := cX9_isGood) (maxL := 1) (ret := (some .boolean)) (by decide) rfl ?_
  intro p e s m args below meth c0 s₁ B hml hv
  obtain ⟨rfl, hsz, hP, hK⟩ := hv
  have hx := B.exec
  have hb := B.bytes
  have hr := B.returns
  have hts := atoms_spec (ws := .code yX9_isGood cX9_isGood 1 (some .boolean) :: GW) B.pre
  have hG : ∀ w ∈ GW, w.before _ s = true := fun w h => hts w (List.mem_cons_of_mem _ h)
  have hown : s.vm.findClass RX9 = some m.cls := findClass_of_methodNamed B.named
  subst hsz
  have hS : va_S (fun q => s.heap.size ≤ q) s.heap s.heap [] := va_S.rf
  have hP : va_P (dC, dI) vwCl (WM r ct i_taped i_size i_faultKind i_at i_end i_token i_number i_bank i_rb i_codes i_within i_piled i_unitsInRule i_askHouse i_askTune i_acts i_undone i_laid i_knowns i_time f_text f_tunes f_houses f_hums f_told f_many f_ruleFrom f_ruleTo f_code f_eWhat f_eSign f_all f_kept f_was f_sTune f_boxAll J L) s.heap := hP
  have hl := lv_entry ([.ref (r 0)]) (n := 1) (Nat.le_of_ble_eq_true rfl)
  rw [lg_entry_eq]
  generalize (lg_sl ([.ref (r 0)]) ++ List.replicate (1 - (lg_sl ([.ref (r 0)])).length) Slot.unset).toArray = ls at hl ⊢
  have hl : lv_has ls 1 [(0, .ref (r 0))] := hl
  refine nameQ (fun Q hQ => ?_)
  obtain ⟨ie0, ie1, ie2, ie3, ie4, ie5, ie6, ie7, ie8, ie9, ie10, ie11, ie12, ie13, ie14, ie15, ie16, ie17, ie18, ie19, ie20, ie21, ie22, ie23, ie24, ie25, ie26, ie27, ie28, ie29, ie30, ie31, ie32⟩ := id hI
  have f1 : 0 ≤ (f_tunes (i_bank.toInt).toNat).toInt ∧ (f_tunes (i_bank.toInt).toNat).toInt ≤ 5 := ie21 (i_bank.toInt)
  have f2 : 0 ≤ (f_houses (i_bank.toInt).toNat).toInt ∧ (f_houses (i_bank.toInt).toNat).toInt ≤ 4 := ie22 (i_bank.toInt)
  refine lv_aload_n hx hb dX9_isGood_0 rfl (lv_at hl 0 rfl) ?_
  refine gM_X9_140_0 hx hb hG hown hK hP dX9_isGood_1 ?_
  refine lv_if_ne (tgt := 11) hx hb dX9_isGood_4 (by decide) (fun c_3 => ?_) (fun c_3 => ?_)
  · skip
    have f4 : i_faultKind.toInt ≠ 0 := qi_ne c_3 rfl zc_0
    have f5 : (1 : Int) ≤ i_faultKind.toInt := (ob_22 ie17 f4)
    refine lv_iconst (v := 0) hx hb dX9_isGood_11 (by decide) ?_
    rw [hQ]
    exact W.zret (v := 0) hx hb hr (by decide) (fun t ht hW => ⟨⟨0, 0, rfl, rfl, ⟨(ob_23 ie17 f5 zc_0), (ob_1 zc_0), (ob_11 zc_0)⟩⟩, hS.F ht⟩) hS.2.2 dX9_isGood_12
  · skip
    have f6 : i_faultKind.toInt = 0 := qi_eq c_3 rfl zc_0
    refine lv_iconst (v := 1) hx hb dX9_isGood_7 (by decide) ?_
    refine lv_goto (tgt := 12) hx hb dX9_isGood_8 (by decide) ?_
    rw [hQ]
    exact W.zret (v := 1) hx hb hr (by decide) (fun t ht hW => ⟨⟨1, 1, rfl, rfl, ⟨(ob_24 ie17 f6 zc_1), (ob_14 zc_1), (ob_15 zc_1)⟩⟩, hS.F ht⟩) hS.2.2 dX9_isGood_12
set_option maxHeartbeats 4000000 in
set_option maxRecDepth 100000 in
theorem kX9_isKept (l : Launch) (dC : Nat → ClassId) (dI : Nat → Nat → Nat) (p0 : Int64) (sz : Nat) : Met l yX9_isKept (.code yX9_isKept cX9_isKept 3 (some .boolean) :: GW) { frames := 2, cells := 0, slots := 0, locals := 100 } (va_Pc [.long p0] (pR (dC, dI) [] [] sz)) (va_Qi (fun (r0 : Int32) (u : Int32) => r0 = u) (fun (u : Int32) (t : State) => ((0 : Int) ≤ u.toInt) ∧ (u.toInt ≤ (1 : Int))) (fun q => sz ≤ q)) 0 0 (fun q => sz ≤ q) := by
  refine Met.ofW (cc := cX9_isKept) (maxL := 3) (ret := (some .boolean)) (by decide) rfl ?_
  intro p e s m args below meth c0 s₁ B hml hv
  obtain ⟨rfl, hsz, hP, hK⟩ := hv
  have hx := B.exec
  have hb := B.bytes
  have hr := B.returns
  have hts := atoms_spec (ws := .code yX9_isKept cX9_isKept 3 (some .boolean) :: GW) B.pre
  have hG : ∀ w ∈ GW, w.before _ s = true := fun w h => hts w (List.mem_cons_of_mem _ h)
  have hown : s.vm.findClass RX9 = some m.cls := findClass_of_methodNamed B.named
  subst hsz
  have hS : va_S (fun q => s.heap.size ≤ q) s.heap s.heap [] := va_S.rf
  have hP : va_P (dC, dI) vwCl [] s.heap := hP
  have hl := lv_entry ([.long p0]) (n := 3) (Nat.le_of_ble_eq_true rfl)
  rw [lg_entry_eq]
  generalize (lg_sl ([.long p0]) ++ List.replicate (3 - (lg_sl ([.long p0])).length) Slot.unset).toArray = ls at hl ⊢
  have hl : lv_has ls 3 [(0, .long p0)] := hl
  refine nameQ (fun Q hQ => ?_)
  refine lv_lload_n hx hb dX9_isKept_0 rfl (lv_at hl 0 rfl) ?_
  refine lv_ldc2 (v := 7021235455869215084) hx hb hown (hG _ gw1376) dX9_isKept_1 ?_
  refine W.lcmp hx hb dX9_isKept_4 ?_
  refine lv_topi (fun x1 ex1 => ?_)
  have f2 : (x1.toInt = 0 ∧ p0.toInt = (7021235455869215084 : Int64).toInt) ∨ (x1.toInt ≠ 0 ∧ p0.toInt ≠ (7021235455869215084 : Int64).toInt) := lcmp_or ex1
  refine lv_if_eq (tgt := 72) hx hb dX9_isKept_5 (by decide) (fun c_3 => ?_) (fun c_3 => ?_)
  · skip
    have f4 : x1.toInt = 0 := qi_eq c_3 rfl zc_0
    have f5 : x1.toInt = (0 : Int) := (ob_25 f4)
    have f6 : p0.toInt = (7021235455869215084 : Int) := (ob_26 f2 f4 f5 zl_7021235455869215084)
    refine lv_iconst (v := 1) hx hb dX9_isKept_72 (by decide) ?_
    refine lv_goto (tgt := 77) hx hb dX9_isKept_73 (by decide) ?_
    refine lv_istore_n (lv' := [(2, .int 1), (0, .long p0)]) hx hb dX9_isKept_77 rfl hl (by decide) rfl (fun ls hl => ?_)
    refine lv_iload_n hx hb dX9_isKept_78 rfl (lv_at hl 0 rfl) ?_
    refine lv_if_ne (tgt := 162) hx hb dX9_isKept_79 (by decide) (fun c_7 => ?_) (fun c_7 => absurd c_7 (by decide))
    refine lv_iconst (v := 1) hx hb dX9_isKept_162 (by decide) ?_
    refine lv_goto (tgt := 167) hx hb dX9_isKept_163 (by decide) ?_
    rw [hQ]
    exact W.zret (v := 1) hx hb hr (by decide) (fun t ht hW => ⟨⟨1, 1, rfl, rfl, ⟨(ob_14 zc_1), (ob_15 zc_1)⟩⟩, hS.F ht⟩) hS.2.2 dX9_isKept_167
  · skip
    have f8 : x1.toInt ≠ 0 := qi_ne c_3 rfl zc_0
    have f9 : x1.toInt ≠ (0 : Int) := (ob_27 f2 f8 zl_7021235455869215084)
    have f10 : p0.toInt ≠ (7021235455869215084 : Int) := (ob_28 f2 f8 f9 zl_7021235455869215084)
    refine lv_lload_n hx hb dX9_isKept_8 rfl (lv_at hl 0 rfl) ?_
    refine lv_ldc2 (v := 1953853029) hx hb hown (hG _ gw1377) dX9_isKept_9 ?_
    refine W.lcmp hx hb dX9_isKept_12 ?_
    refine lv_topi (fun x11 ex11 => ?_)
    have f12 : (x11.toInt = 0 ∧ p0.toInt = (1953853029 : Int64).toInt) ∨ (x11.toInt ≠ 0 ∧ p0.toInt ≠ (1953853029 : Int64).toInt) := lcmp_or ex11
    refine lv_if_eq (tgt := 72) hx hb dX9_isKept_13 (by decide) (fun c_13 => ?_) (fun c_13 => ?_)
    · skip
      have f14 : x11.toInt = 0 := qi_eq c_13 rfl zc_0
      have f15 : x11.toInt = (0 : Int) := (ob_25 f14)
      have f16 : p0.toInt = (1953853029 : Int) := (ob_29 f12 f14 zl_1953853029)
      refine lv_iconst (v := 1) hx hb dX9_isKept_72 (by decide) ?_
      refine lv_goto (tgt := 77) hx hb dX9_isKept_73 (by decide) ?_
      refine lv_istore_n (lv' := [(2, .int 1), (0, .long p0)]) hx hb dX9_isKept_77 rfl hl (by decide) rfl (fun ls hl => ?_)
      refine lv_iload_n hx hb dX9_isKept_78 rfl (lv_at hl 0 rfl) ?_
      refine lv_if_ne (tgt := 162) hx hb dX9_isKept_79 (by decide) (fun c_17 => ?_) (fun c_17 => absurd c_17 (by decide))
      refine lv_iconst (v := 1) hx hb dX9_isKept_162 (by decide) ?_
      refine lv_goto (tgt := 167) hx hb dX9_isKept_163 (by decide) ?_
      rw [hQ]
      exact W.zret (v := 1) hx hb hr (by decide) (fun t ht hW => ⟨⟨1, 1, rfl, rfl, ⟨(ob_14 zc_1), (ob_15 zc_1)⟩⟩, hS.F ht⟩) hS.2.2 dX9_isKept_167
    · skip
      have f18 : x11.toInt ≠ 0 := qi_ne c_13 rfl zc_0
      have f19 : x11.toInt ≠ (0 : Int) := (ob_30 f12 f18 zl_1953853029)
      have f20 : p0.toInt ≠ (1953853029 : Int) := (ob_31 f12 f18 zl_1953853029)
      refine lv_lload_n hx hb dX9_isKept_16 rfl (lv_at hl 0 rfl) ?_
      refine lv_ldc2 (v := 482955846501) hx hb hown (hG _ gw1378) dX9_isKept_17 ?_
      refine W.lcmp hx hb dX9_isKept_20 ?_
      refine lv_topi (fun x21 ex21 => ?_)
      have f22 : (x21.toInt = 0 ∧ p0.toInt = (482955846501 : Int64).toInt) ∨ (x21.toInt ≠ 0 ∧ p0.toInt ≠ (482955846501 : Int64).toInt) := lcmp_or ex21
      refine lv_if_eq (tgt := 72) hx hb dX9_isKept_21 (by decide) (fun c_23 => ?_) (fun c_23 => ?_)
      · skip
        have f24 : x21.toInt = 0 := qi_eq c_23 rfl zc_0
        have f25 : x21.toInt = (0 : Int) := (ob_25 f24)
        have f26 : p0.toInt = (482955846501 : Int) := (ob_32 f22 f24 zl_482955846501)
        refine lv_iconst (v := 1) hx hb dX9_isKept_72 (by decide) ?_
        refine lv_goto (tgt := 77) hx hb dX9_isKept_73 (by decide) ?_
        refine lv_istore_n (lv' := [(2, .int 1), (0, .long p0)]) hx hb dX9_isKept_77 rfl hl (by decide) rfl (fun ls hl => ?_)
        refine lv_iload_n hx hb dX9_isKept_78 rfl (lv_at hl 0 rfl) ?_
        refine lv_if_ne (tgt := 162) hx hb dX9_isKept_79 (by decide) (fun c_27 => ?_) (fun c_27 => absurd c_27 (by decide))
        refine lv_iconst (v := 1) hx hb dX9_isKept_162 (by decide) ?_
        refine lv_goto (tgt := 167) hx hb dX9_isKept_163 (by decide) ?_
        rw [hQ]
        exact W.zret (v := 1) hx hb hr (by decide) (fun t ht hW => ⟨⟨1, 1, rfl, rfl, ⟨(ob_14 zc_1), (ob_15 zc_1)⟩⟩, hS.F ht⟩) hS.2.2 dX9_isKept_167
      · skip
        have f28 : x21.toInt ≠ 0 := qi_ne c_23 rfl zc_0
        have f29 : x21.toInt ≠ (0 : Int) := (ob_33 f22 f28 zl_482955846501)
        have f30 : p0.toInt ≠ (482955846501 : Int) := (ob_34 f22 f28 zl_482955846501)
        refine lv_lload_n hx hb dX9_isKept_24 rfl (lv_at hl 0 rfl) ?_
        refine lv_ldc2 (v := 474316301683) hx hb hown (hG _ gw1379) dX9_isKept_25 ?_
        refine W.lcmp hx hb dX9_isKept_28 ?_
        refine lv_topi (fun x31 ex31 => ?_)
        have f32 : (x31.toInt = 0 ∧ p0.toInt = (474316301683 : Int64).toInt) ∨ (x31.toInt ≠ 0 ∧ p0.toInt ≠ (474316301683 : Int64).toInt) := lcmp_or ex31
        refine lv_if_eq (tgt := 72) hx hb dX9_isKept_29 (by decide) (fun c_33 => ?_) (fun c_33 => ?_)
        · skip
          have f34 : x31.toInt = 0 := qi_eq c_33 rfl zc_0
          have f35 : x31.toInt = (0 : Int) := (ob_25 f34)
          have f36 : p0.toInt = (474316301683 : Int) := (ob_35 f32 f34 zl_474316301683)
          refine lv_iconst (v := 1) hx hb dX9_isKept_72 (by decide) ?_
          refine lv_goto (tgt := 77) hx hb dX9_isKept_73 (by decide) ?_
          refine lv_istore_n (lv' := [(2, .int 1), (0, .long p0)]) hx hb dX9_isKept_77 rfl hl (by decide) rfl (fun ls hl => ?_)
          refine lv_iload_n hx hb dX9_isKept_78 rfl (lv_at hl 0 rfl) ?_
          refine lv_if_ne (tgt := 162) hx hb dX9_isKept_79 (by decide) (fun c_37 => ?_) (fun c_37 => absurd c_37 (by decide))
          refine lv_iconst (v := 1) hx hb dX9_isKept_162 (by decide) ?_
          refine lv_goto (tgt := 167) hx hb dX9_isKept_163 (by decide) ?_
          rw [hQ]
          exact W.zret (v := 1) hx hb hr (by decide) (fun t ht hW => ⟨⟨1, 1, rfl, rfl, ⟨(ob_14 zc_1), (ob_15 zc_1)⟩⟩, hS.F ht⟩) hS.2.2 dX9_isKept_167
        · skip
          have f38 : x31.toInt ≠ 0 := qi_ne c_33 rfl zc_0
          have f39 : x31.toInt ≠ (0 : Int) := (ob_36 f32 f38 zl_474316301683)
          have f40 : p0.toInt ≠ (474316301683 : Int) := (ob_37 f32 f38 zl_474316301683)
          refine lv_lload_n hx hb dX9_isKept_32 rfl (lv_at hl 0 rfl) ?_
          refine lv_ldc2 (v := 448546567013) hx hb hown (hG _ gw1380) dX9_isKept_33 ?_
          refine W.lcmp hx hb dX9_isKept_36 ?_
          refine lv_topi (fun x41 ex41 => ?_)
          have f42 : (x41.toInt = 0 ∧ p0.toInt = (448546567013 : Int64).toInt) ∨ (x41.toInt ≠ 0 ∧ p0.toInt ≠ (448546567013 : Int64).toInt) := lcmp_or ex41
          refine lv_if_eq (tgt := 72) hx hb dX9_isKept_37 (by decide) (fun c_43 => ?_) (fun c_43 => ?_)
          · skip
            have f44 : x41.toInt = 0 := qi_eq c_43 rfl zc_0
            have f45 : x41.toInt = (0 : Int) := (ob_25 f44)
            have f46 : p0.toInt = (448546567013 : Int) := (ob_38 f42 f44 zl_448546567013)
            refine lv_iconst (v := 1) hx hb dX9_isKept_72 (by decide) ?_
            refine lv_goto (tgt := 77) hx hb dX9_isKept_73 (by decide) ?_
            refine lv_istore_n (lv' := [(2, .int 1), (0, .long p0)]) hx hb dX9_isKept_77 rfl hl (by decide) rfl (fun ls hl => ?_)
            refine lv_iload_n hx hb dX9_isKept_78 rfl (lv_at hl 0 rfl) ?_
            refine lv_if_ne (tgt := 162) hx hb dX9_isKept_79 (by decide) (fun c_47 => ?_) (fun c_47 => absurd c_47 (by decide))
            refine lv_iconst (v := 1) hx hb dX9_isKept_162 (by decide) ?_
            refine lv_goto (tgt := 167) hx hb dX9_isKept_163 (by decide) ?_
            rw [hQ]
            exact W.zret (v := 1) hx hb hr (by decide) (fun t ht hW => ⟨⟨1, 1, rfl, rfl, ⟨(ob_14 zc_1), (ob_15 zc_1)⟩⟩, hS.F ht⟩) hS.2.2 dX9_isKept_167
          · skip
            have f48 : x41.toInt ≠ 0 := qi_ne c_43 rfl zc_0
            have f49 : x41.toInt ≠ (0 : Int) := (ob_39 f42 f48 zl_448546567013)
            have f50 : p0.toInt ≠ (448546567013 : Int) := (ob_40 f42 f48 zl_448546567013)
            refine lv_lload_n hx hb dX9_isKept_40 rfl (lv_at hl 0 rfl) ?_
            refine lv_ldc2 (v := 24948) hx hb hown (hG _ gw1381) dX9_isKept_41 ?_
            refine W.lcmp hx hb dX9_isKept_44 ?_
            refine lv_topi (fun x51 ex51 => ?_)
            have f52 : (x51.toInt = 0 ∧ p0.toInt = (24948 : Int64).toInt) ∨ (x51.toInt ≠ 0 ∧ p0.toInt ≠ (24948 : Int64).toInt) := lcmp_or ex51
            refine lv_if_eq (tgt := 72) hx hb dX9_isKept_45 (by decide) (fun c_53 => ?_) (fun c_53 => ?_)
            · skip
              have f54 : x51.toInt = 0 := qi_eq c_53 rfl zc_0
              have f55 : x51.toInt = (0 : Int) := (ob_25 f54)
              have f56 : p0.toInt = (24948 : Int) := (ob_41 f52 f54 zl_24948)
              refine lv_iconst (v := 1) hx hb dX9_isKept_72 (by decide) ?_
              refine lv_goto (tgt := 77) hx hb dX9_isKept_73 (by decide) ?_
              refine lv_istore_n (lv' := [(2, .int 1), (0, .long p0)]) hx hb dX9_isKept_77 rfl hl (by decide) rfl (fun ls hl => ?_)
              refine lv_iload_n hx hb dX9_isKept_78 rfl (lv_at hl 0 rfl) ?_
              refine lv_if_ne (tgt := 162) hx hb dX9_isKept_79 (by decide) (fun c_57 => ?_) (fun c_57 => absurd c_57 (by decide))
              refine lv_iconst (v := 1) hx hb dX9_isKept_162 (by decide) ?_
              refine lv_goto (tgt := 167) hx hb dX9_isKept_163 (by decide) ?_
              rw [hQ]
              exact W.zret (v := 1) hx hb hr (by decide) (fun t ht hW => ⟨⟨1, 1, rfl, rfl, ⟨(ob_14 zc_1), (ob_15 zc_1)⟩⟩, hS.F ht⟩) hS.2.2 dX9_isKept_167
            · skip
              have f58 : x51.toInt ≠ 0 := qi_ne c_53 rfl zc_0
              have f59 : x51.toInt ≠ (0 : Int) := (ob_42 f52 f58 zl_24948)
              have f60 : p0.toInt ≠ (24948 : Int) := (ob_43 f52 f58 zl_24948)
              refine lv_lload_n hx hb dX9_isKept_48 rfl (lv_at hl 0 rfl) ?_
              refine lv_ldc2 (v := 483006772069) hx hb hown (hG _ gw1382) dX9_isKept_49 ?_
              refine W.lcmp hx hb dX9_isKept_52 ?_
              refine lv_topi (fun x61 ex61 => ?_)
              have f62 : (x61.toInt = 0 ∧ p0.toInt = (483006772069 : Int64).toInt) ∨ (x61.toInt ≠ 0 ∧ p0.toInt ≠ (483006772069 : Int64).toInt) := lcmp_or ex61
              refine lv_if_eq (tgt := 72) hx hb dX9_isKept_53 (by decide) (fun c_63 => ?_) (fun c_63 => ?_)
              · skip
                have f64 : x61.toInt = 0 := qi_eq c_63 rfl zc_0
                have f65 : x61.toInt = (0 : Int) := (ob_25 f64)
                have f66 : p0.toInt = (483006772069 : Int) := (ob_44 f62 f64 zl_483006772069)
                refine lv_iconst (v := 1) hx hb dX9_isKept_72 (by decide) ?_
                refine lv_goto (tgt := 77) hx hb dX9_isKept_73 (by decide) ?_
                refine lv_istore_n (lv' := [(2, .int 1), (0, .long p0)]) hx hb dX9_isKept_77 rfl hl (by decide) rfl (fun ls hl => ?_)
                refine lv_iload_n hx hb dX9_isKept_78 rfl (lv_at hl 0 rfl) ?_
                refine lv_if_ne (tgt := 162) hx hb dX9_isKept_79 (by decide) (fun c_67 => ?_) (fun c_67 => absurd c_67 (by decide))
                refine lv_iconst (v := 1) hx hb dX9_isKept_162 (by decide) ?_
                refine lv_goto (tgt := 167) hx hb dX9_isKept_163 (by decide) ?_
                rw [hQ]
                exact W.zret (v := 1) hx hb hr (by decide) (fun t ht hW => ⟨⟨1, 1, rfl, rfl, ⟨(ob_14 zc_1), (ob_15 zc_1)⟩⟩, hS.F ht⟩) hS.2.2 dX9_isKept_167
              · skip
                have f68 : x61.toInt ≠ 0 := qi_ne c_63 rfl zc_0
                have f69 : x61.toInt ≠ (0 : Int) := (ob_45 f62 f68 zl_483006772069)
                have f70 : p0.toInt ≠ (483006772069 : Int) := (ob_46 f62 f68 zl_483006772069)
                refine lv_lload_n hx hb dX9_isKept_56 rfl (lv_at hl 0 rfl) ?_
                refine lv_ldc2 (v := 465625113971) hx hb hown (hG _ gw1383) dX9_isKept_57 ?_
                refine W.lcmp hx hb dX9_isKept_60 ?_
                refine lv_topi (fun x71 ex71 => ?_)
                have f72 : (x71.toInt = 0 ∧ p0.toInt = (465625113971 : Int64).toInt) ∨ (x71.toInt ≠ 0 ∧ p0.toInt ≠ (465625113971 : Int64).toInt) := lcmp_or ex71
                refine lv_if_eq (tgt := 72) hx hb dX9_isKept_61 (by decide) (fun c_73 => ?_) (fun c_73 => ?_)
                · skip
                  have f74 : x71.toInt = 0 := qi_eq c_73 rfl zc_0
                  have f75 : x71.toInt = (0 : Int) := (ob_25 f74)
                  have f76 : p0.toInt = (465625113971 : Int) := (ob_47 f72 f74 zl_465625113971)
                  refine lv_iconst (v := 1) hx hb dX9_isKept_72 (by decide) ?_
                  refine lv_goto (tgt := 77) hx hb dX9_isKept_73 (by decide) ?_
                  refine lv_istore_n (lv' := [(2, .int 1), (0, .long p0)]) hx hb dX9_isKept_77 rfl hl (by decide) rfl (fun ls hl => ?_)
                  refine lv_iload_n hx hb dX9_isKept_78 rfl (lv_at hl 0 rfl) ?_
                  refine lv_if_ne (tgt := 162) hx hb dX9_isKept_79 (by decide) (fun c_77 => ?_) (fun c_77 => absurd c_77 (by decide))
                  refine lv_iconst (v := 1) hx hb dX9_isKept_162 (by decide) ?_
                  refine lv_goto (tgt := 167) hx hb dX9_isKept_163 (by decide) ?_
                  rw [hQ]
                  exact W.zret (v := 1) hx hb hr (by decide) (fun t ht hW => ⟨⟨1, 1, rfl, rfl, ⟨(ob_14 zc_1), (ob_15 zc_1)⟩⟩, hS.F ht⟩) hS.2.2 dX9_isKept_167
                · skip
                  have f78 : x71.toInt ≠ 0 := qi_ne c_73 rfl zc_0
                  have f79 : x71.toInt ≠ (0 : Int) := (ob_48 f72 f78 zl_465625113971)
                  have f80 : p0.toInt ≠ (465625113971 : Int) := (ob_49 f72 f78 zl_465625113971)
                  refine lv_lload_n hx hb dX9_isKept_64 rfl (lv_at hl 0 rfl) ?_
                  refine lv_ldc2 (v := 1735156068) hx hb hown (hG _ gw1384) dX9_isKept_65 ?_
                  refine W.lcmp hx hb dX9_isKept_68 ?_
                  refine lv_topi (fun x81 ex81 => ?_)
                  have f82 : (x81.toInt = 0 ∧ p0.toInt = (1735156068 : Int64).toInt) ∨ (x81.toInt ≠ 0 ∧ p0.toInt ≠ (1735156068 : Int64).toInt) := lcmp_or ex81
                  refine lv_if_ne (tgt := 76) hx hb dX9_isKept_69 (by decide) (fun c_83 => ?_) (fun c_83 => ?_)
                  · skip
                    have f84 : x81.toInt ≠ 0 := qi_ne c_83 rfl zc_0
                    have f85 : x81.toInt ≠ (0 : Int) := (ob_50 f82 f84 zl_1735156068)
                    have f86 : p0.toInt ≠ (1735156068 : Int) := (ob_51 f82 f84 zl_1735156068)
                    refine lv_iconst (v := 0) hx hb dX9_isKept_76 (by decide) ?_
                    refine lv_istore_n (lv' := [(2, .int 0), (0, .long p0)]) hx hb dX9_isKept_77 rfl hl (by decide) rfl (fun ls hl => ?_)
                    refine lv_iload_n hx hb dX9_isKept_78 rfl (lv_at hl 0 rfl) ?_
                    refine lv_if_ne (tgt := 162) hx hb dX9_isKept_79 (by decide) (fun c_87 => absurd (by decide) c_87) (fun c_87 => ?_)
                    refine lv_lload_n hx hb dX9_isKept_82 rfl (lv_at hl 1 rfl) ?_
                    refine lv_ldc2 (v := 1752526195) hx hb hown (hG _ gw1385) dX9_isKept_83 ?_
                    refine W.lcmp hx hb dX9_isKept_86 ?_
                    refine lv_topi (fun x88 ex88 => ?_)
                    have f89 : (x88.toInt = 0 ∧ p0.toInt = (1752526195 : Int64).toInt) ∨ (x88.toInt ≠ 0 ∧ p0.toInt ≠ (1752526195 : Int64).toInt) := lcmp_or ex88
                    refine lv_if_eq (tgt := 162) hx hb dX9_isKept_87 (by decide) (fun c_90 => ?_) (fun c_90 => ?_)
                    · skip
                      have f91 : x88.toInt = 0 := qi_eq c_90 rfl zc_0
                      have f92 : x88.toInt = (0 : Int) := (ob_25 f91)
                      have f93 : p0.toInt = (1752526195 : Int) := (ob_52 f89 f91 zl_1752526195)
                      refine lv_iconst (v := 1) hx hb dX9_isKept_162 (by decide) ?_
                      refine lv_goto (tgt := 167) hx hb dX9_isKept_163 (by decide) ?_
                      rw [hQ]
                      exact W.zret (v := 1) hx hb hr (by decide) (fun t ht hW => ⟨⟨1, 1, rfl, rfl, ⟨(ob_14 zc_1), (ob_15 zc_1)⟩⟩, hS.F ht⟩) hS.2.2 dX9_isKept_167
                    · skip
                      have f94 : x88.toInt ≠ 0 := qi_ne c_90 rfl zc_0
                      have f95 : x88.toInt ≠ (0 : Int) := (ob_53 f89 f94 zl_1752526195)
                      have f96 : p0.toInt ≠ (1752526195 : Int) := (ob_54 f89 f94 zl_1752526195)
                      refine lv_lload_n hx hb dX9_isKept_90 rfl (lv_at hl 1 rfl) ?_
                      refine lv_ldc2 (v := 1685217655) hx hb hown (hG _ gw1386) dX9_isKept_91 ?_
                      refine W.lcmp hx hb dX9_isKept_94 ?_
                      refine lv_topi (fun x97 ex97 => ?_)
                      have f98 : (x97.toInt = 0 ∧ p0.toInt = (1685217655 : Int64).toInt) ∨ (x97.toInt ≠ 0 ∧ p0.toInt ≠ (1685217655 : Int64).toInt) := lcmp_or ex97
                      refine lv_if_eq (tgt := 162) hx hb dX9_isKept_95 (by decide) (fun c_99 => ?_) (fun c_99 => ?_)
                      · skip
                        have f100 : x97.toInt = 0 := qi_eq c_99 rfl zc_0
                        have f101 : x97.toInt = (0 : Int) := (ob_25 f100)
                        have f102 : p0.toInt = (1685217655 : Int) := (ob_55 f98 f100 zl_1685217655)
                        refine lv_iconst (v := 1) hx hb dX9_isKept_162 (by decide) ?_
                        refine lv_goto (tgt := 167) hx hb dX9_isKept_163 (by decide) ?_
                        rw [hQ]
                        exact W.zret (v := 1) hx hb hr (by decide) (fun t ht hW => ⟨⟨1, 1, rfl, rfl, ⟨(ob_14 zc_1), (ob_15 zc_1)⟩⟩, hS.F ht⟩) hS.2.2 dX9_isKept_167
                      · skip
                        have f103 : x97.toInt ≠ 0 := qi_ne c_99 rfl zc_0
                        have f104 : x97.toInt ≠ (0 : Int) := (ob_56 f98 f103 zl_1685217655)
                        have f105 : p0.toInt ≠ (1685217655 : Int) := (ob_57 f98 f103 zl_1685217655)
                        refine lv_lload_n hx hb dX9_isKept_98 rfl (lv_at hl 1 rfl) ?_
                        refine lv_ldc2 (v := 1935764837) hx hb hown (hG _ gw1387) dX9_isKept_99 ?_
                        refine W.lcmp hx hb dX9_isKept_102 ?_
                        refine lv_topi (fun x106 ex106 => ?_)
                        have f107 : (x106.toInt = 0 ∧ p0.toInt = (1935764837 : Int64).toInt) ∨ (x106.toInt ≠ 0 ∧ p0.toInt ≠ (1935764837 : Int64).toInt) := lcmp_or ex106
                        refine lv_if_eq (tgt := 162) hx hb dX9_isKept_103 (by decide) (fun c_108 => ?_) (fun c_108 => ?_)
                        · skip
                          have f109 : x106.toInt = 0 := qi_eq c_108 rfl zc_0
                          have f110 : x106.toInt = (0 : Int) := (ob_25 f109)
                          have f111 : p0.toInt = (1935764837 : Int) := (ob_58 f107 f109 zl_1935764837)
                          refine lv_iconst (v := 1) hx hb dX9_isKept_162 (by decide) ?_
                          refine lv_goto (tgt := 167) hx hb dX9_isKept_163 (by decide) ?_
                          rw [hQ]
                          exact W.zret (v := 1) hx hb hr (by decide) (fun t ht hW => ⟨⟨1, 1, rfl, rfl, ⟨(ob_14 zc_1), (ob_15 zc_1)⟩⟩, hS.F ht⟩) hS.2.2 dX9_isKept_167
                        · skip
                          have f112 : x106.toInt ≠ 0 := qi_ne c_108 rfl zc_0
                          have f113 : x106.toInt ≠ (0 : Int) := (ob_59 f107 f112 zl_1935764837)
                          have f114 : p0.toInt ≠ (1935764837 : Int) := (ob_60 f107 f112 zl_1935764837)
                          refine lv_lload_n hx hb dX9_isKept_106 rfl (lv_at hl 1 rfl) ?_
                          refine lv_ldc2 (v := 1953854062) hx hb hown (hG _ gw1388) dX9_isKept_107 ?_
                          refine W.lcmp hx hb dX9_isKept_110 ?_
                          refine lv_topi (fun x115 ex115 => ?_)
                          have f116 : (x115.toInt = 0 ∧ p0.toInt = (1953854062 : Int64).toInt) ∨ (x115.toInt ≠ 0 ∧ p0.toInt ≠ (1953854062 : Int64).toInt) := lcmp_or ex115
                          refine lv_if_eq (tgt := 162) hx hb dX9_isKept_111 (by decide) (fun c_117 => ?_) (fun c_117 => ?_)
                          · skip
                            have f118 : x115.toInt = 0 := qi_eq c_117 rfl zc_0
                            have f119 : x115.toInt = (0 : Int) := (ob_25 f118)
                            have f120 : p0.toInt = (1953854062 : Int) := (ob_61 f116 f118 zl_1953854062)
                            refine lv_iconst (v := 1) hx hb dX9_isKept_162 (by decide) ?_
                            refine lv_goto (tgt := 167) hx hb dX9_isKept_163 (by decide) ?_
                            rw [hQ]
                            exact W.zret (v := 1) hx hb hr (by decide) (fun t ht hW => ⟨⟨1, 1, rfl, rfl, ⟨(ob_14 zc_1), (ob_15 zc_1)⟩⟩, hS.F ht⟩) hS.2.2 dX9_isKept_167
                          · skip
                            have f121 : x115.toInt ≠ 0 := qi_ne c_117 rfl zc_0
                            have f122 : x115.toInt ≠ (0 : Int) := (ob_62 f116 f121 zl_1953854062)
                            have f123 : p0.toInt ≠ (1953854062 : Int) := (ob_63 f116 f121 zl_1953854062)
                            refine lv_lload_n hx hb dX9_isKept_114 rfl (lv_at hl 1 rfl) ?_
                            refine lv_ldc2 (v := 1819242087) hx hb hown (hG _ gw1389) dX9_isKept_115 ?_
                            refine W.lcmp hx hb dX9_isKept_118 ?_
                            refine lv_topi (fun x124 ex124 => ?_)
                            have f125 : (x124.toInt = 0 ∧ p0.toInt = (1819242087 : Int64).toInt) ∨ (x124.toInt ≠ 0 ∧ p0.toInt ≠ (1819242087 : Int64).toInt) := lcmp_or ex124
                            refine lv_if_eq (tgt := 162) hx hb dX9_isKept_119 (by decide) (fun c_126 => ?_) (fun c_126 => ?_)
                            · skip
                              have f127 : x124.toInt = 0 := qi_eq c_126 rfl zc_0
                              have f128 : x124.toInt = (0 : Int) := (ob_25 f127)
                              have f129 : p0.toInt = (1819242087 : Int) := (ob_64 f125 f127 zl_1819242087)
                              refine lv_iconst (v := 1) hx hb dX9_isKept_162 (by decide) ?_
                              refine lv_goto (tgt := 167) hx hb dX9_isKept_163 (by decide) ?_
                              rw [hQ]
                              exact W.zret (v := 1) hx hb hr (by decide) (fun t ht hW => ⟨⟨1, 1, rfl, rfl, ⟨(ob_14 zc_1), (ob_15 zc_1)⟩⟩, hS.F ht⟩) hS.2.2 dX9_isKept_167
                            · skip
                              have f130 : x124.toInt ≠ 0 := qi_ne c_126 rfl zc_0
                              have f131 : x124.toInt ≠ (0 : Int) := (ob_65 f125 f130 zl_1819242087)
                              have f132 : p0.toInt ≠ (1819242087 : Int) := (ob_66 f125 f130 zl_1819242087)
                              refine lv_lload_n hx hb dX9_isKept_122 rfl (lv_at hl 1 rfl) ?_
                              refine lv_ldc2 (v := 2003792494) hx hb hown (hG _ gw1390) dX9_isKept_123 ?_
                              refine W.lcmp hx hb dX9_isKept_126 ?_
                              refine lv_topi (fun x133 ex133 => ?_)
                              have f134 : (x133.toInt = 0 ∧ p0.toInt = (2003792494 : Int64).toInt) ∨ (x133.toInt ≠ 0 ∧ p0.toInt ≠ (2003792494 : Int64).toInt) := lcmp_or ex133
                              refine lv_if_eq (tgt := 162) hx hb dX9_isKept_127 (by decide) (fun c_135 => ?_) (fun c_135 => ?_)
                              · skip
                                have f136 : x133.toInt = 0 := qi_eq c_135 rfl zc_0
                                have f137 : x133.toInt = (0 : Int) := (ob_25 f136)
                                have f138 : p0.toInt = (2003792494 : Int) := (ob_67 f134 f136 zl_2003792494)
                                refine lv_iconst (v := 1) hx hb dX9_isKept_162 (by decide) ?_
                                refine lv_goto (tgt := 167) hx hb dX9_isKept_163 (by decide) ?_
                                rw [hQ]
                                exact W.zret (v := 1) hx hb hr (by decide) (fun t ht hW => ⟨⟨1, 1, rfl, rfl, ⟨(ob_14 zc_1), (ob_15 zc_1)⟩⟩, hS.F ht⟩) hS.2.2 dX9_isKept_167
                              · skip
                                have f139 : x133.toInt ≠ 0 := qi_ne c_135 rfl zc_0
                                have f140 : x133.toInt ≠ (0 : Int) := (ob_68 f134 f139 zl_2003792494)
                                have f141 : p0.toInt ≠ (2003792494 : Int) := (ob_69 f134 f139 zl_2003792494)
                                refine lv_lload_n hx hb dX9_isKept_130 rfl (lv_at hl 1 rfl) ?_
                                refine lv_ldc2 (v := 512802253683) hx hb hown (hG _ gw1391) dX9_isKept_131 ?_
                                refine W.lcmp hx hb dX9_isKept_134 ?_
                                refine lv_topi (fun x142 ex142 => ?_)
                                have f143 : (x142.toInt = 0 ∧ p0.toInt = (512802253683 : Int64).toInt) ∨ (x142.toInt ≠ 0 ∧ p0.toInt ≠ (512802253683 : Int64).toInt) := lcmp_or ex142
                                refine lv_if_eq (tgt := 162) hx hb dX9_isKept_135 (by decide) (fun c_144 => ?_) (fun c_144 => ?_)
                                · skip
                                  have f145 : x142.toInt = 0 := qi_eq c_144 rfl zc_0
                                  have f146 : x142.toInt = (0 : Int) := (ob_25 f145)
                                  have f147 : p0.toInt = (512802253683 : Int) := (ob_70 f2 f8 f9 f143 f145 zl_512802253683 zl_7021235455869215084)
                                  refine lv_iconst (v := 1) hx hb dX9_isKept_162 (by decide) ?_
                                  refine lv_goto (tgt := 167) hx hb dX9_isKept_163 (by decide) ?_
                                  rw [hQ]
                                  exact W.zret (v := 1) hx hb hr (by decide) (fun t ht hW => ⟨⟨1, 1, rfl, rfl, ⟨(ob_14 zc_1), (ob_15 zc_1)⟩⟩, hS.F ht⟩) hS.2.2 dX9_isKept_167
                                · skip
                                  have f148 : x142.toInt ≠ 0 := qi_ne c_144 rfl zc_0
                                  have f149 : x142.toInt ≠ (0 : Int) := (ob_71 f143 f148 zl_512802253683)
                                  have f150 : p0.toInt ≠ (512802253683 : Int) := (ob_72 f2 f8 f9 f143 f148 zl_512802253683 zl_7021235455869215084)
                                  refine lv_lload_n hx hb dX9_isKept_138 rfl (lv_at hl 1 rfl) ?_
                                  refine lv_ldc2 (v := 28530) hx hb hown (hG _ gw1392) dX9_isKept_139 ?_
                                  refine W.lcmp hx hb dX9_isKept_142 ?_
                                  refine lv_topi (fun x151 ex151 => ?_)
                                  have f152 : (x151.toInt = 0 ∧ p0.toInt = (28530 : Int64).toInt) ∨ (x151.toInt ≠ 0 ∧ p0.toInt ≠ (28530 : Int64).toInt) := lcmp_or ex151
                                  refine lv_if_eq (tgt := 162) hx hb dX9_isKept_143 (by decide) (fun c_153 => ?_) (fun c_153 => ?_)
                                  · skip
                                    have f154 : x151.toInt = 0 := qi_eq c_153 rfl zc_0
                                    have f155 : x151.toInt = (0 : Int) := (ob_25 f154)
                                    have f156 : p0.toInt = (28530 : Int) := (ob_73 f2 f8 f9 f10 f12 f18 f19 f152 f154 zl_28530 zl_1953853029 zl_7021235455869215084)
                                    refine lv_iconst (v := 1) hx hb dX9_isKept_162 (by decide) ?_
                                    refine lv_goto (tgt := 167) hx hb dX9_isKept_163 (by decide) ?_
                                    rw [hQ]
                                    exact W.zret (v := 1) hx hb hr (by decide) (fun t ht hW => ⟨⟨1, 1, rfl, rfl, ⟨(ob_14 zc_1), (ob_15 zc_1)⟩⟩, hS.F ht⟩) hS.2.2 dX9_isKept_167
                                  · skip
                                    have f157 : x151.toInt ≠ 0 := qi_ne c_153 rfl zc_0
                                    have f158 : x151.toInt ≠ (0 : Int) := (ob_74 f152 f157 zl_28530)
                                    have f159 : p0.toInt ≠ (28530 : Int) := (ob_75 f2 f8 f9 f10 f12 f18 f19 f152 f157 zl_28530 zl_1953853029 zl_7021235455869215084)
                                    refine lv_lload_n hx hb dX9_isKept_146 rfl (lv_at hl 1 rfl) ?_
                                    refine lv_ldc2 (v := 6385252) hx hb hown (hG _ gw1393) dX9_isKept_147 ?_
                                    refine W.lcmp hx hb dX9_isKept_150 ?_
                                    refine lv_topi (fun x160 ex160 => ?_)
                                    have f161 : (x160.toInt = 0 ∧ p0.toInt = (6385252 : Int64).toInt) ∨ (x160.toInt ≠ 0 ∧ p0.toInt ≠ (6385252 : Int64).toInt) := lcmp_or ex160
                                    refine lv_if_eq (tgt := 162) hx hb dX9_isKept_151 (by decide) (fun c_162 => ?_) (fun c_162 => ?_)
                                    · skip
                                      have f163 : x160.toInt = 0 := qi_eq c_162 rfl zc_0
                                      have f164 : x160.toInt = (0 : Int) := (ob_25 f163)
                                      have f165 : p0.toInt = (6385252 : Int) := (ob_76 f2 f8 f9 f10 f12 f18 f19 f20 f22 f28 f29 f161 f163 zl_6385252 zl_482955846501 zl_1953853029 zl_7021235455869215084)
                                      refine lv_iconst (v := 1) hx hb dX9_isKept_162 (by decide) ?_
                                      refine lv_goto (tgt := 167) hx hb dX9_isKept_163 (by decide) ?_
                                      rw [hQ]
                                      exact W.zret (v := 1) hx hb hr (by decide) (fun t ht hW => ⟨⟨1, 1, rfl, rfl, ⟨(ob_14 zc_1), (ob_15 zc_1)⟩⟩, hS.F ht⟩) hS.2.2 dX9_isKept_167
                                    · skip
                                      have f166 : x160.toInt ≠ 0 := qi_ne c_162 rfl zc_0
                                      have f167 : x160.toInt ≠ (0 : Int) := (ob_77 f161 f166 zl_6385252)
                                      have f168 : p0.toInt ≠ (6385252 : Int) := (ob_78 f2 f8 f9 f10 f12 f18 f19 f20 f22 f28 f29 f161 f166 zl_6385252 zl_482955846501 zl_1953853029 zl_7021235455869215084)
                                      refine lv_lload_n hx hb dX9_isKept_154 rfl (lv_at hl 1 rfl) ?_
                                      refine lv_ldc2 (v := 7237492) hx hb hown (hG _ gw1394) dX9_isKept_155 ?_
                                      refine W.lcmp hx hb dX9_isKept_158 ?_
                                      refine lv_topi (fun x169 ex169 => ?_)
                                      have f170 : (x169.toInt = 0 ∧ p0.toInt = (7237492 : Int64).toInt) ∨ (x169.toInt ≠ 0 ∧ p0.toInt ≠ (7237492 : Int64).toInt) := lcmp_or ex169
                                      refine lv_if_ne (tgt := 166) hx hb dX9_isKept_159 (by decide) (fun c_171 => ?_) (fun c_171 => ?_)
                                      · skip
                                        have f172 : x169.toInt ≠ 0 := qi_ne c_171 rfl zc_0
                                        have f173 : x169.toInt ≠ (0 : Int) := (ob_79 f170 f172 zl_7237492)
                                        have f174 : p0.toInt ≠ (7237492 : Int) := (ob_80 f2 f8 f9 f10 f12 f18 f19 f20 f22 f28 f29 f30 f32 f38 f39 f170 f172 zl_7237492 zl_474316301683 zl_482955846501 zl_1953853029 zl_7021235455869215084)
                                        refine lv_iconst (v := 0) hx hb dX9_isKept_166 (by decide) ?_
                                        rw [hQ]
                                        exact W.zret (v := 0) hx hb hr (by decide) (fun t ht hW => ⟨⟨0, 0, rfl, rfl, ⟨(ob_1 zc_0), (ob_11 zc_0)⟩⟩, hS.F ht⟩) hS.2.2 dX9_isKept_167
                                      · skip
                                        have f175 : x169.toInt = 0 := qi_eq c_171 rfl zc_0
                                        have f176 : x169.toInt = (0 : Int) := (ob_25 f175)
                                        have f177 : p0.toInt = (7237492 : Int) := (ob_81 f2 f8 f9 f10 f12 f18 f19 f20 f22 f28 f29 f30 f32 f38 f39 f170 f175 zl_7237492 zl_474316301683 zl_482955846501 zl_1953853029 zl_7021235455869215084)
                                        refine lv_iconst (v := 1) hx hb dX9_isKept_162 (by decide) ?_
                                        refine lv_goto (tgt := 167) hx hb dX9_isKept_163 (by decide) ?_
                                        rw [hQ]
                                        exact W.zret (v := 1) hx hb hr (by decide) (fun t ht hW => ⟨⟨1, 1, rfl, rfl, ⟨(ob_14 zc_1), (ob_15 zc_1)⟩⟩, hS.F ht⟩) hS.2.2 dX9_isKept_167
                  · skip
                    have f178 : x81.toInt = 0 := qi_eq c_83 rfl zc_0
                    have f179 : x81.toInt = (0 : Int) := (ob_25 f178)
                    have f180 : p0.toInt = (1735156068 : Int) := (ob_82 f82 f178 zl_1735156068)
                    refine lv_iconst (v := 1) hx hb dX9_isKept_72 (by decide) ?_
                    refine lv_goto (tgt := 77) hx hb dX9_isKept_73 (by decide) ?_
                    refine lv_istore_n (lv' := [(2, .int 1), (0, .long p0)]) hx hb dX9_isKept_77 rfl hl (by decide) rfl (fun ls hl => ?_)
                    refine lv_iload_n hx hb dX9_isKept_78 rfl (lv_at hl 0 rfl) ?_
                    refine lv_if_ne (tgt := 162) hx hb dX9_isKept_79 (by decide) (fun c_181 => ?_) (fun c_181 => absurd c_181 (by decide))
                    refine lv_iconst (v := 1) hx hb dX9_isKept_162 (by decide) ?_
                    refine lv_goto (tgt := 167) hx hb dX9_isKept_163 (by decide) ?_
                    rw [hQ]
                    exact W.zret (v := 1) hx hb hr (by decide) (fun t ht hW => ⟨⟨1, 1, rfl, rfl, ⟨(ob_14 zc_1), (ob_15 zc_1)⟩⟩, hS.F ht⟩) hS.2.2 dX9_isKept_167
set_option maxHeartbeats 4000000 in
set_option maxRecDepth 100000 in
theorem kX9_isSign (l : Launch) (dC : Nat → ClassId) (dI : Nat → Nat → Nat) (p0 : Int32) (sz : Nat) : Met l yX9_isSign (.code yX9_isSign cX9_isSign 1 (some .boolean) :: GW) { frames := 2, cells := 0, slots := 0, locals := 100 } (va_Pc [.int p0] (pR (dC, dI) [] [] sz)) (va_Qi (fun (r0 : Int32) (u : Int32) => r0 = u) (fun (u : Int32) (t : State) => ((0 : Int) ≤ u.toInt) ∧ (u.toInt ≤ (1 : Int))) (fun q => sz ≤ q)) 0 0 (fun q => sz ≤ q) := by
  refine Met.ofW (cc := cX9_isSign) (maxL := 1) (ret := (some .boolean)) (by decide) rfl ?_
  intro p e s m args below meth c0 s₁ B hml hv
  obtain ⟨rfl, hsz, hP, hK⟩ := hv
  have hx := B.exec
  have hb := B.bytes
  have hr := B.returns
  have hts := atoms_spec (ws := .code yX9_isSign cX9_isSign 1 (some .boolean) :: GW) B.pre
  have hG : ∀ w ∈ GW, w.before _ s = true := fun w h => hts w (List.mem_cons_of_mem _ h)
  have hown : s.vm.findClass RX9 = some m.cls := findClass_of_methodNamed B.named
  subst hsz
  have hS : va_S (fun q => s.heap.size ≤ q) s.heap s.heap [] := va_S.rf
  have hP : va_P (dC, dI) vwCl [] s.heap := hP
  have hl := lv_entry ([.int p0]) (n := 1) (Nat.le_of_ble_eq_true rfl)
  rw [lg_entry_eq]
  generalize (lg_sl ([.int p0]) ++ List.replicate (1 - (lg_sl ([.int p0])).length) Slot.unset).toArray = ls at hl ⊢
  have hl : lv_has ls 1 [(0, .int p0)] := hl
  refine nameQ (fun Q hQ => ?_)
  refine lv_iload_n hx hb dX9_isSign_0 rfl (lv_at hl 0 rfl) ?_
  refine lv_bipush (v := 59) hx hb dX9_isSign_1 (by decide) ?_
  refine lv_icmp_eq (tgt := 66) hx hb dX9_isSign_3 (by decide) (fun c_1 => ?_) (fun c_1 => ?_)
  · skip
    have f2 : p0.toInt = 59 := qi_eq c_1 rfl zc_59
    refine lv_iconst (v := 1) hx hb dX9_isSign_66 (by decide) ?_
    refine lv_goto (tgt := 71) hx hb dX9_isSign_67 (by decide) ?_
    rw [hQ]
    exact W.zret (v := 1) hx hb hr (by decide) (fun t ht hW => ⟨⟨1, 1, rfl, rfl, ⟨(ob_14 zc_1), (ob_15 zc_1)⟩⟩, hS.F ht⟩) hS.2.2 dX9_isSign_71
  · skip
    have f3 : p0.toInt ≠ 59 := qi_ne c_1 rfl zc_59
    refine lv_iload_n hx hb dX9_isSign_6 rfl (lv_at hl 0 rfl) ?_
    refine lv_bipush (v := 40) hx hb dX9_isSign_7 (by decide) ?_
    refine lv_icmp_eq (tgt := 66) hx hb dX9_isSign_9 (by decide) (fun c_4 => ?_) (fun c_4 => ?_)
    · skip
      have f5 : p0.toInt = 40 := qi_eq c_4 rfl zc_40
      have f6 : p0.toInt ≤ (58 : Int) := (ob_83 f5)
      refine lv_iconst (v := 1) hx hb dX9_isSign_66 (by decide) ?_
      refine lv_goto (tgt := 71) hx hb dX9_isSign_67 (by decide) ?_
      rw [hQ]
      exact W.zret (v := 1) hx hb hr (by decide) (fun t ht hW => ⟨⟨1, 1, rfl, rfl, ⟨(ob_14 zc_1), (ob_15 zc_1)⟩⟩, hS.F ht⟩) hS.2.2 dX9_isSign_71
    · skip
      have f7 : p0.toInt ≠ 40 := qi_ne c_4 rfl zc_40
      refine lv_iload_n hx hb dX9_isSign_12 rfl (lv_at hl 0 rfl) ?_
      refine lv_bipush (v := 41) hx hb dX9_isSign_13 (by decide) ?_
      refine lv_icmp_eq (tgt := 66) hx hb dX9_isSign_15 (by decide) (fun c_8 => ?_) (fun c_8 => ?_)
      · skip
        have f9 : p0.toInt = 41 := qi_eq c_8 rfl zc_41
        have f10 : p0.toInt ≤ (58 : Int) := (ob_84 f9)
        have f11 : (41 : Int) ≤ p0.toInt := (ob_85 f9 f10)
        refine lv_iconst (v := 1) hx hb dX9_isSign_66 (by decide) ?_
        refine lv_goto (tgt := 71) hx hb dX9_isSign_67 (by decide) ?_
        rw [hQ]
        exact W.zret (v := 1) hx hb hr (by decide) (fun t ht hW => ⟨⟨1, 1, rfl, rfl, ⟨(ob_14 zc_1), (ob_15 zc_1)⟩⟩, hS.F ht⟩) hS.2.2 dX9_isSign_71
      · skip
        have f12 : p0.toInt ≠ 41 := qi_ne c_8 rfl zc_41
        refine lv_iload_n hx hb dX9_isSign_18 rfl (lv_at hl 0 rfl) ?_
        refine lv_bipush (v := 60) hx hb dX9_isSign_19 (by decide) ?_
        refine lv_icmp_eq (tgt := 66) hx hb dX9_isSign_21 (by decide) (fun c_13 => ?_) (fun c_13 => ?_)
        · skip
          have f14 : p0.toInt = 60 := qi_eq c_13 rfl zc_60
          have f15 : (60 : Int) ≤ p0.toInt := (ob_86 f14)
          have f16 : (41 : Int) ≤ p0.toInt := (ob_87 f14 f15)
          have f17 : (42 : Int) ≤ p0.toInt := (ob_88 f14 f15 f16)
          refine lv_iconst (v := 1) hx hb dX9_isSign_66 (by decide) ?_
          refine lv_goto (tgt := 71) hx hb dX9_isSign_67 (by decide) ?_
          rw [hQ]
          exact W.zret (v := 1) hx hb hr (by decide) (fun t ht hW => ⟨⟨1, 1, rfl, rfl, ⟨(ob_14 zc_1), (ob_15 zc_1)⟩⟩, hS.F ht⟩) hS.2.2 dX9_isSign_71
        · skip
          have f18 : p0.toInt ≠ 60 := qi_ne c_13 rfl zc_60
          refine lv_iload_n hx hb dX9_isSign_24 rfl (lv_at hl 0 rfl) ?_
          refine lv_bipush (v := 62) hx hb dX9_isSign_25 (by decide) ?_
          refine lv_icmp_eq (tgt := 66) hx hb dX9_isSign_27 (by decide) (fun c_19 => ?_) (fun c_19 => ?_)
          · skip
            have f20 : p0.toInt = 62 := qi_eq c_19 rfl zc_62
            have f21 : (60 : Int) ≤ p0.toInt := (ob_89 f20)
            have f22 : (41 : Int) ≤ p0.toInt := (ob_90 f20 f21)
            have f23 : (42 : Int) ≤ p0.toInt := (ob_91 f20 f21 f22)
            have f24 : (61 : Int) ≤ p0.toInt := (ob_92 f20)
            refine lv_iconst (v := 1) hx hb dX9_isSign_66 (by decide) ?_
            refine lv_goto (tgt := 71) hx hb dX9_isSign_67 (by decide) ?_
            rw [hQ]
            exact W.zret (v := 1) hx hb hr (by decide) (fun t ht hW => ⟨⟨1, 1, rfl, rfl, ⟨(ob_14 zc_1), (ob_15 zc_1)⟩⟩, hS.F ht⟩) hS.2.2 dX9_isSign_71
          · skip
            have f25 : p0.toInt ≠ 62 := qi_ne c_19 rfl zc_62
            refine lv_iload_n hx hb dX9_isSign_30 rfl (lv_at hl 0 rfl) ?_
            refine lv_bipush (v := 61) hx hb dX9_isSign_31 (by decide) ?_
            refine lv_icmp_eq (tgt := 66) hx hb dX9_isSign_33 (by decide) (fun c_26 => ?_) (fun c_26 => ?_)
            · skip
              have f27 : p0.toInt = 61 := qi_eq c_26 rfl zc_61
              have f28 : (60 : Int) ≤ p0.toInt := (ob_93 f27)
              have f29 : (41 : Int) ≤ p0.toInt := (ob_94 f27 f28)
              have f30 : (42 : Int) ≤ p0.toInt := (ob_95 f27 f28 f29)
              have f31 : (61 : Int) ≤ p0.toInt := (ob_96 f27)
              have f32 : p0.toInt ≤ (61 : Int) := (ob_97 f27)
              refine lv_iconst (v := 1) hx hb dX9_isSign_66 (by decide) ?_
              refine lv_goto (tgt := 71) hx hb dX9_isSign_67 (by decide) ?_
              rw [hQ]
              exact W.zret (v := 1) hx hb hr (by decide) (fun t ht hW => ⟨⟨1, 1, rfl, rfl, ⟨(ob_14 zc_1), (ob_15 zc_1)⟩⟩, hS.F ht⟩) hS.2.2 dX9_isSign_71
            · skip
              have f33 : p0.toInt ≠ 61 := qi_ne c_26 rfl zc_61
              refine lv_iload_n hx hb dX9_isSign_36 rfl (lv_at hl 0 rfl) ?_
              refine lv_bipush (v := 43) hx hb dX9_isSign_37 (by decide) ?_
              refine lv_icmp_eq (tgt := 66) hx hb dX9_isSign_39 (by decide) (fun c_34 => ?_) (fun c_34 => ?_)
              · skip
                have f35 : p0.toInt = 43 := qi_eq c_34 rfl zc_43
                have f36 : p0.toInt ≤ (58 : Int) := (ob_98 f35)
                have f37 : (41 : Int) ≤ p0.toInt := (ob_99 f35 f36)
                have f38 : (42 : Int) ≤ p0.toInt := (ob_100 f35 f36 f37)
                have f39 : p0.toInt ≤ (59 : Int) := (ob_101 f35)
                have f40 : p0.toInt ≤ (61 : Int) := (ob_102 f35)
                have f41 : p0.toInt ≤ (60 : Int) := (ob_103 f35)
                refine lv_iconst (v := 1) hx hb dX9_isSign_66 (by decide) ?_
                refine lv_goto (tgt := 71) hx hb dX9_isSign_67 (by decide) ?_
                rw [hQ]
                exact W.zret (v := 1) hx hb hr (by decide) (fun t ht hW => ⟨⟨1, 1, rfl, rfl, ⟨(ob_14 zc_1), (ob_15 zc_1)⟩⟩, hS.F ht⟩) hS.2.2 dX9_isSign_71
              · skip
                have f42 : p0.toInt ≠ 43 := qi_ne c_34 rfl zc_43
                refine lv_iload_n hx hb dX9_isSign_42 rfl (lv_at hl 0 rfl) ?_
                refine lv_bipush (v := 45) hx hb dX9_isSign_43 (by decide) ?_
                refine lv_icmp_eq (tgt := 66) hx hb dX9_isSign_45 (by decide) (fun c_43 => ?_) (fun c_43 => ?_)
                · skip
                  have f44 : p0.toInt = 45 := qi_eq c_43 rfl zc_45
                  have f45 : p0.toInt ≤ (58 : Int) := (ob_104 f44)
                  have f46 : (41 : Int) ≤ p0.toInt := (ob_105 f44 f45)
                  have f47 : (42 : Int) ≤ p0.toInt := (ob_106 f44 f45 f46)
                  have f48 : p0.toInt ≤ (59 : Int) := (ob_107 f44)
                  have f49 : p0.toInt ≤ (61 : Int) := (ob_108 f44)
                  have f50 : p0.toInt ≤ (60 : Int) := (ob_109 f44)
                  have f51 : (44 : Int) ≤ p0.toInt := (ob_110 f44)
                  refine lv_iconst (v := 1) hx hb dX9_isSign_66 (by decide) ?_
                  refine lv_goto (tgt := 71) hx hb dX9_isSign_67 (by decide) ?_
                  rw [hQ]
                  exact W.zret (v := 1) hx hb hr (by decide) (fun t ht hW => ⟨⟨1, 1, rfl, rfl, ⟨(ob_14 zc_1), (ob_15 zc_1)⟩⟩, hS.F ht⟩) hS.2.2 dX9_isSign_71
                · skip
                  have f52 : p0.toInt ≠ 45 := qi_ne c_43 rfl zc_45
                  refine lv_iload_n hx hb dX9_isSign_48 rfl (lv_at hl 0 rfl) ?_
                  refine lv_bipush (v := 42) hx hb dX9_isSign_49 (by decide) ?_
                  refine lv_icmp_eq (tgt := 66) hx hb dX9_isSign_51 (by decide) (fun c_53 => ?_) (fun c_53 => ?_)
                  · skip
                    have f54 : p0.toInt = 42 := qi_eq c_53 rfl zc_42
                    have f55 : p0.toInt ≤ (58 : Int) := (ob_111 f54)
                    have f56 : (41 : Int) ≤ p0.toInt := (ob_112 f54 f55)
                    have f57 : (42 : Int) ≤ p0.toInt := (ob_113 f54 f55 f56)
                    have f58 : p0.toInt ≤ (59 : Int) := (ob_114 f54)
                    have f59 : p0.toInt ≤ (61 : Int) := (ob_115 f54)
                    have f60 : p0.toInt ≤ (60 : Int) := (ob_116 f54)
                    have f61 : p0.toInt ≤ (42 : Int) := (ob_117 f54)
                    have f62 : p0.toInt ≤ (44 : Int) := (ob_118 f54)
                    refine lv_iconst (v := 1) hx hb dX9_isSign_66 (by decide) ?_
                    refine lv_goto (tgt := 71) hx hb dX9_isSign_67 (by decide) ?_
                    rw [hQ]
                    exact W.zret (v := 1) hx hb hr (by decide) (fun t ht hW => ⟨⟨1, 1, rfl, rfl, ⟨(ob_14 zc_1), (ob_15 zc_1)⟩⟩, hS.F ht⟩) hS.2.2 dX9_isSign_71
                  · skip
                    have f63 : p0.toInt ≠ 42 := qi_ne c_53 rfl zc_42
                    refine lv_iload_n hx hb dX9_isSign_54 rfl (lv_at hl 0 rfl) ?_
                    refine lv_bipush (v := 47) hx hb dX9_isSign_55 (by decide) ?_
                    refine lv_icmp_eq (tgt := 66) hx hb dX9_isSign_57 (by decide) (fun c_64 => ?_) (fun c_64 => ?_)
                    · skip
                      have f65 : p0.toInt = 47 := qi_eq c_64 rfl zc_47
                      have f66 : p0.toInt ≤ (58 : Int) := (ob_119 f65)
                      have f67 : (41 : Int) ≤ p0.toInt := (ob_120 f65 f66)
                      have f68 : (42 : Int) ≤ p0.toInt := (ob_121 f65 f66 f67)
                      have f69 : p0.toInt ≤ (59 : Int) := (ob_122 f65)
                      have f70 : p0.toInt ≤ (61 : Int) := (ob_123 f65)
                      have f71 : p0.toInt ≤ (60 : Int) := (ob_124 f65)
                      have f72 : (44 : Int) ≤ p0.toInt := (ob_125 f65)
                      have f73 : (46 : Int) ≤ p0.toInt := (ob_126 f65)
                      have f74 : (43 : Int) ≤ p0.toInt := (ob_127 f65)
                      refine lv_iconst (v := 1) hx hb dX9_isSign_66 (by decide) ?_
                      refine lv_goto (tgt := 71) hx hb dX9_isSign_67 (by decide) ?_
                      rw [hQ]
                      exact W.zret (v := 1) hx hb hr (by decide) (fun t ht hW => ⟨⟨1, 1, rfl, rfl, ⟨(ob_14 zc_1), (ob_15 zc_1)⟩⟩, hS.F ht⟩) hS.2.2 dX9_isSign_71
                    · skip
                      have f75 : p0.toInt ≠ 47 := qi_ne c_64 rfl zc_47
                      refine lv_iload_n hx hb dX9_isSign_60 rfl (lv_at hl 0 rfl) ?_
                      refine lv_bipush (v := 37) hx hb dX9_isSign_61 (by decide) ?_
                      refine lv_icmp_ne (tgt := 70) hx hb dX9_isSign_63 (by decide) (fun c_76 => ?_) (fun c_76 => ?_)
                      · skip
                        have f77 : p0.toInt ≠ 37 := qi_ne c_76 rfl zc_37
                        refine lv_iconst (v := 0) hx hb dX9_isSign_70 (by decide) ?_
                        rw [hQ]
                        exact W.zret (v := 0) hx hb hr (by decide) (fun t ht hW => ⟨⟨0, 0, rfl, rfl, ⟨(ob_1 zc_0), (ob_11 zc_0)⟩⟩, hS.F ht⟩) hS.2.2 dX9_isSign_71
                      · skip
                        have f78 : p0.toInt = 37 := qi_eq c_76 rfl zc_37
                        have f79 : p0.toInt ≤ (58 : Int) := (ob_128 f78)
                        have f80 : p0.toInt ≤ (39 : Int) := (ob_129 f78 f79)
                        have f81 : p0.toInt ≤ (40 : Int) := (ob_130 f78 f79 f80)
                        have f82 : p0.toInt ≤ (59 : Int) := (ob_131 f78)
                        have f83 : p0.toInt ≤ (61 : Int) := (ob_132 f78)
                        have f84 : p0.toInt ≤ (60 : Int) := (ob_133 f78)
                        have f85 : p0.toInt ≤ (42 : Int) := (ob_134 f78)
                        have f86 : p0.toInt ≤ (44 : Int) := (ob_135 f78)
                        have f87 : p0.toInt ≤ (41 : Int) := (ob_136 f78)
                        have f88 : p0.toInt ≤ (46 : Int) := (ob_137 f78)
                        refine lv_iconst (v := 1) hx hb dX9_isSign_66 (by decide) ?_
                        refine lv_goto (tgt := 71) hx hb dX9_isSign_67 (by decide) ?_
                        rw [hQ]
                        exact W.zret (v := 1) hx hb hr (by decide) (fun t ht hW => ⟨⟨1, 1, rfl, rfl, ⟨(ob_14 zc_1), (ob_15 zc_1)⟩⟩, hS.F ht⟩) hS.2.2 dX9_isSign_71
set_option maxHeartbeats 4000000 in
set_option maxRecDepth 100000 in
theorem kX9_goOn (l : Launch) (dC : Nat → ClassId) (dI : Nat → Nat → Nat) (r : Nat → Nat) (ct : Nat → ClassId) (i_taped i_size i_faultKind i_at i_end i_token i_number i_bank i_rb i_codes i_within i_piled i_unitsInRule i_askHouse i_askTune i_acts i_undone i_laid i_knowns i_time : Int32) (f_text f_tunes f_houses f_hums f_told f_many f_ruleFrom f_ruleTo f_code f_eWhat f_eSign f_all f_kept f_was f_sTune f_boxAll : Nat → Int32) (J : Nat → Nat → Int32) (L : Nat → Nat → Int64) (sz : Nat) (hI : (IM i_taped i_size i_faultKind i_at i_end i_bank i_rb i_acts i_undone i_laid i_knowns i_time f_tunes f_houses f_hums f_told f_many f_ruleFrom f_ruleTo f_code f_all f_kept f_was f_sTune f_boxAll)) : Met l yX9_goOn (.code yX9_goOn cX9_goOn 3 none :: GW) { frames := 4, cells := 0, slots := 0, locals := 162 } (va_Pc [.ref (r 0)] (pW (dC, dI) (WM r ct i_taped i_size i_faultKind i_at i_end i_token i_number i_bank i_rb i_codes i_within i_piled i_unitsInRule i_askHouse i_askTune i_acts i_undone i_laid i_knowns i_time f_text f_tunes f_houses f_hums f_told f_many f_ruleFrom f_ruleTo f_code f_eWhat f_eSign f_all f_kept f_was f_sTune f_boxAll J L) (TM ct) sz)) (va_Qv (fun _ : Unit => True) (fun (_ : Unit) (t : State) => ∃ (n_i_at n_i_end n_i_token n_i_number : Int32) (n_L : Nat → Nat → Int64), va_P (dC, dI) vwCl (WM r ct i_taped i_size i_faultKind n_i_at n_i_end n_i_token n_i_number i_bank i_rb i_codes i_within i_piled i_unitsInRule i_askHouse i_askTune i_acts i_undone i_laid i_knowns i_time f_text f_tunes f_houses f_hums f_told f_many f_ruleFrom f_ruleTo f_code f_eWhat f_eSign f_all f_kept f_was f_sTune f_boxAll J n_L) t.heap ∧ va_D (va_A (WM r ct i_taped i_size i_faultKind i_at i_end i_token i_number i_bank i_rb i_codes i_within i_piled i_unitsInRule i_askHouse i_askTune i_acts i_undone i_laid i_knowns i_time f_text f_tunes f_houses f_hums f_told f_many f_ruleFrom f_ruleTo f_code f_eWhat f_eSign f_all f_kept f_was f_sTune f_boxAll J L) sz) (WM r ct i_taped i_size i_faultKind n_i_at n_i_end n_i_token n_i_number i_bank i_rb i_codes i_within i_piled i_unitsInRule i_askHouse i_askTune i_acts i_undone i_laid i_knowns i_time f_text f_tunes f_houses f_hums f_told f_many f_ruleFrom f_ruleTo f_code f_eWhat f_eSign f_all f_kept f_was f_sTune f_boxAll J n_L) ∧ (IM i_taped i_size i_faultKind n_i_at n_i_end i_bank i_rb i_acts i_undone i_laid i_knowns i_time f_tunes f_houses f_hums f_told f_many f_ruleFrom f_ruleTo f_code f_all f_kept f_was f_sTune f_boxAll) ∧ (i_end.toInt ≤ n_i_end.toInt) ∧ (n_i_at.toInt ≤ n_i_end.toInt) ∧ ((n_i_token.toInt = (0 : Int)) ∨ (i_end.toInt + 1 ≤ n_i_end.toInt))) (va_A (WM r ct i_taped i_size i_faultKind i_at i_end i_token i_number i_bank i_rb i_codes i_within i_piled i_unitsInRule i_askHouse i_askTune i_acts i_undone i_laid i_knowns i_time f_text f_tunes f_houses f_hums f_told f_many f_ruleFrom f_ruleTo f_code f_eWhat f_eSign f_all f_kept f_was f_sTune f_boxAll J L) sz)) 0 0 (va_A (WM r ct i_taped i_size i_faultKind i_at i_end i_token i_number i_bank i_rb i_codes i_within i_piled i_unitsInRule i_askHouse i_askTune i_acts i_undone i_laid i_knowns i_time f_text f_tunes f_houses f_hums f_told f_many f_ruleFrom f_ruleTo f_code f_eWhat f_eSign f_all f_kept f_was f_sTune f_boxAll J L) sz) := by
  refine Met.ofW (cc := cX9_goOn) (maxL := 3) (ret := none) (by decide) rfl ?_
  intro p e s m args below meth c0 s₁ B hml hv
  obtain ⟨rfl, hsz, hP, hK, hD0⟩ := hv
  have hx := B.exec
  have hb := B.bytes
  have hr := B.returns
  have hts := atoms_spec (ws := .code yX9_goOn cX9_goOn 3 none :: GW) B.pre
  have hG : ∀ w ∈ GW, w.before _ s = true := fun w h => hts w (List.mem_cons_of_mem _ h)
  have hown : s.vm.findClass RX9 = some m.cls := findClass_of_methodNamed B.named
  subst hsz
  have hD := hD0.self (sz := s.heap.size)
  generalize hAe : va_A (WM r ct i_taped i_size i_faultKind i_at i_end i_token i_number i_bank i_rb i_codes i_within i_piled i_unitsInRule i_askHouse i_askTune i_acts i_undone i_laid i_knowns i_time f_text f_tunes f_houses f_hums f_told f_many f_ruleFrom f_ruleTo f_code f_eWhat f_eSign f_all f_kept f_was f_sTune f_boxAll J L) s.heap.size = A at hD ⊢
  have hA : ∀ q : Nat, s.heap.size ≤ q → A q := fun q h => by rw [← hAe]; exact Or.inr h
  have hS : va_S A s.heap s.heap [] := va_S.rf
  have hP : va_P (dC, dI) vwCl (WM r ct i_taped i_size i_faultKind i_at i_end i_token i_number i_bank i_rb i_codes i_within i_piled i_unitsInRule i_askHouse i_askTune i_acts i_undone i_laid i_knowns i_time f_text f_tunes f_houses f_hums f_told f_many f_ruleFrom f_ruleTo f_code f_eWhat f_eSign f_all f_kept f_was f_sTune f_boxAll J L) s.heap := hP
  have hl := lv_entry ([.ref (r 0)]) (n := 3) (Nat.le_of_ble_eq_true rfl)
  rw [lg_entry_eq]
  generalize (lg_sl ([.ref (r 0)]) ++ List.replicate (3 - (lg_sl ([.ref (r 0)])).length) Slot.unset).toArray = ls at hl ⊢
  have hl : lv_has ls 3 [(0, .ref (r 0))] := hl
  refine nameQ (fun Q hQ => ?_)
  obtain ⟨ie0, ie1, ie2, ie3, ie4, ie5, ie6, ie7, ie8, ie9, ie10, ie11, ie12, ie13, ie14, ie15, ie16, ie17, ie18, ie19, ie20, ie21, ie22, ie23, ie24, ie25, ie26, ie27, ie28, ie29, ie30, ie31, ie32⟩ := id hI
  have f1 : 0 ≤ (f_tunes (i_bank.toInt).toNat).toInt ∧ (f_tunes (i_bank.toInt).toNat).toInt ≤ 5 := ie21 (i_bank.toInt)
  have f2 : 0 ≤ (f_houses (i_bank.toInt).toNat).toInt ∧ (f_houses (i_bank.toInt).toNat).toInt ≤ 4 := ie22 (i_bank.toInt)
  refine lv_aload_n hx hb dX9_goOn_0 rfl (lv_at hl 0 rfl) ?_
  refine lv_aload_n hx hb dX9_goOn_1 rfl (lv_at hl 0 rfl) ?_
  refine gM_X9_181_0 hx hb hG hown hK hP dX9_goOn_2 ?_
  refine pM_X9_184_0 hx hb hG hown hK hP hD hS dX9_goOn_5 (fun H3 locs hP hD hS => ?_)
  have L8 : ∀ (N8 : Nat) (m8_i_at : Int32) (H8 : Heap) (locs : List Loc) (ls : Array Slot) (g8_0 : (0 : Int) ≤ m8_i_at.toInt) (g8_1 : m8_i_at.toInt ≤ (1600 : Int)) (g8_2 : i_end.toInt ≤ m8_i_at.toInt) (g8_3 : m8_i_at.toInt ≤ i_size.toInt) (gi8_at_lo : (0 : Int) ≤ m8_i_at.toInt) (hP : va_P (dC, dI) vwCl (WM r ct i_taped i_size i_faultKind m8_i_at i_end i_token i_number i_bank i_rb i_codes i_within i_piled i_unitsInRule i_askHouse i_askTune i_acts i_undone i_laid i_knowns i_time f_text f_tunes f_houses f_hums f_told f_many f_ruleFrom f_ruleTo f_code f_eWhat f_eSign f_all f_kept f_was f_sTune f_boxAll J L) H8) (hD : va_D A (WM r ct i_taped i_size i_faultKind m8_i_at i_end i_token i_number i_bank i_rb i_codes i_within i_piled i_unitsInRule i_askHouse i_askTune i_acts i_undone i_laid i_knowns i_time f_text f_tunes f_houses f_hums f_told f_many f_ruleFrom f_ruleTo f_code f_eWhat f_eSign f_all f_kept f_was f_sTune f_boxAll J L)) (hS : va_S A s.heap H8 locs) (hl : lv_has ls 3 [(0, .ref (r 0))]) (hM : i_size.toInt + -1 * m8_i_at.toInt < (N8 : Int)), W p l e { frames := 4, cells := 0, slots := 0, locals := 162 } s m ([.ref (r 0)] : List Value).toArray below meth c0 H8 locs 0 0 Q (F0 m 8 ls []) := by
    intro N8
    induction N8 with
    | zero =>
      intro m8_i_at H8 locs ls g8_0 g8_1 g8_2 g8_3 gi8_at_lo hP hD hS hl hM
      exact ((ob_138 hM g8_3)).elim
    | succ N8 ih8 =>
      intro m8_i_at H8 locs ls g8_0 g8_1 g8_2 g8_3 gi8_at_lo hP hD hS hl hM
      have hM8 := msucc hM
      refine lv_aload_n hx hb dX9_goOn_8 rfl (lv_at hl 0 rfl) ?_
      refine gM_X9_184_0 hx hb hG hown hK hP dX9_goOn_9 ?_
      refine lv_aload_n hx hb dX9_goOn_12 rfl (lv_at hl 0 rfl) ?_
      refine gM_X9_137_0 hx hb hG hown hK hP dX9_goOn_13 ?_
      refine lv_icmp_ge (tgt := 58) hx hb dX9_goOn_16 (by decide) (fun c_4 => ?_) (fun c_4 => ?_)
      · skip
        have f5 : i_size.toInt ≤ m8_i_at.toInt := qi_le c_4 rfl rfl
        refine lv_aload_n hx hb dX9_goOn_58 rfl (lv_at hl 0 rfl) ?_
        refine lv_aload_n hx hb dX9_goOn_59 rfl (lv_at hl 0 rfl) ?_
        refine gM_X9_184_0 hx hb hG hown hK hP dX9_goOn_60 ?_
        refine va_calli (va_runV (As := [.int m8_i_at]) (rest := []) ⟨hx, hb, hml, hown, hG⟩ (kX9_sign l dC dI r ct i_taped i_size i_faultKind m8_i_at i_end i_token i_number i_bank i_rb i_codes i_within i_piled i_unitsInRule i_askHouse i_askTune i_acts i_undone i_laid i_knowns i_time f_text f_tunes f_houses f_hums f_told f_many f_ruleFrom f_ruleTo f_code f_eWhat f_eSign f_all f_kept f_was f_sTune f_boxAll J L m8_i_at H8.size ⟨ie0, ie1, ie2, ie3, ie4, ie5, ie6, ie7, ie8, ie9, ie10, ie11, ie12, ie13, ie14, ie15, gi8_at_lo, ie17, ie18, ie19, ie20, ie21, ie22, ie23, ie24, ie25, ie26, ie27, ie28, ie29, ie30, ie31, ie32⟩ (ob_139 g8_0)) (cwV 1 hG (goodV gw1366 gw1368 gw60 gw138 gw1369) rfl rfl rfl hd_X9_sign ⟨(Nat.le_of_ble_eq_true rfl), (Nat.le_of_ble_eq_true rfl)⟩) ⟨fbR, va_recv hK hP (ci := 8) (q0 := 0) rfl rfl, pR_in hP hK⟩ rfl rfl hl.1 rfl (lv_room (Nat.le_of_ble_eq_true rfl)) dX9_goOn_63 ⟨(Nat.le_of_ble_eq_true rfl), (Nat.le_of_ble_eq_true rfl)⟩) hS (fun q hq h => absurd hq (Nat.not_lt.mpr h)) (fun q h => hA q (Nat.le_trans hS.1 h)) (fun r_7 u_ t_ H6 locs ht hvm hw hB hz1 hk1 hS => ?_)
        subst hw
        have hP := wk hP hk1
        obtain ⟨f8, f9, f10, f11⟩ := hB
        have f12 : r_7.toInt = (sgz f_text i_size.toInt m8_i_at.toInt) := (ob_6 f8)
        refine lv_istore_n (lv' := [(1, .int r_7), (0, .ref (r 0))]) hx hb dX9_goOn_66 rfl hl (by decide) rfl (fun ls hl => ?_)
        refine lv_aload_n hx hb dX9_goOn_67 rfl (lv_at hl 1 rfl) ?_
        refine lv_aload_n hx hb dX9_goOn_68 rfl (lv_at hl 1 rfl) ?_
        refine gM_X9_184_0 hx hb hG hown hK hP dX9_goOn_69 ?_
        refine lv_iconst (v := 1) hx hb dX9_goOn_72 (by decide) ?_
        refine lv_iadd hx hb dX9_goOn_73 ?_
        refine lv_topi (fun x13 ex13 => ?_)
        have f14 : x13.toInt = m8_i_at.toInt + 1 := (ob_142 (qi_add ex13 rfl zc_1 (ob_140 g8_0) (ob_141 g8_1)))
        refine pM_X9_181_0 hx hb hG hown hK hP hD hS dX9_goOn_74 (fun H15 locs hP hD hS => ?_)
        refine lv_aload_n hx hb dX9_goOn_77 rfl (lv_at hl 1 rfl) ?_
        refine gM_X9_184_0 hx hb hG hown hK hP dX9_goOn_78 ?_
        refine lv_aload_n hx hb dX9_goOn_81 rfl (lv_at hl 1 rfl) ?_
        refine gM_X9_137_0 hx hb hG hown hK hP dX9_goOn_82 ?_
        refine lv_icmp_lt (tgt := 112) hx hb dX9_goOn_85 (by decide) (fun c_16 => ((ob_143 (qi_lt c_16 rfl rfl) f5)).elim) (fun c_16 => ?_)
        have f17 : i_size.toInt ≤ m8_i_at.toInt := qi_nlt c_16 rfl rfl
        have f18 : (sgz f_text i_size.toInt m8_i_at.toInt) = (0 : Int) := (ob_144 f5 f11)
        refine lv_aload_n hx hb dX9_goOn_88 rfl (lv_at hl 1 rfl) ?_
        refine lv_iconst (v := 0) hx hb dX9_goOn_89 (by decide) ?_
        refine pM_X9_191_0 hx hb hG hown hK hP hD hS dX9_goOn_90 (fun H19 locs hP hD hS => ?_)
        refine lv_aload_n hx hb dX9_goOn_93 rfl (lv_at hl 1 rfl) ?_
        refine lv_aload_n hx hb dX9_goOn_94 rfl (lv_at hl 1 rfl) ?_
        refine gM_X9_137_0 hx hb hG hown hK hP dX9_goOn_95 ?_
        refine pM_X9_184_0 hx hb hG hown hK hP hD hS dX9_goOn_98 (fun H20 locs hP hD hS => ?_)
        refine lv_aload_n hx hb dX9_goOn_101 rfl (lv_at hl 1 rfl) ?_
        refine lv_aload_n hx hb dX9_goOn_102 rfl (lv_at hl 1 rfl) ?_
        refine gM_X9_137_0 hx hb hG hown hK hP dX9_goOn_103 ?_
        refine pM_X9_181_0 hx hb hG hown hK hP hD hS dX9_goOn_106 (fun H21 locs hP hD hS => ?_)
        refine lv_goto (tgt := 377) hx hb dX9_goOn_109 (by decide) ?_
        rw [hQ]
        exact W.vret hx hb hr (fun t ht hW => ⟨⟨(), rfl, trivial, ⟨i_size, i_size, 0, i_number, L, by rw [ht]; exact hP, hD, ⟨ie0, ie1, ie2, ie3, ie4, ie5, ie6, ie7, ie8, ie9, ie10, ie11, ie12, ie13, (ob_139 ie2), (ob_146), (ob_139 ie2), ie17, ie18, ie19, ie20, ie21, ie22, ie23, ie24, ie25, ie26, ie27, ie28, ie29, ie30, ie31, ie32⟩, (ob_145 ie15), (ob_146), (ob_147 zc_0)⟩⟩, hS.F ht⟩) hS.2.2 dX9_goOn_377
      · skip
        have f22 : m8_i_at.toInt < i_size.toInt := qi_nle c_4 rfl rfl
        refine lv_aload_n hx hb dX9_goOn_19 rfl (lv_at hl 0 rfl) ?_
        refine lv_aload_n hx hb dX9_goOn_20 rfl (lv_at hl 0 rfl) ?_
        refine gM_X9_184_0 hx hb hG hown hK hP dX9_goOn_21 ?_
        refine va_calli (va_runV (As := [.int m8_i_at]) (rest := []) ⟨hx, hb, hml, hown, hG⟩ (kX9_sign l dC dI r ct i_taped i_size i_faultKind m8_i_at i_end i_token i_number i_bank i_rb i_codes i_within i_piled i_unitsInRule i_askHouse i_askTune i_acts i_undone i_laid i_knowns i_time f_text f_tunes f_houses f_hums f_told f_many f_ruleFrom f_ruleTo f_code f_eWhat f_eSign f_all f_kept f_was f_sTune f_boxAll J L m8_i_at H8.size ⟨ie0, ie1, ie2, ie3, ie4, ie5, ie6, ie7, ie8, ie9, ie10, ie11, ie12, ie13, ie14, ie15, gi8_at_lo, ie17, ie18, ie19, ie20, ie21, ie22, ie23, ie24, ie25, ie26, ie27, ie28, ie29, ie30, ie31, ie32⟩ (ob_139 g8_0)) (cwV 1 hG (goodV gw1366 gw1368 gw60 gw138 gw1369) rfl rfl rfl hd_X9_sign ⟨(Nat.le_of_ble_eq_true rfl), (Nat.le_of_ble_eq_true rfl)⟩) ⟨fbR, va_recv hK hP (ci := 8) (q0 := 0) rfl rfl, pR_in hP hK⟩ rfl rfl hl.1 rfl (lv_room (Nat.le_of_ble_eq_true rfl)) dX9_goOn_24 ⟨(Nat.le_of_ble_eq_true rfl), (Nat.le_of_ble_eq_true rfl)⟩) hS (fun q hq h => absurd hq (Nat.not_lt.mpr h)) (fun q h => hA q (Nat.le_trans hS.1 h)) (fun r_24 u_ t_ H23 locs ht hvm hw hB hz1 hk1 hS => ?_)
        subst hw
        have hP := wk hP hk1
        obtain ⟨f25, f26, f27, f28⟩ := hB
        have f29 : r_24.toInt = (sgz f_text i_size.toInt m8_i_at.toInt) := (ob_6 f25)
        refine lv_bipush (v := 32) hx hb dX9_goOn_27 (by decide) ?_
        refine lv_icmp_eq (tgt := 45) hx hb dX9_goOn_29 (by decide) (fun c_30 => ?_) (fun c_30 => ?_)
        · skip
          have f31 : r_24.toInt = 32 := qi_eq c_30 rfl zc_32
          have f32 : m8_i_at.toInt + 1 ≤ i_size.toInt := (ob_148 f22)
          refine lv_aload_n hx hb dX9_goOn_45 rfl (lv_at hl 0 rfl) ?_
          refine lv_dup hx hb dX9_goOn_46 rfl ?_
          refine gM_X9_184_0 hx hb hG hown hK hP dX9_goOn_47 ?_
          refine lv_iconst (v := 1) hx hb dX9_goOn_50 (by decide) ?_
          refine lv_iadd hx hb dX9_goOn_51 ?_
          refine lv_topi (fun x33 ex33 => ?_)
          have f34 : x33.toInt = m8_i_at.toInt + 1 := (ob_142 (qi_add ex33 rfl zc_1 (ob_140 g8_0) (ob_141 g8_1)))
          refine pM_X9_184_0 hx hb hG hown hK hP hD hS dX9_goOn_52 (fun H35 locs hP hD hS => ?_)
          refine lv_goto (tgt := 8) hx hb dX9_goOn_55 (by decide) ?_
          exact ih8 x33 H35 _ _ (ob_149 g8_0 f34) (ob_150 ie3 f22 f34) (ob_151 g8_2 f34) (ob_152 f22 f34) (ob_149 g8_0 f34) hP hD hS (lv_sub hl [0] rfl) (ob_153 hM8 f34)
        · skip
          have f36 : r_24.toInt ≠ 32 := qi_ne c_30 rfl zc_32
          refine lv_aload_n hx hb dX9_goOn_32 rfl (lv_at hl 0 rfl) ?_
          refine lv_aload_n hx hb dX9_goOn_33 rfl (lv_at hl 0 rfl) ?_
          refine gM_X9_184_0 hx hb hG hown hK hP dX9_goOn_34 ?_
          refine va_calli (va_runV (As := [.int m8_i_at]) (rest := []) ⟨hx, hb, hml, hown, hG⟩ (kX9_sign l dC dI r ct i_taped i_size i_faultKind m8_i_at i_end i_token i_number i_bank i_rb i_codes i_within i_piled i_unitsInRule i_askHouse i_askTune i_acts i_undone i_laid i_knowns i_time f_text f_tunes f_houses f_hums f_told f_many f_ruleFrom f_ruleTo f_code f_eWhat f_eSign f_all f_kept f_was f_sTune f_boxAll J L m8_i_at H23.size ⟨ie0, ie1, ie2, ie3, ie4, ie5, ie6, ie7, ie8, ie9, ie10, ie11, ie12, ie13, ie14, ie15, gi8_at_lo, ie17, ie18, ie19, ie20, ie21, ie22, ie23, ie24, ie25, ie26, ie27, ie28, ie29, ie30, ie31, ie32⟩ (ob_139 g8_0)) (cwV 1 hG (goodV gw1366 gw1368 gw60 gw138 gw1369) rfl rfl rfl hd_X9_sign ⟨(Nat.le_of_ble_eq_true rfl), (Nat.le_of_ble_eq_true rfl)⟩) ⟨fbR, va_recv hK hP (ci := 8) (q0 := 0) rfl rfl, pR_in hP hK⟩ rfl rfl hl.1 rfl (lv_room (Nat.le_of_ble_eq_true rfl)) dX9_goOn_37 ⟨(Nat.le_of_ble_eq_true rfl), (Nat.le_of_ble_eq_true rfl)⟩) hS (fun q hq h => absurd hq (Nat.not_lt.mpr h)) (fun q h => hA q (Nat.le_trans hS.1 h)) (fun r_38 u_ t_ H37 locs ht hvm hw hB hz1 hk1 hS => ?_)
          subst hw
          have hP := wk hP hk1
          obtain ⟨f39, f40, f41, f42⟩ := hB
          have f43 : r_38.toInt = (sgz f_text i_size.toInt m8_i_at.toInt) := (ob_6 f39)
          refine lv_bipush (v := 10) hx hb dX9_goOn_40 (by decide) ?_
          refine lv_icmp_ne (tgt := 58) hx hb dX9_goOn_42 (by decide) (fun c_44 => ?_) (fun c_44 => ?_)
          · skip
            have f45 : r_38.toInt ≠ 10 := qi_ne c_44 rfl zc_10
            refine lv_aload_n hx hb dX9_goOn_58 rfl (lv_at hl 0 rfl) ?_
            refine lv_aload_n hx hb dX9_goOn_59 rfl (lv_at hl 0 rfl) ?_
            refine gM_X9_184_0 hx hb hG hown hK hP dX9_goOn_60 ?_
            refine va_calli (va_runV (As := [.int m8_i_at]) (rest := []) ⟨hx, hb, hml, hown, hG⟩ (kX9_sign l dC dI r ct i_taped i_size i_faultKind m8_i_at i_end i_token i_number i_bank i_rb i_codes i_within i_piled i_unitsInRule i_askHouse i_askTune i_acts i_undone i_laid i_knowns i_time f_text f_tunes f_houses f_hums f_told f_many f_ruleFrom f_ruleTo f_code f_eWhat f_eSign f_all f_kept f_was f_sTune f_boxAll J L m8_i_at H37.size ⟨ie0, ie1, ie2, ie3, ie4, ie5, ie6, ie7, ie8, ie9, ie10, ie11, ie12, ie13, ie14, ie15, gi8_at_lo, ie17, ie18, ie19, ie20, ie21, ie22, ie23, ie24, ie25, ie26, ie27, ie28, ie29, ie30, ie31, ie32⟩ (ob_139 g8_0)) (cwV 1 hG (goodV gw1366 gw1368 gw60 gw138 gw1369) rfl rfl rfl hd_X9_sign ⟨(Nat.le_of_ble_eq_true rfl), (Nat.le_of_ble_eq_true rfl)⟩) ⟨fbR, va_recv hK hP (ci := 8) (q0 := 0) rfl rfl, pR_in hP hK⟩ rfl rfl hl.1 rfl (lv_room (Nat.le_of_ble_eq_true rfl)) dX9_goOn_63 ⟨(Nat.le_of_ble_eq_true rfl), (Nat.le_of_ble_eq_true rfl)⟩) hS (fun q hq h => absurd hq (Nat.not_lt.mpr h)) (fun q h => hA q (Nat.le_trans hS.1 h)) (fun r_47 u_ t_ H46 locs ht hvm hw hB hz1 hk1 hS => ?_)
            subst hw
            have hP := wk hP hk1
            obtain ⟨f48, f49, f50, f51⟩ := hB
            have f52 : r_47.toInt = (sgz f_text i_size.toInt m8_i_at.toInt) := (ob_6 f48)
            refine lv_istore_n (lv' := [(1, .int r_47), (0, .ref (r 0))]) hx hb dX9_goOn_66 rfl hl (by decide) rfl (fun ls hl => ?_)
            refine lv_aload_n hx hb dX9_goOn_67 rfl (lv_at hl 1 rfl) ?_
            refine lv_aload_n hx hb dX9_goOn_68 rfl (lv_at hl 1 rfl) ?_
            refine gM_X9_184_0 hx hb hG hown hK hP dX9_goOn_69 ?_
            refine lv_iconst (v := 1) hx hb dX9_goOn_72 (by decide) ?_
            refine lv_iadd hx hb dX9_goOn_73 ?_
            refine lv_topi (fun x53 ex53 => ?_)
            have f54 : x53.toInt = m8_i_at.toInt + 1 := (ob_142 (qi_add ex53 rfl zc_1 (ob_140 g8_0) (ob_141 g8_1)))
            refine pM_X9_181_0 hx hb hG hown hK hP hD hS dX9_goOn_74 (fun H55 locs hP hD hS => ?_)
            refine lv_aload_n hx hb dX9_goOn_77 rfl (lv_at hl 1 rfl) ?_
            refine gM_X9_184_0 hx hb hG hown hK hP dX9_goOn_78 ?_
            refine lv_aload_n hx hb dX9_goOn_81 rfl (lv_at hl 1 rfl) ?_
            refine gM_X9_137_0 hx hb hG hown hK hP dX9_goOn_82 ?_
            refine lv_icmp_lt (tgt := 112) hx hb dX9_goOn_85 (by decide) (fun c_56 => ?_) (fun c_56 => ((ob_154 (qi_nlt c_56 rfl rfl) f22)).elim)
            have f57 : m8_i_at.toInt < i_size.toInt := qi_lt c_56 rfl rfl
            refine lv_iload_n hx hb dX9_goOn_112 rfl (lv_at hl 0 rfl) ?_
            refine va_calli (va_runS (As := [.int r_47]) (rest := []) ⟨hx, hb, hml, hown, hG⟩ (kX9_isLetter l dC dI r_47 H55.size) (va_cwS 1 hG (goodS gw1370 gw1371 gw138 gw1372) rfl rfl rfl hd_X9_isLetter ⟨(Nat.le_of_ble_eq_true rfl), (Nat.le_of_ble_eq_true rfl)⟩) ⟨fbR, pR_in emptyP (emptyK hK)⟩ rfl rfl hl.1 rfl (lv_room (Nat.le_of_ble_eq_true rfl)) dX9_goOn_113 ⟨(Nat.le_of_ble_eq_true rfl), (Nat.le_of_ble_eq_true rfl)⟩) hS (fun q hq h => absurd hq (Nat.not_lt.mpr h)) (fun q h => hA q (Nat.le_trans hS.1 h)) (fun r_59 u_ t_ H58 locs ht hvm hw hB hz1 hk1 hS => ?_)
            subst hw
            have hP := wk hP hk1
            obtain ⟨f60, f61, f62⟩ := hB
            refine lv_if_eq (tgt := 239) hx hb dX9_goOn_116 (by decide) (fun c_63 => ?_) (fun c_63 => ?_)
            · skip
              have f64 : r_59.toInt = 0 := qi_eq c_63 rfl zc_0
              refine lv_iload_n hx hb dX9_goOn_239 rfl (lv_at hl 0 rfl) ?_
              refine va_calli (va_runS (As := [.int r_47]) (rest := []) ⟨hx, hb, hml, hown, hG⟩ (kX9_isDigit l dC dI r_47 H58.size) (va_cwS 1 hG (goodS gw1395 gw1396 gw138 gw1397) rfl rfl rfl hd_X9_isDigit ⟨(Nat.le_of_ble_eq_true rfl), (Nat.le_of_ble_eq_true rfl)⟩) ⟨fbR, pR_in emptyP (emptyK hK)⟩ rfl rfl hl.1 rfl (lv_room (Nat.le_of_ble_eq_true rfl)) dX9_goOn_240 ⟨(Nat.le_of_ble_eq_true rfl), (Nat.le_of_ble_eq_true rfl)⟩) hS (fun q hq h => absurd hq (Nat.not_lt.mpr h)) (fun q h => hA q (Nat.le_trans hS.1 h)) (fun r_66 u_ t_ H65 locs ht hvm hw hB hz1 hk1 hS => ?_)
              subst hw
              have hP := wk hP hk1
              obtain ⟨f67, f68, f69⟩ := hB
              refine lv_if_eq (tgt := 361) hx hb dX9_goOn_243 (by decide) (fun c_70 => ?_) (fun c_70 => ?_)
              · skip
                have f71 : r_66.toInt = 0 := qi_eq c_70 rfl zc_0
                refine lv_aload_n hx hb dX9_goOn_361 rfl (lv_at hl 1 rfl) ?_
                refine lv_iload_n hx hb dX9_goOn_362 rfl (lv_at hl 0 rfl) ?_
                refine va_calli (va_runS (As := [.int r_47]) (rest := [.ref (r 0)]) ⟨hx, hb, hml, hown, hG⟩ (kX9_isSign l dC dI r_47 H65.size) (va_cwS 1 hG (goodS gw1398 gw1399 gw138 gw1400) rfl rfl rfl hd_X9_isSign ⟨(Nat.le_of_ble_eq_true rfl), (Nat.le_of_ble_eq_true rfl)⟩) ⟨fbR, pR_in emptyP (emptyK hK)⟩ rfl rfl hl.1 rfl (lv_room (Nat.le_of_ble_eq_true rfl)) dX9_goOn_363 ⟨(Nat.le_of_ble_eq_true rfl), (Nat.le_of_ble_eq_true rfl)⟩) hS (fun q hq h => absurd hq (Nat.not_lt.mpr h)) (fun q h => hA q (Nat.le_trans hS.1 h)) (fun r_73 u_ t_ H72 locs ht hvm hw hB hz1 hk1 hS => ?_)
                subst hw
                have hP := wk hP hk1
                obtain ⟨f74, f75⟩ := hB
                refine lv_if_eq (tgt := 373) hx hb dX9_goOn_366 (by decide) (fun c_76 => ?_) (fun c_76 => ?_)
                · skip
                  have f77 : r_73.toInt = 0 := qi_eq c_76 rfl zc_0
                  refine lv_iconst (v := 1) hx hb dX9_goOn_373 (by decide) ?_
                  refine pM_X9_191_0 hx hb hG hown hK hP hD hS dX9_goOn_374 (fun H78 locs hP hD hS => ?_)
                  rw [hQ]
                  exact W.vret hx hb hr (fun t ht hW => ⟨⟨(), rfl, trivial, ⟨m8_i_at, x53, 1, i_number, L, by rw [ht]; exact hP, hD, ⟨ie0, ie1, ie2, ie3, ie4, ie5, ie6, ie7, ie8, ie9, ie10, ie11, ie12, ie13, (ob_149 g8_0 f54), (ob_152 f22 f54), gi8_at_lo, ie17, ie18, ie19, ie20, ie21, ie22, ie23, ie24, ie25, ie26, ie27, ie28, ie29, ie30, ie31, ie32⟩, (ob_151 g8_2 f54), (ob_155 f54), (ob_156 g8_2 f54 zc_1)⟩⟩, hS.F ht⟩) hS.2.2 dX9_goOn_377
                · skip
                  have f79 : r_73.toInt ≠ 0 := qi_ne c_76 rfl zc_0
                  have f80 : (1 : Int) ≤ r_73.toInt := (ob_157 f74 f75 f79)
                  refine lv_iconst (v := 5) hx hb dX9_goOn_369 (by decide) ?_
                  refine lv_goto (tgt := 374) hx hb dX9_goOn_370 (by decide) ?_
                  refine pM_X9_191_0 hx hb hG hown hK hP hD hS dX9_goOn_374 (fun H81 locs hP hD hS => ?_)
                  rw [hQ]
                  exact W.vret hx hb hr (fun t ht hW => ⟨⟨(), rfl, trivial, ⟨m8_i_at, x53, 5, i_number, L, by rw [ht]; exact hP, hD, ⟨ie0, ie1, ie2, ie3, ie4, ie5, ie6, ie7, ie8, ie9, ie10, ie11, ie12, ie13, (ob_149 g8_0 f54), (ob_152 f22 f54), gi8_at_lo, ie17, ie18, ie19, ie20, ie21, ie22, ie23, ie24, ie25, ie26, ie27, ie28, ie29, ie30, ie31, ie32⟩, (ob_151 g8_2 f54), (ob_155 f54), (ob_158 g8_2 f54 zc_5)⟩⟩, hS.F ht⟩) hS.2.2 dX9_goOn_377
              · skip
                have f82 : r_66.toInt ≠ 0 := qi_ne c_70 rfl zc_0
                have f83 : (48 : Int) ≤ (sgz f_text i_size.toInt m8_i_at.toInt) := (ob_159 f67 f82 f52)
                have f84 : (sgz f_text i_size.toInt m8_i_at.toInt) ≤ (57 : Int) := (ob_160 f67 f82 f52)
                have f85 : r_66.toInt = (1 : Int) := (ob_161 f67 f82 f52)
                have f86 : (1 : Int) ≤ r_66.toInt := (ob_162 f68 f69 f85)
                refine lv_aload_n hx hb dX9_goOn_246 rfl (lv_at hl 1 rfl) ?_
                refine lv_iconst (v := 0) hx hb dX9_goOn_247 (by decide) ?_
                refine pM_X9_209_0 hx hb hG hown hK hP hD hS dX9_goOn_248 (fun H87 locs hP hD hS => ?_)
                refine lv_aload_n hx hb dX9_goOn_251 rfl (lv_at hl 1 rfl) ?_
                refine lv_aload_n hx hb dX9_goOn_252 rfl (lv_at hl 1 rfl) ?_
                refine gM_X9_184_0 hx hb hG hown hK hP dX9_goOn_253 ?_
                refine pM_X9_181_0 hx hb hG hown hK hP hD hS dX9_goOn_256 (fun H88 locs hP hD hS => ?_)
                have L259 : ∀ (N259 : Nat) (m259_i_end m259_i_number : Int32) (H259 : Heap) (locs : List Loc) (ls : Array Slot) (g259_0 : (0 : Int) ≤ m259_i_end.toInt) (g259_1 : m259_i_end.toInt ≤ (1600 : Int)) (g259_2 : m8_i_at.toInt ≤ m259_i_end.toInt) (g259_3 : m259_i_end.toInt ≤ i_size.toInt) (gi259_end_lo : (0 : Int) ≤ m259_i_end.toInt) (gi259_end_hi : m259_i_end.toInt ≤ i_size.toInt) (hP : va_P (dC, dI) vwCl (WM r ct i_taped i_size i_faultKind m8_i_at m259_i_end i_token m259_i_number i_bank i_rb i_codes i_within i_piled i_unitsInRule i_askHouse i_askTune i_acts i_undone i_laid i_knowns i_time f_text f_tunes f_houses f_hums f_told f_many f_ruleFrom f_ruleTo f_code f_eWhat f_eSign f_all f_kept f_was f_sTune f_boxAll J L) H259) (hD : va_D A (WM r ct i_taped i_size i_faultKind m8_i_at m259_i_end i_token m259_i_number i_bank i_rb i_codes i_within i_piled i_unitsInRule i_askHouse i_askTune i_acts i_undone i_laid i_knowns i_time f_text f_tunes f_houses f_hums f_told f_many f_ruleFrom f_ruleTo f_code f_eWhat f_eSign f_all f_kept f_was f_sTune f_boxAll J L)) (hS : va_S A s.heap H259 locs) (hl : lv_has ls 3 [(0, .ref (r 0)), (1, .int r_47)]) (hM : i_size.toInt + -1 * m259_i_end.toInt < (N259 : Int)), W p l e { frames := 4, cells := 0, slots := 0, locals := 162 } s m ([.ref (r 0)] : List Value).toArray below meth c0 H259 locs 0 0 Q (F0 m 259 ls []) := by
                  intro N259
                  induction N259 with
                  | zero =>
                    intro m259_i_end m259_i_number H259 locs ls g259_0 g259_1 g259_2 g259_3 gi259_end_lo gi259_end_hi hP hD hS hl hM
                    exact ((ob_138 hM g259_3)).elim
                  | succ N259 ih259 =>
                    intro m259_i_end m259_i_number H259 locs ls g259_0 g259_1 g259_2 g259_3 gi259_end_lo gi259_end_hi hP hD hS hl hM
                    have hM259 := msucc hM
                    refine lv_aload_n hx hb dX9_goOn_259 rfl (lv_at hl 0 rfl) ?_
                    refine lv_aload_n hx hb dX9_goOn_260 rfl (lv_at hl 0 rfl) ?_
                    refine gM_X9_181_0 hx hb hG hown hK hP dX9_goOn_261 ?_
                    refine va_calli (va_runV (As := [.int m259_i_end]) (rest := []) ⟨hx, hb, hml, hown, hG⟩ (kX9_sign l dC dI r ct i_taped i_size i_faultKind m8_i_at m259_i_end i_token m259_i_number i_bank i_rb i_codes i_within i_piled i_unitsInRule i_askHouse i_askTune i_acts i_undone i_laid i_knowns i_time f_text f_tunes f_houses f_hums f_told f_many f_ruleFrom f_ruleTo f_code f_eWhat f_eSign f_all f_kept f_was f_sTune f_boxAll J L m259_i_end H259.size ⟨ie0, ie1, ie2, ie3, ie4, ie5, ie6, ie7, ie8, ie9, ie10, ie11, ie12, ie13, gi259_end_lo, gi259_end_hi, gi8_at_lo, ie17, ie18, ie19, ie20, ie21, ie22, ie23, ie24, ie25, ie26, ie27, ie28, ie29, ie30, ie31, ie32⟩ (ob_139 g259_0)) (cwV 1 hG (goodV gw1366 gw1368 gw60 gw138 gw1369) rfl rfl rfl hd_X9_sign ⟨(Nat.le_of_ble_eq_true rfl), (Nat.le_of_ble_eq_true rfl)⟩) ⟨fbR, va_recv hK hP (ci := 8) (q0 := 0) rfl rfl, pR_in hP hK⟩ rfl rfl hl.1 rfl (lv_room (Nat.le_of_ble_eq_true rfl)) dX9_goOn_264 ⟨(Nat.le_of_ble_eq_true rfl), (Nat.le_of_ble_eq_true rfl)⟩) hS (fun q hq h => absurd hq (Nat.not_lt.mpr h)) (fun q h => hA q (Nat.le_trans hS.1 h)) (fun r_90 u_ t_ H89 locs ht hvm hw hB hz1 hk1 hS => ?_)
                    subst hw
                    have hP := wk hP hk1
                    obtain ⟨f91, f92, f93, f94⟩ := hB
                    have f95 : r_90.toInt = (sgz f_text i_size.toInt m259_i_end.toInt) := (ob_6 f91)
                    have f96 : m259_i_end.toInt = m8_i_at.toInt → (sgz f_text i_size.toInt m259_i_end.toInt) = (sgz f_text i_size.toInt m8_i_at.toInt) := (fun h => by rw [h])
                    refine va_calli (va_runS (As := [.int r_90]) (rest := []) ⟨hx, hb, hml, hown, hG⟩ (kX9_isDigit l dC dI r_90 H89.size) (va_cwS 1 hG (goodS gw1395 gw1396 gw138 gw1397) rfl rfl rfl hd_X9_isDigit ⟨(Nat.le_of_ble_eq_true rfl), (Nat.le_of_ble_eq_true rfl)⟩) ⟨fbR, pR_in emptyP (emptyK hK)⟩ rfl rfl hl.1 rfl (lv_room (Nat.le_of_ble_eq_true rfl)) dX9_goOn_267 ⟨(Nat.le_of_ble_eq_true rfl), (Nat.le_of_ble_eq_true rfl)⟩) hS (fun q hq h => absurd hq (Nat.not_lt.mpr h)) (fun q h => hA q (Nat.le_trans hS.1 h)) (fun r_98 u_ t_ H97 locs ht hvm hw hB hz1 hk1 hS => ?_)
                    subst hw
                    have hP := wk hP hk1
                    obtain ⟨f99, f100, f101⟩ := hB
                    refine lv_if_eq (tgt := 322) hx hb dX9_goOn_270 (by decide) (fun c_102 => ?_) (fun c_102 => ?_)
                    · skip
                      have f103 : r_98.toInt = 0 := qi_eq c_102 rfl zc_0
                      refine lv_aload_n hx hb dX9_goOn_322 rfl (lv_at hl 0 rfl) ?_
                      refine lv_aload_n hx hb dX9_goOn_323 rfl (lv_at hl 0 rfl) ?_
                      refine gM_X9_181_0 hx hb hG hown hK hP dX9_goOn_324 ?_
                      refine lv_aload_n hx hb dX9_goOn_327 rfl (lv_at hl 0 rfl) ?_
                      refine gM_X9_184_0 hx hb hG hown hK hP dX9_goOn_328 ?_
                      refine lv_isub hx hb dX9_goOn_331 ?_
                      refine lv_topi (fun x104 ex104 => ?_)
                      have f105 : x104.toInt = m259_i_end.toInt + -1 * m8_i_at.toInt := (ob_165 (qi_sub ex104 rfl rfl (ob_163 g8_1 g259_0) (ob_164 g8_0 g259_1)))
                      refine lv_iconst (v := 4) hx hb dX9_goOn_332 (by decide) ?_
                      refine lv_icmp_gt (tgt := 350) hx hb dX9_goOn_333 (by decide) (fun c_106 => ?_) (fun c_106 => ?_)
                      · skip
                        have f107 : 4 < x104.toInt := qi_lt c_106 zc_4 rfl
                        have f108 : m8_i_at.toInt + 1 ≤ i_size.toInt := (ob_148 f22)
                        have f109 : m8_i_at.toInt + 1 ≤ i_size.toInt := (ob_148 f22)
                        have f110 : m8_i_at.toInt + 1 ≤ i_size.toInt := (ob_148 f22)
                        refine lv_iconst (v := 1) hx hb dX9_goOn_350 (by decide) ?_
                        refine lv_goto (tgt := 355) hx hb dX9_goOn_351 (by decide) ?_
                        refine pM_X9_191_0 hx hb hG hown hK hP hD hS dX9_goOn_355 (fun H111 locs hP hD hS => ?_)
                        refine lv_goto (tgt := 377) hx hb dX9_goOn_358 (by decide) ?_
                        rw [hQ]
                        exact W.vret hx hb hr (fun t ht hW => ⟨⟨(), rfl, trivial, ⟨m8_i_at, m259_i_end, 1, m259_i_number, L, by rw [ht]; exact hP, hD, ⟨ie0, ie1, ie2, ie3, ie4, ie5, ie6, ie7, ie8, ie9, ie10, ie11, ie12, ie13, gi259_end_lo, gi259_end_hi, gi8_at_lo, ie17, ie18, ie19, ie20, ie21, ie22, ie23, ie24, ie25, ie26, ie27, ie28, ie29, ie30, ie31, ie32⟩, (ob_166 g8_2 g259_2), (ob_145 g259_2), (ob_167 g8_2 f107 f105 zc_1)⟩⟩, hS.F ht⟩) hS.2.2 dX9_goOn_377
                      · skip
                        have f112 : x104.toInt ≤ 4 := qi_nlt c_106 zc_4 rfl
                        have f113 : m8_i_at.toInt + 1 ≤ i_size.toInt := (ob_148 f22)
                        have f114 : m8_i_at.toInt + 1 ≤ i_size.toInt := (ob_148 f22)
                        have f115 : m8_i_at.toInt + 1 ≤ i_size.toInt := (ob_148 f22)
                        refine lv_aload_n hx hb dX9_goOn_336 rfl (lv_at hl 0 rfl) ?_
                        refine lv_aload_n hx hb dX9_goOn_337 rfl (lv_at hl 0 rfl) ?_
                        refine gM_X9_181_0 hx hb hG hown hK hP dX9_goOn_338 ?_
                        refine va_calli (va_runV (As := [.int m259_i_end]) (rest := [.ref (r 0)]) ⟨hx, hb, hml, hown, hG⟩ (kX9_sign l dC dI r ct i_taped i_size i_faultKind m8_i_at m259_i_end i_token m259_i_number i_bank i_rb i_codes i_within i_piled i_unitsInRule i_askHouse i_askTune i_acts i_undone i_laid i_knowns i_time f_text f_tunes f_houses f_hums f_told f_many f_ruleFrom f_ruleTo f_code f_eWhat f_eSign f_all f_kept f_was f_sTune f_boxAll J L m259_i_end H97.size ⟨ie0, ie1, ie2, ie3, ie4, ie5, ie6, ie7, ie8, ie9, ie10, ie11, ie12, ie13, gi259_end_lo, gi259_end_hi, gi8_at_lo, ie17, ie18, ie19, ie20, ie21, ie22, ie23, ie24, ie25, ie26, ie27, ie28, ie29, ie30, ie31, ie32⟩ (ob_139 g259_0)) (cwV 1 hG (goodV gw1366 gw1368 gw60 gw138 gw1369) rfl rfl rfl hd_X9_sign ⟨(Nat.le_of_ble_eq_true rfl), (Nat.le_of_ble_eq_true rfl)⟩) ⟨fbR, va_recv hK hP (ci := 8) (q0 := 0) rfl rfl, pR_in hP hK⟩ rfl rfl hl.1 rfl (lv_room (Nat.le_of_ble_eq_true rfl)) dX9_goOn_341 ⟨(Nat.le_of_ble_eq_true rfl), (Nat.le_of_ble_eq_true rfl)⟩) hS (fun q hq h => absurd hq (Nat.not_lt.mpr h)) (fun q h => hA q (Nat.le_trans hS.1 h)) (fun r_117 u_ t_ H116 locs ht hvm hw hB hz1 hk1 hS => ?_)
                        subst hw
                        have hP := wk hP hk1
                        obtain ⟨f118, f119, f120, f121⟩ := hB
                        have f122 : r_117.toInt = (sgz f_text i_size.toInt m259_i_end.toInt) := (ob_6 f118)
                        refine va_calli (va_runS (As := [.int r_117]) (rest := [.ref (r 0)]) ⟨hx, hb, hml, hown, hG⟩ (kX9_isLetter l dC dI r_117 H116.size) (va_cwS 1 hG (goodS gw1370 gw1371 gw138 gw1372) rfl rfl rfl hd_X9_isLetter ⟨(Nat.le_of_ble_eq_true rfl), (Nat.le_of_ble_eq_true rfl)⟩) ⟨fbR, pR_in emptyP (emptyK hK)⟩ rfl rfl hl.1 rfl (lv_room (Nat.le_of_ble_eq_true rfl)) dX9_goOn_344 ⟨(Nat.le_of_ble_eq_true rfl), (Nat.le_of_ble_eq_true rfl)⟩) hS (fun q hq h => absurd hq (Nat.not_lt.mpr h)) (fun q h => hA q (Nat.le_trans hS.1 h)) (fun r_124 u_ t_ H123 locs ht hvm hw hB hz1 hk1 hS => ?_)
                        subst hw
                        have hP := wk hP hk1
                        obtain ⟨f125, f126, f127⟩ := hB
                        refine lv_if_eq (tgt := 354) hx hb dX9_goOn_347 (by decide) (fun c_128 => ?_) (fun c_128 => ?_)
                        · skip
                          have f129 : r_124.toInt = 0 := qi_eq c_128 rfl zc_0
                          refine lv_iconst (v := 4) hx hb dX9_goOn_354 (by decide) ?_
                          refine pM_X9_191_0 hx hb hG hown hK hP hD hS dX9_goOn_355 (fun H130 locs hP hD hS => ?_)
                          refine lv_goto (tgt := 377) hx hb dX9_goOn_358 (by decide) ?_
                          rw [hQ]
                          exact W.vret hx hb hr (fun t ht hW => ⟨⟨(), rfl, trivial, ⟨m8_i_at, m259_i_end, 4, m259_i_number, L, by rw [ht]; exact hP, hD, ⟨ie0, ie1, ie2, ie3, ie4, ie5, ie6, ie7, ie8, ie9, ie10, ie11, ie12, ie13, gi259_end_lo, gi259_end_hi, gi8_at_lo, ie17, ie18, ie19, ie20, ie21, ie22, ie23, ie24, ie25, ie26, ie27, ie28, ie29, ie30, ie31, ie32⟩, (ob_166 g8_2 g259_2), (ob_145 g259_2), (ob_168 ie2 g8_2 f67 f82 g259_2 f96 f99 f103 f95 f52 zc_4)⟩⟩, hS.F ht⟩) hS.2.2 dX9_goOn_377
                        · skip
                          have f131 : r_124.toInt ≠ 0 := qi_ne c_128 rfl zc_0
                          have f132 : (97 : Int) ≤ (sgz f_text i_size.toInt m259_i_end.toInt) := (ob_169 f125 f131 f122)
                          have f133 : (sgz f_text i_size.toInt m259_i_end.toInt) ≤ (122 : Int) := (ob_170 f125 f131 f122)
                          have f134 : r_124.toInt = (1 : Int) := (ob_171 f125 f131 f122)
                          have f135 : (1 : Int) ≤ r_124.toInt := (ob_162 f126 f127 f134)
                          refine lv_iconst (v := 1) hx hb dX9_goOn_350 (by decide) ?_
                          refine lv_goto (tgt := 355) hx hb dX9_goOn_351 (by decide) ?_
                          refine pM_X9_191_0 hx hb hG hown hK hP hD hS dX9_goOn_355 (fun H136 locs hP hD hS => ?_)
                          refine lv_goto (tgt := 377) hx hb dX9_goOn_358 (by decide) ?_
                          rw [hQ]
                          exact W.vret hx hb hr (fun t ht hW => ⟨⟨(), rfl, trivial, ⟨m8_i_at, m259_i_end, 1, m259_i_number, L, by rw [ht]; exact hP, hD, ⟨ie0, ie1, ie2, ie3, ie4, ie5, ie6, ie7, ie8, ie9, ie10, ie11, ie12, ie13, gi259_end_lo, gi259_end_hi, gi8_at_lo, ie17, ie18, ie19, ie20, ie21, ie22, ie23, ie24, ie25, ie26, ie27, ie28, ie29, ie30, ie31, ie32⟩, (ob_166 g8_2 g259_2), (ob_145 g259_2), (ob_172 g8_2 f84 g259_2 f96 f132 zc_1)⟩⟩, hS.F ht⟩) hS.2.2 dX9_goOn_377
                    · skip
                      have f137 : r_98.toInt ≠ 0 := qi_ne c_102 rfl zc_0
                      have f138 : (48 : Int) ≤ (sgz f_text i_size.toInt m259_i_end.toInt) := (ob_159 f99 f137 f95)
                      have f139 : (sgz f_text i_size.toInt m259_i_end.toInt) ≤ (57 : Int) := (ob_160 f99 f137 f95)
                      have f140 : r_98.toInt = (1 : Int) := (ob_161 f99 f137 f95)
                      have f141 : (1 : Int) ≤ r_98.toInt := (ob_162 f100 f101 f140)
                      refine lv_aload_n hx hb dX9_goOn_273 rfl (lv_at hl 0 rfl) ?_
                      refine gM_X9_181_0 hx hb hG hown hK hP dX9_goOn_274 ?_
                      refine lv_aload_n hx hb dX9_goOn_277 rfl (lv_at hl 0 rfl) ?_
                      refine gM_X9_184_0 hx hb hG hown hK hP dX9_goOn_278 ?_
                      refine lv_isub hx hb dX9_goOn_281 ?_
                      refine lv_topi (fun x142 ex142 => ?_)
                      have f143 : x142.toInt = m259_i_end.toInt + -1 * m8_i_at.toInt := (ob_165 (qi_sub ex142 rfl rfl (ob_163 g8_1 g259_0) (ob_164 g8_0 g259_1)))
                      refine lv_iconst (v := 4) hx hb dX9_goOn_282 (by decide) ?_
                      refine lv_icmp_ge (tgt := 309) hx hb dX9_goOn_283 (by decide) (fun c_144 => ?_) (fun c_144 => ?_)
                      · skip
                        have f145 : 4 ≤ x142.toInt := qi_le c_144 zc_4 rfl
                        have f146 : m8_i_at.toInt + 1 ≤ i_size.toInt := (ob_148 f22)
                        have f147 : m8_i_at.toInt + 1 ≤ i_size.toInt := (ob_148 f22)
                        have f148 : m8_i_at.toInt + 1 ≤ i_size.toInt := (ob_148 f22)
                        have f149 : m259_i_end.toInt + 1 ≤ i_size.toInt := (ob_173 f94 f138)
                        refine lv_aload_n hx hb dX9_goOn_309 rfl (lv_at hl 0 rfl) ?_
                        refine lv_dup hx hb dX9_goOn_310 rfl ?_
                        refine gM_X9_181_0 hx hb hG hown hK hP dX9_goOn_311 ?_
                        refine lv_iconst (v := 1) hx hb dX9_goOn_314 (by decide) ?_
                        refine lv_iadd hx hb dX9_goOn_315 ?_
                        refine lv_topi (fun x150 ex150 => ?_)
                        have f151 : x150.toInt = m259_i_end.toInt + 1 := (ob_142 (qi_add ex150 rfl zc_1 (ob_140 g259_0) (ob_141 g259_1)))
                        refine pM_X9_181_0 hx hb hG hown hK hP hD hS dX9_goOn_316 (fun H152 locs hP hD hS => ?_)
                        refine lv_goto (tgt := 259) hx hb dX9_goOn_319 (by decide) ?_
                        exact ih259 x150 m259_i_number H152 _ _ (ob_149 g259_0 f151) (ob_174 ie3 f149 f151) (ob_151 g259_2 f151) (ob_175 f149 f151) (ob_149 g259_0 f151) (ob_175 f149 f151) hP hD hS (lv_sub hl [0, 1] rfl) (ob_153 hM259 f151)
                      · skip
                        have f153 : x142.toInt < 4 := qi_nle c_144 zc_4 rfl
                        have f154 : m8_i_at.toInt + 1 ≤ i_size.toInt := (ob_148 f22)
                        have f155 : m8_i_at.toInt + 1 ≤ i_size.toInt := (ob_148 f22)
                        have f156 : m8_i_at.toInt + 1 ≤ i_size.toInt := (ob_148 f22)
                        have f157 : m259_i_end.toInt + 1 ≤ i_size.toInt := (ob_173 f94 f138)
                        refine lv_aload_n hx hb dX9_goOn_286 rfl (lv_at hl 0 rfl) ?_
                        refine lv_bipush (v := 10) hx hb dX9_goOn_287 (by decide) ?_
                        refine lv_aload_n hx hb dX9_goOn_289 rfl (lv_at hl 0 rfl) ?_
                        refine gM_X9_209_0 hx hb hG hown hK hP dX9_goOn_290 ?_
                        refine lv_imul hx hb dX9_goOn_293 ?_
                        refine lv_topi (fun x158 ex158 => ?_)
                        refine lv_aload_n hx hb dX9_goOn_294 rfl (lv_at hl 0 rfl) ?_
                        refine lv_aload_n hx hb dX9_goOn_295 rfl (lv_at hl 0 rfl) ?_
                        refine gM_X9_181_0 hx hb hG hown hK hP dX9_goOn_296 ?_
                        refine va_calli (va_runV (As := [.int m259_i_end]) (rest := [.int x158, .ref (r 0)]) ⟨hx, hb, hml, hown, hG⟩ (kX9_sign l dC dI r ct i_taped i_size i_faultKind m8_i_at m259_i_end i_token m259_i_number i_bank i_rb i_codes i_within i_piled i_unitsInRule i_askHouse i_askTune i_acts i_undone i_laid i_knowns i_time f_text f_tunes f_houses f_hums f_told f_many f_ruleFrom f_ruleTo f_code f_eWhat f_eSign f_all f_kept f_was f_sTune f_boxAll J L m259_i_end H97.size ⟨ie0, ie1, ie2, ie3, ie4, ie5, ie6, ie7, ie8, ie9, ie10, ie11, ie12, ie13, gi259_end_lo, gi259_end_hi, gi8_at_lo, ie17, ie18, ie19, ie20, ie21, ie22, ie23, ie24, ie25, ie26, ie27, ie28, ie29, ie30, ie31, ie32⟩ (ob_139 g259_0)) (cwV 1 hG (goodV gw1366 gw1368 gw60 gw138 gw1369) rfl rfl rfl hd_X9_sign ⟨(Nat.le_of_ble_eq_true rfl), (Nat.le_of_ble_eq_true rfl)⟩) ⟨fbR, va_recv hK hP (ci := 8) (q0 := 0) rfl rfl, pR_in hP hK⟩ rfl rfl hl.1 rfl (lv_room (Nat.le_of_ble_eq_true rfl)) dX9_goOn_299 ⟨(Nat.le_of_ble_eq_true rfl), (Nat.le_of_ble_eq_true rfl)⟩) hS (fun q hq h => absurd hq (Nat.not_lt.mpr h)) (fun q h => hA q (Nat.le_trans hS.1 h)) (fun r_160 u_ t_ H159 locs ht hvm hw hB hz1 hk1 hS => ?_)
                        subst hw
                        have hP := wk hP hk1
                        obtain ⟨f161, f162, f163, f164⟩ := hB
                        have f165 : r_160.toInt = (sgz f_text i_size.toInt m259_i_end.toInt) := (ob_6 f161)
                        refine lv_iadd hx hb dX9_goOn_302 ?_
                        refine lv_topi (fun x166 ex166 => ?_)
                        refine lv_bipush (v := 48) hx hb dX9_goOn_303 (by decide) ?_
                        refine lv_isub hx hb dX9_goOn_305 ?_
                        refine lv_topi (fun x167 ex167 => ?_)
                        refine pM_X9_209_0 hx hb hG hown hK hP hD hS dX9_goOn_306 (fun H168 locs hP hD hS => ?_)
                        refine lv_aload_n hx hb dX9_goOn_309 rfl (lv_at hl 0 rfl) ?_
                        refine lv_dup hx hb dX9_goOn_310 rfl ?_
                        refine gM_X9_181_0 hx hb hG hown hK hP dX9_goOn_311 ?_
                        refine lv_iconst (v := 1) hx hb dX9_goOn_314 (by decide) ?_
                        refine lv_iadd hx hb dX9_goOn_315 ?_
                        refine lv_topi (fun x169 ex169 => ?_)
                        have f170 : x169.toInt = m259_i_end.toInt + 1 := (ob_142 (qi_add ex169 rfl zc_1 (ob_140 g259_0) (ob_141 g259_1)))
                        refine pM_X9_181_0 hx hb hG hown hK hP hD hS dX9_goOn_316 (fun H171 locs hP hD hS => ?_)
                        refine lv_goto (tgt := 259) hx hb dX9_goOn_319 (by decide) ?_
                        exact ih259 x169 x167 H171 _ _ (ob_149 g259_0 f170) (ob_174 ie3 f157 f170) (ob_151 g259_2 f170) (ob_175 f157 f170) (ob_149 g259_0 f170) (ob_175 f157 f170) hP hD hS (lv_sub hl [0, 1] rfl) (ob_153 hM259 f170)
                exact L259 (i_size.toInt + -1 * m8_i_at.toInt + 1).toNat m8_i_at 0 H88 _ _ (ob_139 g8_0) (ob_176 g8_1) (ob_146) (ob_145 g8_3) (ob_139 g8_0) (ob_145 g8_3) hP hD hS (lv_sub hl [1, 0] rfl) (mlt (ob_177 g8_3))
            · skip
              have f172 : r_59.toInt ≠ 0 := qi_ne c_63 rfl zc_0
              have f173 : (97 : Int) ≤ (sgz f_text i_size.toInt m8_i_at.toInt) := (ob_169 f60 f172 f52)
              have f174 : (sgz f_text i_size.toInt m8_i_at.toInt) ≤ (122 : Int) := (ob_170 f60 f172 f52)
              have f175 : r_59.toInt = (1 : Int) := (ob_171 f60 f172 f52)
              have f176 : (1 : Int) ≤ r_59.toInt := (ob_162 f61 f62 f175)
              have L119 : ∀ (N119 : Nat) (m119_i_end : Int32) (H119 : Heap) (locs : List Loc) (ls : Array Slot) (g119_0 : (1 : Int) ≤ m119_i_end.toInt) (g119_1 : m119_i_end.toInt ≤ (1601 : Int)) (g119_2 : m8_i_at.toInt + 1 ≤ m119_i_end.toInt) (g119_3 : m119_i_end.toInt ≤ i_size.toInt) (gi119_end_lo : (0 : Int) ≤ m119_i_end.toInt) (gi119_end_hi : m119_i_end.toInt ≤ i_size.toInt) (hP : va_P (dC, dI) vwCl (WM r ct i_taped i_size i_faultKind m8_i_at m119_i_end i_token i_number i_bank i_rb i_codes i_within i_piled i_unitsInRule i_askHouse i_askTune i_acts i_undone i_laid i_knowns i_time f_text f_tunes f_houses f_hums f_told f_many f_ruleFrom f_ruleTo f_code f_eWhat f_eSign f_all f_kept f_was f_sTune f_boxAll J L) H119) (hD : va_D A (WM r ct i_taped i_size i_faultKind m8_i_at m119_i_end i_token i_number i_bank i_rb i_codes i_within i_piled i_unitsInRule i_askHouse i_askTune i_acts i_undone i_laid i_knowns i_time f_text f_tunes f_houses f_hums f_told f_many f_ruleFrom f_ruleTo f_code f_eWhat f_eSign f_all f_kept f_was f_sTune f_boxAll J L)) (hS : va_S A s.heap H119 locs) (hl : lv_has ls 3 [(0, .ref (r 0)), (1, .int r_47)]) (hM : i_size.toInt + -1 * m119_i_end.toInt < (N119 : Int)), W p l e { frames := 4, cells := 0, slots := 0, locals := 162 } s m ([.ref (r 0)] : List Value).toArray below meth c0 H119 locs 0 0 Q (F0 m 119 ls []) := by
                intro N119
                induction N119 with
                | zero =>
                  intro m119_i_end H119 locs ls g119_0 g119_1 g119_2 g119_3 gi119_end_lo gi119_end_hi hP hD hS hl hM
                  exact ((ob_138 hM g119_3)).elim
                | succ N119 ih119 =>
                  intro m119_i_end H119 locs ls g119_0 g119_1 g119_2 g119_3 gi119_end_lo gi119_end_hi hP hD hS hl hM
                  have hM119 := msucc hM
                  refine lv_aload_n hx hb dX9_goOn_119 rfl (lv_at hl 0 rfl) ?_
                  refine lv_aload_n hx hb dX9_goOn_120 rfl (lv_at hl 0 rfl) ?_
                  refine gM_X9_181_0 hx hb hG hown hK hP dX9_goOn_121 ?_
                  refine va_calli (va_runV (As := [.int m119_i_end]) (rest := []) ⟨hx, hb, hml, hown, hG⟩ (kX9_sign l dC dI r ct i_taped i_size i_faultKind m8_i_at m119_i_end i_token i_number i_bank i_rb i_codes i_within i_piled i_unitsInRule i_askHouse i_askTune i_acts i_undone i_laid i_knowns i_time f_text f_tunes f_houses f_hums f_told f_many f_ruleFrom f_ruleTo f_code f_eWhat f_eSign f_all f_kept f_was f_sTune f_boxAll J L m119_i_end H119.size ⟨ie0, ie1, ie2, ie3, ie4, ie5, ie6, ie7, ie8, ie9, ie10, ie11, ie12, ie13, gi119_end_lo, gi119_end_hi, gi8_at_lo, ie17, ie18, ie19, ie20, ie21, ie22, ie23, ie24, ie25, ie26, ie27, ie28, ie29, ie30, ie31, ie32⟩ (ob_20 g119_0)) (cwV 1 hG (goodV gw1366 gw1368 gw60 gw138 gw1369) rfl rfl rfl hd_X9_sign ⟨(Nat.le_of_ble_eq_true rfl), (Nat.le_of_ble_eq_true rfl)⟩) ⟨fbR, va_recv hK hP (ci := 8) (q0 := 0) rfl rfl, pR_in hP hK⟩ rfl rfl hl.1 rfl (lv_room (Nat.le_of_ble_eq_true rfl)) dX9_goOn_124 ⟨(Nat.le_of_ble_eq_true rfl), (Nat.le_of_ble_eq_true rfl)⟩) hS (fun q hq h => absurd hq (Nat.not_lt.mpr h)) (fun q h => hA q (Nat.le_trans hS.1 h)) (fun r_178 u_ t_ H177 locs ht hvm hw hB hz1 hk1 hS => ?_)
                  subst hw
                  have hP := wk hP hk1
                  obtain ⟨f179, f180, f181, f182⟩ := hB
                  have f183 : r_178.toInt = (sgz f_text i_size.toInt m119_i_end.toInt) := (ob_6 f179)
                  refine va_calli (va_runS (As := [.int r_178]) (rest := []) ⟨hx, hb, hml, hown, hG⟩ (kX9_isLetter l dC dI r_178 H177.size) (va_cwS 1 hG (goodS gw1370 gw1371 gw138 gw1372) rfl rfl rfl hd_X9_isLetter ⟨(Nat.le_of_ble_eq_true rfl), (Nat.le_of_ble_eq_true rfl)⟩) ⟨fbR, pR_in emptyP (emptyK hK)⟩ rfl rfl hl.1 rfl (lv_room (Nat.le_of_ble_eq_true rfl)) dX9_goOn_127 ⟨(Nat.le_of_ble_eq_true rfl), (Nat.le_of_ble_eq_true rfl)⟩) hS (fun q hq h => absurd hq (Nat.not_lt.mpr h)) (fun q h => hA q (Nat.le_trans hS.1 h)) (fun r_185 u_ t_ H184 locs ht hvm hw hB hz1 hk1 hS => ?_)
                  subst hw
                  have hP := wk hP hk1
                  obtain ⟨f186, f187, f188⟩ := hB
                  refine lv_if_eq (tgt := 146) hx hb dX9_goOn_130 (by decide) (fun c_189 => ?_) (fun c_189 => ?_)
                  · skip
                    have f190 : r_185.toInt = 0 := qi_eq c_189 rfl zc_0
                    refine lv_aload_n hx hb dX9_goOn_146 rfl (lv_at hl 0 rfl) ?_
                    refine lv_lconst (v := 0) hx hb dX9_goOn_147 (by decide) ?_
                    refine pM_X9_198_0 hx hb hG hown hK hP hD hS dX9_goOn_148 (fun L192 H191 locs hP hD hS => ?_)
                    refine lv_aload_n hx hb dX9_goOn_151 rfl (lv_at hl 0 rfl) ?_
                    refine gM_X9_184_0 hx hb hG hown hK hP dX9_goOn_152 ?_
                    refine lv_istore_n (lv' := [(2, .int m8_i_at), (0, .ref (r 0)), (1, .int r_47)]) hx hb dX9_goOn_155 rfl hl (by decide) rfl (fun ls hl => ?_)
                    have L156 : ∀ (N156 : Nat) (y156_2 : Int32) (m156_L : Nat → Nat → Int64) (H156 : Heap) (locs : List Loc) (ls : Array Slot) (g156_0 : (0 : Int) ≤ y156_2.toInt) (g156_1 : y156_2.toInt ≤ (1600 : Int)) (hP : va_P (dC, dI) vwCl (WM r ct i_taped i_size i_faultKind m8_i_at m119_i_end i_token i_number i_bank i_rb i_codes i_within i_piled i_unitsInRule i_askHouse i_askTune i_acts i_undone i_laid i_knowns i_time f_text f_tunes f_houses f_hums f_told f_many f_ruleFrom f_ruleTo f_code f_eWhat f_eSign f_all f_kept f_was f_sTune f_boxAll J m156_L) H156) (hD : va_D A (WM r ct i_taped i_size i_faultKind m8_i_at m119_i_end i_token i_number i_bank i_rb i_codes i_within i_piled i_unitsInRule i_askHouse i_askTune i_acts i_undone i_laid i_knowns i_time f_text f_tunes f_houses f_hums f_told f_many f_ruleFrom f_ruleTo f_code f_eWhat f_eSign f_all f_kept f_was f_sTune f_boxAll J m156_L)) (hS : va_S A s.heap H156 locs) (hl : lv_has ls 3 [(0, .ref (r 0)), (1, .int r_47), (2, .int y156_2)]) (hM : -1 * y156_2.toInt + 1600 < (N156 : Int)), W p l e { frames := 4, cells := 0, slots := 0, locals := 162 } s m ([.ref (r 0)] : List Value).toArray below meth c0 H156 locs 0 0 Q (F0 m 156 ls []) := by
                      intro N156
                      induction N156 with
                      | zero =>
                        intro y156_2 m156_L H156 locs ls g156_0 g156_1 hP hD hS hl hM
                        exact ((ob_178 hM g156_0 g156_1)).elim
                      | succ N156 ih156 =>
                        intro y156_2 m156_L H156 locs ls g156_0 g156_1 hP hD hS hl hM
                        have hM156 := msucc hM
                        refine lv_iload_n hx hb dX9_goOn_156 rfl (lv_at hl 2 rfl) ?_
                        refine lv_aload_n hx hb dX9_goOn_157 rfl (lv_at hl 0 rfl) ?_
                        refine gM_X9_181_0 hx hb hG hown hK hP dX9_goOn_158 ?_
                        refine lv_icmp_ge (tgt := 199) hx hb dX9_goOn_161 (by decide) (fun c_193 => ?_) (fun c_193 => ?_)
                        · skip
                          have f194 : m119_i_end.toInt ≤ y156_2.toInt := qi_le c_193 rfl rfl
                          refine lv_aload_n hx hb dX9_goOn_199 rfl (lv_at hl 0 rfl) ?_
                          refine lv_aload_n hx hb dX9_goOn_200 rfl (lv_at hl 0 rfl) ?_
                          refine gM_X9_181_0 hx hb hG hown hK hP dX9_goOn_201 ?_
                          refine lv_aload_n hx hb dX9_goOn_204 rfl (lv_at hl 0 rfl) ?_
                          refine gM_X9_184_0 hx hb hG hown hK hP dX9_goOn_205 ?_
                          refine lv_isub hx hb dX9_goOn_208 ?_
                          refine lv_topi (fun x195 ex195 => ?_)
                          have f196 : x195.toInt = m119_i_end.toInt + -1 * m8_i_at.toInt := (ob_165 (qi_sub ex195 rfl rfl (ob_179 g8_1 g119_0) (ob_180 g8_0 g119_1)))
                          refine lv_bipush (v := 8) hx hb dX9_goOn_209 (by decide) ?_
                          refine lv_icmp_le (tgt := 218) hx hb dX9_goOn_211 (by decide) (fun c_197 => ?_) (fun c_197 => ?_)
                          · skip
                            have f198 : x195.toInt ≤ 8 := qi_le c_197 rfl zc_8
                            have f199 : m8_i_at.toInt + 1 ≤ i_size.toInt := (ob_148 f22)
                            have f200 : m8_i_at.toInt + 1 ≤ i_size.toInt := (ob_148 f22)
                            have f201 : m8_i_at.toInt + 1 ≤ i_size.toInt := (ob_148 f22)
                            refine lv_aload_n hx hb dX9_goOn_218 rfl (lv_at hl 0 rfl) ?_
                            refine gM_X9_198_0 hx hb hG hown hK hP dX9_goOn_219 ?_
                            refine va_calli (va_runS (As := [.long (m156_L 0 0)]) (rest := [.ref (r 0)]) ⟨hx, hb, hml, hown, hG⟩ (kX9_isKept l dC dI (m156_L 0 0) H156.size) (va_cwS 1 hG (goodS gw1373 gw1374 gw138 gw1375) rfl rfl rfl hd_X9_isKept ⟨(Nat.le_of_ble_eq_true rfl), (Nat.le_of_ble_eq_true rfl)⟩) ⟨fbR, pR_in emptyP (emptyK hK)⟩ rfl rfl hl.1 rfl (lv_room (Nat.le_of_ble_eq_true rfl)) dX9_goOn_222 ⟨(Nat.le_of_ble_eq_true rfl), (Nat.le_of_ble_eq_true rfl)⟩) hS (fun q hq h => absurd hq (Nat.not_lt.mpr h)) (fun q h => hA q (Nat.le_trans hS.1 h)) (fun r_203 u_ t_ H202 locs ht hvm hw hB hz1 hk1 hS => ?_)
                            subst hw
                            have hP := wk hP hk1
                            obtain ⟨f204, f205⟩ := hB
                            refine lv_if_eq (tgt := 232) hx hb dX9_goOn_225 (by decide) (fun c_206 => ?_) (fun c_206 => ?_)
                            · skip
                              have f207 : r_203.toInt = 0 := qi_eq c_206 rfl zc_0
                              refine lv_iconst (v := 2) hx hb dX9_goOn_232 (by decide) ?_
                              refine pM_X9_191_0 hx hb hG hown hK hP hD hS dX9_goOn_233 (fun H208 locs hP hD hS => ?_)
                              refine lv_goto (tgt := 377) hx hb dX9_goOn_236 (by decide) ?_
                              rw [hQ]
                              exact W.vret hx hb hr (fun t ht hW => ⟨⟨(), rfl, trivial, ⟨m8_i_at, m119_i_end, 2, i_number, m156_L, by rw [ht]; exact hP, hD, ⟨ie0, ie1, ie2, ie3, ie4, ie5, ie6, ie7, ie8, ie9, ie10, ie11, ie12, ie13, gi119_end_lo, gi119_end_hi, gi8_at_lo, ie17, ie18, ie19, ie20, ie21, ie22, ie23, ie24, ie25, ie26, ie27, ie28, ie29, ie30, ie31, ie32⟩, (ob_181 g8_2 g119_2), (ob_182 g119_2), (ob_183 g8_2 g119_2 zc_2)⟩⟩, hS.F ht⟩) hS.2.2 dX9_goOn_377
                            · skip
                              have f209 : r_203.toInt ≠ 0 := qi_ne c_206 rfl zc_0
                              have f210 : (1 : Int) ≤ r_203.toInt := (ob_157 f204 f205 f209)
                              refine lv_iconst (v := 3) hx hb dX9_goOn_228 (by decide) ?_
                              refine lv_goto (tgt := 233) hx hb dX9_goOn_229 (by decide) ?_
                              refine pM_X9_191_0 hx hb hG hown hK hP hD hS dX9_goOn_233 (fun H211 locs hP hD hS => ?_)
                              refine lv_goto (tgt := 377) hx hb dX9_goOn_236 (by decide) ?_
                              rw [hQ]
                              exact W.vret hx hb hr (fun t ht hW => ⟨⟨(), rfl, trivial, ⟨m8_i_at, m119_i_end, 3, i_number, m156_L, by rw [ht]; exact hP, hD, ⟨ie0, ie1, ie2, ie3, ie4, ie5, ie6, ie7, ie8, ie9, ie10, ie11, ie12, ie13, gi119_end_lo, gi119_end_hi, gi8_at_lo, ie17, ie18, ie19, ie20, ie21, ie22, ie23, ie24, ie25, ie26, ie27, ie28, ie29, ie30, ie31, ie32⟩, (ob_181 g8_2 g119_2), (ob_182 g119_2), (ob_184 g8_2 g119_2 zc_3)⟩⟩, hS.F ht⟩) hS.2.2 dX9_goOn_377
                          · skip
                            have f212 : 8 < x195.toInt := qi_nle c_197 rfl zc_8
                            have f213 : m8_i_at.toInt + 1 ≤ i_size.toInt := (ob_148 f22)
                            have f214 : m8_i_at.toInt + 1 ≤ i_size.toInt := (ob_148 f22)
                            have f215 : m8_i_at.toInt + 1 ≤ i_size.toInt := (ob_148 f22)
                            refine lv_iconst (v := 1) hx hb dX9_goOn_214 (by decide) ?_
                            refine lv_goto (tgt := 233) hx hb dX9_goOn_215 (by decide) ?_
                            refine pM_X9_191_0 hx hb hG hown hK hP hD hS dX9_goOn_233 (fun H216 locs hP hD hS => ?_)
                            refine lv_goto (tgt := 377) hx hb dX9_goOn_236 (by decide) ?_
                            rw [hQ]
                            exact W.vret hx hb hr (fun t ht hW => ⟨⟨(), rfl, trivial, ⟨m8_i_at, m119_i_end, 1, i_number, m156_L, by rw [ht]; exact hP, hD, ⟨ie0, ie1, ie2, ie3, ie4, ie5, ie6, ie7, ie8, ie9, ie10, ie11, ie12, ie13, gi119_end_lo, gi119_end_hi, gi8_at_lo, ie17, ie18, ie19, ie20, ie21, ie22, ie23, ie24, ie25, ie26, ie27, ie28, ie29, ie30, ie31, ie32⟩, (ob_181 g8_2 g119_2), (ob_182 g119_2), (ob_185 g8_2 g119_2 zc_1)⟩⟩, hS.F ht⟩) hS.2.2 dX9_goOn_377
                        · skip
                          have f217 : y156_2.toInt < m119_i_end.toInt := qi_nle c_193 rfl rfl
                          refine lv_iload_n hx hb dX9_goOn_164 rfl (lv_at hl 2 rfl) ?_
                          refine lv_aload_n hx hb dX9_goOn_165 rfl (lv_at hl 0 rfl) ?_
                          refine gM_X9_184_0 hx hb hG hown hK hP dX9_goOn_166 ?_
                          refine lv_bipush (v := 8) hx hb dX9_goOn_169 (by decide) ?_
                          refine lv_iadd hx hb dX9_goOn_171 ?_
                          refine lv_topi (fun x218 ex218 => ?_)
                          have f219 : x218.toInt = m8_i_at.toInt + 8 := (ob_188 (qi_add ex218 rfl zc_8 (ob_186 g8_0) (ob_187 g8_1)))
                          refine lv_icmp_ge (tgt := 199) hx hb dX9_goOn_172 (by decide) (fun c_220 => ?_) (fun c_220 => ?_)
                          · skip
                            have f221 : x218.toInt ≤ y156_2.toInt := qi_le c_220 rfl rfl
                            have f222 : m8_i_at.toInt + 1 ≤ i_size.toInt := (ob_148 f22)
                            have f223 : m8_i_at.toInt + 1 ≤ i_size.toInt := (ob_148 f22)
                            have f224 : m8_i_at.toInt + 1 ≤ i_size.toInt := (ob_148 f22)
                            refine lv_aload_n hx hb dX9_goOn_199 rfl (lv_at hl 0 rfl) ?_
                            refine lv_aload_n hx hb dX9_goOn_200 rfl (lv_at hl 0 rfl) ?_
                            refine gM_X9_181_0 hx hb hG hown hK hP dX9_goOn_201 ?_
                            refine lv_aload_n hx hb dX9_goOn_204 rfl (lv_at hl 0 rfl) ?_
                            refine gM_X9_184_0 hx hb hG hown hK hP dX9_goOn_205 ?_
                            refine lv_isub hx hb dX9_goOn_208 ?_
                            refine lv_topi (fun x225 ex225 => ?_)
                            have f226 : x225.toInt = m119_i_end.toInt + -1 * m8_i_at.toInt := (ob_165 (qi_sub ex225 rfl rfl (ob_179 g8_1 g119_0) (ob_180 g8_0 g119_1)))
                            refine lv_bipush (v := 8) hx hb dX9_goOn_209 (by decide) ?_
                            refine lv_icmp_le (tgt := 218) hx hb dX9_goOn_211 (by decide) (fun c_227 => ((ob_189 (qi_le c_227 rfl zc_8) f217 f221 f219 f226)).elim) (fun c_227 => ?_)
                            have f228 : 8 < x225.toInt := qi_nle c_227 rfl zc_8
                            refine lv_iconst (v := 1) hx hb dX9_goOn_214 (by decide) ?_
                            refine lv_goto (tgt := 233) hx hb dX9_goOn_215 (by decide) ?_
                            refine pM_X9_191_0 hx hb hG hown hK hP hD hS dX9_goOn_233 (fun H229 locs hP hD hS => ?_)
                            refine lv_goto (tgt := 377) hx hb dX9_goOn_236 (by decide) ?_
                            rw [hQ]
                            exact W.vret hx hb hr (fun t ht hW => ⟨⟨(), rfl, trivial, ⟨m8_i_at, m119_i_end, 1, i_number, m156_L, by rw [ht]; exact hP, hD, ⟨ie0, ie1, ie2, ie3, ie4, ie5, ie6, ie7, ie8, ie9, ie10, ie11, ie12, ie13, gi119_end_lo, gi119_end_hi, gi8_at_lo, ie17, ie18, ie19, ie20, ie21, ie22, ie23, ie24, ie25, ie26, ie27, ie28, ie29, ie30, ie31, ie32⟩, (ob_181 g8_2 g119_2), (ob_182 g119_2), (ob_185 g8_2 g119_2 zc_1)⟩⟩, hS.F ht⟩) hS.2.2 dX9_goOn_377
                          · skip
                            have f230 : y156_2.toInt < x218.toInt := qi_nle c_220 rfl rfl
                            have f231 : m8_i_at.toInt + 1 ≤ i_size.toInt := (ob_148 f22)
                            have f232 : m8_i_at.toInt + 1 ≤ i_size.toInt := (ob_148 f22)
                            have f233 : m8_i_at.toInt + 1 ≤ i_size.toInt := (ob_148 f22)
                            refine lv_aload_n hx hb dX9_goOn_175 rfl (lv_at hl 0 rfl) ?_
                            refine lv_aload_n hx hb dX9_goOn_176 rfl (lv_at hl 0 rfl) ?_
                            refine gM_X9_198_0 hx hb hG hown hK hP dX9_goOn_177 ?_
                            refine lv_bipush (v := 8) hx hb dX9_goOn_180 (by decide) ?_
                            refine lv_lshl (v := _) hx hb dX9_goOn_182 rfl ?_
                            refine lv_topl (fun y234 _ => ?_)
                            refine lv_aload_n hx hb dX9_goOn_183 rfl (lv_at hl 0 rfl) ?_
                            refine lv_iload_n hx hb dX9_goOn_184 rfl (lv_at hl 2 rfl) ?_
                            refine va_calli (va_runV (As := [.int y156_2]) (rest := [.long y234, .ref (r 0)]) ⟨hx, hb, hml, hown, hG⟩ (kX9_sign l dC dI r ct i_taped i_size i_faultKind m8_i_at m119_i_end i_token i_number i_bank i_rb i_codes i_within i_piled i_unitsInRule i_askHouse i_askTune i_acts i_undone i_laid i_knowns i_time f_text f_tunes f_houses f_hums f_told f_many f_ruleFrom f_ruleTo f_code f_eWhat f_eSign f_all f_kept f_was f_sTune f_boxAll J m156_L y156_2 H156.size ⟨ie0, ie1, ie2, ie3, ie4, ie5, ie6, ie7, ie8, ie9, ie10, ie11, ie12, ie13, gi119_end_lo, gi119_end_hi, gi8_at_lo, ie17, ie18, ie19, ie20, ie21, ie22, ie23, ie24, ie25, ie26, ie27, ie28, ie29, ie30, ie31, ie32⟩ (ob_139 g156_0)) (cwV 1 hG (goodV gw1366 gw1368 gw60 gw138 gw1369) rfl rfl rfl hd_X9_sign ⟨(Nat.le_of_ble_eq_true rfl), (Nat.le_of_ble_eq_true rfl)⟩) ⟨fbR, va_recv hK hP (ci := 8) (q0 := 0) rfl rfl, pR_in hP hK⟩ rfl rfl hl.1 rfl (lv_room (Nat.le_of_ble_eq_true rfl)) dX9_goOn_185 ⟨(Nat.le_of_ble_eq_true rfl), (Nat.le_of_ble_eq_true rfl)⟩) hS (fun q hq h => absurd hq (Nat.not_lt.mpr h)) (fun q h => hA q (Nat.le_trans hS.1 h)) (fun r_236 u_ t_ H235 locs ht hvm hw hB hz1 hk1 hS => ?_)
                            subst hw
                            have hP := wk hP hk1
                            obtain ⟨f237, f238, f239, f240⟩ := hB
                            have f241 : r_236.toInt = (sgz f_text i_size.toInt y156_2.toInt) := (ob_6 f237)
                            refine lv_i2l (v := _) hx hb dX9_goOn_188 rfl ?_
                            refine lv_topl (fun y242 _ => ?_)
                            refine lv_lor hx hb dX9_goOn_189 ?_
                            refine lv_topl (fun y243 _ => ?_)
                            refine pM_X9_198_0 hx hb hG hown hK hP hD hS dX9_goOn_190 (fun L245 H244 locs hP hD hS => ?_)
                            obtain ⟨x246, ex246⟩ : ∃ y : Int32, y = y156_2 + Int32.ofInt 1 := ⟨_, rfl⟩
                            have f247 : x246.toInt = y156_2.toInt + 1 := (ob_142 (qi_add ex246 rfl (by decide) (ob_140 g156_0) (ob_141 g156_1)))
                            refine lv_iinc (v := x246) (lv' := [(2, .int x246), (0, .ref (r 0)), (1, .int r_47)]) hx hb dX9_goOn_193 hl (k := 2) rfl ex246.symm (by decide) rfl (fun ls hl => ?_)
                            refine lv_goto (tgt := 156) hx hb dX9_goOn_196 (by decide) ?_
                            exact ih156 x246 L245 H244 _ _ (ob_149 g156_0 f247) (ob_190 ie3 g119_3 f217 f247) hP hD hS (lv_sub hl [1, 2, 0] rfl) (ob_191 hM156 f247)
                    exact L156 (-1 * m8_i_at.toInt + 1600 + 1).toNat m8_i_at L192 H191 _ _ (ob_139 g8_0) (ob_176 g8_1) hP hD hS (lv_sub hl [1, 2, 0] rfl) (mlt (ob_192 g8_1))
                  · skip
                    have f248 : r_185.toInt ≠ 0 := qi_ne c_189 rfl zc_0
                    have f249 : (97 : Int) ≤ (sgz f_text i_size.toInt m119_i_end.toInt) := (ob_169 f186 f248 f183)
                    have f250 : (sgz f_text i_size.toInt m119_i_end.toInt) ≤ (122 : Int) := (ob_170 f186 f248 f183)
                    have f251 : r_185.toInt = (1 : Int) := (ob_171 f186 f248 f183)
                    have f252 : (1 : Int) ≤ r_185.toInt := (ob_162 f187 f188 f251)
                    refine lv_aload_n hx hb dX9_goOn_133 rfl (lv_at hl 0 rfl) ?_
                    refine lv_dup hx hb dX9_goOn_134 rfl ?_
                    refine gM_X9_181_0 hx hb hG hown hK hP dX9_goOn_135 ?_
                    refine lv_iconst (v := 1) hx hb dX9_goOn_138 (by decide) ?_
                    refine lv_iadd hx hb dX9_goOn_139 ?_
                    refine lv_topi (fun x253 ex253 => ?_)
                    have f254 : x253.toInt = m119_i_end.toInt + 1 := (ob_142 (qi_add ex253 rfl zc_1 (ob_193 g119_0) (ob_194 g119_1)))
                    refine pM_X9_181_0 hx hb hG hown hK hP hD hS dX9_goOn_140 (fun H255 locs hP hD hS => ?_)
                    refine lv_goto (tgt := 119) hx hb dX9_goOn_143 (by decide) ?_
                    exact ih119 x253 H255 _ _ (ob_195 g119_0 f254) (ob_196 ie3 g119_3 f254) (ob_197 g119_2 f254) (ob_198 f182 f249 f254) (ob_199 g119_0 f254) (ob_198 f182 f249 f254) hP hD hS (lv_sub hl [0, 1] rfl) (ob_153 hM119 f254)
              exact L119 (i_size.toInt + -1 * x53.toInt + 1).toNat x53 H58 _ _ (ob_200 g8_0 f54) (ob_201 g8_1 f54) (ob_202 f54) (ob_152 f22 f54) (ob_149 g8_0 f54) (ob_152 f22 f54) hP hD hS (lv_sub hl [1, 0] rfl) (mlt (ob_203 f22 f54))
          · skip
            have f256 : r_38.toInt = 10 := qi_eq c_44 rfl zc_10
            have f257 : m8_i_at.toInt + 1 ≤ i_size.toInt := (ob_148 f22)
            have f258 : (sgz f_text i_size.toInt m8_i_at.toInt) ≤ (31 : Int) := (ob_204 f256 f43)
            have f259 : m8_i_at.toInt + 1 ≤ i_size.toInt := (ob_148 f22)
            refine lv_aload_n hx hb dX9_goOn_45 rfl (lv_at hl 0 rfl) ?_
            refine lv_dup hx hb dX9_goOn_46 rfl ?_
            refine gM_X9_184_0 hx hb hG hown hK hP dX9_goOn_47 ?_
            refine lv_iconst (v := 1) hx hb dX9_goOn_50 (by decide) ?_
            refine lv_iadd hx hb dX9_goOn_51 ?_
            refine lv_topi (fun x260 ex260 => ?_)
            have f261 : x260.toInt = m8_i_at.toInt + 1 := (ob_142 (qi_add ex260 rfl zc_1 (ob_140 g8_0) (ob_141 g8_1)))
            refine pM_X9_184_0 hx hb hG hown hK hP hD hS dX9_goOn_52 (fun H262 locs hP hD hS => ?_)
            refine lv_goto (tgt := 8) hx hb dX9_goOn_55 (by decide) ?_
            exact ih8 x260 H262 _ _ (ob_149 g8_0 f261) (ob_150 ie3 f22 f261) (ob_151 g8_2 f261) (ob_152 f22 f261) (ob_149 g8_0 f261) hP hD hS (lv_sub hl [0] rfl) (ob_153 hM8 f261)
  exact L8 (i_size.toInt + -1 * i_end.toInt + 1).toNat i_end H3 _ _ (ob_205 ie14 ie15) (ob_206 ie3 ie15) (ob_146) (ob_145 ie15) (ob_205 ie14 ie15) hP hD hS (lv_sub hl [0] rfl) (mlt (ob_177 ie15))
set_option maxHeartbeats 4000000 in
set_option maxRecDepth 100000 in
theorem kX9_isSignHere (l : Launch) (dC : Nat → ClassId) (dI : Nat → Nat → Nat) (r : Nat → Nat) (ct : Nat → ClassId) (i_taped i_size i_faultKind i_at i_end i_token i_number i_bank i_rb i_codes i_within i_piled i_unitsInRule i_askHouse i_askTune i_acts i_undone i_laid i_knowns i_time : Int32) (f_text f_tunes f_houses f_hums f_told f_many f_ruleFrom f_ruleTo f_code f_eWhat f_eSign f_all f_kept f_was f_sTune f_boxAll : Nat → Int32) (J : Nat → Nat → Int32) (L : Nat → Nat → Int64) (p0 : Int32) (sz : Nat) (hI : (IM i_taped i_size i_faultKind i_at i_end i_bank i_rb i_acts i_undone i_laid i_knowns i_time f_tunes f_houses f_hums f_told f_many f_ruleFrom f_ruleTo f_code f_all f_kept f_was f_sTune f_boxAll)) : Met l yX9_isSignHere (.code yX9_isSignHere cX9_isSignHere 2 (some .boolean) :: GW) { frames := 4, cells := 0, slots := 0, locals := 161 } (va_Pc [.ref (r 0), .int p0] (pR (dC, dI) (WM r ct i_taped i_size i_faultKind i_at i_end i_token i_number i_bank i_rb i_codes i_within i_piled i_unitsInRule i_askHouse i_askTune i_acts i_undone i_laid i_knowns i_time f_text f_tunes f_houses f_hums f_told f_many f_ruleFrom f_ruleTo f_code f_eWhat f_eSign f_all f_kept f_was f_sTune f_boxAll J L) (TM ct) sz)) (va_Qi (fun (r0 : Int32) (u : Int32) => r0 = u) (fun (u : Int32) (t : State) => (((i_token.toInt ≠ (5 : Int)) ∧ (u.toInt = (0 : Int))) ∨ ((i_token.toInt = (5 : Int)) ∧ ((sgz f_text i_size.toInt i_at.toInt) ≠ p0.toInt) ∧ (u.toInt = (0 : Int))) ∨ ((i_token.toInt = (5 : Int)) ∧ ((sgz f_text i_size.toInt i_at.toInt) = p0.toInt) ∧ (u.toInt = (1 : Int)))) ∧ ((0 : Int) ≤ u.toInt) ∧ (u.toInt ≤ (1 : Int))) (fun q => sz ≤ q)) 0 0 (fun q => sz ≤ q) := by
  refine Met.ofW (cc := cX9_isSignHere) (maxL := 2) (ret := (some .boolean)) (by decide) rfl ?_
  intro p e s m args below meth c0 s₁ B hml hv
  obtain ⟨rfl, hsz, hP, hK⟩ := hv
  have hx := B.exec
  have hb := B.bytes
  have hr := B.returns
  have hts := atoms_spec (ws := .code yX9_isSignHere cX9_isSignHere 2 (some .boolean) :: GW) B.pre
  have hG : ∀ w ∈ GW, w.before _ s = true := fun w h => hts w (List.mem_cons_of_mem _ h)
  have hown : s.vm.findClass RX9 = some m.cls := findClass_of_methodNamed B.named
  subst hsz
  have hS : va_S (fun q => s.heap.size ≤ q) s.heap s.heap [] := va_S.rf
  have hP : va_P (dC, dI) vwCl (WM r ct i_taped i_size i_faultKind i_at i_end i_token i_number i_bank i_rb i_codes i_within i_piled i_unitsInRule i_askHouse i_askTune i_acts i_undone i_laid i_knowns i_time f_text f_tunes f_houses f_hums f_told f_many f_ruleFrom f_ruleTo f_code f_eWhat f_eSign f_all f_kept f_was f_sTune f_boxAll J L) s.heap := hP
  have hl := lv_entry ([.ref (r 0), .int p0]) (n := 2) (Nat.le_of_ble_eq_true rfl)
  rw [lg_entry_eq]
  generalize (lg_sl ([.ref (r 0), .int p0]) ++ List.replicate (2 - (lg_sl ([.ref (r 0), .int p0])).length) Slot.unset).toArray = ls at hl ⊢
  have hl : lv_has ls 2 [(0, .ref (r 0)), (1, .int p0)] := hl
  refine nameQ (fun Q hQ => ?_)
  obtain ⟨ie0, ie1, ie2, ie3, ie4, ie5, ie6, ie7, ie8, ie9, ie10, ie11, ie12, ie13, ie14, ie15, ie16, ie17, ie18, ie19, ie20, ie21, ie22, ie23, ie24, ie25, ie26, ie27, ie28, ie29, ie30, ie31, ie32⟩ := id hI
  have f1 : 0 ≤ (f_tunes (i_bank.toInt).toNat).toInt ∧ (f_tunes (i_bank.toInt).toNat).toInt ≤ 5 := ie21 (i_bank.toInt)
  have f2 : 0 ≤ (f_houses (i_bank.toInt).toNat).toInt ∧ (f_houses (i_bank.toInt).toNat).toInt ≤ 4 := ie22 (i_bank.toInt)
  refine lv_aload_n hx hb dX9_isSignHere_0 rfl (lv_at hl 0 rfl) ?_
  refine gM_X9_191_0 hx hb hG hown hK hP dX9_isSignHere_1 ?_
  refine lv_iconst (v := 5) hx hb dX9_isSignHere_4 (by decide) ?_
  refine lv_icmp_ne (tgt := 24) hx hb dX9_isSignHere_5 (by decide) (fun c_3 => ?_) (fun c_3 => ?_)
  · skip
    have f4 : i_token.toInt ≠ 5 := qi_ne c_3 rfl zc_5
    refine lv_iconst (v := 0) hx hb dX9_isSignHere_24 (by decide) ?_
    rw [hQ]
    exact W.zret (v := 0) hx hb hr (by decide) (fun t ht hW => ⟨⟨0, 0, rfl, rfl, ⟨(ob_207 f4 zc_0), (ob_1 zc_0), (ob_11 zc_0)⟩⟩, hS.F ht⟩) hS.2.2 dX9_isSignHere_25
  · skip
    have f5 : i_token.toInt = 5 := qi_eq c_3 rfl zc_5
    refine lv_aload_n hx hb dX9_isSignHere_8 rfl (lv_at hl 0 rfl) ?_
    refine lv_aload_n hx hb dX9_isSignHere_9 rfl (lv_at hl 0 rfl) ?_
    refine gM_X9_184_0 hx hb hG hown hK hP dX9_isSignHere_10 ?_
    refine va_calli (va_runV (As := [.int i_at]) (rest := []) ⟨hx, hb, hml, hown, hG⟩ (kX9_sign l dC dI r ct i_taped i_size i_faultKind i_at i_end i_token i_number i_bank i_rb i_codes i_within i_piled i_unitsInRule i_askHouse i_askTune i_acts i_undone i_laid i_knowns i_time f_text f_tunes f_houses f_hums f_told f_many f_ruleFrom f_ruleTo f_code f_eWhat f_eSign f_all f_kept f_was f_sTune f_boxAll J L i_at s.heap.size hI (ob_139 ie16)) (cwV 1 hG (goodV gw1366 gw1368 gw60 gw138 gw1369) rfl rfl rfl hd_X9_sign ⟨(Nat.le_of_ble_eq_true rfl), (Nat.le_of_ble_eq_true rfl)⟩) ⟨fbR, va_recv hK hP (ci := 8) (q0 := 0) rfl rfl, pR_in hP hK⟩ rfl rfl hl.1 rfl (lv_room (Nat.le_of_ble_eq_true rfl)) dX9_isSignHere_13 ⟨(Nat.le_of_ble_eq_true rfl), (Nat.le_of_ble_eq_true rfl)⟩) hS (fun q hq h => absurd hq (Nat.not_lt.mpr h)) (fun q h => Nat.le_trans hS.1 h) (fun r_7 u_ t_ H6 locs ht hvm hw hB hz1 hk1 hS => ?_)
    subst hw
    have hP := wk hP hk1
    obtain ⟨f8, f9, f10, f11⟩ := hB
    have f12 : r_7.toInt = (sgz f_text i_size.toInt i_at.toInt) := (ob_6 f8)
    refine lv_iload_n hx hb dX9_isSignHere_16 rfl (lv_at hl 1 rfl) ?_
    refine lv_icmp_ne (tgt := 24) hx hb dX9_isSignHere_17 (by decide) (fun c_13 => ?_) (fun c_13 => ?_)
    · skip
      have f14 : r_7.toInt ≠ p0.toInt := qi_ne c_13 rfl rfl
      refine lv_iconst (v := 0) hx hb dX9_isSignHere_24 (by decide) ?_
      rw [hQ]
      exact W.zret (v := 0) hx hb hr (by decide) (fun t ht hW => ⟨⟨0, 0, rfl, rfl, ⟨(ob_208 f14 f12 zc_0), (ob_1 zc_0), (ob_11 zc_0)⟩⟩, hS.F ht⟩) hS.2.2 dX9_isSignHere_25
    · skip
      have f15 : r_7.toInt = p0.toInt := qi_eq c_13 rfl rfl
      refine lv_iconst (v := 1) hx hb dX9_isSignHere_20 (by decide) ?_
      refine lv_goto (tgt := 25) hx hb dX9_isSignHere_21 (by decide) ?_
      rw [hQ]
      exact W.zret (v := 1) hx hb hr (by decide) (fun t ht hW => ⟨⟨1, 1, rfl, rfl, ⟨(ob_209 f5 f15 f12 zc_1), (ob_14 zc_1), (ob_15 zc_1)⟩⟩, hS.F ht⟩) hS.2.2 dX9_isSignHere_25
set_option maxHeartbeats 4000000 in
set_option maxRecDepth 100000 in
theorem kX9_isWord (l : Launch) (dC : Nat → ClassId) (dI : Nat → Nat → Nat) (r : Nat → Nat) (ct : Nat → ClassId) (i_taped i_size i_faultKind i_at i_end i_token i_number i_bank i_rb i_codes i_within i_piled i_unitsInRule i_askHouse i_askTune i_acts i_undone i_laid i_knowns i_time : Int32) (f_text f_tunes f_houses f_hums f_told f_many f_ruleFrom f_ruleTo f_code f_eWhat f_eSign f_all f_kept f_was f_sTune f_boxAll : Nat → Int32) (J : Nat → Nat → Int32) (L : Nat → Nat → Int64) (p0 : Int64) (sz : Nat) (hI : (IM i_taped i_size i_faultKind i_at i_end i_bank i_rb i_acts i_undone i_laid i_knowns i_time f_tunes f_houses f_hums f_told f_many f_ruleFrom f_ruleTo f_code f_all f_kept f_was f_sTune f_boxAll)) : Met l yX9_isWord (.code yX9_isWord cX9_isWord 3 (some .boolean) :: GW) { frames := 2, cells := 0, slots := 0, locals := 100 } (va_Pc [.ref (r 0), .long p0] (pR (dC, dI) (WM r ct i_taped i_size i_faultKind i_at i_end i_token i_number i_bank i_rb i_codes i_within i_piled i_unitsInRule i_askHouse i_askTune i_acts i_undone i_laid i_knowns i_time f_text f_tunes f_houses f_hums f_told f_many f_ruleFrom f_ruleTo f_code f_eWhat f_eSign f_all f_kept f_was f_sTune f_boxAll J L) (TM ct) sz)) (va_Qi (fun (r0 : Int32) (u : Int32) => r0 = u) (fun (u : Int32) (t : State) => (((i_token.toInt ≠ (3 : Int)) ∧ (u.toInt = (0 : Int))) ∨ ((i_token.toInt = (3 : Int)) ∧ ((L 0 0).toInt ≠ p0.toInt) ∧ (u.toInt = (0 : Int))) ∨ ((i_token.toInt = (3 : Int)) ∧ ((L 0 0).toInt = p0.toInt) ∧ (u.toInt = (1 : Int)))) ∧ ((0 : Int) ≤ u.toInt) ∧ (u.toInt ≤ (1 : Int))) (fun q => sz ≤ q)) 0 0 (fun q => sz ≤ q) := by
  refine Met.ofW (cc := cX9_isWord) (maxL := 3) (ret := (some .boolean)) (by decide) rfl ?_
  intro p e s m args below meth c0 s₁ B hml hv
  obtain ⟨rfl, hsz, hP, hK⟩ := hv
  have hx := B.exec
  have hb := B.bytes
  have hr := B.returns
  have hts := atoms_spec (ws := .code yX9_isWord cX9_isWord 3 (some .boolean) :: GW) B.pre
  have hG : ∀ w ∈ GW, w.before _ s = true := fun w h => hts w (List.mem_cons_of_mem _ h)
  have hown : s.vm.findClass RX9 = some m.cls := findClass_of_methodNamed B.named
  subst hsz
  have hS : va_S (fun q => s.heap.size ≤ q) s.heap s.heap [] := va_S.rf
  have hP : va_P (dC, dI) vwCl (WM r ct i_taped i_size i_faultKind i_at i_end i_token i_number i_bank i_rb i_codes i_within i_piled i_unitsInRule i_askHouse i_askTune i_acts i_undone i_laid i_knowns i_time f_text f_tunes f_houses f_hums f_told f_many f_ruleFrom f_ruleTo f_code f_eWhat f_eSign f_all f_kept f_was f_sTune f_boxAll J L) s.heap := hP
  have hl := lv_entry ([.ref (r 0), .long p0]) (n := 3) (Nat.le_of_ble_eq_true rfl)
  rw [lg_entry_eq]
  generalize (lg_sl ([.ref (r 0), .long p0]) ++ List.replicate (3 - (lg_sl ([.ref (r 0), .long p0])).length) Slot.unset).toArray = ls at hl ⊢
  have hl : lv_has ls 3 [(0, .ref (r 0)), (1, .long p0)] := hl
  refine nameQ (fun Q hQ => ?_)
  obtain ⟨ie0, ie1, ie2, ie3, ie4, ie5, ie6, ie7, ie8, ie9, ie10, ie11, ie12, ie13, ie14, ie15, ie16, ie17, ie18, ie19, ie20, ie21, ie22, ie23, ie24, ie25, ie26, ie27, ie28, ie29, ie30, ie31, ie32⟩ := id hI
  have f1 : 0 ≤ (f_tunes (i_bank.toInt).toNat).toInt ∧ (f_tunes (i_bank.toInt).toNat).toInt ≤ 5 := ie21 (i_bank.toInt)
  have f2 : 0 ≤ (f_houses (i_bank.toInt).toNat).toInt ∧ (f_houses (i_bank.toInt).toNat).toInt ≤ 4 := ie22 (i_bank.toInt)
  refine lv_aload_n hx hb dX9_isWord_0 rfl (lv_at hl 0 rfl) ?_
  refine gM_X9_191_0 hx hb hG hown hK hP dX9_isWord_1 ?_
  refine lv_iconst (v := 3) hx hb dX9_isWord_4 (by decide) ?_
  refine lv_icmp_ne (tgt := 21) hx hb dX9_isWord_5 (by decide) (fun c_3 => ?_) (fun c_3 => ?_)
  · skip
    have f4 : i_token.toInt ≠ 3 := qi_ne c_3 rfl zc_3
    refine lv_iconst (v := 0) hx hb dX9_isWord_21 (by decide) ?_
    rw [hQ]
    exact W.zret (v := 0) hx hb hr (by decide) (fun t ht hW => ⟨⟨0, 0, rfl, rfl, ⟨(ob_210 f4 zc_0), (ob_1 zc_0), (ob_11 zc_0)⟩⟩, hS.F ht⟩) hS.2.2 dX9_isWord_22
  · skip
    have f5 : i_token.toInt = 3 := qi_eq c_3 rfl zc_3
    refine lv_aload_n hx hb dX9_isWord_8 rfl (lv_at hl 0 rfl) ?_
    refine gM_X9_198_0 hx hb hG hown hK hP dX9_isWord_9 ?_
    refine lv_lload_n hx hb dX9_isWord_12 rfl (lv_at hl 1 rfl) ?_
    refine W.lcmp hx hb dX9_isWord_13 ?_
    refine lv_topi (fun x6 ex6 => ?_)
    have f7 : (x6.toInt = 0 ∧ (L 0 0).toInt = p0.toInt) ∨ (x6.toInt ≠ 0 ∧ (L 0 0).toInt ≠ p0.toInt) := lcmp_or ex6
    refine lv_if_ne (tgt := 21) hx hb dX9_isWord_14 (by decide) (fun c_8 => ?_) (fun c_8 => ?_)
    · skip
      have f9 : x6.toInt ≠ 0 := qi_ne c_8 rfl zc_0
      have f10 : x6.toInt ≠ (0 : Int) := (ob_211 f7 f9)
      have f11 : (L 0 0).toInt ≠ p0.toInt := (ob_212 f7 f9 f10)
      refine lv_iconst (v := 0) hx hb dX9_isWord_21 (by decide) ?_
      rw [hQ]
      exact W.zret (v := 0) hx hb hr (by decide) (fun t ht hW => ⟨⟨0, 0, rfl, rfl, ⟨(ob_213 f5 f7 f11 zc_0), (ob_1 zc_0), (ob_11 zc_0)⟩⟩, hS.F ht⟩) hS.2.2 dX9_isWord_22
    · skip
      have f12 : x6.toInt = 0 := qi_eq c_8 rfl zc_0
      have f13 : x6.toInt = (0 : Int) := (ob_25 f12)
      have f14 : (L 0 0).toInt = p0.toInt := (ob_214 f7 f12 f13)
      refine lv_iconst (v := 1) hx hb dX9_isWord_17 (by decide) ?_
      refine lv_goto (tgt := 22) hx hb dX9_isWord_18 (by decide) ?_
      rw [hQ]
      exact W.zret (v := 1) hx hb hr (by decide) (fun t ht hW => ⟨⟨1, 1, rfl, rfl, ⟨(ob_215 f5 f14 zc_1), (ob_14 zc_1), (ob_15 zc_1)⟩⟩, hS.F ht⟩) hS.2.2 dX9_isWord_22
