set_option maxHeartbeats 4000000 in
set_option maxRecDepth 100000 in
theorem kX9_sign (l : Launch) (dC : Nat → ClassId) (dI : Nat → Nat → Nat) (r : Nat → Nat) (ct : Nat → ClassId) (i_taped i_size i_faultKind i_at i_end i_token i_number i_bank i_rb i_codes i_within i_piled i_unitsInRule i_askHouse i_askTune i_acts i_undone i_laid i_knowns i_time : Int32) (f_text f_tunes f_houses f_hums f_told f_many f_ruleFrom f_ruleTo f_code f_eWhat f_eSign f_all f_kept f_was f_sTune f_boxAll : Nat → Int32) (J : Nat → Nat → Int32) (L : Nat → Nat → Int64) (p0 : Int32) (sz : Nat) (hI : (IM i_taped i_size i_at i_end i_bank i_rb i_acts i_undone i_laid i_knowns i_time f_tunes f_houses f_hums f_told f_many f_ruleFrom f_ruleTo f_code f_all f_kept f_was f_sTune f_boxAll)) (hp0 : 0 ≤ p0.toInt) (hp1 : p0.toInt ≤ 2147483647) : Met l yX9_sign (.code yX9_sign cX9_sign 2 (some .int) :: GW) { frames := 2, cells := 0, slots := 0, locals := 100 } (va_Pc [.ref (r 0), .int p0] (pR (dC, dI) (WM r ct i_taped i_size i_faultKind i_at i_end i_token i_number i_bank i_rb i_codes i_within i_piled i_unitsInRule i_askHouse i_askTune i_acts i_undone i_laid i_knowns i_time f_text f_tunes f_houses f_hums f_told f_many f_ruleFrom f_ruleTo f_code f_eWhat f_eSign f_all f_kept f_was f_sTune f_boxAll J L) (TM ct) sz)) (va_Qi (fun (r0 : Int32) (u : Int32) => r0 = u) (fun (u : Int32) (t : State) => (((i_size.toInt ≤ p0.toInt) ∧ (u.toInt = 0)) ∨ ((p0.toInt + 1 ≤ i_size.toInt)))) (fun q => sz ≤ q)) 0 0 (fun q => sz ≤ q) := by
  refine Met.ofW (cc := cX9_sign) (maxL := 2) (ret := (some .int)) (by decide) rfl ?_
  intro p e s m args below meth c0 s₁ B hml hv
  obtain ⟨rfl, hsz, hP, hK⟩ := hv
  have hx := B.exec
  have hb := B.bytes
  have hr := B.returns
  have hts := atoms_spec (ws := .code yX9_sign cX9_sign 2 (some .int) :: GW) B.pre
  have hG : ∀ w ∈ GW, w.before _ s = true := fun w h => hts w (List.mem_cons_of_mem _ h)
  have hown : s.vm.findClass RX9 = some m.cls := findClass_of_methodNamed B.named
  subst hsz
  have hS : va_S (fun q => s.heap.size ≤ q) s.heap s.heap [] := va_S.rf
  have hP : va_P (dC, dI) vwCl (WM r ct i_taped i_size i_faultKind i_at i_end i_token i_number i_bank i_rb i_codes i_within i_piled i_unitsInRule i_askHouse i_askTune i_acts i_undone i_laid i_knowns i_time f_text f_tunes f_houses f_hums f_told f_many f_ruleFrom f_ruleTo f_code f_eWhat f_eSign f_all f_kept f_was f_sTune f_boxAll J L) s.heap := hP
  have hl := lv_entry ([.ref (r 0), .int p0]) (n := 2) (Nat.le_of_ble_eq_true rfl)
  rw [lg_entry_eq]
  generalize (lg_sl ([.ref (r 0), .int p0]) ++ List.replicate (2 - (lg_sl ([.ref (r 0), .int p0])).length) Slot.unset).toArray = ls at hl ⊢
  have hl : lv_has ls 2 [(0, .ref (r 0)), (1, .int p0)] := hl
  refine nameQ (fun Q hQ => ?_)
  obtain ⟨im0, im1, im2, im3, im4, im5, im6, im7, im8, im9, im10, im11, im12, im13, im14, im15, im16, im17, im18, im19, im20, im21, im22, im23, im24, im25, im26, im27, im28, im29, im30⟩ := id hI
  have f1 : 0 ≤ (f_tunes (i_bank.toInt).toNat).toInt ∧ (f_tunes (i_bank.toInt).toNat).toInt ≤ 5 := im20 (i_bank.toInt)
  have f2 : 0 ≤ (f_houses (i_bank.toInt).toNat).toInt ∧ (f_houses (i_bank.toInt).toNat).toInt ≤ 4 := im21 (i_bank.toInt)
  refine lv_iload_n hx hb dX9_sign_0 rfl (lv_at hl 1 rfl) ?_
  refine lv_aload_n hx hb dX9_sign_1 rfl (lv_at hl 0 rfl) ?_
  refine gM_X9_137_0 hx hb hG hown hK hP dX9_sign_2 ?_
  refine lv_icmp_ge (tgt := 21) hx hb dX9_sign_5 (by decide) (fun c_3 => ?_) (fun c_3 => ?_)
  · skip
    have f4 : i_size.toInt ≤ p0.toInt := qi_le c_3 rfl rfl
    refine lv_iconst (v := 0) hx hb dX9_sign_21 (by decide) ?_
    rw [hQ]
    exact W.iret (v := 0) hx hb hr (fun t ht hW => ⟨⟨0, 0, rfl, rfl, (ob_0 zc_0)⟩, hS.F ht⟩) hS.2.2 dX9_sign_22
  · skip
    have f5 : p0.toInt < i_size.toInt := qi_nle c_3 rfl rfl
    refine lv_aload_n hx hb dX9_sign_8 rfl (lv_at hl 0 rfl) ?_
    refine gM_X9_13_0 hx hb hG hown hK hP dX9_sign_9 ?_
    refine lv_iload_n hx hb dX9_sign_12 rfl (lv_at hl 1 rfl) ?_
    refine ldM_2 (mm := p0.toInt) hx hb hK hP rfl (ob_1 hp0 hp1 f5) (ob_2 im3 f5) dX9_sign_13 ?_
    refine lv_sipush (v := 255) hx hb dX9_sign_14 (by decide) ?_
    refine lv_iand hx hb dX9_sign_17 ?_
    refine lv_topi (fun x6 ex6 => ?_)
    refine lv_goto (tgt := 22) hx hb dX9_sign_18 (by decide) ?_
    rw [hQ]
    exact W.iret (v := x6) hx hb hr (fun t ht hW => ⟨⟨x6, x6, rfl, rfl, (ob_3 f5)⟩, hS.F ht⟩) hS.2.2 dX9_sign_22
set_option maxHeartbeats 4000000 in
set_option maxRecDepth 100000 in
theorem kX9_isLetter (l : Launch) (dC : Nat → ClassId) (dI : Nat → Nat → Nat) (p0 : Int32) (sz : Nat) : Met l yX9_isLetter (.code yX9_isLetter cX9_isLetter 1 (some .boolean) :: GW) { frames := 2, cells := 0, slots := 0, locals := 100 } (va_Pc [.int p0] (pR (dC, dI) [] [] sz)) (va_Qi (fun (r0 : Int32) (u : Int32) => r0 = u) (fun (u : Int32) (t : State) => (((p0.toInt ≤ 96) ∧ (u.toInt = 0)) ∨ ((97 ≤ p0.toInt) ∧ (123 ≤ p0.toInt) ∧ (u.toInt = 0)) ∨ ((97 ≤ p0.toInt) ∧ (p0.toInt ≤ 122) ∧ (u.toInt = 1))) ∧ (0 ≤ u.toInt) ∧ (u.toInt ≤ 1)) (fun q => sz ≤ q)) 0 0 (fun q => sz ≤ q) := by
  refine Met.ofW (cc := cX9_isLetter) (maxL := 1) (ret := (some .boolean)) (by decide) rfl ?_
  intro p e s m args below meth c0 s₁ B hml hv
  obtain ⟨rfl, hsz, hP, hK⟩ := hv
  have hx := B.exec
  have hb := B.bytes
  have hr := B.returns
  have hts := atoms_spec (ws := .code yX9_isLetter cX9_isLetter 1 (some .boolean) :: GW) B.pre
  have hG : ∀ w ∈ GW, w.before _ s = true := fun w h => hts w (List.mem_cons_of_mem _ h)
  have hown : s.vm.findClass RX9 = some m.cls := findClass_of_methodNamed B.named
  subst hsz
  have hS : va_S (fun q => s.heap.size ≤ q) s.heap s.heap [] := va_S.rf
  have hP : va_P (dC, dI) vwCl [] s.heap := hP
  have hl := lv_entry ([.int p0]) (n := 1) (Nat.le_of_ble_eq_true rfl)
  rw [lg_entry_eq]
  generalize (lg_sl ([.int p0]) ++ List.replicate (1 - (lg_sl ([.int p0])).length) Slot.unset).toArray = ls at hl ⊢
  have hl : lv_has ls 1 [(0, .int p0)] := hl
  refine nameQ (fun Q hQ => ?_)
  refine lv_iload_n hx hb dX9_isLetter_0 rfl (lv_at hl 0 rfl) ?_
  refine lv_bipush (v := 97) hx hb dX9_isLetter_1 (by decide) ?_
  refine lv_icmp_lt (tgt := 16) hx hb dX9_isLetter_3 (by decide) (fun c_1 => ?_) (fun c_1 => ?_)
  · skip
    have f2 : p0.toInt < 97 := qi_lt c_1 rfl zc_97
    refine lv_iconst (v := 0) hx hb dX9_isLetter_16 (by decide) ?_
    rw [hQ]
    exact W.zret (v := 0) hx hb hr (by decide) (fun t ht hW => ⟨⟨0, 0, rfl, rfl, ⟨(ob_4 f2 zc_0), (ob_5 zc_0), (ob_6 zc_0)⟩⟩, hS.F ht⟩) hS.2.2 dX9_isLetter_17
  · skip
    have f3 : 97 ≤ p0.toInt := qi_nlt c_1 rfl zc_97
    refine lv_iload_n hx hb dX9_isLetter_6 rfl (lv_at hl 0 rfl) ?_
    refine lv_bipush (v := 122) hx hb dX9_isLetter_7 (by decide) ?_
    refine lv_icmp_gt (tgt := 16) hx hb dX9_isLetter_9 (by decide) (fun c_4 => ?_) (fun c_4 => ?_)
    · skip
      have f5 : 122 < p0.toInt := qi_lt c_4 zc_122 rfl
      refine lv_iconst (v := 0) hx hb dX9_isLetter_16 (by decide) ?_
      rw [hQ]
      exact W.zret (v := 0) hx hb hr (by decide) (fun t ht hW => ⟨⟨0, 0, rfl, rfl, ⟨(ob_7 f3 f5 zc_0), (ob_5 zc_0), (ob_6 zc_0)⟩⟩, hS.F ht⟩) hS.2.2 dX9_isLetter_17
    · skip
      have f6 : p0.toInt ≤ 122 := qi_nlt c_4 zc_122 rfl
      refine lv_iconst (v := 1) hx hb dX9_isLetter_12 (by decide) ?_
      refine lv_goto (tgt := 17) hx hb dX9_isLetter_13 (by decide) ?_
      rw [hQ]
      exact W.zret (v := 1) hx hb hr (by decide) (fun t ht hW => ⟨⟨1, 1, rfl, rfl, ⟨(ob_8 f3 f6 zc_1), (ob_9 zc_1), (ob_10 zc_1)⟩⟩, hS.F ht⟩) hS.2.2 dX9_isLetter_17
set_option maxHeartbeats 4000000 in
set_option maxRecDepth 100000 in
theorem kX9_isDigit (l : Launch) (dC : Nat → ClassId) (dI : Nat → Nat → Nat) (p0 : Int32) (sz : Nat) : Met l yX9_isDigit (.code yX9_isDigit cX9_isDigit 1 (some .boolean) :: GW) { frames := 2, cells := 0, slots := 0, locals := 100 } (va_Pc [.int p0] (pR (dC, dI) [] [] sz)) (va_Qi (fun (r0 : Int32) (u : Int32) => r0 = u) (fun (u : Int32) (t : State) => (((p0.toInt ≤ 47) ∧ (u.toInt = 0)) ∨ ((48 ≤ p0.toInt) ∧ (58 ≤ p0.toInt) ∧ (u.toInt = 0)) ∨ ((48 ≤ p0.toInt) ∧ (p0.toInt ≤ 57) ∧ (u.toInt = 1))) ∧ (0 ≤ u.toInt) ∧ (u.toInt ≤ 1)) (fun q => sz ≤ q)) 0 0 (fun q => sz ≤ q) := by
  refine Met.ofW (cc := cX9_isDigit) (maxL := 1) (ret := (some .boolean)) (by decide) rfl ?_
  intro p e s m args below meth c0 s₁ B hml hv
  obtain ⟨rfl, hsz, hP, hK⟩ := hv
  have hx := B.exec
  have hb := B.bytes
  have hr := B.returns
  have hts := atoms_spec (ws := .code yX9_isDigit cX9_isDigit 1 (some .boolean) :: GW) B.pre
  have hG : ∀ w ∈ GW, w.before _ s = true := fun w h => hts w (List.mem_cons_of_mem _ h)
  have hown : s.vm.findClass RX9 = some m.cls := findClass_of_methodNamed B.named
  subst hsz
  have hS : va_S (fun q => s.heap.size ≤ q) s.heap s.heap [] := va_S.rf
  have hP : va_P (dC, dI) vwCl [] s.heap := hP
  have hl := lv_entry ([.int p0]) (n := 1) (Nat.le_of_ble_eq_true rfl)
  rw [lg_entry_eq]
  generalize (lg_sl ([.int p0]) ++ List.replicate (1 - (lg_sl ([.int p0])).length) Slot.unset).toArray = ls at hl ⊢
  have hl : lv_has ls 1 [(0, .int p0)] := hl
  refine nameQ (fun Q hQ => ?_)
  refine lv_iload_n hx hb dX9_isDigit_0 rfl (lv_at hl 0 rfl) ?_
  refine lv_bipush (v := 48) hx hb dX9_isDigit_1 (by decide) ?_
  refine lv_icmp_lt (tgt := 16) hx hb dX9_isDigit_3 (by decide) (fun c_1 => ?_) (fun c_1 => ?_)
  · skip
    have f2 : p0.toInt < 48 := qi_lt c_1 rfl zc_48
    refine lv_iconst (v := 0) hx hb dX9_isDigit_16 (by decide) ?_
    rw [hQ]
    exact W.zret (v := 0) hx hb hr (by decide) (fun t ht hW => ⟨⟨0, 0, rfl, rfl, ⟨(ob_11 f2 zc_0), (ob_5 zc_0), (ob_6 zc_0)⟩⟩, hS.F ht⟩) hS.2.2 dX9_isDigit_17
  · skip
    have f3 : 48 ≤ p0.toInt := qi_nlt c_1 rfl zc_48
    refine lv_iload_n hx hb dX9_isDigit_6 rfl (lv_at hl 0 rfl) ?_
    refine lv_bipush (v := 57) hx hb dX9_isDigit_7 (by decide) ?_
    refine lv_icmp_gt (tgt := 16) hx hb dX9_isDigit_9 (by decide) (fun c_4 => ?_) (fun c_4 => ?_)
    · skip
      have f5 : 57 < p0.toInt := qi_lt c_4 zc_57 rfl
      refine lv_iconst (v := 0) hx hb dX9_isDigit_16 (by decide) ?_
      rw [hQ]
      exact W.zret (v := 0) hx hb hr (by decide) (fun t ht hW => ⟨⟨0, 0, rfl, rfl, ⟨(ob_12 f3 f5 zc_0), (ob_5 zc_0), (ob_6 zc_0)⟩⟩, hS.F ht⟩) hS.2.2 dX9_isDigit_17
    · skip
      have f6 : p0.toInt ≤ 57 := qi_nlt c_4 zc_57 rfl
      refine lv_iconst (v := 1) hx hb dX9_isDigit_12 (by decide) ?_
      refine lv_goto (tgt := 17) hx hb dX9_isDigit_13 (by decide) ?_
      rw [hQ]
      exact W.zret (v := 1) hx hb hr (by decide) (fun t ht hW => ⟨⟨1, 1, rfl, rfl, ⟨(ob_13 f3 f6 zc_1), (ob_9 zc_1), (ob_10 zc_1)⟩⟩, hS.F ht⟩) hS.2.2 dX9_isDigit_17
set_option maxHeartbeats 4000000 in
set_option maxRecDepth 100000 in
theorem kX9_fails (l : Launch) (dC : Nat → ClassId) (dI : Nat → Nat → Nat) (r : Nat → Nat) (ct : Nat → ClassId) (i_taped i_size i_faultKind i_at i_end i_token i_number i_bank i_rb i_codes i_within i_piled i_unitsInRule i_askHouse i_askTune i_acts i_undone i_laid i_knowns i_time : Int32) (f_text f_tunes f_houses f_hums f_told f_many f_ruleFrom f_ruleTo f_code f_eWhat f_eSign f_all f_kept f_was f_sTune f_boxAll : Nat → Int32) (J : Nat → Nat → Int32) (L : Nat → Nat → Int64) (p0 p1 : Int32) (sz : Nat) (hI : (IM i_taped i_size i_at i_end i_bank i_rb i_acts i_undone i_laid i_knowns i_time f_tunes f_houses f_hums f_told f_many f_ruleFrom f_ruleTo f_code f_all f_kept f_was f_sTune f_boxAll)) : Met l yX9_fails (.code yX9_fails cX9_fails 3 none :: GW) { frames := 2, cells := 0, slots := 0, locals := 100 } (va_Pc [.ref (r 0), .int p0, .int p1] (pW (dC, dI) (WM r ct i_taped i_size i_faultKind i_at i_end i_token i_number i_bank i_rb i_codes i_within i_piled i_unitsInRule i_askHouse i_askTune i_acts i_undone i_laid i_knowns i_time f_text f_tunes f_houses f_hums f_told f_many f_ruleFrom f_ruleTo f_code f_eWhat f_eSign f_all f_kept f_was f_sTune f_boxAll J L) (TM ct) sz)) (va_Qv (fun _ : Unit => True) (fun (_ : Unit) (t : State) => ∃ (n_i_faultKind : Int32) (n_J : Nat → Nat → Int32), va_P (dC, dI) vwCl (WM r ct i_taped i_size n_i_faultKind i_at i_end i_token i_number i_bank i_rb i_codes i_within i_piled i_unitsInRule i_askHouse i_askTune i_acts i_undone i_laid i_knowns i_time f_text f_tunes f_houses f_hums f_told f_many f_ruleFrom f_ruleTo f_code f_eWhat f_eSign f_all f_kept f_was f_sTune f_boxAll n_J L) t.heap ∧ va_D (va_A (WM r ct i_taped i_size i_faultKind i_at i_end i_token i_number i_bank i_rb i_codes i_within i_piled i_unitsInRule i_askHouse i_askTune i_acts i_undone i_laid i_knowns i_time f_text f_tunes f_houses f_hums f_told f_many f_ruleFrom f_ruleTo f_code f_eWhat f_eSign f_all f_kept f_was f_sTune f_boxAll J L) sz) (WM r ct i_taped i_size n_i_faultKind i_at i_end i_token i_number i_bank i_rb i_codes i_within i_piled i_unitsInRule i_askHouse i_askTune i_acts i_undone i_laid i_knowns i_time f_text f_tunes f_houses f_hums f_told f_many f_ruleFrom f_ruleTo f_code f_eWhat f_eSign f_all f_kept f_was f_sTune f_boxAll n_J L) ∧ (IM i_taped i_size i_at i_end i_bank i_rb i_acts i_undone i_laid i_knowns i_time f_tunes f_houses f_hums f_told f_many f_ruleFrom f_ruleTo f_code f_all f_kept f_was f_sTune f_boxAll)) (va_A (WM r ct i_taped i_size i_faultKind i_at i_end i_token i_number i_bank i_rb i_codes i_within i_piled i_unitsInRule i_askHouse i_askTune i_acts i_undone i_laid i_knowns i_time f_text f_tunes f_houses f_hums f_told f_many f_ruleFrom f_ruleTo f_code f_eWhat f_eSign f_all f_kept f_was f_sTune f_boxAll J L) sz)) 0 0 (va_A (WM r ct i_taped i_size i_faultKind i_at i_end i_token i_number i_bank i_rb i_codes i_within i_piled i_unitsInRule i_askHouse i_askTune i_acts i_undone i_laid i_knowns i_time f_text f_tunes f_houses f_hums f_told f_many f_ruleFrom f_ruleTo f_code f_eWhat f_eSign f_all f_kept f_was f_sTune f_boxAll J L) sz) := by
  refine Met.ofW (cc := cX9_fails) (maxL := 3) (ret := none) (by decide) rfl ?_
  intro p e s m args below meth c0 s₁ B hml hv
  obtain ⟨rfl, hsz, hP, hK, hD0⟩ := hv
  have hx := B.exec
  have hb := B.bytes
  have hr := B.returns
  have hts := atoms_spec (ws := .code yX9_fails cX9_fails 3 none :: GW) B.pre
  have hG : ∀ w ∈ GW, w.before _ s = true := fun w h => hts w (List.mem_cons_of_mem _ h)
  have hown : s.vm.findClass RX9 = some m.cls := findClass_of_methodNamed B.named
  subst hsz
  have hD := hD0.self (sz := s.heap.size)
  generalize hAe : va_A (WM r ct i_taped i_size i_faultKind i_at i_end i_token i_number i_bank i_rb i_codes i_within i_piled i_unitsInRule i_askHouse i_askTune i_acts i_undone i_laid i_knowns i_time f_text f_tunes f_houses f_hums f_told f_many f_ruleFrom f_ruleTo f_code f_eWhat f_eSign f_all f_kept f_was f_sTune f_boxAll J L) s.heap.size = A at hD ⊢
  have hA : ∀ q : Nat, s.heap.size ≤ q → A q := fun q h => by rw [← hAe]; exact Or.inr h
  have hS : va_S A s.heap s.heap [] := va_S.rf
  have hP : va_P (dC, dI) vwCl (WM r ct i_taped i_size i_faultKind i_at i_end i_token i_number i_bank i_rb i_codes i_within i_piled i_unitsInRule i_askHouse i_askTune i_acts i_undone i_laid i_knowns i_time f_text f_tunes f_houses f_hums f_told f_many f_ruleFrom f_ruleTo f_code f_eWhat f_eSign f_all f_kept f_was f_sTune f_boxAll J L) s.heap := hP
  have hl := lv_entry ([.ref (r 0), .int p0, .int p1]) (n := 3) (Nat.le_of_ble_eq_true rfl)
  rw [lg_entry_eq]
  generalize (lg_sl ([.ref (r 0), .int p0, .int p1]) ++ List.replicate (3 - (lg_sl ([.ref (r 0), .int p0, .int p1])).length) Slot.unset).toArray = ls at hl ⊢
  have hl : lv_has ls 3 [(0, .ref (r 0)), (1, .int p0), (2, .int p1)] := hl
  refine nameQ (fun Q hQ => ?_)
  obtain ⟨im0, im1, im2, im3, im4, im5, im6, im7, im8, im9, im10, im11, im12, im13, im14, im15, im16, im17, im18, im19, im20, im21, im22, im23, im24, im25, im26, im27, im28, im29, im30⟩ := id hI
  have f1 : 0 ≤ (f_tunes (i_bank.toInt).toNat).toInt ∧ (f_tunes (i_bank.toInt).toNat).toInt ≤ 5 := im20 (i_bank.toInt)
  have f2 : 0 ≤ (f_houses (i_bank.toInt).toNat).toInt ∧ (f_houses (i_bank.toInt).toNat).toInt ≤ 4 := im21 (i_bank.toInt)
  refine lv_aload_n hx hb dX9_fails_0 rfl (lv_at hl 0 rfl) ?_
  refine gM_X9_140_0 hx hb hG hown hK hP dX9_fails_1 ?_
  refine lv_if_le (tgt := 8) hx hb dX9_fails_4 (by decide) (fun c_3 => ?_) (fun c_3 => ?_)
  · skip
    have f4 : i_faultKind.toInt ≤ 0 := qi_le c_3 rfl zc_0
    refine lv_aload_n hx hb dX9_fails_8 rfl (lv_at hl 0 rfl) ?_
    refine lv_iload_n hx hb dX9_fails_9 rfl (lv_at hl 1 rfl) ?_
    refine pM_X9_140_0 hx hb hG hown hK hP hD hS dX9_fails_10 (fun H5 locs hP hD hS => ?_)
    refine lv_aload_n hx hb dX9_fails_13 rfl (lv_at hl 0 rfl) ?_
    refine lv_iload_n hx hb dX9_fails_14 rfl (lv_at hl 2 rfl) ?_
    refine pM_X9_16_0 hx hb hG hown hK hP hD hS dX9_fails_15 (fun J7 H6 locs hP hD hS => ?_)
    rw [hQ]
    exact W.vret hx hb hr (fun t ht hW => ⟨⟨(), rfl, trivial, ⟨p0, J7, by rw [ht]; exact hP, hD, hI⟩⟩, hS.F ht⟩) hS.2.2 dX9_fails_18
  · skip
    have f8 : 0 < i_faultKind.toInt := qi_nle c_3 rfl zc_0
    rw [hQ]
    exact W.vret hx hb hr (fun t ht hW => ⟨⟨(), rfl, trivial, ⟨i_faultKind, J, by rw [ht]; exact hP, hD, hI⟩⟩, hS.F ht⟩) hS.2.2 dX9_fails_7
set_option maxHeartbeats 4000000 in
set_option maxRecDepth 100000 in
theorem kX9_isGood (l : Launch) (dC : Nat → ClassId) (dI : Nat → Nat → Nat) (r : Nat → Nat) (ct : Nat → ClassId) (i_taped i_size i_faultKind i_at i_end i_token i_number i_bank i_rb i_codes i_within i_piled i_unitsInRule i_askHouse i_askTune i_acts i_undone i_laid i_knowns i_time : Int32) (f_text f_tunes f_houses f_hums f_told f_many f_ruleFrom f_ruleTo f_code f_eWhat f_eSign f_all f_kept f_was f_sTune f_boxAll : Nat → Int32) (J : Nat → Nat → Int32) (L : Nat → Nat → Int64) (sz : Nat) (hI : (IM i_taped i_size i_at i_end i_bank i_rb i_acts i_undone i_laid i_knowns i_time f_tunes f_houses f_hums f_told f_many f_ruleFrom f_ruleTo f_code f_all f_kept f_was f_sTune f_boxAll)) : Met l yX9_isGood (.code yX9_isGood cX9_isGood 1 (some .boolean) :: GW) { frames := 2, cells := 0, slots := 0, locals := 100 } (va_Pc [.ref (r 0)] (pR (dC, dI) (WM r ct i_taped i_size i_faultKind i_at i_end i_token i_number i_bank i_rb i_codes i_within i_piled i_unitsInRule i_askHouse i_askTune i_acts i_undone i_laid i_knowns i_time f_text f_tunes f_houses f_hums f_told f_many f_ruleFrom f_ruleTo f_code f_eWhat f_eSign f_all f_kept f_was f_sTune f_boxAll J L) (TM ct) sz)) (va_Qi (fun (r0 : Int32) (u : Int32) => r0 = u) (fun (u : Int32) (t : State) => (((i_faultKind.toInt ≠ 0) ∧ (u.toInt = 0)) ∨ ((i_faultKind.toInt = 0) ∧ (u.toInt = 1))) ∧ (0 ≤ u.toInt) ∧ (u.toInt ≤ 1)) (fun q => sz ≤ q)) 0 0 (fun q => sz ≤ q) := by
  refine Met.ofW (cc := cX9_isGood) (maxL := 1) (ret := (some .boolean)) (by decide) rfl ?_
  intro p e s m args below meth c0 s₁ B hml hv
  obtain ⟨rfl, hsz, hP, hK⟩ := hv
  have hx := B.exec
  have hb := B.bytes
  have hr := B.returns
  have hts := atoms_spec (ws := .code yX9_isGood cX9_isGood 1 (some .boolean) :: GW) B.pre
  have hG : ∀ w ∈ GW, w.before _ s = true := fun w h => hts w (List.mem_cons_of_mem _ h)
  have hown : s.vm.findClass RX9 = some m.cls := findClass_of_methodNamed B.named
  subst hsz
  have hS : va_S (fun q => s.heap.size ≤ q) s.heap s.heap [] := va_S.rf
  have hP : va_P (dC, dI) vwCl (WM r ct i_taped i_size i_faultKind i_at i_end i_token i_number i_bank i_rb i_codes i_within i_piled i_unitsInRule i_askHouse i_askTune i_acts i_undone i_laid i_knowns i_time f_text f_tunes f_houses f_hums f_told f_many f_ruleFrom f_ruleTo f_code f_eWhat f_eSign f_all f_kept f_was f_sTune f_boxAll J L) s.heap := hP
  have hl := lv_entry ([.ref (r 0)]) (n := 1) (Nat.le_of_ble_eq_true rfl)
  rw [lg_entry_eq]
  generalize (lg_sl ([.ref (r 0)]) ++ List.replicate (1 - (lg_sl ([.ref (r 0)])).length) Slot.unset).toArray = ls at hl ⊢
  have hl : lv_has ls 1 [(0, .ref (r 0))] := hl
  refine nameQ (fun Q hQ => ?_)
  obtain ⟨im0, im1, im2, im3, im4, im5, im6, im7, im8, im9, im10, im11, im12, im13, im14, im15, im16, im17, im18, im19, im20, im21, im22, im23, im24, im25, im26, im27, im28, im29, im30⟩ := id hI
  have f1 : 0 ≤ (f_tunes (i_bank.toInt).toNat).toInt ∧ (f_tunes (i_bank.toInt).toNat).toInt ≤ 5 := im20 (i_bank.toInt)
  have f2 : 0 ≤ (f_houses (i_bank.toInt).toNat).toInt ∧ (f_houses (i_bank.toInt).toNat).toInt ≤ 4 := im21 (i_bank.toInt)
  refine lv_aload_n hx hb dX9_isGood_0 rfl (lv_at hl 0 rfl) ?_
  refine gM_X9_140_0 hx hb hG hown hK hP dX9_isGood_1 ?_
  refine lv_if_ne (tgt := 11) hx hb dX9_isGood_4 (by decide) (fun c_3 => ?_) (fun c_3 => ?_)
  · skip
    have f4 : i_faultKind.toInt ≠ 0 := qi_ne c_3 rfl zc_0
    refine lv_iconst (v := 0) hx hb dX9_isGood_11 (by decide) ?_
    rw [hQ]
    exact W.zret (v := 0) hx hb hr (by decide) (fun t ht hW => ⟨⟨0, 0, rfl, rfl, ⟨(ob_14 f4 zc_0), (ob_5 zc_0), (ob_6 zc_0)⟩⟩, hS.F ht⟩) hS.2.2 dX9_isGood_12
  · skip
    have f5 : i_faultKind.toInt = 0 := qi_eq c_3 rfl zc_0
    refine lv_iconst (v := 1) hx hb dX9_isGood_7 (by decide) ?_
    refine lv_goto (tgt := 12) hx hb dX9_isGood_8 (by decide) ?_
    rw [hQ]
    exact W.zret (v := 1) hx hb hr (by decide) (fun t ht hW => ⟨⟨1, 1, rfl, rfl, ⟨(ob_15 f5 zc_1), (ob_9 zc_1), (ob_10 zc_1)⟩⟩, hS.F ht⟩) hS.2.2 dX9_isGood_12
set_option maxHeartbeats 4000000 in
set_option maxRecDepth 100000 in
theorem kX9_isKept (l : Launch) (dC : Nat → ClassId) (dI : Nat → Nat → Nat) (p0 : Int64) (sz : Nat) : Met l yX9_isKept (.code yX9_isKept cX9_isKept 3 (some .boolean) :: GW) { frames := 2, cells := 0, slots := 0, locals := 100 } (va_Pc [.long p0] (pR (dC, dI) [] [] sz)) (va_Qi (fun (r0 : Int32) (u : Int32) => r0 = u) (fun (u : Int32) (t : State) => (0 ≤ u.toInt) ∧ (u.toInt ≤ 1)) (fun q => sz ≤ q)) 0 0 (fun q => sz ≤ q) := by
  refine Met.ofW (cc := cX9_isKept) (maxL := 3) (ret := (some .boolean)) (by decide) rfl ?_
  intro p e s m args below meth c0 s₁ B hml hv
  obtain ⟨rfl, hsz, hP, hK⟩ := hv
  have hx := B.exec
  have hb := B.bytes
  have hr := B.returns
  have hts := atoms_spec (ws := .code yX9_isKept cX9_isKept 3 (some .boolean) :: GW) B.pre
  have hG : ∀ w ∈ GW, w.before _ s = true := fun w h => hts w (List.mem_cons_of_mem _ h)
  have hown : s.vm.findClass RX9 = some m.cls := findClass_of_methodNamed B.named
  subst hsz
  have hS : va_S (fun q => s.heap.size ≤ q) s.heap s.heap [] := va_S.rf
  have hP : va_P (dC, dI) vwCl [] s.heap := hP
  have hl := lv_entry ([.long p0]) (n := 3) (Nat.le_of_ble_eq_true rfl)
  rw [lg_entry_eq]
  generalize (lg_sl ([.long p0]) ++ List.replicate (3 - (lg_sl ([.long p0])).length) Slot.unset).toArray = ls at hl ⊢
  have hl : lv_has ls 3 [(0, .long p0)] := hl
  refine nameQ (fun Q hQ => ?_)
  refine lv_lload_n hx hb dX9_isKept_0 rfl (lv_at hl 0 rfl) ?_
  refine lv_ldc2 (v := 7021235455869215084) hx hb hown (hG _ gw1376) dX9_isKept_1 ?_
  refine W.lcmp hx hb dX9_isKept_4 ?_
  refine lv_topi (fun x1 ex1 => ?_)
  have f2 : (x1.toInt = 0 ∧ p0.toInt = (7021235455869215084 : Int64).toInt) ∨ (x1.toInt ≠ 0 ∧ p0.toInt ≠ (7021235455869215084 : Int64).toInt) := lcmp_or ex1
  refine lv_if_eq (tgt := 72) hx hb dX9_isKept_5 (by decide) (fun c_3 => ?_) (fun c_3 => ?_)
  · skip
    have f4 : x1.toInt = 0 := qi_eq c_3 rfl zc_0
    refine lv_iconst (v := 1) hx hb dX9_isKept_72 (by decide) ?_
    refine lv_goto (tgt := 77) hx hb dX9_isKept_73 (by decide) ?_
    refine lv_istore_n (lv' := [(2, .int 1), (0, .long p0)]) hx hb dX9_isKept_77 rfl hl (by decide) rfl (fun ls hl => ?_)
    refine lv_iload_n hx hb dX9_isKept_78 rfl (lv_at hl 0 rfl) ?_
    refine lv_if_ne (tgt := 162) hx hb dX9_isKept_79 (by decide) (fun c_5 => ?_) (fun c_5 => absurd c_5 (by decide))
    refine lv_iconst (v := 1) hx hb dX9_isKept_162 (by decide) ?_
    refine lv_goto (tgt := 167) hx hb dX9_isKept_163 (by decide) ?_
    rw [hQ]
    exact W.zret (v := 1) hx hb hr (by decide) (fun t ht hW => ⟨⟨1, 1, rfl, rfl, ⟨(ob_9 zc_1), (ob_10 zc_1)⟩⟩, hS.F ht⟩) hS.2.2 dX9_isKept_167
  · skip
    have f6 : x1.toInt ≠ 0 := qi_ne c_3 rfl zc_0
    refine lv_lload_n hx hb dX9_isKept_8 rfl (lv_at hl 0 rfl) ?_
    refine lv_ldc2 (v := 1953853029) hx hb hown (hG _ gw1377) dX9_isKept_9 ?_
    refine W.lcmp hx hb dX9_isKept_12 ?_
    refine lv_topi (fun x7 ex7 => ?_)
    have f8 : (x7.toInt = 0 ∧ p0.toInt = (1953853029 : Int64).toInt) ∨ (x7.toInt ≠ 0 ∧ p0.toInt ≠ (1953853029 : Int64).toInt) := lcmp_or ex7
    refine lv_if_eq (tgt := 72) hx hb dX9_isKept_13 (by decide) (fun c_9 => ?_) (fun c_9 => ?_)
    · skip
      have f10 : x7.toInt = 0 := qi_eq c_9 rfl zc_0
      refine lv_iconst (v := 1) hx hb dX9_isKept_72 (by decide) ?_
      refine lv_goto (tgt := 77) hx hb dX9_isKept_73 (by decide) ?_
      refine lv_istore_n (lv' := [(2, .int 1), (0, .long p0)]) hx hb dX9_isKept_77 rfl hl (by decide) rfl (fun ls hl => ?_)
      refine lv_iload_n hx hb dX9_isKept_78 rfl (lv_at hl 0 rfl) ?_
      refine lv_if_ne (tgt := 162) hx hb dX9_isKept_79 (by decide) (fun c_11 => ?_) (fun c_11 => absurd c_11 (by decide))
      refine lv_iconst (v := 1) hx hb dX9_isKept_162 (by decide) ?_
      refine lv_goto (tgt := 167) hx hb dX9_isKept_163 (by decide) ?_
      rw [hQ]
      exact W.zret (v := 1) hx hb hr (by decide) (fun t ht hW => ⟨⟨1, 1, rfl, rfl, ⟨(ob_9 zc_1), (ob_10 zc_1)⟩⟩, hS.F ht⟩) hS.2.2 dX9_isKept_167
    · skip
      have f12 : x7.toInt ≠ 0 := qi_ne c_9 rfl zc_0
      refine lv_lload_n hx hb dX9_isKept_16 rfl (lv_at hl 0 rfl) ?_
      refine lv_ldc2 (v := 482955846501) hx hb hown (hG _ gw1378) dX9_isKept_17 ?_
      refine W.lcmp hx hb dX9_isKept_20 ?_
      refine lv_topi (fun x13 ex13 => ?_)
      have f14 : (x13.toInt = 0 ∧ p0.toInt = (482955846501 : Int64).toInt) ∨ (x13.toInt ≠ 0 ∧ p0.toInt ≠ (482955846501 : Int64).toInt) := lcmp_or ex13
      refine lv_if_eq (tgt := 72) hx hb dX9_isKept_21 (by decide) (fun c_15 => ?_) (fun c_15 => ?_)
      · skip
        have f16 : x13.toInt = 0 := qi_eq c_15 rfl zc_0
        refine lv_iconst (v := 1) hx hb dX9_isKept_72 (by decide) ?_
        refine lv_goto (tgt := 77) hx hb dX9_isKept_73 (by decide) ?_
        refine lv_istore_n (lv' := [(2, .int 1), (0, .long p0)]) hx hb dX9_isKept_77 rfl hl (by decide) rfl (fun ls hl => ?_)
        refine lv_iload_n hx hb dX9_isKept_78 rfl (lv_at hl 0 rfl) ?_
        refine lv_if_ne (tgt := 162) hx hb dX9_isKept_79 (by decide) (fun c_17 => ?_) (fun c_17 => absurd c_17 (by decide))
        refine lv_iconst (v := 1) hx hb dX9_isKept_162 (by decide) ?_
        refine lv_goto (tgt := 167) hx hb dX9_isKept_163 (by decide) ?_
        rw [hQ]
        exact W.zret (v := 1) hx hb hr (by decide) (fun t ht hW => ⟨⟨1, 1, rfl, rfl, ⟨(ob_9 zc_1), (ob_10 zc_1)⟩⟩, hS.F ht⟩) hS.2.2 dX9_isKept_167
      · skip
        have f18 : x13.toInt ≠ 0 := qi_ne c_15 rfl zc_0
        refine lv_lload_n hx hb dX9_isKept_24 rfl (lv_at hl 0 rfl) ?_
        refine lv_ldc2 (v := 474316301683) hx hb hown (hG _ gw1379) dX9_isKept_25 ?_
        refine W.lcmp hx hb dX9_isKept_28 ?_
        refine lv_topi (fun x19 ex19 => ?_)
        have f20 : (x19.toInt = 0 ∧ p0.toInt = (474316301683 : Int64).toInt) ∨ (x19.toInt ≠ 0 ∧ p0.toInt ≠ (474316301683 : Int64).toInt) := lcmp_or ex19
        refine lv_if_eq (tgt := 72) hx hb dX9_isKept_29 (by decide) (fun c_21 => ?_) (fun c_21 => ?_)
        · skip
          have f22 : x19.toInt = 0 := qi_eq c_21 rfl zc_0
          refine lv_iconst (v := 1) hx hb dX9_isKept_72 (by decide) ?_
          refine lv_goto (tgt := 77) hx hb dX9_isKept_73 (by decide) ?_
          refine lv_istore_n (lv' := [(2, .int 1), (0, .long p0)]) hx hb dX9_isKept_77 rfl hl (by decide) rfl (fun ls hl => ?_)
          refine lv_iload_n hx hb dX9_isKept_78 rfl (lv_at hl 0 rfl) ?_
          refine lv_if_ne (tgt := 162) hx hb dX9_isKept_79 (by decide) (fun c_23 => ?_) (fun c_23 => absurd c_23 (by decide))
          refine lv_iconst (v := 1) hx hb dX9_isKept_162 (by decide) ?_
          refine lv_goto (tgt := 167) hx hb dX9_isKept_163 (by decide) ?_
          rw [hQ]
          exact W.zret (v := 1) hx hb hr (by decide) (fun t ht hW => ⟨⟨1, 1, rfl, rfl, ⟨(ob_9 zc_1), (ob_10 zc_1)⟩⟩, hS.F ht⟩) hS.2.2 dX9_isKept_167
        · skip
          have f24 : x19.toInt ≠ 0 := qi_ne c_21 rfl zc_0
          refine lv_lload_n hx hb dX9_isKept_32 rfl (lv_at hl 0 rfl) ?_
          refine lv_ldc2 (v := 448546567013) hx hb hown (hG _ gw1380) dX9_isKept_33 ?_
          refine W.lcmp hx hb dX9_isKept_36 ?_
          refine lv_topi (fun x25 ex25 => ?_)
          have f26 : (x25.toInt = 0 ∧ p0.toInt = (448546567013 : Int64).toInt) ∨ (x25.toInt ≠ 0 ∧ p0.toInt ≠ (448546567013 : Int64).toInt) := lcmp_or ex25
          refine lv_if_eq (tgt := 72) hx hb dX9_isKept_37 (by decide) (fun c_27 => ?_) (fun c_27 => ?_)
          · skip
            have f28 : x25.toInt = 0 := qi_eq c_27 rfl zc_0
            refine lv_iconst (v := 1) hx hb dX9_isKept_72 (by decide) ?_
            refine lv_goto (tgt := 77) hx hb dX9_isKept_73 (by decide) ?_
            refine lv_istore_n (lv' := [(2, .int 1), (0, .long p0)]) hx hb dX9_isKept_77 rfl hl (by decide) rfl (fun ls hl => ?_)
            refine lv_iload_n hx hb dX9_isKept_78 rfl (lv_at hl 0 rfl) ?_
            refine lv_if_ne (tgt := 162) hx hb dX9_isKept_79 (by decide) (fun c_29 => ?_) (fun c_29 => absurd c_29 (by decide))
            refine lv_iconst (v := 1) hx hb dX9_isKept_162 (by decide) ?_
            refine lv_goto (tgt := 167) hx hb dX9_isKept_163 (by decide) ?_
            rw [hQ]
            exact W.zret (v := 1) hx hb hr (by decide) (fun t ht hW => ⟨⟨1, 1, rfl, rfl, ⟨(ob_9 zc_1), (ob_10 zc_1)⟩⟩, hS.F ht⟩) hS.2.2 dX9_isKept_167
          · skip
            have f30 : x25.toInt ≠ 0 := qi_ne c_27 rfl zc_0
            refine lv_lload_n hx hb dX9_isKept_40 rfl (lv_at hl 0 rfl) ?_
            refine lv_ldc2 (v := 24948) hx hb hown (hG _ gw1381) dX9_isKept_41 ?_
            refine W.lcmp hx hb dX9_isKept_44 ?_
            refine lv_topi (fun x31 ex31 => ?_)
            have f32 : (x31.toInt = 0 ∧ p0.toInt = (24948 : Int64).toInt) ∨ (x31.toInt ≠ 0 ∧ p0.toInt ≠ (24948 : Int64).toInt) := lcmp_or ex31
            refine lv_if_eq (tgt := 72) hx hb dX9_isKept_45 (by decide) (fun c_33 => ?_) (fun c_33 => ?_)
            · skip
              have f34 : x31.toInt = 0 := qi_eq c_33 rfl zc_0
              refine lv_iconst (v := 1) hx hb dX9_isKept_72 (by decide) ?_
              refine lv_goto (tgt := 77) hx hb dX9_isKept_73 (by decide) ?_
              refine lv_istore_n (lv' := [(2, .int 1), (0, .long p0)]) hx hb dX9_isKept_77 rfl hl (by decide) rfl (fun ls hl => ?_)
              refine lv_iload_n hx hb dX9_isKept_78 rfl (lv_at hl 0 rfl) ?_
              refine lv_if_ne (tgt := 162) hx hb dX9_isKept_79 (by decide) (fun c_35 => ?_) (fun c_35 => absurd c_35 (by decide))
              refine lv_iconst (v := 1) hx hb dX9_isKept_162 (by decide) ?_
              refine lv_goto (tgt := 167) hx hb dX9_isKept_163 (by decide) ?_
              rw [hQ]
              exact W.zret (v := 1) hx hb hr (by decide) (fun t ht hW => ⟨⟨1, 1, rfl, rfl, ⟨(ob_9 zc_1), (ob_10 zc_1)⟩⟩, hS.F ht⟩) hS.2.2 dX9_isKept_167
            · skip
              have f36 : x31.toInt ≠ 0 := qi_ne c_33 rfl zc_0
              refine lv_lload_n hx hb dX9_isKept_48 rfl (lv_at hl 0 rfl) ?_
              refine lv_ldc2 (v := 483006772069) hx hb hown (hG _ gw1382) dX9_isKept_49 ?_
              refine W.lcmp hx hb dX9_isKept_52 ?_
              refine lv_topi (fun x37 ex37 => ?_)
              have f38 : (x37.toInt = 0 ∧ p0.toInt = (483006772069 : Int64).toInt) ∨ (x37.toInt ≠ 0 ∧ p0.toInt ≠ (483006772069 : Int64).toInt) := lcmp_or ex37
              refine lv_if_eq (tgt := 72) hx hb dX9_isKept_53 (by decide) (fun c_39 => ?_) (fun c_39 => ?_)
              · skip
                have f40 : x37.toInt = 0 := qi_eq c_39 rfl zc_0
                refine lv_iconst (v := 1) hx hb dX9_isKept_72 (by decide) ?_
                refine lv_goto (tgt := 77) hx hb dX9_isKept_73 (by decide) ?_
                refine lv_istore_n (lv' := [(2, .int 1), (0, .long p0)]) hx hb dX9_isKept_77 rfl hl (by decide) rfl (fun ls hl => ?_)
                refine lv_iload_n hx hb dX9_isKept_78 rfl (lv_at hl 0 rfl) ?_
                refine lv_if_ne (tgt := 162) hx hb dX9_isKept_79 (by decide) (fun c_41 => ?_) (fun c_41 => absurd c_41 (by decide))
                refine lv_iconst (v := 1) hx hb dX9_isKept_162 (by decide) ?_
                refine lv_goto (tgt := 167) hx hb dX9_isKept_163 (by decide) ?_
                rw [hQ]
                exact W.zret (v := 1) hx hb hr (by decide) (fun t ht hW => ⟨⟨1, 1, rfl, rfl, ⟨(ob_9 zc_1), (ob_10 zc_1)⟩⟩, hS.F ht⟩) hS.2.2 dX9_isKept_167
              · skip
                have f42 : x37.toInt ≠ 0 := qi_ne c_39 rfl zc_0
                refine lv_lload_n hx hb dX9_isKept_56 rfl (lv_at hl 0 rfl) ?_
                refine lv_ldc2 (v := 465625113971) hx hb hown (hG _ gw1383) dX9_isKept_57 ?_
                refine W.lcmp hx hb dX9_isKept_60 ?_
                refine lv_topi (fun x43 ex43 => ?_)
                have f44 : (x43.toInt = 0 ∧ p0.toInt = (465625113971 : Int64).toInt) ∨ (x43.toInt ≠ 0 ∧ p0.toInt ≠ (465625113971 : Int64).toInt) := lcmp_or ex43
                refine lv_if_eq (tgt := 72) hx hb dX9_isKept_61 (by decide) (fun c_45 => ?_) (fun c_45 => ?_)
                · skip
                  have f46 : x43.toInt = 0 := qi_eq c_45 rfl zc_0
                  refine lv_iconst (v := 1) hx hb dX9_isKept_72 (by decide) ?_
                  refine lv_goto (tgt := 77) hx hb dX9_isKept_73 (by decide) ?_
                  refine lv_istore_n (lv' := [(2, .int 1), (0, .long p0)]) hx hb dX9_isKept_77 rfl hl (by decide) rfl (fun ls hl => ?_)
                  refine lv_iload_n hx hb dX9_isKept_78 rfl (lv_at hl 0 rfl) ?_
                  refine lv_if_ne (tgt := 162) hx hb dX9_isKept_79 (by decide) (fun c_47 => ?_) (fun c_47 => absurd c_47 (by decide))
                  refine lv_iconst (v := 1) hx hb dX9_isKept_162 (by decide) ?_
                  refine lv_goto (tgt := 167) hx hb dX9_isKept_163 (by decide) ?_
                  rw [hQ]
                  exact W.zret (v := 1) hx hb hr (by decide) (fun t ht hW => ⟨⟨1, 1, rfl, rfl, ⟨(ob_9 zc_1), (ob_10 zc_1)⟩⟩, hS.F ht⟩) hS.2.2 dX9_isKept_167
                · skip
                  have f48 : x43.toInt ≠ 0 := qi_ne c_45 rfl zc_0
                  refine lv_lload_n hx hb dX9_isKept_64 rfl (lv_at hl 0 rfl) ?_
                  refine lv_ldc2 (v := 1735156068) hx hb hown (hG _ gw1384) dX9_isKept_65 ?_
                  refine W.lcmp hx hb dX9_isKept_68 ?_
                  refine lv_topi (fun x49 ex49 => ?_)
                  have f50 : (x49.toInt = 0 ∧ p0.toInt = (1735156068 : Int64).toInt) ∨ (x49.toInt ≠ 0 ∧ p0.toInt ≠ (1735156068 : Int64).toInt) := lcmp_or ex49
                  refine lv_if_ne (tgt := 76) hx hb dX9_isKept_69 (by decide) (fun c_51 => ?_) (fun c_51 => ?_)
                  · skip
                    have f52 : x49.toInt ≠ 0 := qi_ne c_51 rfl zc_0
                    refine lv_iconst (v := 0) hx hb dX9_isKept_76 (by decide) ?_
                    refine lv_istore_n (lv' := [(2, .int 0), (0, .long p0)]) hx hb dX9_isKept_77 rfl hl (by decide) rfl (fun ls hl => ?_)
                    refine lv_iload_n hx hb dX9_isKept_78 rfl (lv_at hl 0 rfl) ?_
                    refine lv_if_ne (tgt := 162) hx hb dX9_isKept_79 (by decide) (fun c_53 => absurd (by decide) c_53) (fun c_53 => ?_)
                    refine lv_lload_n hx hb dX9_isKept_82 rfl (lv_at hl 1 rfl) ?_
                    refine lv_ldc2 (v := 1752526195) hx hb hown (hG _ gw1385) dX9_isKept_83 ?_
                    refine W.lcmp hx hb dX9_isKept_86 ?_
                    refine lv_topi (fun x54 ex54 => ?_)
                    have f55 : (x54.toInt = 0 ∧ p0.toInt = (1752526195 : Int64).toInt) ∨ (x54.toInt ≠ 0 ∧ p0.toInt ≠ (1752526195 : Int64).toInt) := lcmp_or ex54
                    refine lv_if_eq (tgt := 162) hx hb dX9_isKept_87 (by decide) (fun c_56 => ?_) (fun c_56 => ?_)
                    · skip
                      have f57 : x54.toInt = 0 := qi_eq c_56 rfl zc_0
                      refine lv_iconst (v := 1) hx hb dX9_isKept_162 (by decide) ?_
                      refine lv_goto (tgt := 167) hx hb dX9_isKept_163 (by decide) ?_
                      rw [hQ]
                      exact W.zret (v := 1) hx hb hr (by decide) (fun t ht hW => ⟨⟨1, 1, rfl, rfl, ⟨(ob_9 zc_1), (ob_10 zc_1)⟩⟩, hS.F ht⟩) hS.2.2 dX9_isKept_167
                    · skip
                      have f58 : x54.toInt ≠ 0 := qi_ne c_56 rfl zc_0
                      refine lv_lload_n hx hb dX9_isKept_90 rfl (lv_at hl 1 rfl) ?_
                      refine lv_ldc2 (v := 1685217655) hx hb hown (hG _ gw1386) dX9_isKept_91 ?_
                      refine W.lcmp hx hb dX9_isKept_94 ?_
                      refine lv_topi (fun x59 ex59 => ?_)
                      have f60 : (x59.toInt = 0 ∧ p0.toInt = (1685217655 : Int64).toInt) ∨ (x59.toInt ≠ 0 ∧ p0.toInt ≠ (1685217655 : Int64).toInt) := lcmp_or ex59
                      refine lv_if_eq (tgt := 162) hx hb dX9_isKept_95 (by decide) (fun c_61 => ?_) (fun c_61 => ?_)
                      · skip
                        have f62 : x59.toInt = 0 := qi_eq c_61 rfl zc_0
                        refine lv_iconst (v := 1) hx hb dX9_isKept_162 (by decide) ?_
                        refine lv_goto (tgt := 167) hx hb dX9_isKept_163 (by decide) ?_
                        rw [hQ]
                        exact W.zret (v := 1) hx hb hr (by decide) (fun t ht hW => ⟨⟨1, 1, rfl, rfl, ⟨(ob_9 zc_1), (ob_10 zc_1)⟩⟩, hS.F ht⟩) hS.2.2 dX9_isKept_167
                      · skip
                        have f63 : x59.toInt ≠ 0 := qi_ne c_61 rfl zc_0
                        refine lv_lload_n hx hb dX9_isKept_98 rfl (lv_at hl 1 rfl) ?_
                        refine lv_ldc2 (v := 1935764837) hx hb hown (hG _ gw1387) dX9_isKept_99 ?_
                        refine W.lcmp hx hb dX9_isKept_102 ?_
                        refine lv_topi (fun x64 ex64 => ?_)
                        have f65 : (x64.toInt = 0 ∧ p0.toInt = (1935764837 : Int64).toInt) ∨ (x64.toInt ≠ 0 ∧ p0.toInt ≠ (1935764837 : Int64).toInt) := lcmp_or ex64
                        refine lv_if_eq (tgt := 162) hx hb dX9_isKept_103 (by decide) (fun c_66 => ?_) (fun c_66 => ?_)
                        · skip
                          have f67 : x64.toInt = 0 := qi_eq c_66 rfl zc_0
                          refine lv_iconst (v := 1) hx hb dX9_isKept_162 (by decide) ?_
                          refine lv_goto (tgt := 167) hx hb dX9_isKept_163 (by decide) ?_
                          rw [hQ]
                          exact W.zret (v := 1) hx hb hr (by decide) (fun t ht hW => ⟨⟨1, 1, rfl, rfl, ⟨(ob_9 zc_1), (ob_10 zc_1)⟩⟩, hS.F ht⟩) hS.2.2 dX9_isKept_167
                        · skip
                          have f68 : x64.toInt ≠ 0 := qi_ne c_66 rfl zc_0
                          refine lv_lload_n hx hb dX9_isKept_106 rfl (lv_at hl 1 rfl) ?_
                          refine lv_ldc2 (v := 1953854062) hx hb hown (hG _ gw1388) dX9_isKept_107 ?_
                          refine W.lcmp hx hb dX9_isKept_110 ?_
                          refine lv_topi (fun x69 ex69 => ?_)
                          have f70 : (x69.toInt = 0 ∧ p0.toInt = (1953854062 : Int64).toInt) ∨ (x69.toInt ≠ 0 ∧ p0.toInt ≠ (1953854062 : Int64).toInt) := lcmp_or ex69
                          refine lv_if_eq (tgt := 162) hx hb dX9_isKept_111 (by decide) (fun c_71 => ?_) (fun c_71 => ?_)
                          · skip
                            have f72 : x69.toInt = 0 := qi_eq c_71 rfl zc_0
                            refine lv_iconst (v := 1) hx hb dX9_isKept_162 (by decide) ?_
                            refine lv_goto (tgt := 167) hx hb dX9_isKept_163 (by decide) ?_
                            rw [hQ]
                            exact W.zret (v := 1) hx hb hr (by decide) (fun t ht hW => ⟨⟨1, 1, rfl, rfl, ⟨(ob_9 zc_1), (ob_10 zc_1)⟩⟩, hS.F ht⟩) hS.2.2 dX9_isKept_167
                          · skip
                            have f73 : x69.toInt ≠ 0 := qi_ne c_71 rfl zc_0
                            refine lv_lload_n hx hb dX9_isKept_114 rfl (lv_at hl 1 rfl) ?_
                            refine lv_ldc2 (v := 1819242087) hx hb hown (hG _ gw1389) dX9_isKept_115 ?_
                            refine W.lcmp hx hb dX9_isKept_118 ?_
                            refine lv_topi (fun x74 ex74 => ?_)
                            have f75 : (x74.toInt = 0 ∧ p0.toInt = (1819242087 : Int64).toInt) ∨ (x74.toInt ≠ 0 ∧ p0.toInt ≠ (1819242087 : Int64).toInt) := lcmp_or ex74
                            refine lv_if_eq (tgt := 162) hx hb dX9_isKept_119 (by decide) (fun c_76 => ?_) (fun c_76 => ?_)
                            · skip
                              have f77 : x74.toInt = 0 := qi_eq c_76 rfl zc_0
                              refine lv_iconst (v := 1) hx hb dX9_isKept_162 (by decide) ?_
                              refine lv_goto (tgt := 167) hx hb dX9_isKept_163 (by decide) ?_
                              rw [hQ]
                              exact W.zret (v := 1) hx hb hr (by decide) (fun t ht hW => ⟨⟨1, 1, rfl, rfl, ⟨(ob_9 zc_1), (ob_10 zc_1)⟩⟩, hS.F ht⟩) hS.2.2 dX9_isKept_167
                            · skip
                              have f78 : x74.toInt ≠ 0 := qi_ne c_76 rfl zc_0
                              refine lv_lload_n hx hb dX9_isKept_122 rfl (lv_at hl 1 rfl) ?_
                              refine lv_ldc2 (v := 2003792494) hx hb hown (hG _ gw1390) dX9_isKept_123 ?_
                              refine W.lcmp hx hb dX9_isKept_126 ?_
                              refine lv_topi (fun x79 ex79 => ?_)
                              have f80 : (x79.toInt = 0 ∧ p0.toInt = (2003792494 : Int64).toInt) ∨ (x79.toInt ≠ 0 ∧ p0.toInt ≠ (2003792494 : Int64).toInt) := lcmp_or ex79
                              refine lv_if_eq (tgt := 162) hx hb dX9_isKept_127 (by decide) (fun c_81 => ?_) (fun c_81 => ?_)
                              · skip
                                have f82 : x79.toInt = 0 := qi_eq c_81 rfl zc_0
                                refine lv_iconst (v := 1) hx hb dX9_isKept_162 (by decide) ?_
                                refine lv_goto (tgt := 167) hx hb dX9_isKept_163 (by decide) ?_
                                rw [hQ]
                                exact W.zret (v := 1) hx hb hr (by decide) (fun t ht hW => ⟨⟨1, 1, rfl, rfl, ⟨(ob_9 zc_1), (ob_10 zc_1)⟩⟩, hS.F ht⟩) hS.2.2 dX9_isKept_167
                              · skip
                                have f83 : x79.toInt ≠ 0 := qi_ne c_81 rfl zc_0
                                refine lv_lload_n hx hb dX9_isKept_130 rfl (lv_at hl 1 rfl) ?_
                                refine lv_ldc2 (v := 512802253683) hx hb hown (hG _ gw1391) dX9_isKept_131 ?_
                                refine W.lcmp hx hb dX9_isKept_134 ?_
                                refine lv_topi (fun x84 ex84 => ?_)
                                have f85 : (x84.toInt = 0 ∧ p0.toInt = (512802253683 : Int64).toInt) ∨ (x84.toInt ≠ 0 ∧ p0.toInt ≠ (512802253683 : Int64).toInt) := lcmp_or ex84
                                refine lv_if_eq (tgt := 162) hx hb dX9_isKept_135 (by decide) (fun c_86 => ?_) (fun c_86 => ?_)
                                · skip
                                  have f87 : x84.toInt = 0 := qi_eq c_86 rfl zc_0
                                  refine lv_iconst (v := 1) hx hb dX9_isKept_162 (by decide) ?_
                                  refine lv_goto (tgt := 167) hx hb dX9_isKept_163 (by decide) ?_
                                  rw [hQ]
                                  exact W.zret (v := 1) hx hb hr (by decide) (fun t ht hW => ⟨⟨1, 1, rfl, rfl, ⟨(ob_9 zc_1), (ob_10 zc_1)⟩⟩, hS.F ht⟩) hS.2.2 dX9_isKept_167
                                · skip
                                  have f88 : x84.toInt ≠ 0 := qi_ne c_86 rfl zc_0
                                  refine lv_lload_n hx hb dX9_isKept_138 rfl (lv_at hl 1 rfl) ?_
                                  refine lv_ldc2 (v := 28530) hx hb hown (hG _ gw1392) dX9_isKept_139 ?_
                                  refine W.lcmp hx hb dX9_isKept_142 ?_
                                  refine lv_topi (fun x89 ex89 => ?_)
                                  have f90 : (x89.toInt = 0 ∧ p0.toInt = (28530 : Int64).toInt) ∨ (x89.toInt ≠ 0 ∧ p0.toInt ≠ (28530 : Int64).toInt) := lcmp_or ex89
                                  refine lv_if_eq (tgt := 162) hx hb dX9_isKept_143 (by decide) (fun c_91 => ?_) (fun c_91 => ?_)
                                  · skip
                                    have f92 : x89.toInt = 0 := qi_eq c_91 rfl zc_0
                                    refine lv_iconst (v := 1) hx hb dX9_isKept_162 (by decide) ?_
                                    refine lv_goto (tgt := 167) hx hb dX9_isKept_163 (by decide) ?_
                                    rw [hQ]
                                    exact W.zret (v := 1) hx hb hr (by decide) (fun t ht hW => ⟨⟨1, 1, rfl, rfl, ⟨(ob_9 zc_1), (ob_10 zc_1)⟩⟩, hS.F ht⟩) hS.2.2 dX9_isKept_167
                                  · skip
                                    have f93 : x89.toInt ≠ 0 := qi_ne c_91 rfl zc_0
                                    refine lv_lload_n hx hb dX9_isKept_146 rfl (lv_at hl 1 rfl) ?_
                                    refine lv_ldc2 (v := 6385252) hx hb hown (hG _ gw1393) dX9_isKept_147 ?_
                                    refine W.lcmp hx hb dX9_isKept_150 ?_
                                    refine lv_topi (fun x94 ex94 => ?_)
                                    have f95 : (x94.toInt = 0 ∧ p0.toInt = (6385252 : Int64).toInt) ∨ (x94.toInt ≠ 0 ∧ p0.toInt ≠ (6385252 : Int64).toInt) := lcmp_or ex94
                                    refine lv_if_eq (tgt := 162) hx hb dX9_isKept_151 (by decide) (fun c_96 => ?_) (fun c_96 => ?_)
                                    · skip
                                      have f97 : x94.toInt = 0 := qi_eq c_96 rfl zc_0
                                      refine lv_iconst (v := 1) hx hb dX9_isKept_162 (by decide) ?_
                                      refine lv_goto (tgt := 167) hx hb dX9_isKept_163 (by decide) ?_
                                      rw [hQ]
                                      exact W.zret (v := 1) hx hb hr (by decide) (fun t ht hW => ⟨⟨1, 1, rfl, rfl, ⟨(ob_9 zc_1), (ob_10 zc_1)⟩⟩, hS.F ht⟩) hS.2.2 dX9_isKept_167
                                    · skip
                                      have f98 : x94.toInt ≠ 0 := qi_ne c_96 rfl zc_0
                                      refine lv_lload_n hx hb dX9_isKept_154 rfl (lv_at hl 1 rfl) ?_
                                      refine lv_ldc2 (v := 7237492) hx hb hown (hG _ gw1394) dX9_isKept_155 ?_
                                      refine W.lcmp hx hb dX9_isKept_158 ?_
                                      refine lv_topi (fun x99 ex99 => ?_)
                                      have f100 : (x99.toInt = 0 ∧ p0.toInt = (7237492 : Int64).toInt) ∨ (x99.toInt ≠ 0 ∧ p0.toInt ≠ (7237492 : Int64).toInt) := lcmp_or ex99
                                      refine lv_if_ne (tgt := 166) hx hb dX9_isKept_159 (by decide) (fun c_101 => ?_) (fun c_101 => ?_)
                                      · skip
                                        have f102 : x99.toInt ≠ 0 := qi_ne c_101 rfl zc_0
                                        refine lv_iconst (v := 0) hx hb dX9_isKept_166 (by decide) ?_
                                        rw [hQ]
                                        exact W.zret (v := 0) hx hb hr (by decide) (fun t ht hW => ⟨⟨0, 0, rfl, rfl, ⟨(ob_5 zc_0), (ob_6 zc_0)⟩⟩, hS.F ht⟩) hS.2.2 dX9_isKept_167
                                      · skip
                                        have f103 : x99.toInt = 0 := qi_eq c_101 rfl zc_0
                                        refine lv_iconst (v := 1) hx hb dX9_isKept_162 (by decide) ?_
                                        refine lv_goto (tgt := 167) hx hb dX9_isKept_163 (by decide) ?_
                                        rw [hQ]
                                        exact W.zret (v := 1) hx hb hr (by decide) (fun t ht hW => ⟨⟨1, 1, rfl, rfl, ⟨(ob_9 zc_1), (ob_10 zc_1)⟩⟩, hS.F ht⟩) hS.2.2 dX9_isKept_167
                  · skip
                    have f104 : x49.toInt = 0 := qi_eq c_51 rfl zc_0
                    refine lv_iconst (v := 1) hx hb dX9_isKept_72 (by decide) ?_
                    refine lv_goto (tgt := 77) hx hb dX9_isKept_73 (by decide) ?_
                    refine lv_istore_n (lv' := [(2, .int 1), (0, .long p0)]) hx hb dX9_isKept_77 rfl hl (by decide) rfl (fun ls hl => ?_)
                    refine lv_iload_n hx hb dX9_isKept_78 rfl (lv_at hl 0 rfl) ?_
                    refine lv_if_ne (tgt := 162) hx hb dX9_isKept_79 (by decide) (fun c_105 => ?_) (fun c_105 => absurd c_105 (by decide))
                    refine lv_iconst (v := 1) hx hb dX9_isKept_162 (by decide) ?_
                    refine lv_goto (tgt := 167) hx hb dX9_isKept_163 (by decide) ?_
                    rw [hQ]
                    exact W.zret (v := 1) hx hb hr (by decide) (fun t ht hW => ⟨⟨1, 1, rfl, rfl, ⟨(ob_9 zc_1), (ob_10 zc_1)⟩⟩, hS.F ht⟩) hS.2.2 dX9_isKept_167
set_option maxHeartbeats 4000000 in
set_option maxRecDepth 100000 in
theorem kX9_isSign (l : Launch) (dC : Nat → ClassId) (dI : Nat → Nat → Nat) (p0 : Int32) (sz : Nat) : Met l yX9_isSign (.code yX9_isSign cX9_isSign 1 (some .boolean) :: GW) { frames := 2, cells := 0, slots := 0, locals := 100 } (va_Pc [.int p0] (pR (dC, dI) [] [] sz)) (va_Qi (fun (r0 : Int32) (u : Int32) => r0 = u) (fun (u : Int32) (t : State) => (0 ≤ u.toInt) ∧ (u.toInt ≤ 1)) (fun q => sz ≤ q)) 0 0 (fun q => sz ≤ q) := by
  refine Met.ofW (cc := cX9_isSign) (maxL := 1) (ret := (some .boolean)) (by decide) rfl ?_
  intro p e s m args below meth c0 s₁ B hml hv
  obtain ⟨rfl, hsz, hP, hK⟩ := hv
  have hx := B.exec
  have hb := B.bytes
  have hr := B.returns
  have hts := atoms_spec (ws := .code yX9_isSign cX9_isSign 1 (some .boolean) :: GW) B.pre
  have hG : ∀ w ∈ GW, w.before _ s = true := fun w h => hts w (List.mem_cons_of_mem _ h)
  have hown : s.vm.findClass RX9 = some m.cls := findClass_of_methodNamed B.named
  subst hsz
  have hS : va_S (fun q => s.heap.size ≤ q) s.heap s.heap [] := va_S.rf
  have hP : va_P (dC, dI) vwCl [] s.heap := hP
  have hl := lv_entry ([.int p0]) (n := 1) (Nat.le_of_ble_eq_true rfl)
  rw [lg_entry_eq]
  generalize (lg_sl ([.int p0]) ++ List.replicate (1 - (lg_sl ([.int p0])).length) Slot.unset).toArray = ls at hl ⊢
  have hl : lv_has ls 1 [(0, .int p0)] := hl
  refine nameQ (fun Q hQ => ?_)
  refine lv_iload_n hx hb dX9_isSign_0 rfl (lv_at hl 0 rfl) ?_
  refine lv_bipush (v := 59) hx hb dX9_isSign_1 (by decide) ?_
  refine lv_icmp_eq (tgt := 66) hx hb dX9_isSign_3 (by decide) (fun c_1 => ?_) (fun c_1 => ?_)
  · skip
    have f2 : p0.toInt = 59 := qi_eq c_1 rfl zc_59
    refine lv_iconst (v := 1) hx hb dX9_isSign_66 (by decide) ?_
    refine lv_goto (tgt := 71) hx hb dX9_isSign_67 (by decide) ?_
    rw [hQ]
    exact W.zret (v := 1) hx hb hr (by decide) (fun t ht hW => ⟨⟨1, 1, rfl, rfl, ⟨(ob_9 zc_1), (ob_10 zc_1)⟩⟩, hS.F ht⟩) hS.2.2 dX9_isSign_71
  · skip
    have f3 : p0.toInt ≠ 59 := qi_ne c_1 rfl zc_59
    refine lv_iload_n hx hb dX9_isSign_6 rfl (lv_at hl 0 rfl) ?_
    refine lv_bipush (v := 40) hx hb dX9_isSign_7 (by decide) ?_
    refine lv_icmp_eq (tgt := 66) hx hb dX9_isSign_9 (by decide) (fun c_4 => ?_) (fun c_4 => ?_)
    · skip
      have f5 : p0.toInt = 40 := qi_eq c_4 rfl zc_40
      have f6 : p0.toInt ≤ 58 := (ob_16 f5)
      refine lv_iconst (v := 1) hx hb dX9_isSign_66 (by decide) ?_
      refine lv_goto (tgt := 71) hx hb dX9_isSign_67 (by decide) ?_
      rw [hQ]
      exact W.zret (v := 1) hx hb hr (by decide) (fun t ht hW => ⟨⟨1, 1, rfl, rfl, ⟨(ob_9 zc_1), (ob_10 zc_1)⟩⟩, hS.F ht⟩) hS.2.2 dX9_isSign_71
    · skip
      have f7 : p0.toInt ≠ 40 := qi_ne c_4 rfl zc_40
      refine lv_iload_n hx hb dX9_isSign_12 rfl (lv_at hl 0 rfl) ?_
      refine lv_bipush (v := 41) hx hb dX9_isSign_13 (by decide) ?_
      refine lv_icmp_eq (tgt := 66) hx hb dX9_isSign_15 (by decide) (fun c_8 => ?_) (fun c_8 => ?_)
      · skip
        have f9 : p0.toInt = 41 := qi_eq c_8 rfl zc_41
        have f10 : p0.toInt ≤ 58 := (ob_17 f9)
        have f11 : 41 ≤ p0.toInt := (ob_18 f9 f10)
        refine lv_iconst (v := 1) hx hb dX9_isSign_66 (by decide) ?_
        refine lv_goto (tgt := 71) hx hb dX9_isSign_67 (by decide) ?_
        rw [hQ]
        exact W.zret (v := 1) hx hb hr (by decide) (fun t ht hW => ⟨⟨1, 1, rfl, rfl, ⟨(ob_9 zc_1), (ob_10 zc_1)⟩⟩, hS.F ht⟩) hS.2.2 dX9_isSign_71
      · skip
        have f12 : p0.toInt ≠ 41 := qi_ne c_8 rfl zc_41
        refine lv_iload_n hx hb dX9_isSign_18 rfl (lv_at hl 0 rfl) ?_
        refine lv_bipush (v := 60) hx hb dX9_isSign_19 (by decide) ?_
        refine lv_icmp_eq (tgt := 66) hx hb dX9_isSign_21 (by decide) (fun c_13 => ?_) (fun c_13 => ?_)
        · skip
          have f14 : p0.toInt = 60 := qi_eq c_13 rfl zc_60
          have f15 : 60 ≤ p0.toInt := (ob_19 f14)
          have f16 : 41 ≤ p0.toInt := (ob_20 f14 f15)
          have f17 : 42 ≤ p0.toInt := (ob_21 f14 f15 f16)
          refine lv_iconst (v := 1) hx hb dX9_isSign_66 (by decide) ?_
          refine lv_goto (tgt := 71) hx hb dX9_isSign_67 (by decide) ?_
          rw [hQ]
          exact W.zret (v := 1) hx hb hr (by decide) (fun t ht hW => ⟨⟨1, 1, rfl, rfl, ⟨(ob_9 zc_1), (ob_10 zc_1)⟩⟩, hS.F ht⟩) hS.2.2 dX9_isSign_71
        · skip
          have f18 : p0.toInt ≠ 60 := qi_ne c_13 rfl zc_60
          refine lv_iload_n hx hb dX9_isSign_24 rfl (lv_at hl 0 rfl) ?_
          refine lv_bipush (v := 62) hx hb dX9_isSign_25 (by decide) ?_
          refine lv_icmp_eq (tgt := 66) hx hb dX9_isSign_27 (by decide) (fun c_19 => ?_) (fun c_19 => ?_)
          · skip
            have f20 : p0.toInt = 62 := qi_eq c_19 rfl zc_62
            have f21 : 60 ≤ p0.toInt := (ob_22 f20)
            have f22 : 41 ≤ p0.toInt := (ob_23 f20 f21)
            have f23 : 42 ≤ p0.toInt := (ob_24 f20 f21 f22)
            have f24 : 61 ≤ p0.toInt := (ob_25 f20)
            refine lv_iconst (v := 1) hx hb dX9_isSign_66 (by decide) ?_
            refine lv_goto (tgt := 71) hx hb dX9_isSign_67 (by decide) ?_
            rw [hQ]
            exact W.zret (v := 1) hx hb hr (by decide) (fun t ht hW => ⟨⟨1, 1, rfl, rfl, ⟨(ob_9 zc_1), (ob_10 zc_1)⟩⟩, hS.F ht⟩) hS.2.2 dX9_isSign_71
          · skip
            have f25 : p0.toInt ≠ 62 := qi_ne c_19 rfl zc_62
            refine lv_iload_n hx hb dX9_isSign_30 rfl (lv_at hl 0 rfl) ?_
            refine lv_bipush (v := 61) hx hb dX9_isSign_31 (by decide) ?_
            refine lv_icmp_eq (tgt := 66) hx hb dX9_isSign_33 (by decide) (fun c_26 => ?_) (fun c_26 => ?_)
            · skip
              have f27 : p0.toInt = 61 := qi_eq c_26 rfl zc_61
              have f28 : 60 ≤ p0.toInt := (ob_26 f27)
              have f29 : 41 ≤ p0.toInt := (ob_27 f27 f28)
              have f30 : 42 ≤ p0.toInt := (ob_28 f27 f28 f29)
              have f31 : 61 ≤ p0.toInt := (ob_29 f27)
              have f32 : p0.toInt ≤ 61 := (ob_30 f27)
              refine lv_iconst (v := 1) hx hb dX9_isSign_66 (by decide) ?_
              refine lv_goto (tgt := 71) hx hb dX9_isSign_67 (by decide) ?_
              rw [hQ]
              exact W.zret (v := 1) hx hb hr (by decide) (fun t ht hW => ⟨⟨1, 1, rfl, rfl, ⟨(ob_9 zc_1), (ob_10 zc_1)⟩⟩, hS.F ht⟩) hS.2.2 dX9_isSign_71
            · skip
              have f33 : p0.toInt ≠ 61 := qi_ne c_26 rfl zc_61
              refine lv_iload_n hx hb dX9_isSign_36 rfl (lv_at hl 0 rfl) ?_
              refine lv_bipush (v := 43) hx hb dX9_isSign_37 (by decide) ?_
              refine lv_icmp_eq (tgt := 66) hx hb dX9_isSign_39 (by decide) (fun c_34 => ?_) (fun c_34 => ?_)
              · skip
                have f35 : p0.toInt = 43 := qi_eq c_34 rfl zc_43
                have f36 : p0.toInt ≤ 58 := (ob_31 f35)
                have f37 : 41 ≤ p0.toInt := (ob_32 f35 f36)
                have f38 : 42 ≤ p0.toInt := (ob_33 f35 f36 f37)
                have f39 : p0.toInt ≤ 59 := (ob_34 f35)
                have f40 : p0.toInt ≤ 61 := (ob_35 f35)
                have f41 : p0.toInt ≤ 60 := (ob_36 f35)
                refine lv_iconst (v := 1) hx hb dX9_isSign_66 (by decide) ?_
                refine lv_goto (tgt := 71) hx hb dX9_isSign_67 (by decide) ?_
                rw [hQ]
                exact W.zret (v := 1) hx hb hr (by decide) (fun t ht hW => ⟨⟨1, 1, rfl, rfl, ⟨(ob_9 zc_1), (ob_10 zc_1)⟩⟩, hS.F ht⟩) hS.2.2 dX9_isSign_71
              · skip
                have f42 : p0.toInt ≠ 43 := qi_ne c_34 rfl zc_43
                refine lv_iload_n hx hb dX9_isSign_42 rfl (lv_at hl 0 rfl) ?_
                refine lv_bipush (v := 45) hx hb dX9_isSign_43 (by decide) ?_
                refine lv_icmp_eq (tgt := 66) hx hb dX9_isSign_45 (by decide) (fun c_43 => ?_) (fun c_43 => ?_)
                · skip
                  have f44 : p0.toInt = 45 := qi_eq c_43 rfl zc_45
                  have f45 : p0.toInt ≤ 58 := (ob_37 f44)
                  have f46 : 41 ≤ p0.toInt := (ob_38 f44 f45)
                  have f47 : 42 ≤ p0.toInt := (ob_39 f44 f45 f46)
                  have f48 : p0.toInt ≤ 59 := (ob_40 f44)
                  have f49 : p0.toInt ≤ 61 := (ob_41 f44)
                  have f50 : p0.toInt ≤ 60 := (ob_42 f44)
                  have f51 : 44 ≤ p0.toInt := (ob_43 f44)
                  refine lv_iconst (v := 1) hx hb dX9_isSign_66 (by decide) ?_
                  refine lv_goto (tgt := 71) hx hb dX9_isSign_67 (by decide) ?_
                  rw [hQ]
                  exact W.zret (v := 1) hx hb hr (by decide) (fun t ht hW => ⟨⟨1, 1, rfl, rfl, ⟨(ob_9 zc_1), (ob_10 zc_1)⟩⟩, hS.F ht⟩) hS.2.2 dX9_isSign_71
                · skip
                  have f52 : p0.toInt ≠ 45 := qi_ne c_43 rfl zc_45
                  refine lv_iload_n hx hb dX9_isSign_48 rfl (lv_at hl 0 rfl) ?_
                  refine lv_bipush (v := 42) hx hb dX9_isSign_49 (by decide) ?_
                  refine lv_icmp_eq (tgt := 66) hx hb dX9_isSign_51 (by decide) (fun c_53 => ?_) (fun c_53 => ?_)
                  · skip
                    have f54 : p0.toInt = 42 := qi_eq c_53 rfl zc_42
                    have f55 : p0.toInt ≤ 58 := (ob_44 f54)
                    have f56 : 41 ≤ p0.toInt := (ob_45 f54 f55)
                    have f57 : 42 ≤ p0.toInt := (ob_46 f54 f55 f56)
                    have f58 : p0.toInt ≤ 59 := (ob_47 f54)
                    have f59 : p0.toInt ≤ 61 := (ob_48 f54)
                    have f60 : p0.toInt ≤ 60 := (ob_49 f54)
                    have f61 : p0.toInt ≤ 42 := (ob_50 f54)
                    have f62 : p0.toInt ≤ 44 := (ob_51 f54)
                    refine lv_iconst (v := 1) hx hb dX9_isSign_66 (by decide) ?_
                    refine lv_goto (tgt := 71) hx hb dX9_isSign_67 (by decide) ?_
                    rw [hQ]
                    exact W.zret (v := 1) hx hb hr (by decide) (fun t ht hW => ⟨⟨1, 1, rfl, rfl, ⟨(ob_9 zc_1), (ob_10 zc_1)⟩⟩, hS.F ht⟩) hS.2.2 dX9_isSign_71
                  · skip
                    have f63 : p0.toInt ≠ 42 := qi_ne c_53 rfl zc_42
                    refine lv_iload_n hx hb dX9_isSign_54 rfl (lv_at hl 0 rfl) ?_
                    refine lv_bipush (v := 47) hx hb dX9_isSign_55 (by decide) ?_
                    refine lv_icmp_eq (tgt := 66) hx hb dX9_isSign_57 (by decide) (fun c_64 => ?_) (fun c_64 => ?_)
                    · skip
                      have f65 : p0.toInt = 47 := qi_eq c_64 rfl zc_47
                      have f66 : p0.toInt ≤ 58 := (ob_52 f65)
                      have f67 : 41 ≤ p0.toInt := (ob_53 f65 f66)
                      have f68 : 42 ≤ p0.toInt := (ob_54 f65 f66 f67)
                      have f69 : p0.toInt ≤ 59 := (ob_55 f65)
                      have f70 : p0.toInt ≤ 61 := (ob_56 f65)
                      have f71 : p0.toInt ≤ 60 := (ob_57 f65)
                      have f72 : 44 ≤ p0.toInt := (ob_58 f65)
                      have f73 : 46 ≤ p0.toInt := (ob_59 f65)
                      have f74 : 43 ≤ p0.toInt := (ob_60 f65)
                      refine lv_iconst (v := 1) hx hb dX9_isSign_66 (by decide) ?_
                      refine lv_goto (tgt := 71) hx hb dX9_isSign_67 (by decide) ?_
                      rw [hQ]
                      exact W.zret (v := 1) hx hb hr (by decide) (fun t ht hW => ⟨⟨1, 1, rfl, rfl, ⟨(ob_9 zc_1), (ob_10 zc_1)⟩⟩, hS.F ht⟩) hS.2.2 dX9_isSign_71
                    · skip
                      have f75 : p0.toInt ≠ 47 := qi_ne c_64 rfl zc_47
                      refine lv_iload_n hx hb dX9_isSign_60 rfl (lv_at hl 0 rfl) ?_
                      refine lv_bipush (v := 37) hx hb dX9_isSign_61 (by decide) ?_
                      refine lv_icmp_ne (tgt := 70) hx hb dX9_isSign_63 (by decide) (fun c_76 => ?_) (fun c_76 => ?_)
                      · skip
                        have f77 : p0.toInt ≠ 37 := qi_ne c_76 rfl zc_37
                        refine lv_iconst (v := 0) hx hb dX9_isSign_70 (by decide) ?_
                        rw [hQ]
                        exact W.zret (v := 0) hx hb hr (by decide) (fun t ht hW => ⟨⟨0, 0, rfl, rfl, ⟨(ob_5 zc_0), (ob_6 zc_0)⟩⟩, hS.F ht⟩) hS.2.2 dX9_isSign_71
                      · skip
                        have f78 : p0.toInt = 37 := qi_eq c_76 rfl zc_37
                        have f79 : p0.toInt ≤ 58 := (ob_61 f78)
                        have f80 : p0.toInt ≤ 39 := (ob_62 f78 f79)
                        have f81 : p0.toInt ≤ 40 := (ob_63 f78 f79 f80)
                        have f82 : p0.toInt ≤ 59 := (ob_64 f78)
                        have f83 : p0.toInt ≤ 61 := (ob_65 f78)
                        have f84 : p0.toInt ≤ 60 := (ob_66 f78)
                        have f85 : p0.toInt ≤ 42 := (ob_67 f78)
                        have f86 : p0.toInt ≤ 44 := (ob_68 f78)
                        have f87 : p0.toInt ≤ 41 := (ob_69 f78)
                        have f88 : p0.toInt ≤ 46 := (ob_70 f78)
                        refine lv_iconst (v := 1) hx hb dX9_isSign_66 (by decide) ?_
                        refine lv_goto (tgt := 71) hx hb dX9_isSign_67 (by decide) ?_
                        rw [hQ]
                        exact W.zret (v := 1) hx hb hr (by decide) (fun t ht hW => ⟨⟨1, 1, rfl, rfl, ⟨(ob_9 zc_1), (ob_10 zc_1)⟩⟩, hS.F ht⟩) hS.2.2 dX9_isSign_71
set_option maxHeartbeats 4000000 in
set_option maxRecDepth 100000 in
theorem kX9_two (l : Launch) (dC : Nat → ClassId) (dI : Nat → Nat → Nat) (p0 p1 p2 : Int32) (sz : Nat) : Met l yX9_two (.code yX9_two cX9_two 3 (some .int) :: GW) { frames := 2, cells := 0, slots := 0, locals := 100 } (va_Pc [.int p0, .int p1, .int p2] (pR (dC, dI) [] [] sz)) (va_Qi (fun (r0 : Int32) (u : Int32) => r0 = u) (fun (u : Int32) (t : State) => True) (fun q => sz ≤ q)) 0 0 (fun q => sz ≤ q) := by
  refine Met.ofW (cc := cX9_two) (maxL := 3) (ret := (some .int)) (by decide) rfl ?_
  intro p e s m args below meth c0 s₁ B hml hv
  obtain ⟨rfl, hsz, hP, hK⟩ := hv
  have hx := B.exec
  have hb := B.bytes
  have hr := B.returns
  have hts := atoms_spec (ws := .code yX9_two cX9_two 3 (some .int) :: GW) B.pre
  have hG : ∀ w ∈ GW, w.before _ s = true := fun w h => hts w (List.mem_cons_of_mem _ h)
  have hown : s.vm.findClass RX9 = some m.cls := findClass_of_methodNamed B.named
  subst hsz
  have hS : va_S (fun q => s.heap.size ≤ q) s.heap s.heap [] := va_S.rf
  have hP : va_P (dC, dI) vwCl [] s.heap := hP
  have hl := lv_entry ([.int p0, .int p1, .int p2]) (n := 3) (Nat.le_of_ble_eq_true rfl)
  rw [lg_entry_eq]
  generalize (lg_sl ([.int p0, .int p1, .int p2]) ++ List.replicate (3 - (lg_sl ([.int p0, .int p1, .int p2])).length) Slot.unset).toArray = ls at hl ⊢
  have hl : lv_has ls 3 [(0, .int p0), (1, .int p1), (2, .int p2)] := hl
  refine nameQ (fun Q hQ => ?_)
  refine lv_iload_n hx hb dX9_two_0 rfl (lv_at hl 0 rfl) ?_
  rcases ts_37_62 p0 with hs1 | hs1 | hs1 | hs1 | hs1 | hs1 | hs1 | hs1 | hs1 | hs1 | hs1 | hs1 | hs1 | hs1 | hs1 | hs1 | hs1 | hs1 | hs1 | hs1 | hs1 | hs1 | hs1 | hs1 | hs1 | hs1 | hs1
  · skip
    refine lv_tableOut (tgt := 203) hx hb dX9_two_1 hs1 (by decide) ?_
    refine lv_iload_n hx hb dX9_two_203 rfl (lv_at hl 1 rfl) ?_
    refine lv_if_ne (tgt := 211) hx hb dX9_two_204 (by decide) (fun c_2 => ?_) (fun c_2 => ?_)
    · skip
      have f3 : p1.toInt ≠ 0 := qi_ne c_2 rfl zc_0
      refine lv_iconst (v := 1) hx hb dX9_two_211 (by decide) ?_
      refine lv_goto (tgt := 216) hx hb dX9_two_212 (by decide) ?_
      rw [hQ]
      exact W.iret (v := 1) hx hb hr (fun t ht hW => ⟨⟨1, 1, rfl, rfl, trivial⟩, hS.F ht⟩) hS.2.2 dX9_two_216
    · skip
      have f4 : p1.toInt = 0 := qi_eq c_2 rfl zc_0
      refine lv_iload_n hx hb dX9_two_207 rfl (lv_at hl 2 rfl) ?_
      refine lv_if_eq (tgt := 215) hx hb dX9_two_208 (by decide) (fun c_5 => ?_) (fun c_5 => ?_)
      · skip
        have f6 : p2.toInt = 0 := qi_eq c_5 rfl zc_0
        refine lv_iconst (v := 0) hx hb dX9_two_215 (by decide) ?_
        rw [hQ]
        exact W.iret (v := 0) hx hb hr (fun t ht hW => ⟨⟨0, 0, rfl, rfl, trivial⟩, hS.F ht⟩) hS.2.2 dX9_two_216
      · skip
        have f7 : p2.toInt ≠ 0 := qi_ne c_5 rfl zc_0
        refine lv_iconst (v := 1) hx hb dX9_two_211 (by decide) ?_
        refine lv_goto (tgt := 216) hx hb dX9_two_212 (by decide) ?_
        rw [hQ]
        exact W.iret (v := 1) hx hb hr (fun t ht hW => ⟨⟨1, 1, rfl, rfl, trivial⟩, hS.F ht⟩) hS.2.2 dX9_two_216
  · skip
    refine lv_tableIn (off := 143) (tgt := 144) hx hb dX9_two_1 (by rw [hs1]; decide) (by rw [hs1]; decide) (by rw [hs1]; decide) (by decide) ?_
    have f8 : p0.toInt = 37 := qi_eq hs1 rfl zc_37
    refine lv_iload_n hx hb dX9_two_144 rfl (lv_at hl 2 rfl) ?_
    refine lv_if_ne (tgt := 152) hx hb dX9_two_145 (by decide) (fun c_9 => ?_) (fun c_9 => ?_)
    · skip
      have f10 : p2.toInt ≠ 0 := qi_ne c_9 rfl zc_0
      refine lv_iload_n hx hb dX9_two_152 rfl (lv_at hl 1 rfl) ?_
      refine lv_iload_n hx hb dX9_two_153 rfl (lv_at hl 2 rfl) ?_
      refine lv_irem hx hb dX9_two_154 (qi_nz0 (ob_71 f10)) ?_
      refine lv_topi (fun x11 ex11 => ?_)
      rw [hQ]
      exact W.iret (v := x11) hx hb hr (fun t ht hW => ⟨⟨x11, x11, rfl, rfl, trivial⟩, hS.F ht⟩) hS.2.2 dX9_two_155
    · skip
      have f12 : p2.toInt = 0 := qi_eq c_9 rfl zc_0
      refine lv_iconst (v := 0) hx hb dX9_two_148 (by decide) ?_
      refine lv_goto (tgt := 155) hx hb dX9_two_149 (by decide) ?_
      rw [hQ]
      exact W.iret (v := 0) hx hb hr (fun t ht hW => ⟨⟨0, 0, rfl, rfl, trivial⟩, hS.F ht⟩) hS.2.2 dX9_two_155
  · skip
    refine lv_tableIn (off := 188) (tgt := 189) hx hb dX9_two_1 (by rw [hs1]; decide) (by rw [hs1]; decide) (by rw [hs1]; decide) (by decide) ?_
    have f13 : p0.toInt = 38 := qi_eq hs1 rfl zc_38
    refine lv_iload_n hx hb dX9_two_189 rfl (lv_at hl 1 rfl) ?_
    refine lv_if_eq (tgt := 201) hx hb dX9_two_190 (by decide) (fun c_14 => ?_) (fun c_14 => ?_)
    · skip
      have f15 : p1.toInt = 0 := qi_eq c_14 rfl zc_0
      refine lv_iconst (v := 0) hx hb dX9_two_201 (by decide) ?_
      rw [hQ]
      exact W.iret (v := 0) hx hb hr (fun t ht hW => ⟨⟨0, 0, rfl, rfl, trivial⟩, hS.F ht⟩) hS.2.2 dX9_two_202
    · skip
      have f16 : p1.toInt ≠ 0 := qi_ne c_14 rfl zc_0
      refine lv_iload_n hx hb dX9_two_193 rfl (lv_at hl 2 rfl) ?_
      refine lv_if_eq (tgt := 201) hx hb dX9_two_194 (by decide) (fun c_17 => ?_) (fun c_17 => ?_)
      · skip
        have f18 : p2.toInt = 0 := qi_eq c_17 rfl zc_0
        refine lv_iconst (v := 0) hx hb dX9_two_201 (by decide) ?_
        rw [hQ]
        exact W.iret (v := 0) hx hb hr (fun t ht hW => ⟨⟨0, 0, rfl, rfl, trivial⟩, hS.F ht⟩) hS.2.2 dX9_two_202
      · skip
        have f19 : p2.toInt ≠ 0 := qi_ne c_17 rfl zc_0
        refine lv_iconst (v := 1) hx hb dX9_two_197 (by decide) ?_
        refine lv_goto (tgt := 202) hx hb dX9_two_198 (by decide) ?_
        rw [hQ]
        exact W.iret (v := 1) hx hb hr (fun t ht hW => ⟨⟨1, 1, rfl, rfl, trivial⟩, hS.F ht⟩) hS.2.2 dX9_two_202
  · skip
    refine lv_tableIn (off := 202) (tgt := 203) hx hb dX9_two_1 (by rw [hs1]; decide) (by rw [hs1]; decide) (by rw [hs1]; decide) (by decide) ?_
    have f20 : p0.toInt = 39 := qi_eq hs1 rfl zc_39
    refine lv_iload_n hx hb dX9_two_203 rfl (lv_at hl 1 rfl) ?_
    refine lv_if_ne (tgt := 211) hx hb dX9_two_204 (by decide) (fun c_21 => ?_) (fun c_21 => ?_)
    · skip
      have f22 : p1.toInt ≠ 0 := qi_ne c_21 rfl zc_0
      refine lv_iconst (v := 1) hx hb dX9_two_211 (by decide) ?_
      refine lv_goto (tgt := 216) hx hb dX9_two_212 (by decide) ?_
      rw [hQ]
      exact W.iret (v := 1) hx hb hr (fun t ht hW => ⟨⟨1, 1, rfl, rfl, trivial⟩, hS.F ht⟩) hS.2.2 dX9_two_216
    · skip
      have f23 : p1.toInt = 0 := qi_eq c_21 rfl zc_0
      refine lv_iload_n hx hb dX9_two_207 rfl (lv_at hl 2 rfl) ?_
      refine lv_if_eq (tgt := 215) hx hb dX9_two_208 (by decide) (fun c_24 => ?_) (fun c_24 => ?_)
      · skip
        have f25 : p2.toInt = 0 := qi_eq c_24 rfl zc_0
        refine lv_iconst (v := 0) hx hb dX9_two_215 (by decide) ?_
        rw [hQ]
        exact W.iret (v := 0) hx hb hr (fun t ht hW => ⟨⟨0, 0, rfl, rfl, trivial⟩, hS.F ht⟩) hS.2.2 dX9_two_216
      · skip
        have f26 : p2.toInt ≠ 0 := qi_ne c_24 rfl zc_0
        refine lv_iconst (v := 1) hx hb dX9_two_211 (by decide) ?_
        refine lv_goto (tgt := 216) hx hb dX9_two_212 (by decide) ?_
        rw [hQ]
        exact W.iret (v := 1) hx hb hr (fun t ht hW => ⟨⟨1, 1, rfl, rfl, trivial⟩, hS.F ht⟩) hS.2.2 dX9_two_216
  · skip
    refine lv_tableIn (off := 202) (tgt := 203) hx hb dX9_two_1 (by rw [hs1]; decide) (by rw [hs1]; decide) (by rw [hs1]; decide) (by decide) ?_
    have f27 : p0.toInt = 40 := qi_eq hs1 rfl zc_40
    refine lv_iload_n hx hb dX9_two_203 rfl (lv_at hl 1 rfl) ?_
    refine lv_if_ne (tgt := 211) hx hb dX9_two_204 (by decide) (fun c_28 => ?_) (fun c_28 => ?_)
    · skip
      have f29 : p1.toInt ≠ 0 := qi_ne c_28 rfl zc_0
      refine lv_iconst (v := 1) hx hb dX9_two_211 (by decide) ?_
      refine lv_goto (tgt := 216) hx hb dX9_two_212 (by decide) ?_
      rw [hQ]
      exact W.iret (v := 1) hx hb hr (fun t ht hW => ⟨⟨1, 1, rfl, rfl, trivial⟩, hS.F ht⟩) hS.2.2 dX9_two_216
    · skip
      have f30 : p1.toInt = 0 := qi_eq c_28 rfl zc_0
      refine lv_iload_n hx hb dX9_two_207 rfl (lv_at hl 2 rfl) ?_
      refine lv_if_eq (tgt := 215) hx hb dX9_two_208 (by decide) (fun c_31 => ?_) (fun c_31 => ?_)
      · skip
        have f32 : p2.toInt = 0 := qi_eq c_31 rfl zc_0
        refine lv_iconst (v := 0) hx hb dX9_two_215 (by decide) ?_
        rw [hQ]
        exact W.iret (v := 0) hx hb hr (fun t ht hW => ⟨⟨0, 0, rfl, rfl, trivial⟩, hS.F ht⟩) hS.2.2 dX9_two_216
      · skip
        have f33 : p2.toInt ≠ 0 := qi_ne c_31 rfl zc_0
        refine lv_iconst (v := 1) hx hb dX9_two_211 (by decide) ?_
        refine lv_goto (tgt := 216) hx hb dX9_two_212 (by decide) ?_
        rw [hQ]
        exact W.iret (v := 1) hx hb hr (fun t ht hW => ⟨⟨1, 1, rfl, rfl, trivial⟩, hS.F ht⟩) hS.2.2 dX9_two_216
  · skip
    refine lv_tableIn (off := 202) (tgt := 203) hx hb dX9_two_1 (by rw [hs1]; decide) (by rw [hs1]; decide) (by rw [hs1]; decide) (by decide) ?_
    have f34 : p0.toInt = 41 := qi_eq hs1 rfl zc_41
    refine lv_iload_n hx hb dX9_two_203 rfl (lv_at hl 1 rfl) ?_
    refine lv_if_ne (tgt := 211) hx hb dX9_two_204 (by decide) (fun c_35 => ?_) (fun c_35 => ?_)
    · skip
      have f36 : p1.toInt ≠ 0 := qi_ne c_35 rfl zc_0
      refine lv_iconst (v := 1) hx hb dX9_two_211 (by decide) ?_
      refine lv_goto (tgt := 216) hx hb dX9_two_212 (by decide) ?_
      rw [hQ]
      exact W.iret (v := 1) hx hb hr (fun t ht hW => ⟨⟨1, 1, rfl, rfl, trivial⟩, hS.F ht⟩) hS.2.2 dX9_two_216
    · skip
      have f37 : p1.toInt = 0 := qi_eq c_35 rfl zc_0
      refine lv_iload_n hx hb dX9_two_207 rfl (lv_at hl 2 rfl) ?_
      refine lv_if_eq (tgt := 215) hx hb dX9_two_208 (by decide) (fun c_38 => ?_) (fun c_38 => ?_)
      · skip
        have f39 : p2.toInt = 0 := qi_eq c_38 rfl zc_0
        refine lv_iconst (v := 0) hx hb dX9_two_215 (by decide) ?_
        rw [hQ]
        exact W.iret (v := 0) hx hb hr (fun t ht hW => ⟨⟨0, 0, rfl, rfl, trivial⟩, hS.F ht⟩) hS.2.2 dX9_two_216
      · skip
        have f40 : p2.toInt ≠ 0 := qi_ne c_38 rfl zc_0
        refine lv_iconst (v := 1) hx hb dX9_two_211 (by decide) ?_
        refine lv_goto (tgt := 216) hx hb dX9_two_212 (by decide) ?_
        rw [hQ]
        exact W.iret (v := 1) hx hb hr (fun t ht hW => ⟨⟨1, 1, rfl, rfl, trivial⟩, hS.F ht⟩) hS.2.2 dX9_two_216
  · skip
    refine lv_tableIn (off := 127) (tgt := 128) hx hb dX9_two_1 (by rw [hs1]; decide) (by rw [hs1]; decide) (by rw [hs1]; decide) (by decide) ?_
    have f41 : p0.toInt = 42 := qi_eq hs1 rfl zc_42
    refine lv_iload_n hx hb dX9_two_128 rfl (lv_at hl 1 rfl) ?_
    refine lv_iload_n hx hb dX9_two_129 rfl (lv_at hl 2 rfl) ?_
    refine lv_imul hx hb dX9_two_130 ?_
    refine lv_topi (fun x42 ex42 => ?_)
    rw [hQ]
    exact W.iret (v := x42) hx hb hr (fun t ht hW => ⟨⟨x42, x42, rfl, rfl, trivial⟩, hS.F ht⟩) hS.2.2 dX9_two_131
  · skip
    refine lv_tableIn (off := 119) (tgt := 120) hx hb dX9_two_1 (by rw [hs1]; decide) (by rw [hs1]; decide) (by rw [hs1]; decide) (by decide) ?_
    have f43 : p0.toInt = 43 := qi_eq hs1 rfl zc_43
    refine lv_iload_n hx hb dX9_two_120 rfl (lv_at hl 1 rfl) ?_
    refine lv_iload_n hx hb dX9_two_121 rfl (lv_at hl 2 rfl) ?_
    refine lv_iadd hx hb dX9_two_122 ?_
    refine lv_topi (fun x44 ex44 => ?_)
    rw [hQ]
    exact W.iret (v := x44) hx hb hr (fun t ht hW => ⟨⟨x44, x44, rfl, rfl, trivial⟩, hS.F ht⟩) hS.2.2 dX9_two_123
  · skip
    refine lv_tableIn (off := 202) (tgt := 203) hx hb dX9_two_1 (by rw [hs1]; decide) (by rw [hs1]; decide) (by rw [hs1]; decide) (by decide) ?_
    have f45 : p0.toInt = 44 := qi_eq hs1 rfl zc_44
    refine lv_iload_n hx hb dX9_two_203 rfl (lv_at hl 1 rfl) ?_
    refine lv_if_ne (tgt := 211) hx hb dX9_two_204 (by decide) (fun c_46 => ?_) (fun c_46 => ?_)
    · skip
      have f47 : p1.toInt ≠ 0 := qi_ne c_46 rfl zc_0
      refine lv_iconst (v := 1) hx hb dX9_two_211 (by decide) ?_
      refine lv_goto (tgt := 216) hx hb dX9_two_212 (by decide) ?_
      rw [hQ]
      exact W.iret (v := 1) hx hb hr (fun t ht hW => ⟨⟨1, 1, rfl, rfl, trivial⟩, hS.F ht⟩) hS.2.2 dX9_two_216
    · skip
      have f48 : p1.toInt = 0 := qi_eq c_46 rfl zc_0
      refine lv_iload_n hx hb dX9_two_207 rfl (lv_at hl 2 rfl) ?_
      refine lv_if_eq (tgt := 215) hx hb dX9_two_208 (by decide) (fun c_49 => ?_) (fun c_49 => ?_)
      · skip
        have f50 : p2.toInt = 0 := qi_eq c_49 rfl zc_0
        refine lv_iconst (v := 0) hx hb dX9_two_215 (by decide) ?_
        rw [hQ]
        exact W.iret (v := 0) hx hb hr (fun t ht hW => ⟨⟨0, 0, rfl, rfl, trivial⟩, hS.F ht⟩) hS.2.2 dX9_two_216
      · skip
        have f51 : p2.toInt ≠ 0 := qi_ne c_49 rfl zc_0
        refine lv_iconst (v := 1) hx hb dX9_two_211 (by decide) ?_
        refine lv_goto (tgt := 216) hx hb dX9_two_212 (by decide) ?_
        rw [hQ]
        exact W.iret (v := 1) hx hb hr (fun t ht hW => ⟨⟨1, 1, rfl, rfl, trivial⟩, hS.F ht⟩) hS.2.2 dX9_two_216
  · skip
    refine lv_tableIn (off := 123) (tgt := 124) hx hb dX9_two_1 (by rw [hs1]; decide) (by rw [hs1]; decide) (by rw [hs1]; decide) (by decide) ?_
    have f52 : p0.toInt = 45 := qi_eq hs1 rfl zc_45
    refine lv_iload_n hx hb dX9_two_124 rfl (lv_at hl 1 rfl) ?_
    refine lv_iload_n hx hb dX9_two_125 rfl (lv_at hl 2 rfl) ?_
    refine lv_isub hx hb dX9_two_126 ?_
    refine lv_topi (fun x53 ex53 => ?_)
    rw [hQ]
    exact W.iret (v := x53) hx hb hr (fun t ht hW => ⟨⟨x53, x53, rfl, rfl, trivial⟩, hS.F ht⟩) hS.2.2 dX9_two_127
  · skip
    refine lv_tableIn (off := 202) (tgt := 203) hx hb dX9_two_1 (by rw [hs1]; decide) (by rw [hs1]; decide) (by rw [hs1]; decide) (by decide) ?_
    have f54 : p0.toInt = 46 := qi_eq hs1 rfl zc_46
    refine lv_iload_n hx hb dX9_two_203 rfl (lv_at hl 1 rfl) ?_
    refine lv_if_ne (tgt := 211) hx hb dX9_two_204 (by decide) (fun c_55 => ?_) (fun c_55 => ?_)
    · skip
      have f56 : p1.toInt ≠ 0 := qi_ne c_55 rfl zc_0
      refine lv_iconst (v := 1) hx hb dX9_two_211 (by decide) ?_
      refine lv_goto (tgt := 216) hx hb dX9_two_212 (by decide) ?_
      rw [hQ]
      exact W.iret (v := 1) hx hb hr (fun t ht hW => ⟨⟨1, 1, rfl, rfl, trivial⟩, hS.F ht⟩) hS.2.2 dX9_two_216
    · skip
      have f57 : p1.toInt = 0 := qi_eq c_55 rfl zc_0
      refine lv_iload_n hx hb dX9_two_207 rfl (lv_at hl 2 rfl) ?_
      refine lv_if_eq (tgt := 215) hx hb dX9_two_208 (by decide) (fun c_58 => ?_) (fun c_58 => ?_)
      · skip
        have f59 : p2.toInt = 0 := qi_eq c_58 rfl zc_0
        refine lv_iconst (v := 0) hx hb dX9_two_215 (by decide) ?_
        rw [hQ]
        exact W.iret (v := 0) hx hb hr (fun t ht hW => ⟨⟨0, 0, rfl, rfl, trivial⟩, hS.F ht⟩) hS.2.2 dX9_two_216
      · skip
        have f60 : p2.toInt ≠ 0 := qi_ne c_58 rfl zc_0
        refine lv_iconst (v := 1) hx hb dX9_two_211 (by decide) ?_
        refine lv_goto (tgt := 216) hx hb dX9_two_212 (by decide) ?_
        rw [hQ]
        exact W.iret (v := 1) hx hb hr (fun t ht hW => ⟨⟨1, 1, rfl, rfl, trivial⟩, hS.F ht⟩) hS.2.2 dX9_two_216
  · skip
    refine lv_tableIn (off := 131) (tgt := 132) hx hb dX9_two_1 (by rw [hs1]; decide) (by rw [hs1]; decide) (by rw [hs1]; decide) (by decide) ?_
    have f61 : p0.toInt = 47 := qi_eq hs1 rfl zc_47
    refine lv_iload_n hx hb dX9_two_132 rfl (lv_at hl 2 rfl) ?_
    refine lv_if_ne (tgt := 140) hx hb dX9_two_133 (by decide) (fun c_62 => ?_) (fun c_62 => ?_)
    · skip
      have f63 : p2.toInt ≠ 0 := qi_ne c_62 rfl zc_0
      refine lv_iload_n hx hb dX9_two_140 rfl (lv_at hl 1 rfl) ?_
      refine lv_iload_n hx hb dX9_two_141 rfl (lv_at hl 2 rfl) ?_
      refine lv_idiv hx hb dX9_two_142 (qi_nz0 (ob_71 f63)) ?_
      refine lv_topi (fun x64 ex64 => ?_)
      rw [hQ]
      exact W.iret (v := x64) hx hb hr (fun t ht hW => ⟨⟨x64, x64, rfl, rfl, trivial⟩, hS.F ht⟩) hS.2.2 dX9_two_143
    · skip
      have f65 : p2.toInt = 0 := qi_eq c_62 rfl zc_0
      refine lv_iconst (v := 0) hx hb dX9_two_136 (by decide) ?_
      refine lv_goto (tgt := 143) hx hb dX9_two_137 (by decide) ?_
      rw [hQ]
      exact W.iret (v := 0) hx hb hr (fun t ht hW => ⟨⟨0, 0, rfl, rfl, trivial⟩, hS.F ht⟩) hS.2.2 dX9_two_143
  · skip
    refine lv_tableIn (off := 202) (tgt := 203) hx hb dX9_two_1 (by rw [hs1]; decide) (by rw [hs1]; decide) (by rw [hs1]; decide) (by decide) ?_
    have f66 : p0.toInt = 48 := qi_eq hs1 rfl zc_48
    refine lv_iload_n hx hb dX9_two_203 rfl (lv_at hl 1 rfl) ?_
    refine lv_if_ne (tgt := 211) hx hb dX9_two_204 (by decide) (fun c_67 => ?_) (fun c_67 => ?_)
    · skip
      have f68 : p1.toInt ≠ 0 := qi_ne c_67 rfl zc_0
      refine lv_iconst (v := 1) hx hb dX9_two_211 (by decide) ?_
      refine lv_goto (tgt := 216) hx hb dX9_two_212 (by decide) ?_
      rw [hQ]
      exact W.iret (v := 1) hx hb hr (fun t ht hW => ⟨⟨1, 1, rfl, rfl, trivial⟩, hS.F ht⟩) hS.2.2 dX9_two_216
    · skip
      have f69 : p1.toInt = 0 := qi_eq c_67 rfl zc_0
      refine lv_iload_n hx hb dX9_two_207 rfl (lv_at hl 2 rfl) ?_
      refine lv_if_eq (tgt := 215) hx hb dX9_two_208 (by decide) (fun c_70 => ?_) (fun c_70 => ?_)
      · skip
        have f71 : p2.toInt = 0 := qi_eq c_70 rfl zc_0
        refine lv_iconst (v := 0) hx hb dX9_two_215 (by decide) ?_
        rw [hQ]
        exact W.iret (v := 0) hx hb hr (fun t ht hW => ⟨⟨0, 0, rfl, rfl, trivial⟩, hS.F ht⟩) hS.2.2 dX9_two_216
      · skip
        have f72 : p2.toInt ≠ 0 := qi_ne c_70 rfl zc_0
        refine lv_iconst (v := 1) hx hb dX9_two_211 (by decide) ?_
        refine lv_goto (tgt := 216) hx hb dX9_two_212 (by decide) ?_
        rw [hQ]
        exact W.iret (v := 1) hx hb hr (fun t ht hW => ⟨⟨1, 1, rfl, rfl, trivial⟩, hS.F ht⟩) hS.2.2 dX9_two_216
  · skip
    refine lv_tableIn (off := 202) (tgt := 203) hx hb dX9_two_1 (by rw [hs1]; decide) (by rw [hs1]; decide) (by rw [hs1]; decide) (by decide) ?_
    have f73 : p0.toInt = 49 := qi_eq hs1 rfl zc_49
    refine lv_iload_n hx hb dX9_two_203 rfl (lv_at hl 1 rfl) ?_
    refine lv_if_ne (tgt := 211) hx hb dX9_two_204 (by decide) (fun c_74 => ?_) (fun c_74 => ?_)
    · skip
      have f75 : p1.toInt ≠ 0 := qi_ne c_74 rfl zc_0
      refine lv_iconst (v := 1) hx hb dX9_two_211 (by decide) ?_
      refine lv_goto (tgt := 216) hx hb dX9_two_212 (by decide) ?_
      rw [hQ]
      exact W.iret (v := 1) hx hb hr (fun t ht hW => ⟨⟨1, 1, rfl, rfl, trivial⟩, hS.F ht⟩) hS.2.2 dX9_two_216
    · skip
      have f76 : p1.toInt = 0 := qi_eq c_74 rfl zc_0
      refine lv_iload_n hx hb dX9_two_207 rfl (lv_at hl 2 rfl) ?_
      refine lv_if_eq (tgt := 215) hx hb dX9_two_208 (by decide) (fun c_77 => ?_) (fun c_77 => ?_)
      · skip
        have f78 : p2.toInt = 0 := qi_eq c_77 rfl zc_0
        refine lv_iconst (v := 0) hx hb dX9_two_215 (by decide) ?_
        rw [hQ]
        exact W.iret (v := 0) hx hb hr (fun t ht hW => ⟨⟨0, 0, rfl, rfl, trivial⟩, hS.F ht⟩) hS.2.2 dX9_two_216
      · skip
        have f79 : p2.toInt ≠ 0 := qi_ne c_77 rfl zc_0
        refine lv_iconst (v := 1) hx hb dX9_two_211 (by decide) ?_
        refine lv_goto (tgt := 216) hx hb dX9_two_212 (by decide) ?_
        rw [hQ]
        exact W.iret (v := 1) hx hb hr (fun t ht hW => ⟨⟨1, 1, rfl, rfl, trivial⟩, hS.F ht⟩) hS.2.2 dX9_two_216
  · skip
    refine lv_tableIn (off := 202) (tgt := 203) hx hb dX9_two_1 (by rw [hs1]; decide) (by rw [hs1]; decide) (by rw [hs1]; decide) (by decide) ?_
    have f80 : p0.toInt = 50 := qi_eq hs1 rfl zc_50
    refine lv_iload_n hx hb dX9_two_203 rfl (lv_at hl 1 rfl) ?_
    refine lv_if_ne (tgt := 211) hx hb dX9_two_204 (by decide) (fun c_81 => ?_) (fun c_81 => ?_)
    · skip
      have f82 : p1.toInt ≠ 0 := qi_ne c_81 rfl zc_0
      refine lv_iconst (v := 1) hx hb dX9_two_211 (by decide) ?_
      refine lv_goto (tgt := 216) hx hb dX9_two_212 (by decide) ?_
      rw [hQ]
      exact W.iret (v := 1) hx hb hr (fun t ht hW => ⟨⟨1, 1, rfl, rfl, trivial⟩, hS.F ht⟩) hS.2.2 dX9_two_216
    · skip
      have f83 : p1.toInt = 0 := qi_eq c_81 rfl zc_0
      refine lv_iload_n hx hb dX9_two_207 rfl (lv_at hl 2 rfl) ?_
      refine lv_if_eq (tgt := 215) hx hb dX9_two_208 (by decide) (fun c_84 => ?_) (fun c_84 => ?_)
      · skip
        have f85 : p2.toInt = 0 := qi_eq c_84 rfl zc_0
        refine lv_iconst (v := 0) hx hb dX9_two_215 (by decide) ?_
        rw [hQ]
        exact W.iret (v := 0) hx hb hr (fun t ht hW => ⟨⟨0, 0, rfl, rfl, trivial⟩, hS.F ht⟩) hS.2.2 dX9_two_216
      · skip
        have f86 : p2.toInt ≠ 0 := qi_ne c_84 rfl zc_0
        refine lv_iconst (v := 1) hx hb dX9_two_211 (by decide) ?_
        refine lv_goto (tgt := 216) hx hb dX9_two_212 (by decide) ?_
        rw [hQ]
        exact W.iret (v := 1) hx hb hr (fun t ht hW => ⟨⟨1, 1, rfl, rfl, trivial⟩, hS.F ht⟩) hS.2.2 dX9_two_216
  · skip
    refine lv_tableIn (off := 202) (tgt := 203) hx hb dX9_two_1 (by rw [hs1]; decide) (by rw [hs1]; decide) (by rw [hs1]; decide) (by decide) ?_
    have f87 : p0.toInt = 51 := qi_eq hs1 rfl zc_51
    refine lv_iload_n hx hb dX9_two_203 rfl (lv_at hl 1 rfl) ?_
    refine lv_if_ne (tgt := 211) hx hb dX9_two_204 (by decide) (fun c_88 => ?_) (fun c_88 => ?_)
    · skip
      have f89 : p1.toInt ≠ 0 := qi_ne c_88 rfl zc_0
      refine lv_iconst (v := 1) hx hb dX9_two_211 (by decide) ?_
      refine lv_goto (tgt := 216) hx hb dX9_two_212 (by decide) ?_
      rw [hQ]
      exact W.iret (v := 1) hx hb hr (fun t ht hW => ⟨⟨1, 1, rfl, rfl, trivial⟩, hS.F ht⟩) hS.2.2 dX9_two_216
    · skip
      have f90 : p1.toInt = 0 := qi_eq c_88 rfl zc_0
      refine lv_iload_n hx hb dX9_two_207 rfl (lv_at hl 2 rfl) ?_
      refine lv_if_eq (tgt := 215) hx hb dX9_two_208 (by decide) (fun c_91 => ?_) (fun c_91 => ?_)
      · skip
        have f92 : p2.toInt = 0 := qi_eq c_91 rfl zc_0
        refine lv_iconst (v := 0) hx hb dX9_two_215 (by decide) ?_
        rw [hQ]
        exact W.iret (v := 0) hx hb hr (fun t ht hW => ⟨⟨0, 0, rfl, rfl, trivial⟩, hS.F ht⟩) hS.2.2 dX9_two_216
      · skip
        have f93 : p2.toInt ≠ 0 := qi_ne c_91 rfl zc_0
        refine lv_iconst (v := 1) hx hb dX9_two_211 (by decide) ?_
        refine lv_goto (tgt := 216) hx hb dX9_two_212 (by decide) ?_
        rw [hQ]
        exact W.iret (v := 1) hx hb hr (fun t ht hW => ⟨⟨1, 1, rfl, rfl, trivial⟩, hS.F ht⟩) hS.2.2 dX9_two_216
  · skip
    refine lv_tableIn (off := 202) (tgt := 203) hx hb dX9_two_1 (by rw [hs1]; decide) (by rw [hs1]; decide) (by rw [hs1]; decide) (by decide) ?_
    have f94 : p0.toInt = 52 := qi_eq hs1 rfl zc_52
    refine lv_iload_n hx hb dX9_two_203 rfl (lv_at hl 1 rfl) ?_
    refine lv_if_ne (tgt := 211) hx hb dX9_two_204 (by decide) (fun c_95 => ?_) (fun c_95 => ?_)
    · skip
      have f96 : p1.toInt ≠ 0 := qi_ne c_95 rfl zc_0
      refine lv_iconst (v := 1) hx hb dX9_two_211 (by decide) ?_
      refine lv_goto (tgt := 216) hx hb dX9_two_212 (by decide) ?_
      rw [hQ]
      exact W.iret (v := 1) hx hb hr (fun t ht hW => ⟨⟨1, 1, rfl, rfl, trivial⟩, hS.F ht⟩) hS.2.2 dX9_two_216
    · skip
      have f97 : p1.toInt = 0 := qi_eq c_95 rfl zc_0
      refine lv_iload_n hx hb dX9_two_207 rfl (lv_at hl 2 rfl) ?_
      refine lv_if_eq (tgt := 215) hx hb dX9_two_208 (by decide) (fun c_98 => ?_) (fun c_98 => ?_)
      · skip
        have f99 : p2.toInt = 0 := qi_eq c_98 rfl zc_0
        refine lv_iconst (v := 0) hx hb dX9_two_215 (by decide) ?_
        rw [hQ]
        exact W.iret (v := 0) hx hb hr (fun t ht hW => ⟨⟨0, 0, rfl, rfl, trivial⟩, hS.F ht⟩) hS.2.2 dX9_two_216
      · skip
        have f100 : p2.toInt ≠ 0 := qi_ne c_98 rfl zc_0
        refine lv_iconst (v := 1) hx hb dX9_two_211 (by decide) ?_
        refine lv_goto (tgt := 216) hx hb dX9_two_212 (by decide) ?_
        rw [hQ]
        exact W.iret (v := 1) hx hb hr (fun t ht hW => ⟨⟨1, 1, rfl, rfl, trivial⟩, hS.F ht⟩) hS.2.2 dX9_two_216
  · skip
    refine lv_tableIn (off := 202) (tgt := 203) hx hb dX9_two_1 (by rw [hs1]; decide) (by rw [hs1]; decide) (by rw [hs1]; decide) (by decide) ?_
    have f101 : p0.toInt = 53 := qi_eq hs1 rfl zc_53
    refine lv_iload_n hx hb dX9_two_203 rfl (lv_at hl 1 rfl) ?_
    refine lv_if_ne (tgt := 211) hx hb dX9_two_204 (by decide) (fun c_102 => ?_) (fun c_102 => ?_)
    · skip
      have f103 : p1.toInt ≠ 0 := qi_ne c_102 rfl zc_0
      refine lv_iconst (v := 1) hx hb dX9_two_211 (by decide) ?_
      refine lv_goto (tgt := 216) hx hb dX9_two_212 (by decide) ?_
      rw [hQ]
      exact W.iret (v := 1) hx hb hr (fun t ht hW => ⟨⟨1, 1, rfl, rfl, trivial⟩, hS.F ht⟩) hS.2.2 dX9_two_216
    · skip
      have f104 : p1.toInt = 0 := qi_eq c_102 rfl zc_0
      refine lv_iload_n hx hb dX9_two_207 rfl (lv_at hl 2 rfl) ?_
      refine lv_if_eq (tgt := 215) hx hb dX9_two_208 (by decide) (fun c_105 => ?_) (fun c_105 => ?_)
      · skip
        have f106 : p2.toInt = 0 := qi_eq c_105 rfl zc_0
        refine lv_iconst (v := 0) hx hb dX9_two_215 (by decide) ?_
        rw [hQ]
        exact W.iret (v := 0) hx hb hr (fun t ht hW => ⟨⟨0, 0, rfl, rfl, trivial⟩, hS.F ht⟩) hS.2.2 dX9_two_216
      · skip
        have f107 : p2.toInt ≠ 0 := qi_ne c_105 rfl zc_0
        refine lv_iconst (v := 1) hx hb dX9_two_211 (by decide) ?_
        refine lv_goto (tgt := 216) hx hb dX9_two_212 (by decide) ?_
        rw [hQ]
        exact W.iret (v := 1) hx hb hr (fun t ht hW => ⟨⟨1, 1, rfl, rfl, trivial⟩, hS.F ht⟩) hS.2.2 dX9_two_216
  · skip
    refine lv_tableIn (off := 202) (tgt := 203) hx hb dX9_two_1 (by rw [hs1]; decide) (by rw [hs1]; decide) (by rw [hs1]; decide) (by decide) ?_
    have f108 : p0.toInt = 54 := qi_eq hs1 rfl zc_54
    refine lv_iload_n hx hb dX9_two_203 rfl (lv_at hl 1 rfl) ?_
    refine lv_if_ne (tgt := 211) hx hb dX9_two_204 (by decide) (fun c_109 => ?_) (fun c_109 => ?_)
    · skip
      have f110 : p1.toInt ≠ 0 := qi_ne c_109 rfl zc_0
      refine lv_iconst (v := 1) hx hb dX9_two_211 (by decide) ?_
      refine lv_goto (tgt := 216) hx hb dX9_two_212 (by decide) ?_
      rw [hQ]
      exact W.iret (v := 1) hx hb hr (fun t ht hW => ⟨⟨1, 1, rfl, rfl, trivial⟩, hS.F ht⟩) hS.2.2 dX9_two_216
    · skip
      have f111 : p1.toInt = 0 := qi_eq c_109 rfl zc_0
      refine lv_iload_n hx hb dX9_two_207 rfl (lv_at hl 2 rfl) ?_
      refine lv_if_eq (tgt := 215) hx hb dX9_two_208 (by decide) (fun c_112 => ?_) (fun c_112 => ?_)
      · skip
        have f113 : p2.toInt = 0 := qi_eq c_112 rfl zc_0
        refine lv_iconst (v := 0) hx hb dX9_two_215 (by decide) ?_
        rw [hQ]
        exact W.iret (v := 0) hx hb hr (fun t ht hW => ⟨⟨0, 0, rfl, rfl, trivial⟩, hS.F ht⟩) hS.2.2 dX9_two_216
      · skip
        have f114 : p2.toInt ≠ 0 := qi_ne c_112 rfl zc_0
        refine lv_iconst (v := 1) hx hb dX9_two_211 (by decide) ?_
        refine lv_goto (tgt := 216) hx hb dX9_two_212 (by decide) ?_
        rw [hQ]
        exact W.iret (v := 1) hx hb hr (fun t ht hW => ⟨⟨1, 1, rfl, rfl, trivial⟩, hS.F ht⟩) hS.2.2 dX9_two_216
  · skip
    refine lv_tableIn (off := 202) (tgt := 203) hx hb dX9_two_1 (by rw [hs1]; decide) (by rw [hs1]; decide) (by rw [hs1]; decide) (by decide) ?_
    have f115 : p0.toInt = 55 := qi_eq hs1 rfl zc_55
    refine lv_iload_n hx hb dX9_two_203 rfl (lv_at hl 1 rfl) ?_
    refine lv_if_ne (tgt := 211) hx hb dX9_two_204 (by decide) (fun c_116 => ?_) (fun c_116 => ?_)
    · skip
      have f117 : p1.toInt ≠ 0 := qi_ne c_116 rfl zc_0
      refine lv_iconst (v := 1) hx hb dX9_two_211 (by decide) ?_
      refine lv_goto (tgt := 216) hx hb dX9_two_212 (by decide) ?_
      rw [hQ]
      exact W.iret (v := 1) hx hb hr (fun t ht hW => ⟨⟨1, 1, rfl, rfl, trivial⟩, hS.F ht⟩) hS.2.2 dX9_two_216
    · skip
      have f118 : p1.toInt = 0 := qi_eq c_116 rfl zc_0
      refine lv_iload_n hx hb dX9_two_207 rfl (lv_at hl 2 rfl) ?_
      refine lv_if_eq (tgt := 215) hx hb dX9_two_208 (by decide) (fun c_119 => ?_) (fun c_119 => ?_)
      · skip
        have f120 : p2.toInt = 0 := qi_eq c_119 rfl zc_0
        refine lv_iconst (v := 0) hx hb dX9_two_215 (by decide) ?_
        rw [hQ]
        exact W.iret (v := 0) hx hb hr (fun t ht hW => ⟨⟨0, 0, rfl, rfl, trivial⟩, hS.F ht⟩) hS.2.2 dX9_two_216
      · skip
        have f121 : p2.toInt ≠ 0 := qi_ne c_119 rfl zc_0
        refine lv_iconst (v := 1) hx hb dX9_two_211 (by decide) ?_
        refine lv_goto (tgt := 216) hx hb dX9_two_212 (by decide) ?_
        rw [hQ]
        exact W.iret (v := 1) hx hb hr (fun t ht hW => ⟨⟨1, 1, rfl, rfl, trivial⟩, hS.F ht⟩) hS.2.2 dX9_two_216
  · skip
    refine lv_tableIn (off := 202) (tgt := 203) hx hb dX9_two_1 (by rw [hs1]; decide) (by rw [hs1]; decide) (by rw [hs1]; decide) (by decide) ?_
    have f122 : p0.toInt = 56 := qi_eq hs1 rfl zc_56
    refine lv_iload_n hx hb dX9_two_203 rfl (lv_at hl 1 rfl) ?_
    refine lv_if_ne (tgt := 211) hx hb dX9_two_204 (by decide) (fun c_123 => ?_) (fun c_123 => ?_)
    · skip
      have f124 : p1.toInt ≠ 0 := qi_ne c_123 rfl zc_0
      refine lv_iconst (v := 1) hx hb dX9_two_211 (by decide) ?_
      refine lv_goto (tgt := 216) hx hb dX9_two_212 (by decide) ?_
      rw [hQ]
      exact W.iret (v := 1) hx hb hr (fun t ht hW => ⟨⟨1, 1, rfl, rfl, trivial⟩, hS.F ht⟩) hS.2.2 dX9_two_216
    · skip
      have f125 : p1.toInt = 0 := qi_eq c_123 rfl zc_0
      refine lv_iload_n hx hb dX9_two_207 rfl (lv_at hl 2 rfl) ?_
      refine lv_if_eq (tgt := 215) hx hb dX9_two_208 (by decide) (fun c_126 => ?_) (fun c_126 => ?_)
      · skip
        have f127 : p2.toInt = 0 := qi_eq c_126 rfl zc_0
        refine lv_iconst (v := 0) hx hb dX9_two_215 (by decide) ?_
        rw [hQ]
        exact W.iret (v := 0) hx hb hr (fun t ht hW => ⟨⟨0, 0, rfl, rfl, trivial⟩, hS.F ht⟩) hS.2.2 dX9_two_216
      · skip
        have f128 : p2.toInt ≠ 0 := qi_ne c_126 rfl zc_0
        refine lv_iconst (v := 1) hx hb dX9_two_211 (by decide) ?_
        refine lv_goto (tgt := 216) hx hb dX9_two_212 (by decide) ?_
        rw [hQ]
        exact W.iret (v := 1) hx hb hr (fun t ht hW => ⟨⟨1, 1, rfl, rfl, trivial⟩, hS.F ht⟩) hS.2.2 dX9_two_216
  · skip
    refine lv_tableIn (off := 202) (tgt := 203) hx hb dX9_two_1 (by rw [hs1]; decide) (by rw [hs1]; decide) (by rw [hs1]; decide) (by decide) ?_
    have f129 : p0.toInt = 57 := qi_eq hs1 rfl zc_57
    refine lv_iload_n hx hb dX9_two_203 rfl (lv_at hl 1 rfl) ?_
    refine lv_if_ne (tgt := 211) hx hb dX9_two_204 (by decide) (fun c_130 => ?_) (fun c_130 => ?_)
    · skip
      have f131 : p1.toInt ≠ 0 := qi_ne c_130 rfl zc_0
      refine lv_iconst (v := 1) hx hb dX9_two_211 (by decide) ?_
      refine lv_goto (tgt := 216) hx hb dX9_two_212 (by decide) ?_
      rw [hQ]
      exact W.iret (v := 1) hx hb hr (fun t ht hW => ⟨⟨1, 1, rfl, rfl, trivial⟩, hS.F ht⟩) hS.2.2 dX9_two_216
    · skip
      have f132 : p1.toInt = 0 := qi_eq c_130 rfl zc_0
      refine lv_iload_n hx hb dX9_two_207 rfl (lv_at hl 2 rfl) ?_
      refine lv_if_eq (tgt := 215) hx hb dX9_two_208 (by decide) (fun c_133 => ?_) (fun c_133 => ?_)
      · skip
        have f134 : p2.toInt = 0 := qi_eq c_133 rfl zc_0
        refine lv_iconst (v := 0) hx hb dX9_two_215 (by decide) ?_
        rw [hQ]
        exact W.iret (v := 0) hx hb hr (fun t ht hW => ⟨⟨0, 0, rfl, rfl, trivial⟩, hS.F ht⟩) hS.2.2 dX9_two_216
      · skip
        have f135 : p2.toInt ≠ 0 := qi_ne c_133 rfl zc_0
        refine lv_iconst (v := 1) hx hb dX9_two_211 (by decide) ?_
        refine lv_goto (tgt := 216) hx hb dX9_two_212 (by decide) ?_
        rw [hQ]
        exact W.iret (v := 1) hx hb hr (fun t ht hW => ⟨⟨1, 1, rfl, rfl, trivial⟩, hS.F ht⟩) hS.2.2 dX9_two_216
  · skip
    refine lv_tableIn (off := 202) (tgt := 203) hx hb dX9_two_1 (by rw [hs1]; decide) (by rw [hs1]; decide) (by rw [hs1]; decide) (by decide) ?_
    have f136 : p0.toInt = 58 := qi_eq hs1 rfl zc_58
    refine lv_iload_n hx hb dX9_two_203 rfl (lv_at hl 1 rfl) ?_
    refine lv_if_ne (tgt := 211) hx hb dX9_two_204 (by decide) (fun c_137 => ?_) (fun c_137 => ?_)
    · skip
      have f138 : p1.toInt ≠ 0 := qi_ne c_137 rfl zc_0
      refine lv_iconst (v := 1) hx hb dX9_two_211 (by decide) ?_
      refine lv_goto (tgt := 216) hx hb dX9_two_212 (by decide) ?_
      rw [hQ]
      exact W.iret (v := 1) hx hb hr (fun t ht hW => ⟨⟨1, 1, rfl, rfl, trivial⟩, hS.F ht⟩) hS.2.2 dX9_two_216
    · skip
      have f139 : p1.toInt = 0 := qi_eq c_137 rfl zc_0
      refine lv_iload_n hx hb dX9_two_207 rfl (lv_at hl 2 rfl) ?_
      refine lv_if_eq (tgt := 215) hx hb dX9_two_208 (by decide) (fun c_140 => ?_) (fun c_140 => ?_)
      · skip
        have f141 : p2.toInt = 0 := qi_eq c_140 rfl zc_0
        refine lv_iconst (v := 0) hx hb dX9_two_215 (by decide) ?_
        rw [hQ]
        exact W.iret (v := 0) hx hb hr (fun t ht hW => ⟨⟨0, 0, rfl, rfl, trivial⟩, hS.F ht⟩) hS.2.2 dX9_two_216
      · skip
        have f142 : p2.toInt ≠ 0 := qi_ne c_140 rfl zc_0
        refine lv_iconst (v := 1) hx hb dX9_two_211 (by decide) ?_
        refine lv_goto (tgt := 216) hx hb dX9_two_212 (by decide) ?_
        rw [hQ]
        exact W.iret (v := 1) hx hb hr (fun t ht hW => ⟨⟨1, 1, rfl, rfl, trivial⟩, hS.F ht⟩) hS.2.2 dX9_two_216
  · skip
    refine lv_tableIn (off := 202) (tgt := 203) hx hb dX9_two_1 (by rw [hs1]; decide) (by rw [hs1]; decide) (by rw [hs1]; decide) (by decide) ?_
    have f143 : p0.toInt = 59 := qi_eq hs1 rfl zc_59
    refine lv_iload_n hx hb dX9_two_203 rfl (lv_at hl 1 rfl) ?_
    refine lv_if_ne (tgt := 211) hx hb dX9_two_204 (by decide) (fun c_144 => ?_) (fun c_144 => ?_)
    · skip
      have f145 : p1.toInt ≠ 0 := qi_ne c_144 rfl zc_0
      refine lv_iconst (v := 1) hx hb dX9_two_211 (by decide) ?_
      refine lv_goto (tgt := 216) hx hb dX9_two_212 (by decide) ?_
      rw [hQ]
      exact W.iret (v := 1) hx hb hr (fun t ht hW => ⟨⟨1, 1, rfl, rfl, trivial⟩, hS.F ht⟩) hS.2.2 dX9_two_216
    · skip
      have f146 : p1.toInt = 0 := qi_eq c_144 rfl zc_0
      refine lv_iload_n hx hb dX9_two_207 rfl (lv_at hl 2 rfl) ?_
      refine lv_if_eq (tgt := 215) hx hb dX9_two_208 (by decide) (fun c_147 => ?_) (fun c_147 => ?_)
      · skip
        have f148 : p2.toInt = 0 := qi_eq c_147 rfl zc_0
        refine lv_iconst (v := 0) hx hb dX9_two_215 (by decide) ?_
        rw [hQ]
        exact W.iret (v := 0) hx hb hr (fun t ht hW => ⟨⟨0, 0, rfl, rfl, trivial⟩, hS.F ht⟩) hS.2.2 dX9_two_216
      · skip
        have f149 : p2.toInt ≠ 0 := qi_ne c_147 rfl zc_0
        refine lv_iconst (v := 1) hx hb dX9_two_211 (by decide) ?_
        refine lv_goto (tgt := 216) hx hb dX9_two_212 (by decide) ?_
        rw [hQ]
        exact W.iret (v := 1) hx hb hr (fun t ht hW => ⟨⟨1, 1, rfl, rfl, trivial⟩, hS.F ht⟩) hS.2.2 dX9_two_216
  · skip
    refine lv_tableIn (off := 155) (tgt := 156) hx hb dX9_two_1 (by rw [hs1]; decide) (by rw [hs1]; decide) (by rw [hs1]; decide) (by decide) ?_
    have f150 : p0.toInt = 60 := qi_eq hs1 rfl zc_60
    refine lv_iload_n hx hb dX9_two_156 rfl (lv_at hl 1 rfl) ?_
    refine lv_iload_n hx hb dX9_two_157 rfl (lv_at hl 2 rfl) ?_
    refine lv_icmp_ge (tgt := 165) hx hb dX9_two_158 (by decide) (fun c_151 => ?_) (fun c_151 => ?_)
    · skip
      have f152 : p2.toInt ≤ p1.toInt := qi_le c_151 rfl rfl
      refine lv_iconst (v := 0) hx hb dX9_two_165 (by decide) ?_
      rw [hQ]
      exact W.iret (v := 0) hx hb hr (fun t ht hW => ⟨⟨0, 0, rfl, rfl, trivial⟩, hS.F ht⟩) hS.2.2 dX9_two_166
    · skip
      have f153 : p1.toInt < p2.toInt := qi_nle c_151 rfl rfl
      refine lv_iconst (v := 1) hx hb dX9_two_161 (by decide) ?_
      refine lv_goto (tgt := 166) hx hb dX9_two_162 (by decide) ?_
      rw [hQ]
      exact W.iret (v := 1) hx hb hr (fun t ht hW => ⟨⟨1, 1, rfl, rfl, trivial⟩, hS.F ht⟩) hS.2.2 dX9_two_166
  · skip
    refine lv_tableIn (off := 177) (tgt := 178) hx hb dX9_two_1 (by rw [hs1]; decide) (by rw [hs1]; decide) (by rw [hs1]; decide) (by decide) ?_
    have f154 : p0.toInt = 61 := qi_eq hs1 rfl zc_61
    refine lv_iload_n hx hb dX9_two_178 rfl (lv_at hl 1 rfl) ?_
    refine lv_iload_n hx hb dX9_two_179 rfl (lv_at hl 2 rfl) ?_
    refine lv_icmp_ne (tgt := 187) hx hb dX9_two_180 (by decide) (fun c_155 => ?_) (fun c_155 => ?_)
    · skip
      have f156 : p1.toInt ≠ p2.toInt := qi_ne c_155 rfl rfl
      refine lv_iconst (v := 0) hx hb dX9_two_187 (by decide) ?_
      rw [hQ]
      exact W.iret (v := 0) hx hb hr (fun t ht hW => ⟨⟨0, 0, rfl, rfl, trivial⟩, hS.F ht⟩) hS.2.2 dX9_two_188
    · skip
      have f157 : p1.toInt = p2.toInt := qi_eq c_155 rfl rfl
      refine lv_iconst (v := 1) hx hb dX9_two_183 (by decide) ?_
      refine lv_goto (tgt := 188) hx hb dX9_two_184 (by decide) ?_
      rw [hQ]
      exact W.iret (v := 1) hx hb hr (fun t ht hW => ⟨⟨1, 1, rfl, rfl, trivial⟩, hS.F ht⟩) hS.2.2 dX9_two_188
  · skip
    refine lv_tableIn (off := 166) (tgt := 167) hx hb dX9_two_1 (by rw [hs1]; decide) (by rw [hs1]; decide) (by rw [hs1]; decide) (by decide) ?_
    have f158 : p0.toInt = 62 := qi_eq hs1 rfl zc_62
    refine lv_iload_n hx hb dX9_two_167 rfl (lv_at hl 1 rfl) ?_
    refine lv_iload_n hx hb dX9_two_168 rfl (lv_at hl 2 rfl) ?_
    refine lv_icmp_le (tgt := 176) hx hb dX9_two_169 (by decide) (fun c_159 => ?_) (fun c_159 => ?_)
    · skip
      have f160 : p1.toInt ≤ p2.toInt := qi_le c_159 rfl rfl
      refine lv_iconst (v := 0) hx hb dX9_two_176 (by decide) ?_
      rw [hQ]
      exact W.iret (v := 0) hx hb hr (fun t ht hW => ⟨⟨0, 0, rfl, rfl, trivial⟩, hS.F ht⟩) hS.2.2 dX9_two_177
    · skip
      have f161 : p2.toInt < p1.toInt := qi_nle c_159 rfl rfl
      refine lv_iconst (v := 1) hx hb dX9_two_172 (by decide) ?_
      refine lv_goto (tgt := 177) hx hb dX9_two_173 (by decide) ?_
      rw [hQ]
      exact W.iret (v := 1) hx hb hr (fun t ht hW => ⟨⟨1, 1, rfl, rfl, trivial⟩, hS.F ht⟩) hS.2.2 dX9_two_177
set_option maxHeartbeats 4000000 in
set_option maxRecDepth 100000 in
theorem kX9_held (l : Launch) (dC : Nat → ClassId) (dI : Nat → Nat → Nat) (p0 p1 p2 : Int32) (sz : Nat) : Met l yX9_held (.code yX9_held cX9_held 3 (some .int) :: GW) { frames := 2, cells := 0, slots := 0, locals := 100 } (va_Pc [.int p0, .int p1, .int p2] (pR (dC, dI) [] [] sz)) (va_Qi (fun (r0 : Int32) (u : Int32) => r0 = u) (fun (u : Int32) (t : State) => (((p1.toInt ≤ p0.toInt) ∧ (p0.toInt ≤ p2.toInt) ∧ (u.toInt = p0.toInt)) ∨ ((p1.toInt ≤ p0.toInt) ∧ (p2.toInt + 1 ≤ p0.toInt) ∧ (u.toInt = p2.toInt)) ∨ ((p0.toInt + 1 ≤ p1.toInt) ∧ (u.toInt = p1.toInt)))) (fun q => sz ≤ q)) 0 0 (fun q => sz ≤ q) := by
  refine Met.ofW (cc := cX9_held) (maxL := 3) (ret := (some .int)) (by decide) rfl ?_
  intro p e s m args below meth c0 s₁ B hml hv
  obtain ⟨rfl, hsz, hP, hK⟩ := hv
  have hx := B.exec
  have hb := B.bytes
  have hr := B.returns
  have hts := atoms_spec (ws := .code yX9_held cX9_held 3 (some .int) :: GW) B.pre
  have hG : ∀ w ∈ GW, w.before _ s = true := fun w h => hts w (List.mem_cons_of_mem _ h)
  have hown : s.vm.findClass RX9 = some m.cls := findClass_of_methodNamed B.named
  subst hsz
  have hS : va_S (fun q => s.heap.size ≤ q) s.heap s.heap [] := va_S.rf
  have hP : va_P (dC, dI) vwCl [] s.heap := hP
  have hl := lv_entry ([.int p0, .int p1, .int p2]) (n := 3) (Nat.le_of_ble_eq_true rfl)
  rw [lg_entry_eq]
  generalize (lg_sl ([.int p0, .int p1, .int p2]) ++ List.replicate (3 - (lg_sl ([.int p0, .int p1, .int p2])).length) Slot.unset).toArray = ls at hl ⊢
  have hl : lv_has ls 3 [(0, .int p0), (1, .int p1), (2, .int p2)] := hl
  refine nameQ (fun Q hQ => ?_)
  refine lv_iload_n hx hb dX9_held_0 rfl (lv_at hl 0 rfl) ?_
  refine lv_iload_n hx hb dX9_held_1 rfl (lv_at hl 1 rfl) ?_
  refine lv_icmp_ge (tgt := 9) hx hb dX9_held_2 (by decide) (fun c_1 => ?_) (fun c_1 => ?_)
  · skip
    have f2 : p1.toInt ≤ p0.toInt := qi_le c_1 rfl rfl
    refine lv_iload_n hx hb dX9_held_9 rfl (lv_at hl 0 rfl) ?_
    refine lv_iload_n hx hb dX9_held_10 rfl (lv_at hl 2 rfl) ?_
    refine lv_icmp_le (tgt := 18) hx hb dX9_held_11 (by decide) (fun c_3 => ?_) (fun c_3 => ?_)
    · skip
      have f4 : p0.toInt ≤ p2.toInt := qi_le c_3 rfl rfl
      refine lv_iload_n hx hb dX9_held_18 rfl (lv_at hl 0 rfl) ?_
      rw [hQ]
      exact W.iret (v := p0) hx hb hr (fun t ht hW => ⟨⟨p0, p0, rfl, rfl, (ob_72 f2 f4)⟩, hS.F ht⟩) hS.2.2 dX9_held_19
    · skip
      have f5 : p2.toInt < p0.toInt := qi_nle c_3 rfl rfl
      refine lv_iload_n hx hb dX9_held_14 rfl (lv_at hl 2 rfl) ?_
      refine lv_goto (tgt := 19) hx hb dX9_held_15 (by decide) ?_
      rw [hQ]
      exact W.iret (v := p2) hx hb hr (fun t ht hW => ⟨⟨p2, p2, rfl, rfl, (ob_73 f2 f5)⟩, hS.F ht⟩) hS.2.2 dX9_held_19
  · skip
    have f6 : p0.toInt < p1.toInt := qi_nle c_1 rfl rfl
    refine lv_iload_n hx hb dX9_held_5 rfl (lv_at hl 1 rfl) ?_
    refine lv_goto (tgt := 19) hx hb dX9_held_6 (by decide) ?_
    rw [hQ]
    exact W.iret (v := p1) hx hb hr (fun t ht hW => ⟨⟨p1, p1, rfl, rfl, (ob_74 f6)⟩, hS.F ht⟩) hS.2.2 dX9_held_19
set_option maxHeartbeats 4000000 in
set_option maxRecDepth 100000 in
theorem kX9_leftOf (l : Launch) (dC : Nat → ClassId) (dI : Nat → Nat → Nat) (r : Nat → Nat) (ct : Nat → ClassId) (i_taped i_size i_faultKind i_at i_end i_token i_number i_bank i_rb i_codes i_within i_piled i_unitsInRule i_askHouse i_askTune i_acts i_undone i_laid i_knowns i_time : Int32) (f_text f_tunes f_houses f_hums f_told f_many f_ruleFrom f_ruleTo f_code f_eWhat f_eSign f_all f_kept f_was f_sTune f_boxAll : Nat → Int32) (J : Nat → Nat → Int32) (L : Nat → Nat → Int64) (p0 : Int32) (sz : Nat) (hI : (IM i_taped i_size i_at i_end i_bank i_rb i_acts i_undone i_laid i_knowns i_time f_tunes f_houses f_hums f_told f_many f_ruleFrom f_ruleTo f_code f_all f_kept f_was f_sTune f_boxAll)) (hp0 : 0 ≤ p0.toInt) (hp1 : p0.toInt + 1 ≤ (f_tunes (i_bank.toInt).toNat).toInt) : Met l yX9_leftOf (.code yX9_leftOf cX9_leftOf 2 (some .int) :: GW) { frames := 4, cells := 0, slots := 0, locals := 162 } (va_Pc [.ref (r 0), .int p0] (pR (dC, dI) (WM r ct i_taped i_size i_faultKind i_at i_end i_token i_number i_bank i_rb i_codes i_within i_piled i_unitsInRule i_askHouse i_askTune i_acts i_undone i_laid i_knowns i_time f_text f_tunes f_houses f_hums f_told f_many f_ruleFrom f_ruleTo f_code f_eWhat f_eSign f_all f_kept f_was f_sTune f_boxAll J L) (TM ct) sz)) (va_Qi (fun (r0 : Int32) (u : Int32) => r0 = u) (fun (u : Int32) (t : State) => (3 ≤ (f_many (p0.toInt + 5 * i_bank.toInt).toNat).toInt) ∧ ((f_many (p0.toInt + 5 * i_bank.toInt).toNat).toInt ≤ 8) ∧ (0 ≤ (f_all (p0.toInt + 10).toNat).toInt) ∧ ((f_all (p0.toInt + 10).toNat).toInt ≤ 99) ∧ (3 ≤ u.toInt) ∧ (u.toInt ≤ 8) ∧ (((u.toInt = 3) ∧ ((f_many (p0.toInt + 5 * i_bank.toInt).toNat).toInt ≤ (f_all (p0.toInt + 10).toNat).toInt + 3)) ∨ (u.toInt + (f_all (p0.toInt + 10).toNat).toInt = (f_many (p0.toInt + 5 * i_bank.toInt).toNat).toInt))) (fun q => sz ≤ q)) 0 0 (fun q => sz ≤ q) := by
  refine Met.ofW (cc := cX9_leftOf) (maxL := 2) (ret := (some .int)) (by decide) rfl ?_
  intro p e s m args below meth c0 s₁ B hml hv
  obtain ⟨rfl, hsz, hP, hK⟩ := hv
  have hx := B.exec
  have hb := B.bytes
  have hr := B.returns
  have hts := atoms_spec (ws := .code yX9_leftOf cX9_leftOf 2 (some .int) :: GW) B.pre
  have hG : ∀ w ∈ GW, w.before _ s = true := fun w h => hts w (List.mem_cons_of_mem _ h)
  have hown : s.vm.findClass RX9 = some m.cls := findClass_of_methodNamed B.named
  subst hsz
  have hS : va_S (fun q => s.heap.size ≤ q) s.heap s.heap [] := va_S.rf
  have hP : va_P (dC, dI) vwCl (WM r ct i_taped i_size i_faultKind i_at i_end i_token i_number i_bank i_rb i_codes i_within i_piled i_unitsInRule i_askHouse i_askTune i_acts i_undone i_laid i_knowns i_time f_text f_tunes f_houses f_hums f_told f_many f_ruleFrom f_ruleTo f_code f_eWhat f_eSign f_all f_kept f_was f_sTune f_boxAll J L) s.heap := hP
  have hl := lv_entry ([.ref (r 0), .int p0]) (n := 2) (Nat.le_of_ble_eq_true rfl)
  rw [lg_entry_eq]
  generalize (lg_sl ([.ref (r 0), .int p0]) ++ List.replicate (2 - (lg_sl ([.ref (r 0), .int p0])).length) Slot.unset).toArray = ls at hl ⊢
  have hl : lv_has ls 2 [(0, .ref (r 0)), (1, .int p0)] := hl
  refine nameQ (fun Q hQ => ?_)
  obtain ⟨im0, im1, im2, im3, im4, im5, im6, im7, im8, im9, im10, im11, im12, im13, im14, im15, im16, im17, im18, im19, im20, im21, im22, im23, im24, im25, im26, im27, im28, im29, im30⟩ := id hI
  have f1 : 0 ≤ (f_tunes (i_bank.toInt).toNat).toInt ∧ (f_tunes (i_bank.toInt).toNat).toInt ≤ 5 := im20 (i_bank.toInt)
  have f2 : 0 ≤ (f_houses (i_bank.toInt).toNat).toInt ∧ (f_houses (i_bank.toInt).toNat).toInt ≤ 4 := im21 (i_bank.toInt)
  refine lv_aload_n hx hb dX9_leftOf_0 rfl (lv_at hl 0 rfl) ?_
  refine gM_X9_45_0 hx hb hG hown hK hP dX9_leftOf_1 ?_
  refine lv_iconst (v := 5) hx hb dX9_leftOf_4 (by decide) ?_
  refine lv_aload_n hx hb dX9_leftOf_5 rfl (lv_at hl 0 rfl) ?_
  refine gM_X9_249_0 hx hb hG hown hK hP dX9_leftOf_6 ?_
  refine lv_imul hx hb dX9_leftOf_9 ?_
  refine lv_topi (fun x3 ex3 => ?_)
  have f4 : x3.toInt = 5 * i_bank.toInt := (ob_77 (qi_mul ex3 zc_5 rfl (ob_75 im4 im5) (ob_76 im4 im5)))
  refine lv_iload_n hx hb dX9_leftOf_10 rfl (lv_at hl 1 rfl) ?_
  refine lv_iadd hx hb dX9_leftOf_11 ?_
  refine lv_topi (fun x5 ex5 => ?_)
  have f6 : x5.toInt = p0.toInt + 5 * i_bank.toInt := (ob_80 (qi_add ex5 rfl rfl (ob_78 im4 hp0 f4) (ob_79 im5 f1 hp1 f4)) f4)
  refine ldM_11 (mm := p0.toInt + 5 * i_bank.toInt) hx hb hK hP f6 (ob_81 im4 hp0) (ob_82 im5 f1 hp1) dX9_leftOf_12 ?_
  have f7 : 0 ≤ (f_many (p0.toInt + 5 * i_bank.toInt).toNat).toInt ∧ (f_many (p0.toInt + 5 * i_bank.toInt).toNat).toInt ≤ 8 := im22 (p0.toInt + 5 * i_bank.toInt)
  have f8 : 5 * i_bank.toInt ≤ p0.toInt + 5 * i_bank.toInt → p0.toInt + 5 * i_bank.toInt < 5 * i_bank.toInt + (f_tunes (i_bank.toInt).toNat).toInt → 3 ≤ (f_many (p0.toInt + 5 * i_bank.toInt).toNat).toInt := im29 (p0.toInt + 5 * i_bank.toInt)
  have f9 : (p0.toInt + 1 ≤ (f_tunes (i_bank.toInt).toNat).toInt) → (3 ≤ (f_many (p0.toInt + 5 * i_bank.toInt).toNat).toInt) := (ob_83 hp0 f8)
  have f10 : 3 ≤ (f_many (p0.toInt + 5 * i_bank.toInt).toNat).toInt := (ob_84 hp0 hp1 f8)
  refine lv_aload_n hx hb dX9_leftOf_13 rfl (lv_at hl 0 rfl) ?_
  refine gM_X9_88_0 hx hb hG hown hK hP dX9_leftOf_14 ?_
  refine lv_bipush (v := 10) hx hb dX9_leftOf_17 (by decide) ?_
  refine lv_iload_n hx hb dX9_leftOf_19 rfl (lv_at hl 1 rfl) ?_
  refine lv_iadd hx hb dX9_leftOf_20 ?_
  refine lv_topi (fun x11 ex11 => ?_)
  have f12 : x11.toInt = p0.toInt + 10 := (ob_87 (qi_add ex11 zc_10 rfl (ob_85 hp0 hp1) (ob_86 f1 hp1)))
  refine ldM_25 (mm := p0.toInt + 10) hx hb hK hP f12 (ob_88 hp0 hp1) (ob_89 f1 hp1) dX9_leftOf_21 ?_
  have f13 : 0 ≤ (f_all (p0.toInt + 10).toNat).toInt ∧ (f_all (p0.toInt + 10).toNat).toInt ≤ 99 := im25 (p0.toInt + 10) (ob_88 hp0 hp1) (ob_90 f1 hp0 hp1 f7 f10) (ob_91 f1 hp0 hp1 f7 f10)
  refine lv_isub hx hb dX9_leftOf_22 ?_
  refine lv_topi (fun x14 ex14 => ?_)
  have f15 : x14.toInt = -1 * (f_all (p0.toInt + 10).toNat).toInt + (f_many (p0.toInt + 5 * i_bank.toInt).toNat).toInt := (ob_94 (qi_sub ex14 rfl rfl (ob_92 f7 f10 f13) (ob_93 f7 f10 f13)))
  refine lv_iconst (v := 3) hx hb dX9_leftOf_23 (by decide) ?_
  refine lv_bipush (v := 8) hx hb dX9_leftOf_24 (by decide) ?_
  refine va_calli (va_runS (As := [.int x14, .int 3, .int 8]) (rest := []) ⟨hx, hb, hml, hown, hG⟩ (kX9_held l dC dI x14 3 8 s.heap.size) (va_cwS 3 hG (goodS gw1527 gw1528 gw138 gw1529) rfl rfl rfl hd_X9_held ⟨(Nat.le_of_ble_eq_true rfl), (Nat.le_of_ble_eq_true rfl)⟩) ⟨fbR, pR_in emptyP (emptyK hK)⟩ rfl rfl hl.1 rfl (lv_room (Nat.le_of_ble_eq_true rfl)) dX9_leftOf_26 ⟨(Nat.le_of_ble_eq_true rfl), (Nat.le_of_ble_eq_true rfl)⟩) hS (fun q hq h => absurd hq (Nat.not_lt.mpr h)) (fun q h => Nat.le_trans hS.1 h) (fun r_17 u_ t_ H16 locs ht hvm hw hB hz1 hk1 hS => ?_)
  subst hw
  have hP := wk hP hk1
  have f18 := hB
  rw [hQ]
  exact W.iret (v := r_17) hx hb hr (fun t ht hW => ⟨⟨r_17, r_17, rfl, rfl, ⟨(ob_95 f7 f10), (ob_96 f7 f10), (ob_97 f13), (ob_98 f13), (ob_99 f18 zc_8 f15 zc_3), (ob_100 f18 zc_8 f15 zc_3), (ob_101 f7 f13 f18 zc_8 f15 zc_3)⟩⟩, hS.F ht⟩) hS.2.2 dX9_leftOf_29
set_option maxHeartbeats 4000000 in
set_option maxRecDepth 100000 in
theorem kX9_priceOf (l : Launch) (dC : Nat → ClassId) (dI : Nat → Nat → Nat) (r : Nat → Nat) (ct : Nat → ClassId) (i_taped i_size i_faultKind i_at i_end i_token i_number i_bank i_rb i_codes i_within i_piled i_unitsInRule i_askHouse i_askTune i_acts i_undone i_laid i_knowns i_time : Int32) (f_text f_tunes f_houses f_hums f_told f_many f_ruleFrom f_ruleTo f_code f_eWhat f_eSign f_all f_kept f_was f_sTune f_boxAll : Nat → Int32) (J : Nat → Nat → Int32) (L : Nat → Nat → Int64) (p0 : Int32) (sz : Nat) (hI : (IM i_taped i_size i_at i_end i_bank i_rb i_acts i_undone i_laid i_knowns i_time f_tunes f_houses f_hums f_told f_many f_ruleFrom f_ruleTo f_code f_all f_kept f_was f_sTune f_boxAll)) (hp0 : 0 ≤ p0.toInt) (hp1 : p0.toInt + 1 ≤ (f_tunes (i_bank.toInt).toNat).toInt) : Met l yX9_priceOf (.code yX9_priceOf cX9_priceOf 2 (some .int) :: GW) { frames := 2, cells := 0, slots := 0, locals := 100 } (va_Pc [.ref (r 0), .int p0] (pR (dC, dI) (WM r ct i_taped i_size i_faultKind i_at i_end i_token i_number i_bank i_rb i_codes i_within i_piled i_unitsInRule i_askHouse i_askTune i_acts i_undone i_laid i_knowns i_time f_text f_tunes f_houses f_hums f_told f_many f_ruleFrom f_ruleTo f_code f_eWhat f_eSign f_all f_kept f_was f_sTune f_boxAll J L) (TM ct) sz)) (va_Qi (fun (r0 : Int32) (u : Int32) => r0 = u) (fun (u : Int32) (t : State) => True) (fun q => sz ≤ q)) 0 0 (fun q => sz ≤ q) := by
  refine Met.ofW (cc := cX9_priceOf) (maxL := 2) (ret := (some .int)) (by decide) rfl ?_
  intro p e s m args below meth c0 s₁ B hml hv
  obtain ⟨rfl, hsz, hP, hK⟩ := hv
  have hx := B.exec
  have hb := B.bytes
  have hr := B.returns
  have hts := atoms_spec (ws := .code yX9_priceOf cX9_priceOf 2 (some .int) :: GW) B.pre
  have hG : ∀ w ∈ GW, w.before _ s = true := fun w h => hts w (List.mem_cons_of_mem _ h)
  have hown : s.vm.findClass RX9 = some m.cls := findClass_of_methodNamed B.named
  subst hsz
  have hS : va_S (fun q => s.heap.size ≤ q) s.heap s.heap [] := va_S.rf
  have hP : va_P (dC, dI) vwCl (WM r ct i_taped i_size i_faultKind i_at i_end i_token i_number i_bank i_rb i_codes i_within i_piled i_unitsInRule i_askHouse i_askTune i_acts i_undone i_laid i_knowns i_time f_text f_tunes f_houses f_hums f_told f_many f_ruleFrom f_ruleTo f_code f_eWhat f_eSign f_all f_kept f_was f_sTune f_boxAll J L) s.heap := hP
  have hl := lv_entry ([.ref (r 0), .int p0]) (n := 2) (Nat.le_of_ble_eq_true rfl)
  rw [lg_entry_eq]
  generalize (lg_sl ([.ref (r 0), .int p0]) ++ List.replicate (2 - (lg_sl ([.ref (r 0), .int p0])).length) Slot.unset).toArray = ls at hl ⊢
  have hl : lv_has ls 2 [(0, .ref (r 0)), (1, .int p0)] := hl
  refine nameQ (fun Q hQ => ?_)
  obtain ⟨im0, im1, im2, im3, im4, im5, im6, im7, im8, im9, im10, im11, im12, im13, im14, im15, im16, im17, im18, im19, im20, im21, im22, im23, im24, im25, im26, im27, im28, im29, im30⟩ := id hI
  have f1 : 0 ≤ (f_tunes (i_bank.toInt).toNat).toInt ∧ (f_tunes (i_bank.toInt).toNat).toInt ≤ 5 := im20 (i_bank.toInt)
  have f2 : 0 ≤ (f_houses (i_bank.toInt).toNat).toInt ∧ (f_houses (i_bank.toInt).toNat).toInt ≤ 4 := im21 (i_bank.toInt)
  refine lv_aload_n hx hb dX9_priceOf_0 rfl (lv_at hl 0 rfl) ?_
  refine gM_X9_42_0 hx hb hG hown hK hP dX9_priceOf_1 ?_
  refine lv_iconst (v := 5) hx hb dX9_priceOf_4 (by decide) ?_
  refine lv_aload_n hx hb dX9_priceOf_5 rfl (lv_at hl 0 rfl) ?_
  refine gM_X9_249_0 hx hb hG hown hK hP dX9_priceOf_6 ?_
  refine lv_imul hx hb dX9_priceOf_9 ?_
  refine lv_topi (fun x3 ex3 => ?_)
  have f4 : x3.toInt = 5 * i_bank.toInt := (ob_77 (qi_mul ex3 zc_5 rfl (ob_75 im4 im5) (ob_76 im4 im5)))
  refine lv_iload_n hx hb dX9_priceOf_10 rfl (lv_at hl 1 rfl) ?_
  refine lv_iadd hx hb dX9_priceOf_11 ?_
  refine lv_topi (fun x5 ex5 => ?_)
  have f6 : x5.toInt = p0.toInt + 5 * i_bank.toInt := (ob_80 (qi_add ex5 rfl rfl (ob_78 im4 hp0 f4) (ob_79 im5 f1 hp1 f4)) f4)
  refine ldM_10 (mm := p0.toInt + 5 * i_bank.toInt) hx hb hK hP f6 (ob_81 im4 hp0) (ob_82 im5 f1 hp1) dX9_priceOf_12 (fun x7 => ?_)
  rw [hQ]
  exact W.iret (v := x7) hx hb hr (fun t ht hW => ⟨⟨x7, x7, rfl, rfl, trivial⟩, hS.F ht⟩) hS.2.2 dX9_priceOf_13
set_option maxHeartbeats 4000000 in
set_option maxRecDepth 100000 in
theorem kX9_noteOf (l : Launch) (dC : Nat → ClassId) (dI : Nat → Nat → Nat) (r : Nat → Nat) (ct : Nat → ClassId) (i_taped i_size i_faultKind i_at i_end i_token i_number i_bank i_rb i_codes i_within i_piled i_unitsInRule i_askHouse i_askTune i_acts i_undone i_laid i_knowns i_time : Int32) (f_text f_tunes f_houses f_hums f_told f_many f_ruleFrom f_ruleTo f_code f_eWhat f_eSign f_all f_kept f_was f_sTune f_boxAll : Nat → Int32) (J : Nat → Nat → Int32) (L : Nat → Nat → Int64) (p0 p1 : Int32) (sz : Nat) (hI : (IM i_taped i_size i_at i_end i_bank i_rb i_acts i_undone i_laid i_knowns i_time f_tunes f_houses f_hums f_told f_many f_ruleFrom f_ruleTo f_code f_all f_kept f_was f_sTune f_boxAll)) (hp0 : 0 ≤ p0.toInt) (hp1 : p0.toInt + 1 ≤ (f_tunes (i_bank.toInt).toNat).toInt) (hp2 : 0 ≤ p1.toInt) (hp3 : (p1.toInt ≤ 2) ∨ (p1.toInt + (f_all (p0.toInt + 10).toNat).toInt + 1 ≤ (f_many (p0.toInt + 5 * i_bank.toInt).toNat).toInt)) : Met l yX9_noteOf (.code yX9_noteOf cX9_noteOf 4 (some .int) :: GW) { frames := 6, cells := 0, slots := 0, locals := 223 } (va_Pc [.ref (r 0), .int p0, .int p1] (pR (dC, dI) (WM r ct i_taped i_size i_faultKind i_at i_end i_token i_number i_bank i_rb i_codes i_within i_piled i_unitsInRule i_askHouse i_askTune i_acts i_undone i_laid i_knowns i_time f_text f_tunes f_houses f_hums f_told f_many f_ruleFrom f_ruleTo f_code f_eWhat f_eSign f_all f_kept f_was f_sTune f_boxAll J L) (TM ct) sz)) (va_Qi (fun (r0 : Int32) (u : Int32) => r0 = u) (fun (u : Int32) (t : State) => True) (fun q => sz ≤ q)) 0 0 (fun q => sz ≤ q) := by
  refine Met.ofW (cc := cX9_noteOf) (maxL := 4) (ret := (some .int)) (by decide) rfl ?_
  intro p e s m args below meth c0 s₁ B hml hv
  obtain ⟨rfl, hsz, hP, hK⟩ := hv
  have hx := B.exec
  have hb := B.bytes
  have hr := B.returns
  have hts := atoms_spec (ws := .code yX9_noteOf cX9_noteOf 4 (some .int) :: GW) B.pre
  have hG : ∀ w ∈ GW, w.before _ s = true := fun w h => hts w (List.mem_cons_of_mem _ h)
  have hown : s.vm.findClass RX9 = some m.cls := findClass_of_methodNamed B.named
  subst hsz
  have hS : va_S (fun q => s.heap.size ≤ q) s.heap s.heap [] := va_S.rf
  have hP : va_P (dC, dI) vwCl (WM r ct i_taped i_size i_faultKind i_at i_end i_token i_number i_bank i_rb i_codes i_within i_piled i_unitsInRule i_askHouse i_askTune i_acts i_undone i_laid i_knowns i_time f_text f_tunes f_houses f_hums f_told f_many f_ruleFrom f_ruleTo f_code f_eWhat f_eSign f_all f_kept f_was f_sTune f_boxAll J L) s.heap := hP
  have hl := lv_entry ([.ref (r 0), .int p0, .int p1]) (n := 4) (Nat.le_of_ble_eq_true rfl)
  rw [lg_entry_eq]
  generalize (lg_sl ([.ref (r 0), .int p0, .int p1]) ++ List.replicate (4 - (lg_sl ([.ref (r 0), .int p0, .int p1])).length) Slot.unset).toArray = ls at hl ⊢
  have hl : lv_has ls 4 [(0, .ref (r 0)), (1, .int p0), (2, .int p1)] := hl
  refine nameQ (fun Q hQ => ?_)
  obtain ⟨im0, im1, im2, im3, im4, im5, im6, im7, im8, im9, im10, im11, im12, im13, im14, im15, im16, im17, im18, im19, im20, im21, im22, im23, im24, im25, im26, im27, im28, im29, im30⟩ := id hI
  have f1 : 0 ≤ (f_tunes (i_bank.toInt).toNat).toInt ∧ (f_tunes (i_bank.toInt).toNat).toInt ≤ 5 := im20 (i_bank.toInt)
  have f2 : 0 ≤ (f_houses (i_bank.toInt).toNat).toInt ∧ (f_houses (i_bank.toInt).toNat).toInt ≤ 4 := im21 (i_bank.toInt)
  have f3 : 0 ≤ (f_many (p0.toInt + 5 * i_bank.toInt).toNat).toInt ∧ (f_many (p0.toInt + 5 * i_bank.toInt).toNat).toInt ≤ 8 := im22 (p0.toInt + 5 * i_bank.toInt)
  have f4 : 5 * i_bank.toInt ≤ p0.toInt + 5 * i_bank.toInt → p0.toInt + 5 * i_bank.toInt < 5 * i_bank.toInt + (f_tunes (i_bank.toInt).toNat).toInt → 3 ≤ (f_many (p0.toInt + 5 * i_bank.toInt).toNat).toInt := im29 (p0.toInt + 5 * i_bank.toInt)
  have f5 : (p0.toInt + 1 ≤ (f_tunes (i_bank.toInt).toNat).toInt) → (3 ≤ (f_many (p0.toInt + 5 * i_bank.toInt).toNat).toInt) := (ob_83 hp0 f4)
  have f6 : 3 ≤ (f_many (p0.toInt + 5 * i_bank.toInt).toNat).toInt := (ob_84 hp0 hp1 f4)
  have f7 : 0 ≤ (f_all (p0.toInt + 10).toNat).toInt ∧ (f_all (p0.toInt + 10).toNat).toInt ≤ 99 := im25 (p0.toInt + 10) (ob_88 hp0 hp1) (ob_90 f1 hp0 hp1 f3 f6) (ob_91 f1 hp0 hp1 f3 f6)
  refine lv_iconst (v := 5) hx hb dX9_noteOf_0 (by decide) ?_
  refine lv_aload_n hx hb dX9_noteOf_1 rfl (lv_at hl 0 rfl) ?_
  refine gM_X9_249_0 hx hb hG hown hK hP dX9_noteOf_2 ?_
  refine lv_imul hx hb dX9_noteOf_5 ?_
  refine lv_topi (fun x8 ex8 => ?_)
  have f9 : x8.toInt = 5 * i_bank.toInt := (ob_77 (qi_mul ex8 zc_5 rfl (ob_75 im4 im5) (ob_76 im4 im5)))
  refine lv_iload_n hx hb dX9_noteOf_6 rfl (lv_at hl 1 rfl) ?_
  refine lv_iadd hx hb dX9_noteOf_7 ?_
  refine lv_topi (fun x10 ex10 => ?_)
  have f11 : x10.toInt = p0.toInt + 5 * i_bank.toInt := (ob_80 (qi_add ex10 rfl rfl (ob_78 im4 hp0 f9) (ob_79 im5 f1 hp1 f9)) f9)
  refine lv_istore_n (lv' := [(3, .int x10), (0, .ref (r 0)), (1, .int p0), (2, .int p1)]) hx hb dX9_noteOf_8 rfl hl (by decide) rfl (fun ls hl => ?_)
  refine lv_aload_n hx hb dX9_noteOf_9 rfl (lv_at hl 1 rfl) ?_
  refine gM_X9_48_0 hx hb hG hown hK hP dX9_noteOf_10 ?_
  refine lv_bipush (v := 8) hx hb dX9_noteOf_13 (by decide) ?_
  refine lv_iload_n hx hb dX9_noteOf_15 rfl (lv_at hl 0 rfl) ?_
  refine lv_imul hx hb dX9_noteOf_16 ?_
  refine lv_topi (fun x12 ex12 => ?_)
  have f13 : x12.toInt = 8 * p0.toInt + 40 * i_bank.toInt := (ob_104 (qi_mul ex12 zc_8 rfl (ob_102 im4 hp0 f11) (ob_103 im5 f1 hp1 f11)) f11)
  refine lv_aload_n hx hb dX9_noteOf_17 rfl (lv_at hl 1 rfl) ?_
  refine gM_X9_45_0 hx hb hG hown hK hP dX9_noteOf_18 ?_
  refine lv_iload_n hx hb dX9_noteOf_21 rfl (lv_at hl 0 rfl) ?_
  refine ldM_11 (mm := p0.toInt + 5 * i_bank.toInt) hx hb hK hP f11 (ob_81 im4 hp0) (ob_82 im5 f1 hp1) dX9_noteOf_22 ?_
  refine lv_iadd hx hb dX9_noteOf_23 ?_
  refine lv_topi (fun x14 ex14 => ?_)
  have f15 : x14.toInt = (f_many (p0.toInt + 5 * i_bank.toInt).toNat).toInt + 8 * p0.toInt + 40 * i_bank.toInt := (ob_107 (qi_add ex14 rfl rfl (ob_105 im4 hp0 f3 f13) (ob_106 im5 f1 hp1 f3 f13)) f13)
  refine lv_aload_n hx hb dX9_noteOf_24 rfl (lv_at hl 1 rfl) ?_
  refine lv_iload_n hx hb dX9_noteOf_25 rfl (lv_at hl 2 rfl) ?_
  refine va_calli (va_runV (As := [.int p0]) (rest := [.int x14, .ref (r 12)]) ⟨hx, hb, hml, hown, hG⟩ (kX9_leftOf l dC dI r ct i_taped i_size i_faultKind i_at i_end i_token i_number i_bank i_rb i_codes i_within i_piled i_unitsInRule i_askHouse i_askTune i_acts i_undone i_laid i_knowns i_time f_text f_tunes f_houses f_hums f_told f_many f_ruleFrom f_ruleTo f_code f_eWhat f_eSign f_all f_kept f_was f_sTune f_boxAll J L p0 s.heap.size hI (ob_108 hp0 hp1) (ob_109 f1 hp0 hp1)) (cwV 1 hG (goodV gw1523 gw1525 gw88 gw138 gw1526) rfl rfl rfl hd_X9_leftOf ⟨(Nat.le_of_ble_eq_true rfl), (Nat.le_of_ble_eq_true rfl)⟩) ⟨fbR, va_recv hK hP (ci := 8) (q0 := 0) rfl rfl, pR_in hP hK⟩ rfl rfl hl.1 rfl (lv_room (Nat.le_of_ble_eq_true rfl)) dX9_noteOf_26 ⟨(Nat.le_of_ble_eq_true rfl), (Nat.le_of_ble_eq_true rfl)⟩) hS (fun q hq h => absurd hq (Nat.not_lt.mpr h)) (fun q h => Nat.le_trans hS.1 h) (fun r_17 u_ t_ H16 locs ht hvm hw hB hz1 hk1 hS => ?_)
  subst hw
  have hP := wk hP hk1
  obtain ⟨f18, f19, f20, f21, f22, f23, f24⟩ := hB
  refine lv_isub hx hb dX9_noteOf_29 ?_
  refine lv_topi (fun x25 ex25 => ?_)
  have f26 : x25.toInt = (f_many (p0.toInt + 5 * i_bank.toInt).toNat).toInt + -1 * r_17.toInt + 8 * p0.toInt + 40 * i_bank.toInt := (ob_112 (qi_sub ex25 rfl rfl (ob_110 im4 hp0 f3 f23 f15) (ob_111 im5 f1 hp1 f3 f22 f15)) f15)
  refine lv_iload_n hx hb dX9_noteOf_30 rfl (lv_at hl 3 rfl) ?_
  refine lv_iadd hx hb dX9_noteOf_31 ?_
  refine lv_topi (fun x27 ex27 => ?_)
  have f28 : x27.toInt = (f_many (p0.toInt + 5 * i_bank.toInt).toNat).toInt + p1.toInt + -1 * r_17.toInt + 8 * p0.toInt + 40 * i_bank.toInt := (ob_115 (qi_add ex27 rfl rfl (ob_113 im4 hp0 hp2 f3 f23 f26) (ob_114 im5 f1 hp1 hp3 f3 f7 f22 f26)) f26)
  refine ldM_12 (mm := (f_many (p0.toInt + 5 * i_bank.toInt).toNat).toInt + p1.toInt + -1 * r_17.toInt + 8 * p0.toInt + 40 * i_bank.toInt) hx hb hK hP f28 (ob_116 im4 hp0 hp1 hp2 f4 f7 f24) (ob_117 im5 f1 hp1 hp3 f3 f22 f24) dX9_noteOf_32 (fun x29 => ?_)
  rw [hQ]
  exact W.iret (v := x29) hx hb hr (fun t ht hW => ⟨⟨x29, x29, rfl, rfl, trivial⟩, hS.F ht⟩) hS.2.2 dX9_noteOf_33
set_option maxHeartbeats 4000000 in
set_option maxRecDepth 100000 in
theorem kX9_likesOf (l : Launch) (dC : Nat → ClassId) (dI : Nat → Nat → Nat) (r : Nat → Nat) (ct : Nat → ClassId) (i_taped i_size i_faultKind i_at i_end i_token i_number i_bank i_rb i_codes i_within i_piled i_unitsInRule i_askHouse i_askTune i_acts i_undone i_laid i_knowns i_time : Int32) (f_text f_tunes f_houses f_hums f_told f_many f_ruleFrom f_ruleTo f_code f_eWhat f_eSign f_all f_kept f_was f_sTune f_boxAll : Nat → Int32) (J : Nat → Nat → Int32) (L : Nat → Nat → Int64) (p0 p1 : Int32) (sz : Nat) (hI : (IM i_taped i_size i_at i_end i_bank i_rb i_acts i_undone i_laid i_knowns i_time f_tunes f_houses f_hums f_told f_many f_ruleFrom f_ruleTo f_code f_all f_kept f_was f_sTune f_boxAll)) (hp0 : 0 ≤ p0.toInt) (hp1 : p0.toInt + 1 ≤ (f_houses (i_bank.toInt).toNat).toInt) (hp2 : 0 ≤ p1.toInt) (hp3 : p1.toInt ≤ 2) : Met l yX9_likesOf (.code yX9_likesOf cX9_likesOf 3 (some .int) :: GW) { frames := 2, cells := 0, slots := 0, locals := 100 } (va_Pc [.ref (r 0), .int p0, .int p1] (pR (dC, dI) (WM r ct i_taped i_size i_faultKind i_at i_end i_token i_number i_bank i_rb i_codes i_within i_piled i_unitsInRule i_askHouse i_askTune i_acts i_undone i_laid i_knowns i_time f_text f_tunes f_houses f_hums f_told f_many f_ruleFrom f_ruleTo f_code f_eWhat f_eSign f_all f_kept f_was f_sTune f_boxAll J L) (TM ct) sz)) (va_Qi (fun (r0 : Int32) (u : Int32) => r0 = u) (fun (u : Int32) (t : State) => True) (fun q => sz ≤ q)) 0 0 (fun q => sz ≤ q) := by
  refine Met.ofW (cc := cX9_likesOf) (maxL := 3) (ret := (some .int)) (by decide) rfl ?_
  intro p e s m args below meth c0 s₁ B hml hv
  obtain ⟨rfl, hsz, hP, hK⟩ := hv
  have hx := B.exec
  have hb := B.bytes
  have hr := B.returns
  have hts := atoms_spec (ws := .code yX9_likesOf cX9_likesOf 3 (some .int) :: GW) B.pre
  have hG : ∀ w ∈ GW, w.before _ s = true := fun w h => hts w (List.mem_cons_of_mem _ h)
  have hown : s.vm.findClass RX9 = some m.cls := findClass_of_methodNamed B.named
  subst hsz
  have hS : va_S (fun q => s.heap.size ≤ q) s.heap s.heap [] := va_S.rf
  have hP : va_P (dC, dI) vwCl (WM r ct i_taped i_size i_faultKind i_at i_end i_token i_number i_bank i_rb i_codes i_within i_piled i_unitsInRule i_askHouse i_askTune i_acts i_undone i_laid i_knowns i_time f_text f_tunes f_houses f_hums f_told f_many f_ruleFrom f_ruleTo f_code f_eWhat f_eSign f_all f_kept f_was f_sTune f_boxAll J L) s.heap := hP
  have hl := lv_entry ([.ref (r 0), .int p0, .int p1]) (n := 3) (Nat.le_of_ble_eq_true rfl)
  rw [lg_entry_eq]
  generalize (lg_sl ([.ref (r 0), .int p0, .int p1]) ++ List.replicate (3 - (lg_sl ([.ref (r 0), .int p0, .int p1])).length) Slot.unset).toArray = ls at hl ⊢
  have hl : lv_has ls 3 [(0, .ref (r 0)), (1, .int p0), (2, .int p1)] := hl
  refine nameQ (fun Q hQ => ?_)
  obtain ⟨im0, im1, im2, im3, im4, im5, im6, im7, im8, im9, im10, im11, im12, im13, im14, im15, im16, im17, im18, im19, im20, im21, im22, im23, im24, im25, im26, im27, im28, im29, im30⟩ := id hI
  have f1 : 0 ≤ (f_tunes (i_bank.toInt).toNat).toInt ∧ (f_tunes (i_bank.toInt).toNat).toInt ≤ 5 := im20 (i_bank.toInt)
  have f2 : 0 ≤ (f_houses (i_bank.toInt).toNat).toInt ∧ (f_houses (i_bank.toInt).toNat).toInt ≤ 4 := im21 (i_bank.toInt)
  refine lv_aload_n hx hb dX9_likesOf_0 rfl (lv_at hl 0 rfl) ?_
  refine gM_X9_57_0 hx hb hG hown hK hP dX9_likesOf_1 ?_
  refine lv_iconst (v := 3) hx hb dX9_likesOf_4 (by decide) ?_
  refine lv_iconst (v := 4) hx hb dX9_likesOf_5 (by decide) ?_
  refine lv_aload_n hx hb dX9_likesOf_6 rfl (lv_at hl 0 rfl) ?_
  refine gM_X9_249_0 hx hb hG hown hK hP dX9_likesOf_7 ?_
  refine lv_imul hx hb dX9_likesOf_10 ?_
  refine lv_topi (fun x3 ex3 => ?_)
  have f4 : x3.toInt = 4 * i_bank.toInt := (ob_120 (qi_mul ex3 zc_4 rfl (ob_118 im4 im5) (ob_119 im4 im5)))
  refine lv_iload_n hx hb dX9_likesOf_11 rfl (lv_at hl 1 rfl) ?_
  refine lv_iadd hx hb dX9_likesOf_12 ?_
  refine lv_topi (fun x5 ex5 => ?_)
  have f6 : x5.toInt = p0.toInt + 4 * i_bank.toInt := (ob_123 (qi_add ex5 rfl rfl (ob_121 im4 hp0 f4) (ob_122 im5 f2 hp1 f4)) f4)
  refine lv_imul hx hb dX9_likesOf_13 ?_
  refine lv_topi (fun x7 ex7 => ?_)
  have f8 : x7.toInt = 3 * p0.toInt + 12 * i_bank.toInt := (ob_126 (qi_mul ex7 zc_3 rfl (ob_124 im4 hp0 f6) (ob_125 im5 f2 hp1 f6)) f6)
  refine lv_iload_n hx hb dX9_likesOf_14 rfl (lv_at hl 2 rfl) ?_
  refine lv_iadd hx hb dX9_likesOf_15 ?_
  refine lv_topi (fun x9 ex9 => ?_)
  have f10 : x9.toInt = p1.toInt + 3 * p0.toInt + 12 * i_bank.toInt := (ob_129 (qi_add ex9 rfl rfl (ob_127 im4 hp0 hp2 f8) (ob_128 im5 f2 hp1 hp3 f8)) f8)
  refine ldM_15 (mm := p1.toInt + 3 * p0.toInt + 12 * i_bank.toInt) hx hb hK hP f10 (ob_130 im4 hp0 hp2) (ob_131 im5 f2 hp1 hp3) dX9_likesOf_16 (fun x11 => ?_)
  rw [hQ]
  exact W.iret (v := x11) hx hb hr (fun t ht hW => ⟨⟨x11, x11, rfl, rfl, trivial⟩, hS.F ht⟩) hS.2.2 dX9_likesOf_17
set_option maxHeartbeats 4000000 in
set_option maxRecDepth 100000 in
theorem kX9_sameOf (l : Launch) (dC : Nat → ClassId) (dI : Nat → Nat → Nat) (r : Nat → Nat) (ct : Nat → ClassId) (i_taped i_size i_faultKind i_at i_end i_token i_number i_bank i_rb i_codes i_within i_piled i_unitsInRule i_askHouse i_askTune i_acts i_undone i_laid i_knowns i_time : Int32) (f_text f_tunes f_houses f_hums f_told f_many f_ruleFrom f_ruleTo f_code f_eWhat f_eSign f_all f_kept f_was f_sTune f_boxAll : Nat → Int32) (J : Nat → Nat → Int32) (L : Nat → Nat → Int64) (p0 p1 : Int32) (sz : Nat) (hI : (IM i_taped i_size i_at i_end i_bank i_rb i_acts i_undone i_laid i_knowns i_time f_tunes f_houses f_hums f_told f_many f_ruleFrom f_ruleTo f_code f_all f_kept f_was f_sTune f_boxAll)) (hp0 : 0 ≤ p0.toInt) (hp1 : p0.toInt + 1 ≤ (f_houses (i_bank.toInt).toNat).toInt) (hp2 : 0 ≤ p1.toInt) (hp3 : p1.toInt + 1 ≤ (f_tunes (i_bank.toInt).toNat).toInt) : Met l yX9_sameOf (.code yX9_sameOf cX9_sameOf 6 (some .int) :: GW) { frames := 8, cells := 0, slots := 0, locals := 286 } (va_Pc [.ref (r 0), .int p0, .int p1] (pR (dC, dI) (WM r ct i_taped i_size i_faultKind i_at i_end i_token i_number i_bank i_rb i_codes i_within i_piled i_unitsInRule i_askHouse i_askTune i_acts i_undone i_laid i_knowns i_time f_text f_tunes f_houses f_hums f_told f_many f_ruleFrom f_ruleTo f_code f_eWhat f_eSign f_all f_kept f_was f_sTune f_boxAll J L) (TM ct) sz)) (va_Qi (fun (r0 : Int32) (u : Int32) => r0 = u) (fun (u : Int32) (t : State) => True) (fun q => sz ≤ q)) 0 0 (fun q => sz ≤ q) := by
  refine Met.ofW (cc := cX9_sameOf) (maxL := 6) (ret := (some .int)) (by decide) rfl ?_
  intro p e s m args below meth c0 s₁ B hml hv
  obtain ⟨rfl, hsz, hP, hK⟩ := hv
  have hx := B.exec
  have hb := B.bytes
  have hr := B.returns
  have hts := atoms_spec (ws := .code yX9_sameOf cX9_sameOf 6 (some .int) :: GW) B.pre
  have hG : ∀ w ∈ GW, w.before _ s = true := fun w h => hts w (List.mem_cons_of_mem _ h)
  have hown : s.vm.findClass RX9 = some m.cls := findClass_of_methodNamed B.named
  subst hsz
  have hS : va_S (fun q => s.heap.size ≤ q) s.heap s.heap [] := va_S.rf
  have hP : va_P (dC, dI) vwCl (WM r ct i_taped i_size i_faultKind i_at i_end i_token i_number i_bank i_rb i_codes i_within i_piled i_unitsInRule i_askHouse i_askTune i_acts i_undone i_laid i_knowns i_time f_text f_tunes f_houses f_hums f_told f_many f_ruleFrom f_ruleTo f_code f_eWhat f_eSign f_all f_kept f_was f_sTune f_boxAll J L) s.heap := hP
  have hl := lv_entry ([.ref (r 0), .int p0, .int p1]) (n := 6) (Nat.le_of_ble_eq_true rfl)
  rw [lg_entry_eq]
  generalize (lg_sl ([.ref (r 0), .int p0, .int p1]) ++ List.replicate (6 - (lg_sl ([.ref (r 0), .int p0, .int p1])).length) Slot.unset).toArray = ls at hl ⊢
  have hl : lv_has ls 6 [(0, .ref (r 0)), (1, .int p0), (2, .int p1)] := hl
  refine nameQ (fun Q hQ => ?_)
  obtain ⟨im0, im1, im2, im3, im4, im5, im6, im7, im8, im9, im10, im11, im12, im13, im14, im15, im16, im17, im18, im19, im20, im21, im22, im23, im24, im25, im26, im27, im28, im29, im30⟩ := id hI
  have f1 : 0 ≤ (f_tunes (i_bank.toInt).toNat).toInt ∧ (f_tunes (i_bank.toInt).toNat).toInt ≤ 5 := im20 (i_bank.toInt)
  have f2 : 0 ≤ (f_houses (i_bank.toInt).toNat).toInt ∧ (f_houses (i_bank.toInt).toNat).toInt ≤ 4 := im21 (i_bank.toInt)
  refine lv_iconst (v := 0) hx hb dX9_sameOf_0 (by decide) ?_
  refine lv_istore_n (lv' := [(3, .int 0), (0, .ref (r 0)), (1, .int p0), (2, .int p1)]) hx hb dX9_sameOf_1 rfl hl (by decide) rfl (fun ls hl => ?_)
  refine lv_iconst (v := 0) hx hb dX9_sameOf_2 (by decide) ?_
  refine lv_istore (lv' := [(4, .int 0), (3, .int 0), (0, .ref (r 0)), (1, .int p0), (2, .int p1)]) hx hb dX9_sameOf_3 hl (by decide) rfl (fun ls hl => ?_)
  have L5 : ∀ (N5 : Nat) (y5_3 y5_4 : Int32) (H5 : Heap) (locs : List Loc) (ls : Array Slot) (g5_0 : 0 ≤ y5_4.toInt) (g5_1 : y5_4.toInt ≤ 8) (hP : va_P (dC, dI) vwCl (WM r ct i_taped i_size i_faultKind i_at i_end i_token i_number i_bank i_rb i_codes i_within i_piled i_unitsInRule i_askHouse i_askTune i_acts i_undone i_laid i_knowns i_time f_text f_tunes f_houses f_hums f_told f_many f_ruleFrom f_ruleTo f_code f_eWhat f_eSign f_all f_kept f_was f_sTune f_boxAll J L) H5) (hS : va_S (fun q => s.heap.size ≤ q) s.heap H5 locs) (hl : lv_has ls 6 [(0, .ref (r 0)), (1, .int p0), (2, .int p1), (3, .int y5_3), (4, .int y5_4)]) (hM : -1 * y5_4.toInt + 8 < (N5 : Int)), W p l e { frames := 8, cells := 0, slots := 0, locals := 286 } s m ([.ref (r 0), .int p0, .int p1] : List Value).toArray below meth c0 H5 locs 0 0 Q (F0 m 5 ls []) := by
    intro N5
    induction N5 with
    | zero =>
      intro y5_3 y5_4 H5 locs ls g5_0 g5_1 hP hS hl hM
      exact ((ob_132 hM g5_0 g5_1)).elim
    | succ N5 ih5 =>
      intro y5_3 y5_4 H5 locs ls g5_0 g5_1 hP hS hl hM
      have hM5 := msucc hM
      refine lv_iload hx hb dX9_sameOf_5 (lv_at hl 4 rfl) ?_
      refine lv_aload_n hx hb dX9_sameOf_7 rfl (lv_at hl 0 rfl) ?_
      refine lv_iload_n hx hb dX9_sameOf_8 rfl (lv_at hl 2 rfl) ?_
      refine va_calli (va_runV (As := [.int p1]) (rest := [.int y5_4]) ⟨hx, hb, hml, hown, hG⟩ (kX9_leftOf l dC dI r ct i_taped i_size i_faultKind i_at i_end i_token i_number i_bank i_rb i_codes i_within i_piled i_unitsInRule i_askHouse i_askTune i_acts i_undone i_laid i_knowns i_time f_text f_tunes f_houses f_hums f_told f_many f_ruleFrom f_ruleTo f_code f_eWhat f_eSign f_all f_kept f_was f_sTune f_boxAll J L p1 H5.size hI (ob_108 hp2 hp3) (ob_109 f1 hp2 hp3)) (cwV 1 hG (goodV gw1523 gw1525 gw88 gw138 gw1526) rfl rfl rfl hd_X9_leftOf ⟨(Nat.le_of_ble_eq_true rfl), (Nat.le_of_ble_eq_true rfl)⟩) ⟨fbR, va_recv hK hP (ci := 8) (q0 := 0) rfl rfl, pR_in hP hK⟩ rfl rfl hl.1 rfl (lv_room (Nat.le_of_ble_eq_true rfl)) dX9_sameOf_9 ⟨(Nat.le_of_ble_eq_true rfl), (Nat.le_of_ble_eq_true rfl)⟩) hS (fun q hq h => absurd hq (Nat.not_lt.mpr h)) (fun q h => Nat.le_trans hS.1 h) (fun r_4 u_ t_ H3 locs ht hvm hw hB hz1 hk1 hS => ?_)
      subst hw
      have hP := wk hP hk1
      obtain ⟨f5, f6, f7, f8, f9, f10, f11⟩ := hB
      refine lv_icmp_ge (tgt := 71) hx hb dX9_sameOf_12 (by decide) (fun c_12 => ?_) (fun c_12 => ?_)
      · skip
        have f13 : r_4.toInt ≤ y5_4.toInt := qi_le c_12 rfl rfl
        refine lv_iload_n hx hb dX9_sameOf_71 rfl (lv_at hl 3 rfl) ?_
        rw [hQ]
        exact W.iret (v := y5_3) hx hb hr (fun t ht hW => ⟨⟨y5_3, y5_3, rfl, rfl, trivial⟩, hS.F ht⟩) hS.2.2 dX9_sameOf_72
      · skip
        have f14 : y5_4.toInt < r_4.toInt := qi_nle c_12 rfl rfl
        refine lv_aload_n hx hb dX9_sameOf_15 rfl (lv_at hl 0 rfl) ?_
        refine lv_iload_n hx hb dX9_sameOf_16 rfl (lv_at hl 2 rfl) ?_
        refine lv_iload hx hb dX9_sameOf_17 (lv_at hl 4 rfl) ?_
        refine va_calli (va_runV (As := [.int p1, .int y5_4]) (rest := []) ⟨hx, hb, hml, hown, hG⟩ (kX9_noteOf l dC dI r ct i_taped i_size i_faultKind i_at i_end i_token i_number i_bank i_rb i_codes i_within i_piled i_unitsInRule i_askHouse i_askTune i_acts i_undone i_laid i_knowns i_time f_text f_tunes f_houses f_hums f_told f_many f_ruleFrom f_ruleTo f_code f_eWhat f_eSign f_all f_kept f_was f_sTune f_boxAll J L p1 y5_4 H3.size hI (ob_108 hp2 hp3) (ob_109 f1 hp2 hp3) (ob_133 g5_0) (ob_134 f11 f14)) (cwV 2 hG (goodV gw1534 gw1536 gw89 gw138 gw1537) rfl rfl rfl hd_X9_noteOf ⟨(Nat.le_of_ble_eq_true rfl), (Nat.le_of_ble_eq_true rfl)⟩) ⟨fbR, va_recv hK hP (ci := 8) (q0 := 0) rfl rfl, pR_in hP hK⟩ rfl rfl hl.1 rfl (lv_room (Nat.le_of_ble_eq_true rfl)) dX9_sameOf_19 ⟨(Nat.le_of_ble_eq_true rfl), (Nat.le_of_ble_eq_true rfl)⟩) hS (fun q hq h => absurd hq (Nat.not_lt.mpr h)) (fun q h => Nat.le_trans hS.1 h) (fun r_16 u_ t_ H15 locs ht hvm hw hB hz1 hk1 hS => ?_)
        subst hw
        have hP := wk hP hk1
        refine lv_istore (lv' := [(5, .int r_16), (0, .ref (r 0)), (1, .int p0), (2, .int p1), (3, .int y5_3), (4, .int y5_4)]) hx hb dX9_sameOf_22 hl (by decide) rfl (fun ls hl => ?_)
        refine lv_iload_n hx hb dX9_sameOf_24 rfl (lv_at hl 4 rfl) ?_
        refine lv_iload hx hb dX9_sameOf_25 (lv_at hl 0 rfl) ?_
        refine lv_aload_n hx hb dX9_sameOf_27 rfl (lv_at hl 1 rfl) ?_
        refine lv_iload_n hx hb dX9_sameOf_28 rfl (lv_at hl 2 rfl) ?_
        refine lv_iconst (v := 0) hx hb dX9_sameOf_29 (by decide) ?_
        refine va_calli (va_runV (As := [.int p0, .int 0]) (rest := [.int r_16, .int y5_3]) ⟨hx, hb, hml, hown, hG⟩ (kX9_likesOf l dC dI r ct i_taped i_size i_faultKind i_at i_end i_token i_number i_bank i_rb i_codes i_within i_piled i_unitsInRule i_askHouse i_askTune i_acts i_undone i_laid i_knowns i_time f_text f_tunes f_houses f_hums f_told f_many f_ruleFrom f_ruleTo f_code f_eWhat f_eSign f_all f_kept f_was f_sTune f_boxAll J L p0 0 H15.size hI (ob_108 hp0 hp1) (ob_135 f2 hp0 hp1) (ob_5 zc_0) (ob_136 zc_0)) (cwV 2 hG (goodV gw1582 gw1584 gw99 gw138 gw1585) rfl rfl rfl hd_X9_likesOf ⟨(Nat.le_of_ble_eq_true rfl), (Nat.le_of_ble_eq_true rfl)⟩) ⟨fbR, va_recv hK hP (ci := 8) (q0 := 0) rfl rfl, pR_in hP hK⟩ rfl rfl hl.1 rfl (lv_room (Nat.le_of_ble_eq_true rfl)) dX9_sameOf_30 ⟨(Nat.le_of_ble_eq_true rfl), (Nat.le_of_ble_eq_true rfl)⟩) hS (fun q hq h => absurd hq (Nat.not_lt.mpr h)) (fun q h => Nat.le_trans hS.1 h) (fun r_18 u_ t_ H17 locs ht hvm hw hB hz1 hk1 hS => ?_)
        subst hw
        have hP := wk hP hk1
        refine lv_icmp_eq (tgt := 58) hx hb dX9_sameOf_33 (by decide) (fun c_19 => ?_) (fun c_19 => ?_)
        · skip
          have f20 : r_16.toInt = r_18.toInt := qi_eq c_19 rfl rfl
          refine lv_iconst (v := 1) hx hb dX9_sameOf_58 (by decide) ?_
          refine lv_goto (tgt := 63) hx hb dX9_sameOf_59 (by decide) ?_
          refine lv_iadd hx hb dX9_sameOf_63 ?_
          refine lv_topi (fun x21 ex21 => ?_)
          refine lv_istore_n (lv' := [(3, .int x21), (5, .int r_16), (0, .ref (r 0)), (1, .int p0), (2, .int p1), (4, .int y5_4)]) hx hb dX9_sameOf_64 rfl hl (by decide) rfl (fun ls hl => ?_)
          obtain ⟨x22, ex22⟩ : ∃ y : Int32, y = y5_4 + Int32.ofInt 1 := ⟨_, rfl⟩
          have f23 : x22.toInt = y5_4.toInt + 1 := (ob_139 (qi_add ex22 rfl (by decide) (ob_137 g5_0) (ob_138 g5_1)))
          refine lv_iinc (v := x22) (lv' := [(4, .int x22), (3, .int x21), (5, .int r_16), (0, .ref (r 0)), (1, .int p0), (2, .int p1)]) hx hb dX9_sameOf_65 hl (k := 5) rfl ex22.symm (by decide) rfl (fun ls hl => ?_)
          refine lv_goto (tgt := 5) hx hb dX9_sameOf_68 (by decide) ?_
          exact ih5 x21 x22 H17 _ _ (ob_140 g5_0 f23) (ob_141 f10 f14 f23) hP hS (lv_sub hl [3, 4, 5, 1, 0] rfl) (ob_142 hM5 f23)
        · skip
          have f24 : r_16.toInt ≠ r_18.toInt := qi_ne c_19 rfl rfl
          refine lv_iload hx hb dX9_sameOf_36 (lv_at hl 0 rfl) ?_
          refine lv_aload_n hx hb dX9_sameOf_38 rfl (lv_at hl 1 rfl) ?_
          refine lv_iload_n hx hb dX9_sameOf_39 rfl (lv_at hl 2 rfl) ?_
          refine lv_iconst (v := 1) hx hb dX9_sameOf_40 (by decide) ?_
          refine va_calli (va_runV (As := [.int p0, .int 1]) (rest := [.int r_16, .int y5_3]) ⟨hx, hb, hml, hown, hG⟩ (kX9_likesOf l dC dI r ct i_taped i_size i_faultKind i_at i_end i_token i_number i_bank i_rb i_codes i_within i_piled i_unitsInRule i_askHouse i_askTune i_acts i_undone i_laid i_knowns i_time f_text f_tunes f_houses f_hums f_told f_many f_ruleFrom f_ruleTo f_code f_eWhat f_eSign f_all f_kept f_was f_sTune f_boxAll J L p0 1 H17.size hI (ob_108 hp0 hp1) (ob_135 f2 hp0 hp1) (ob_9 zc_1) (ob_143 zc_1)) (cwV 2 hG (goodV gw1582 gw1584 gw99 gw138 gw1585) rfl rfl rfl hd_X9_likesOf ⟨(Nat.le_of_ble_eq_true rfl), (Nat.le_of_ble_eq_true rfl)⟩) ⟨fbR, va_recv hK hP (ci := 8) (q0 := 0) rfl rfl, pR_in hP hK⟩ rfl rfl hl.1 rfl (lv_room (Nat.le_of_ble_eq_true rfl)) dX9_sameOf_41 ⟨(Nat.le_of_ble_eq_true rfl), (Nat.le_of_ble_eq_true rfl)⟩) hS (fun q hq h => absurd hq (Nat.not_lt.mpr h)) (fun q h => Nat.le_trans hS.1 h) (fun r_26 u_ t_ H25 locs ht hvm hw hB hz1 hk1 hS => ?_)
          subst hw
          have hP := wk hP hk1
          refine lv_icmp_eq (tgt := 58) hx hb dX9_sameOf_44 (by decide) (fun c_27 => ?_) (fun c_27 => ?_)
          · skip
            have f28 : r_16.toInt = r_26.toInt := qi_eq c_27 rfl rfl
            refine lv_iconst (v := 1) hx hb dX9_sameOf_58 (by decide) ?_
            refine lv_goto (tgt := 63) hx hb dX9_sameOf_59 (by decide) ?_
            refine lv_iadd hx hb dX9_sameOf_63 ?_
            refine lv_topi (fun x29 ex29 => ?_)
            refine lv_istore_n (lv' := [(3, .int x29), (5, .int r_16), (0, .ref (r 0)), (1, .int p0), (2, .int p1), (4, .int y5_4)]) hx hb dX9_sameOf_64 rfl hl (by decide) rfl (fun ls hl => ?_)
            obtain ⟨x30, ex30⟩ : ∃ y : Int32, y = y5_4 + Int32.ofInt 1 := ⟨_, rfl⟩
            have f31 : x30.toInt = y5_4.toInt + 1 := (ob_139 (qi_add ex30 rfl (by decide) (ob_137 g5_0) (ob_138 g5_1)))
            refine lv_iinc (v := x30) (lv' := [(4, .int x30), (3, .int x29), (5, .int r_16), (0, .ref (r 0)), (1, .int p0), (2, .int p1)]) hx hb dX9_sameOf_65 hl (k := 5) rfl ex30.symm (by decide) rfl (fun ls hl => ?_)
            refine lv_goto (tgt := 5) hx hb dX9_sameOf_68 (by decide) ?_
            exact ih5 x29 x30 H25 _ _ (ob_140 g5_0 f31) (ob_141 f10 f14 f31) hP hS (lv_sub hl [3, 4, 5, 1, 0] rfl) (ob_142 hM5 f31)
          · skip
            have f32 : r_16.toInt ≠ r_26.toInt := qi_ne c_27 rfl rfl
            refine lv_iload hx hb dX9_sameOf_47 (lv_at hl 0 rfl) ?_
            refine lv_aload_n hx hb dX9_sameOf_49 rfl (lv_at hl 1 rfl) ?_
            refine lv_iload_n hx hb dX9_sameOf_50 rfl (lv_at hl 2 rfl) ?_
            refine lv_iconst (v := 2) hx hb dX9_sameOf_51 (by decide) ?_
            refine va_calli (va_runV (As := [.int p0, .int 2]) (rest := [.int r_16, .int y5_3]) ⟨hx, hb, hml, hown, hG⟩ (kX9_likesOf l dC dI r ct i_taped i_size i_faultKind i_at i_end i_token i_number i_bank i_rb i_codes i_within i_piled i_unitsInRule i_askHouse i_askTune i_acts i_undone i_laid i_knowns i_time f_text f_tunes f_houses f_hums f_told f_many f_ruleFrom f_ruleTo f_code f_eWhat f_eSign f_all f_kept f_was f_sTune f_boxAll J L p0 2 H25.size hI (ob_108 hp0 hp1) (ob_135 f2 hp0 hp1) (ob_144 zc_2) (ob_145 zc_2)) (cwV 2 hG (goodV gw1582 gw1584 gw99 gw138 gw1585) rfl rfl rfl hd_X9_likesOf ⟨(Nat.le_of_ble_eq_true rfl), (Nat.le_of_ble_eq_true rfl)⟩) ⟨fbR, va_recv hK hP (ci := 8) (q0 := 0) rfl rfl, pR_in hP hK⟩ rfl rfl hl.1 rfl (lv_room (Nat.le_of_ble_eq_true rfl)) dX9_sameOf_52 ⟨(Nat.le_of_ble_eq_true rfl), (Nat.le_of_ble_eq_true rfl)⟩) hS (fun q hq h => absurd hq (Nat.not_lt.mpr h)) (fun q h => Nat.le_trans hS.1 h) (fun r_34 u_ t_ H33 locs ht hvm hw hB hz1 hk1 hS => ?_)
            subst hw
            have hP := wk hP hk1
            refine lv_icmp_ne (tgt := 62) hx hb dX9_sameOf_55 (by decide) (fun c_35 => ?_) (fun c_35 => ?_)
            · skip
              have f36 : r_16.toInt ≠ r_34.toInt := qi_ne c_35 rfl rfl
              refine lv_iconst (v := 0) hx hb dX9_sameOf_62 (by decide) ?_
              refine lv_iadd hx hb dX9_sameOf_63 ?_
              refine lv_topi (fun x37 ex37 => ?_)
              refine lv_istore_n (lv' := [(3, .int x37), (5, .int r_16), (0, .ref (r 0)), (1, .int p0), (2, .int p1), (4, .int y5_4)]) hx hb dX9_sameOf_64 rfl hl (by decide) rfl (fun ls hl => ?_)
              obtain ⟨x38, ex38⟩ : ∃ y : Int32, y = y5_4 + Int32.ofInt 1 := ⟨_, rfl⟩
              have f39 : x38.toInt = y5_4.toInt + 1 := (ob_139 (qi_add ex38 rfl (by decide) (ob_137 g5_0) (ob_138 g5_1)))
              refine lv_iinc (v := x38) (lv' := [(4, .int x38), (3, .int x37), (5, .int r_16), (0, .ref (r 0)), (1, .int p0), (2, .int p1)]) hx hb dX9_sameOf_65 hl (k := 5) rfl ex38.symm (by decide) rfl (fun ls hl => ?_)
              refine lv_goto (tgt := 5) hx hb dX9_sameOf_68 (by decide) ?_
              exact ih5 x37 x38 H33 _ _ (ob_140 g5_0 f39) (ob_141 f10 f14 f39) hP hS (lv_sub hl [3, 4, 5, 1, 0] rfl) (ob_142 hM5 f39)
            · skip
              have f40 : r_16.toInt = r_34.toInt := qi_eq c_35 rfl rfl
              refine lv_iconst (v := 1) hx hb dX9_sameOf_58 (by decide) ?_
              refine lv_goto (tgt := 63) hx hb dX9_sameOf_59 (by decide) ?_
              refine lv_iadd hx hb dX9_sameOf_63 ?_
              refine lv_topi (fun x41 ex41 => ?_)
              refine lv_istore_n (lv' := [(3, .int x41), (5, .int r_16), (0, .ref (r 0)), (1, .int p0), (2, .int p1), (4, .int y5_4)]) hx hb dX9_sameOf_64 rfl hl (by decide) rfl (fun ls hl => ?_)
              obtain ⟨x42, ex42⟩ : ∃ y : Int32, y = y5_4 + Int32.ofInt 1 := ⟨_, rfl⟩
              have f43 : x42.toInt = y5_4.toInt + 1 := (ob_139 (qi_add ex42 rfl (by decide) (ob_137 g5_0) (ob_138 g5_1)))
              refine lv_iinc (v := x42) (lv' := [(4, .int x42), (3, .int x41), (5, .int r_16), (0, .ref (r 0)), (1, .int p0), (2, .int p1)]) hx hb dX9_sameOf_65 hl (k := 5) rfl ex42.symm (by decide) rfl (fun ls hl => ?_)
              refine lv_goto (tgt := 5) hx hb dX9_sameOf_68 (by decide) ?_
              exact ih5 x41 x42 H33 _ _ (ob_140 g5_0 f43) (ob_141 f10 f14 f43) hP hS (lv_sub hl [3, 4, 5, 1, 0] rfl) (ob_142 hM5 f43)
  exact L5 (-1 * (0 : Int32).toInt + 8 + 1).toNat 0 0 s.heap _ _ (ob_5 zc_0) (ob_146 zc_0) hP hS (lv_sub hl [2, 3, 4, 1, 0] rfl) (mlt (ob_147 zc_0))
